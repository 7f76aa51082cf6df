set_option maxHeartbeats 4000000 in
set_option maxRecDepth 100000 in
theorem k_X7_plan (l : Launch) (D : va_G) (c4 : Nat → ClassId) (A : Nat → Prop) (Ts : List va_W) (ad : Nat → Nat → Nat) (fp : Int32) (bt : Int32) (nt : Int32) (sd : Int32) (nb : Nat → Int32) (n : Nat) (os : Int32) (kd : Nat → Int32) (ic : Nat → Int32) (br : Nat → Int32) (q : Nat → Yq) (bh : Int32) (mi : Int32) (fb : Int32) (ba : Nat → Int32) (la : Nat → Nat → Nat) (lv : Nat → Option Nat) (zlc : Int32) (zlS : Int32) (zdp : Int32) (zmi : Int32) (zfo : Int32) (zax : Int32) (zco : Int32) (zth : Int32) (zpe : Int32) (zcd : Int32) (zdc : Int32) (zwc : Int32) (gn : Nat → Int32) (go : Nat → Int32) (gk : Nat → Nat → Int32) (gi : Nat → Nat → Int32) (gb : Nat → Nat → Int32) (k : Int32) (t : Int32) (c : Int32) (v : Int32) (hn : n ≤ 12) (hY : yR q n os kd ic br) (htl : tlOk nb) (hlv : ∀ k, k < 9 → lv k = some (la k 0)) : Ci l yX7_plan wsX7_plan 12 336 [.ref ((ad 0) 0), .int k, .int t, .int c, .int v] D (tyA c4) A none ((iG ad fp) :: (wG ((ad 3) 0) ((ad 4) 0) bt nt sd) :: (bG c4 (ad 2) nb) :: (yG c4 (ad 4) (nI n) os kd ic br) :: (sG c4 (ad 10) ((ad 11) 0) zlc zlS zdp zmi zfo zax zco zth zpe zcd zdc zwc lv) :: (tG c4 (ad 11) bh mi fb ba) :: (yG c4 (la 0) (gn 0) (go 0) (gk 0) (gi 0) (gb 0)) :: (yG c4 (la 1) (gn 1) (go 1) (gk 1) (gi 1) (gb 1)) :: (yG c4 (la 2) (gn 2) (go 2) (gk 2) (gi 2) (gb 2)) :: (yG c4 (la 3) (gn 3) (go 3) (gk 3) (gi 3) (gb 3)) :: (yG c4 (la 4) (gn 4) (go 4) (gk 4) (gi 4) (gb 4)) :: (yG c4 (la 5) (gn 5) (go 5) (gk 5) (gi 5) (gb 5)) :: (yG c4 (la 6) (gn 6) (go 6) (gk 6) (gi 6) (gb 6)) :: (yG c4 (la 7) (gn 7) (go 7) (gk 7) (gi 7) (gb 7)) :: (yG c4 (la 8) (gn 8) (go 8) (gk 8) (gi 8) (gb 8)) :: Ts) (S := Int32 × Int32 × Int32 × Int32 × Int32 × Int32 × Int32 × Int32 × Int32 × Int32 × Int32 × Int32 × Int32 × Int32 × Int32 × (Nat → Int32) × (Nat → Int32) × (Nat → Int32) × (Nat → Nat → Int32) × (Nat → Nat → Int32) × (Nat → Nat → Int32)) (fun (r : Int32) (u : Int32 × Int32 × Int32 × Int32 × Int32 × Int32 × Int32 × Int32 × Int32 × Int32 × Int32 × Int32 × Int32 × Int32 × Int32 × (Nat → Int32) × (Nat → Int32) × (Nat → Int32) × (Nat → Nat → Int32) × (Nat → Nat → Int32) × (Nat → Nat → Int32)) => r = (planF k t c v nb (pForce nb bt) q n)) (fun u => ((iG ad fp) :: (wG ((ad 3) 0) ((ad 4) 0) bt nt sd) :: (bG c4 (ad 2) nb) :: (yG c4 (ad 4) (nI n) os kd ic br) :: (sG c4 (ad 10) ((ad 11) 0) u.1 u.2.1 u.2.2.1 u.2.2.2.1 u.2.2.2.2.1 u.2.2.2.2.2.1 u.2.2.2.2.2.2.1 u.2.2.2.2.2.2.2.1 u.2.2.2.2.2.2.2.2.1 u.2.2.2.2.2.2.2.2.2.1 u.2.2.2.2.2.2.2.2.2.2.1 u.2.2.2.2.2.2.2.2.2.2.2.1 lv) :: (tG c4 (ad 11) u.2.2.2.2.2.2.2.2.2.2.2.2.1 u.2.2.2.2.2.2.2.2.2.2.2.2.2.1 u.2.2.2.2.2.2.2.2.2.2.2.2.2.2.1 u.2.2.2.2.2.2.2.2.2.2.2.2.2.2.2.1) :: (yG c4 (la 0) (u.2.2.2.2.2.2.2.2.2.2.2.2.2.2.2.2.1 0) (u.2.2.2.2.2.2.2.2.2.2.2.2.2.2.2.2.2.1 0) (u.2.2.2.2.2.2.2.2.2.2.2.2.2.2.2.2.2.2.1 0) (u.2.2.2.2.2.2.2.2.2.2.2.2.2.2.2.2.2.2.2.1 0) (u.2.2.2.2.2.2.2.2.2.2.2.2.2.2.2.2.2.2.2.2 0)) :: (yG c4 (la 1) (u.2.2.2.2.2.2.2.2.2.2.2.2.2.2.2.2.1 1) (u.2.2.2.2.2.2.2.2.2.2.2.2.2.2.2.2.2.1 1) (u.2.2.2.2.2.2.2.2.2.2.2.2.2.2.2.2.2.2.1 1) (u.2.2.2.2.2.2.2.2.2.2.2.2.2.2.2.2.2.2.2.1 1) (u.2.2.2.2.2.2.2.2.2.2.2.2.2.2.2.2.2.2.2.2 1)) :: (yG c4 (la 2) (u.2.2.2.2.2.2.2.2.2.2.2.2.2.2.2.2.1 2) (u.2.2.2.2.2.2.2.2.2.2.2.2.2.2.2.2.2.1 2) (u.2.2.2.2.2.2.2.2.2.2.2.2.2.2.2.2.2.2.1 2) (u.2.2.2.2.2.2.2.2.2.2.2.2.2.2.2.2.2.2.2.1 2) (u.2.2.2.2.2.2.2.2.2.2.2.2.2.2.2.2.2.2.2.2 2)) :: (yG c4 (la 3) (u.2.2.2.2.2.2.2.2.2.2.2.2.2.2.2.2.1 3) (u.2.2.2.2.2.2.2.2.2.2.2.2.2.2.2.2.2.1 3) (u.2.2.2.2.2.2.2.2.2.2.2.2.2.2.2.2.2.2.1 3) (u.2.2.2.2.2.2.2.2.2.2.2.2.2.2.2.2.2.2.2.1 3) (u.2.2.2.2.2.2.2.2.2.2.2.2.2.2.2.2.2.2.2.2 3)) :: (yG c4 (la 4) (u.2.2.2.2.2.2.2.2.2.2.2.2.2.2.2.2.1 4) (u.2.2.2.2.2.2.2.2.2.2.2.2.2.2.2.2.2.1 4) (u.2.2.2.2.2.2.2.2.2.2.2.2.2.2.2.2.2.2.1 4) (u.2.2.2.2.2.2.2.2.2.2.2.2.2.2.2.2.2.2.2.1 4) (u.2.2.2.2.2.2.2.2.2.2.2.2.2.2.2.2.2.2.2.2 4)) :: (yG c4 (la 5) (u.2.2.2.2.2.2.2.2.2.2.2.2.2.2.2.2.1 5) (u.2.2.2.2.2.2.2.2.2.2.2.2.2.2.2.2.2.1 5) (u.2.2.2.2.2.2.2.2.2.2.2.2.2.2.2.2.2.2.1 5) (u.2.2.2.2.2.2.2.2.2.2.2.2.2.2.2.2.2.2.2.1 5) (u.2.2.2.2.2.2.2.2.2.2.2.2.2.2.2.2.2.2.2.2 5)) :: (yG c4 (la 6) (u.2.2.2.2.2.2.2.2.2.2.2.2.2.2.2.2.1 6) (u.2.2.2.2.2.2.2.2.2.2.2.2.2.2.2.2.2.1 6) (u.2.2.2.2.2.2.2.2.2.2.2.2.2.2.2.2.2.2.1 6) (u.2.2.2.2.2.2.2.2.2.2.2.2.2.2.2.2.2.2.2.1 6) (u.2.2.2.2.2.2.2.2.2.2.2.2.2.2.2.2.2.2.2.2 6)) :: (yG c4 (la 7) (u.2.2.2.2.2.2.2.2.2.2.2.2.2.2.2.2.1 7) (u.2.2.2.2.2.2.2.2.2.2.2.2.2.2.2.2.2.1 7) (u.2.2.2.2.2.2.2.2.2.2.2.2.2.2.2.2.2.2.1 7) (u.2.2.2.2.2.2.2.2.2.2.2.2.2.2.2.2.2.2.2.1 7) (u.2.2.2.2.2.2.2.2.2.2.2.2.2.2.2.2.2.2.2.2 7)) :: (yG c4 (la 8) (u.2.2.2.2.2.2.2.2.2.2.2.2.2.2.2.2.1 8) (u.2.2.2.2.2.2.2.2.2.2.2.2.2.2.2.2.2.1 8) (u.2.2.2.2.2.2.2.2.2.2.2.2.2.2.2.2.2.2.1 8) (u.2.2.2.2.2.2.2.2.2.2.2.2.2.2.2.2.2.2.2.1 8) (u.2.2.2.2.2.2.2.2.2.2.2.2.2.2.2.2.2.2.2.2 8)) :: Ts)) := by
  refine cOi (cc := cX7_plan) (maxL := 5) (by decide) rfl (Nat.le_of_ble_eq_true rfl) rfl ?_
  rintro jp je js jm below meth jc ls args R Q H locs hRf hRl ⟨hx, hb, hml, hr, hts, hown, hlocks, hK, hX⟩ hw hl kr
  have hown : js.vm.findClass RX7 = some jm.cls := hown
  have f_0 := hts (.constant RX7 74 (-1000000002)) (by decide +kernel)
  have f_1 := hts (.fieldLink RX7 26 "IceSway" "now" "LIceSway$Winter;") (by decide +kernel)
  have f_2 := hts (.fieldLink RX7 118 "IceSway$Winter" "yards" "LIceSway$Yards;") (by decide +kernel)
  have f_3 := hts (.fieldLink RX7 121 "IceSway$Yards" "count" "I") (by decide +kernel)
  have f_4 := hts (.fieldLink RX7 62 "IceSway" "search" "LIceSway$Search;") (by decide +kernel)
  have f_5 := hts (.fieldLink RX7 19 "IceSway" "boat" "LIceSway$Boat;") (by decide +kernel)
  have f_6 := hts (.fieldLink RX7 234 "IceSway$Search" "leastSet" "I") (by decide +kernel)
  have f_7 := hts (.fieldLink RX7 231 "IceSway$Search" "leastCost" "I") (by decide +kernel)
  have f_8 := hts (.constant RX7 181 (-1000000003)) (by decide +kernel)
  have hi7 : ∀ w ∈ u_ws RX7 TX7 10, w ∈ wsX7_plan := fun w h => List.mem_cons_of_mem _ (List.mem_append_left _ (List.mem_append_left _ (List.mem_append_left _ (List.mem_append_left _ (List.mem_append_left _ (List.mem_append_right _ h))))))
  have hi5 : ∀ w ∈ u_ws RX5 TX5 4, w ∈ wsX7_plan := fun w h => List.mem_cons_of_mem _ (List.mem_append_left _ (List.mem_append_left _ (List.mem_append_left _ (List.mem_append_left _ (List.mem_append_right _ h)))))
  have hi6 : ∀ w ∈ u_ws RX6 TX6 5, w ∈ wsX7_plan := fun w h => List.mem_cons_of_mem _ (List.mem_append_left _ (List.mem_append_left _ (List.mem_append_left _ (List.mem_append_right _ h))))
  have hi2 : ∀ w ∈ u_ws RX2 TX2 14, w ∈ wsX7_plan := fun w h => List.mem_cons_of_mem _ (List.mem_append_left _ (List.mem_append_left _ (List.mem_append_right _ h)))
  refine lv_iload_n hx hb dX7_plan_0 rfl (lv_at hl 1 rfl) ?_
  refine lv_iconst (v := 1) hx hb dX7_plan_1 (by decide) ?_
  refine lv_bipush (v := 8) hx hb dX7_plan_2 (by decide) ?_
  refine c_si (As := [.int k, .int 1, .int 8]) (rest := []) ⟨hx, hb, hml, hown, hts⟩ (k_X7_isOut l D c4 A ((iG ad fp) :: (wG ((ad 3) 0) ((ad 4) 0) bt nt sd) :: (bG c4 (ad 2) nb) :: (yG c4 (ad 4) (nI n) os kd ic br) :: (sG c4 (ad 10) ((ad 11) 0) zlc zlS zdp zmi zfo zax zco zth zpe zcd zdc zwc lv) :: (tG c4 (ad 11) bh mi fb ba) :: (yG c4 (la 0) (gn 0) (go 0) (gk 0) (gi 0) (gb 0)) :: (yG c4 (la 1) (gn 1) (go 1) (gk 1) (gi 1) (gb 1)) :: (yG c4 (la 2) (gn 2) (go 2) (gk 2) (gi 2) (gb 2)) :: (yG c4 (la 3) (gn 3) (go 3) (gk 3) (gi 3) (gb 3)) :: (yG c4 (la 4) (gn 4) (go 4) (gk 4) (gi 4) (gb 4)) :: (yG c4 (la 5) (gn 5) (go 5) (gk 5) (gi 5) (gb 5)) :: (yG c4 (la 6) (gn 6) (go 6) (gk 6) (gi 6) (gb 6)) :: (yG c4 (la 7) (gn 7) (go 7) (gk 7) (gi 7) (gb 7)) :: (yG c4 (la 8) (gn 8) (go 8) (gk 8) (gi 8) (gb 8)) :: Ts) k 1 8) (va_cwS 3 hts gX7_plan_X7_isOut rfl rfl rfl (by decide +kernel) (rmv (Nat.le_of_ble_eq_true rfl) (Nat.le_of_ble_eq_true rfl) hRf hRl)) hK trivial hw rfl hl rfl (Nat.le_of_ble_eq_true rfl) ⟨Nat.zero_le _, Nat.zero_le _⟩ dX7_plan_4 (fun r_4 u_4 H locs hpq hw => ?_)
  obtain ⟨h0_4, h1_4, hz_4⟩ := hpq
  refine lv_if_ne (tgt := 37) hx hb dX7_plan_7 (by decide) (fun c_7 => ?_) (fun c_7 => ?_)
  · refine lv_ldc hx hb hown f_0 dX7_plan_37 ?_
    exact kr (-1000000002) (zlc, zlS, zdp, zmi, zfo, zax, zco, zth, zpe, zcd, zdc, zwc, bh, mi, fb, ba, gn, go, gk, gi, gb) _ _ _ _ hw (by unfold planF; rw [if_neg (notR (h1_4 c_7))]) dX7_plan_39
  · refine lv_iload_n hx hb dX7_plan_10 rfl (lv_at hl 2 rfl) ?_
    refine c_si (As := [.int t]) (rest := []) ⟨hx, hb, hml, hown, hts⟩ (k_X7_isOutOfDay l D c4 A ((iG ad fp) :: (wG ((ad 3) 0) ((ad 4) 0) bt nt sd) :: (bG c4 (ad 2) nb) :: (yG c4 (ad 4) (nI n) os kd ic br) :: (sG c4 (ad 10) ((ad 11) 0) zlc zlS zdp zmi zfo zax zco zth zpe zcd zdc zwc lv) :: (tG c4 (ad 11) bh mi fb ba) :: (yG c4 (la 0) (gn 0) (go 0) (gk 0) (gi 0) (gb 0)) :: (yG c4 (la 1) (gn 1) (go 1) (gk 1) (gi 1) (gb 1)) :: (yG c4 (la 2) (gn 2) (go 2) (gk 2) (gi 2) (gb 2)) :: (yG c4 (la 3) (gn 3) (go 3) (gk 3) (gi 3) (gb 3)) :: (yG c4 (la 4) (gn 4) (go 4) (gk 4) (gi 4) (gb 4)) :: (yG c4 (la 5) (gn 5) (go 5) (gk 5) (gi 5) (gb 5)) :: (yG c4 (la 6) (gn 6) (go 6) (gk 6) (gi 6) (gb 6)) :: (yG c4 (la 7) (gn 7) (go 7) (gk 7) (gi 7) (gb 7)) :: (yG c4 (la 8) (gn 8) (go 8) (gk 8) (gi 8) (gb 8)) :: Ts) t) (va_cwS 1 hts gX7_plan_X7_isOutOfDay rfl rfl rfl (by decide +kernel) (rmv (Nat.le_of_ble_eq_true rfl) (Nat.le_of_ble_eq_true rfl) hRf hRl)) hK trivial hw rfl hl rfl (Nat.le_of_ble_eq_true rfl) ⟨Nat.zero_le _, Nat.zero_le _⟩ dX7_plan_11 (fun r_11 u_11 H locs hpq hw => ?_)
    obtain ⟨h0_11, h1_11⟩ := hpq
    refine lv_if_ne (tgt := 37) hx hb dX7_plan_14 (by decide) (fun c_14 => ?_) (fun c_14 => ?_)
    · refine lv_ldc hx hb hown f_0 dX7_plan_37 ?_
      exact kr (-1000000002) (zlc, zlS, zdp, zmi, zfo, zax, zco, zth, zpe, zcd, zdc, zwc, bh, mi, fb, ba, gn, go, gk, gi, gb) _ _ _ _ hw (by unfold planF; rw [if_pos (h0_4 c_7), if_neg (notR (h1_11 c_14))]) dX7_plan_39
    · refine lv_iload_n hx hb dX7_plan_17 rfl (lv_at hl 3 rfl) ?_
      refine lv_iconst (v := 0) hx hb dX7_plan_18 (by decide) ?_
      refine lv_bipush (v := 30) hx hb dX7_plan_19 (by decide) ?_
      refine c_si (As := [.int c, .int 0, .int 30]) (rest := []) ⟨hx, hb, hml, hown, hts⟩ (k_X7_isOut l D c4 A ((iG ad fp) :: (wG ((ad 3) 0) ((ad 4) 0) bt nt sd) :: (bG c4 (ad 2) nb) :: (yG c4 (ad 4) (nI n) os kd ic br) :: (sG c4 (ad 10) ((ad 11) 0) zlc zlS zdp zmi zfo zax zco zth zpe zcd zdc zwc lv) :: (tG c4 (ad 11) bh mi fb ba) :: (yG c4 (la 0) (gn 0) (go 0) (gk 0) (gi 0) (gb 0)) :: (yG c4 (la 1) (gn 1) (go 1) (gk 1) (gi 1) (gb 1)) :: (yG c4 (la 2) (gn 2) (go 2) (gk 2) (gi 2) (gb 2)) :: (yG c4 (la 3) (gn 3) (go 3) (gk 3) (gi 3) (gb 3)) :: (yG c4 (la 4) (gn 4) (go 4) (gk 4) (gi 4) (gb 4)) :: (yG c4 (la 5) (gn 5) (go 5) (gk 5) (gi 5) (gb 5)) :: (yG c4 (la 6) (gn 6) (go 6) (gk 6) (gi 6) (gb 6)) :: (yG c4 (la 7) (gn 7) (go 7) (gk 7) (gi 7) (gb 7)) :: (yG c4 (la 8) (gn 8) (go 8) (gk 8) (gi 8) (gb 8)) :: Ts) c 0 30) (va_cwS 3 hts gX7_plan_X7_isOut rfl rfl rfl (by decide +kernel) (rmv (Nat.le_of_ble_eq_true rfl) (Nat.le_of_ble_eq_true rfl) hRf hRl)) hK trivial hw rfl hl rfl (Nat.le_of_ble_eq_true rfl) ⟨Nat.zero_le _, Nat.zero_le _⟩ dX7_plan_21 (fun r_21 u_21 H locs hpq hw => ?_)
      obtain ⟨h0_21, h1_21, hz_21⟩ := hpq
      refine lv_if_ne (tgt := 37) hx hb dX7_plan_24 (by decide) (fun c_24 => ?_) (fun c_24 => ?_)
      · refine lv_ldc hx hb hown f_0 dX7_plan_37 ?_
        exact kr (-1000000002) (zlc, zlS, zdp, zmi, zfo, zax, zco, zth, zpe, zcd, zdc, zwc, bh, mi, fb, ba, gn, go, gk, gi, gb) _ _ _ _ hw (by unfold planF; rw [if_pos (h0_4 c_7), if_pos (h0_11 c_14), if_neg (notR (h1_21 c_24))]) dX7_plan_39
      · refine lv_iload hx hb dX7_plan_27 (lv_at hl 4 rfl) ?_
        refine lv_iconst (v := 0) hx hb dX7_plan_29 (by decide) ?_
        refine lv_iconst (v := 1) hx hb dX7_plan_30 (by decide) ?_
        refine c_si (As := [.int v, .int 0, .int 1]) (rest := []) ⟨hx, hb, hml, hown, hts⟩ (k_X7_isOut l D c4 A ((iG ad fp) :: (wG ((ad 3) 0) ((ad 4) 0) bt nt sd) :: (bG c4 (ad 2) nb) :: (yG c4 (ad 4) (nI n) os kd ic br) :: (sG c4 (ad 10) ((ad 11) 0) zlc zlS zdp zmi zfo zax zco zth zpe zcd zdc zwc lv) :: (tG c4 (ad 11) bh mi fb ba) :: (yG c4 (la 0) (gn 0) (go 0) (gk 0) (gi 0) (gb 0)) :: (yG c4 (la 1) (gn 1) (go 1) (gk 1) (gi 1) (gb 1)) :: (yG c4 (la 2) (gn 2) (go 2) (gk 2) (gi 2) (gb 2)) :: (yG c4 (la 3) (gn 3) (go 3) (gk 3) (gi 3) (gb 3)) :: (yG c4 (la 4) (gn 4) (go 4) (gk 4) (gi 4) (gb 4)) :: (yG c4 (la 5) (gn 5) (go 5) (gk 5) (gi 5) (gb 5)) :: (yG c4 (la 6) (gn 6) (go 6) (gk 6) (gi 6) (gb 6)) :: (yG c4 (la 7) (gn 7) (go 7) (gk 7) (gi 7) (gb 7)) :: (yG c4 (la 8) (gn 8) (go 8) (gk 8) (gi 8) (gb 8)) :: Ts) v 0 1) (va_cwS 3 hts gX7_plan_X7_isOut rfl rfl rfl (by decide +kernel) (rmv (Nat.le_of_ble_eq_true rfl) (Nat.le_of_ble_eq_true rfl) hRf hRl)) hK trivial hw rfl hl rfl (Nat.le_of_ble_eq_true rfl) ⟨Nat.zero_le _, Nat.zero_le _⟩ dX7_plan_31 (fun r_31 u_31 H locs hpq hw => ?_)
        obtain ⟨h0_31, h1_31, hz_31⟩ := hpq
        refine lv_if_eq (tgt := 40) hx hb dX7_plan_34 (by decide) (fun c_34 => ?_) (fun c_34 => ?_)
        · refine lv_aload_n hx hb dX7_plan_40 rfl (lv_at hl 0 rfl) ?_
          refine r_get (T := TX7) (v := .ref ((ad 3) 0)) hx hb hts hi7 hown hK hw 0 rfl rfl 2 (by decide) f_1 rfl dX7_plan_41 ?_
          refine r_get (T := TX5) (v := .ref ((ad 4) 0)) hx hb hts hi5 hown hK hw 1 rfl rfl 0 (by decide) f_2 rfl dX7_plan_44 ?_
          refine r_get (T := TX6) (v := .int (nI n)) hx hb hts hi6 hown hK hw 4 rfl rfl 0 (by decide) f_3 rfl dX7_plan_47 ?_
          refine r_zne hx hb n (by omega) (tgt := 56) dX7_plan_50 (by decide) (fun c_50 => ?_) (fun c_50 => ?_)
          · obtain ⟨j, hj1, hj8, ej⟩ := (show inR k 1 8 from h0_4 c_7).nat (a := 1) (b := 8) rfl rfl
            refine lv_aload_n hx hb dX7_plan_56 rfl (lv_at hl 0 rfl) ?_
            refine r_get (T := TX7) (v := .ref ((ad 10) 0)) hx hb hts hi7 hown hK hw 0 rfl rfl 8 (by decide) f_4 rfl dX7_plan_57 ?_
            refine lv_aload_n hx hb dX7_plan_60 rfl (lv_at hl 0 rfl) ?_
            refine r_get (T := TX7) (v := .ref ((ad 3) 0)) hx hb hts hi7 hown hK hw 0 rfl rfl 2 (by decide) f_1 rfl dX7_plan_61 ?_
            refine lv_aload_n hx hb dX7_plan_64 rfl (lv_at hl 0 rfl) ?_
            refine r_get (T := TX7) (v := .ref ((ad 2) 0)) hx hb hts hi7 hown hK hw 0 rfl rfl 1 (by decide) f_5 rfl dX7_plan_65 ?_
            refine lv_iload_n hx hb dX7_plan_68 rfl (lv_at hl 1 rfl) ?_
            refine r_top (y := nI j) ej ?_
            refine lv_iload_n hx hb dX7_plan_69 rfl (lv_at hl 2 rfl) ?_
            have hw := hw.m2
            have hw := hw.m3
            have hw := hw.m3
            have hw := hw.m6
            have hw := hw.m5
            refine c_vv (As := [.ref ((ad 3) 0), .ref ((ad 2) 0), .int (nI j), .int t]) (rest := []) ⟨hx, hb, hml, hown, hts⟩ (k_X2_start l D c4 A ((iG ad fp) :: (tG c4 (ad 11) bh mi fb ba) :: (yG c4 (la 1) (gn 1) (go 1) (gk 1) (gi 1) (gb 1)) :: (yG c4 (la 2) (gn 2) (go 2) (gk 2) (gi 2) (gb 2)) :: (yG c4 (la 3) (gn 3) (go 3) (gk 3) (gi 3) (gb 3)) :: (yG c4 (la 4) (gn 4) (go 4) (gk 4) (gi 4) (gb 4)) :: (yG c4 (la 5) (gn 5) (go 5) (gk 5) (gi 5) (gb 5)) :: (yG c4 (la 6) (gn 6) (go 6) (gk 6) (gi 6) (gb 6)) :: (yG c4 (la 7) (gn 7) (go 7) (gk 7) (gi 7) (gb 7)) :: (yG c4 (la 8) (gn 8) (go 8) (gk 8) (gi 8) (gb 8)) :: Ts) (ad 10) (ad 11) la zlc zlS zmi zfo zax zco zth zpe zcd zdc zwc zdp lv (gn 0) (go 0) (gk 0) (gi 0) (gb 0) ((ad 3) 0) bt nt sd (ad 4) n os kd ic br q (ad 2) nb j t hn hY (by first | omega | decide) (by first | omega | decide)) (cwV 4 hts gX7_plan_X2_start rfl rfl rfl (by decide +kernel) (rmv (Nat.le_of_ble_eq_true rfl) (Nat.le_of_ble_eq_true rfl) hRf hRl)) hK trivial hw rfl rfl rfl hl rfl (Nat.le_of_ble_eq_true rfl) ⟨Nat.zero_le _, Nat.zero_le _⟩ dX7_plan_70 (fun u_70 H locs hpq hw => ?_)
            obtain ⟨kd2_70, ic2_70, br2_70⟩ := u_70
            have hw : gW D A js.heap ((sG c4 (ad 10) ((ad 11) 0) zlc zlS (nI j) t (pForce nb bt) (nb 5) zco zth zpe zcd zdc zwc lv) :: (yG c4 (la 0) (nI n) os kd2_70 ic2_70 br2_70) :: (wG ((ad 3) 0) ((ad 4) 0) bt nt sd) :: (yG c4 (ad 4) (nI n) os kd ic br) :: (bG c4 (ad 2) nb) :: (iG ad fp) :: (tG c4 (ad 11) bh mi fb ba) :: (yG c4 (la 1) (gn 1) (go 1) (gk 1) (gi 1) (gb 1)) :: (yG c4 (la 2) (gn 2) (go 2) (gk 2) (gi 2) (gb 2)) :: (yG c4 (la 3) (gn 3) (go 3) (gk 3) (gi 3) (gb 3)) :: (yG c4 (la 4) (gn 4) (go 4) (gk 4) (gi 4) (gb 4)) :: (yG c4 (la 5) (gn 5) (go 5) (gk 5) (gi 5) (gb 5)) :: (yG c4 (la 6) (gn 6) (go 6) (gk 6) (gi 6) (gb 6)) :: (yG c4 (la 7) (gn 7) (go 7) (gk 7) (gi 7) (gb 7)) :: (yG c4 (la 8) (gn 8) (go 8) (gk 8) (gi 8) (gb 8)) :: Ts) H locs := hw
            have hY_70 := hpq
            have hY_70 : yR q n os kd2_70 ic2_70 br2_70 := hY_70
            refine lv_aload_n hx hb dX7_plan_73 rfl (lv_at hl 0 rfl) ?_
            refine r_get (T := TX7) (v := .ref ((ad 10) 0)) hx hb hts hi7 hown hK hw 13 rfl rfl 8 (by decide) f_4 rfl dX7_plan_74 ?_
            refine lv_aload_n hx hb dX7_plan_77 rfl (lv_at hl 0 rfl) ?_
            refine r_get (T := TX7) (v := .ref ((ad 2) 0)) hx hb hts hi7 hown hK hw 13 rfl rfl 1 (by decide) f_5 rfl dX7_plan_78 ?_
            refine lv_iload_n hx hb dX7_plan_81 rfl (lv_at hl 3 rfl) ?_
            have hw := hw.m14
            have hw := hw.m14
            have hw := hw.m14
            have hw := hw.m14
            have hw := hw.m14
            have hw := hw.m14
            have hw := hw.m14
            have hw := hw.m14
            have hw := hw.m9
            have hw := hw.m14
            have hw := hw.m13
            have hw := hw.m11
            refine c_vv (As := [.ref ((ad 2) 0), .int c]) (rest := []) ⟨hx, hb, hml, hown, hts⟩ (k_X2_findPlan l D c4 A ((wG ((ad 3) 0) ((ad 4) 0) bt nt sd) :: (yG c4 (ad 4) (nI n) os kd ic br) :: (iG ad fp) :: Ts) (ad 10) (ad 11) la zlc zlS t (pForce nb bt) (nb 5) c zco zth zpe zcd zdc zwc j lv bh mi fb ba n os kd2_70 ic2_70 br2_70 q gn go gk gi gb (ad 2) nb (by first | omega | decide) hn hY_70 (fo_of htl bt) (coldI (h0_21 c_24)) hlv) (cwV 2 hts gX7_plan_X2_findPlan rfl rfl rfl (by decide +kernel) (rmv (Nat.le_of_ble_eq_true rfl) (Nat.le_of_ble_eq_true rfl) hRf hRl)) hK trivial hw rfl rfl rfl hl rfl (Nat.le_of_ble_eq_true rfl) ⟨Nat.zero_le _, Nat.zero_le _⟩ dX7_plan_82 (fun u_82 H locs hpq hw => ?_)
            obtain ⟨lc2_82, lS2_82, bh2_82, mi2_82, fb2_82, ba2_82, gn2_82, go2_82, gk2_82, gi2_82, gb2_82⟩ := u_82
            have hw : gW D A js.heap ((sG c4 (ad 10) ((ad 11) 0) lc2_82 lS2_82 (nI j) t (pForce nb bt) (nb 5) c zth zpe (nb 6) (nb 7) (nb 8) lv) :: (bG c4 (ad 2) nb) :: (tG c4 (ad 11) bh2_82 mi2_82 fb2_82 ba2_82) :: (yG c4 (la 0) (nI n) os kd2_70 ic2_70 br2_70) :: (yG c4 (la 1) (gn2_82 1) (go2_82 1) (gk2_82 1) (gi2_82 1) (gb2_82 1)) :: (yG c4 (la 2) (gn2_82 2) (go2_82 2) (gk2_82 2) (gi2_82 2) (gb2_82 2)) :: (yG c4 (la 3) (gn2_82 3) (go2_82 3) (gk2_82 3) (gi2_82 3) (gb2_82 3)) :: (yG c4 (la 4) (gn2_82 4) (go2_82 4) (gk2_82 4) (gi2_82 4) (gb2_82 4)) :: (yG c4 (la 5) (gn2_82 5) (go2_82 5) (gk2_82 5) (gi2_82 5) (gb2_82 5)) :: (yG c4 (la 6) (gn2_82 6) (go2_82 6) (gk2_82 6) (gi2_82 6) (gb2_82 6)) :: (yG c4 (la 7) (gn2_82 7) (go2_82 7) (gk2_82 7) (gi2_82 7) (gb2_82 7)) :: (yG c4 (la 8) (gn2_82 8) (go2_82 8) (gk2_82 8) (gi2_82 8) (gb2_82 8)) :: (wG ((ad 3) 0) ((ad 4) 0) bt nt sd) :: (yG c4 (ad 4) (nI n) os kd ic br) :: (iG ad fp) :: Ts) H locs := hw
            have hS_82 := hpq
            have hS_82 : (lc2_82, lS2_82) = srch n (pForce nb bt) (nb 5) t c (nb 6) (nb 7) (nb 8) (j - 0) 0 q (nb 6) 0 0 (1000000000, 0) := hS_82
            refine lv_iload hx hb dX7_plan_85 (lv_at hl 4 rfl) ?_
            refine lv_if_ne (tgt := 100) hx hb dX7_plan_87 (by decide) (fun c_87 => ?_) (fun c_87 => ?_)
            · refine lv_aload_n hx hb dX7_plan_100 rfl (lv_at hl 0 rfl) ?_
              refine r_get (T := TX7) (v := .ref ((ad 10) 0)) hx hb hts hi7 hown hK hw 47 rfl rfl 8 (by decide) f_4 rfl dX7_plan_101 ?_
              refine r_get (T := TX2) (v := .int lS2_82) hx hb hts hi2 hown hK hw 0 rfl rfl 1 (by decide) f_6 rfl dX7_plan_104 ?_
              have hw := hw.m11
              have hw := hw.m11
              have hw := hw.m11
              have hw := hw.m11
              have hw := hw.m11
              have hw := hw.m11
              have hw := hw.m11
              have hw := hw.m11
              have hw := hw.m11
              have hw := hw.m11
              have hw := hw.m10
              have hw := hw.m13
              have hw := hw.m12
              have hw := hw.m13
              have hw := hw.m14
              exact kr lS2_82 (lc2_82, lS2_82, (nI j), t, (pForce nb bt), (nb 5), c, zth, zpe, (nb 6), (nb 7), (nb 8), bh2_82, mi2_82, fb2_82, ba2_82, upd gn2_82 0 (nI n), upd go2_82 0 os, va_up gk2_82 0 kd2_70, va_up gi2_82 0 ic2_70, va_up gb2_82 0 br2_70) _ _ _ _ hw (by unfold planF; rw [if_pos (h0_4 c_7), if_pos (h0_11 c_14), if_pos (h0_21 c_24), if_pos (h0_31 c_34), if_neg c_50, if_neg c_87, ej, nI_clamp (by omega)]; exact congrArg Prod.snd hS_82) dX7_plan_107
            · refine lv_aload_n hx hb dX7_plan_90 rfl (lv_at hl 0 rfl) ?_
              refine r_get (T := TX7) (v := .ref ((ad 10) 0)) hx hb hts hi7 hown hK hw 47 rfl rfl 8 (by decide) f_4 rfl dX7_plan_91 ?_
              refine r_get (T := TX2) (v := .int lc2_82) hx hb hts hi2 hown hK hw 0 rfl rfl 0 (by decide) f_7 rfl dX7_plan_94 ?_
              refine lv_goto (tgt := 107) hx hb dX7_plan_97 (by decide) ?_
              have hw := hw.m11
              have hw := hw.m11
              have hw := hw.m11
              have hw := hw.m11
              have hw := hw.m11
              have hw := hw.m11
              have hw := hw.m11
              have hw := hw.m11
              have hw := hw.m11
              have hw := hw.m11
              have hw := hw.m10
              have hw := hw.m13
              have hw := hw.m12
              have hw := hw.m13
              have hw := hw.m14
              exact kr lc2_82 (lc2_82, lS2_82, (nI j), t, (pForce nb bt), (nb 5), c, zth, zpe, (nb 6), (nb 7), (nb 8), bh2_82, mi2_82, fb2_82, ba2_82, upd gn2_82 0 (nI n), upd go2_82 0 os, va_up gk2_82 0 kd2_70, va_up gi2_82 0 ic2_70, va_up gb2_82 0 br2_70) _ _ _ _ hw (by unfold planF; rw [if_pos (h0_4 c_7), if_pos (h0_11 c_14), if_pos (h0_21 c_24), if_pos (h0_31 c_34), if_neg c_50, if_pos c_87, ej, nI_clamp (by omega)]; exact congrArg Prod.fst hS_82) dX7_plan_107
          · refine lv_ldc hx hb hown f_8 dX7_plan_53 ?_
            exact kr (-1000000003) (zlc, zlS, zdp, zmi, zfo, zax, zco, zth, zpe, zcd, zdc, zwc, bh, mi, fb, ba, gn, go, gk, gi, gb) _ _ _ _ hw (by unfold planF; rw [if_pos (h0_4 c_7), if_pos (h0_11 c_14), if_pos (h0_21 c_24), if_pos (h0_31 c_34), if_pos c_50]) dX7_plan_55
        · refine lv_ldc hx hb hown f_0 dX7_plan_37 ?_
          exact kr (-1000000002) (zlc, zlS, zdp, zmi, zfo, zax, zco, zth, zpe, zcd, zdc, zwc, bh, mi, fb, ba, gn, go, gk, gi, gb) _ _ _ _ hw (by unfold planF; rw [if_pos (h0_4 c_7), if_pos (h0_11 c_14), if_pos (h0_21 c_24), if_neg (notR (h1_31 c_34))]) dX7_plan_39
set_option maxHeartbeats 4000000 in
set_option maxRecDepth 100000 in
theorem k_X7_odds (l : Launch) (D : va_G) (c4 : Nat → ClassId) (A : Nat → Prop) (Ts : List va_W) (ad : Nat → Nat → Nat) (fp : Int32) (bt : Int32) (nt : Int32) (sd : Int32) (nb : Nat → Int32) (n : Nat) (os : Int32) (kd : Nat → Int32) (ic : Nat → Int32) (br : Nat → Int32) (q : Nat → Yq) (bh : Int32) (mi : Int32) (fb : Int32) (ba : Nat → Int32) (la : Nat → Nat → Nat) (lv : Nat → Option Nat) (zlc : Int32) (zlS : Int32) (zdp : Int32) (zmi : Int32) (zfo : Int32) (zax : Int32) (zco : Int32) (zth : Int32) (zpe : Int32) (zcd : Int32) (zdc : Int32) (zwc : Int32) (gn : Nat → Int32) (go : Nat → Int32) (gk : Nat → Nat → Int32) (gi : Nat → Nat → Int32) (gb : Nat → Nat → Int32) (k : Int32) (c : Int32) (d : Int32) (w0 : Int32) (t : Int32) (hn : n ≤ 12) (hY : yR q n os kd ic br) (htl : tlOk nb) (hlv : ∀ k, k < 9 → lv k = some (la k 0)) : Ci l yX7_odds wsX7_odds 13 349 [.ref ((ad 0) 0), .int k, .int c, .int d, .int w0, .int t] D (tyA c4) A none ((iG ad fp) :: (wG ((ad 3) 0) ((ad 4) 0) bt nt sd) :: (bG c4 (ad 2) nb) :: (yG c4 (ad 4) (nI n) os kd ic br) :: (sG c4 (ad 10) ((ad 11) 0) zlc zlS zdp zmi zfo zax zco zth zpe zcd zdc zwc lv) :: (tG c4 (ad 11) bh mi fb ba) :: (yG c4 (la 0) (gn 0) (go 0) (gk 0) (gi 0) (gb 0)) :: (yG c4 (la 1) (gn 1) (go 1) (gk 1) (gi 1) (gb 1)) :: (yG c4 (la 2) (gn 2) (go 2) (gk 2) (gi 2) (gb 2)) :: (yG c4 (la 3) (gn 3) (go 3) (gk 3) (gi 3) (gb 3)) :: (yG c4 (la 4) (gn 4) (go 4) (gk 4) (gi 4) (gb 4)) :: (yG c4 (la 5) (gn 5) (go 5) (gk 5) (gi 5) (gb 5)) :: (yG c4 (la 6) (gn 6) (go 6) (gk 6) (gi 6) (gb 6)) :: (yG c4 (la 7) (gn 7) (go 7) (gk 7) (gi 7) (gb 7)) :: (yG c4 (la 8) (gn 8) (go 8) (gk 8) (gi 8) (gb 8)) :: Ts) (S := Int32 × Int32 × Int32 × Int32 × Int32 × Int32 × Int32 × Int32 × Int32 × Int32 × Int32 × Int32 × Int32 × Int32 × Int32 × (Nat → Int32) × (Nat → Int32) × (Nat → Int32) × (Nat → Nat → Int32) × (Nat → Nat → Int32) × (Nat → Nat → Int32)) (fun (r : Int32) (u : Int32 × Int32 × Int32 × Int32 × Int32 × Int32 × Int32 × Int32 × Int32 × Int32 × Int32 × Int32 × Int32 × Int32 × Int32 × (Nat → Int32) × (Nat → Int32) × (Nat → Int32) × (Nat → Nat → Int32) × (Nat → Nat → Int32) × (Nat → Nat → Int32)) => r = (oddsF k c d w0 t (pForce nb bt) (nb 5) q n)) (fun u => ((iG ad fp) :: (wG ((ad 3) 0) ((ad 4) 0) bt nt sd) :: (bG c4 (ad 2) nb) :: (yG c4 (ad 4) (nI n) os kd ic br) :: (sG c4 (ad 10) ((ad 11) 0) u.1 u.2.1 u.2.2.1 u.2.2.2.1 u.2.2.2.2.1 u.2.2.2.2.2.1 u.2.2.2.2.2.2.1 u.2.2.2.2.2.2.2.1 u.2.2.2.2.2.2.2.2.1 u.2.2.2.2.2.2.2.2.2.1 u.2.2.2.2.2.2.2.2.2.2.1 u.2.2.2.2.2.2.2.2.2.2.2.1 lv) :: (tG c4 (ad 11) u.2.2.2.2.2.2.2.2.2.2.2.2.1 u.2.2.2.2.2.2.2.2.2.2.2.2.2.1 u.2.2.2.2.2.2.2.2.2.2.2.2.2.2.1 u.2.2.2.2.2.2.2.2.2.2.2.2.2.2.2.1) :: (yG c4 (la 0) (u.2.2.2.2.2.2.2.2.2.2.2.2.2.2.2.2.1 0) (u.2.2.2.2.2.2.2.2.2.2.2.2.2.2.2.2.2.1 0) (u.2.2.2.2.2.2.2.2.2.2.2.2.2.2.2.2.2.2.1 0) (u.2.2.2.2.2.2.2.2.2.2.2.2.2.2.2.2.2.2.2.1 0) (u.2.2.2.2.2.2.2.2.2.2.2.2.2.2.2.2.2.2.2.2 0)) :: (yG c4 (la 1) (u.2.2.2.2.2.2.2.2.2.2.2.2.2.2.2.2.1 1) (u.2.2.2.2.2.2.2.2.2.2.2.2.2.2.2.2.2.1 1) (u.2.2.2.2.2.2.2.2.2.2.2.2.2.2.2.2.2.2.1 1) (u.2.2.2.2.2.2.2.2.2.2.2.2.2.2.2.2.2.2.2.1 1) (u.2.2.2.2.2.2.2.2.2.2.2.2.2.2.2.2.2.2.2.2 1)) :: (yG c4 (la 2) (u.2.2.2.2.2.2.2.2.2.2.2.2.2.2.2.2.1 2) (u.2.2.2.2.2.2.2.2.2.2.2.2.2.2.2.2.2.1 2) (u.2.2.2.2.2.2.2.2.2.2.2.2.2.2.2.2.2.2.1 2) (u.2.2.2.2.2.2.2.2.2.2.2.2.2.2.2.2.2.2.2.1 2) (u.2.2.2.2.2.2.2.2.2.2.2.2.2.2.2.2.2.2.2.2 2)) :: (yG c4 (la 3) (u.2.2.2.2.2.2.2.2.2.2.2.2.2.2.2.2.1 3) (u.2.2.2.2.2.2.2.2.2.2.2.2.2.2.2.2.2.1 3) (u.2.2.2.2.2.2.2.2.2.2.2.2.2.2.2.2.2.2.1 3) (u.2.2.2.2.2.2.2.2.2.2.2.2.2.2.2.2.2.2.2.1 3) (u.2.2.2.2.2.2.2.2.2.2.2.2.2.2.2.2.2.2.2.2 3)) :: (yG c4 (la 4) (u.2.2.2.2.2.2.2.2.2.2.2.2.2.2.2.2.1 4) (u.2.2.2.2.2.2.2.2.2.2.2.2.2.2.2.2.2.1 4) (u.2.2.2.2.2.2.2.2.2.2.2.2.2.2.2.2.2.2.1 4) (u.2.2.2.2.2.2.2.2.2.2.2.2.2.2.2.2.2.2.2.1 4) (u.2.2.2.2.2.2.2.2.2.2.2.2.2.2.2.2.2.2.2.2 4)) :: (yG c4 (la 5) (u.2.2.2.2.2.2.2.2.2.2.2.2.2.2.2.2.1 5) (u.2.2.2.2.2.2.2.2.2.2.2.2.2.2.2.2.2.1 5) (u.2.2.2.2.2.2.2.2.2.2.2.2.2.2.2.2.2.2.1 5) (u.2.2.2.2.2.2.2.2.2.2.2.2.2.2.2.2.2.2.2.1 5) (u.2.2.2.2.2.2.2.2.2.2.2.2.2.2.2.2.2.2.2.2 5)) :: (yG c4 (la 6) (u.2.2.2.2.2.2.2.2.2.2.2.2.2.2.2.2.1 6) (u.2.2.2.2.2.2.2.2.2.2.2.2.2.2.2.2.2.1 6) (u.2.2.2.2.2.2.2.2.2.2.2.2.2.2.2.2.2.2.1 6) (u.2.2.2.2.2.2.2.2.2.2.2.2.2.2.2.2.2.2.2.1 6) (u.2.2.2.2.2.2.2.2.2.2.2.2.2.2.2.2.2.2.2.2 6)) :: (yG c4 (la 7) (u.2.2.2.2.2.2.2.2.2.2.2.2.2.2.2.2.1 7) (u.2.2.2.2.2.2.2.2.2.2.2.2.2.2.2.2.2.1 7) (u.2.2.2.2.2.2.2.2.2.2.2.2.2.2.2.2.2.2.1 7) (u.2.2.2.2.2.2.2.2.2.2.2.2.2.2.2.2.2.2.2.1 7) (u.2.2.2.2.2.2.2.2.2.2.2.2.2.2.2.2.2.2.2.2 7)) :: (yG c4 (la 8) (u.2.2.2.2.2.2.2.2.2.2.2.2.2.2.2.2.1 8) (u.2.2.2.2.2.2.2.2.2.2.2.2.2.2.2.2.2.1 8) (u.2.2.2.2.2.2.2.2.2.2.2.2.2.2.2.2.2.2.1 8) (u.2.2.2.2.2.2.2.2.2.2.2.2.2.2.2.2.2.2.2.1 8) (u.2.2.2.2.2.2.2.2.2.2.2.2.2.2.2.2.2.2.2.2 8)) :: Ts)) := by
  refine cOi (cc := cX7_odds) (maxL := 6) (by decide) rfl (Nat.le_of_ble_eq_true rfl) rfl ?_
  rintro jp je js jm below meth jc ls args R Q H locs hRf hRl ⟨hx, hb, hml, hr, hts, hown, hlocks, hK, hX⟩ hw hl kr
  have hown : js.vm.findClass RX7 = some jm.cls := hown
  have f_0 := hts (.constant RX7 74 (-1000000002)) (by decide +kernel)
  have f_1 := hts (.fieldLink RX7 62 "IceSway" "search" "LIceSway$Search;") (by decide +kernel)
  have f_2 := hts (.fieldLink RX7 26 "IceSway" "now" "LIceSway$Winter;") (by decide +kernel)
  have f_3 := hts (.fieldLink RX7 19 "IceSway" "boat" "LIceSway$Boat;") (by decide +kernel)
  have hi7 : ∀ w ∈ u_ws RX7 TX7 10, w ∈ wsX7_odds := fun w h => List.mem_cons_of_mem _ (List.mem_append_left _ (List.mem_append_left _ (List.mem_append_left _ (List.mem_append_left _ (List.mem_append_left _ (List.mem_append_right _ h))))))
  refine lv_iload_n hx hb dX7_odds_0 rfl (lv_at hl 1 rfl) ?_
  refine lv_iconst (v := 1) hx hb dX7_odds_1 (by decide) ?_
  refine lv_bipush (v := 8) hx hb dX7_odds_2 (by decide) ?_
  refine c_si (As := [.int k, .int 1, .int 8]) (rest := []) ⟨hx, hb, hml, hown, hts⟩ (k_X7_isOut l D c4 A ((iG ad fp) :: (wG ((ad 3) 0) ((ad 4) 0) bt nt sd) :: (bG c4 (ad 2) nb) :: (yG c4 (ad 4) (nI n) os kd ic br) :: (sG c4 (ad 10) ((ad 11) 0) zlc zlS zdp zmi zfo zax zco zth zpe zcd zdc zwc lv) :: (tG c4 (ad 11) bh mi fb ba) :: (yG c4 (la 0) (gn 0) (go 0) (gk 0) (gi 0) (gb 0)) :: (yG c4 (la 1) (gn 1) (go 1) (gk 1) (gi 1) (gb 1)) :: (yG c4 (la 2) (gn 2) (go 2) (gk 2) (gi 2) (gb 2)) :: (yG c4 (la 3) (gn 3) (go 3) (gk 3) (gi 3) (gb 3)) :: (yG c4 (la 4) (gn 4) (go 4) (gk 4) (gi 4) (gb 4)) :: (yG c4 (la 5) (gn 5) (go 5) (gk 5) (gi 5) (gb 5)) :: (yG c4 (la 6) (gn 6) (go 6) (gk 6) (gi 6) (gb 6)) :: (yG c4 (la 7) (gn 7) (go 7) (gk 7) (gi 7) (gb 7)) :: (yG c4 (la 8) (gn 8) (go 8) (gk 8) (gi 8) (gb 8)) :: Ts) k 1 8) (va_cwS 3 hts gX7_odds_X7_isOut rfl rfl rfl (by decide +kernel) (rmv (Nat.le_of_ble_eq_true rfl) (Nat.le_of_ble_eq_true rfl) hRf hRl)) hK trivial hw rfl hl rfl (Nat.le_of_ble_eq_true rfl) ⟨Nat.zero_le _, Nat.zero_le _⟩ dX7_odds_4 (fun r_4 u_4 H locs hpq hw => ?_)
  obtain ⟨h0_4, h1_4, hz_4⟩ := hpq
  refine lv_if_ne (tgt := 49) hx hb dX7_odds_7 (by decide) (fun c_7 => ?_) (fun c_7 => ?_)
  · refine lv_ldc hx hb hown f_0 dX7_odds_49 ?_
    exact kr (-1000000002) (zlc, zlS, zdp, zmi, zfo, zax, zco, zth, zpe, zcd, zdc, zwc, bh, mi, fb, ba, gn, go, gk, gi, gb) _ _ _ _ hw (by unfold oddsF; rw [if_neg (notR (h1_4 c_7))]) dX7_odds_51
  · refine lv_iload_n hx hb dX7_odds_10 rfl (lv_at hl 2 rfl) ?_
    refine lv_iconst (v := 0) hx hb dX7_odds_11 (by decide) ?_
    refine lv_bipush (v := 30) hx hb dX7_odds_12 (by decide) ?_
    refine c_si (As := [.int c, .int 0, .int 30]) (rest := []) ⟨hx, hb, hml, hown, hts⟩ (k_X7_isOut l D c4 A ((iG ad fp) :: (wG ((ad 3) 0) ((ad 4) 0) bt nt sd) :: (bG c4 (ad 2) nb) :: (yG c4 (ad 4) (nI n) os kd ic br) :: (sG c4 (ad 10) ((ad 11) 0) zlc zlS zdp zmi zfo zax zco zth zpe zcd zdc zwc lv) :: (tG c4 (ad 11) bh mi fb ba) :: (yG c4 (la 0) (gn 0) (go 0) (gk 0) (gi 0) (gb 0)) :: (yG c4 (la 1) (gn 1) (go 1) (gk 1) (gi 1) (gb 1)) :: (yG c4 (la 2) (gn 2) (go 2) (gk 2) (gi 2) (gb 2)) :: (yG c4 (la 3) (gn 3) (go 3) (gk 3) (gi 3) (gb 3)) :: (yG c4 (la 4) (gn 4) (go 4) (gk 4) (gi 4) (gb 4)) :: (yG c4 (la 5) (gn 5) (go 5) (gk 5) (gi 5) (gb 5)) :: (yG c4 (la 6) (gn 6) (go 6) (gk 6) (gi 6) (gb 6)) :: (yG c4 (la 7) (gn 7) (go 7) (gk 7) (gi 7) (gb 7)) :: (yG c4 (la 8) (gn 8) (go 8) (gk 8) (gi 8) (gb 8)) :: Ts) c 0 30) (va_cwS 3 hts gX7_odds_X7_isOut rfl rfl rfl (by decide +kernel) (rmv (Nat.le_of_ble_eq_true rfl) (Nat.le_of_ble_eq_true rfl) hRf hRl)) hK trivial hw rfl hl rfl (Nat.le_of_ble_eq_true rfl) ⟨Nat.zero_le _, Nat.zero_le _⟩ dX7_odds_14 (fun r_14 u_14 H locs hpq hw => ?_)
    obtain ⟨h0_14, h1_14, hz_14⟩ := hpq
    refine lv_if_ne (tgt := 49) hx hb dX7_odds_17 (by decide) (fun c_17 => ?_) (fun c_17 => ?_)
    · refine lv_ldc hx hb hown f_0 dX7_odds_49 ?_
      exact kr (-1000000002) (zlc, zlS, zdp, zmi, zfo, zax, zco, zth, zpe, zcd, zdc, zwc, bh, mi, fb, ba, gn, go, gk, gi, gb) _ _ _ _ hw (by unfold oddsF; rw [if_pos (h0_4 c_7), if_neg (notR (h1_14 c_17))]) dX7_odds_51
    · refine lv_iload_n hx hb dX7_odds_20 rfl (lv_at hl 3 rfl) ?_
      refine lv_iconst (v := 0) hx hb dX7_odds_21 (by decide) ?_
      refine lv_bipush (v := 60) hx hb dX7_odds_22 (by decide) ?_
      refine c_si (As := [.int d, .int 0, .int 60]) (rest := []) ⟨hx, hb, hml, hown, hts⟩ (k_X7_isOut l D c4 A ((iG ad fp) :: (wG ((ad 3) 0) ((ad 4) 0) bt nt sd) :: (bG c4 (ad 2) nb) :: (yG c4 (ad 4) (nI n) os kd ic br) :: (sG c4 (ad 10) ((ad 11) 0) zlc zlS zdp zmi zfo zax zco zth zpe zcd zdc zwc lv) :: (tG c4 (ad 11) bh mi fb ba) :: (yG c4 (la 0) (gn 0) (go 0) (gk 0) (gi 0) (gb 0)) :: (yG c4 (la 1) (gn 1) (go 1) (gk 1) (gi 1) (gb 1)) :: (yG c4 (la 2) (gn 2) (go 2) (gk 2) (gi 2) (gb 2)) :: (yG c4 (la 3) (gn 3) (go 3) (gk 3) (gi 3) (gb 3)) :: (yG c4 (la 4) (gn 4) (go 4) (gk 4) (gi 4) (gb 4)) :: (yG c4 (la 5) (gn 5) (go 5) (gk 5) (gi 5) (gb 5)) :: (yG c4 (la 6) (gn 6) (go 6) (gk 6) (gi 6) (gb 6)) :: (yG c4 (la 7) (gn 7) (go 7) (gk 7) (gi 7) (gb 7)) :: (yG c4 (la 8) (gn 8) (go 8) (gk 8) (gi 8) (gb 8)) :: Ts) d 0 60) (va_cwS 3 hts gX7_odds_X7_isOut rfl rfl rfl (by decide +kernel) (rmv (Nat.le_of_ble_eq_true rfl) (Nat.le_of_ble_eq_true rfl) hRf hRl)) hK trivial hw rfl hl rfl (Nat.le_of_ble_eq_true rfl) ⟨Nat.zero_le _, Nat.zero_le _⟩ dX7_odds_24 (fun r_24 u_24 H locs hpq hw => ?_)
      obtain ⟨h0_24, h1_24, hz_24⟩ := hpq
      refine lv_if_ne (tgt := 49) hx hb dX7_odds_27 (by decide) (fun c_27 => ?_) (fun c_27 => ?_)
      · refine lv_ldc hx hb hown f_0 dX7_odds_49 ?_
        exact kr (-1000000002) (zlc, zlS, zdp, zmi, zfo, zax, zco, zth, zpe, zcd, zdc, zwc, bh, mi, fb, ba, gn, go, gk, gi, gb) _ _ _ _ hw (by unfold oddsF; rw [if_pos (h0_4 c_7), if_pos (h0_14 c_17), if_neg (notR (h1_24 c_27))]) dX7_odds_51
      · refine lv_iload hx hb dX7_odds_30 (lv_at hl 4 rfl) ?_
        refine lv_iconst (v := 0) hx hb dX7_odds_32 (by decide) ?_
        refine lv_bipush (v := 100) hx hb dX7_odds_33 (by decide) ?_
        refine c_si (As := [.int w0, .int 0, .int 100]) (rest := []) ⟨hx, hb, hml, hown, hts⟩ (k_X7_isOut l D c4 A ((iG ad fp) :: (wG ((ad 3) 0) ((ad 4) 0) bt nt sd) :: (bG c4 (ad 2) nb) :: (yG c4 (ad 4) (nI n) os kd ic br) :: (sG c4 (ad 10) ((ad 11) 0) zlc zlS zdp zmi zfo zax zco zth zpe zcd zdc zwc lv) :: (tG c4 (ad 11) bh mi fb ba) :: (yG c4 (la 0) (gn 0) (go 0) (gk 0) (gi 0) (gb 0)) :: (yG c4 (la 1) (gn 1) (go 1) (gk 1) (gi 1) (gb 1)) :: (yG c4 (la 2) (gn 2) (go 2) (gk 2) (gi 2) (gb 2)) :: (yG c4 (la 3) (gn 3) (go 3) (gk 3) (gi 3) (gb 3)) :: (yG c4 (la 4) (gn 4) (go 4) (gk 4) (gi 4) (gb 4)) :: (yG c4 (la 5) (gn 5) (go 5) (gk 5) (gi 5) (gb 5)) :: (yG c4 (la 6) (gn 6) (go 6) (gk 6) (gi 6) (gb 6)) :: (yG c4 (la 7) (gn 7) (go 7) (gk 7) (gi 7) (gb 7)) :: (yG c4 (la 8) (gn 8) (go 8) (gk 8) (gi 8) (gb 8)) :: Ts) w0 0 100) (va_cwS 3 hts gX7_odds_X7_isOut rfl rfl rfl (by decide +kernel) (rmv (Nat.le_of_ble_eq_true rfl) (Nat.le_of_ble_eq_true rfl) hRf hRl)) hK trivial hw rfl hl rfl (Nat.le_of_ble_eq_true rfl) ⟨Nat.zero_le _, Nat.zero_le _⟩ dX7_odds_35 (fun r_35 u_35 H locs hpq hw => ?_)
        obtain ⟨h0_35, h1_35, hz_35⟩ := hpq
        refine lv_if_ne (tgt := 49) hx hb dX7_odds_38 (by decide) (fun c_38 => ?_) (fun c_38 => ?_)
        · refine lv_ldc hx hb hown f_0 dX7_odds_49 ?_
          exact kr (-1000000002) (zlc, zlS, zdp, zmi, zfo, zax, zco, zth, zpe, zcd, zdc, zwc, bh, mi, fb, ba, gn, go, gk, gi, gb) _ _ _ _ hw (by unfold oddsF; rw [if_pos (h0_4 c_7), if_pos (h0_14 c_17), if_pos (h0_24 c_27), if_neg (notR (h1_35 c_38))]) dX7_odds_51
        · refine lv_iload hx hb dX7_odds_41 (lv_at hl 5 rfl) ?_
          refine c_si (As := [.int t]) (rest := []) ⟨hx, hb, hml, hown, hts⟩ (k_X7_isOutOfDay l D c4 A ((iG ad fp) :: (wG ((ad 3) 0) ((ad 4) 0) bt nt sd) :: (bG c4 (ad 2) nb) :: (yG c4 (ad 4) (nI n) os kd ic br) :: (sG c4 (ad 10) ((ad 11) 0) zlc zlS zdp zmi zfo zax zco zth zpe zcd zdc zwc lv) :: (tG c4 (ad 11) bh mi fb ba) :: (yG c4 (la 0) (gn 0) (go 0) (gk 0) (gi 0) (gb 0)) :: (yG c4 (la 1) (gn 1) (go 1) (gk 1) (gi 1) (gb 1)) :: (yG c4 (la 2) (gn 2) (go 2) (gk 2) (gi 2) (gb 2)) :: (yG c4 (la 3) (gn 3) (go 3) (gk 3) (gi 3) (gb 3)) :: (yG c4 (la 4) (gn 4) (go 4) (gk 4) (gi 4) (gb 4)) :: (yG c4 (la 5) (gn 5) (go 5) (gk 5) (gi 5) (gb 5)) :: (yG c4 (la 6) (gn 6) (go 6) (gk 6) (gi 6) (gb 6)) :: (yG c4 (la 7) (gn 7) (go 7) (gk 7) (gi 7) (gb 7)) :: (yG c4 (la 8) (gn 8) (go 8) (gk 8) (gi 8) (gb 8)) :: Ts) t) (va_cwS 1 hts gX7_odds_X7_isOutOfDay rfl rfl rfl (by decide +kernel) (rmv (Nat.le_of_ble_eq_true rfl) (Nat.le_of_ble_eq_true rfl) hRf hRl)) hK trivial hw rfl hl rfl (Nat.le_of_ble_eq_true rfl) ⟨Nat.zero_le _, Nat.zero_le _⟩ dX7_odds_43 (fun r_43 u_43 H locs hpq hw => ?_)
          obtain ⟨h0_43, h1_43⟩ := hpq
          refine lv_if_eq (tgt := 52) hx hb dX7_odds_46 (by decide) (fun c_46 => ?_) (fun c_46 => ?_)
          · obtain ⟨j, hj1, hj8, ej⟩ := (show inR k 1 8 from h0_4 c_7).nat (a := 1) (b := 8) rfl rfl
            refine lv_aload_n hx hb dX7_odds_52 rfl (lv_at hl 0 rfl) ?_
            refine r_get (T := TX7) (v := .ref ((ad 10) 0)) hx hb hts hi7 hown hK hw 0 rfl rfl 8 (by decide) f_1 rfl dX7_odds_53 ?_
            refine lv_aload_n hx hb dX7_odds_56 rfl (lv_at hl 0 rfl) ?_
            refine r_get (T := TX7) (v := .ref ((ad 3) 0)) hx hb hts hi7 hown hK hw 0 rfl rfl 2 (by decide) f_2 rfl dX7_odds_57 ?_
            refine lv_aload_n hx hb dX7_odds_60 rfl (lv_at hl 0 rfl) ?_
            refine r_get (T := TX7) (v := .ref ((ad 2) 0)) hx hb hts hi7 hown hK hw 0 rfl rfl 1 (by decide) f_3 rfl dX7_odds_61 ?_
            refine lv_iload_n hx hb dX7_odds_64 rfl (lv_at hl 1 rfl) ?_
            refine r_top (y := nI j) ej ?_
            refine lv_iload hx hb dX7_odds_65 (lv_at hl 5 rfl) ?_
            have hw := hw.m2
            have hw := hw.m3
            have hw := hw.m3
            have hw := hw.m6
            have hw := hw.m5
            refine c_vv (As := [.ref ((ad 3) 0), .ref ((ad 2) 0), .int (nI j), .int t]) (rest := []) ⟨hx, hb, hml, hown, hts⟩ (k_X2_start l D c4 A ((iG ad fp) :: (tG c4 (ad 11) bh mi fb ba) :: (yG c4 (la 1) (gn 1) (go 1) (gk 1) (gi 1) (gb 1)) :: (yG c4 (la 2) (gn 2) (go 2) (gk 2) (gi 2) (gb 2)) :: (yG c4 (la 3) (gn 3) (go 3) (gk 3) (gi 3) (gb 3)) :: (yG c4 (la 4) (gn 4) (go 4) (gk 4) (gi 4) (gb 4)) :: (yG c4 (la 5) (gn 5) (go 5) (gk 5) (gi 5) (gb 5)) :: (yG c4 (la 6) (gn 6) (go 6) (gk 6) (gi 6) (gb 6)) :: (yG c4 (la 7) (gn 7) (go 7) (gk 7) (gi 7) (gb 7)) :: (yG c4 (la 8) (gn 8) (go 8) (gk 8) (gi 8) (gb 8)) :: Ts) (ad 10) (ad 11) la zlc zlS zmi zfo zax zco zth zpe zcd zdc zwc zdp lv (gn 0) (go 0) (gk 0) (gi 0) (gb 0) ((ad 3) 0) bt nt sd (ad 4) n os kd ic br q (ad 2) nb j t hn hY (by first | omega | decide) (by first | omega | decide)) (cwV 4 hts gX7_odds_X2_start rfl rfl rfl (by decide +kernel) (rmv (Nat.le_of_ble_eq_true rfl) (Nat.le_of_ble_eq_true rfl) hRf hRl)) hK trivial hw rfl rfl rfl hl rfl (Nat.le_of_ble_eq_true rfl) ⟨Nat.zero_le _, Nat.zero_le _⟩ dX7_odds_67 (fun u_67 H locs hpq hw => ?_)
            obtain ⟨kd2_67, ic2_67, br2_67⟩ := u_67
            have hw : gW D A js.heap ((sG c4 (ad 10) ((ad 11) 0) zlc zlS (nI j) t (pForce nb bt) (nb 5) zco zth zpe zcd zdc zwc lv) :: (yG c4 (la 0) (nI n) os kd2_67 ic2_67 br2_67) :: (wG ((ad 3) 0) ((ad 4) 0) bt nt sd) :: (yG c4 (ad 4) (nI n) os kd ic br) :: (bG c4 (ad 2) nb) :: (iG ad fp) :: (tG c4 (ad 11) bh mi fb ba) :: (yG c4 (la 1) (gn 1) (go 1) (gk 1) (gi 1) (gb 1)) :: (yG c4 (la 2) (gn 2) (go 2) (gk 2) (gi 2) (gb 2)) :: (yG c4 (la 3) (gn 3) (go 3) (gk 3) (gi 3) (gb 3)) :: (yG c4 (la 4) (gn 4) (go 4) (gk 4) (gi 4) (gb 4)) :: (yG c4 (la 5) (gn 5) (go 5) (gk 5) (gi 5) (gb 5)) :: (yG c4 (la 6) (gn 6) (go 6) (gk 6) (gi 6) (gb 6)) :: (yG c4 (la 7) (gn 7) (go 7) (gk 7) (gi 7) (gb 7)) :: (yG c4 (la 8) (gn 8) (go 8) (gk 8) (gi 8) (gb 8)) :: Ts) H locs := hw
            have hY_67 := hpq
            have hY_67 : yR q n os kd2_67 ic2_67 br2_67 := hY_67
            refine lv_aload_n hx hb dX7_odds_70 rfl (lv_at hl 0 rfl) ?_
            refine r_get (T := TX7) (v := .ref ((ad 10) 0)) hx hb hts hi7 hown hK hw 13 rfl rfl 8 (by decide) f_1 rfl dX7_odds_71 ?_
            refine lv_iload_n hx hb dX7_odds_74 rfl (lv_at hl 2 rfl) ?_
            refine lv_iload_n hx hb dX7_odds_75 rfl (lv_at hl 3 rfl) ?_
            refine lv_iload hx hb dX7_odds_76 (lv_at hl 4 rfl) ?_
            have hw := hw.m14
            have hw := hw.m14
            have hw := hw.m14
            have hw := hw.m14
            have hw := hw.m14
            have hw := hw.m14
            have hw := hw.m14
            have hw := hw.m14
            have hw := hw.m9
            have hw := hw.m14
            have hw := hw.m10
            refine c_vi (As := [.int c, .int d, .int w0]) (rest := []) ⟨hx, hb, hml, hown, hts⟩ (k_X2_findOdds l D c4 A ((wG ((ad 3) 0) ((ad 4) 0) bt nt sd) :: (yG c4 (ad 4) (nI n) os kd ic br) :: (bG c4 (ad 2) nb) :: (iG ad fp) :: Ts) (ad 10) (ad 11) la zlc zlS t (pForce nb bt) (nb 5) c zco d zth w0 zpe zcd zdc zwc j lv bh mi fb ba n os kd2_67 ic2_67 br2_67 q gn go gk gi gb (by first | omega | decide) hn hY_67 (fo_of htl bt) (coldI (h0_14 c_17)) hlv (thawI (h0_24 c_27))) (cwV 3 hts gX7_odds_X2_findOdds rfl rfl rfl (by decide +kernel) (rmv (Nat.le_of_ble_eq_true rfl) (Nat.le_of_ble_eq_true rfl) hRf hRl)) hK trivial hw rfl rfl rfl hl rfl (Nat.le_of_ble_eq_true rfl) ⟨Nat.zero_le _, Nat.zero_le _⟩ dX7_odds_78 (fun r_78 u_78 H locs hpq hw => ?_)
            obtain ⟨bh2_78, mi2_78, fb2_78, ba2_78, gn2_78, go2_78, gk2_78, gi2_78, gb2_78⟩ := u_78
            have hw : gW D A js.heap ((sG c4 (ad 10) ((ad 11) 0) zlc zlS (nI j) t (pForce nb bt) (nb 5) c d w0 zcd zdc zwc lv) :: (tG c4 (ad 11) bh2_78 mi2_78 fb2_78 ba2_78) :: (yG c4 (la 0) (nI n) os kd2_67 ic2_67 br2_67) :: (yG c4 (la 1) (gn2_78 1) (go2_78 1) (gk2_78 1) (gi2_78 1) (gb2_78 1)) :: (yG c4 (la 2) (gn2_78 2) (go2_78 2) (gk2_78 2) (gi2_78 2) (gb2_78 2)) :: (yG c4 (la 3) (gn2_78 3) (go2_78 3) (gk2_78 3) (gi2_78 3) (gb2_78 3)) :: (yG c4 (la 4) (gn2_78 4) (go2_78 4) (gk2_78 4) (gi2_78 4) (gb2_78 4)) :: (yG c4 (la 5) (gn2_78 5) (go2_78 5) (gk2_78 5) (gi2_78 5) (gb2_78 5)) :: (yG c4 (la 6) (gn2_78 6) (go2_78 6) (gk2_78 6) (gi2_78 6) (gb2_78 6)) :: (yG c4 (la 7) (gn2_78 7) (go2_78 7) (gk2_78 7) (gi2_78 7) (gb2_78 7)) :: (yG c4 (la 8) (gn2_78 8) (go2_78 8) (gk2_78 8) (gi2_78 8) (gb2_78 8)) :: (wG ((ad 3) 0) ((ad 4) 0) bt nt sd) :: (yG c4 (ad 4) (nI n) os kd ic br) :: (bG c4 (ad 2) nb) :: (iG ad fp) :: Ts) H locs := hw
            have er_78 := hpq
            have er_78 : r_78 = ((oddP n (pForce nb bt) (nb 5) t c d w0 (j - 0) q 1000000000).toInt32) := er_78
            subst er_78
            have hw := hw.m10
            have hw := hw.m10
            have hw := hw.m10
            have hw := hw.m10
            have hw := hw.m10
            have hw := hw.m10
            have hw := hw.m10
            have hw := hw.m10
            have hw := hw.m10
            have hw := hw.m10
            have hw := hw.m10
            have hw := hw.m12
            have hw := hw.m13
            have hw := hw.m13
            have hw := hw.m14
            exact kr ((oddP n (pForce nb bt) (nb 5) t c d w0 (j - 0) q 1000000000).toInt32) (zlc, zlS, (nI j), t, (pForce nb bt), (nb 5), c, d, w0, zcd, zdc, zwc, bh2_78, mi2_78, fb2_78, ba2_78, upd gn2_78 0 (nI n), upd go2_78 0 os, va_up gk2_78 0 kd2_67, va_up gi2_78 0 ic2_67, va_up gb2_78 0 br2_67) _ _ _ _ hw (by unfold oddsF; rw [if_pos (h0_4 c_7), if_pos (h0_14 c_17), if_pos (h0_24 c_27), if_pos (h0_35 c_38), if_pos (h0_43 c_46), ej, nI_clamp (by omega)]; rfl) dX7_odds_81
          · refine lv_ldc hx hb hown f_0 dX7_odds_49 ?_
            exact kr (-1000000002) (zlc, zlS, zdp, zmi, zfo, zax, zco, zth, zpe, zcd, zdc, zwc, bh, mi, fb, ba, gn, go, gk, gi, gb) _ _ _ _ hw (by unfold oddsF; rw [if_pos (h0_4 c_7), if_pos (h0_14 c_17), if_pos (h0_24 c_27), if_pos (h0_35 c_38), if_neg (notR (h1_43 c_46))]) dX7_odds_51
set_option maxHeartbeats 4000000 in
set_option maxRecDepth 100000 in
theorem k_X7_lost (l : Launch) (D : va_G) (c4 : Nat → ClassId) (A : Nat → Prop) (Ts : List va_W) (ad : Nat → Nat → Nat) (fp : Int32) (bt : Int32) (nt : Int32) (sd : Int32) (nb : Nat → Int32) (n : Nat) (os : Int32) (kd : Nat → Int32) (ic : Nat → Int32) (br : Nat → Int32) (q : Nat → Yq) (bh : Int32) (mi : Int32) (fb : Int32) (ba : Nat → Int32) (n0 : Int32) (os0 : Int32) (kd0 : Nat → Int32) (ic0 : Nat → Int32) (br0 : Nat → Int32) (c : Int32) (t : Int32) (hn : n ≤ 12) (hY : yR q n os kd ic br) (htl : tlOk nb) : Ci l yX7_lost wsX7_lost 4 79 [.ref ((ad 0) 0), .int c, .int t] D (tyA c4) A none ((iG ad fp) :: (wG ((ad 3) 0) ((ad 4) 0) bt nt sd) :: (bG c4 (ad 2) nb) :: (yG c4 (ad 4) (nI n) os kd ic br) :: (tG c4 (ad 8) bh mi fb ba) :: (yG c4 (ad 9) n0 os0 kd0 ic0 br0) :: Ts) (S := Int32 × Int32 × (Nat → Int32) × (Nat → Int32) × (Nat → Int32) × Int32 × Int32 × Int32 × (Nat → Int32)) (fun (r : Int32) (u : Int32 × Int32 × (Nat → Int32) × (Nat → Int32) × (Nat → Int32) × Int32 × Int32 × Int32 × (Nat → Int32)) => lostP c t (pForce nb bt) (nb 5) q n r) (fun u => ((iG ad fp) :: (wG ((ad 3) 0) ((ad 4) 0) bt nt sd) :: (bG c4 (ad 2) nb) :: (yG c4 (ad 4) (nI n) os kd ic br) :: (tG c4 (ad 8) u.2.2.2.2.2.1 u.2.2.2.2.2.2.1 u.2.2.2.2.2.2.2.1 u.2.2.2.2.2.2.2.2) :: (yG c4 (ad 9) u.1 u.2.1 u.2.2.1 u.2.2.2.1 u.2.2.2.2.1) :: Ts)) := by
  refine cOi (cc := cX7_lost) (maxL := 5) (by decide) rfl (Nat.le_of_ble_eq_true rfl) rfl ?_
  rintro jp je js jm below meth jc ls args R Q H locs hRf hRl ⟨hx, hb, hml, hr, hts, hown, hlocks, hK, hX⟩ hw hl kr
  have hown : js.vm.findClass RX7 = some jm.cls := hown
  have f_0 := hts (.constant RX7 74 (-1000000002)) (by decide +kernel)
  have f_1 := hts (.fieldLink RX7 55 "IceSway" "tried" "LIceSway$Yards;") (by decide +kernel)
  have f_2 := hts (.fieldLink RX7 26 "IceSway" "now" "LIceSway$Winter;") (by decide +kernel)
  have f_3 := hts (.fieldLink RX7 118 "IceSway$Winter" "yards" "LIceSway$Yards;") (by decide +kernel)
  have f_4 := hts (.fieldLink RX7 48 "IceSway" "trip" "LIceSway$Trip;") (by decide +kernel)
  have f_5 := hts (.fieldLink RX7 19 "IceSway" "boat" "LIceSway$Boat;") (by decide +kernel)
  have hi7 : ∀ w ∈ u_ws RX7 TX7 10, w ∈ wsX7_lost := fun w h => List.mem_cons_of_mem _ (List.mem_append_left _ (List.mem_append_left _ (List.mem_append_left _ (List.mem_append_left _ (List.mem_append_right _ h)))))
  have hi5 : ∀ w ∈ u_ws RX5 TX5 4, w ∈ wsX7_lost := fun w h => List.mem_cons_of_mem _ (List.mem_append_left _ (List.mem_append_left _ (List.mem_append_left _ (List.mem_append_right _ h))))
  refine lv_iload_n hx hb dX7_lost_0 rfl (lv_at hl 1 rfl) ?_
  refine lv_iconst (v := 0) hx hb dX7_lost_1 (by decide) ?_
  refine lv_bipush (v := 30) hx hb dX7_lost_2 (by decide) ?_
  refine c_si (As := [.int c, .int 0, .int 30]) (rest := []) ⟨hx, hb, hml, hown, hts⟩ (k_X7_isOut l D c4 A ((iG ad fp) :: (wG ((ad 3) 0) ((ad 4) 0) bt nt sd) :: (bG c4 (ad 2) nb) :: (yG c4 (ad 4) (nI n) os kd ic br) :: (tG c4 (ad 8) bh mi fb ba) :: (yG c4 (ad 9) n0 os0 kd0 ic0 br0) :: Ts) c 0 30) (va_cwS 3 hts gX7_lost_X7_isOut rfl rfl rfl (by decide +kernel) (rmv (Nat.le_of_ble_eq_true rfl) (Nat.le_of_ble_eq_true rfl) hRf hRl)) hK trivial hw rfl hl rfl (Nat.le_of_ble_eq_true rfl) ⟨Nat.zero_le _, Nat.zero_le _⟩ dX7_lost_4 (fun r_4 u_4 H locs hpq hw => ?_)
  obtain ⟨h0_4, h1_4, hz_4⟩ := hpq
  refine lv_if_ne (tgt := 17) hx hb dX7_lost_7 (by decide) (fun c_7 => ?_) (fun c_7 => ?_)
  · refine lv_ldc hx hb hown f_0 dX7_lost_17 ?_
    exact kr (-1000000002) (n0, os0, kd0, ic0, br0, bh, mi, fb, ba) _ _ _ _ hw ⟨fun z => absurd z (notR (h1_4 c_7)), fun _ => rfl⟩ dX7_lost_19
  · refine lv_iload_n hx hb dX7_lost_10 rfl (lv_at hl 2 rfl) ?_
    refine c_si (As := [.int t]) (rest := []) ⟨hx, hb, hml, hown, hts⟩ (k_X7_isOutOfDay l D c4 A ((iG ad fp) :: (wG ((ad 3) 0) ((ad 4) 0) bt nt sd) :: (bG c4 (ad 2) nb) :: (yG c4 (ad 4) (nI n) os kd ic br) :: (tG c4 (ad 8) bh mi fb ba) :: (yG c4 (ad 9) n0 os0 kd0 ic0 br0) :: Ts) t) (va_cwS 1 hts gX7_lost_X7_isOutOfDay rfl rfl rfl (by decide +kernel) (rmv (Nat.le_of_ble_eq_true rfl) (Nat.le_of_ble_eq_true rfl) hRf hRl)) hK trivial hw rfl hl rfl (Nat.le_of_ble_eq_true rfl) ⟨Nat.zero_le _, Nat.zero_le _⟩ dX7_lost_11 (fun r_11 u_11 H locs hpq hw => ?_)
    obtain ⟨h0_11, h1_11⟩ := hpq
    refine lv_if_eq (tgt := 20) hx hb dX7_lost_14 (by decide) (fun c_14 => ?_) (fun c_14 => ?_)
    · refine lv_aload_n hx hb dX7_lost_20 rfl (lv_at hl 0 rfl) ?_
      have hw := hw.m2
      have hw := hw.m2
      have hw := hw.m2
      refine c_vi (As := []) (rest := []) ⟨hx, hb, hml, hown, hts⟩ (k_X7_forceNow l D c4 A ((yG c4 (ad 4) (nI n) os kd ic br) :: (tG c4 (ad 8) bh mi fb ba) :: (yG c4 (ad 9) n0 os0 kd0 ic0 br0) :: Ts) ad fp bt nt sd nb) (cwV 0 hts gX7_lost_X7_forceNow rfl rfl rfl (by decide +kernel) (rmv (Nat.le_of_ble_eq_true rfl) (Nat.le_of_ble_eq_true rfl) hRf hRl)) hK trivial hw rfl rfl rfl hl rfl (Nat.le_of_ble_eq_true rfl) ⟨Nat.zero_le _, Nat.zero_le _⟩ dX7_lost_21 (fun r_21 u_21 H locs hpq hw => ?_)
      have er_21 := hpq
      subst er_21
      refine lv_istore_n (lv' := [(3, .int (pForce nb bt)), (0, .ref ((ad 0) 0)), (1, .int c), (2, .int t)]) hx hb dX7_lost_24 rfl hl (by decide) rfl (fun ls hl => ?_)
      refine lv_aload_n hx hb dX7_lost_25 rfl (lv_at hl 1 rfl) ?_
      refine r_get (T := TX7) (v := .ref ((ad 9) 0)) hx hb hts hi7 hown hK hw 0 rfl rfl 7 (by decide) f_1 rfl dX7_lost_26 ?_
      refine lv_aload_n hx hb dX7_lost_29 rfl (lv_at hl 1 rfl) ?_
      refine r_get (T := TX7) (v := .ref ((ad 3) 0)) hx hb hts hi7 hown hK hw 0 rfl rfl 2 (by decide) f_2 rfl dX7_lost_30 ?_
      refine r_get (T := TX5) (v := .ref ((ad 4) 0)) hx hb hts hi5 hown hK hw 1 rfl rfl 0 (by decide) f_3 rfl dX7_lost_33 ?_
      have hw := hw.m3
      have hw := hw.m5
      refine c_vv (As := [.ref ((ad 4) 0)]) (rest := []) ⟨hx, hb, hml, hown, hts⟩ (k_X6_copyFrom l D c4 A ((iG ad fp) :: (wG ((ad 3) 0) ((ad 4) 0) bt nt sd) :: (bG c4 (ad 2) nb) :: (tG c4 (ad 8) bh mi fb ba) :: Ts) (ad 9) n0 os0 kd0 ic0 br0 (ad 4) n os kd ic br q hn hY) (cwV 1 hts gX7_lost_X6_copyFrom rfl rfl rfl (by decide +kernel) (rmv (Nat.le_of_ble_eq_true rfl) (Nat.le_of_ble_eq_true rfl) hRf hRl)) hK trivial hw rfl rfl rfl hl rfl (Nat.le_of_ble_eq_true rfl) ⟨Nat.zero_le _, Nat.zero_le _⟩ dX7_lost_36 (fun u_36 H locs hpq hw => ?_)
      obtain ⟨kd2_36, ic2_36, br2_36⟩ := u_36
      have hw : gW D A js.heap ((yG c4 (ad 9) (nI n) os kd2_36 ic2_36 br2_36) :: (yG c4 (ad 4) (nI n) os kd ic br) :: (iG ad fp) :: (wG ((ad 3) 0) ((ad 4) 0) bt nt sd) :: (bG c4 (ad 2) nb) :: (tG c4 (ad 8) bh mi fb ba) :: Ts) H locs := hw
      have hY_36 := hpq
      have hY_36 : yR q n os kd2_36 ic2_36 br2_36 := hY_36
      refine lv_iconst (v := 0) hx hb dX7_lost_39 (by decide) ?_
      refine lv_istore (lv' := [(4, .int 0), (3, .int (pForce nb bt)), (0, .ref ((ad 0) 0)), (1, .int c), (2, .int t)]) hx hb dX7_lost_40 hl (by decide) rfl (fun ls hl => ?_)
      have loop_42 : ∀ (fuel : Nat) (d : Nat) (os1 : Int32) (kd1 : Nat → Int32) (ic1 : Nat → Int32) (br1 : Nat → Int32) (bh1 : Int32) (mi1 : Int32) (fb1 : Int32) (ba1 : Nat → Int32), (61 - d) < fuel → (d ≤ 61) → (yR (fun y => itQ (nightQ c) (d - 1) (q y)) n os1 kd1 ic1 br1) → (∀ j, j < d → ¬ ¬ psQ (pForce nb bt) (nb 5) t (fun y => itQ (nightQ c) j (q y)) n) → ∀ (H : Heap) (locs : List Loc), gW D A js.heap ((yG c4 (ad 9) (nI n) os1 kd1 ic1 br1) :: (yG c4 (ad 4) (nI n) os kd ic br) :: (iG ad fp) :: (wG ((ad 3) 0) ((ad 4) 0) bt nt sd) :: (bG c4 (ad 2) nb) :: (tG c4 (ad 8) bh1 mi1 fb1 ba1) :: Ts) H locs → ∀ (ls : Array Slot), lv_has ls 5 [(4, .int (nI d)), (3, .int (pForce nb bt)), (0, .ref ((ad 0) 0)), (1, .int c), (2, .int t)] → W jp l je R js jm args below meth jc H locs 0 0 Q (F0 jm 42 ls []) := by
        intro fuel
        induction fuel with
        | zero => intro d os1 kd1 ic1 br1 bh1 mi1 fb1 ba1 hm; exact absurd hm (Nat.not_lt_zero _)
        | succ fuel ih_42 =>
          intro d os1 kd1 ic1 br1 bh1 mi1 fb1 ba1 hm_42 hd hYi hN H locs hw ls hl
          refine lv_iload hx hb dX7_lost_42 (lv_at hl 0 rfl) ?_
          refine lv_bipush (v := 60) hx hb dX7_lost_44 (by decide) ?_
          refine r_cgt hx hb d 60 (by omega) (by omega) (tgt := 94) dX7_lost_46 (by decide) (fun c_46 => ?_) (fun c_46 => ?_)
          · refine lv_iconst (v := (-1)) hx hb dX7_lost_94 (by decide) ?_
            have hw := hw.m5
            have hw := hw.m2
            have hw := hw.m5
            have hw := hw.m5
            have hw := hw.m5
            exact kr (-1) ((nI n), os1, kd1, ic1, br1, bh1, mi1, fb1, ba1) _ _ _ _ hw ⟨fun _ _ => Or.inr ⟨fun j hj => hN j (by omega), rfl⟩, fun z => absurd ⟨h0_4 c_7, h0_11 c_14⟩ z⟩ dX7_lost_95
          · refine lv_iload hx hb dX7_lost_49 (lv_at hl 0 rfl) ?_
            have kj_51 : ∀ (os3 : Int32) (kd3 : Nat → Int32) (ic3 : Nat → Int32) (br3 : Nat → Int32), (yR (fun y => itQ (nightQ c) d (q y)) n os3 kd3 ic3 br3) → ∀ (H : Heap) (locs : List Loc), gW D A js.heap ((yG c4 (ad 9) (nI n) os3 kd3 ic3 br3) :: (yG c4 (ad 4) (nI n) os kd ic br) :: (iG ad fp) :: (wG ((ad 3) 0) ((ad 4) 0) bt nt sd) :: (bG c4 (ad 2) nb) :: (tG c4 (ad 8) bh1 mi1 fb1 ba1) :: Ts) H locs → ∀ (ls : Array Slot), lv_has ls 5 [(4, .int (nI d)), (3, .int (pForce nb bt)), (0, .ref ((ad 0) 0)), (1, .int c), (2, .int t)] → W jp l je R js jm args below meth jc H locs 0 0 Q (F0 jm 62 ls []) := by
              intro os3 kd3 ic3 br3 hYd H locs hw ls hl
              refine lv_aload_n hx hb dX7_lost_62 rfl (lv_at hl 2 rfl) ?_
              refine r_get (T := TX7) (v := .ref ((ad 8) 0)) hx hb hts hi7 hown hK hw 8 rfl rfl 6 (by decide) f_4 rfl dX7_lost_63 ?_
              refine lv_aload_n hx hb dX7_lost_66 rfl (lv_at hl 2 rfl) ?_
              refine r_get (T := TX7) (v := .ref ((ad 9) 0)) hx hb hts hi7 hown hK hw 8 rfl rfl 7 (by decide) f_1 rfl dX7_lost_67 ?_
              refine lv_iload_n hx hb dX7_lost_70 rfl (lv_at hl 1 rfl) ?_
              refine lv_aload_n hx hb dX7_lost_71 rfl (lv_at hl 2 rfl) ?_
              refine r_get (T := TX7) (v := .ref ((ad 2) 0)) hx hb hts hi7 hown hK hw 8 rfl rfl 1 (by decide) f_5 rfl dX7_lost_72 ?_
              have hw := hw.m4
              refine c_vi (As := []) (rest := [.int (pForce nb bt), .ref ((ad 9) 0), .ref ((ad 8) 0)]) ⟨hx, hb, hml, hown, hts⟩ (k_X0_axeMinutes l D c4 A ((yG c4 (ad 9) (nI n) os3 kd3 ic3 br3) :: (yG c4 (ad 4) (nI n) os kd ic br) :: (iG ad fp) :: (wG ((ad 3) 0) ((ad 4) 0) bt nt sd) :: (tG c4 (ad 8) bh1 mi1 fb1 ba1) :: Ts) (ad 2) nb) (cwV 0 hts gX7_lost_X0_axeMinutes rfl rfl rfl (by decide +kernel) (rmv (Nat.le_of_ble_eq_true rfl) (Nat.le_of_ble_eq_true rfl) hRf hRl)) hK trivial hw rfl rfl rfl hl rfl (Nat.le_of_ble_eq_true rfl) ⟨Nat.zero_le _, Nat.zero_le _⟩ dX7_lost_75 (fun r_75 u_75 H locs hpq hw => ?_)
              have er_75 := hpq
              subst er_75
              refine lv_iload_n hx hb dX7_lost_78 rfl (lv_at hl 4 rfl) ?_
              have hw := hw.m1
              have hw := hw.m5
              refine c_vi (As := [.ref ((ad 9) 0), .int (pForce nb bt), .int (nb 5), .int t]) (rest := []) ⟨hx, hb, hml, hown, hts⟩ (k_X4_passes l D c4 A ((bG c4 (ad 2) nb) :: (yG c4 (ad 4) (nI n) os kd ic br) :: (iG ad fp) :: (wG ((ad 3) 0) ((ad 4) 0) bt nt sd) :: Ts) (ad 8) bh1 mi1 fb1 ba1 (ad 9) n os3 kd3 ic3 br3 (fun y => itQ (nightQ c) d (q y)) (pForce nb bt) (nb 5) t hn hYd (fo_of htl bt)) (cwV 4 hts gX7_lost_X4_passes rfl rfl rfl (by decide +kernel) (rmv (Nat.le_of_ble_eq_true rfl) (Nat.le_of_ble_eq_true rfl) hRf hRl)) hK trivial hw rfl rfl rfl hl rfl (Nat.le_of_ble_eq_true rfl) ⟨Nat.zero_le _, Nat.zero_le _⟩ dX7_lost_79 (fun r_79 u_79 H locs hpq hw => ?_)
              obtain ⟨b2_79, ba2_79⟩ := u_79
              have hw : gW D A js.heap ((tG c4 (ad 8) (nI b2_79) (cumQ (pForce nb bt) (nb 5) (fun y => itQ (nightQ c) d (q y)) b2_79) (fbQ (fun y => itQ (nightQ c) d (q y)) b2_79) ba2_79) :: (yG c4 (ad 9) (nI n) os3 kd3 ic3 br3) :: (bG c4 (ad 2) nb) :: (yG c4 (ad 4) (nI n) os kd ic br) :: (iG ad fp) :: (wG ((ad 3) 0) ((ad 4) 0) bt nt sd) :: Ts) H locs := hw
              obtain ⟨h0_79, h1_79, hb2_79, hba_79⟩ := hpq
              have h0_79 : r_79 = 0 → ¬ b2_79 = n := h0_79
              have h1_79 : ¬ r_79 = 0 → b2_79 = n := h1_79
              have hb2_79 : b2_79 = bhQ (pForce nb bt) (nb 5) t (fun y => itQ (nightQ c) d (q y)) n := hb2_79
              have hba_79 : ∀ k, k < b2_79 → ba2_79 k = cumQ (pForce nb bt) (nb 5) (fun y => itQ (nightQ c) d (q y)) (k + 1) := hba_79
              refine lv_if_ne (tgt := 88) hx hb dX7_lost_82 (by decide) (fun c_82 => ?_) (fun c_82 => ?_)
              · refine lv_iinc (v := (nI (d + 1))) (lv' := [(4, .int (nI (d + 1))), (3, .int (pForce nb bt)), (0, .ref ((ad 0) 0)), (1, .int c), (2, .int t)]) hx hb dX7_lost_88 hl (k := 0) rfl (nI_add _ _) (by decide) rfl (fun ls hl => ?_)
                refine lv_goto (tgt := 42) hx hb dX7_lost_91 (by decide) ?_
                have hw := hw.m2
                have hw := hw.m5
                have hw := hw.m5
                have hw := hw.m5
                have hw := hw.m5
                exact ih_42 (d + 1) os3 kd3 ic3 br3 (nI b2_79) (cumQ (pForce nb bt) (nb 5) (fun y => itQ (nightQ c) d (q y)) b2_79) (fbQ (fun y => itQ (nightQ c) d (q y)) b2_79) ba2_79 (by omega) (by omega) hYd (lt_s hN (fun z => z (hb2_79.symm.trans (h1_79 c_82)))) _ _ hw ls (lv_sub hl [0, 1, 2, 3, 4] rfl)
              · refine lv_iload hx hb dX7_lost_85 (lv_at hl 0 rfl) ?_
                have hw := hw.m1
                have hw := hw.m1
                have hw := hw.m3
                have hw := hw.m3
                have hw := hw.m5
                have hw := hw.m5
                exact kr (nI d) ((nI n), os3, kd3, ic3, br3, (nI b2_79), (cumQ (pForce nb bt) (nb 5) (fun y => itQ (nightQ c) d (q y)) b2_79), (fbQ (fun y => itQ (nightQ c) d (q y)) b2_79), ba2_79) _ _ _ _ hw ⟨fun _ _ => Or.inl ⟨d, by omega, fun z => h0_79 c_82 (hb2_79.trans z), hN, rfl⟩, fun z => absurd ⟨h0_4 c_7, h0_11 c_14⟩ z⟩ dX7_lost_87
            refine r_zle hx hb d (by omega) (tgt := 62) dX7_lost_51 (by decide) (fun c_51 => ?_) (fun c_51 => ?_)
            · exact kj_51 os1 kd1 ic1 br1 (it_zero c_51 hYi) _ _ hw ls (lv_sub hl [0, 1, 2, 3, 4] rfl)
            · refine lv_aload_n hx hb dX7_lost_54 rfl (lv_at hl 2 rfl) ?_
              refine r_get (T := TX7) (v := .ref ((ad 9) 0)) hx hb hts hi7 hown hK hw 8 rfl rfl 7 (by decide) f_1 rfl dX7_lost_55 ?_
              refine lv_iload_n hx hb dX7_lost_58 rfl (lv_at hl 3 rfl) ?_
              refine c_vv (As := [.int c]) (rest := []) ⟨hx, hb, hml, hown, hts⟩ (k_X6_freeze l D c4 A ((yG c4 (ad 4) (nI n) os kd ic br) :: (iG ad fp) :: (wG ((ad 3) 0) ((ad 4) 0) bt nt sd) :: (bG c4 (ad 2) nb) :: (tG c4 (ad 8) bh1 mi1 fb1 ba1) :: Ts) (ad 9) n os1 kd1 ic1 br1 (fun y => itQ (nightQ c) (d - 1) (q y)) c hn hYi (coldI (h0_4 c_7))) (cwV 1 hts gX7_lost_X6_freeze rfl rfl rfl (by decide +kernel) (rmv (Nat.le_of_ble_eq_true rfl) (Nat.le_of_ble_eq_true rfl) hRf hRl)) hK trivial hw rfl rfl rfl hl rfl (Nat.le_of_ble_eq_true rfl) ⟨Nat.zero_le _, Nat.zero_le _⟩ dX7_lost_59 (fun u_59 H locs hpq hw => ?_)
              obtain ⟨os2_59, kd2_59, ic2_59, br2_59⟩ := u_59
              have hw : gW D A js.heap ((yG c4 (ad 9) (nI n) os2_59 kd2_59 ic2_59 br2_59) :: (yG c4 (ad 4) (nI n) os kd ic br) :: (iG ad fp) :: (wG ((ad 3) 0) ((ad 4) 0) bt nt sd) :: (bG c4 (ad 2) nb) :: (tG c4 (ad 8) bh1 mi1 fb1 ba1) :: Ts) H locs := hw
              have hY_59 := hpq
              have hY_59 : yR (fun y => nightQ c ((fun y => itQ (nightQ c) (d - 1) (q y)) y)) n os2_59 kd2_59 ic2_59 br2_59 := hY_59
              exact kj_51 os2_59 kd2_59 ic2_59 br2_59 (it_succ c_51 hY_59) _ _ hw ls (lv_sub hl [0, 1, 2, 3, 4] rfl)
      exact loop_42 ((61 - 0) + 1) 0 os kd2_36 ic2_36 br2_36 bh mi fb ba (Nat.lt_succ_self _) (Nat.zero_le _) hY_36 (fun j h => absurd h (Nat.not_lt_zero j)) _ _ hw ls (lv_sub hl [0, 1, 2, 3, 4] rfl)
    · refine lv_ldc hx hb hown f_0 dX7_lost_17 ?_
      exact kr (-1000000002) (n0, os0, kd0, ic0, br0, bh, mi, fb, ba) _ _ _ _ hw ⟨fun _ z => absurd z (notR (h1_11 c_14)), fun _ => rfl⟩ dX7_lost_19
set_option maxHeartbeats 4000000 in
set_option maxRecDepth 100000 in
theorem k_X7_noFall (l : Launch) (D : va_G) (c4 : Nat → ClassId) (A : Nat → Prop) (Ts : List va_W) (ad : Nat → Nat → Nat) (fp : Int32) (nb : Nat → Int32) (m : Int32) (w0 : Int32) (htl : tlOk nb) : Ci l yX7_noFall wsX7_noFall 1 22 [.ref ((ad 0) 0), .int m, .int w0] D (tyA c4) A none ((iG ad fp) :: (bG c4 (ad 2) nb) :: Ts) (S := Unit) (fun (r : Int32) (u : Unit) => r = (noFF m w0 (nb 0))) (fun u => ((iG ad fp) :: (bG c4 (ad 2) nb) :: Ts)) := by
  refine cOi (cc := cX7_noFall) (maxL := 7) (by decide) rfl (Nat.le_of_ble_eq_true rfl) rfl ?_
  rintro jp je js jm below meth jc ls args R Q H locs hRf hRl ⟨hx, hb, hml, hr, hts, hown, hlocks, hK, hX⟩ hw hl kr
  have hown : js.vm.findClass RX7 = some jm.cls := hown
  have f_0 := hts (.constant RX7 74 (-1000000002)) (by decide +kernel)
  have f_1 := hts (.constantLong RX7 247 (1000000000)) (by decide +kernel)
  have f_2 := hts (.fieldLink RX7 19 "IceSway" "boat" "LIceSway$Boat;") (by decide +kernel)
  have f_3 := hts (.constantLong RX7 249 (1000)) (by decide +kernel)
  have hi7 : ∀ w ∈ u_ws RX7 TX7 10, w ∈ wsX7_noFall := fun w h => List.mem_cons_of_mem _ (List.mem_append_left _ (List.mem_append_right _ h))
  refine lv_iload_n hx hb dX7_noFall_0 rfl (lv_at hl 1 rfl) ?_
  refine lv_iconst (v := 0) hx hb dX7_noFall_1 (by decide) ?_
  refine lv_bipush (v := 99) hx hb dX7_noFall_2 (by decide) ?_
  refine c_si (As := [.int m, .int 0, .int 99]) (rest := []) ⟨hx, hb, hml, hown, hts⟩ (k_X7_isOut l D c4 A ((iG ad fp) :: (bG c4 (ad 2) nb) :: Ts) m 0 99) (va_cwS 3 hts gX7_noFall_X7_isOut rfl rfl rfl (by decide +kernel) (rmv (Nat.le_of_ble_eq_true rfl) (Nat.le_of_ble_eq_true rfl) hRf hRl)) hK trivial hw rfl hl rfl (Nat.le_of_ble_eq_true rfl) ⟨Nat.zero_le _, Nat.zero_le _⟩ dX7_noFall_4 (fun r_4 u_4 H locs hpq hw => ?_)
  obtain ⟨h0_4, h1_4, hz_4⟩ := hpq
  refine lv_if_ne (tgt := 21) hx hb dX7_noFall_7 (by decide) (fun c_7 => ?_) (fun c_7 => ?_)
  · refine lv_ldc hx hb hown f_0 dX7_noFall_21 ?_
    exact kr (-1000000002) () _ _ _ _ hw (by unfold noFF; rw [if_neg (notR (h1_4 c_7))]) dX7_noFall_23
  · refine lv_iload_n hx hb dX7_noFall_10 rfl (lv_at hl 2 rfl) ?_
    refine lv_iconst (v := 0) hx hb dX7_noFall_11 (by decide) ?_
    refine lv_sipush (v := 1000) hx hb dX7_noFall_12 (by decide) ?_
    refine c_si (As := [.int w0, .int 0, .int 1000]) (rest := []) ⟨hx, hb, hml, hown, hts⟩ (k_X7_isOut l D c4 A ((iG ad fp) :: (bG c4 (ad 2) nb) :: Ts) w0 0 1000) (va_cwS 3 hts gX7_noFall_X7_isOut rfl rfl rfl (by decide +kernel) (rmv (Nat.le_of_ble_eq_true rfl) (Nat.le_of_ble_eq_true rfl) hRf hRl)) hK trivial hw rfl hl rfl (Nat.le_of_ble_eq_true rfl) ⟨Nat.zero_le _, Nat.zero_le _⟩ dX7_noFall_15 (fun r_15 u_15 H locs hpq hw => ?_)
    obtain ⟨h0_15, h1_15, hz_15⟩ := hpq
    refine lv_if_eq (tgt := 24) hx hb dX7_noFall_18 (by decide) (fun c_18 => ?_) (fun c_18 => ?_)
    · obtain ⟨jm0, hm0, hm9, em⟩ := (show inR m 0 99 from h0_4 c_7).nat (a := 0) (b := 99) rfl rfl
      obtain ⟨jh, hh0, hh9, eh⟩ := ra_nat (a := 1) (b := 12) htl.1
      have hjj : jm0 * jh ≤ 99 * 12 := Nat.mul_le_mul hm9 hh9
      refine lv_ldc2 hx hb hown f_1 dX7_noFall_24 ?_
      refine lv_lstore_n (lv' := [(3, .long 1000000000), (0, .ref ((ad 0) 0)), (1, .int m), (2, .int w0)]) hx hb dX7_noFall_27 rfl hl (by decide) rfl (fun ls hl => ?_)
      refine lv_iload_n hx hb dX7_noFall_28 rfl (lv_at hl 2 rfl) ?_
      refine lv_aload_n hx hb dX7_noFall_29 rfl (lv_at hl 1 rfl) ?_
      refine r_get (T := TX7) (v := .ref ((ad 2) 0)) hx hb hts hi7 hown hK hw 0 rfl rfl 1 (by decide) f_2 rfl dX7_noFall_30 ?_
      have hw := hw.m1
      refine c_vi (As := []) (rest := [.int m]) ⟨hx, hb, hml, hown, hts⟩ (k_X0_horsesTold l D c4 A ((iG ad fp) :: Ts) (ad 2) nb) (cwV 0 hts gX7_noFall_X0_horsesTold rfl rfl rfl (by decide +kernel) (rmv (Nat.le_of_ble_eq_true rfl) (Nat.le_of_ble_eq_true rfl) hRf hRl)) hK trivial hw rfl rfl rfl hl rfl (Nat.le_of_ble_eq_true rfl) ⟨Nat.zero_le _, Nat.zero_le _⟩ dX7_noFall_33 (fun r_33 u_33 H locs hpq hw => ?_)
      have er_33 := hpq
      subst er_33
      refine lv_imul hx hb dX7_noFall_36 ?_
      refine r_top (y := nI (jm0 * jh)) (by rw [em, eh, pk_mul]) ?_
      refine lv_istore (lv' := [(5, .int (nI (jm0 * jh))), (3, .long 1000000000), (0, .ref ((ad 0) 0)), (1, .int m), (2, .int w0)]) hx hb dX7_noFall_37 hl (by decide) rfl (fun ls hl => ?_)
      refine lv_iconst (v := 0) hx hb dX7_noFall_39 (by decide) ?_
      refine lv_istore (lv' := [(6, .int 0), (5, .int (nI (jm0 * jh))), (3, .long 1000000000), (0, .ref ((ad 0) 0)), (1, .int m), (2, .int w0)]) hx hb dX7_noFall_40 hl (by decide) rfl (fun ls hl => ?_)
      have loop_42 : ∀ (fuel : Nat) (i : Nat), (jm0 * jh - i) < fuel → (i ≤ jm0 * jh) → ∀ (H : Heap) (locs : List Loc), gW D A js.heap ((bG c4 (ad 2) nb) :: (iG ad fp) :: Ts) H locs → ∀ (ls : Array Slot), lv_has ls 7 [(6, .int (nI i)), (5, .int (nI (jm0 * jh))), (3, .long (nfI w0 i)), (0, .ref ((ad 0) 0)), (1, .int m), (2, .int w0)] → W jp l je R js jm args below meth jc H locs 0 0 Q (F0 jm 42 ls []) := by
        intro fuel
        induction fuel with
        | zero => intro i hm; exact absurd hm (Nat.not_lt_zero _)
        | succ fuel ih_42 =>
          intro i hm_42 hi H locs hw ls hl
          refine lv_iload hx hb dX7_noFall_42 (lv_at hl 0 rfl) ?_
          refine lv_iload hx hb dX7_noFall_44 (lv_at hl 1 rfl) ?_
          refine r_cge hx hb i (jm0 * jh) (by omega) (by omega) (tgt := 68) dX7_noFall_46 (by decide) (fun c_46 => ?_) (fun c_46 => ?_)
          · refine lv_lload_n hx hb dX7_noFall_68 rfl (lv_at hl 2 rfl) ?_
            refine lv_l2i hx hb dX7_noFall_69 rfl ?_
            have hw := hw.m1
            exact kr ((nfI w0 i).toInt32) () _ _ _ _ hw (by unfold noFF; rw [if_pos (h0_4 c_7), if_pos (h0_15 c_18), em, eh, pk_mul, nI_clamp (by omega), show jm0 * jh = i by omega]) dX7_noFall_70
          · refine lv_lload_n hx hb dX7_noFall_49 rfl (lv_at hl 2 rfl) ?_
            refine lv_sipush (v := 1000) hx hb dX7_noFall_50 (by decide) ?_
            refine lv_iload_n hx hb dX7_noFall_53 rfl (lv_at hl 5 rfl) ?_
            refine lv_isub hx hb dX7_noFall_54 ?_
            refine lv_i2l hx hb dX7_noFall_55 rfl ?_
            refine lv_lmul hx hb dX7_noFall_56 ?_
            refine lv_ldc2 hx hb hown f_3 dX7_noFall_57 ?_
            refine lv_ldiv hx hb dX7_noFall_60 (by decide) ?_
            refine lv_lstore_n (lv' := [(3, .long (((nfI w0 i) * ((1000 - w0).toInt64)) / 1000)), (6, .int (nI i)), (5, .int (nI (jm0 * jh))), (0, .ref ((ad 0) 0)), (1, .int m), (2, .int w0)]) hx hb dX7_noFall_61 rfl hl (by decide) rfl (fun ls hl => ?_)
            refine lv_iinc (v := (nI (i + 1))) (lv' := [(6, .int (nI (i + 1))), (3, .long (((nfI w0 i) * ((1000 - w0).toInt64)) / 1000)), (5, .int (nI (jm0 * jh))), (0, .ref ((ad 0) 0)), (1, .int m), (2, .int w0)]) hx hb dX7_noFall_62 hl (k := 1) rfl (nI_add _ _) (by decide) rfl (fun ls hl => ?_)
            refine lv_goto (tgt := 42) hx hb dX7_noFall_65 (by decide) ?_
            exact ih_42 (i + 1) (by omega) (by omega) _ _ hw ls (lv_sub hl [0, 2, 1, 3, 4, 5] rfl)
      exact loop_42 ((jm0 * jh - 0) + 1) 0 (Nat.lt_succ_self _) (Nat.zero_le _) _ _ hw ls (lv_sub hl [0, 1, 2, 3, 4, 5] rfl)
    · refine lv_ldc hx hb hown f_0 dX7_noFall_21 ?_
      exact kr (-1000000002) () _ _ _ _ hw (by unfold noFF; rw [if_pos (h0_4 c_7), if_neg (notR (h1_15 c_18))]) dX7_noFall_23
set_option maxHeartbeats 4000000 in
set_option maxRecDepth 100000 in
theorem k_X7_bore (l : Launch) (D : va_G) (c4 : Nat → ClassId) (A : Nat → Prop) (Ts : List va_W) (ad : Nat → Nat → Nat) (fp : Int32) (bt : Int32) (nt : Int32) (sd : Int32) (n : Nat) (os : Int32) (kd : Nat → Int32) (ic : Nat → Int32) (br : Nat → Int32) (q : Nat → Yq) (bc : Nat) (ec : Nat) (by0 : Nat → Int32) (bn : Nat → Int32) (bd : Nat → Int32) (bi : Nat → Int32) (ey : Nat → Int32) (ei : Nat → Int32) (y : Int32) (k : Int32) (c : Int32) (v : Int32) (hn : n ≤ 12) (hY : yR q n os kd ic br) (hbc : bc ≤ 10) : Ci l yX7_bore wsX7_bore 1 24 [.ref ((ad 0) 0), .int y, .int k, .int c, .int v] D (tyA c4) A none ((iG ad fp) :: (wG ((ad 3) 0) ((ad 4) 0) bt nt sd) :: (yG c4 (ad 4) (nI n) os kd ic br) :: (rG c4 (ad 7) (nI bc) (nI ec) by0 bn bd bi ey ei) :: Ts) (S := Nat × (Nat → Int32) × (Nat → Int32) × (Nat → Int32) × (Nat → Int32)) (fun (r : Int32) (u : Nat × (Nat → Int32) × (Nat → Int32) × (Nat → Int32) × (Nat → Int32)) => ((r, u.1) = boreF n bc y k c v) ∧ (rowB (okB n bc y k c v) by0 u.2.1 bc y ∧ rowB (okB n bc y k c v) bn u.2.2.1 bc k ∧ rowB (okB n bc y k c v) bd u.2.2.2.1 bc c ∧ rowB (okB n bc y k c v) bi u.2.2.2.2 bc v)) (fun u => ((iG ad fp) :: (wG ((ad 3) 0) ((ad 4) 0) bt nt sd) :: (yG c4 (ad 4) (nI n) os kd ic br) :: (rG c4 (ad 7) (nI u.1) (nI ec) u.2.1 u.2.2.1 u.2.2.2.1 u.2.2.2.2 ey ei) :: Ts)) := by
  refine cOi (cc := cX7_bore) (maxL := 5) (by decide) rfl (Nat.le_of_ble_eq_true rfl) rfl ?_
  rintro jp je js jm below meth jc ls args R Q H locs hRf hRl ⟨hx, hb, hml, hr, hts, hown, hlocks, hK, hX⟩ hw hl kr
  have hown : js.vm.findClass RX7 = some jm.cls := hown
  have f_0 := hts (.fieldLink RX7 26 "IceSway" "now" "LIceSway$Winter;") (by decide +kernel)
  have f_1 := hts (.fieldLink RX7 118 "IceSway$Winter" "yards" "LIceSway$Yards;") (by decide +kernel)
  have f_2 := hts (.constant RX7 74 (-1000000002)) (by decide +kernel)
  have f_3 := hts (.fieldLink RX7 41 "IceSway" "records" "LIceSway$Records;") (by decide +kernel)
  have f_4 := hts (.constant RX7 79 (-1000000004)) (by decide +kernel)
  have f_5 := hts (.fieldLink RX7 145 "IceSway$Records" "boredCount" "I") (by decide +kernel)
  have f_6 := hts (.constant RX7 155 (-1000000001)) (by decide +kernel)
  have hi7 : ∀ w ∈ u_ws RX7 TX7 10, w ∈ wsX7_bore := fun w h => List.mem_cons_of_mem _ (List.mem_append_left _ (List.mem_append_left _ (List.mem_append_left _ (List.mem_append_right _ h))))
  have hi5 : ∀ w ∈ u_ws RX5 TX5 4, w ∈ wsX7_bore := fun w h => List.mem_cons_of_mem _ (List.mem_append_left _ (List.mem_append_left _ (List.mem_append_right _ h)))
  have hi1 : ∀ w ∈ u_ws RX1 TX1 8, w ∈ wsX7_bore := fun w h => List.mem_cons_of_mem _ (List.mem_append_left _ (List.mem_append_right _ h))
  refine lv_aload_n hx hb dX7_bore_0 rfl (lv_at hl 0 rfl) ?_
  refine r_get (T := TX7) (v := .ref ((ad 3) 0)) hx hb hts hi7 hown hK hw 0 rfl rfl 2 (by decide) f_0 rfl dX7_bore_1 ?_
  refine r_get (T := TX5) (v := .ref ((ad 4) 0)) hx hb hts hi5 hown hK hw 1 rfl rfl 0 (by decide) f_1 rfl dX7_bore_4 ?_
  refine lv_iload_n hx hb dX7_bore_7 rfl (lv_at hl 1 rfl) ?_
  have hw := hw.m2
  refine c_vi (As := [.int y]) (rest := []) ⟨hx, hb, hml, hown, hts⟩ (k_X6_has l D c4 A ((iG ad fp) :: (wG ((ad 3) 0) ((ad 4) 0) bt nt sd) :: (rG c4 (ad 7) (nI bc) (nI ec) by0 bn bd bi ey ei) :: Ts) (ad 4) n os kd ic br y hn) (cwV 1 hts gX7_bore_X6_has rfl rfl rfl (by decide +kernel) (rmv (Nat.le_of_ble_eq_true rfl) (Nat.le_of_ble_eq_true rfl) hRf hRl)) hK trivial hw rfl rfl rfl hl rfl (Nat.le_of_ble_eq_true rfl) ⟨Nat.zero_le _, Nat.zero_le _⟩ dX7_bore_8 (fun r_8 u_8 H locs hpq hw => ?_)
  obtain ⟨h0_8, h1_8⟩ := hpq
  refine lv_if_ne (tgt := 17) hx hb dX7_bore_11 (by decide) (fun c_11 => ?_) (fun c_11 => ?_)
  · obtain ⟨ky, hky, eky⟩ := h1_8 c_11
    have hiy : isY n y := by rw [eky]; exact isY_nI hky hn
    refine lv_iload_n hx hb dX7_bore_17 rfl (lv_at hl 2 rfl) ?_
    refine lv_iconst (v := 0) hx hb dX7_bore_18 (by decide) ?_
    refine lv_bipush (v := 9) hx hb dX7_bore_19 (by decide) ?_
    refine c_si (As := [.int k, .int 0, .int 9]) (rest := []) ⟨hx, hb, hml, hown, hts⟩ (k_X7_isOut l D c4 A ((yG c4 (ad 4) (nI n) os kd ic br) :: (iG ad fp) :: (wG ((ad 3) 0) ((ad 4) 0) bt nt sd) :: (rG c4 (ad 7) (nI bc) (nI ec) by0 bn bd bi ey ei) :: Ts) k 0 9) (va_cwS 3 hts gX7_bore_X7_isOut rfl rfl rfl (by decide +kernel) (rmv (Nat.le_of_ble_eq_true rfl) (Nat.le_of_ble_eq_true rfl) hRf hRl)) hK trivial hw rfl hl rfl (Nat.le_of_ble_eq_true rfl) ⟨Nat.zero_le _, Nat.zero_le _⟩ dX7_bore_21 (fun r_21 u_21 H locs hpq hw => ?_)
    obtain ⟨h0_21, h1_21, hz_21⟩ := hpq
    refine lv_if_ne (tgt := 49) hx hb dX7_bore_24 (by decide) (fun c_24 => ?_) (fun c_24 => ?_)
    · refine lv_ldc hx hb hown f_2 dX7_bore_49 ?_
      have hw := hw.m3
      have hw := hw.m1
      have hw := hw.m3
      have hw := hw.m3
      exact kr (-1000000002) (bc, by0, bn, bd, bi) _ _ _ _ hw ⟨(by unfold boreF; rw [if_pos hiy, if_neg (notR (h1_21 c_24))]), ⟨rowB.no (fun z => notR (h1_21 c_24) z.2.1), rowB.no (fun z => notR (h1_21 c_24) z.2.1), rowB.no (fun z => notR (h1_21 c_24) z.2.1), rowB.no (fun z => notR (h1_21 c_24) z.2.1)⟩⟩ dX7_bore_51
    · refine lv_iload_n hx hb dX7_bore_27 rfl (lv_at hl 3 rfl) ?_
      refine lv_iconst (v := 0) hx hb dX7_bore_28 (by decide) ?_
      refine lv_bipush (v := 30) hx hb dX7_bore_29 (by decide) ?_
      refine c_si (As := [.int c, .int 0, .int 30]) (rest := []) ⟨hx, hb, hml, hown, hts⟩ (k_X7_isOut l D c4 A ((yG c4 (ad 4) (nI n) os kd ic br) :: (iG ad fp) :: (wG ((ad 3) 0) ((ad 4) 0) bt nt sd) :: (rG c4 (ad 7) (nI bc) (nI ec) by0 bn bd bi ey ei) :: Ts) c 0 30) (va_cwS 3 hts gX7_bore_X7_isOut rfl rfl rfl (by decide +kernel) (rmv (Nat.le_of_ble_eq_true rfl) (Nat.le_of_ble_eq_true rfl) hRf hRl)) hK trivial hw rfl hl rfl (Nat.le_of_ble_eq_true rfl) ⟨Nat.zero_le _, Nat.zero_le _⟩ dX7_bore_31 (fun r_31 u_31 H locs hpq hw => ?_)
      obtain ⟨h0_31, h1_31, hz_31⟩ := hpq
      refine lv_if_ne (tgt := 49) hx hb dX7_bore_34 (by decide) (fun c_34 => ?_) (fun c_34 => ?_)
      · refine lv_ldc hx hb hown f_2 dX7_bore_49 ?_
        have hw := hw.m3
        have hw := hw.m1
        have hw := hw.m3
        have hw := hw.m3
        exact kr (-1000000002) (bc, by0, bn, bd, bi) _ _ _ _ hw ⟨(by unfold boreF; rw [if_pos hiy, if_pos (h0_21 c_24), if_neg (notR (h1_31 c_34))]), ⟨rowB.no (fun z => notR (h1_31 c_34) z.2.2.1), rowB.no (fun z => notR (h1_31 c_34) z.2.2.1), rowB.no (fun z => notR (h1_31 c_34) z.2.2.1), rowB.no (fun z => notR (h1_31 c_34) z.2.2.1)⟩⟩ dX7_bore_51
      · refine lv_iload hx hb dX7_bore_37 (lv_at hl 4 rfl) ?_
        refine lv_iconst (v := 0) hx hb dX7_bore_39 (by decide) ?_
        refine lv_sipush (v := 300) hx hb dX7_bore_40 (by decide) ?_
        refine c_si (As := [.int v, .int 0, .int 300]) (rest := []) ⟨hx, hb, hml, hown, hts⟩ (k_X7_isOut l D c4 A ((yG c4 (ad 4) (nI n) os kd ic br) :: (iG ad fp) :: (wG ((ad 3) 0) ((ad 4) 0) bt nt sd) :: (rG c4 (ad 7) (nI bc) (nI ec) by0 bn bd bi ey ei) :: Ts) v 0 300) (va_cwS 3 hts gX7_bore_X7_isOut rfl rfl rfl (by decide +kernel) (rmv (Nat.le_of_ble_eq_true rfl) (Nat.le_of_ble_eq_true rfl) hRf hRl)) hK trivial hw rfl hl rfl (Nat.le_of_ble_eq_true rfl) ⟨Nat.zero_le _, Nat.zero_le _⟩ dX7_bore_43 (fun r_43 u_43 H locs hpq hw => ?_)
        obtain ⟨h0_43, h1_43, hz_43⟩ := hpq
        refine lv_if_eq (tgt := 52) hx hb dX7_bore_46 (by decide) (fun c_46 => ?_) (fun c_46 => ?_)
        · refine lv_aload_n hx hb dX7_bore_52 rfl (lv_at hl 0 rfl) ?_
          refine r_get (T := TX7) (v := .ref ((ad 7) 0)) hx hb hts hi7 hown hK hw 4 rfl rfl 5 (by decide) f_3 rfl dX7_bore_53 ?_
          refine lv_iload_n hx hb dX7_bore_56 rfl (lv_at hl 1 rfl) ?_
          refine lv_iload_n hx hb dX7_bore_57 rfl (lv_at hl 2 rfl) ?_
          refine lv_iload_n hx hb dX7_bore_58 rfl (lv_at hl 3 rfl) ?_
          refine lv_iload hx hb dX7_bore_59 (lv_at hl 4 rfl) ?_
          have hw := hw.m3
          refine c_vi (As := [.int y, .int k, .int c, .int v]) (rest := []) ⟨hx, hb, hml, hown, hts⟩ (k_X1_addBored l D c4 A ((yG c4 (ad 4) (nI n) os kd ic br) :: (iG ad fp) :: (wG ((ad 3) 0) ((ad 4) 0) bt nt sd) :: Ts) (ad 7) bc ec by0 bn bd bi ey ei y k c v hbc) (cwV 4 hts gX7_bore_X1_addBored rfl rfl rfl (by decide +kernel) (rmv (Nat.le_of_ble_eq_true rfl) (Nat.le_of_ble_eq_true rfl) hRf hRl)) hK trivial hw rfl rfl rfl hl rfl (Nat.le_of_ble_eq_true rfl) ⟨Nat.zero_le _, Nat.zero_le _⟩ dX7_bore_61 (fun r_61 u_61 H locs hpq hw => ?_)
          obtain ⟨bc2_61, by2_61, bn2_61, bd2_61, bi2_61⟩ := u_61
          have hw : gW D A js.heap ((rG c4 (ad 7) (nI bc2_61) (nI ec) by2_61 bn2_61 bd2_61 bi2_61 ey ei) :: (yG c4 (ad 4) (nI n) os kd ic br) :: (iG ad fp) :: (wG ((ad 3) 0) ((ad 4) 0) bt nt sd) :: Ts) H locs := hw
          obtain ⟨hA_61, hB_61⟩ := hpq
          have hA_61 : bc < 10 → r_61 = 1 ∧ bc2_61 = bc + 1 ∧ by2_61 = upd by0 bc y ∧ bn2_61 = upd bn bc k ∧ bd2_61 = upd bd bc c ∧ bi2_61 = upd bi bc v := hA_61
          have hB_61 : ¬ bc < 10 → r_61 = 0 ∧ bc2_61 = bc ∧ by2_61 = by0 ∧ bn2_61 = bn ∧ bd2_61 = bd ∧ bi2_61 = bi := hB_61
          refine lv_if_eq (tgt := 77) hx hb dX7_bore_64 (by decide) (fun c_64 => ?_) (fun c_64 => ?_)
          · refine lv_ldc hx hb hown f_4 dX7_bore_77 ?_
            have hw := hw.m1
            have hw := hw.m3
            have hw := hw.m3
            have hnb : ¬ bc < 10 := fun z => by have h := (hA_61 z).1; rw [c_64] at h; exact absurd h (by decide)
            obtain ⟨-, q1, q2, q3, q4, q5⟩ := hB_61 hnb
            rw [q1, q2, q3, q4, q5] at hw
            exact kr (-1000000004) (bc, by0, bn, bd, bi) _ _ _ _ hw ⟨(by unfold boreF; rw [if_pos hiy, if_pos (h0_21 c_24), if_pos (h0_31 c_34), if_pos (h0_43 c_46), if_neg hnb]), ⟨rowB.no (fun z => hnb z.2.2.2.2), rowB.no (fun z => hnb z.2.2.2.2), rowB.no (fun z => hnb z.2.2.2.2), rowB.no (fun z => hnb z.2.2.2.2)⟩⟩ dX7_bore_79
          · refine lv_aload_n hx hb dX7_bore_67 rfl (lv_at hl 0 rfl) ?_
            refine r_get (T := TX7) (v := .ref ((ad 7) 0)) hx hb hts hi7 hown hK hw 11 rfl rfl 5 (by decide) f_3 rfl dX7_bore_68 ?_
            refine r_get (T := TX1) (v := .int (nI bc2_61)) hx hb hts hi1 hown hK hw 0 rfl rfl 0 (by decide) f_5 rfl dX7_bore_71 ?_
            refine lv_goto (tgt := 79) hx hb dX7_bore_74 (by decide) ?_
            have hw := hw.m1
            have hw := hw.m3
            have hw := hw.m3
            have hnb : bc < 10 := Decidable.byContradiction fun z => c_64 (hB_61 z).1
            obtain ⟨-, q1, q2, q3, q4, q5⟩ := hA_61 hnb
            have hob : okB n bc y k c v := ⟨hiy, h0_21 c_24, h0_31 c_34, h0_43 c_46, hnb⟩
            exact kr (nI bc2_61) (bc2_61, by2_61, bn2_61, bd2_61, bi2_61) _ _ _ _ hw ⟨(by rw [bo_ok hob, q1]), ⟨rowB.yes hob q2, rowB.yes hob q3, rowB.yes hob q4, rowB.yes hob q5⟩⟩ dX7_bore_79
        · refine lv_ldc hx hb hown f_2 dX7_bore_49 ?_
          have hw := hw.m3
          have hw := hw.m1
          have hw := hw.m3
          have hw := hw.m3
          exact kr (-1000000002) (bc, by0, bn, bd, bi) _ _ _ _ hw ⟨(by unfold boreF; rw [if_pos hiy, if_pos (h0_21 c_24), if_pos (h0_31 c_34), if_neg (notR (h1_43 c_46))]), ⟨rowB.no (fun z => notR (h1_43 c_46) z.2.2.2.1), rowB.no (fun z => notR (h1_43 c_46) z.2.2.2.1), rowB.no (fun z => notR (h1_43 c_46) z.2.2.2.1), rowB.no (fun z => notR (h1_43 c_46) z.2.2.2.1)⟩⟩ dX7_bore_51
  · refine lv_ldc hx hb hown f_6 dX7_bore_14 ?_
    have hw := hw.m3
    have hw := hw.m1
    have hw := hw.m3
    have hw := hw.m3
    exact kr (-1000000001) (bc, by0, bn, bd, bi) _ _ _ _ hw ⟨(by unfold boreF; rw [if_neg (h0_8 c_11)]), ⟨rowB.no (fun z => h0_8 c_11 z.1), rowB.no (fun z => h0_8 c_11 z.1), rowB.no (fun z => h0_8 c_11 z.1), rowB.no (fun z => h0_8 c_11 z.1)⟩⟩ dX7_bore_16
set_option maxHeartbeats 4000000 in
set_option maxRecDepth 100000 in
theorem k_X7_write (l : Launch) (D : va_G) (c4 : Nat → ClassId) (A : Nat → Prop) (Ts : List va_W) (ad : Nat → Nat → Nat) (fp : Int32) (bt : Int32) (nt : Int32) (sd : Int32) (n : Nat) (os : Int32) (kd : Nat → Int32) (ic : Nat → Int32) (br : Nat → Int32) (q : Nat → Yq) (bc : Nat) (ec : Nat) (by0 : Nat → Int32) (bn : Nat → Int32) (bd : Nat → Int32) (bi : Nat → Int32) (ey : Nat → Int32) (ei : Nat → Int32) (y : Int32) (v : Int32) (hn : n ≤ 12) (hY : yR q n os kd ic br) (hec : ec ≤ 15) : Ci l yX7_write wsX7_write 1 22 [.ref ((ad 0) 0), .int y, .int v] D (tyA c4) A none ((iG ad fp) :: (wG ((ad 3) 0) ((ad 4) 0) bt nt sd) :: (yG c4 (ad 4) (nI n) os kd ic br) :: (rG c4 (ad 7) (nI bc) (nI ec) by0 bn bd bi ey ei) :: Ts) (S := Nat × (Nat → Int32) × (Nat → Int32)) (fun (r : Int32) (u : Nat × (Nat → Int32) × (Nat → Int32)) => ((r, u.1) = writF n ec y v) ∧ (rowB (okW n ec y v) ey u.2.1 ec y ∧ rowB (okW n ec y v) ei u.2.2 ec v)) (fun u => ((iG ad fp) :: (wG ((ad 3) 0) ((ad 4) 0) bt nt sd) :: (yG c4 (ad 4) (nI n) os kd ic br) :: (rG c4 (ad 7) (nI bc) (nI u.1) by0 bn bd bi u.2.1 u.2.2) :: Ts)) := by
  refine cOi (cc := cX7_write) (maxL := 3) (by decide) rfl (Nat.le_of_ble_eq_true rfl) rfl ?_
  rintro jp je js jm below meth jc ls args R Q H locs hRf hRl ⟨hx, hb, hml, hr, hts, hown, hlocks, hK, hX⟩ hw hl kr
  have hown : js.vm.findClass RX7 = some jm.cls := hown
  have f_0 := hts (.fieldLink RX7 26 "IceSway" "now" "LIceSway$Winter;") (by decide +kernel)
  have f_1 := hts (.fieldLink RX7 118 "IceSway$Winter" "yards" "LIceSway$Yards;") (by decide +kernel)
  have f_2 := hts (.fieldLink RX7 41 "IceSway" "records" "LIceSway$Records;") (by decide +kernel)
  have f_3 := hts (.constant RX7 79 (-1000000004)) (by decide +kernel)
  have f_4 := hts (.fieldLink RX7 148 "IceSway$Records" "entryCount" "I") (by decide +kernel)
  have f_5 := hts (.constant RX7 74 (-1000000002)) (by decide +kernel)
  have f_6 := hts (.constant RX7 155 (-1000000001)) (by decide +kernel)
  have hi7 : ∀ w ∈ u_ws RX7 TX7 10, w ∈ wsX7_write := fun w h => List.mem_cons_of_mem _ (List.mem_append_left _ (List.mem_append_left _ (List.mem_append_left _ (List.mem_append_right _ h))))
  have hi5 : ∀ w ∈ u_ws RX5 TX5 4, w ∈ wsX7_write := fun w h => List.mem_cons_of_mem _ (List.mem_append_left _ (List.mem_append_left _ (List.mem_append_right _ h)))
  have hi1 : ∀ w ∈ u_ws RX1 TX1 8, w ∈ wsX7_write := fun w h => List.mem_cons_of_mem _ (List.mem_append_left _ (List.mem_append_right _ h))
  refine lv_aload_n hx hb dX7_write_0 rfl (lv_at hl 0 rfl) ?_
  refine r_get (T := TX7) (v := .ref ((ad 3) 0)) hx hb hts hi7 hown hK hw 0 rfl rfl 2 (by decide) f_0 rfl dX7_write_1 ?_
  refine r_get (T := TX5) (v := .ref ((ad 4) 0)) hx hb hts hi5 hown hK hw 1 rfl rfl 0 (by decide) f_1 rfl dX7_write_4 ?_
  refine lv_iload_n hx hb dX7_write_7 rfl (lv_at hl 1 rfl) ?_
  have hw := hw.m2
  refine c_vi (As := [.int y]) (rest := []) ⟨hx, hb, hml, hown, hts⟩ (k_X6_has l D c4 A ((iG ad fp) :: (wG ((ad 3) 0) ((ad 4) 0) bt nt sd) :: (rG c4 (ad 7) (nI bc) (nI ec) by0 bn bd bi ey ei) :: Ts) (ad 4) n os kd ic br y hn) (cwV 1 hts gX7_write_X6_has rfl rfl rfl (by decide +kernel) (rmv (Nat.le_of_ble_eq_true rfl) (Nat.le_of_ble_eq_true rfl) hRf hRl)) hK trivial hw rfl rfl rfl hl rfl (Nat.le_of_ble_eq_true rfl) ⟨Nat.zero_le _, Nat.zero_le _⟩ dX7_write_8 (fun r_8 u_8 H locs hpq hw => ?_)
  obtain ⟨h0_8, h1_8⟩ := hpq
  refine lv_if_ne (tgt := 17) hx hb dX7_write_11 (by decide) (fun c_11 => ?_) (fun c_11 => ?_)
  · obtain ⟨ky, hky, eky⟩ := h1_8 c_11
    have hiy : isY n y := by rw [eky]; exact isY_nI hky hn
    refine lv_iload_n hx hb dX7_write_17 rfl (lv_at hl 2 rfl) ?_
    refine lv_iconst (v := 0) hx hb dX7_write_18 (by decide) ?_
    refine lv_sipush (v := 300) hx hb dX7_write_19 (by decide) ?_
    refine c_si (As := [.int v, .int 0, .int 300]) (rest := []) ⟨hx, hb, hml, hown, hts⟩ (k_X7_isOut l D c4 A ((yG c4 (ad 4) (nI n) os kd ic br) :: (iG ad fp) :: (wG ((ad 3) 0) ((ad 4) 0) bt nt sd) :: (rG c4 (ad 7) (nI bc) (nI ec) by0 bn bd bi ey ei) :: Ts) v 0 300) (va_cwS 3 hts gX7_write_X7_isOut rfl rfl rfl (by decide +kernel) (rmv (Nat.le_of_ble_eq_true rfl) (Nat.le_of_ble_eq_true rfl) hRf hRl)) hK trivial hw rfl hl rfl (Nat.le_of_ble_eq_true rfl) ⟨Nat.zero_le _, Nat.zero_le _⟩ dX7_write_22 (fun r_22 u_22 H locs hpq hw => ?_)
    obtain ⟨h0_22, h1_22, hz_22⟩ := hpq
    refine lv_if_eq (tgt := 31) hx hb dX7_write_25 (by decide) (fun c_25 => ?_) (fun c_25 => ?_)
    · refine lv_aload_n hx hb dX7_write_31 rfl (lv_at hl 0 rfl) ?_
      refine r_get (T := TX7) (v := .ref ((ad 7) 0)) hx hb hts hi7 hown hK hw 4 rfl rfl 5 (by decide) f_2 rfl dX7_write_32 ?_
      refine lv_iload_n hx hb dX7_write_35 rfl (lv_at hl 1 rfl) ?_
      refine lv_iload_n hx hb dX7_write_36 rfl (lv_at hl 2 rfl) ?_
      have hw := hw.m3
      refine c_vi (As := [.int y, .int v]) (rest := []) ⟨hx, hb, hml, hown, hts⟩ (k_X1_addEntry l D c4 A ((yG c4 (ad 4) (nI n) os kd ic br) :: (iG ad fp) :: (wG ((ad 3) 0) ((ad 4) 0) bt nt sd) :: Ts) (ad 7) bc ec by0 bn bd bi ey ei y v hec) (cwV 2 hts gX7_write_X1_addEntry rfl rfl rfl (by decide +kernel) (rmv (Nat.le_of_ble_eq_true rfl) (Nat.le_of_ble_eq_true rfl) hRf hRl)) hK trivial hw rfl rfl rfl hl rfl (Nat.le_of_ble_eq_true rfl) ⟨Nat.zero_le _, Nat.zero_le _⟩ dX7_write_37 (fun r_37 u_37 H locs hpq hw => ?_)
      obtain ⟨ec2_37, ey2_37, ei2_37⟩ := u_37
      have hw : gW D A js.heap ((rG c4 (ad 7) (nI bc) (nI ec2_37) by0 bn bd bi ey2_37 ei2_37) :: (yG c4 (ad 4) (nI n) os kd ic br) :: (iG ad fp) :: (wG ((ad 3) 0) ((ad 4) 0) bt nt sd) :: Ts) H locs := hw
      obtain ⟨hA_37, hB_37⟩ := hpq
      have hA_37 : ec < 15 → r_37 = 1 ∧ ec2_37 = ec + 1 ∧ ey2_37 = upd ey ec y ∧ ei2_37 = upd ei ec v := hA_37
      have hB_37 : ¬ ec < 15 → r_37 = 0 ∧ ec2_37 = ec ∧ ey2_37 = ey ∧ ei2_37 = ei := hB_37
      refine lv_if_eq (tgt := 53) hx hb dX7_write_40 (by decide) (fun c_40 => ?_) (fun c_40 => ?_)
      · refine lv_ldc hx hb hown f_3 dX7_write_53 ?_
        have hw := hw.m1
        have hw := hw.m3
        have hw := hw.m3
        have hnb : ¬ ec < 15 := fun z => by have h := (hA_37 z).1; rw [c_40] at h; exact absurd h (by decide)
        obtain ⟨-, q1, q2, q3⟩ := hB_37 hnb
        rw [q1, q2, q3] at hw
        exact kr (-1000000004) (ec, ey, ei) _ _ _ _ hw ⟨(by unfold writF; rw [if_pos hiy, if_pos (h0_22 c_25), if_neg hnb]), ⟨rowB.no (fun z => hnb z.2.2), rowB.no (fun z => hnb z.2.2)⟩⟩ dX7_write_55
      · refine lv_aload_n hx hb dX7_write_43 rfl (lv_at hl 0 rfl) ?_
        refine r_get (T := TX7) (v := .ref ((ad 7) 0)) hx hb hts hi7 hown hK hw 11 rfl rfl 5 (by decide) f_2 rfl dX7_write_44 ?_
        refine r_get (T := TX1) (v := .int (nI ec2_37)) hx hb hts hi1 hown hK hw 0 rfl rfl 1 (by decide) f_4 rfl dX7_write_47 ?_
        refine lv_goto (tgt := 55) hx hb dX7_write_50 (by decide) ?_
        have hw := hw.m1
        have hw := hw.m3
        have hw := hw.m3
        have hnb : ec < 15 := Decidable.byContradiction fun z => c_40 (hB_37 z).1
        obtain ⟨-, q1, q2, q3⟩ := hA_37 hnb
        have hob : okW n ec y v := ⟨hiy, h0_22 c_25, hnb⟩
        exact kr (nI ec2_37) (ec2_37, ey2_37, ei2_37) _ _ _ _ hw ⟨(by rw [wr_ok hob, q1]), ⟨rowB.yes hob q2, rowB.yes hob q3⟩⟩ dX7_write_55
    · refine lv_ldc hx hb hown f_5 dX7_write_28 ?_
      have hw := hw.m3
      have hw := hw.m1
      have hw := hw.m3
      have hw := hw.m3
      exact kr (-1000000002) (ec, ey, ei) _ _ _ _ hw ⟨(by unfold writF; rw [if_pos hiy, if_neg (notR (h1_22 c_25))]), ⟨rowB.no (fun z => notR (h1_22 c_25) z.2.1), rowB.no (fun z => notR (h1_22 c_25) z.2.1)⟩⟩ dX7_write_30
  · refine lv_ldc hx hb hown f_6 dX7_write_14 ?_
    have hw := hw.m3
    have hw := hw.m1
    have hw := hw.m3
    have hw := hw.m3
    exact kr (-1000000001) (ec, ey, ei) _ _ _ _ hw ⟨(by unfold writF; rw [if_neg (h0_8 c_11)]), ⟨rowB.no (fun z => h0_8 c_11 z.1), rowB.no (fun z => h0_8 c_11 z.1)⟩⟩ dX7_write_16
set_option maxHeartbeats 4000000 in
set_option maxRecDepth 100000 in
theorem k_X7_tear (l : Launch) (D : va_G) (c4 : Nat → ClassId) (A : Nat → Prop) (Ts : List va_W) (ad : Nat → Nat → Nat) (fp : Int32) (bc : Nat) (ec : Nat) (by0 : Nat → Int32) (bn : Nat → Int32) (bd : Nat → Int32) (bi : Nat → Int32) (ey : Nat → Int32) (ei : Nat → Int32) : Ci l yX7_tear wsX7_tear 1 20 [.ref ((ad 0) 0)] D (tyA c4) A none ((iG ad fp) :: (rG c4 (ad 7) (nI bc) (nI ec) by0 bn bd bi ey ei) :: Ts) (S := Unit) (fun (r : Int32) (u : Unit) => r = (nI (bc + ec))) (fun u => ((iG ad fp) :: (rG c4 (ad 7) 0 0 by0 bn bd bi ey ei) :: Ts)) := by
  refine cOi (cc := cX7_tear) (maxL := 2) (by decide) rfl (Nat.le_of_ble_eq_true rfl) rfl ?_
  rintro jp je js jm below meth jc ls args R Q H locs hRf hRl ⟨hx, hb, hml, hr, hts, hown, hlocks, hK, hX⟩ hw hl kr
  have hown : js.vm.findClass RX7 = some jm.cls := hown
  have f_0 := hts (.fieldLink RX7 41 "IceSway" "records" "LIceSway$Records;") (by decide +kernel)
  have f_1 := hts (.fieldLink RX7 145 "IceSway$Records" "boredCount" "I") (by decide +kernel)
  have f_2 := hts (.fieldLink RX7 148 "IceSway$Records" "entryCount" "I") (by decide +kernel)
  have hi7 : ∀ w ∈ u_ws RX7 TX7 10, w ∈ wsX7_tear := fun w h => List.mem_cons_of_mem _ (List.mem_append_left _ (List.mem_append_right _ h))
  have hi1 : ∀ w ∈ u_ws RX1 TX1 8, w ∈ wsX7_tear := fun w h => List.mem_cons_of_mem _ (List.mem_append_right _ h)
  refine lv_aload_n hx hb dX7_tear_0 rfl (lv_at hl 0 rfl) ?_
  refine r_get (T := TX7) (v := .ref ((ad 7) 0)) hx hb hts hi7 hown hK hw 0 rfl rfl 5 (by decide) f_0 rfl dX7_tear_1 ?_
  refine r_get (T := TX1) (v := .int (nI bc)) hx hb hts hi1 hown hK hw 1 rfl rfl 0 (by decide) f_1 rfl dX7_tear_4 ?_
  refine lv_aload_n hx hb dX7_tear_7 rfl (lv_at hl 0 rfl) ?_
  refine r_get (T := TX7) (v := .ref ((ad 7) 0)) hx hb hts hi7 hown hK hw 0 rfl rfl 5 (by decide) f_0 rfl dX7_tear_8 ?_
  refine r_get (T := TX1) (v := .int (nI ec)) hx hb hts hi1 hown hK hw 1 rfl rfl 1 (by decide) f_2 rfl dX7_tear_11 ?_
  refine r_addN hx hb bc ec dX7_tear_14 ?_
  refine lv_istore_n (lv' := [(1, .int (nI (bc + ec))), (0, .ref ((ad 0) 0))]) hx hb dX7_tear_15 rfl hl (by decide) rfl (fun ls hl => ?_)
  refine lv_aload_n hx hb dX7_tear_16 rfl (lv_at hl 1 rfl) ?_
  refine r_get (T := TX7) (v := .ref ((ad 7) 0)) hx hb hts hi7 hown hK hw 0 rfl rfl 5 (by decide) f_0 rfl dX7_tear_17 ?_
  have hw := hw.m1
  refine c_vv (As := []) (rest := []) ⟨hx, hb, hml, hown, hts⟩ (k_X1_clearAll l D c4 A ((iG ad fp) :: Ts) (ad 7) bc ec by0 bn bd bi ey ei) (cwV 0 hts gX7_tear_X1_clearAll rfl rfl rfl (by decide +kernel) (rmv (Nat.le_of_ble_eq_true rfl) (Nat.le_of_ble_eq_true rfl) hRf hRl)) hK trivial hw rfl rfl rfl hl rfl (Nat.le_of_ble_eq_true rfl) ⟨Nat.zero_le _, Nat.zero_le _⟩ dX7_tear_20 (fun u_20 H locs hpq hw => ?_)
  refine lv_iload_n hx hb dX7_tear_23 rfl (lv_at hl 0 rfl) ?_
  have hw := hw.m1
  exact kr (nI (bc + ec)) () _ _ _ _ hw rfl dX7_tear_24
set_option maxHeartbeats 4000000 in
set_option maxRecDepth 100000 in
theorem k_X7_judge (l : Launch) (D : va_G) (c4 : Nat → ClassId) (A : Nat → Prop) (Ts : List va_W) (ad : Nat → Nat → Nat) (fp : Int32) (bt : Int32) (nt : Int32) (sd : Int32) (n : Nat) (os : Int32) (kd : Nat → Int32) (ic : Nat → Int32) (br : Nat → Int32) (q : Nat → Yq) (bc : Nat) (ec : Nat) (by0 : Nat → Int32) (bn : Nat → Int32) (bd : Nat → Int32) (bi : Nat → Int32) (ey : Nat → Int32) (ei : Nat → Int32) (hn : n ≤ 12) (hY : yR q n os kd ic br) (hec : ec ≤ 15) (hen : ∀ i, i < ec → ∃ k, k < n ∧ ey i = nI k) : Ci l yX7_judge wsX7_judge 2 44 [.ref ((ad 0) 0)] D (tyA c4) A none ((iG ad fp) :: (wG ((ad 3) 0) ((ad 4) 0) bt nt sd) :: (yG c4 (ad 4) (nI n) os kd ic br) :: (rG c4 (ad 7) (nI bc) (nI ec) by0 bn bd bi ey ei) :: Ts) (S := Unit) (fun (r : Int32) (u : Unit) => isFirst (fun i => ¬ qI (q (ey i).toNatClampNeg) = ei i) ec r) (fun u => ((iG ad fp) :: (wG ((ad 3) 0) ((ad 4) 0) bt nt sd) :: (yG c4 (ad 4) (nI n) os kd ic br) :: (rG c4 (ad 7) (nI bc) (nI ec) by0 bn bd bi ey ei) :: Ts)) := by
  refine cOi (cc := cX7_judge) (maxL := 1) (by decide) rfl (Nat.le_of_ble_eq_true rfl) rfl ?_
  rintro jp je js jm below meth jc ls args R Q H locs hRf hRl ⟨hx, hb, hml, hr, hts, hown, hlocks, hK, hX⟩ hw hl kr
  have hown : js.vm.findClass RX7 = some jm.cls := hown
  have f_0 := hts (.fieldLink RX7 41 "IceSway" "records" "LIceSway$Records;") (by decide +kernel)
  have f_1 := hts (.fieldLink RX7 26 "IceSway" "now" "LIceSway$Winter;") (by decide +kernel)
  have f_2 := hts (.fieldLink RX7 118 "IceSway$Winter" "yards" "LIceSway$Yards;") (by decide +kernel)
  have hi7 : ∀ w ∈ u_ws RX7 TX7 10, w ∈ wsX7_judge := fun w h => List.mem_cons_of_mem _ (List.mem_append_left _ (List.mem_append_left _ (List.mem_append_left _ (List.mem_append_right _ h))))
  have hi5 : ∀ w ∈ u_ws RX5 TX5 4, w ∈ wsX7_judge := fun w h => List.mem_cons_of_mem _ (List.mem_append_left _ (List.mem_append_left _ (List.mem_append_right _ h)))
  refine lv_aload_n hx hb dX7_judge_0 rfl (lv_at hl 0 rfl) ?_
  refine r_get (T := TX7) (v := .ref ((ad 7) 0)) hx hb hts hi7 hown hK hw 0 rfl rfl 5 (by decide) f_0 rfl dX7_judge_1 ?_
  refine lv_aload_n hx hb dX7_judge_4 rfl (lv_at hl 0 rfl) ?_
  refine r_get (T := TX7) (v := .ref ((ad 3) 0)) hx hb hts hi7 hown hK hw 0 rfl rfl 2 (by decide) f_1 rfl dX7_judge_5 ?_
  refine r_get (T := TX5) (v := .ref ((ad 4) 0)) hx hb hts hi5 hown hK hw 1 rfl rfl 0 (by decide) f_2 rfl dX7_judge_8 ?_
  have hw := hw.m2
  have hw := hw.m3
  refine c_vi (As := [.ref ((ad 4) 0)]) (rest := []) ⟨hx, hb, hml, hown, hts⟩ (k_X1_firstWrong l D c4 A ((iG ad fp) :: (wG ((ad 3) 0) ((ad 4) 0) bt nt sd) :: Ts) (ad 7) bc ec by0 bn bd bi ey ei (ad 4) n os kd ic br q hec hn hY hen) (cwV 1 hts gX7_judge_X1_firstWrong rfl rfl rfl (by decide +kernel) (rmv (Nat.le_of_ble_eq_true rfl) (Nat.le_of_ble_eq_true rfl) hRf hRl)) hK trivial hw rfl rfl rfl hl rfl (Nat.le_of_ble_eq_true rfl) ⟨Nat.zero_le _, Nat.zero_le _⟩ dX7_judge_11 (fun r_11 u_11 H locs hpq hw => ?_)
  have hF_11 := hpq
  have hw := hw.m1
  have hw := hw.m3
  have hw := hw.m3
  exact kr r_11 () _ _ _ _ hw hF_11 dX7_judge_14
set_option maxHeartbeats 4000000 in
set_option maxRecDepth 100000 in
theorem k_X7_seed (l : Launch) (D : va_G) (c4 : Nat → ClassId) (A : Nat → Prop) (Ts : List va_W) (ad : Nat → Nat → Nat) (fp : Int32) (y0 : Nat) (bt : Int32) (nt : Int32) (sd : Int32) (v : Int32) : Ci l yX7_seed wsX7_seed 0 0 [.ref ((ad 0) 0), .int v] D (tyA c4) A none ((iG ad fp) :: (wG ((ad 3) 0) y0 bt nt sd) :: Ts) (S := Int32) (fun (r : Int32) (u : Int32) => (r, u) = seedF v sd) (fun u => ((iG ad fp) :: (wG ((ad 3) 0) y0 bt nt u) :: Ts)) := by
  refine cOi (cc := cX7_seed) (maxL := 3) (by decide) rfl (Nat.le_of_ble_eq_true rfl) rfl ?_
  rintro jp je js jm below meth jc ls args R Q H locs hRf hRl ⟨hx, hb, hml, hr, hts, hown, hlocks, hK, hX⟩ hw hl kr
  have hown : js.vm.findClass RX7 = some jm.cls := hown
  have f_0 := hts (.fieldLink RX7 26 "IceSway" "now" "LIceSway$Winter;") (by decide +kernel)
  have f_1 := hts (.fieldLink RX7 267 "IceSway$Winter" "drawSeed" "I") (by decide +kernel)
  have f_2 := hts (.constant RX7 74 (-1000000002)) (by decide +kernel)
  have hi7 : ∀ w ∈ u_ws RX7 TX7 10, w ∈ wsX7_seed := fun w h => List.mem_cons_of_mem _ (List.mem_append_left _ (List.mem_append_right _ h))
  have hi5 : ∀ w ∈ u_ws RX5 TX5 4, w ∈ wsX7_seed := fun w h => List.mem_cons_of_mem _ (List.mem_append_right _ h)
  refine lv_iload_n hx hb dX7_seed_0 rfl (lv_at hl 1 rfl) ?_
  refine lv_if_ge (tgt := 7) hx hb dX7_seed_1 (by decide) (fun c_1 => ?_) (fun c_1 => ?_)
  · refine lv_aload_n hx hb dX7_seed_7 rfl (lv_at hl 0 rfl) ?_
    refine r_get (T := TX7) (v := .ref ((ad 3) 0)) hx hb hts hi7 hown hK hw 0 rfl rfl 2 (by decide) f_0 rfl dX7_seed_8 ?_
    refine r_get (T := TX5) (v := .int sd) hx hb hts hi5 hown hK hw 1 rfl rfl 3 (by decide) f_1 rfl dX7_seed_11 ?_
    refine lv_istore_n (lv' := [(2, .int sd), (0, .ref ((ad 0) 0)), (1, .int v)]) hx hb dX7_seed_14 rfl hl (by decide) rfl (fun ls hl => ?_)
    refine lv_aload_n hx hb dX7_seed_15 rfl (lv_at hl 1 rfl) ?_
    refine r_get (T := TX7) (v := .ref ((ad 3) 0)) hx hb hts hi7 hown hK hw 0 rfl rfl 2 (by decide) f_0 rfl dX7_seed_16 ?_
    refine lv_iload_n hx hb dX7_seed_19 rfl (lv_at hl 2 rfl) ?_
    refine r_put (T := TX5) (G' := ((iG ad fp) :: (wG ((ad 3) 0) y0 bt nt v) :: Ts)) hx hb hts hi5 tyX5 tyX5_ok nmX5 hown hK hw 1 rfl rfl 3 (by decide) f_1 rfl rfl (Nat.le_of_ble_eq_true rfl) rfl dX7_seed_20 (fun H locs hw => ?_)
    refine lv_iload_n hx hb dX7_seed_23 rfl (lv_at hl 0 rfl) ?_
    exact kr sd (v) _ _ _ _ hw (by unfold seedF; rw [if_pos c_1]) dX7_seed_24
  · refine lv_ldc hx hb hown f_2 dX7_seed_4 ?_
    exact kr (-1000000002) (sd) _ _ _ _ hw (by unfold seedF; rw [if_neg c_1]) dX7_seed_6
set_option maxHeartbeats 4000000 in
set_option maxRecDepth 100000 in
theorem k_X7_kinds (l : Launch) (D : va_G) (c4 : Nat → ClassId) (A : Nat → Prop) (Ts : List va_W) (ad : Nat → Nat → Nat) (fp : Int32) (bt : Int32) (nt : Int32) (sd : Int32) (n : Nat) (os : Int32) (kd : Nat → Int32) (ic : Nat → Int32) (br : Nat → Int32) (q : Nat → Yq) (bc : Nat) (ec : Nat) (by0 : Nat → Int32) (bn : Nat → Int32) (bd : Nat → Int32) (bi : Nat → Int32) (ey : Nat → Int32) (ei : Nat → Int32) (y : Int32) (hn : n ≤ 12) (hY : yR q n os kd ic br) (hbc : bc ≤ 10) (hbo : boOk bc bn bd) : Ci l yX7_kinds wsX7_kinds 4 97 [.ref ((ad 0) 0), .int y] D (tyA c4) A none ((iG ad fp) :: (wG ((ad 3) 0) ((ad 4) 0) bt nt sd) :: (yG c4 (ad 4) (nI n) os kd ic br) :: (rG c4 (ad 7) (nI bc) (nI ec) by0 bn bd bi ey ei) :: Ts) (S := Unit) (fun (r : Int32) (u : Unit) => kindP q n bc y by0 bn bd bi r) (fun u => ((iG ad fp) :: (wG ((ad 3) 0) ((ad 4) 0) bt nt sd) :: (yG c4 (ad 4) (nI n) os kd ic br) :: (rG c4 (ad 7) (nI bc) (nI ec) by0 bn bd bi ey ei) :: Ts)) := by
  refine cOi (cc := cX7_kinds) (maxL := 4) (by decide) rfl (Nat.le_of_ble_eq_true rfl) rfl ?_
  rintro jp je js jm below meth jc ls args R Q H locs hRf hRl ⟨hx, hb, hml, hr, hts, hown, hlocks, hK, hX⟩ hw hl kr
  have hown : js.vm.findClass RX7 = some jm.cls := hown
  have f_0 := hts (.fieldLink RX7 26 "IceSway" "now" "LIceSway$Winter;") (by decide +kernel)
  have f_1 := hts (.fieldLink RX7 118 "IceSway$Winter" "yards" "LIceSway$Yards;") (by decide +kernel)
  have f_2 := hts (.fieldLink RX7 41 "IceSway" "records" "LIceSway$Records;") (by decide +kernel)
  have f_3 := hts (.constant RX7 155 (-1000000001)) (by decide +kernel)
  have hi7 : ∀ w ∈ u_ws RX7 TX7 10, w ∈ wsX7_kinds := fun w h => List.mem_cons_of_mem _ (List.mem_append_left _ (List.mem_append_left _ (List.mem_append_left _ (List.mem_append_right _ h))))
  have hi5 : ∀ w ∈ u_ws RX5 TX5 4, w ∈ wsX7_kinds := fun w h => List.mem_cons_of_mem _ (List.mem_append_left _ (List.mem_append_left _ (List.mem_append_right _ h)))
  refine lv_aload_n hx hb dX7_kinds_0 rfl (lv_at hl 0 rfl) ?_
  refine r_get (T := TX7) (v := .ref ((ad 3) 0)) hx hb hts hi7 hown hK hw 0 rfl rfl 2 (by decide) f_0 rfl dX7_kinds_1 ?_
  refine r_get (T := TX5) (v := .ref ((ad 4) 0)) hx hb hts hi5 hown hK hw 1 rfl rfl 0 (by decide) f_1 rfl dX7_kinds_4 ?_
  refine lv_iload_n hx hb dX7_kinds_7 rfl (lv_at hl 1 rfl) ?_
  have hw := hw.m2
  refine c_vi (As := [.int y]) (rest := []) ⟨hx, hb, hml, hown, hts⟩ (k_X6_has l D c4 A ((iG ad fp) :: (wG ((ad 3) 0) ((ad 4) 0) bt nt sd) :: (rG c4 (ad 7) (nI bc) (nI ec) by0 bn bd bi ey ei) :: Ts) (ad 4) n os kd ic br y hn) (cwV 1 hts gX7_kinds_X6_has rfl rfl rfl (by decide +kernel) (rmv (Nat.le_of_ble_eq_true rfl) (Nat.le_of_ble_eq_true rfl) hRf hRl)) hK trivial hw rfl rfl rfl hl rfl (Nat.le_of_ble_eq_true rfl) ⟨Nat.zero_le _, Nat.zero_le _⟩ dX7_kinds_8 (fun r_8 u_8 H locs hpq hw => ?_)
  obtain ⟨h0_8, h1_8⟩ := hpq
  refine lv_if_ne (tgt := 17) hx hb dX7_kinds_11 (by decide) (fun c_11 => ?_) (fun c_11 => ?_)
  · obtain ⟨ky, hky, eky⟩ := h1_8 c_11
    refine lv_iconst (v := 0) hx hb dX7_kinds_17 (by decide) ?_
    refine lv_istore_n (lv' := [(2, .int 0), (0, .ref ((ad 0) 0)), (1, .int y)]) hx hb dX7_kinds_18 rfl hl (by decide) rfl (fun ls hl => ?_)
    refine lv_iconst (v := 0) hx hb dX7_kinds_19 (by decide) ?_
    refine lv_istore_n (lv' := [(3, .int 0), (2, .int 0), (0, .ref ((ad 0) 0)), (1, .int y)]) hx hb dX7_kinds_20 rfl hl (by decide) rfl (fun ls hl => ?_)
    have loop_21 : ∀ (fuel : Nat) (kn : Nat) (sv : Int32), (4 - kn) < fuel → (kn ≤ 4) → (kdS (q ky) ky bc by0 bn bd bi kn sv) → ∀ (H : Heap) (locs : List Loc), gW D A js.heap ((yG c4 (ad 4) (nI n) os kd ic br) :: (iG ad fp) :: (wG ((ad 3) 0) ((ad 4) 0) bt nt sd) :: (rG c4 (ad 7) (nI bc) (nI ec) by0 bn bd bi ey ei) :: Ts) H locs → ∀ (ls : Array Slot), lv_has ls 4 [(3, .int (nI kn)), (2, .int sv), (0, .ref ((ad 0) 0)), (1, .int y)] → W jp l je R js jm args below meth jc H locs 0 0 Q (F0 jm 21 ls []) := by
      intro fuel
      induction fuel with
      | zero => intro kn sv hm; exact absurd hm (Nat.not_lt_zero _)
      | succ fuel ih_21 =>
        intro kn sv hm_21 hkn hS H locs hw ls hl
        refine lv_iload_n hx hb dX7_kinds_21 rfl (lv_at hl 0 rfl) ?_
        refine lv_iconst (v := 3) hx hb dX7_kinds_22 (by decide) ?_
        refine r_cgt hx hb kn 3 (by omega) (by omega) (tgt := 57) dX7_kinds_23 (by decide) (fun c_23 => ?_) (fun c_23 => ?_)
        · refine lv_iload_n hx hb dX7_kinds_57 rfl (lv_at hl 1 rfl) ?_
          have hw := hw.m3
          have hw := hw.m1
          have hw := hw.m3
          have hw := hw.m3
          exact kr sv () _ _ _ _ hw (kd_end eky hky hn (by omega) hS) dX7_kinds_58
        · refine lv_aload_n hx hb dX7_kinds_26 rfl (lv_at hl 2 rfl) ?_
          refine r_get (T := TX7) (v := .ref ((ad 7) 0)) hx hb hts hi7 hown hK hw 4 rfl rfl 5 (by decide) f_2 rfl dX7_kinds_27 ?_
          refine lv_aload_n hx hb dX7_kinds_30 rfl (lv_at hl 2 rfl) ?_
          refine r_get (T := TX7) (v := .ref ((ad 3) 0)) hx hb hts hi7 hown hK hw 4 rfl rfl 2 (by decide) f_0 rfl dX7_kinds_31 ?_
          refine r_get (T := TX5) (v := .ref ((ad 4) 0)) hx hb hts hi5 hown hK hw 5 rfl rfl 0 (by decide) f_1 rfl dX7_kinds_34 ?_
          refine lv_iload_n hx hb dX7_kinds_37 rfl (lv_at hl 3 rfl) ?_
          refine r_top (y := nI ky) eky ?_
          refine lv_iload_n hx hb dX7_kinds_38 rfl (lv_at hl 0 rfl) ?_
          have hw := hw.m3
          refine c_vi (As := [.ref ((ad 4) 0), .int (nI ky), .int (nI kn)]) (rest := []) ⟨hx, hb, hml, hown, hts⟩ (k_X1_fits l D c4 A ((iG ad fp) :: (wG ((ad 3) 0) ((ad 4) 0) bt nt sd) :: Ts) (ad 7) bc ec by0 bn bd bi ey ei (ad 4) n os kd ic br q ky (nI kn) hbc hn hY (by first | omega | decide) (kk_ok (hY.ok hky) (by omega)) hbo) (cwV 3 hts gX7_kinds_X1_fits rfl rfl rfl (by decide +kernel) (rmv (Nat.le_of_ble_eq_true rfl) (Nat.le_of_ble_eq_true rfl) hRf hRl)) hK trivial hw rfl rfl rfl hl rfl (Nat.le_of_ble_eq_true rfl) ⟨Nat.zero_le _, Nat.zero_le _⟩ dX7_kinds_39 (fun r_39 u_39 H locs hpq hw => ?_)
          obtain ⟨h0_39, h1_39⟩ := hpq
          refine lv_if_eq (tgt := 51) hx hb dX7_kinds_42 (by decide) (fun c_42 => ?_) (fun c_42 => ?_)
          · refine lv_iinc (v := (nI (kn + 1))) (lv' := [(3, .int (nI (kn + 1))), (2, .int sv), (0, .ref ((ad 0) 0)), (1, .int y)]) hx hb dX7_kinds_51 hl (k := 0) rfl (nI_add _ _) (by decide) rfl (fun ls hl => ?_)
            refine lv_goto (tgt := 21) hx hb dX7_kinds_54 (by decide) ?_
            have hw := hw.m3
            have hw := hw.m3
            have hw := hw.m3
            exact ih_21 (kn + 1) sv (by omega) (by omega) (by first | exact kdS_n hS (fun z => by obtain ⟨i, hi, hx⟩ := h0_39 c_42; exact hx (z i hi)) | exact kdS_y hS (h1_39 c_42)) _ _ hw ls (lv_sub hl [0, 1, 2, 3] rfl)
          · refine lv_iload_n hx hb dX7_kinds_45 rfl (lv_at hl 1 rfl) ?_
            refine lv_iconst (v := 1) hx hb dX7_kinds_46 (by decide) ?_
            refine lv_iload_n hx hb dX7_kinds_47 rfl (lv_at hl 0 rfl) ?_
            refine lv_ishl hx hb dX7_kinds_48 ?_
            refine lv_ior hx hb dX7_kinds_49 ?_
            refine lv_istore_n (lv' := [(2, .int (sv ||| ((1 : Int32) <<< ((nI kn) &&& 31)))), (3, .int (nI kn)), (0, .ref ((ad 0) 0)), (1, .int y)]) hx hb dX7_kinds_50 rfl hl (by decide) rfl (fun ls hl => ?_)
            refine lv_iinc (v := (nI (kn + 1))) (lv' := [(3, .int (nI (kn + 1))), (2, .int (sv ||| ((1 : Int32) <<< ((nI kn) &&& 31)))), (0, .ref ((ad 0) 0)), (1, .int y)]) hx hb dX7_kinds_51 hl (k := 1) rfl (nI_add _ _) (by decide) rfl (fun ls hl => ?_)
            refine lv_goto (tgt := 21) hx hb dX7_kinds_54 (by decide) ?_
            have hw := hw.m3
            have hw := hw.m3
            have hw := hw.m3
            exact ih_21 (kn + 1) (sv ||| ((1 : Int32) <<< ((nI kn) &&& 31))) (by omega) (by omega) (by first | exact kdS_n hS (fun z => by obtain ⟨i, hi, hx⟩ := h0_39 c_42; exact hx (z i hi)) | exact kdS_y hS (h1_39 c_42)) _ _ hw ls (lv_sub hl [0, 1, 2, 3] rfl)
    exact loop_21 ((4 - 0) + 1) 0 0 (Nat.lt_succ_self _) (Nat.zero_le _) kdS_0 _ _ hw ls (lv_sub hl [0, 1, 2, 3] rfl)
  · refine lv_ldc hx hb hown f_3 dX7_kinds_14 ?_
    have hw := hw.m3
    have hw := hw.m1
    have hw := hw.m3
    have hw := hw.m3
    exact kr (-1000000001) () _ _ _ _ hw ⟨fun z => absurd z (h0_8 c_11), fun _ => rfl⟩ dX7_kinds_16
