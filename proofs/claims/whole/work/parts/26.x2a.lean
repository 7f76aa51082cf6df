set_option maxHeartbeats 4000000 in
set_option maxRecDepth 100000 in
theorem k_X2_takeIfBetter (l : Launch) (D : va_G) (c4 : Nat → ClassId) (A : Nat → Prop) (Ts : List va_W) (sa : Nat → Nat) (tr : Nat → Nat) (lc : Int32) (lS : Int32) (t : Int32) (f : Int32) (x : Int32) (c : Int32) (th : Int32) (pe : Int32) (cd : Int32) (dc : Int32) (wc : Int32) (dp : Nat) (lv : Nat → Option Nat) (cost : Int32) (set : Int32) : Cv l yX2_takeIfBetter wsX2_takeIfBetter 0 0 [.ref (sa 0), .int cost, .int set] D (tyA c4) A none ((sG c4 sa (tr 0) lc lS (nI dp) t f x c th pe cd dc wc lv) :: Ts) (S := Int32 × Int32) (fun (u : Int32 × Int32) => (u.1, u.2) = betP cost set (lc, lS)) (fun u => ((sG c4 sa (tr 0) u.1 u.2 (nI dp) t f x c th pe cd dc wc lv) :: Ts)) := by
  refine cOv (cc := cX2_takeIfBetter) (maxL := 3) (by decide) rfl (Nat.le_of_ble_eq_true rfl) rfl ?_
  rintro jp je js jm below meth jc ls args R Q H locs hRf hRl ⟨hx, hb, hml, hr, hts, hown, hlocks, hK, hX⟩ hw hl kr
  have hown : js.vm.findClass RX2 = some jm.cls := hown
  have f_0 := hts (.fieldLink RX2 86 "IceSway$Search" "leastCost" "I") (by decide +kernel)
  have f_1 := hts (.fieldLink RX2 89 "IceSway$Search" "leastSet" "I") (by decide +kernel)
  have hi2 : ∀ w ∈ u_ws RX2 TX2 14, w ∈ wsX2_takeIfBetter := fun w h => List.mem_cons_of_mem _ (List.mem_append_right _ h)
  refine lv_iload_n hx hb dX2_takeIfBetter_0 rfl (lv_at hl 1 rfl) ?_
  refine lv_aload_n hx hb dX2_takeIfBetter_1 rfl (lv_at hl 0 rfl) ?_
  refine r_get (T := TX2) (v := .int lc) hx hb hts hi2 hown hK hw 0 rfl rfl 0 (by decide) f_0 rfl dX2_takeIfBetter_2 ?_
  refine lv_icmp_lt (tgt := 24) hx hb dX2_takeIfBetter_5 (by decide) (fun c_5 => ?_) (fun c_5 => ?_)
  · refine lv_aload_n hx hb dX2_takeIfBetter_24 rfl (lv_at hl 0 rfl) ?_
    refine lv_iload_n hx hb dX2_takeIfBetter_25 rfl (lv_at hl 1 rfl) ?_
    refine r_put (T := TX2) (G' := ((sG c4 sa (tr 0) cost lS (nI dp) t f x c th pe cd dc wc lv) :: Ts)) hx hb hts hi2 tyX2 tyX2_ok nmX2 hown hK hw 0 rfl rfl 0 (by decide) f_0 rfl rfl (Nat.le_of_ble_eq_true rfl) rfl dX2_takeIfBetter_26 (fun H locs hw => ?_)
    refine lv_aload_n hx hb dX2_takeIfBetter_29 rfl (lv_at hl 0 rfl) ?_
    refine lv_iload_n hx hb dX2_takeIfBetter_30 rfl (lv_at hl 2 rfl) ?_
    refine r_put (T := TX2) (G' := ((sG c4 sa (tr 0) cost set (nI dp) t f x c th pe cd dc wc lv) :: Ts)) hx hb hts hi2 tyX2 tyX2_ok nmX2 hown hK hw 0 rfl rfl 1 (by decide) f_1 rfl rfl (Nat.le_of_ble_eq_true rfl) rfl dX2_takeIfBetter_31 (fun H locs hw => ?_)
    exact kr (cost, set) _ _ _ _ hw (by unfold betP; rw [if_pos (show cost < (lc, lS).1 from c_5)]) dX2_takeIfBetter_34
  · refine lv_iload_n hx hb dX2_takeIfBetter_8 rfl (lv_at hl 1 rfl) ?_
    refine lv_aload_n hx hb dX2_takeIfBetter_9 rfl (lv_at hl 0 rfl) ?_
    refine r_get (T := TX2) (v := .int lc) hx hb hts hi2 hown hK hw 0 rfl rfl 0 (by decide) f_0 rfl dX2_takeIfBetter_10 ?_
    refine lv_icmp_ne (tgt := 34) hx hb dX2_takeIfBetter_13 (by decide) (fun c_13 => ?_) (fun c_13 => ?_)
    · exact kr (lc, lS) _ _ _ _ hw (by unfold betP; rw [if_neg (show ¬ cost < (lc, lS).1 from c_5), if_neg (show ¬ cost = (lc, lS).1 from c_13)]) dX2_takeIfBetter_34
    · refine lv_iload_n hx hb dX2_takeIfBetter_16 rfl (lv_at hl 2 rfl) ?_
      refine lv_aload_n hx hb dX2_takeIfBetter_17 rfl (lv_at hl 0 rfl) ?_
      refine r_get (T := TX2) (v := .int lS) hx hb hts hi2 hown hK hw 0 rfl rfl 1 (by decide) f_1 rfl dX2_takeIfBetter_18 ?_
      refine lv_icmp_ge (tgt := 34) hx hb dX2_takeIfBetter_21 (by decide) (fun c_21 => ?_) (fun c_21 => ?_)
      · exact kr (lc, lS) _ _ _ _ hw (by unfold betP; rw [if_neg (show ¬ cost < (lc, lS).1 from c_5), if_pos (show cost = (lc, lS).1 from c_13), if_pos (show (lc, lS).2 ≤ set from c_21)]) dX2_takeIfBetter_34
      · refine lv_aload_n hx hb dX2_takeIfBetter_24 rfl (lv_at hl 0 rfl) ?_
        refine lv_iload_n hx hb dX2_takeIfBetter_25 rfl (lv_at hl 1 rfl) ?_
        refine r_put (T := TX2) (G' := ((sG c4 sa (tr 0) cost lS (nI dp) t f x c th pe cd dc wc lv) :: Ts)) hx hb hts hi2 tyX2 tyX2_ok nmX2 hown hK hw 0 rfl rfl 0 (by decide) f_0 rfl rfl (Nat.le_of_ble_eq_true rfl) rfl dX2_takeIfBetter_26 (fun H locs hw => ?_)
        refine lv_aload_n hx hb dX2_takeIfBetter_29 rfl (lv_at hl 0 rfl) ?_
        refine lv_iload_n hx hb dX2_takeIfBetter_30 rfl (lv_at hl 2 rfl) ?_
        refine r_put (T := TX2) (G' := ((sG c4 sa (tr 0) cost set (nI dp) t f x c th pe cd dc wc lv) :: Ts)) hx hb hts hi2 tyX2 tyX2_ok nmX2 hown hK hw 0 rfl rfl 1 (by decide) f_1 rfl rfl (Nat.le_of_ble_eq_true rfl) rfl dX2_takeIfBetter_31 (fun H locs hw => ?_)
        exact kr (cost, set) _ _ _ _ hw (by unfold betP; rw [if_neg (show ¬ cost < (lc, lS).1 from c_5), if_pos (show cost = (lc, lS).1 from c_13), if_neg (show ¬ (lc, lS).2 ≤ set from c_21)]) dX2_takeIfBetter_34
set_option maxHeartbeats 4000000 in
set_option maxRecDepth 100000 in
theorem k_X2_tryDay_8 (l : Launch) (D : va_G) (c4 : Nat → ClassId) (A : Nat → Prop) (Ts : List va_W) (sa : Nat → Nat) (tr : Nat → Nat) (la : Nat → Nat → Nat) (lc : Int32) (lS : Int32) (t : Int32) (f : Int32) (x : Int32) (c : Int32) (th : Int32) (pe : Int32) (cd : Int32) (dc : Int32) (wc : Int32) (dp : Nat) (lv : Nat → Option Nat) (bh : Int32) (mi : Int32) (fb : Int32) (ba : Nat → Int32) (n : Nat) (os : Int32) (kd : Nat → Int32) (ic : Nat → Int32) (br : Nat → Int32) (q : Nat → Yq) (gn : Nat → Int32) (go : Nat → Int32) (gk : Nat → Nat → Int32) (gi : Nat → Nat → Int32) (gb : Nat → Nat → Int32) (coal : Int32) (cost : Int32) (set : Int32) (hdp : dp ≤ 8) (hn : n ≤ 12) (hY : yR q n os kd ic br) (hf : fOk f x) (hc : 0 ≤ c.toInt ∧ c.toInt ≤ 30) (hlv : ∀ k, k < 9 → lv k = some (la k 0)) : Cv l yX2_tryDay wsX2_tryDay 1 22 [.ref (sa 0), .int 8, .int coal, .int cost, .int set] D (tyA c4) A none ((sG c4 sa (tr 0) lc lS (nI dp) t f x c th pe cd dc wc lv) :: (tG c4 tr bh mi fb ba) :: (yG c4 (la 8) (nI n) os kd ic br) :: Ts) (S := Int32 × Int32 × Int32 × Int32 × Int32 × (Nat → Int32) × (Nat → Int32) × (Nat → Int32) × (Nat → Nat → Int32) × (Nat → Nat → Int32) × (Nat → Nat → Int32)) (fun (u : Int32 × Int32 × Int32 × Int32 × Int32 × (Nat → Int32) × (Nat → Int32) × (Nat → Int32) × (Nat → Nat → Int32) × (Nat → Nat → Int32) × (Nat → Nat → Int32)) => (u.1, u.2.1) = srch n f x t c cd dc wc (dp - 8) 8 q coal cost set (lc, lS)) (fun u => ((sG c4 sa (tr 0) u.1 u.2.1 (nI dp) t f x c th pe cd dc wc lv) :: (tG c4 tr u.2.2.1 u.2.2.2.1 u.2.2.2.2.1 u.2.2.2.2.2.1) :: (yG c4 (la 8) (nI n) os kd ic br) :: Ts)) := by
  refine cOv (cc := cX2_tryDay) (maxL := 11) (by decide) rfl (Nat.le_of_ble_eq_true rfl) rfl ?_
  rintro jp je js jm below meth jc ls args R Q H locs hRf hRl ⟨hx, hb, hml, hr, hts, hown, hlocks, hK, hX⟩ hw hl kr
  have hown : js.vm.findClass RX2 = some jm.cls := hown
  have f_0 := hts (.fieldLink RX2 86 "IceSway$Search" "leastCost" "I") (by decide +kernel)
  have f_1 := hts (.fieldLink RX2 41 "IceSway$Search" "depth" "I") (by decide +kernel)
  have hi2 : ∀ w ∈ u_ws RX2 TX2 14, w ∈ wsX2_tryDay := fun w h => List.mem_cons_of_mem _ (List.mem_append_left _ (List.mem_append_left _ (List.mem_append_right _ h)))
  refine lv_iload_n hx hb dX2_tryDay_0 rfl (lv_at hl 3 rfl) ?_
  refine lv_aload_n hx hb dX2_tryDay_1 rfl (lv_at hl 0 rfl) ?_
  refine r_get (T := TX2) (v := .int lc) hx hb hts hi2 hown hK hw 0 rfl rfl 0 (by decide) f_0 rfl dX2_tryDay_2 ?_
  refine lv_icmp_le (tgt := 9) hx hb dX2_tryDay_5 (by decide) (fun c_5 => ?_) (fun c_5 => ?_)
  · refine lv_iload_n hx hb dX2_tryDay_9 rfl (lv_at hl 1 rfl) ?_
    refine lv_aload_n hx hb dX2_tryDay_10 rfl (lv_at hl 0 rfl) ?_
    refine r_get (T := TX2) (v := .int (nI dp)) hx hb hts hi2 hown hK hw 0 rfl rfl 4 (by decide) f_1 rfl dX2_tryDay_11 ?_
    refine r_clt hx hb 8 dp (by omega) (by omega) (tgt := 25) dX2_tryDay_14 (by decide) (fun c_14 => ?_) (fun c_14 => ?_)
    · exact absurd c_14 (by omega)
    · refine lv_aload_n hx hb dX2_tryDay_17 rfl (lv_at hl 0 rfl) ?_
      refine lv_iload_n hx hb dX2_tryDay_18 rfl (lv_at hl 3 rfl) ?_
      refine lv_iload hx hb dX2_tryDay_19 (lv_at hl 4 rfl) ?_
      refine c_vv (As := [.int cost, .int set]) (rest := []) ⟨hx, hb, hml, hown, hts⟩ (k_X2_takeIfBetter l D c4 A ((tG c4 tr bh mi fb ba) :: (yG c4 (la 8) (nI n) os kd ic br) :: Ts) sa tr lc lS t f x c th pe cd dc wc dp lv cost set) (cwV 2 hts gX2_tryDay_X2_takeIfBetter rfl rfl rfl (by decide +kernel) (rmv (Nat.le_of_ble_eq_true rfl) (Nat.le_of_ble_eq_true rfl) hRf hRl)) hK trivial hw rfl rfl rfl hl rfl (Nat.le_of_ble_eq_true rfl) ⟨Nat.zero_le _, Nat.zero_le _⟩ dX2_tryDay_21 (fun u_21 H locs hpq hw => ?_)
      obtain ⟨lc2_21, lS2_21⟩ := u_21
      have hw : gW D A js.heap ((sG c4 sa (tr 0) lc2_21 lS2_21 (nI dp) t f x c th pe cd dc wc lv) :: (tG c4 tr bh mi fb ba) :: (yG c4 (la 8) (nI n) os kd ic br) :: Ts) H locs := hw
      have hB_21 := hpq
      have hB_21 : (lc2_21, lS2_21) = betP cost set (lc, lS) := hB_21
      exact kr (lc2_21, lS2_21, bh, mi, fb, ba, gn, go, gk, gi, gb) _ _ _ _ hw (sr_leaf c_14 c_5 hB_21) dX2_tryDay_24
  · exact kr (lc, lS, bh, mi, fb, ba, gn, go, gk, gi, gb) _ _ _ _ hw (sr_out (b := (lc, lS)) c_5) dX2_tryDay_8
set_option maxHeartbeats 4000000 in
set_option maxRecDepth 100000 in
theorem k_X2_tryDay_7 (l : Launch) (D : va_G) (c4 : Nat → ClassId) (A : Nat → Prop) (Ts : List va_W) (sa : Nat → Nat) (tr : Nat → Nat) (la : Nat → Nat → Nat) (lc : Int32) (lS : Int32) (t : Int32) (f : Int32) (x : Int32) (c : Int32) (th : Int32) (pe : Int32) (cd : Int32) (dc : Int32) (wc : Int32) (dp : Nat) (lv : Nat → Option Nat) (bh : Int32) (mi : Int32) (fb : Int32) (ba : Nat → Int32) (n : Nat) (os : Int32) (kd : Nat → Int32) (ic : Nat → Int32) (br : Nat → Int32) (q : Nat → Yq) (gn : Nat → Int32) (go : Nat → Int32) (gk : Nat → Nat → Int32) (gi : Nat → Nat → Int32) (gb : Nat → Nat → Int32) (coal : Int32) (cost : Int32) (set : Int32) (hdp : dp ≤ 8) (hn : n ≤ 12) (hY : yR q n os kd ic br) (hf : fOk f x) (hc : 0 ≤ c.toInt ∧ c.toInt ≤ 30) (hlv : ∀ k, k < 9 → lv k = some (la k 0)) : Cv l yX2_tryDay wsX2_tryDay 3 74 [.ref (sa 0), .int 7, .int coal, .int cost, .int set] D (tyA c4) A none ((sG c4 sa (tr 0) lc lS (nI dp) t f x c th pe cd dc wc lv) :: (tG c4 tr bh mi fb ba) :: (yG c4 (la 7) (nI n) os kd ic br) :: (yG c4 (la 8) (gn 8) (go 8) (gk 8) (gi 8) (gb 8)) :: Ts) (S := Int32 × Int32 × Int32 × Int32 × Int32 × (Nat → Int32) × (Nat → Int32) × (Nat → Int32) × (Nat → Nat → Int32) × (Nat → Nat → Int32) × (Nat → Nat → Int32)) (fun (u : Int32 × Int32 × Int32 × Int32 × Int32 × (Nat → Int32) × (Nat → Int32) × (Nat → Int32) × (Nat → Nat → Int32) × (Nat → Nat → Int32) × (Nat → Nat → Int32)) => (u.1, u.2.1) = srch n f x t c cd dc wc (dp - 7) 7 q coal cost set (lc, lS)) (fun u => ((sG c4 sa (tr 0) u.1 u.2.1 (nI dp) t f x c th pe cd dc wc lv) :: (tG c4 tr u.2.2.1 u.2.2.2.1 u.2.2.2.2.1 u.2.2.2.2.2.1) :: (yG c4 (la 7) (nI n) os kd ic br) :: (yG c4 (la 8) (u.2.2.2.2.2.2.1 8) (u.2.2.2.2.2.2.2.1 8) (u.2.2.2.2.2.2.2.2.1 8) (u.2.2.2.2.2.2.2.2.2.1 8) (u.2.2.2.2.2.2.2.2.2.2 8)) :: Ts)) := by
  refine cOv (cc := cX2_tryDay) (maxL := 11) (by decide) rfl (Nat.le_of_ble_eq_true rfl) rfl ?_
  rintro jp je js jm below meth jc ls args R Q H locs hRf hRl ⟨hx, hb, hml, hr, hts, hown, hlocks, hK, hX⟩ hw hl kr
  have hown : js.vm.findClass RX2 = some jm.cls := hown
  have f_0 := hts (.fieldLink RX2 86 "IceSway$Search" "leastCost" "I") (by decide +kernel)
  have f_1 := hts (.fieldLink RX2 41 "IceSway$Search" "depth" "I") (by decide +kernel)
  have f_2 := hts (.methodLink RX2 100 Lib.Math.max.name) (by decide +kernel)
  have f_3 := hts (.static Lib.Math.max.name) (by decide +kernel)
  have f_4 := hts (.initialized "java/lang/Math") (by decide +kernel)
  have f_5 := hts (.code Lib.Math.max.name Lib.Math.max.code 2 (some .int)) (by decide +kernel)
  have f_6 := hts (.fieldLink RX2 83 "IceSway$Search" "wantCost" "I") (by decide +kernel)
  have f_7 := hts (.fieldLink RX2 20 "IceSway$Search" "levels" "[LIceSway$Yards;") (by decide +kernel)
  have f_8 := hts (.fieldLink RX2 67 "IceSway$Search" "cold" "I") (by decide +kernel)
  have f_9 := hts (.fieldLink RX2 12 "IceSway$Search" "trip" "LIceSway$Trip;") (by decide +kernel)
  have f_10 := hts (.fieldLink RX2 57 "IceSway$Search" "force" "I") (by decide +kernel)
  have f_11 := hts (.fieldLink RX2 64 "IceSway$Search" "axe" "I") (by decide +kernel)
  have f_12 := hts (.fieldLink RX2 45 "IceSway$Search" "minutes" "I") (by decide +kernel)
  have f_13 := hts (.fieldLink RX2 111 "IceSway$Trip" "behind" "I") (by decide +kernel)
  have f_14 := hts (.fieldLink RX2 73 "IceSway$Search" "coalDays" "I") (by decide +kernel)
  have f_15 := hts (.fieldLink RX2 78 "IceSway$Search" "dayCost" "I") (by decide +kernel)
  have hi2 : ∀ w ∈ u_ws RX2 TX2 14, w ∈ wsX2_tryDay := fun w h => List.mem_cons_of_mem _ (List.mem_append_left _ (List.mem_append_left _ (List.mem_append_right _ h)))
  have hi4 : ∀ w ∈ u_ws RX4 TX4 4, w ∈ wsX2_tryDay := fun w h => List.mem_cons_of_mem _ (List.mem_append_left _ (List.mem_append_right _ h))
  refine lv_iload_n hx hb dX2_tryDay_0 rfl (lv_at hl 3 rfl) ?_
  refine lv_aload_n hx hb dX2_tryDay_1 rfl (lv_at hl 0 rfl) ?_
  refine r_get (T := TX2) (v := .int lc) hx hb hts hi2 hown hK hw 0 rfl rfl 0 (by decide) f_0 rfl dX2_tryDay_2 ?_
  refine lv_icmp_le (tgt := 9) hx hb dX2_tryDay_5 (by decide) (fun c_5 => ?_) (fun c_5 => ?_)
  · refine lv_iload_n hx hb dX2_tryDay_9 rfl (lv_at hl 1 rfl) ?_
    refine lv_aload_n hx hb dX2_tryDay_10 rfl (lv_at hl 0 rfl) ?_
    refine r_get (T := TX2) (v := .int (nI dp)) hx hb hts hi2 hown hK hw 0 rfl rfl 4 (by decide) f_1 rfl dX2_tryDay_11 ?_
    refine r_clt hx hb 7 dp (by omega) (by omega) (tgt := 25) dX2_tryDay_14 (by decide) (fun c_14 => ?_) (fun c_14 => ?_)
    · refine lv_iconst (v := 0) hx hb dX2_tryDay_25 (by decide) ?_
      refine lv_iload_n hx hb dX2_tryDay_26 rfl (lv_at hl 2 rfl) ?_
      refine lv_iconst (v := 1) hx hb dX2_tryDay_27 (by decide) ?_
      refine lv_isub hx hb dX2_tryDay_28 ?_
      refine va_mmax hx hb (hml.trans hl.1.symm) hown f_2 f_3 f_4 f_5 (by rw [hRf]; exact Nat.le_of_ble_eq_true rfl) (by rw [hRl]; exact Nat.le_of_ble_eq_true rfl) (Nat.zero_le _) (Nat.zero_le _) dX2_tryDay_29 ?_
      refine lv_istore (lv' := [(5, .int (if 0 < (coal - 1) then (coal - 1) else 0)), (0, .ref (sa 0)), (1, .int 7), (2, .int coal), (3, .int cost), (4, .int set)]) hx hb dX2_tryDay_32 hl (by decide) rfl (fun ls hl => ?_)
      refine lv_iload_n hx hb dX2_tryDay_34 rfl (lv_at hl 3 rfl) ?_
      have kj_35 : ∀ (w_1 : Int32) (ls : Array Slot), w_1 = (if coal ≤ 0 then (cost + wc) else cost) → lv_has ls 11 [(5, .int (if 0 < (coal - 1) then (coal - 1) else 0)), (0, .ref (sa 0)), (1, .int 7), (2, .int coal), (3, .int cost), (4, .int set)] → W jp l je R js jm args below meth jc H locs 0 0 Q (F0 jm 48 ls [.int w_1]) := by
        intro w_1 ls e_w_1 hl
        subst e_w_1
        refine lv_istore (lv' := [(6, .int (if coal ≤ 0 then (cost + wc) else cost)), (5, .int (if 0 < (coal - 1) then (coal - 1) else 0)), (0, .ref (sa 0)), (1, .int 7), (2, .int coal), (3, .int cost), (4, .int set)]) hx hb dX2_tryDay_48 hl (by decide) rfl (fun ls hl => ?_)
        refine lv_aload_n hx hb dX2_tryDay_50 rfl (lv_at hl 2 rfl) ?_
        refine r_get (T := TX2) (v := .ref (sa 1)) hx hb hts hi2 hown hK hw 0 rfl rfl 3 (by decide) f_7 rfl dX2_tryDay_51 ?_
        refine lv_iload_n hx hb dX2_tryDay_54 rfl (lv_at hl 3 rfl) ?_
        refine r_aald hx hb hK hw 1 3 rfl rfl 7 (by decide) (by decide) (b := ((la 7) 0)) (hlv 7 (by decide)) dX2_tryDay_55 ?_
        refine lv_astore (lv' := [(7, .ref ((la 7) 0)), (6, .int (if coal ≤ 0 then (cost + wc) else cost)), (5, .int (if 0 < (coal - 1) then (coal - 1) else 0)), (0, .ref (sa 0)), (1, .int 7), (2, .int coal), (3, .int cost), (4, .int set)]) hx hb dX2_tryDay_56 hl (by decide) rfl (fun ls hl => ?_)
        refine lv_aload_n hx hb dX2_tryDay_58 rfl (lv_at hl 3 rfl) ?_
        refine r_get (T := TX2) (v := .ref (sa 1)) hx hb hts hi2 hown hK hw 0 rfl rfl 3 (by decide) f_7 rfl dX2_tryDay_59 ?_
        refine lv_iload_n hx hb dX2_tryDay_62 rfl (lv_at hl 4 rfl) ?_
        refine lv_iconst (v := 1) hx hb dX2_tryDay_63 (by decide) ?_
        refine r_addN hx hb 7 1 dX2_tryDay_64 ?_
        refine r_aald hx hb hK hw 1 3 rfl rfl 8 (by decide) (by decide) (b := ((la 8) 0)) (hlv 8 (by decide)) dX2_tryDay_65 ?_
        refine lv_astore (lv' := [(8, .ref ((la 8) 0)), (7, .ref ((la 7) 0)), (6, .int (if coal ≤ 0 then (cost + wc) else cost)), (5, .int (if 0 < (coal - 1) then (coal - 1) else 0)), (0, .ref (sa 0)), (1, .int 7), (2, .int coal), (3, .int cost), (4, .int set)]) hx hb dX2_tryDay_66 hl (by decide) rfl (fun ls hl => ?_)
        refine lv_aload hx hb dX2_tryDay_68 (lv_at hl 0 rfl) ?_
        refine lv_aload hx hb dX2_tryDay_70 (lv_at hl 1 rfl) ?_
        have hw := hw.m2
        have hw := hw.m3
        refine c_vv (As := [.ref ((la 7) 0)]) (rest := []) ⟨hx, hb, hml, hown, hts⟩ (k_X6_copyFrom l D c4 A ((sG c4 sa (tr 0) lc lS (nI dp) t f x c th pe cd dc wc lv) :: (tG c4 tr bh mi fb ba) :: Ts) (la 8) (gn 8) (go 8) (gk 8) (gi 8) (gb 8) (la 7) n os kd ic br q hn hY) (cwV 1 hts gX2_tryDay_X6_copyFrom rfl rfl rfl (by decide +kernel) (rmv (Nat.le_of_ble_eq_true rfl) (Nat.le_of_ble_eq_true rfl) hRf hRl)) hK trivial hw rfl rfl rfl hl rfl (Nat.le_of_ble_eq_true rfl) ⟨Nat.zero_le _, Nat.zero_le _⟩ dX2_tryDay_72 (fun u_72 H locs hpq hw => ?_)
        obtain ⟨kd2_72, ic2_72, br2_72⟩ := u_72
        have hw : gW D A js.heap ((yG c4 (la 8) (nI n) os kd2_72 ic2_72 br2_72) :: (yG c4 (la 7) (nI n) os kd ic br) :: (sG c4 sa (tr 0) lc lS (nI dp) t f x c th pe cd dc wc lv) :: (tG c4 tr bh mi fb ba) :: Ts) H locs := hw
        have hY_72 := hpq
        have hY_72 : yR q n os kd2_72 ic2_72 br2_72 := hY_72
        refine lv_aload hx hb dX2_tryDay_75 (lv_at hl 0 rfl) ?_
        refine lv_aload_n hx hb dX2_tryDay_77 rfl (lv_at hl 4 rfl) ?_
        refine r_get (T := TX2) (v := .int c) hx hb hts hi2 hown hK hw 8 rfl rfl 8 (by decide) f_8 rfl dX2_tryDay_78 ?_
        refine c_vv (As := [.int c]) (rest := []) ⟨hx, hb, hml, hown, hts⟩ (k_X6_freeze l D c4 A ((yG c4 (la 7) (nI n) os kd ic br) :: (sG c4 sa (tr 0) lc lS (nI dp) t f x c th pe cd dc wc lv) :: (tG c4 tr bh mi fb ba) :: Ts) (la 8) n os kd2_72 ic2_72 br2_72 q c hn hY_72 hc) (cwV 1 hts gX2_tryDay_X6_freeze rfl rfl rfl (by decide +kernel) (rmv (Nat.le_of_ble_eq_true rfl) (Nat.le_of_ble_eq_true rfl) hRf hRl)) hK trivial hw rfl rfl rfl hl rfl (Nat.le_of_ble_eq_true rfl) ⟨Nat.zero_le _, Nat.zero_le _⟩ dX2_tryDay_81 (fun u_81 H locs hpq hw => ?_)
        obtain ⟨os2_81, kd2_81, ic2_81, br2_81⟩ := u_81
        have hw : gW D A js.heap ((yG c4 (la 8) (nI n) os2_81 kd2_81 ic2_81 br2_81) :: (yG c4 (la 7) (nI n) os kd ic br) :: (sG c4 sa (tr 0) lc lS (nI dp) t f x c th pe cd dc wc lv) :: (tG c4 tr bh mi fb ba) :: Ts) H locs := hw
        have hY_81 := hpq
        have hY_81 : yR (fun y => nightQ c (q y)) n os2_81 kd2_81 ic2_81 br2_81 := hY_81
        refine lv_aload_n hx hb dX2_tryDay_84 rfl (lv_at hl 4 rfl) ?_
        refine lv_iload_n hx hb dX2_tryDay_85 rfl (lv_at hl 5 rfl) ?_
        refine lv_iconst (v := 1) hx hb dX2_tryDay_86 (by decide) ?_
        refine r_addN hx hb 7 1 dX2_tryDay_87 ?_
        refine lv_iload hx hb dX2_tryDay_88 (lv_at hl 3 rfl) ?_
        refine lv_iload hx hb dX2_tryDay_90 (lv_at hl 2 rfl) ?_
        refine lv_iload hx hb dX2_tryDay_92 (lv_at hl 8 rfl) ?_
        have hw := hw.m3
        have hw := hw.m3
        refine c_vv (As := [.int 8, .int (if 0 < (coal - 1) then (coal - 1) else 0), .int (if coal ≤ 0 then (cost + wc) else cost), .int set]) (rest := []) ⟨hx, hb, hml, hown, hts⟩ (k_X2_tryDay_8 l D c4 A ((yG c4 (la 7) (nI n) os kd ic br) :: Ts) sa tr la lc lS t f x c th pe cd dc wc dp lv bh mi fb ba n os2_81 kd2_81 ic2_81 br2_81 (fun y => nightQ c (q y)) gn go gk gi gb (if 0 < (coal - 1) then (coal - 1) else 0) (if coal ≤ 0 then (cost + wc) else cost) set hdp hn hY_81 hf hc hlv) (cwV 4 hts gX2_tryDay_X2_tryDay rfl rfl rfl (by decide +kernel) (rmv (Nat.le_of_ble_eq_true rfl) (Nat.le_of_ble_eq_true rfl) hRf hRl)) hK trivial hw rfl rfl rfl hl rfl (Nat.le_of_ble_eq_true rfl) ⟨Nat.zero_le _, Nat.zero_le _⟩ dX2_tryDay_94 (fun u_94 H locs hpq hw => ?_)
        obtain ⟨lc2_94, lS2_94, bh2_94, mi2_94, fb2_94, ba2_94, gn2_94, go2_94, gk2_94, gi2_94, gb2_94⟩ := u_94
        have hw : gW D A js.heap ((sG c4 sa (tr 0) lc2_94 lS2_94 (nI dp) t f x c th pe cd dc wc lv) :: (tG c4 tr bh2_94 mi2_94 fb2_94 ba2_94) :: (yG c4 (la 8) (nI n) os2_81 kd2_81 ic2_81 br2_81) :: (yG c4 (la 7) (nI n) os kd ic br) :: Ts) H locs := hw
        have hS_94 := hpq
        have hS_94 : (lc2_94, lS2_94) = srch n f x t c cd dc wc (dp - 8) 8 (fun y => nightQ c (q y)) (if 0 < (coal - 1) then (coal - 1) else 0) (if coal ≤ 0 then (cost + wc) else cost) set (lc, lS) := hS_94
        refine lv_aload_n hx hb dX2_tryDay_97 rfl (lv_at hl 4 rfl) ?_
        refine r_get (T := TX2) (v := .ref (tr 0)) hx hb hts hi2 hown hK hw 0 rfl rfl 2 (by decide) f_9 rfl dX2_tryDay_98 ?_
        refine lv_aload hx hb dX2_tryDay_101 (lv_at hl 1 rfl) ?_
        refine lv_aload_n hx hb dX2_tryDay_103 rfl (lv_at hl 4 rfl) ?_
        refine r_get (T := TX2) (v := .int f) hx hb hts hi2 hown hK hw 0 rfl rfl 6 (by decide) f_10 rfl dX2_tryDay_104 ?_
        refine lv_aload_n hx hb dX2_tryDay_107 rfl (lv_at hl 4 rfl) ?_
        refine r_get (T := TX2) (v := .int x) hx hb hts hi2 hown hK hw 0 rfl rfl 7 (by decide) f_11 rfl dX2_tryDay_108 ?_
        refine lv_aload_n hx hb dX2_tryDay_111 rfl (lv_at hl 4 rfl) ?_
        refine r_get (T := TX2) (v := .int t) hx hb hts hi2 hown hK hw 0 rfl rfl 5 (by decide) f_12 rfl dX2_tryDay_112 ?_
        have hw := hw.m3
        have hw := hw.m2
        refine c_vi (As := [.ref ((la 7) 0), .int f, .int x, .int t]) (rest := []) ⟨hx, hb, hml, hown, hts⟩ (k_X4_passes l D c4 A ((sG c4 sa (tr 0) lc2_94 lS2_94 (nI dp) t f x c th pe cd dc wc lv) :: (yG c4 (la 8) (nI n) os2_81 kd2_81 ic2_81 br2_81) :: Ts) tr bh2_94 mi2_94 fb2_94 ba2_94 (la 7) n os kd ic br q f x t hn hY hf) (cwV 4 hts gX2_tryDay_X4_passes rfl rfl rfl (by decide +kernel) (rmv (Nat.le_of_ble_eq_true rfl) (Nat.le_of_ble_eq_true rfl) hRf hRl)) hK trivial hw rfl rfl rfl hl rfl (Nat.le_of_ble_eq_true rfl) ⟨Nat.zero_le _, Nat.zero_le _⟩ dX2_tryDay_115 (fun r_115 u_115 H locs hpq hw => ?_)
        obtain ⟨b2_115, ba2_115⟩ := u_115
        have hw : gW D A js.heap ((tG c4 tr (nI b2_115) (cumQ f x q b2_115) (fbQ q b2_115) ba2_115) :: (yG c4 (la 7) (nI n) os kd ic br) :: (sG c4 sa (tr 0) lc2_94 lS2_94 (nI dp) t f x c th pe cd dc wc lv) :: (yG c4 (la 8) (nI n) os2_81 kd2_81 ic2_81 br2_81) :: Ts) H locs := hw
        obtain ⟨h0_115, h1_115, hb2_115, hba_115⟩ := hpq
        have h0_115 : r_115 = 0 → ¬ b2_115 = n := h0_115
        have h1_115 : ¬ r_115 = 0 → b2_115 = n := h1_115
        have hb2_115 : b2_115 = bhQ f x t q n := hb2_115
        have hba_115 : ∀ k, k < b2_115 → ba2_115 k = cumQ f x q (k + 1) := hba_115
        refine lv_istore (lv' := [(9, .int r_115), (8, .ref ((la 8) 0)), (7, .ref ((la 7) 0)), (6, .int (if coal ≤ 0 then (cost + wc) else cost)), (5, .int (if 0 < (coal - 1) then (coal - 1) else 0)), (0, .ref (sa 0)), (1, .int 7), (2, .int coal), (3, .int cost), (4, .int set)]) hx hb dX2_tryDay_118 hl (by decide) rfl (fun ls hl => ?_)
        refine lv_aload hx hb dX2_tryDay_120 (lv_at hl 1 rfl) ?_
        refine lv_aload hx hb dX2_tryDay_122 (lv_at hl 2 rfl) ?_
        have hw := hw.m1
        have hw := hw.m3
        refine c_vv (As := [.ref ((la 7) 0)]) (rest := []) ⟨hx, hb, hml, hown, hts⟩ (k_X6_copyFrom l D c4 A ((tG c4 tr (nI b2_115) (cumQ f x q b2_115) (fbQ q b2_115) ba2_115) :: (sG c4 sa (tr 0) lc2_94 lS2_94 (nI dp) t f x c th pe cd dc wc lv) :: Ts) (la 8) (nI n) os2_81 kd2_81 ic2_81 br2_81 (la 7) n os kd ic br q hn hY) (cwV 1 hts gX2_tryDay_X6_copyFrom rfl rfl rfl (by decide +kernel) (rmv (Nat.le_of_ble_eq_true rfl) (Nat.le_of_ble_eq_true rfl) hRf hRl)) hK trivial hw rfl rfl rfl hl rfl (Nat.le_of_ble_eq_true rfl) ⟨Nat.zero_le _, Nat.zero_le _⟩ dX2_tryDay_124 (fun u_124 H locs hpq hw => ?_)
        obtain ⟨kd2_124, ic2_124, br2_124⟩ := u_124
        have hw : gW D A js.heap ((yG c4 (la 8) (nI n) os kd2_124 ic2_124 br2_124) :: (yG c4 (la 7) (nI n) os kd ic br) :: (tG c4 tr (nI b2_115) (cumQ f x q b2_115) (fbQ q b2_115) ba2_115) :: (sG c4 sa (tr 0) lc2_94 lS2_94 (nI dp) t f x c th pe cd dc wc lv) :: Ts) H locs := hw
        have hY_124 := hpq
        have hY_124 : yR q n os kd2_124 ic2_124 br2_124 := hY_124
        refine lv_aload hx hb dX2_tryDay_127 (lv_at hl 1 rfl) ?_
        refine lv_aload_n hx hb dX2_tryDay_129 rfl (lv_at hl 5 rfl) ?_
        refine r_get (T := TX2) (v := .ref (tr 0)) hx hb hts hi2 hown hK hw 10 rfl rfl 2 (by decide) f_9 rfl dX2_tryDay_130 ?_
        refine r_get (T := TX4) (v := .int (nI b2_115)) hx hb hts hi4 hown hK hw 8 rfl rfl 0 (by decide) f_13 rfl dX2_tryDay_133 ?_
        refine c_vv (As := [.int (nI b2_115)]) (rest := []) ⟨hx, hb, hml, hown, hts⟩ (k_X6_openFirst l D c4 A ((yG c4 (la 7) (nI n) os kd ic br) :: (tG c4 tr (nI b2_115) (cumQ f x q b2_115) (fbQ q b2_115) ba2_115) :: (sG c4 sa (tr 0) lc2_94 lS2_94 (nI dp) t f x c th pe cd dc wc lv) :: Ts) (la 8) n os kd2_124 ic2_124 br2_124 q b2_115 hn hY_124 (by rw [hb2_115]; exact bh_le _ _ _ _ _)) (cwV 1 hts gX2_tryDay_X6_openFirst rfl rfl rfl (by decide +kernel) (rmv (Nat.le_of_ble_eq_true rfl) (Nat.le_of_ble_eq_true rfl) hRf hRl)) hK trivial hw rfl rfl rfl hl rfl (Nat.le_of_ble_eq_true rfl) ⟨Nat.zero_le _, Nat.zero_le _⟩ dX2_tryDay_136 (fun u_136 H locs hpq hw => ?_)
        obtain ⟨os2_136, ic2_136, br2_136⟩ := u_136
        have hw : gW D A js.heap ((yG c4 (la 8) (nI n) os2_136 kd2_124 ic2_136 br2_136) :: (yG c4 (la 7) (nI n) os kd ic br) :: (tG c4 tr (nI b2_115) (cumQ f x q b2_115) (fbQ q b2_115) ba2_115) :: (sG c4 sa (tr 0) lc2_94 lS2_94 (nI dp) t f x c th pe cd dc wc lv) :: Ts) H locs := hw
        have hY_136 := hpq
        have hY_136 : yR (mixQ openQ q b2_115) n os2_136 kd2_124 ic2_136 br2_136 := hY_136
        refine lv_aload hx hb dX2_tryDay_139 (lv_at hl 1 rfl) ?_
        refine lv_aload_n hx hb dX2_tryDay_141 rfl (lv_at hl 5 rfl) ?_
        refine r_get (T := TX2) (v := .int c) hx hb hts hi2 hown hK hw 10 rfl rfl 8 (by decide) f_8 rfl dX2_tryDay_142 ?_
        refine c_vv (As := [.int c]) (rest := []) ⟨hx, hb, hml, hown, hts⟩ (k_X6_freeze l D c4 A ((yG c4 (la 7) (nI n) os kd ic br) :: (tG c4 tr (nI b2_115) (cumQ f x q b2_115) (fbQ q b2_115) ba2_115) :: (sG c4 sa (tr 0) lc2_94 lS2_94 (nI dp) t f x c th pe cd dc wc lv) :: Ts) (la 8) n os2_136 kd2_124 ic2_136 br2_136 (mixQ openQ q b2_115) c hn hY_136 hc) (cwV 1 hts gX2_tryDay_X6_freeze rfl rfl rfl (by decide +kernel) (rmv (Nat.le_of_ble_eq_true rfl) (Nat.le_of_ble_eq_true rfl) hRf hRl)) hK trivial hw rfl rfl rfl hl rfl (Nat.le_of_ble_eq_true rfl) ⟨Nat.zero_le _, Nat.zero_le _⟩ dX2_tryDay_145 (fun u_145 H locs hpq hw => ?_)
        obtain ⟨os2_145, kd2_145, ic2_145, br2_145⟩ := u_145
        have hw : gW D A js.heap ((yG c4 (la 8) (nI n) os2_145 kd2_145 ic2_145 br2_145) :: (yG c4 (la 7) (nI n) os kd ic br) :: (tG c4 tr (nI b2_115) (cumQ f x q b2_115) (fbQ q b2_115) ba2_115) :: (sG c4 sa (tr 0) lc2_94 lS2_94 (nI dp) t f x c th pe cd dc wc lv) :: Ts) H locs := hw
        have hY_145 := hpq
        have hY_145 : yR (fun y => nightQ c ((mixQ openQ q b2_115) y)) n os2_145 kd2_145 ic2_145 br2_145 := hY_145
        refine lv_iload hx hb dX2_tryDay_148 (lv_at hl 0 rfl) ?_
        have kj_150 : ∀ (w_2 : Int32) (ls : Array Slot), w_2 = (if r_115 = 0 then (if 0 < (coal - 1) then (coal - 1) else 0) else cd) → lv_has ls 11 [(9, .int r_115), (8, .ref ((la 8) 0)), (7, .ref ((la 7) 0)), (6, .int (if coal ≤ 0 then (cost + wc) else cost)), (5, .int (if 0 < (coal - 1) then (coal - 1) else 0)), (0, .ref (sa 0)), (1, .int 7), (2, .int coal), (3, .int cost), (4, .int set)] → W jp l je R js jm args below meth jc H locs 0 0 Q (F0 jm 162 ls [.int w_2]) := by
          intro w_2 ls e_w_2 hl
          subst e_w_2
          refine lv_istore (lv' := [(10, .int (if r_115 = 0 then (if 0 < (coal - 1) then (coal - 1) else 0) else cd)), (9, .int r_115), (8, .ref ((la 8) 0)), (7, .ref ((la 7) 0)), (6, .int (if coal ≤ 0 then (cost + wc) else cost)), (5, .int (if 0 < (coal - 1) then (coal - 1) else 0)), (0, .ref (sa 0)), (1, .int 7), (2, .int coal), (3, .int cost), (4, .int set)]) hx hb dX2_tryDay_162 hl (by decide) rfl (fun ls hl => ?_)
          refine lv_aload_n hx hb dX2_tryDay_164 rfl (lv_at hl 6 rfl) ?_
          refine lv_iload_n hx hb dX2_tryDay_165 rfl (lv_at hl 7 rfl) ?_
          refine lv_iconst (v := 1) hx hb dX2_tryDay_166 (by decide) ?_
          refine r_addN hx hb 7 1 dX2_tryDay_167 ?_
          refine lv_iload hx hb dX2_tryDay_168 (lv_at hl 0 rfl) ?_
          refine lv_iload hx hb dX2_tryDay_170 (lv_at hl 4 rfl) ?_
          refine lv_aload_n hx hb dX2_tryDay_172 rfl (lv_at hl 6 rfl) ?_
          refine r_get (T := TX2) (v := .int dc) hx hb hts hi2 hown hK hw 10 rfl rfl 12 (by decide) f_15 rfl dX2_tryDay_173 ?_
          refine lv_iadd hx hb dX2_tryDay_176 ?_
          refine lv_iload hx hb dX2_tryDay_177 (lv_at hl 10 rfl) ?_
          refine lv_iconst (v := 1) hx hb dX2_tryDay_179 (by decide) ?_
          refine lv_iload_n hx hb dX2_tryDay_180 rfl (lv_at hl 7 rfl) ?_
          refine lv_ishl hx hb dX2_tryDay_181 ?_
          refine lv_ior hx hb dX2_tryDay_182 ?_
          have hw := hw.m2
          have hw := hw.m3
          refine c_vv (As := [.int 8, .int (if r_115 = 0 then (if 0 < (coal - 1) then (coal - 1) else 0) else cd), .int ((if coal ≤ 0 then (cost + wc) else cost) + dc), .int (set ||| ((1 : Int32) <<< ((7 : Int32) &&& 31)))]) (rest := []) ⟨hx, hb, hml, hown, hts⟩ (k_X2_tryDay_8 l D c4 A ((yG c4 (la 7) (nI n) os kd ic br) :: Ts) sa tr la lc2_94 lS2_94 t f x c th pe cd dc wc dp lv (nI b2_115) (cumQ f x q b2_115) (fbQ q b2_115) ba2_115 n os2_145 kd2_145 ic2_145 br2_145 (fun y => nightQ c ((mixQ openQ q b2_115) y)) gn2_94 go2_94 gk2_94 gi2_94 gb2_94 (if r_115 = 0 then (if 0 < (coal - 1) then (coal - 1) else 0) else cd) ((if coal ≤ 0 then (cost + wc) else cost) + dc) (set ||| ((1 : Int32) <<< ((7 : Int32) &&& 31))) hdp hn hY_145 hf hc hlv) (cwV 4 hts gX2_tryDay_X2_tryDay rfl rfl rfl (by decide +kernel) (rmv (Nat.le_of_ble_eq_true rfl) (Nat.le_of_ble_eq_true rfl) hRf hRl)) hK trivial hw rfl rfl rfl hl rfl (Nat.le_of_ble_eq_true rfl) ⟨Nat.zero_le _, Nat.zero_le _⟩ dX2_tryDay_183 (fun u_183 H locs hpq hw => ?_)
          obtain ⟨lc2_183, lS2_183, bh2_183, mi2_183, fb2_183, ba2_183, gn2_183, go2_183, gk2_183, gi2_183, gb2_183⟩ := u_183
          have hw : gW D A js.heap ((sG c4 sa (tr 0) lc2_183 lS2_183 (nI dp) t f x c th pe cd dc wc lv) :: (tG c4 tr bh2_183 mi2_183 fb2_183 ba2_183) :: (yG c4 (la 8) (nI n) os2_145 kd2_145 ic2_145 br2_145) :: (yG c4 (la 7) (nI n) os kd ic br) :: Ts) H locs := hw
          have hS_183 := hpq
          have hS_183 : (lc2_183, lS2_183) = srch n f x t c cd dc wc (dp - 8) 8 (fun y => nightQ c ((mixQ openQ q b2_115) y)) (if r_115 = 0 then (if 0 < (coal - 1) then (coal - 1) else 0) else cd) ((if coal ≤ 0 then (cost + wc) else cost) + dc) (set ||| ((1 : Int32) <<< ((7 : Int32) &&& 31))) (lc2_94, lS2_94) := hS_183
          have hw := hw.m2
          have hw := hw.m3
          have hw := hw.m3
          have hw := hw.m3
          exact kr (lc2_183, lS2_183, bh2_183, mi2_183, fb2_183, ba2_183, upd gn2_183 8 (nI n), upd go2_183 8 os2_145, va_up gk2_183 8 kd2_145, va_up gi2_183 8 ic2_145, va_up gb2_183 8 br2_145) _ _ _ _ hw (sr_node (d := 7) c_14 c_5 hS_94 hb2_115 h0_115 h1_115 hS_183) dX2_tryDay_186
        refine lv_if_eq (tgt := 160) hx hb dX2_tryDay_150 (by decide) (fun c_150 => ?_) (fun c_150 => ?_)
        · refine lv_iload hx hb dX2_tryDay_160 (lv_at hl 4 rfl) ?_
          exact kj_150 _ ls (by first | rfl | (rw [if_pos c_150]; done) | (simp only [if_pos c_150]; done) | simp [c_150]) (lv_sub hl [0, 1, 2, 3, 4, 5, 6, 7, 8, 9] rfl)
        · refine lv_aload_n hx hb dX2_tryDay_153 rfl (lv_at hl 5 rfl) ?_
          refine r_get (T := TX2) (v := .int cd) hx hb hts hi2 hown hK hw 10 rfl rfl 11 (by decide) f_14 rfl dX2_tryDay_154 ?_
          refine lv_goto (tgt := 162) hx hb dX2_tryDay_157 (by decide) ?_
          exact kj_150 _ ls (by first | rfl | (rw [if_neg c_150]; done) | (simp only [if_neg c_150]; done) | simp [c_150]) (lv_sub hl [0, 1, 2, 3, 4, 5, 6, 7, 8, 9] rfl)
      refine lv_if_le (tgt := 42) hx hb dX2_tryDay_35 (by decide) (fun c_35 => ?_) (fun c_35 => ?_)
      · refine lv_iload_n hx hb dX2_tryDay_42 rfl (lv_at hl 4 rfl) ?_
        refine lv_aload_n hx hb dX2_tryDay_43 rfl (lv_at hl 1 rfl) ?_
        refine r_get (T := TX2) (v := .int wc) hx hb hts hi2 hown hK hw 0 rfl rfl 13 (by decide) f_6 rfl dX2_tryDay_44 ?_
        refine lv_iadd hx hb dX2_tryDay_47 ?_
        exact kj_35 _ ls (by first | rfl | (rw [if_pos c_35]; done) | (simp only [if_pos c_35]; done) | simp [c_35]) (lv_sub hl [0, 1, 2, 3, 4, 5] rfl)
      · refine lv_iload_n hx hb dX2_tryDay_38 rfl (lv_at hl 4 rfl) ?_
        refine lv_goto (tgt := 48) hx hb dX2_tryDay_39 (by decide) ?_
        exact kj_35 _ ls (by first | rfl | (rw [if_neg c_35]; done) | (simp only [if_neg c_35]; done) | simp [c_35]) (lv_sub hl [0, 1, 2, 3, 4, 5] rfl)
    · refine lv_aload_n hx hb dX2_tryDay_17 rfl (lv_at hl 0 rfl) ?_
      refine lv_iload_n hx hb dX2_tryDay_18 rfl (lv_at hl 3 rfl) ?_
      refine lv_iload hx hb dX2_tryDay_19 (lv_at hl 4 rfl) ?_
      refine c_vv (As := [.int cost, .int set]) (rest := []) ⟨hx, hb, hml, hown, hts⟩ (k_X2_takeIfBetter l D c4 A ((tG c4 tr bh mi fb ba) :: (yG c4 (la 7) (nI n) os kd ic br) :: (yG c4 (la 8) (gn 8) (go 8) (gk 8) (gi 8) (gb 8)) :: Ts) sa tr lc lS t f x c th pe cd dc wc dp lv cost set) (cwV 2 hts gX2_tryDay_X2_takeIfBetter rfl rfl rfl (by decide +kernel) (rmv (Nat.le_of_ble_eq_true rfl) (Nat.le_of_ble_eq_true rfl) hRf hRl)) hK trivial hw rfl rfl rfl hl rfl (Nat.le_of_ble_eq_true rfl) ⟨Nat.zero_le _, Nat.zero_le _⟩ dX2_tryDay_21 (fun u_21 H locs hpq hw => ?_)
      obtain ⟨lc2_21, lS2_21⟩ := u_21
      have hw : gW D A js.heap ((sG c4 sa (tr 0) lc2_21 lS2_21 (nI dp) t f x c th pe cd dc wc lv) :: (tG c4 tr bh mi fb ba) :: (yG c4 (la 7) (nI n) os kd ic br) :: (yG c4 (la 8) (gn 8) (go 8) (gk 8) (gi 8) (gb 8)) :: Ts) H locs := hw
      have hB_21 := hpq
      have hB_21 : (lc2_21, lS2_21) = betP cost set (lc, lS) := hB_21
      exact kr (lc2_21, lS2_21, bh, mi, fb, ba, gn, go, gk, gi, gb) _ _ _ _ hw (sr_leaf c_14 c_5 hB_21) dX2_tryDay_24
  · exact kr (lc, lS, bh, mi, fb, ba, gn, go, gk, gi, gb) _ _ _ _ hw (sr_out (b := (lc, lS)) c_5) dX2_tryDay_8
set_option maxHeartbeats 4000000 in
set_option maxRecDepth 100000 in
theorem k_X2_tryDay_6 (l : Launch) (D : va_G) (c4 : Nat → ClassId) (A : Nat → Prop) (Ts : List va_W) (sa : Nat → Nat) (tr : Nat → Nat) (la : Nat → Nat → Nat) (lc : Int32) (lS : Int32) (t : Int32) (f : Int32) (x : Int32) (c : Int32) (th : Int32) (pe : Int32) (cd : Int32) (dc : Int32) (wc : Int32) (dp : Nat) (lv : Nat → Option Nat) (bh : Int32) (mi : Int32) (fb : Int32) (ba : Nat → Int32) (n : Nat) (os : Int32) (kd : Nat → Int32) (ic : Nat → Int32) (br : Nat → Int32) (q : Nat → Yq) (gn : Nat → Int32) (go : Nat → Int32) (gk : Nat → Nat → Int32) (gi : Nat → Nat → Int32) (gb : Nat → Nat → Int32) (coal : Int32) (cost : Int32) (set : Int32) (hdp : dp ≤ 8) (hn : n ≤ 12) (hY : yR q n os kd ic br) (hf : fOk f x) (hc : 0 ≤ c.toInt ∧ c.toInt ≤ 30) (hlv : ∀ k, k < 9 → lv k = some (la k 0)) : Cv l yX2_tryDay wsX2_tryDay 4 104 [.ref (sa 0), .int 6, .int coal, .int cost, .int set] D (tyA c4) A none ((sG c4 sa (tr 0) lc lS (nI dp) t f x c th pe cd dc wc lv) :: (tG c4 tr bh mi fb ba) :: (yG c4 (la 6) (nI n) os kd ic br) :: (yG c4 (la 7) (gn 7) (go 7) (gk 7) (gi 7) (gb 7)) :: (yG c4 (la 8) (gn 8) (go 8) (gk 8) (gi 8) (gb 8)) :: Ts) (S := Int32 × Int32 × Int32 × Int32 × Int32 × (Nat → Int32) × (Nat → Int32) × (Nat → Int32) × (Nat → Nat → Int32) × (Nat → Nat → Int32) × (Nat → Nat → Int32)) (fun (u : Int32 × Int32 × Int32 × Int32 × Int32 × (Nat → Int32) × (Nat → Int32) × (Nat → Int32) × (Nat → Nat → Int32) × (Nat → Nat → Int32) × (Nat → Nat → Int32)) => (u.1, u.2.1) = srch n f x t c cd dc wc (dp - 6) 6 q coal cost set (lc, lS)) (fun u => ((sG c4 sa (tr 0) u.1 u.2.1 (nI dp) t f x c th pe cd dc wc lv) :: (tG c4 tr u.2.2.1 u.2.2.2.1 u.2.2.2.2.1 u.2.2.2.2.2.1) :: (yG c4 (la 6) (nI n) os kd ic br) :: (yG c4 (la 7) (u.2.2.2.2.2.2.1 7) (u.2.2.2.2.2.2.2.1 7) (u.2.2.2.2.2.2.2.2.1 7) (u.2.2.2.2.2.2.2.2.2.1 7) (u.2.2.2.2.2.2.2.2.2.2 7)) :: (yG c4 (la 8) (u.2.2.2.2.2.2.1 8) (u.2.2.2.2.2.2.2.1 8) (u.2.2.2.2.2.2.2.2.1 8) (u.2.2.2.2.2.2.2.2.2.1 8) (u.2.2.2.2.2.2.2.2.2.2 8)) :: Ts)) := by
  refine cOv (cc := cX2_tryDay) (maxL := 11) (by decide) rfl (Nat.le_of_ble_eq_true rfl) rfl ?_
  rintro jp je js jm below meth jc ls args R Q H locs hRf hRl ⟨hx, hb, hml, hr, hts, hown, hlocks, hK, hX⟩ hw hl kr
  have hown : js.vm.findClass RX2 = some jm.cls := hown
  have f_0 := hts (.fieldLink RX2 86 "IceSway$Search" "leastCost" "I") (by decide +kernel)
  have f_1 := hts (.fieldLink RX2 41 "IceSway$Search" "depth" "I") (by decide +kernel)
  have f_2 := hts (.methodLink RX2 100 Lib.Math.max.name) (by decide +kernel)
  have f_3 := hts (.static Lib.Math.max.name) (by decide +kernel)
  have f_4 := hts (.initialized "java/lang/Math") (by decide +kernel)
  have f_5 := hts (.code Lib.Math.max.name Lib.Math.max.code 2 (some .int)) (by decide +kernel)
  have f_6 := hts (.fieldLink RX2 83 "IceSway$Search" "wantCost" "I") (by decide +kernel)
  have f_7 := hts (.fieldLink RX2 20 "IceSway$Search" "levels" "[LIceSway$Yards;") (by decide +kernel)
  have f_8 := hts (.fieldLink RX2 67 "IceSway$Search" "cold" "I") (by decide +kernel)
  have f_9 := hts (.fieldLink RX2 12 "IceSway$Search" "trip" "LIceSway$Trip;") (by decide +kernel)
  have f_10 := hts (.fieldLink RX2 57 "IceSway$Search" "force" "I") (by decide +kernel)
  have f_11 := hts (.fieldLink RX2 64 "IceSway$Search" "axe" "I") (by decide +kernel)
  have f_12 := hts (.fieldLink RX2 45 "IceSway$Search" "minutes" "I") (by decide +kernel)
  have f_13 := hts (.fieldLink RX2 111 "IceSway$Trip" "behind" "I") (by decide +kernel)
  have f_14 := hts (.fieldLink RX2 73 "IceSway$Search" "coalDays" "I") (by decide +kernel)
  have f_15 := hts (.fieldLink RX2 78 "IceSway$Search" "dayCost" "I") (by decide +kernel)
  have hi2 : ∀ w ∈ u_ws RX2 TX2 14, w ∈ wsX2_tryDay := fun w h => List.mem_cons_of_mem _ (List.mem_append_left _ (List.mem_append_left _ (List.mem_append_right _ h)))
  have hi4 : ∀ w ∈ u_ws RX4 TX4 4, w ∈ wsX2_tryDay := fun w h => List.mem_cons_of_mem _ (List.mem_append_left _ (List.mem_append_right _ h))
  refine lv_iload_n hx hb dX2_tryDay_0 rfl (lv_at hl 3 rfl) ?_
  refine lv_aload_n hx hb dX2_tryDay_1 rfl (lv_at hl 0 rfl) ?_
  refine r_get (T := TX2) (v := .int lc) hx hb hts hi2 hown hK hw 0 rfl rfl 0 (by decide) f_0 rfl dX2_tryDay_2 ?_
  refine lv_icmp_le (tgt := 9) hx hb dX2_tryDay_5 (by decide) (fun c_5 => ?_) (fun c_5 => ?_)
  · refine lv_iload_n hx hb dX2_tryDay_9 rfl (lv_at hl 1 rfl) ?_
    refine lv_aload_n hx hb dX2_tryDay_10 rfl (lv_at hl 0 rfl) ?_
    refine r_get (T := TX2) (v := .int (nI dp)) hx hb hts hi2 hown hK hw 0 rfl rfl 4 (by decide) f_1 rfl dX2_tryDay_11 ?_
    refine r_clt hx hb 6 dp (by omega) (by omega) (tgt := 25) dX2_tryDay_14 (by decide) (fun c_14 => ?_) (fun c_14 => ?_)
    · refine lv_iconst (v := 0) hx hb dX2_tryDay_25 (by decide) ?_
      refine lv_iload_n hx hb dX2_tryDay_26 rfl (lv_at hl 2 rfl) ?_
      refine lv_iconst (v := 1) hx hb dX2_tryDay_27 (by decide) ?_
      refine lv_isub hx hb dX2_tryDay_28 ?_
      refine va_mmax hx hb (hml.trans hl.1.symm) hown f_2 f_3 f_4 f_5 (by rw [hRf]; exact Nat.le_of_ble_eq_true rfl) (by rw [hRl]; exact Nat.le_of_ble_eq_true rfl) (Nat.zero_le _) (Nat.zero_le _) dX2_tryDay_29 ?_
      refine lv_istore (lv' := [(5, .int (if 0 < (coal - 1) then (coal - 1) else 0)), (0, .ref (sa 0)), (1, .int 6), (2, .int coal), (3, .int cost), (4, .int set)]) hx hb dX2_tryDay_32 hl (by decide) rfl (fun ls hl => ?_)
      refine lv_iload_n hx hb dX2_tryDay_34 rfl (lv_at hl 3 rfl) ?_
      have kj_35 : ∀ (w_1 : Int32) (ls : Array Slot), w_1 = (if coal ≤ 0 then (cost + wc) else cost) → lv_has ls 11 [(5, .int (if 0 < (coal - 1) then (coal - 1) else 0)), (0, .ref (sa 0)), (1, .int 6), (2, .int coal), (3, .int cost), (4, .int set)] → W jp l je R js jm args below meth jc H locs 0 0 Q (F0 jm 48 ls [.int w_1]) := by
        intro w_1 ls e_w_1 hl
        subst e_w_1
        refine lv_istore (lv' := [(6, .int (if coal ≤ 0 then (cost + wc) else cost)), (5, .int (if 0 < (coal - 1) then (coal - 1) else 0)), (0, .ref (sa 0)), (1, .int 6), (2, .int coal), (3, .int cost), (4, .int set)]) hx hb dX2_tryDay_48 hl (by decide) rfl (fun ls hl => ?_)
        refine lv_aload_n hx hb dX2_tryDay_50 rfl (lv_at hl 2 rfl) ?_
        refine r_get (T := TX2) (v := .ref (sa 1)) hx hb hts hi2 hown hK hw 0 rfl rfl 3 (by decide) f_7 rfl dX2_tryDay_51 ?_
        refine lv_iload_n hx hb dX2_tryDay_54 rfl (lv_at hl 3 rfl) ?_
        refine r_aald hx hb hK hw 1 3 rfl rfl 6 (by decide) (by decide) (b := ((la 6) 0)) (hlv 6 (by decide)) dX2_tryDay_55 ?_
        refine lv_astore (lv' := [(7, .ref ((la 6) 0)), (6, .int (if coal ≤ 0 then (cost + wc) else cost)), (5, .int (if 0 < (coal - 1) then (coal - 1) else 0)), (0, .ref (sa 0)), (1, .int 6), (2, .int coal), (3, .int cost), (4, .int set)]) hx hb dX2_tryDay_56 hl (by decide) rfl (fun ls hl => ?_)
        refine lv_aload_n hx hb dX2_tryDay_58 rfl (lv_at hl 3 rfl) ?_
        refine r_get (T := TX2) (v := .ref (sa 1)) hx hb hts hi2 hown hK hw 0 rfl rfl 3 (by decide) f_7 rfl dX2_tryDay_59 ?_
        refine lv_iload_n hx hb dX2_tryDay_62 rfl (lv_at hl 4 rfl) ?_
        refine lv_iconst (v := 1) hx hb dX2_tryDay_63 (by decide) ?_
        refine r_addN hx hb 6 1 dX2_tryDay_64 ?_
        refine r_aald hx hb hK hw 1 3 rfl rfl 7 (by decide) (by decide) (b := ((la 7) 0)) (hlv 7 (by decide)) dX2_tryDay_65 ?_
        refine lv_astore (lv' := [(8, .ref ((la 7) 0)), (7, .ref ((la 6) 0)), (6, .int (if coal ≤ 0 then (cost + wc) else cost)), (5, .int (if 0 < (coal - 1) then (coal - 1) else 0)), (0, .ref (sa 0)), (1, .int 6), (2, .int coal), (3, .int cost), (4, .int set)]) hx hb dX2_tryDay_66 hl (by decide) rfl (fun ls hl => ?_)
        refine lv_aload hx hb dX2_tryDay_68 (lv_at hl 0 rfl) ?_
        refine lv_aload hx hb dX2_tryDay_70 (lv_at hl 1 rfl) ?_
        have hw := hw.m2
        have hw := hw.m3
        refine c_vv (As := [.ref ((la 6) 0)]) (rest := []) ⟨hx, hb, hml, hown, hts⟩ (k_X6_copyFrom l D c4 A ((sG c4 sa (tr 0) lc lS (nI dp) t f x c th pe cd dc wc lv) :: (tG c4 tr bh mi fb ba) :: (yG c4 (la 8) (gn 8) (go 8) (gk 8) (gi 8) (gb 8)) :: Ts) (la 7) (gn 7) (go 7) (gk 7) (gi 7) (gb 7) (la 6) n os kd ic br q hn hY) (cwV 1 hts gX2_tryDay_X6_copyFrom rfl rfl rfl (by decide +kernel) (rmv (Nat.le_of_ble_eq_true rfl) (Nat.le_of_ble_eq_true rfl) hRf hRl)) hK trivial hw rfl rfl rfl hl rfl (Nat.le_of_ble_eq_true rfl) ⟨Nat.zero_le _, Nat.zero_le _⟩ dX2_tryDay_72 (fun u_72 H locs hpq hw => ?_)
        obtain ⟨kd2_72, ic2_72, br2_72⟩ := u_72
        have hw : gW D A js.heap ((yG c4 (la 7) (nI n) os kd2_72 ic2_72 br2_72) :: (yG c4 (la 6) (nI n) os kd ic br) :: (sG c4 sa (tr 0) lc lS (nI dp) t f x c th pe cd dc wc lv) :: (tG c4 tr bh mi fb ba) :: (yG c4 (la 8) (gn 8) (go 8) (gk 8) (gi 8) (gb 8)) :: Ts) H locs := hw
        have hY_72 := hpq
        have hY_72 : yR q n os kd2_72 ic2_72 br2_72 := hY_72
        refine lv_aload hx hb dX2_tryDay_75 (lv_at hl 0 rfl) ?_
        refine lv_aload_n hx hb dX2_tryDay_77 rfl (lv_at hl 4 rfl) ?_
        refine r_get (T := TX2) (v := .int c) hx hb hts hi2 hown hK hw 8 rfl rfl 8 (by decide) f_8 rfl dX2_tryDay_78 ?_
        refine c_vv (As := [.int c]) (rest := []) ⟨hx, hb, hml, hown, hts⟩ (k_X6_freeze l D c4 A ((yG c4 (la 6) (nI n) os kd ic br) :: (sG c4 sa (tr 0) lc lS (nI dp) t f x c th pe cd dc wc lv) :: (tG c4 tr bh mi fb ba) :: (yG c4 (la 8) (gn 8) (go 8) (gk 8) (gi 8) (gb 8)) :: Ts) (la 7) n os kd2_72 ic2_72 br2_72 q c hn hY_72 hc) (cwV 1 hts gX2_tryDay_X6_freeze rfl rfl rfl (by decide +kernel) (rmv (Nat.le_of_ble_eq_true rfl) (Nat.le_of_ble_eq_true rfl) hRf hRl)) hK trivial hw rfl rfl rfl hl rfl (Nat.le_of_ble_eq_true rfl) ⟨Nat.zero_le _, Nat.zero_le _⟩ dX2_tryDay_81 (fun u_81 H locs hpq hw => ?_)
        obtain ⟨os2_81, kd2_81, ic2_81, br2_81⟩ := u_81
        have hw : gW D A js.heap ((yG c4 (la 7) (nI n) os2_81 kd2_81 ic2_81 br2_81) :: (yG c4 (la 6) (nI n) os kd ic br) :: (sG c4 sa (tr 0) lc lS (nI dp) t f x c th pe cd dc wc lv) :: (tG c4 tr bh mi fb ba) :: (yG c4 (la 8) (gn 8) (go 8) (gk 8) (gi 8) (gb 8)) :: Ts) H locs := hw
        have hY_81 := hpq
        have hY_81 : yR (fun y => nightQ c (q y)) n os2_81 kd2_81 ic2_81 br2_81 := hY_81
        refine lv_aload_n hx hb dX2_tryDay_84 rfl (lv_at hl 4 rfl) ?_
        refine lv_iload_n hx hb dX2_tryDay_85 rfl (lv_at hl 5 rfl) ?_
        refine lv_iconst (v := 1) hx hb dX2_tryDay_86 (by decide) ?_
        refine r_addN hx hb 6 1 dX2_tryDay_87 ?_
        refine lv_iload hx hb dX2_tryDay_88 (lv_at hl 3 rfl) ?_
        refine lv_iload hx hb dX2_tryDay_90 (lv_at hl 2 rfl) ?_
        refine lv_iload hx hb dX2_tryDay_92 (lv_at hl 8 rfl) ?_
        have hw := hw.m4
        have hw := hw.m1
        have hw := hw.m4
        have hw := hw.m4
        refine c_vv (As := [.int 7, .int (if 0 < (coal - 1) then (coal - 1) else 0), .int (if coal ≤ 0 then (cost + wc) else cost), .int set]) (rest := []) ⟨hx, hb, hml, hown, hts⟩ (k_X2_tryDay_7 l D c4 A ((yG c4 (la 6) (nI n) os kd ic br) :: Ts) sa tr la lc lS t f x c th pe cd dc wc dp lv bh mi fb ba n os2_81 kd2_81 ic2_81 br2_81 (fun y => nightQ c (q y)) gn go gk gi gb (if 0 < (coal - 1) then (coal - 1) else 0) (if coal ≤ 0 then (cost + wc) else cost) set hdp hn hY_81 hf hc hlv) (cwV 4 hts gX2_tryDay_X2_tryDay rfl rfl rfl (by decide +kernel) (rmv (Nat.le_of_ble_eq_true rfl) (Nat.le_of_ble_eq_true rfl) hRf hRl)) hK trivial hw rfl rfl rfl hl rfl (Nat.le_of_ble_eq_true rfl) ⟨Nat.zero_le _, Nat.zero_le _⟩ dX2_tryDay_94 (fun u_94 H locs hpq hw => ?_)
        obtain ⟨lc2_94, lS2_94, bh2_94, mi2_94, fb2_94, ba2_94, gn2_94, go2_94, gk2_94, gi2_94, gb2_94⟩ := u_94
        have hw : gW D A js.heap ((sG c4 sa (tr 0) lc2_94 lS2_94 (nI dp) t f x c th pe cd dc wc lv) :: (tG c4 tr bh2_94 mi2_94 fb2_94 ba2_94) :: (yG c4 (la 7) (nI n) os2_81 kd2_81 ic2_81 br2_81) :: (yG c4 (la 8) (gn2_94 8) (go2_94 8) (gk2_94 8) (gi2_94 8) (gb2_94 8)) :: (yG c4 (la 6) (nI n) os kd ic br) :: Ts) H locs := hw
        have hS_94 := hpq
        have hS_94 : (lc2_94, lS2_94) = srch n f x t c cd dc wc (dp - 7) 7 (fun y => nightQ c (q y)) (if 0 < (coal - 1) then (coal - 1) else 0) (if coal ≤ 0 then (cost + wc) else cost) set (lc, lS) := hS_94
        refine lv_aload_n hx hb dX2_tryDay_97 rfl (lv_at hl 4 rfl) ?_
        refine r_get (T := TX2) (v := .ref (tr 0)) hx hb hts hi2 hown hK hw 0 rfl rfl 2 (by decide) f_9 rfl dX2_tryDay_98 ?_
        refine lv_aload hx hb dX2_tryDay_101 (lv_at hl 1 rfl) ?_
        refine lv_aload_n hx hb dX2_tryDay_103 rfl (lv_at hl 4 rfl) ?_
        refine r_get (T := TX2) (v := .int f) hx hb hts hi2 hown hK hw 0 rfl rfl 6 (by decide) f_10 rfl dX2_tryDay_104 ?_
        refine lv_aload_n hx hb dX2_tryDay_107 rfl (lv_at hl 4 rfl) ?_
        refine r_get (T := TX2) (v := .int x) hx hb hts hi2 hown hK hw 0 rfl rfl 7 (by decide) f_11 rfl dX2_tryDay_108 ?_
        refine lv_aload_n hx hb dX2_tryDay_111 rfl (lv_at hl 4 rfl) ?_
        refine r_get (T := TX2) (v := .int t) hx hb hts hi2 hown hK hw 0 rfl rfl 5 (by decide) f_12 rfl dX2_tryDay_112 ?_
        have hw := hw.m4
        have hw := hw.m2
        refine c_vi (As := [.ref ((la 6) 0), .int f, .int x, .int t]) (rest := []) ⟨hx, hb, hml, hown, hts⟩ (k_X4_passes l D c4 A ((sG c4 sa (tr 0) lc2_94 lS2_94 (nI dp) t f x c th pe cd dc wc lv) :: (yG c4 (la 7) (nI n) os2_81 kd2_81 ic2_81 br2_81) :: (yG c4 (la 8) (gn2_94 8) (go2_94 8) (gk2_94 8) (gi2_94 8) (gb2_94 8)) :: Ts) tr bh2_94 mi2_94 fb2_94 ba2_94 (la 6) n os kd ic br q f x t hn hY hf) (cwV 4 hts gX2_tryDay_X4_passes rfl rfl rfl (by decide +kernel) (rmv (Nat.le_of_ble_eq_true rfl) (Nat.le_of_ble_eq_true rfl) hRf hRl)) hK trivial hw rfl rfl rfl hl rfl (Nat.le_of_ble_eq_true rfl) ⟨Nat.zero_le _, Nat.zero_le _⟩ dX2_tryDay_115 (fun r_115 u_115 H locs hpq hw => ?_)
        obtain ⟨b2_115, ba2_115⟩ := u_115
        have hw : gW D A js.heap ((tG c4 tr (nI b2_115) (cumQ f x q b2_115) (fbQ q b2_115) ba2_115) :: (yG c4 (la 6) (nI n) os kd ic br) :: (sG c4 sa (tr 0) lc2_94 lS2_94 (nI dp) t f x c th pe cd dc wc lv) :: (yG c4 (la 7) (nI n) os2_81 kd2_81 ic2_81 br2_81) :: (yG c4 (la 8) (gn2_94 8) (go2_94 8) (gk2_94 8) (gi2_94 8) (gb2_94 8)) :: Ts) H locs := hw
        obtain ⟨h0_115, h1_115, hb2_115, hba_115⟩ := hpq
        have h0_115 : r_115 = 0 → ¬ b2_115 = n := h0_115
        have h1_115 : ¬ r_115 = 0 → b2_115 = n := h1_115
        have hb2_115 : b2_115 = bhQ f x t q n := hb2_115
        have hba_115 : ∀ k, k < b2_115 → ba2_115 k = cumQ f x q (k + 1) := hba_115
        refine lv_istore (lv' := [(9, .int r_115), (8, .ref ((la 7) 0)), (7, .ref ((la 6) 0)), (6, .int (if coal ≤ 0 then (cost + wc) else cost)), (5, .int (if 0 < (coal - 1) then (coal - 1) else 0)), (0, .ref (sa 0)), (1, .int 6), (2, .int coal), (3, .int cost), (4, .int set)]) hx hb dX2_tryDay_118 hl (by decide) rfl (fun ls hl => ?_)
        refine lv_aload hx hb dX2_tryDay_120 (lv_at hl 1 rfl) ?_
        refine lv_aload hx hb dX2_tryDay_122 (lv_at hl 2 rfl) ?_
        have hw := hw.m1
        have hw := hw.m3
        refine c_vv (As := [.ref ((la 6) 0)]) (rest := []) ⟨hx, hb, hml, hown, hts⟩ (k_X6_copyFrom l D c4 A ((tG c4 tr (nI b2_115) (cumQ f x q b2_115) (fbQ q b2_115) ba2_115) :: (sG c4 sa (tr 0) lc2_94 lS2_94 (nI dp) t f x c th pe cd dc wc lv) :: (yG c4 (la 8) (gn2_94 8) (go2_94 8) (gk2_94 8) (gi2_94 8) (gb2_94 8)) :: Ts) (la 7) (nI n) os2_81 kd2_81 ic2_81 br2_81 (la 6) n os kd ic br q hn hY) (cwV 1 hts gX2_tryDay_X6_copyFrom rfl rfl rfl (by decide +kernel) (rmv (Nat.le_of_ble_eq_true rfl) (Nat.le_of_ble_eq_true rfl) hRf hRl)) hK trivial hw rfl rfl rfl hl rfl (Nat.le_of_ble_eq_true rfl) ⟨Nat.zero_le _, Nat.zero_le _⟩ dX2_tryDay_124 (fun u_124 H locs hpq hw => ?_)
        obtain ⟨kd2_124, ic2_124, br2_124⟩ := u_124
        have hw : gW D A js.heap ((yG c4 (la 7) (nI n) os kd2_124 ic2_124 br2_124) :: (yG c4 (la 6) (nI n) os kd ic br) :: (tG c4 tr (nI b2_115) (cumQ f x q b2_115) (fbQ q b2_115) ba2_115) :: (sG c4 sa (tr 0) lc2_94 lS2_94 (nI dp) t f x c th pe cd dc wc lv) :: (yG c4 (la 8) (gn2_94 8) (go2_94 8) (gk2_94 8) (gi2_94 8) (gb2_94 8)) :: Ts) H locs := hw
        have hY_124 := hpq
        have hY_124 : yR q n os kd2_124 ic2_124 br2_124 := hY_124
        refine lv_aload hx hb dX2_tryDay_127 (lv_at hl 1 rfl) ?_
        refine lv_aload_n hx hb dX2_tryDay_129 rfl (lv_at hl 5 rfl) ?_
        refine r_get (T := TX2) (v := .ref (tr 0)) hx hb hts hi2 hown hK hw 10 rfl rfl 2 (by decide) f_9 rfl dX2_tryDay_130 ?_
        refine r_get (T := TX4) (v := .int (nI b2_115)) hx hb hts hi4 hown hK hw 8 rfl rfl 0 (by decide) f_13 rfl dX2_tryDay_133 ?_
        refine c_vv (As := [.int (nI b2_115)]) (rest := []) ⟨hx, hb, hml, hown, hts⟩ (k_X6_openFirst l D c4 A ((yG c4 (la 6) (nI n) os kd ic br) :: (tG c4 tr (nI b2_115) (cumQ f x q b2_115) (fbQ q b2_115) ba2_115) :: (sG c4 sa (tr 0) lc2_94 lS2_94 (nI dp) t f x c th pe cd dc wc lv) :: (yG c4 (la 8) (gn2_94 8) (go2_94 8) (gk2_94 8) (gi2_94 8) (gb2_94 8)) :: Ts) (la 7) n os kd2_124 ic2_124 br2_124 q b2_115 hn hY_124 (by rw [hb2_115]; exact bh_le _ _ _ _ _)) (cwV 1 hts gX2_tryDay_X6_openFirst rfl rfl rfl (by decide +kernel) (rmv (Nat.le_of_ble_eq_true rfl) (Nat.le_of_ble_eq_true rfl) hRf hRl)) hK trivial hw rfl rfl rfl hl rfl (Nat.le_of_ble_eq_true rfl) ⟨Nat.zero_le _, Nat.zero_le _⟩ dX2_tryDay_136 (fun u_136 H locs hpq hw => ?_)
        obtain ⟨os2_136, ic2_136, br2_136⟩ := u_136
        have hw : gW D A js.heap ((yG c4 (la 7) (nI n) os2_136 kd2_124 ic2_136 br2_136) :: (yG c4 (la 6) (nI n) os kd ic br) :: (tG c4 tr (nI b2_115) (cumQ f x q b2_115) (fbQ q b2_115) ba2_115) :: (sG c4 sa (tr 0) lc2_94 lS2_94 (nI dp) t f x c th pe cd dc wc lv) :: (yG c4 (la 8) (gn2_94 8) (go2_94 8) (gk2_94 8) (gi2_94 8) (gb2_94 8)) :: Ts) H locs := hw
        have hY_136 := hpq
        have hY_136 : yR (mixQ openQ q b2_115) n os2_136 kd2_124 ic2_136 br2_136 := hY_136
        refine lv_aload hx hb dX2_tryDay_139 (lv_at hl 1 rfl) ?_
        refine lv_aload_n hx hb dX2_tryDay_141 rfl (lv_at hl 5 rfl) ?_
        refine r_get (T := TX2) (v := .int c) hx hb hts hi2 hown hK hw 10 rfl rfl 8 (by decide) f_8 rfl dX2_tryDay_142 ?_
        refine c_vv (As := [.int c]) (rest := []) ⟨hx, hb, hml, hown, hts⟩ (k_X6_freeze l D c4 A ((yG c4 (la 6) (nI n) os kd ic br) :: (tG c4 tr (nI b2_115) (cumQ f x q b2_115) (fbQ q b2_115) ba2_115) :: (sG c4 sa (tr 0) lc2_94 lS2_94 (nI dp) t f x c th pe cd dc wc lv) :: (yG c4 (la 8) (gn2_94 8) (go2_94 8) (gk2_94 8) (gi2_94 8) (gb2_94 8)) :: Ts) (la 7) n os2_136 kd2_124 ic2_136 br2_136 (mixQ openQ q b2_115) c hn hY_136 hc) (cwV 1 hts gX2_tryDay_X6_freeze rfl rfl rfl (by decide +kernel) (rmv (Nat.le_of_ble_eq_true rfl) (Nat.le_of_ble_eq_true rfl) hRf hRl)) hK trivial hw rfl rfl rfl hl rfl (Nat.le_of_ble_eq_true rfl) ⟨Nat.zero_le _, Nat.zero_le _⟩ dX2_tryDay_145 (fun u_145 H locs hpq hw => ?_)
        obtain ⟨os2_145, kd2_145, ic2_145, br2_145⟩ := u_145
        have hw : gW D A js.heap ((yG c4 (la 7) (nI n) os2_145 kd2_145 ic2_145 br2_145) :: (yG c4 (la 6) (nI n) os kd ic br) :: (tG c4 tr (nI b2_115) (cumQ f x q b2_115) (fbQ q b2_115) ba2_115) :: (sG c4 sa (tr 0) lc2_94 lS2_94 (nI dp) t f x c th pe cd dc wc lv) :: (yG c4 (la 8) (gn2_94 8) (go2_94 8) (gk2_94 8) (gi2_94 8) (gb2_94 8)) :: Ts) H locs := hw
        have hY_145 := hpq
        have hY_145 : yR (fun y => nightQ c ((mixQ openQ q b2_115) y)) n os2_145 kd2_145 ic2_145 br2_145 := hY_145
        refine lv_iload hx hb dX2_tryDay_148 (lv_at hl 0 rfl) ?_
        have kj_150 : ∀ (w_2 : Int32) (ls : Array Slot), w_2 = (if r_115 = 0 then (if 0 < (coal - 1) then (coal - 1) else 0) else cd) → lv_has ls 11 [(9, .int r_115), (8, .ref ((la 7) 0)), (7, .ref ((la 6) 0)), (6, .int (if coal ≤ 0 then (cost + wc) else cost)), (5, .int (if 0 < (coal - 1) then (coal - 1) else 0)), (0, .ref (sa 0)), (1, .int 6), (2, .int coal), (3, .int cost), (4, .int set)] → W jp l je R js jm args below meth jc H locs 0 0 Q (F0 jm 162 ls [.int w_2]) := by
          intro w_2 ls e_w_2 hl
          subst e_w_2
          refine lv_istore (lv' := [(10, .int (if r_115 = 0 then (if 0 < (coal - 1) then (coal - 1) else 0) else cd)), (9, .int r_115), (8, .ref ((la 7) 0)), (7, .ref ((la 6) 0)), (6, .int (if coal ≤ 0 then (cost + wc) else cost)), (5, .int (if 0 < (coal - 1) then (coal - 1) else 0)), (0, .ref (sa 0)), (1, .int 6), (2, .int coal), (3, .int cost), (4, .int set)]) hx hb dX2_tryDay_162 hl (by decide) rfl (fun ls hl => ?_)
          refine lv_aload_n hx hb dX2_tryDay_164 rfl (lv_at hl 6 rfl) ?_
          refine lv_iload_n hx hb dX2_tryDay_165 rfl (lv_at hl 7 rfl) ?_
          refine lv_iconst (v := 1) hx hb dX2_tryDay_166 (by decide) ?_
          refine r_addN hx hb 6 1 dX2_tryDay_167 ?_
          refine lv_iload hx hb dX2_tryDay_168 (lv_at hl 0 rfl) ?_
          refine lv_iload hx hb dX2_tryDay_170 (lv_at hl 4 rfl) ?_
          refine lv_aload_n hx hb dX2_tryDay_172 rfl (lv_at hl 6 rfl) ?_
          refine r_get (T := TX2) (v := .int dc) hx hb hts hi2 hown hK hw 10 rfl rfl 12 (by decide) f_15 rfl dX2_tryDay_173 ?_
          refine lv_iadd hx hb dX2_tryDay_176 ?_
          refine lv_iload hx hb dX2_tryDay_177 (lv_at hl 10 rfl) ?_
          refine lv_iconst (v := 1) hx hb dX2_tryDay_179 (by decide) ?_
          refine lv_iload_n hx hb dX2_tryDay_180 rfl (lv_at hl 7 rfl) ?_
          refine lv_ishl hx hb dX2_tryDay_181 ?_
          refine lv_ior hx hb dX2_tryDay_182 ?_
          have hw := hw.m4
          have hw := hw.m1
          have hw := hw.m3
          have hw := hw.m4
          refine c_vv (As := [.int 7, .int (if r_115 = 0 then (if 0 < (coal - 1) then (coal - 1) else 0) else cd), .int ((if coal ≤ 0 then (cost + wc) else cost) + dc), .int (set ||| ((1 : Int32) <<< ((6 : Int32) &&& 31)))]) (rest := []) ⟨hx, hb, hml, hown, hts⟩ (k_X2_tryDay_7 l D c4 A ((yG c4 (la 6) (nI n) os kd ic br) :: Ts) sa tr la lc2_94 lS2_94 t f x c th pe cd dc wc dp lv (nI b2_115) (cumQ f x q b2_115) (fbQ q b2_115) ba2_115 n os2_145 kd2_145 ic2_145 br2_145 (fun y => nightQ c ((mixQ openQ q b2_115) y)) gn2_94 go2_94 gk2_94 gi2_94 gb2_94 (if r_115 = 0 then (if 0 < (coal - 1) then (coal - 1) else 0) else cd) ((if coal ≤ 0 then (cost + wc) else cost) + dc) (set ||| ((1 : Int32) <<< ((6 : Int32) &&& 31))) hdp hn hY_145 hf hc hlv) (cwV 4 hts gX2_tryDay_X2_tryDay rfl rfl rfl (by decide +kernel) (rmv (Nat.le_of_ble_eq_true rfl) (Nat.le_of_ble_eq_true rfl) hRf hRl)) hK trivial hw rfl rfl rfl hl rfl (Nat.le_of_ble_eq_true rfl) ⟨Nat.zero_le _, Nat.zero_le _⟩ dX2_tryDay_183 (fun u_183 H locs hpq hw => ?_)
          obtain ⟨lc2_183, lS2_183, bh2_183, mi2_183, fb2_183, ba2_183, gn2_183, go2_183, gk2_183, gi2_183, gb2_183⟩ := u_183
          have hw : gW D A js.heap ((sG c4 sa (tr 0) lc2_183 lS2_183 (nI dp) t f x c th pe cd dc wc lv) :: (tG c4 tr bh2_183 mi2_183 fb2_183 ba2_183) :: (yG c4 (la 7) (nI n) os2_145 kd2_145 ic2_145 br2_145) :: (yG c4 (la 8) (gn2_183 8) (go2_183 8) (gk2_183 8) (gi2_183 8) (gb2_183 8)) :: (yG c4 (la 6) (nI n) os kd ic br) :: Ts) H locs := hw
          have hS_183 := hpq
          have hS_183 : (lc2_183, lS2_183) = srch n f x t c cd dc wc (dp - 7) 7 (fun y => nightQ c ((mixQ openQ q b2_115) y)) (if r_115 = 0 then (if 0 < (coal - 1) then (coal - 1) else 0) else cd) ((if coal ≤ 0 then (cost + wc) else cost) + dc) (set ||| ((1 : Int32) <<< ((6 : Int32) &&& 31))) (lc2_94, lS2_94) := hS_183
          have hw := hw.m3
          have hw := hw.m3
          have hw := hw.m4
          have hw := hw.m4
          have hw := hw.m4
          exact kr (lc2_183, lS2_183, bh2_183, mi2_183, fb2_183, ba2_183, upd gn2_183 7 (nI n), upd go2_183 7 os2_145, va_up gk2_183 7 kd2_145, va_up gi2_183 7 ic2_145, va_up gb2_183 7 br2_145) _ _ _ _ hw (sr_node (d := 6) c_14 c_5 hS_94 hb2_115 h0_115 h1_115 hS_183) dX2_tryDay_186
        refine lv_if_eq (tgt := 160) hx hb dX2_tryDay_150 (by decide) (fun c_150 => ?_) (fun c_150 => ?_)
        · refine lv_iload hx hb dX2_tryDay_160 (lv_at hl 4 rfl) ?_
          exact kj_150 _ ls (by first | rfl | (rw [if_pos c_150]; done) | (simp only [if_pos c_150]; done) | simp [c_150]) (lv_sub hl [0, 1, 2, 3, 4, 5, 6, 7, 8, 9] rfl)
        · refine lv_aload_n hx hb dX2_tryDay_153 rfl (lv_at hl 5 rfl) ?_
          refine r_get (T := TX2) (v := .int cd) hx hb hts hi2 hown hK hw 10 rfl rfl 11 (by decide) f_14 rfl dX2_tryDay_154 ?_
          refine lv_goto (tgt := 162) hx hb dX2_tryDay_157 (by decide) ?_
          exact kj_150 _ ls (by first | rfl | (rw [if_neg c_150]; done) | (simp only [if_neg c_150]; done) | simp [c_150]) (lv_sub hl [0, 1, 2, 3, 4, 5, 6, 7, 8, 9] rfl)
      refine lv_if_le (tgt := 42) hx hb dX2_tryDay_35 (by decide) (fun c_35 => ?_) (fun c_35 => ?_)
      · refine lv_iload_n hx hb dX2_tryDay_42 rfl (lv_at hl 4 rfl) ?_
        refine lv_aload_n hx hb dX2_tryDay_43 rfl (lv_at hl 1 rfl) ?_
        refine r_get (T := TX2) (v := .int wc) hx hb hts hi2 hown hK hw 0 rfl rfl 13 (by decide) f_6 rfl dX2_tryDay_44 ?_
        refine lv_iadd hx hb dX2_tryDay_47 ?_
        exact kj_35 _ ls (by first | rfl | (rw [if_pos c_35]; done) | (simp only [if_pos c_35]; done) | simp [c_35]) (lv_sub hl [0, 1, 2, 3, 4, 5] rfl)
      · refine lv_iload_n hx hb dX2_tryDay_38 rfl (lv_at hl 4 rfl) ?_
        refine lv_goto (tgt := 48) hx hb dX2_tryDay_39 (by decide) ?_
        exact kj_35 _ ls (by first | rfl | (rw [if_neg c_35]; done) | (simp only [if_neg c_35]; done) | simp [c_35]) (lv_sub hl [0, 1, 2, 3, 4, 5] rfl)
    · refine lv_aload_n hx hb dX2_tryDay_17 rfl (lv_at hl 0 rfl) ?_
      refine lv_iload_n hx hb dX2_tryDay_18 rfl (lv_at hl 3 rfl) ?_
      refine lv_iload hx hb dX2_tryDay_19 (lv_at hl 4 rfl) ?_
      refine c_vv (As := [.int cost, .int set]) (rest := []) ⟨hx, hb, hml, hown, hts⟩ (k_X2_takeIfBetter l D c4 A ((tG c4 tr bh mi fb ba) :: (yG c4 (la 6) (nI n) os kd ic br) :: (yG c4 (la 7) (gn 7) (go 7) (gk 7) (gi 7) (gb 7)) :: (yG c4 (la 8) (gn 8) (go 8) (gk 8) (gi 8) (gb 8)) :: Ts) sa tr lc lS t f x c th pe cd dc wc dp lv cost set) (cwV 2 hts gX2_tryDay_X2_takeIfBetter rfl rfl rfl (by decide +kernel) (rmv (Nat.le_of_ble_eq_true rfl) (Nat.le_of_ble_eq_true rfl) hRf hRl)) hK trivial hw rfl rfl rfl hl rfl (Nat.le_of_ble_eq_true rfl) ⟨Nat.zero_le _, Nat.zero_le _⟩ dX2_tryDay_21 (fun u_21 H locs hpq hw => ?_)
      obtain ⟨lc2_21, lS2_21⟩ := u_21
      have hw : gW D A js.heap ((sG c4 sa (tr 0) lc2_21 lS2_21 (nI dp) t f x c th pe cd dc wc lv) :: (tG c4 tr bh mi fb ba) :: (yG c4 (la 6) (nI n) os kd ic br) :: (yG c4 (la 7) (gn 7) (go 7) (gk 7) (gi 7) (gb 7)) :: (yG c4 (la 8) (gn 8) (go 8) (gk 8) (gi 8) (gb 8)) :: Ts) H locs := hw
      have hB_21 := hpq
      have hB_21 : (lc2_21, lS2_21) = betP cost set (lc, lS) := hB_21
      exact kr (lc2_21, lS2_21, bh, mi, fb, ba, gn, go, gk, gi, gb) _ _ _ _ hw (sr_leaf c_14 c_5 hB_21) dX2_tryDay_24
  · exact kr (lc, lS, bh, mi, fb, ba, gn, go, gk, gi, gb) _ _ _ _ hw (sr_out (b := (lc, lS)) c_5) dX2_tryDay_8
set_option maxHeartbeats 4000000 in
set_option maxRecDepth 100000 in
theorem k_X2_tryDay_5 (l : Launch) (D : va_G) (c4 : Nat → ClassId) (A : Nat → Prop) (Ts : List va_W) (sa : Nat → Nat) (tr : Nat → Nat) (la : Nat → Nat → Nat) (lc : Int32) (lS : Int32) (t : Int32) (f : Int32) (x : Int32) (c : Int32) (th : Int32) (pe : Int32) (cd : Int32) (dc : Int32) (wc : Int32) (dp : Nat) (lv : Nat → Option Nat) (bh : Int32) (mi : Int32) (fb : Int32) (ba : Nat → Int32) (n : Nat) (os : Int32) (kd : Nat → Int32) (ic : Nat → Int32) (br : Nat → Int32) (q : Nat → Yq) (gn : Nat → Int32) (go : Nat → Int32) (gk : Nat → Nat → Int32) (gi : Nat → Nat → Int32) (gb : Nat → Nat → Int32) (coal : Int32) (cost : Int32) (set : Int32) (hdp : dp ≤ 8) (hn : n ≤ 12) (hY : yR q n os kd ic br) (hf : fOk f x) (hc : 0 ≤ c.toInt ∧ c.toInt ≤ 30) (hlv : ∀ k, k < 9 → lv k = some (la k 0)) : Cv l yX2_tryDay wsX2_tryDay 5 134 [.ref (sa 0), .int 5, .int coal, .int cost, .int set] D (tyA c4) A none ((sG c4 sa (tr 0) lc lS (nI dp) t f x c th pe cd dc wc lv) :: (tG c4 tr bh mi fb ba) :: (yG c4 (la 5) (nI n) os kd ic br) :: (yG c4 (la 6) (gn 6) (go 6) (gk 6) (gi 6) (gb 6)) :: (yG c4 (la 7) (gn 7) (go 7) (gk 7) (gi 7) (gb 7)) :: (yG c4 (la 8) (gn 8) (go 8) (gk 8) (gi 8) (gb 8)) :: Ts) (S := Int32 × Int32 × Int32 × Int32 × Int32 × (Nat → Int32) × (Nat → Int32) × (Nat → Int32) × (Nat → Nat → Int32) × (Nat → Nat → Int32) × (Nat → Nat → Int32)) (fun (u : Int32 × Int32 × Int32 × Int32 × Int32 × (Nat → Int32) × (Nat → Int32) × (Nat → Int32) × (Nat → Nat → Int32) × (Nat → Nat → Int32) × (Nat → Nat → Int32)) => (u.1, u.2.1) = srch n f x t c cd dc wc (dp - 5) 5 q coal cost set (lc, lS)) (fun u => ((sG c4 sa (tr 0) u.1 u.2.1 (nI dp) t f x c th pe cd dc wc lv) :: (tG c4 tr u.2.2.1 u.2.2.2.1 u.2.2.2.2.1 u.2.2.2.2.2.1) :: (yG c4 (la 5) (nI n) os kd ic br) :: (yG c4 (la 6) (u.2.2.2.2.2.2.1 6) (u.2.2.2.2.2.2.2.1 6) (u.2.2.2.2.2.2.2.2.1 6) (u.2.2.2.2.2.2.2.2.2.1 6) (u.2.2.2.2.2.2.2.2.2.2 6)) :: (yG c4 (la 7) (u.2.2.2.2.2.2.1 7) (u.2.2.2.2.2.2.2.1 7) (u.2.2.2.2.2.2.2.2.1 7) (u.2.2.2.2.2.2.2.2.2.1 7) (u.2.2.2.2.2.2.2.2.2.2 7)) :: (yG c4 (la 8) (u.2.2.2.2.2.2.1 8) (u.2.2.2.2.2.2.2.1 8) (u.2.2.2.2.2.2.2.2.1 8) (u.2.2.2.2.2.2.2.2.2.1 8) (u.2.2.2.2.2.2.2.2.2.2 8)) :: Ts)) := by
  refine cOv (cc := cX2_tryDay) (maxL := 11) (by decide) rfl (Nat.le_of_ble_eq_true rfl) rfl ?_
  rintro jp je js jm below meth jc ls args R Q H locs hRf hRl ⟨hx, hb, hml, hr, hts, hown, hlocks, hK, hX⟩ hw hl kr
  have hown : js.vm.findClass RX2 = some jm.cls := hown
  have f_0 := hts (.fieldLink RX2 86 "IceSway$Search" "leastCost" "I") (by decide +kernel)
  have f_1 := hts (.fieldLink RX2 41 "IceSway$Search" "depth" "I") (by decide +kernel)
  have f_2 := hts (.methodLink RX2 100 Lib.Math.max.name) (by decide +kernel)
  have f_3 := hts (.static Lib.Math.max.name) (by decide +kernel)
  have f_4 := hts (.initialized "java/lang/Math") (by decide +kernel)
  have f_5 := hts (.code Lib.Math.max.name Lib.Math.max.code 2 (some .int)) (by decide +kernel)
  have f_6 := hts (.fieldLink RX2 83 "IceSway$Search" "wantCost" "I") (by decide +kernel)
  have f_7 := hts (.fieldLink RX2 20 "IceSway$Search" "levels" "[LIceSway$Yards;") (by decide +kernel)
  have f_8 := hts (.fieldLink RX2 67 "IceSway$Search" "cold" "I") (by decide +kernel)
  have f_9 := hts (.fieldLink RX2 12 "IceSway$Search" "trip" "LIceSway$Trip;") (by decide +kernel)
  have f_10 := hts (.fieldLink RX2 57 "IceSway$Search" "force" "I") (by decide +kernel)
  have f_11 := hts (.fieldLink RX2 64 "IceSway$Search" "axe" "I") (by decide +kernel)
  have f_12 := hts (.fieldLink RX2 45 "IceSway$Search" "minutes" "I") (by decide +kernel)
  have f_13 := hts (.fieldLink RX2 111 "IceSway$Trip" "behind" "I") (by decide +kernel)
  have f_14 := hts (.fieldLink RX2 73 "IceSway$Search" "coalDays" "I") (by decide +kernel)
  have f_15 := hts (.fieldLink RX2 78 "IceSway$Search" "dayCost" "I") (by decide +kernel)
  have hi2 : ∀ w ∈ u_ws RX2 TX2 14, w ∈ wsX2_tryDay := fun w h => List.mem_cons_of_mem _ (List.mem_append_left _ (List.mem_append_left _ (List.mem_append_right _ h)))
  have hi4 : ∀ w ∈ u_ws RX4 TX4 4, w ∈ wsX2_tryDay := fun w h => List.mem_cons_of_mem _ (List.mem_append_left _ (List.mem_append_right _ h))
  refine lv_iload_n hx hb dX2_tryDay_0 rfl (lv_at hl 3 rfl) ?_
  refine lv_aload_n hx hb dX2_tryDay_1 rfl (lv_at hl 0 rfl) ?_
  refine r_get (T := TX2) (v := .int lc) hx hb hts hi2 hown hK hw 0 rfl rfl 0 (by decide) f_0 rfl dX2_tryDay_2 ?_
  refine lv_icmp_le (tgt := 9) hx hb dX2_tryDay_5 (by decide) (fun c_5 => ?_) (fun c_5 => ?_)
  · refine lv_iload_n hx hb dX2_tryDay_9 rfl (lv_at hl 1 rfl) ?_
    refine lv_aload_n hx hb dX2_tryDay_10 rfl (lv_at hl 0 rfl) ?_
    refine r_get (T := TX2) (v := .int (nI dp)) hx hb hts hi2 hown hK hw 0 rfl rfl 4 (by decide) f_1 rfl dX2_tryDay_11 ?_
    refine r_clt hx hb 5 dp (by omega) (by omega) (tgt := 25) dX2_tryDay_14 (by decide) (fun c_14 => ?_) (fun c_14 => ?_)
    · refine lv_iconst (v := 0) hx hb dX2_tryDay_25 (by decide) ?_
      refine lv_iload_n hx hb dX2_tryDay_26 rfl (lv_at hl 2 rfl) ?_
      refine lv_iconst (v := 1) hx hb dX2_tryDay_27 (by decide) ?_
      refine lv_isub hx hb dX2_tryDay_28 ?_
      refine va_mmax hx hb (hml.trans hl.1.symm) hown f_2 f_3 f_4 f_5 (by rw [hRf]; exact Nat.le_of_ble_eq_true rfl) (by rw [hRl]; exact Nat.le_of_ble_eq_true rfl) (Nat.zero_le _) (Nat.zero_le _) dX2_tryDay_29 ?_
      refine lv_istore (lv' := [(5, .int (if 0 < (coal - 1) then (coal - 1) else 0)), (0, .ref (sa 0)), (1, .int 5), (2, .int coal), (3, .int cost), (4, .int set)]) hx hb dX2_tryDay_32 hl (by decide) rfl (fun ls hl => ?_)
      refine lv_iload_n hx hb dX2_tryDay_34 rfl (lv_at hl 3 rfl) ?_
      have kj_35 : ∀ (w_1 : Int32) (ls : Array Slot), w_1 = (if coal ≤ 0 then (cost + wc) else cost) → lv_has ls 11 [(5, .int (if 0 < (coal - 1) then (coal - 1) else 0)), (0, .ref (sa 0)), (1, .int 5), (2, .int coal), (3, .int cost), (4, .int set)] → W jp l je R js jm args below meth jc H locs 0 0 Q (F0 jm 48 ls [.int w_1]) := by
        intro w_1 ls e_w_1 hl
        subst e_w_1
        refine lv_istore (lv' := [(6, .int (if coal ≤ 0 then (cost + wc) else cost)), (5, .int (if 0 < (coal - 1) then (coal - 1) else 0)), (0, .ref (sa 0)), (1, .int 5), (2, .int coal), (3, .int cost), (4, .int set)]) hx hb dX2_tryDay_48 hl (by decide) rfl (fun ls hl => ?_)
        refine lv_aload_n hx hb dX2_tryDay_50 rfl (lv_at hl 2 rfl) ?_
        refine r_get (T := TX2) (v := .ref (sa 1)) hx hb hts hi2 hown hK hw 0 rfl rfl 3 (by decide) f_7 rfl dX2_tryDay_51 ?_
        refine lv_iload_n hx hb dX2_tryDay_54 rfl (lv_at hl 3 rfl) ?_
        refine r_aald hx hb hK hw 1 3 rfl rfl 5 (by decide) (by decide) (b := ((la 5) 0)) (hlv 5 (by decide)) dX2_tryDay_55 ?_
        refine lv_astore (lv' := [(7, .ref ((la 5) 0)), (6, .int (if coal ≤ 0 then (cost + wc) else cost)), (5, .int (if 0 < (coal - 1) then (coal - 1) else 0)), (0, .ref (sa 0)), (1, .int 5), (2, .int coal), (3, .int cost), (4, .int set)]) hx hb dX2_tryDay_56 hl (by decide) rfl (fun ls hl => ?_)
        refine lv_aload_n hx hb dX2_tryDay_58 rfl (lv_at hl 3 rfl) ?_
        refine r_get (T := TX2) (v := .ref (sa 1)) hx hb hts hi2 hown hK hw 0 rfl rfl 3 (by decide) f_7 rfl dX2_tryDay_59 ?_
        refine lv_iload_n hx hb dX2_tryDay_62 rfl (lv_at hl 4 rfl) ?_
        refine lv_iconst (v := 1) hx hb dX2_tryDay_63 (by decide) ?_
        refine r_addN hx hb 5 1 dX2_tryDay_64 ?_
        refine r_aald hx hb hK hw 1 3 rfl rfl 6 (by decide) (by decide) (b := ((la 6) 0)) (hlv 6 (by decide)) dX2_tryDay_65 ?_
        refine lv_astore (lv' := [(8, .ref ((la 6) 0)), (7, .ref ((la 5) 0)), (6, .int (if coal ≤ 0 then (cost + wc) else cost)), (5, .int (if 0 < (coal - 1) then (coal - 1) else 0)), (0, .ref (sa 0)), (1, .int 5), (2, .int coal), (3, .int cost), (4, .int set)]) hx hb dX2_tryDay_66 hl (by decide) rfl (fun ls hl => ?_)
        refine lv_aload hx hb dX2_tryDay_68 (lv_at hl 0 rfl) ?_
        refine lv_aload hx hb dX2_tryDay_70 (lv_at hl 1 rfl) ?_
        have hw := hw.m2
        have hw := hw.m3
        refine c_vv (As := [.ref ((la 5) 0)]) (rest := []) ⟨hx, hb, hml, hown, hts⟩ (k_X6_copyFrom l D c4 A ((sG c4 sa (tr 0) lc lS (nI dp) t f x c th pe cd dc wc lv) :: (tG c4 tr bh mi fb ba) :: (yG c4 (la 7) (gn 7) (go 7) (gk 7) (gi 7) (gb 7)) :: (yG c4 (la 8) (gn 8) (go 8) (gk 8) (gi 8) (gb 8)) :: Ts) (la 6) (gn 6) (go 6) (gk 6) (gi 6) (gb 6) (la 5) n os kd ic br q hn hY) (cwV 1 hts gX2_tryDay_X6_copyFrom rfl rfl rfl (by decide +kernel) (rmv (Nat.le_of_ble_eq_true rfl) (Nat.le_of_ble_eq_true rfl) hRf hRl)) hK trivial hw rfl rfl rfl hl rfl (Nat.le_of_ble_eq_true rfl) ⟨Nat.zero_le _, Nat.zero_le _⟩ dX2_tryDay_72 (fun u_72 H locs hpq hw => ?_)
        obtain ⟨kd2_72, ic2_72, br2_72⟩ := u_72
        have hw : gW D A js.heap ((yG c4 (la 6) (nI n) os kd2_72 ic2_72 br2_72) :: (yG c4 (la 5) (nI n) os kd ic br) :: (sG c4 sa (tr 0) lc lS (nI dp) t f x c th pe cd dc wc lv) :: (tG c4 tr bh mi fb ba) :: (yG c4 (la 7) (gn 7) (go 7) (gk 7) (gi 7) (gb 7)) :: (yG c4 (la 8) (gn 8) (go 8) (gk 8) (gi 8) (gb 8)) :: Ts) H locs := hw
        have hY_72 := hpq
        have hY_72 : yR q n os kd2_72 ic2_72 br2_72 := hY_72
        refine lv_aload hx hb dX2_tryDay_75 (lv_at hl 0 rfl) ?_
        refine lv_aload_n hx hb dX2_tryDay_77 rfl (lv_at hl 4 rfl) ?_
        refine r_get (T := TX2) (v := .int c) hx hb hts hi2 hown hK hw 8 rfl rfl 8 (by decide) f_8 rfl dX2_tryDay_78 ?_
        refine c_vv (As := [.int c]) (rest := []) ⟨hx, hb, hml, hown, hts⟩ (k_X6_freeze l D c4 A ((yG c4 (la 5) (nI n) os kd ic br) :: (sG c4 sa (tr 0) lc lS (nI dp) t f x c th pe cd dc wc lv) :: (tG c4 tr bh mi fb ba) :: (yG c4 (la 7) (gn 7) (go 7) (gk 7) (gi 7) (gb 7)) :: (yG c4 (la 8) (gn 8) (go 8) (gk 8) (gi 8) (gb 8)) :: Ts) (la 6) n os kd2_72 ic2_72 br2_72 q c hn hY_72 hc) (cwV 1 hts gX2_tryDay_X6_freeze rfl rfl rfl (by decide +kernel) (rmv (Nat.le_of_ble_eq_true rfl) (Nat.le_of_ble_eq_true rfl) hRf hRl)) hK trivial hw rfl rfl rfl hl rfl (Nat.le_of_ble_eq_true rfl) ⟨Nat.zero_le _, Nat.zero_le _⟩ dX2_tryDay_81 (fun u_81 H locs hpq hw => ?_)
        obtain ⟨os2_81, kd2_81, ic2_81, br2_81⟩ := u_81
        have hw : gW D A js.heap ((yG c4 (la 6) (nI n) os2_81 kd2_81 ic2_81 br2_81) :: (yG c4 (la 5) (nI n) os kd ic br) :: (sG c4 sa (tr 0) lc lS (nI dp) t f x c th pe cd dc wc lv) :: (tG c4 tr bh mi fb ba) :: (yG c4 (la 7) (gn 7) (go 7) (gk 7) (gi 7) (gb 7)) :: (yG c4 (la 8) (gn 8) (go 8) (gk 8) (gi 8) (gb 8)) :: Ts) H locs := hw
        have hY_81 := hpq
        have hY_81 : yR (fun y => nightQ c (q y)) n os2_81 kd2_81 ic2_81 br2_81 := hY_81
        refine lv_aload_n hx hb dX2_tryDay_84 rfl (lv_at hl 4 rfl) ?_
        refine lv_iload_n hx hb dX2_tryDay_85 rfl (lv_at hl 5 rfl) ?_
        refine lv_iconst (v := 1) hx hb dX2_tryDay_86 (by decide) ?_
        refine r_addN hx hb 5 1 dX2_tryDay_87 ?_
        refine lv_iload hx hb dX2_tryDay_88 (lv_at hl 3 rfl) ?_
        refine lv_iload hx hb dX2_tryDay_90 (lv_at hl 2 rfl) ?_
        refine lv_iload hx hb dX2_tryDay_92 (lv_at hl 8 rfl) ?_
        have hw := hw.m5
        have hw := hw.m5
        have hw := hw.m2
        have hw := hw.m5
        have hw := hw.m5
        refine c_vv (As := [.int 6, .int (if 0 < (coal - 1) then (coal - 1) else 0), .int (if coal ≤ 0 then (cost + wc) else cost), .int set]) (rest := []) ⟨hx, hb, hml, hown, hts⟩ (k_X2_tryDay_6 l D c4 A ((yG c4 (la 5) (nI n) os kd ic br) :: Ts) sa tr la lc lS t f x c th pe cd dc wc dp lv bh mi fb ba n os2_81 kd2_81 ic2_81 br2_81 (fun y => nightQ c (q y)) gn go gk gi gb (if 0 < (coal - 1) then (coal - 1) else 0) (if coal ≤ 0 then (cost + wc) else cost) set hdp hn hY_81 hf hc hlv) (cwV 4 hts gX2_tryDay_X2_tryDay rfl rfl rfl (by decide +kernel) (rmv (Nat.le_of_ble_eq_true rfl) (Nat.le_of_ble_eq_true rfl) hRf hRl)) hK trivial hw rfl rfl rfl hl rfl (Nat.le_of_ble_eq_true rfl) ⟨Nat.zero_le _, Nat.zero_le _⟩ dX2_tryDay_94 (fun u_94 H locs hpq hw => ?_)
        obtain ⟨lc2_94, lS2_94, bh2_94, mi2_94, fb2_94, ba2_94, gn2_94, go2_94, gk2_94, gi2_94, gb2_94⟩ := u_94
        have hw : gW D A js.heap ((sG c4 sa (tr 0) lc2_94 lS2_94 (nI dp) t f x c th pe cd dc wc lv) :: (tG c4 tr bh2_94 mi2_94 fb2_94 ba2_94) :: (yG c4 (la 6) (nI n) os2_81 kd2_81 ic2_81 br2_81) :: (yG c4 (la 7) (gn2_94 7) (go2_94 7) (gk2_94 7) (gi2_94 7) (gb2_94 7)) :: (yG c4 (la 8) (gn2_94 8) (go2_94 8) (gk2_94 8) (gi2_94 8) (gb2_94 8)) :: (yG c4 (la 5) (nI n) os kd ic br) :: Ts) H locs := hw
        have hS_94 := hpq
        have hS_94 : (lc2_94, lS2_94) = srch n f x t c cd dc wc (dp - 6) 6 (fun y => nightQ c (q y)) (if 0 < (coal - 1) then (coal - 1) else 0) (if coal ≤ 0 then (cost + wc) else cost) set (lc, lS) := hS_94
        refine lv_aload_n hx hb dX2_tryDay_97 rfl (lv_at hl 4 rfl) ?_
        refine r_get (T := TX2) (v := .ref (tr 0)) hx hb hts hi2 hown hK hw 0 rfl rfl 2 (by decide) f_9 rfl dX2_tryDay_98 ?_
        refine lv_aload hx hb dX2_tryDay_101 (lv_at hl 1 rfl) ?_
        refine lv_aload_n hx hb dX2_tryDay_103 rfl (lv_at hl 4 rfl) ?_
        refine r_get (T := TX2) (v := .int f) hx hb hts hi2 hown hK hw 0 rfl rfl 6 (by decide) f_10 rfl dX2_tryDay_104 ?_
        refine lv_aload_n hx hb dX2_tryDay_107 rfl (lv_at hl 4 rfl) ?_
        refine r_get (T := TX2) (v := .int x) hx hb hts hi2 hown hK hw 0 rfl rfl 7 (by decide) f_11 rfl dX2_tryDay_108 ?_
        refine lv_aload_n hx hb dX2_tryDay_111 rfl (lv_at hl 4 rfl) ?_
        refine r_get (T := TX2) (v := .int t) hx hb hts hi2 hown hK hw 0 rfl rfl 5 (by decide) f_12 rfl dX2_tryDay_112 ?_
        have hw := hw.m5
        have hw := hw.m2
        refine c_vi (As := [.ref ((la 5) 0), .int f, .int x, .int t]) (rest := []) ⟨hx, hb, hml, hown, hts⟩ (k_X4_passes l D c4 A ((sG c4 sa (tr 0) lc2_94 lS2_94 (nI dp) t f x c th pe cd dc wc lv) :: (yG c4 (la 6) (nI n) os2_81 kd2_81 ic2_81 br2_81) :: (yG c4 (la 7) (gn2_94 7) (go2_94 7) (gk2_94 7) (gi2_94 7) (gb2_94 7)) :: (yG c4 (la 8) (gn2_94 8) (go2_94 8) (gk2_94 8) (gi2_94 8) (gb2_94 8)) :: Ts) tr bh2_94 mi2_94 fb2_94 ba2_94 (la 5) n os kd ic br q f x t hn hY hf) (cwV 4 hts gX2_tryDay_X4_passes rfl rfl rfl (by decide +kernel) (rmv (Nat.le_of_ble_eq_true rfl) (Nat.le_of_ble_eq_true rfl) hRf hRl)) hK trivial hw rfl rfl rfl hl rfl (Nat.le_of_ble_eq_true rfl) ⟨Nat.zero_le _, Nat.zero_le _⟩ dX2_tryDay_115 (fun r_115 u_115 H locs hpq hw => ?_)
        obtain ⟨b2_115, ba2_115⟩ := u_115
        have hw : gW D A js.heap ((tG c4 tr (nI b2_115) (cumQ f x q b2_115) (fbQ q b2_115) ba2_115) :: (yG c4 (la 5) (nI n) os kd ic br) :: (sG c4 sa (tr 0) lc2_94 lS2_94 (nI dp) t f x c th pe cd dc wc lv) :: (yG c4 (la 6) (nI n) os2_81 kd2_81 ic2_81 br2_81) :: (yG c4 (la 7) (gn2_94 7) (go2_94 7) (gk2_94 7) (gi2_94 7) (gb2_94 7)) :: (yG c4 (la 8) (gn2_94 8) (go2_94 8) (gk2_94 8) (gi2_94 8) (gb2_94 8)) :: Ts) H locs := hw
        obtain ⟨h0_115, h1_115, hb2_115, hba_115⟩ := hpq
        have h0_115 : r_115 = 0 → ¬ b2_115 = n := h0_115
        have h1_115 : ¬ r_115 = 0 → b2_115 = n := h1_115
        have hb2_115 : b2_115 = bhQ f x t q n := hb2_115
        have hba_115 : ∀ k, k < b2_115 → ba2_115 k = cumQ f x q (k + 1) := hba_115
        refine lv_istore (lv' := [(9, .int r_115), (8, .ref ((la 6) 0)), (7, .ref ((la 5) 0)), (6, .int (if coal ≤ 0 then (cost + wc) else cost)), (5, .int (if 0 < (coal - 1) then (coal - 1) else 0)), (0, .ref (sa 0)), (1, .int 5), (2, .int coal), (3, .int cost), (4, .int set)]) hx hb dX2_tryDay_118 hl (by decide) rfl (fun ls hl => ?_)
        refine lv_aload hx hb dX2_tryDay_120 (lv_at hl 1 rfl) ?_
        refine lv_aload hx hb dX2_tryDay_122 (lv_at hl 2 rfl) ?_
        have hw := hw.m1
        have hw := hw.m3
        refine c_vv (As := [.ref ((la 5) 0)]) (rest := []) ⟨hx, hb, hml, hown, hts⟩ (k_X6_copyFrom l D c4 A ((tG c4 tr (nI b2_115) (cumQ f x q b2_115) (fbQ q b2_115) ba2_115) :: (sG c4 sa (tr 0) lc2_94 lS2_94 (nI dp) t f x c th pe cd dc wc lv) :: (yG c4 (la 7) (gn2_94 7) (go2_94 7) (gk2_94 7) (gi2_94 7) (gb2_94 7)) :: (yG c4 (la 8) (gn2_94 8) (go2_94 8) (gk2_94 8) (gi2_94 8) (gb2_94 8)) :: Ts) (la 6) (nI n) os2_81 kd2_81 ic2_81 br2_81 (la 5) n os kd ic br q hn hY) (cwV 1 hts gX2_tryDay_X6_copyFrom rfl rfl rfl (by decide +kernel) (rmv (Nat.le_of_ble_eq_true rfl) (Nat.le_of_ble_eq_true rfl) hRf hRl)) hK trivial hw rfl rfl rfl hl rfl (Nat.le_of_ble_eq_true rfl) ⟨Nat.zero_le _, Nat.zero_le _⟩ dX2_tryDay_124 (fun u_124 H locs hpq hw => ?_)
        obtain ⟨kd2_124, ic2_124, br2_124⟩ := u_124
        have hw : gW D A js.heap ((yG c4 (la 6) (nI n) os kd2_124 ic2_124 br2_124) :: (yG c4 (la 5) (nI n) os kd ic br) :: (tG c4 tr (nI b2_115) (cumQ f x q b2_115) (fbQ q b2_115) ba2_115) :: (sG c4 sa (tr 0) lc2_94 lS2_94 (nI dp) t f x c th pe cd dc wc lv) :: (yG c4 (la 7) (gn2_94 7) (go2_94 7) (gk2_94 7) (gi2_94 7) (gb2_94 7)) :: (yG c4 (la 8) (gn2_94 8) (go2_94 8) (gk2_94 8) (gi2_94 8) (gb2_94 8)) :: Ts) H locs := hw
        have hY_124 := hpq
        have hY_124 : yR q n os kd2_124 ic2_124 br2_124 := hY_124
        refine lv_aload hx hb dX2_tryDay_127 (lv_at hl 1 rfl) ?_
        refine lv_aload_n hx hb dX2_tryDay_129 rfl (lv_at hl 5 rfl) ?_
        refine r_get (T := TX2) (v := .ref (tr 0)) hx hb hts hi2 hown hK hw 10 rfl rfl 2 (by decide) f_9 rfl dX2_tryDay_130 ?_
        refine r_get (T := TX4) (v := .int (nI b2_115)) hx hb hts hi4 hown hK hw 8 rfl rfl 0 (by decide) f_13 rfl dX2_tryDay_133 ?_
        refine c_vv (As := [.int (nI b2_115)]) (rest := []) ⟨hx, hb, hml, hown, hts⟩ (k_X6_openFirst l D c4 A ((yG c4 (la 5) (nI n) os kd ic br) :: (tG c4 tr (nI b2_115) (cumQ f x q b2_115) (fbQ q b2_115) ba2_115) :: (sG c4 sa (tr 0) lc2_94 lS2_94 (nI dp) t f x c th pe cd dc wc lv) :: (yG c4 (la 7) (gn2_94 7) (go2_94 7) (gk2_94 7) (gi2_94 7) (gb2_94 7)) :: (yG c4 (la 8) (gn2_94 8) (go2_94 8) (gk2_94 8) (gi2_94 8) (gb2_94 8)) :: Ts) (la 6) n os kd2_124 ic2_124 br2_124 q b2_115 hn hY_124 (by rw [hb2_115]; exact bh_le _ _ _ _ _)) (cwV 1 hts gX2_tryDay_X6_openFirst rfl rfl rfl (by decide +kernel) (rmv (Nat.le_of_ble_eq_true rfl) (Nat.le_of_ble_eq_true rfl) hRf hRl)) hK trivial hw rfl rfl rfl hl rfl (Nat.le_of_ble_eq_true rfl) ⟨Nat.zero_le _, Nat.zero_le _⟩ dX2_tryDay_136 (fun u_136 H locs hpq hw => ?_)
        obtain ⟨os2_136, ic2_136, br2_136⟩ := u_136
        have hw : gW D A js.heap ((yG c4 (la 6) (nI n) os2_136 kd2_124 ic2_136 br2_136) :: (yG c4 (la 5) (nI n) os kd ic br) :: (tG c4 tr (nI b2_115) (cumQ f x q b2_115) (fbQ q b2_115) ba2_115) :: (sG c4 sa (tr 0) lc2_94 lS2_94 (nI dp) t f x c th pe cd dc wc lv) :: (yG c4 (la 7) (gn2_94 7) (go2_94 7) (gk2_94 7) (gi2_94 7) (gb2_94 7)) :: (yG c4 (la 8) (gn2_94 8) (go2_94 8) (gk2_94 8) (gi2_94 8) (gb2_94 8)) :: Ts) H locs := hw
        have hY_136 := hpq
        have hY_136 : yR (mixQ openQ q b2_115) n os2_136 kd2_124 ic2_136 br2_136 := hY_136
        refine lv_aload hx hb dX2_tryDay_139 (lv_at hl 1 rfl) ?_
        refine lv_aload_n hx hb dX2_tryDay_141 rfl (lv_at hl 5 rfl) ?_
        refine r_get (T := TX2) (v := .int c) hx hb hts hi2 hown hK hw 10 rfl rfl 8 (by decide) f_8 rfl dX2_tryDay_142 ?_
        refine c_vv (As := [.int c]) (rest := []) ⟨hx, hb, hml, hown, hts⟩ (k_X6_freeze l D c4 A ((yG c4 (la 5) (nI n) os kd ic br) :: (tG c4 tr (nI b2_115) (cumQ f x q b2_115) (fbQ q b2_115) ba2_115) :: (sG c4 sa (tr 0) lc2_94 lS2_94 (nI dp) t f x c th pe cd dc wc lv) :: (yG c4 (la 7) (gn2_94 7) (go2_94 7) (gk2_94 7) (gi2_94 7) (gb2_94 7)) :: (yG c4 (la 8) (gn2_94 8) (go2_94 8) (gk2_94 8) (gi2_94 8) (gb2_94 8)) :: Ts) (la 6) n os2_136 kd2_124 ic2_136 br2_136 (mixQ openQ q b2_115) c hn hY_136 hc) (cwV 1 hts gX2_tryDay_X6_freeze rfl rfl rfl (by decide +kernel) (rmv (Nat.le_of_ble_eq_true rfl) (Nat.le_of_ble_eq_true rfl) hRf hRl)) hK trivial hw rfl rfl rfl hl rfl (Nat.le_of_ble_eq_true rfl) ⟨Nat.zero_le _, Nat.zero_le _⟩ dX2_tryDay_145 (fun u_145 H locs hpq hw => ?_)
        obtain ⟨os2_145, kd2_145, ic2_145, br2_145⟩ := u_145
        have hw : gW D A js.heap ((yG c4 (la 6) (nI n) os2_145 kd2_145 ic2_145 br2_145) :: (yG c4 (la 5) (nI n) os kd ic br) :: (tG c4 tr (nI b2_115) (cumQ f x q b2_115) (fbQ q b2_115) ba2_115) :: (sG c4 sa (tr 0) lc2_94 lS2_94 (nI dp) t f x c th pe cd dc wc lv) :: (yG c4 (la 7) (gn2_94 7) (go2_94 7) (gk2_94 7) (gi2_94 7) (gb2_94 7)) :: (yG c4 (la 8) (gn2_94 8) (go2_94 8) (gk2_94 8) (gi2_94 8) (gb2_94 8)) :: Ts) H locs := hw
        have hY_145 := hpq
        have hY_145 : yR (fun y => nightQ c ((mixQ openQ q b2_115) y)) n os2_145 kd2_145 ic2_145 br2_145 := hY_145
        refine lv_iload hx hb dX2_tryDay_148 (lv_at hl 0 rfl) ?_
        have kj_150 : ∀ (w_2 : Int32) (ls : Array Slot), w_2 = (if r_115 = 0 then (if 0 < (coal - 1) then (coal - 1) else 0) else cd) → lv_has ls 11 [(9, .int r_115), (8, .ref ((la 6) 0)), (7, .ref ((la 5) 0)), (6, .int (if coal ≤ 0 then (cost + wc) else cost)), (5, .int (if 0 < (coal - 1) then (coal - 1) else 0)), (0, .ref (sa 0)), (1, .int 5), (2, .int coal), (3, .int cost), (4, .int set)] → W jp l je R js jm args below meth jc H locs 0 0 Q (F0 jm 162 ls [.int w_2]) := by
          intro w_2 ls e_w_2 hl
          subst e_w_2
          refine lv_istore (lv' := [(10, .int (if r_115 = 0 then (if 0 < (coal - 1) then (coal - 1) else 0) else cd)), (9, .int r_115), (8, .ref ((la 6) 0)), (7, .ref ((la 5) 0)), (6, .int (if coal ≤ 0 then (cost + wc) else cost)), (5, .int (if 0 < (coal - 1) then (coal - 1) else 0)), (0, .ref (sa 0)), (1, .int 5), (2, .int coal), (3, .int cost), (4, .int set)]) hx hb dX2_tryDay_162 hl (by decide) rfl (fun ls hl => ?_)
          refine lv_aload_n hx hb dX2_tryDay_164 rfl (lv_at hl 6 rfl) ?_
          refine lv_iload_n hx hb dX2_tryDay_165 rfl (lv_at hl 7 rfl) ?_
          refine lv_iconst (v := 1) hx hb dX2_tryDay_166 (by decide) ?_
          refine r_addN hx hb 5 1 dX2_tryDay_167 ?_
          refine lv_iload hx hb dX2_tryDay_168 (lv_at hl 0 rfl) ?_
          refine lv_iload hx hb dX2_tryDay_170 (lv_at hl 4 rfl) ?_
          refine lv_aload_n hx hb dX2_tryDay_172 rfl (lv_at hl 6 rfl) ?_
          refine r_get (T := TX2) (v := .int dc) hx hb hts hi2 hown hK hw 10 rfl rfl 12 (by decide) f_15 rfl dX2_tryDay_173 ?_
          refine lv_iadd hx hb dX2_tryDay_176 ?_
          refine lv_iload hx hb dX2_tryDay_177 (lv_at hl 10 rfl) ?_
          refine lv_iconst (v := 1) hx hb dX2_tryDay_179 (by decide) ?_
          refine lv_iload_n hx hb dX2_tryDay_180 rfl (lv_at hl 7 rfl) ?_
          refine lv_ishl hx hb dX2_tryDay_181 ?_
          refine lv_ior hx hb dX2_tryDay_182 ?_
          have hw := hw.m5
          have hw := hw.m5
          have hw := hw.m2
          have hw := hw.m4
          have hw := hw.m5
          refine c_vv (As := [.int 6, .int (if r_115 = 0 then (if 0 < (coal - 1) then (coal - 1) else 0) else cd), .int ((if coal ≤ 0 then (cost + wc) else cost) + dc), .int (set ||| ((1 : Int32) <<< ((5 : Int32) &&& 31)))]) (rest := []) ⟨hx, hb, hml, hown, hts⟩ (k_X2_tryDay_6 l D c4 A ((yG c4 (la 5) (nI n) os kd ic br) :: Ts) sa tr la lc2_94 lS2_94 t f x c th pe cd dc wc dp lv (nI b2_115) (cumQ f x q b2_115) (fbQ q b2_115) ba2_115 n os2_145 kd2_145 ic2_145 br2_145 (fun y => nightQ c ((mixQ openQ q b2_115) y)) gn2_94 go2_94 gk2_94 gi2_94 gb2_94 (if r_115 = 0 then (if 0 < (coal - 1) then (coal - 1) else 0) else cd) ((if coal ≤ 0 then (cost + wc) else cost) + dc) (set ||| ((1 : Int32) <<< ((5 : Int32) &&& 31))) hdp hn hY_145 hf hc hlv) (cwV 4 hts gX2_tryDay_X2_tryDay rfl rfl rfl (by decide +kernel) (rmv (Nat.le_of_ble_eq_true rfl) (Nat.le_of_ble_eq_true rfl) hRf hRl)) hK trivial hw rfl rfl rfl hl rfl (Nat.le_of_ble_eq_true rfl) ⟨Nat.zero_le _, Nat.zero_le _⟩ dX2_tryDay_183 (fun u_183 H locs hpq hw => ?_)
          obtain ⟨lc2_183, lS2_183, bh2_183, mi2_183, fb2_183, ba2_183, gn2_183, go2_183, gk2_183, gi2_183, gb2_183⟩ := u_183
          have hw : gW D A js.heap ((sG c4 sa (tr 0) lc2_183 lS2_183 (nI dp) t f x c th pe cd dc wc lv) :: (tG c4 tr bh2_183 mi2_183 fb2_183 ba2_183) :: (yG c4 (la 6) (nI n) os2_145 kd2_145 ic2_145 br2_145) :: (yG c4 (la 7) (gn2_183 7) (go2_183 7) (gk2_183 7) (gi2_183 7) (gb2_183 7)) :: (yG c4 (la 8) (gn2_183 8) (go2_183 8) (gk2_183 8) (gi2_183 8) (gb2_183 8)) :: (yG c4 (la 5) (nI n) os kd ic br) :: Ts) H locs := hw
          have hS_183 := hpq
          have hS_183 : (lc2_183, lS2_183) = srch n f x t c cd dc wc (dp - 6) 6 (fun y => nightQ c ((mixQ openQ q b2_115) y)) (if r_115 = 0 then (if 0 < (coal - 1) then (coal - 1) else 0) else cd) ((if coal ≤ 0 then (cost + wc) else cost) + dc) (set ||| ((1 : Int32) <<< ((5 : Int32) &&& 31))) (lc2_94, lS2_94) := hS_183
          have hw := hw.m4
          have hw := hw.m4
          have hw := hw.m4
          have hw := hw.m5
          have hw := hw.m5
          have hw := hw.m5
          exact kr (lc2_183, lS2_183, bh2_183, mi2_183, fb2_183, ba2_183, upd gn2_183 6 (nI n), upd go2_183 6 os2_145, va_up gk2_183 6 kd2_145, va_up gi2_183 6 ic2_145, va_up gb2_183 6 br2_145) _ _ _ _ hw (sr_node (d := 5) c_14 c_5 hS_94 hb2_115 h0_115 h1_115 hS_183) dX2_tryDay_186
        refine lv_if_eq (tgt := 160) hx hb dX2_tryDay_150 (by decide) (fun c_150 => ?_) (fun c_150 => ?_)
        · refine lv_iload hx hb dX2_tryDay_160 (lv_at hl 4 rfl) ?_
          exact kj_150 _ ls (by first | rfl | (rw [if_pos c_150]; done) | (simp only [if_pos c_150]; done) | simp [c_150]) (lv_sub hl [0, 1, 2, 3, 4, 5, 6, 7, 8, 9] rfl)
        · refine lv_aload_n hx hb dX2_tryDay_153 rfl (lv_at hl 5 rfl) ?_
          refine r_get (T := TX2) (v := .int cd) hx hb hts hi2 hown hK hw 10 rfl rfl 11 (by decide) f_14 rfl dX2_tryDay_154 ?_
          refine lv_goto (tgt := 162) hx hb dX2_tryDay_157 (by decide) ?_
          exact kj_150 _ ls (by first | rfl | (rw [if_neg c_150]; done) | (simp only [if_neg c_150]; done) | simp [c_150]) (lv_sub hl [0, 1, 2, 3, 4, 5, 6, 7, 8, 9] rfl)
      refine lv_if_le (tgt := 42) hx hb dX2_tryDay_35 (by decide) (fun c_35 => ?_) (fun c_35 => ?_)
      · refine lv_iload_n hx hb dX2_tryDay_42 rfl (lv_at hl 4 rfl) ?_
        refine lv_aload_n hx hb dX2_tryDay_43 rfl (lv_at hl 1 rfl) ?_
        refine r_get (T := TX2) (v := .int wc) hx hb hts hi2 hown hK hw 0 rfl rfl 13 (by decide) f_6 rfl dX2_tryDay_44 ?_
        refine lv_iadd hx hb dX2_tryDay_47 ?_
        exact kj_35 _ ls (by first | rfl | (rw [if_pos c_35]; done) | (simp only [if_pos c_35]; done) | simp [c_35]) (lv_sub hl [0, 1, 2, 3, 4, 5] rfl)
      · refine lv_iload_n hx hb dX2_tryDay_38 rfl (lv_at hl 4 rfl) ?_
        refine lv_goto (tgt := 48) hx hb dX2_tryDay_39 (by decide) ?_
        exact kj_35 _ ls (by first | rfl | (rw [if_neg c_35]; done) | (simp only [if_neg c_35]; done) | simp [c_35]) (lv_sub hl [0, 1, 2, 3, 4, 5] rfl)
    · refine lv_aload_n hx hb dX2_tryDay_17 rfl (lv_at hl 0 rfl) ?_
      refine lv_iload_n hx hb dX2_tryDay_18 rfl (lv_at hl 3 rfl) ?_
      refine lv_iload hx hb dX2_tryDay_19 (lv_at hl 4 rfl) ?_
      refine c_vv (As := [.int cost, .int set]) (rest := []) ⟨hx, hb, hml, hown, hts⟩ (k_X2_takeIfBetter l D c4 A ((tG c4 tr bh mi fb ba) :: (yG c4 (la 5) (nI n) os kd ic br) :: (yG c4 (la 6) (gn 6) (go 6) (gk 6) (gi 6) (gb 6)) :: (yG c4 (la 7) (gn 7) (go 7) (gk 7) (gi 7) (gb 7)) :: (yG c4 (la 8) (gn 8) (go 8) (gk 8) (gi 8) (gb 8)) :: Ts) sa tr lc lS t f x c th pe cd dc wc dp lv cost set) (cwV 2 hts gX2_tryDay_X2_takeIfBetter rfl rfl rfl (by decide +kernel) (rmv (Nat.le_of_ble_eq_true rfl) (Nat.le_of_ble_eq_true rfl) hRf hRl)) hK trivial hw rfl rfl rfl hl rfl (Nat.le_of_ble_eq_true rfl) ⟨Nat.zero_le _, Nat.zero_le _⟩ dX2_tryDay_21 (fun u_21 H locs hpq hw => ?_)
      obtain ⟨lc2_21, lS2_21⟩ := u_21
      have hw : gW D A js.heap ((sG c4 sa (tr 0) lc2_21 lS2_21 (nI dp) t f x c th pe cd dc wc lv) :: (tG c4 tr bh mi fb ba) :: (yG c4 (la 5) (nI n) os kd ic br) :: (yG c4 (la 6) (gn 6) (go 6) (gk 6) (gi 6) (gb 6)) :: (yG c4 (la 7) (gn 7) (go 7) (gk 7) (gi 7) (gb 7)) :: (yG c4 (la 8) (gn 8) (go 8) (gk 8) (gi 8) (gb 8)) :: Ts) H locs := hw
      have hB_21 := hpq
      have hB_21 : (lc2_21, lS2_21) = betP cost set (lc, lS) := hB_21
      exact kr (lc2_21, lS2_21, bh, mi, fb, ba, gn, go, gk, gi, gb) _ _ _ _ hw (sr_leaf c_14 c_5 hB_21) dX2_tryDay_24
  · exact kr (lc, lS, bh, mi, fb, ba, gn, go, gk, gi, gb) _ _ _ _ hw (sr_out (b := (lc, lS)) c_5) dX2_tryDay_8
set_option maxHeartbeats 4000000 in
set_option maxRecDepth 100000 in
theorem k_X2_tryDay_4 (l : Launch) (D : va_G) (c4 : Nat → ClassId) (A : Nat → Prop) (Ts : List va_W) (sa : Nat → Nat) (tr : Nat → Nat) (la : Nat → Nat → Nat) (lc : Int32) (lS : Int32) (t : Int32) (f : Int32) (x : Int32) (c : Int32) (th : Int32) (pe : Int32) (cd : Int32) (dc : Int32) (wc : Int32) (dp : Nat) (lv : Nat → Option Nat) (bh : Int32) (mi : Int32) (fb : Int32) (ba : Nat → Int32) (n : Nat) (os : Int32) (kd : Nat → Int32) (ic : Nat → Int32) (br : Nat → Int32) (q : Nat → Yq) (gn : Nat → Int32) (go : Nat → Int32) (gk : Nat → Nat → Int32) (gi : Nat → Nat → Int32) (gb : Nat → Nat → Int32) (coal : Int32) (cost : Int32) (set : Int32) (hdp : dp ≤ 8) (hn : n ≤ 12) (hY : yR q n os kd ic br) (hf : fOk f x) (hc : 0 ≤ c.toInt ∧ c.toInt ≤ 30) (hlv : ∀ k, k < 9 → lv k = some (la k 0)) : Cv l yX2_tryDay wsX2_tryDay 6 164 [.ref (sa 0), .int 4, .int coal, .int cost, .int set] D (tyA c4) A none ((sG c4 sa (tr 0) lc lS (nI dp) t f x c th pe cd dc wc lv) :: (tG c4 tr bh mi fb ba) :: (yG c4 (la 4) (nI n) os kd ic br) :: (yG c4 (la 5) (gn 5) (go 5) (gk 5) (gi 5) (gb 5)) :: (yG c4 (la 6) (gn 6) (go 6) (gk 6) (gi 6) (gb 6)) :: (yG c4 (la 7) (gn 7) (go 7) (gk 7) (gi 7) (gb 7)) :: (yG c4 (la 8) (gn 8) (go 8) (gk 8) (gi 8) (gb 8)) :: Ts) (S := Int32 × Int32 × Int32 × Int32 × Int32 × (Nat → Int32) × (Nat → Int32) × (Nat → Int32) × (Nat → Nat → Int32) × (Nat → Nat → Int32) × (Nat → Nat → Int32)) (fun (u : Int32 × Int32 × Int32 × Int32 × Int32 × (Nat → Int32) × (Nat → Int32) × (Nat → Int32) × (Nat → Nat → Int32) × (Nat → Nat → Int32) × (Nat → Nat → Int32)) => (u.1, u.2.1) = srch n f x t c cd dc wc (dp - 4) 4 q coal cost set (lc, lS)) (fun u => ((sG c4 sa (tr 0) u.1 u.2.1 (nI dp) t f x c th pe cd dc wc lv) :: (tG c4 tr u.2.2.1 u.2.2.2.1 u.2.2.2.2.1 u.2.2.2.2.2.1) :: (yG c4 (la 4) (nI n) os kd ic br) :: (yG c4 (la 5) (u.2.2.2.2.2.2.1 5) (u.2.2.2.2.2.2.2.1 5) (u.2.2.2.2.2.2.2.2.1 5) (u.2.2.2.2.2.2.2.2.2.1 5) (u.2.2.2.2.2.2.2.2.2.2 5)) :: (yG c4 (la 6) (u.2.2.2.2.2.2.1 6) (u.2.2.2.2.2.2.2.1 6) (u.2.2.2.2.2.2.2.2.1 6) (u.2.2.2.2.2.2.2.2.2.1 6) (u.2.2.2.2.2.2.2.2.2.2 6)) :: (yG c4 (la 7) (u.2.2.2.2.2.2.1 7) (u.2.2.2.2.2.2.2.1 7) (u.2.2.2.2.2.2.2.2.1 7) (u.2.2.2.2.2.2.2.2.2.1 7) (u.2.2.2.2.2.2.2.2.2.2 7)) :: (yG c4 (la 8) (u.2.2.2.2.2.2.1 8) (u.2.2.2.2.2.2.2.1 8) (u.2.2.2.2.2.2.2.2.1 8) (u.2.2.2.2.2.2.2.2.2.1 8) (u.2.2.2.2.2.2.2.2.2.2 8)) :: Ts)) := by
  refine cOv (cc := cX2_tryDay) (maxL := 11) (by decide) rfl (Nat.le_of_ble_eq_true rfl) rfl ?_
  rintro jp je js jm below meth jc ls args R Q H locs hRf hRl ⟨hx, hb, hml, hr, hts, hown, hlocks, hK, hX⟩ hw hl kr
  have hown : js.vm.findClass RX2 = some jm.cls := hown
  have f_0 := hts (.fieldLink RX2 86 "IceSway$Search" "leastCost" "I") (by decide +kernel)
  have f_1 := hts (.fieldLink RX2 41 "IceSway$Search" "depth" "I") (by decide +kernel)
  have f_2 := hts (.methodLink RX2 100 Lib.Math.max.name) (by decide +kernel)
  have f_3 := hts (.static Lib.Math.max.name) (by decide +kernel)
  have f_4 := hts (.initialized "java/lang/Math") (by decide +kernel)
  have f_5 := hts (.code Lib.Math.max.name Lib.Math.max.code 2 (some .int)) (by decide +kernel)
  have f_6 := hts (.fieldLink RX2 83 "IceSway$Search" "wantCost" "I") (by decide +kernel)
  have f_7 := hts (.fieldLink RX2 20 "IceSway$Search" "levels" "[LIceSway$Yards;") (by decide +kernel)
  have f_8 := hts (.fieldLink RX2 67 "IceSway$Search" "cold" "I") (by decide +kernel)
  have f_9 := hts (.fieldLink RX2 12 "IceSway$Search" "trip" "LIceSway$Trip;") (by decide +kernel)
  have f_10 := hts (.fieldLink RX2 57 "IceSway$Search" "force" "I") (by decide +kernel)
  have f_11 := hts (.fieldLink RX2 64 "IceSway$Search" "axe" "I") (by decide +kernel)
  have f_12 := hts (.fieldLink RX2 45 "IceSway$Search" "minutes" "I") (by decide +kernel)
  have f_13 := hts (.fieldLink RX2 111 "IceSway$Trip" "behind" "I") (by decide +kernel)
  have f_14 := hts (.fieldLink RX2 73 "IceSway$Search" "coalDays" "I") (by decide +kernel)
  have f_15 := hts (.fieldLink RX2 78 "IceSway$Search" "dayCost" "I") (by decide +kernel)
  have hi2 : ∀ w ∈ u_ws RX2 TX2 14, w ∈ wsX2_tryDay := fun w h => List.mem_cons_of_mem _ (List.mem_append_left _ (List.mem_append_left _ (List.mem_append_right _ h)))
  have hi4 : ∀ w ∈ u_ws RX4 TX4 4, w ∈ wsX2_tryDay := fun w h => List.mem_cons_of_mem _ (List.mem_append_left _ (List.mem_append_right _ h))
  refine lv_iload_n hx hb dX2_tryDay_0 rfl (lv_at hl 3 rfl) ?_
  refine lv_aload_n hx hb dX2_tryDay_1 rfl (lv_at hl 0 rfl) ?_
  refine r_get (T := TX2) (v := .int lc) hx hb hts hi2 hown hK hw 0 rfl rfl 0 (by decide) f_0 rfl dX2_tryDay_2 ?_
  refine lv_icmp_le (tgt := 9) hx hb dX2_tryDay_5 (by decide) (fun c_5 => ?_) (fun c_5 => ?_)
  · refine lv_iload_n hx hb dX2_tryDay_9 rfl (lv_at hl 1 rfl) ?_
    refine lv_aload_n hx hb dX2_tryDay_10 rfl (lv_at hl 0 rfl) ?_
    refine r_get (T := TX2) (v := .int (nI dp)) hx hb hts hi2 hown hK hw 0 rfl rfl 4 (by decide) f_1 rfl dX2_tryDay_11 ?_
    refine r_clt hx hb 4 dp (by omega) (by omega) (tgt := 25) dX2_tryDay_14 (by decide) (fun c_14 => ?_) (fun c_14 => ?_)
    · refine lv_iconst (v := 0) hx hb dX2_tryDay_25 (by decide) ?_
      refine lv_iload_n hx hb dX2_tryDay_26 rfl (lv_at hl 2 rfl) ?_
      refine lv_iconst (v := 1) hx hb dX2_tryDay_27 (by decide) ?_
      refine lv_isub hx hb dX2_tryDay_28 ?_
      refine va_mmax hx hb (hml.trans hl.1.symm) hown f_2 f_3 f_4 f_5 (by rw [hRf]; exact Nat.le_of_ble_eq_true rfl) (by rw [hRl]; exact Nat.le_of_ble_eq_true rfl) (Nat.zero_le _) (Nat.zero_le _) dX2_tryDay_29 ?_
      refine lv_istore (lv' := [(5, .int (if 0 < (coal - 1) then (coal - 1) else 0)), (0, .ref (sa 0)), (1, .int 4), (2, .int coal), (3, .int cost), (4, .int set)]) hx hb dX2_tryDay_32 hl (by decide) rfl (fun ls hl => ?_)
      refine lv_iload_n hx hb dX2_tryDay_34 rfl (lv_at hl 3 rfl) ?_
      have kj_35 : ∀ (w_1 : Int32) (ls : Array Slot), w_1 = (if coal ≤ 0 then (cost + wc) else cost) → lv_has ls 11 [(5, .int (if 0 < (coal - 1) then (coal - 1) else 0)), (0, .ref (sa 0)), (1, .int 4), (2, .int coal), (3, .int cost), (4, .int set)] → W jp l je R js jm args below meth jc H locs 0 0 Q (F0 jm 48 ls [.int w_1]) := by
        intro w_1 ls e_w_1 hl
        subst e_w_1
        refine lv_istore (lv' := [(6, .int (if coal ≤ 0 then (cost + wc) else cost)), (5, .int (if 0 < (coal - 1) then (coal - 1) else 0)), (0, .ref (sa 0)), (1, .int 4), (2, .int coal), (3, .int cost), (4, .int set)]) hx hb dX2_tryDay_48 hl (by decide) rfl (fun ls hl => ?_)
        refine lv_aload_n hx hb dX2_tryDay_50 rfl (lv_at hl 2 rfl) ?_
        refine r_get (T := TX2) (v := .ref (sa 1)) hx hb hts hi2 hown hK hw 0 rfl rfl 3 (by decide) f_7 rfl dX2_tryDay_51 ?_
        refine lv_iload_n hx hb dX2_tryDay_54 rfl (lv_at hl 3 rfl) ?_
        refine r_aald hx hb hK hw 1 3 rfl rfl 4 (by decide) (by decide) (b := ((la 4) 0)) (hlv 4 (by decide)) dX2_tryDay_55 ?_
        refine lv_astore (lv' := [(7, .ref ((la 4) 0)), (6, .int (if coal ≤ 0 then (cost + wc) else cost)), (5, .int (if 0 < (coal - 1) then (coal - 1) else 0)), (0, .ref (sa 0)), (1, .int 4), (2, .int coal), (3, .int cost), (4, .int set)]) hx hb dX2_tryDay_56 hl (by decide) rfl (fun ls hl => ?_)
        refine lv_aload_n hx hb dX2_tryDay_58 rfl (lv_at hl 3 rfl) ?_
        refine r_get (T := TX2) (v := .ref (sa 1)) hx hb hts hi2 hown hK hw 0 rfl rfl 3 (by decide) f_7 rfl dX2_tryDay_59 ?_
        refine lv_iload_n hx hb dX2_tryDay_62 rfl (lv_at hl 4 rfl) ?_
        refine lv_iconst (v := 1) hx hb dX2_tryDay_63 (by decide) ?_
        refine r_addN hx hb 4 1 dX2_tryDay_64 ?_
        refine r_aald hx hb hK hw 1 3 rfl rfl 5 (by decide) (by decide) (b := ((la 5) 0)) (hlv 5 (by decide)) dX2_tryDay_65 ?_
        refine lv_astore (lv' := [(8, .ref ((la 5) 0)), (7, .ref ((la 4) 0)), (6, .int (if coal ≤ 0 then (cost + wc) else cost)), (5, .int (if 0 < (coal - 1) then (coal - 1) else 0)), (0, .ref (sa 0)), (1, .int 4), (2, .int coal), (3, .int cost), (4, .int set)]) hx hb dX2_tryDay_66 hl (by decide) rfl (fun ls hl => ?_)
        refine lv_aload hx hb dX2_tryDay_68 (lv_at hl 0 rfl) ?_
        refine lv_aload hx hb dX2_tryDay_70 (lv_at hl 1 rfl) ?_
        have hw := hw.m2
        have hw := hw.m3
        refine c_vv (As := [.ref ((la 4) 0)]) (rest := []) ⟨hx, hb, hml, hown, hts⟩ (k_X6_copyFrom l D c4 A ((sG c4 sa (tr 0) lc lS (nI dp) t f x c th pe cd dc wc lv) :: (tG c4 tr bh mi fb ba) :: (yG c4 (la 6) (gn 6) (go 6) (gk 6) (gi 6) (gb 6)) :: (yG c4 (la 7) (gn 7) (go 7) (gk 7) (gi 7) (gb 7)) :: (yG c4 (la 8) (gn 8) (go 8) (gk 8) (gi 8) (gb 8)) :: Ts) (la 5) (gn 5) (go 5) (gk 5) (gi 5) (gb 5) (la 4) n os kd ic br q hn hY) (cwV 1 hts gX2_tryDay_X6_copyFrom rfl rfl rfl (by decide +kernel) (rmv (Nat.le_of_ble_eq_true rfl) (Nat.le_of_ble_eq_true rfl) hRf hRl)) hK trivial hw rfl rfl rfl hl rfl (Nat.le_of_ble_eq_true rfl) ⟨Nat.zero_le _, Nat.zero_le _⟩ dX2_tryDay_72 (fun u_72 H locs hpq hw => ?_)
        obtain ⟨kd2_72, ic2_72, br2_72⟩ := u_72
        have hw : gW D A js.heap ((yG c4 (la 5) (nI n) os kd2_72 ic2_72 br2_72) :: (yG c4 (la 4) (nI n) os kd ic br) :: (sG c4 sa (tr 0) lc lS (nI dp) t f x c th pe cd dc wc lv) :: (tG c4 tr bh mi fb ba) :: (yG c4 (la 6) (gn 6) (go 6) (gk 6) (gi 6) (gb 6)) :: (yG c4 (la 7) (gn 7) (go 7) (gk 7) (gi 7) (gb 7)) :: (yG c4 (la 8) (gn 8) (go 8) (gk 8) (gi 8) (gb 8)) :: Ts) H locs := hw
        have hY_72 := hpq
        have hY_72 : yR q n os kd2_72 ic2_72 br2_72 := hY_72
        refine lv_aload hx hb dX2_tryDay_75 (lv_at hl 0 rfl) ?_
        refine lv_aload_n hx hb dX2_tryDay_77 rfl (lv_at hl 4 rfl) ?_
        refine r_get (T := TX2) (v := .int c) hx hb hts hi2 hown hK hw 8 rfl rfl 8 (by decide) f_8 rfl dX2_tryDay_78 ?_
        refine c_vv (As := [.int c]) (rest := []) ⟨hx, hb, hml, hown, hts⟩ (k_X6_freeze l D c4 A ((yG c4 (la 4) (nI n) os kd ic br) :: (sG c4 sa (tr 0) lc lS (nI dp) t f x c th pe cd dc wc lv) :: (tG c4 tr bh mi fb ba) :: (yG c4 (la 6) (gn 6) (go 6) (gk 6) (gi 6) (gb 6)) :: (yG c4 (la 7) (gn 7) (go 7) (gk 7) (gi 7) (gb 7)) :: (yG c4 (la 8) (gn 8) (go 8) (gk 8) (gi 8) (gb 8)) :: Ts) (la 5) n os kd2_72 ic2_72 br2_72 q c hn hY_72 hc) (cwV 1 hts gX2_tryDay_X6_freeze rfl rfl rfl (by decide +kernel) (rmv (Nat.le_of_ble_eq_true rfl) (Nat.le_of_ble_eq_true rfl) hRf hRl)) hK trivial hw rfl rfl rfl hl rfl (Nat.le_of_ble_eq_true rfl) ⟨Nat.zero_le _, Nat.zero_le _⟩ dX2_tryDay_81 (fun u_81 H locs hpq hw => ?_)
        obtain ⟨os2_81, kd2_81, ic2_81, br2_81⟩ := u_81
        have hw : gW D A js.heap ((yG c4 (la 5) (nI n) os2_81 kd2_81 ic2_81 br2_81) :: (yG c4 (la 4) (nI n) os kd ic br) :: (sG c4 sa (tr 0) lc lS (nI dp) t f x c th pe cd dc wc lv) :: (tG c4 tr bh mi fb ba) :: (yG c4 (la 6) (gn 6) (go 6) (gk 6) (gi 6) (gb 6)) :: (yG c4 (la 7) (gn 7) (go 7) (gk 7) (gi 7) (gb 7)) :: (yG c4 (la 8) (gn 8) (go 8) (gk 8) (gi 8) (gb 8)) :: Ts) H locs := hw
        have hY_81 := hpq
        have hY_81 : yR (fun y => nightQ c (q y)) n os2_81 kd2_81 ic2_81 br2_81 := hY_81
        refine lv_aload_n hx hb dX2_tryDay_84 rfl (lv_at hl 4 rfl) ?_
        refine lv_iload_n hx hb dX2_tryDay_85 rfl (lv_at hl 5 rfl) ?_
        refine lv_iconst (v := 1) hx hb dX2_tryDay_86 (by decide) ?_
        refine r_addN hx hb 4 1 dX2_tryDay_87 ?_
        refine lv_iload hx hb dX2_tryDay_88 (lv_at hl 3 rfl) ?_
        refine lv_iload hx hb dX2_tryDay_90 (lv_at hl 2 rfl) ?_
        refine lv_iload hx hb dX2_tryDay_92 (lv_at hl 8 rfl) ?_
        have hw := hw.m6
        have hw := hw.m6
        have hw := hw.m6
        have hw := hw.m3
        have hw := hw.m6
        have hw := hw.m6
        refine c_vv (As := [.int 5, .int (if 0 < (coal - 1) then (coal - 1) else 0), .int (if coal ≤ 0 then (cost + wc) else cost), .int set]) (rest := []) ⟨hx, hb, hml, hown, hts⟩ (k_X2_tryDay_5 l D c4 A ((yG c4 (la 4) (nI n) os kd ic br) :: Ts) sa tr la lc lS t f x c th pe cd dc wc dp lv bh mi fb ba n os2_81 kd2_81 ic2_81 br2_81 (fun y => nightQ c (q y)) gn go gk gi gb (if 0 < (coal - 1) then (coal - 1) else 0) (if coal ≤ 0 then (cost + wc) else cost) set hdp hn hY_81 hf hc hlv) (cwV 4 hts gX2_tryDay_X2_tryDay rfl rfl rfl (by decide +kernel) (rmv (Nat.le_of_ble_eq_true rfl) (Nat.le_of_ble_eq_true rfl) hRf hRl)) hK trivial hw rfl rfl rfl hl rfl (Nat.le_of_ble_eq_true rfl) ⟨Nat.zero_le _, Nat.zero_le _⟩ dX2_tryDay_94 (fun u_94 H locs hpq hw => ?_)
        obtain ⟨lc2_94, lS2_94, bh2_94, mi2_94, fb2_94, ba2_94, gn2_94, go2_94, gk2_94, gi2_94, gb2_94⟩ := u_94
        have hw : gW D A js.heap ((sG c4 sa (tr 0) lc2_94 lS2_94 (nI dp) t f x c th pe cd dc wc lv) :: (tG c4 tr bh2_94 mi2_94 fb2_94 ba2_94) :: (yG c4 (la 5) (nI n) os2_81 kd2_81 ic2_81 br2_81) :: (yG c4 (la 6) (gn2_94 6) (go2_94 6) (gk2_94 6) (gi2_94 6) (gb2_94 6)) :: (yG c4 (la 7) (gn2_94 7) (go2_94 7) (gk2_94 7) (gi2_94 7) (gb2_94 7)) :: (yG c4 (la 8) (gn2_94 8) (go2_94 8) (gk2_94 8) (gi2_94 8) (gb2_94 8)) :: (yG c4 (la 4) (nI n) os kd ic br) :: Ts) H locs := hw
        have hS_94 := hpq
        have hS_94 : (lc2_94, lS2_94) = srch n f x t c cd dc wc (dp - 5) 5 (fun y => nightQ c (q y)) (if 0 < (coal - 1) then (coal - 1) else 0) (if coal ≤ 0 then (cost + wc) else cost) set (lc, lS) := hS_94
        refine lv_aload_n hx hb dX2_tryDay_97 rfl (lv_at hl 4 rfl) ?_
        refine r_get (T := TX2) (v := .ref (tr 0)) hx hb hts hi2 hown hK hw 0 rfl rfl 2 (by decide) f_9 rfl dX2_tryDay_98 ?_
        refine lv_aload hx hb dX2_tryDay_101 (lv_at hl 1 rfl) ?_
        refine lv_aload_n hx hb dX2_tryDay_103 rfl (lv_at hl 4 rfl) ?_
        refine r_get (T := TX2) (v := .int f) hx hb hts hi2 hown hK hw 0 rfl rfl 6 (by decide) f_10 rfl dX2_tryDay_104 ?_
        refine lv_aload_n hx hb dX2_tryDay_107 rfl (lv_at hl 4 rfl) ?_
        refine r_get (T := TX2) (v := .int x) hx hb hts hi2 hown hK hw 0 rfl rfl 7 (by decide) f_11 rfl dX2_tryDay_108 ?_
        refine lv_aload_n hx hb dX2_tryDay_111 rfl (lv_at hl 4 rfl) ?_
        refine r_get (T := TX2) (v := .int t) hx hb hts hi2 hown hK hw 0 rfl rfl 5 (by decide) f_12 rfl dX2_tryDay_112 ?_
        have hw := hw.m6
        have hw := hw.m2
        refine c_vi (As := [.ref ((la 4) 0), .int f, .int x, .int t]) (rest := []) ⟨hx, hb, hml, hown, hts⟩ (k_X4_passes l D c4 A ((sG c4 sa (tr 0) lc2_94 lS2_94 (nI dp) t f x c th pe cd dc wc lv) :: (yG c4 (la 5) (nI n) os2_81 kd2_81 ic2_81 br2_81) :: (yG c4 (la 6) (gn2_94 6) (go2_94 6) (gk2_94 6) (gi2_94 6) (gb2_94 6)) :: (yG c4 (la 7) (gn2_94 7) (go2_94 7) (gk2_94 7) (gi2_94 7) (gb2_94 7)) :: (yG c4 (la 8) (gn2_94 8) (go2_94 8) (gk2_94 8) (gi2_94 8) (gb2_94 8)) :: Ts) tr bh2_94 mi2_94 fb2_94 ba2_94 (la 4) n os kd ic br q f x t hn hY hf) (cwV 4 hts gX2_tryDay_X4_passes rfl rfl rfl (by decide +kernel) (rmv (Nat.le_of_ble_eq_true rfl) (Nat.le_of_ble_eq_true rfl) hRf hRl)) hK trivial hw rfl rfl rfl hl rfl (Nat.le_of_ble_eq_true rfl) ⟨Nat.zero_le _, Nat.zero_le _⟩ dX2_tryDay_115 (fun r_115 u_115 H locs hpq hw => ?_)
        obtain ⟨b2_115, ba2_115⟩ := u_115
        have hw : gW D A js.heap ((tG c4 tr (nI b2_115) (cumQ f x q b2_115) (fbQ q b2_115) ba2_115) :: (yG c4 (la 4) (nI n) os kd ic br) :: (sG c4 sa (tr 0) lc2_94 lS2_94 (nI dp) t f x c th pe cd dc wc lv) :: (yG c4 (la 5) (nI n) os2_81 kd2_81 ic2_81 br2_81) :: (yG c4 (la 6) (gn2_94 6) (go2_94 6) (gk2_94 6) (gi2_94 6) (gb2_94 6)) :: (yG c4 (la 7) (gn2_94 7) (go2_94 7) (gk2_94 7) (gi2_94 7) (gb2_94 7)) :: (yG c4 (la 8) (gn2_94 8) (go2_94 8) (gk2_94 8) (gi2_94 8) (gb2_94 8)) :: Ts) H locs := hw
        obtain ⟨h0_115, h1_115, hb2_115, hba_115⟩ := hpq
        have h0_115 : r_115 = 0 → ¬ b2_115 = n := h0_115
        have h1_115 : ¬ r_115 = 0 → b2_115 = n := h1_115
        have hb2_115 : b2_115 = bhQ f x t q n := hb2_115
        have hba_115 : ∀ k, k < b2_115 → ba2_115 k = cumQ f x q (k + 1) := hba_115
        refine lv_istore (lv' := [(9, .int r_115), (8, .ref ((la 5) 0)), (7, .ref ((la 4) 0)), (6, .int (if coal ≤ 0 then (cost + wc) else cost)), (5, .int (if 0 < (coal - 1) then (coal - 1) else 0)), (0, .ref (sa 0)), (1, .int 4), (2, .int coal), (3, .int cost), (4, .int set)]) hx hb dX2_tryDay_118 hl (by decide) rfl (fun ls hl => ?_)
        refine lv_aload hx hb dX2_tryDay_120 (lv_at hl 1 rfl) ?_
        refine lv_aload hx hb dX2_tryDay_122 (lv_at hl 2 rfl) ?_
        have hw := hw.m1
        have hw := hw.m3
        refine c_vv (As := [.ref ((la 4) 0)]) (rest := []) ⟨hx, hb, hml, hown, hts⟩ (k_X6_copyFrom l D c4 A ((tG c4 tr (nI b2_115) (cumQ f x q b2_115) (fbQ q b2_115) ba2_115) :: (sG c4 sa (tr 0) lc2_94 lS2_94 (nI dp) t f x c th pe cd dc wc lv) :: (yG c4 (la 6) (gn2_94 6) (go2_94 6) (gk2_94 6) (gi2_94 6) (gb2_94 6)) :: (yG c4 (la 7) (gn2_94 7) (go2_94 7) (gk2_94 7) (gi2_94 7) (gb2_94 7)) :: (yG c4 (la 8) (gn2_94 8) (go2_94 8) (gk2_94 8) (gi2_94 8) (gb2_94 8)) :: Ts) (la 5) (nI n) os2_81 kd2_81 ic2_81 br2_81 (la 4) n os kd ic br q hn hY) (cwV 1 hts gX2_tryDay_X6_copyFrom rfl rfl rfl (by decide +kernel) (rmv (Nat.le_of_ble_eq_true rfl) (Nat.le_of_ble_eq_true rfl) hRf hRl)) hK trivial hw rfl rfl rfl hl rfl (Nat.le_of_ble_eq_true rfl) ⟨Nat.zero_le _, Nat.zero_le _⟩ dX2_tryDay_124 (fun u_124 H locs hpq hw => ?_)
        obtain ⟨kd2_124, ic2_124, br2_124⟩ := u_124
        have hw : gW D A js.heap ((yG c4 (la 5) (nI n) os kd2_124 ic2_124 br2_124) :: (yG c4 (la 4) (nI n) os kd ic br) :: (tG c4 tr (nI b2_115) (cumQ f x q b2_115) (fbQ q b2_115) ba2_115) :: (sG c4 sa (tr 0) lc2_94 lS2_94 (nI dp) t f x c th pe cd dc wc lv) :: (yG c4 (la 6) (gn2_94 6) (go2_94 6) (gk2_94 6) (gi2_94 6) (gb2_94 6)) :: (yG c4 (la 7) (gn2_94 7) (go2_94 7) (gk2_94 7) (gi2_94 7) (gb2_94 7)) :: (yG c4 (la 8) (gn2_94 8) (go2_94 8) (gk2_94 8) (gi2_94 8) (gb2_94 8)) :: Ts) H locs := hw
        have hY_124 := hpq
        have hY_124 : yR q n os kd2_124 ic2_124 br2_124 := hY_124
        refine lv_aload hx hb dX2_tryDay_127 (lv_at hl 1 rfl) ?_
        refine lv_aload_n hx hb dX2_tryDay_129 rfl (lv_at hl 5 rfl) ?_
        refine r_get (T := TX2) (v := .ref (tr 0)) hx hb hts hi2 hown hK hw 10 rfl rfl 2 (by decide) f_9 rfl dX2_tryDay_130 ?_
        refine r_get (T := TX4) (v := .int (nI b2_115)) hx hb hts hi4 hown hK hw 8 rfl rfl 0 (by decide) f_13 rfl dX2_tryDay_133 ?_
        refine c_vv (As := [.int (nI b2_115)]) (rest := []) ⟨hx, hb, hml, hown, hts⟩ (k_X6_openFirst l D c4 A ((yG c4 (la 4) (nI n) os kd ic br) :: (tG c4 tr (nI b2_115) (cumQ f x q b2_115) (fbQ q b2_115) ba2_115) :: (sG c4 sa (tr 0) lc2_94 lS2_94 (nI dp) t f x c th pe cd dc wc lv) :: (yG c4 (la 6) (gn2_94 6) (go2_94 6) (gk2_94 6) (gi2_94 6) (gb2_94 6)) :: (yG c4 (la 7) (gn2_94 7) (go2_94 7) (gk2_94 7) (gi2_94 7) (gb2_94 7)) :: (yG c4 (la 8) (gn2_94 8) (go2_94 8) (gk2_94 8) (gi2_94 8) (gb2_94 8)) :: Ts) (la 5) n os kd2_124 ic2_124 br2_124 q b2_115 hn hY_124 (by rw [hb2_115]; exact bh_le _ _ _ _ _)) (cwV 1 hts gX2_tryDay_X6_openFirst rfl rfl rfl (by decide +kernel) (rmv (Nat.le_of_ble_eq_true rfl) (Nat.le_of_ble_eq_true rfl) hRf hRl)) hK trivial hw rfl rfl rfl hl rfl (Nat.le_of_ble_eq_true rfl) ⟨Nat.zero_le _, Nat.zero_le _⟩ dX2_tryDay_136 (fun u_136 H locs hpq hw => ?_)
        obtain ⟨os2_136, ic2_136, br2_136⟩ := u_136
        have hw : gW D A js.heap ((yG c4 (la 5) (nI n) os2_136 kd2_124 ic2_136 br2_136) :: (yG c4 (la 4) (nI n) os kd ic br) :: (tG c4 tr (nI b2_115) (cumQ f x q b2_115) (fbQ q b2_115) ba2_115) :: (sG c4 sa (tr 0) lc2_94 lS2_94 (nI dp) t f x c th pe cd dc wc lv) :: (yG c4 (la 6) (gn2_94 6) (go2_94 6) (gk2_94 6) (gi2_94 6) (gb2_94 6)) :: (yG c4 (la 7) (gn2_94 7) (go2_94 7) (gk2_94 7) (gi2_94 7) (gb2_94 7)) :: (yG c4 (la 8) (gn2_94 8) (go2_94 8) (gk2_94 8) (gi2_94 8) (gb2_94 8)) :: Ts) H locs := hw
        have hY_136 := hpq
        have hY_136 : yR (mixQ openQ q b2_115) n os2_136 kd2_124 ic2_136 br2_136 := hY_136
        refine lv_aload hx hb dX2_tryDay_139 (lv_at hl 1 rfl) ?_
        refine lv_aload_n hx hb dX2_tryDay_141 rfl (lv_at hl 5 rfl) ?_
        refine r_get (T := TX2) (v := .int c) hx hb hts hi2 hown hK hw 10 rfl rfl 8 (by decide) f_8 rfl dX2_tryDay_142 ?_
        refine c_vv (As := [.int c]) (rest := []) ⟨hx, hb, hml, hown, hts⟩ (k_X6_freeze l D c4 A ((yG c4 (la 4) (nI n) os kd ic br) :: (tG c4 tr (nI b2_115) (cumQ f x q b2_115) (fbQ q b2_115) ba2_115) :: (sG c4 sa (tr 0) lc2_94 lS2_94 (nI dp) t f x c th pe cd dc wc lv) :: (yG c4 (la 6) (gn2_94 6) (go2_94 6) (gk2_94 6) (gi2_94 6) (gb2_94 6)) :: (yG c4 (la 7) (gn2_94 7) (go2_94 7) (gk2_94 7) (gi2_94 7) (gb2_94 7)) :: (yG c4 (la 8) (gn2_94 8) (go2_94 8) (gk2_94 8) (gi2_94 8) (gb2_94 8)) :: Ts) (la 5) n os2_136 kd2_124 ic2_136 br2_136 (mixQ openQ q b2_115) c hn hY_136 hc) (cwV 1 hts gX2_tryDay_X6_freeze rfl rfl rfl (by decide +kernel) (rmv (Nat.le_of_ble_eq_true rfl) (Nat.le_of_ble_eq_true rfl) hRf hRl)) hK trivial hw rfl rfl rfl hl rfl (Nat.le_of_ble_eq_true rfl) ⟨Nat.zero_le _, Nat.zero_le _⟩ dX2_tryDay_145 (fun u_145 H locs hpq hw => ?_)
        obtain ⟨os2_145, kd2_145, ic2_145, br2_145⟩ := u_145
        have hw : gW D A js.heap ((yG c4 (la 5) (nI n) os2_145 kd2_145 ic2_145 br2_145) :: (yG c4 (la 4) (nI n) os kd ic br) :: (tG c4 tr (nI b2_115) (cumQ f x q b2_115) (fbQ q b2_115) ba2_115) :: (sG c4 sa (tr 0) lc2_94 lS2_94 (nI dp) t f x c th pe cd dc wc lv) :: (yG c4 (la 6) (gn2_94 6) (go2_94 6) (gk2_94 6) (gi2_94 6) (gb2_94 6)) :: (yG c4 (la 7) (gn2_94 7) (go2_94 7) (gk2_94 7) (gi2_94 7) (gb2_94 7)) :: (yG c4 (la 8) (gn2_94 8) (go2_94 8) (gk2_94 8) (gi2_94 8) (gb2_94 8)) :: Ts) H locs := hw
        have hY_145 := hpq
        have hY_145 : yR (fun y => nightQ c ((mixQ openQ q b2_115) y)) n os2_145 kd2_145 ic2_145 br2_145 := hY_145
        refine lv_iload hx hb dX2_tryDay_148 (lv_at hl 0 rfl) ?_
        have kj_150 : ∀ (w_2 : Int32) (ls : Array Slot), w_2 = (if r_115 = 0 then (if 0 < (coal - 1) then (coal - 1) else 0) else cd) → lv_has ls 11 [(9, .int r_115), (8, .ref ((la 5) 0)), (7, .ref ((la 4) 0)), (6, .int (if coal ≤ 0 then (cost + wc) else cost)), (5, .int (if 0 < (coal - 1) then (coal - 1) else 0)), (0, .ref (sa 0)), (1, .int 4), (2, .int coal), (3, .int cost), (4, .int set)] → W jp l je R js jm args below meth jc H locs 0 0 Q (F0 jm 162 ls [.int w_2]) := by
          intro w_2 ls e_w_2 hl
          subst e_w_2
          refine lv_istore (lv' := [(10, .int (if r_115 = 0 then (if 0 < (coal - 1) then (coal - 1) else 0) else cd)), (9, .int r_115), (8, .ref ((la 5) 0)), (7, .ref ((la 4) 0)), (6, .int (if coal ≤ 0 then (cost + wc) else cost)), (5, .int (if 0 < (coal - 1) then (coal - 1) else 0)), (0, .ref (sa 0)), (1, .int 4), (2, .int coal), (3, .int cost), (4, .int set)]) hx hb dX2_tryDay_162 hl (by decide) rfl (fun ls hl => ?_)
          refine lv_aload_n hx hb dX2_tryDay_164 rfl (lv_at hl 6 rfl) ?_
          refine lv_iload_n hx hb dX2_tryDay_165 rfl (lv_at hl 7 rfl) ?_
          refine lv_iconst (v := 1) hx hb dX2_tryDay_166 (by decide) ?_
          refine r_addN hx hb 4 1 dX2_tryDay_167 ?_
          refine lv_iload hx hb dX2_tryDay_168 (lv_at hl 0 rfl) ?_
          refine lv_iload hx hb dX2_tryDay_170 (lv_at hl 4 rfl) ?_
          refine lv_aload_n hx hb dX2_tryDay_172 rfl (lv_at hl 6 rfl) ?_
          refine r_get (T := TX2) (v := .int dc) hx hb hts hi2 hown hK hw 10 rfl rfl 12 (by decide) f_15 rfl dX2_tryDay_173 ?_
          refine lv_iadd hx hb dX2_tryDay_176 ?_
          refine lv_iload hx hb dX2_tryDay_177 (lv_at hl 10 rfl) ?_
          refine lv_iconst (v := 1) hx hb dX2_tryDay_179 (by decide) ?_
          refine lv_iload_n hx hb dX2_tryDay_180 rfl (lv_at hl 7 rfl) ?_
          refine lv_ishl hx hb dX2_tryDay_181 ?_
          refine lv_ior hx hb dX2_tryDay_182 ?_
          have hw := hw.m6
          have hw := hw.m6
          have hw := hw.m6
          have hw := hw.m3
          have hw := hw.m5
          have hw := hw.m6
          refine c_vv (As := [.int 5, .int (if r_115 = 0 then (if 0 < (coal - 1) then (coal - 1) else 0) else cd), .int ((if coal ≤ 0 then (cost + wc) else cost) + dc), .int (set ||| ((1 : Int32) <<< ((4 : Int32) &&& 31)))]) (rest := []) ⟨hx, hb, hml, hown, hts⟩ (k_X2_tryDay_5 l D c4 A ((yG c4 (la 4) (nI n) os kd ic br) :: Ts) sa tr la lc2_94 lS2_94 t f x c th pe cd dc wc dp lv (nI b2_115) (cumQ f x q b2_115) (fbQ q b2_115) ba2_115 n os2_145 kd2_145 ic2_145 br2_145 (fun y => nightQ c ((mixQ openQ q b2_115) y)) gn2_94 go2_94 gk2_94 gi2_94 gb2_94 (if r_115 = 0 then (if 0 < (coal - 1) then (coal - 1) else 0) else cd) ((if coal ≤ 0 then (cost + wc) else cost) + dc) (set ||| ((1 : Int32) <<< ((4 : Int32) &&& 31))) hdp hn hY_145 hf hc hlv) (cwV 4 hts gX2_tryDay_X2_tryDay rfl rfl rfl (by decide +kernel) (rmv (Nat.le_of_ble_eq_true rfl) (Nat.le_of_ble_eq_true rfl) hRf hRl)) hK trivial hw rfl rfl rfl hl rfl (Nat.le_of_ble_eq_true rfl) ⟨Nat.zero_le _, Nat.zero_le _⟩ dX2_tryDay_183 (fun u_183 H locs hpq hw => ?_)
          obtain ⟨lc2_183, lS2_183, bh2_183, mi2_183, fb2_183, ba2_183, gn2_183, go2_183, gk2_183, gi2_183, gb2_183⟩ := u_183
          have hw : gW D A js.heap ((sG c4 sa (tr 0) lc2_183 lS2_183 (nI dp) t f x c th pe cd dc wc lv) :: (tG c4 tr bh2_183 mi2_183 fb2_183 ba2_183) :: (yG c4 (la 5) (nI n) os2_145 kd2_145 ic2_145 br2_145) :: (yG c4 (la 6) (gn2_183 6) (go2_183 6) (gk2_183 6) (gi2_183 6) (gb2_183 6)) :: (yG c4 (la 7) (gn2_183 7) (go2_183 7) (gk2_183 7) (gi2_183 7) (gb2_183 7)) :: (yG c4 (la 8) (gn2_183 8) (go2_183 8) (gk2_183 8) (gi2_183 8) (gb2_183 8)) :: (yG c4 (la 4) (nI n) os kd ic br) :: Ts) H locs := hw
          have hS_183 := hpq
          have hS_183 : (lc2_183, lS2_183) = srch n f x t c cd dc wc (dp - 5) 5 (fun y => nightQ c ((mixQ openQ q b2_115) y)) (if r_115 = 0 then (if 0 < (coal - 1) then (coal - 1) else 0) else cd) ((if coal ≤ 0 then (cost + wc) else cost) + dc) (set ||| ((1 : Int32) <<< ((4 : Int32) &&& 31))) (lc2_94, lS2_94) := hS_183
          have hw := hw.m5
          have hw := hw.m5
          have hw := hw.m5
          have hw := hw.m5
          have hw := hw.m6
          have hw := hw.m6
          have hw := hw.m6
          exact kr (lc2_183, lS2_183, bh2_183, mi2_183, fb2_183, ba2_183, upd gn2_183 5 (nI n), upd go2_183 5 os2_145, va_up gk2_183 5 kd2_145, va_up gi2_183 5 ic2_145, va_up gb2_183 5 br2_145) _ _ _ _ hw (sr_node (d := 4) c_14 c_5 hS_94 hb2_115 h0_115 h1_115 hS_183) dX2_tryDay_186
        refine lv_if_eq (tgt := 160) hx hb dX2_tryDay_150 (by decide) (fun c_150 => ?_) (fun c_150 => ?_)
        · refine lv_iload hx hb dX2_tryDay_160 (lv_at hl 4 rfl) ?_
          exact kj_150 _ ls (by first | rfl | (rw [if_pos c_150]; done) | (simp only [if_pos c_150]; done) | simp [c_150]) (lv_sub hl [0, 1, 2, 3, 4, 5, 6, 7, 8, 9] rfl)
        · refine lv_aload_n hx hb dX2_tryDay_153 rfl (lv_at hl 5 rfl) ?_
          refine r_get (T := TX2) (v := .int cd) hx hb hts hi2 hown hK hw 10 rfl rfl 11 (by decide) f_14 rfl dX2_tryDay_154 ?_
          refine lv_goto (tgt := 162) hx hb dX2_tryDay_157 (by decide) ?_
          exact kj_150 _ ls (by first | rfl | (rw [if_neg c_150]; done) | (simp only [if_neg c_150]; done) | simp [c_150]) (lv_sub hl [0, 1, 2, 3, 4, 5, 6, 7, 8, 9] rfl)
      refine lv_if_le (tgt := 42) hx hb dX2_tryDay_35 (by decide) (fun c_35 => ?_) (fun c_35 => ?_)
      · refine lv_iload_n hx hb dX2_tryDay_42 rfl (lv_at hl 4 rfl) ?_
        refine lv_aload_n hx hb dX2_tryDay_43 rfl (lv_at hl 1 rfl) ?_
        refine r_get (T := TX2) (v := .int wc) hx hb hts hi2 hown hK hw 0 rfl rfl 13 (by decide) f_6 rfl dX2_tryDay_44 ?_
        refine lv_iadd hx hb dX2_tryDay_47 ?_
        exact kj_35 _ ls (by first | rfl | (rw [if_pos c_35]; done) | (simp only [if_pos c_35]; done) | simp [c_35]) (lv_sub hl [0, 1, 2, 3, 4, 5] rfl)
      · refine lv_iload_n hx hb dX2_tryDay_38 rfl (lv_at hl 4 rfl) ?_
        refine lv_goto (tgt := 48) hx hb dX2_tryDay_39 (by decide) ?_
        exact kj_35 _ ls (by first | rfl | (rw [if_neg c_35]; done) | (simp only [if_neg c_35]; done) | simp [c_35]) (lv_sub hl [0, 1, 2, 3, 4, 5] rfl)
    · refine lv_aload_n hx hb dX2_tryDay_17 rfl (lv_at hl 0 rfl) ?_
      refine lv_iload_n hx hb dX2_tryDay_18 rfl (lv_at hl 3 rfl) ?_
      refine lv_iload hx hb dX2_tryDay_19 (lv_at hl 4 rfl) ?_
      refine c_vv (As := [.int cost, .int set]) (rest := []) ⟨hx, hb, hml, hown, hts⟩ (k_X2_takeIfBetter l D c4 A ((tG c4 tr bh mi fb ba) :: (yG c4 (la 4) (nI n) os kd ic br) :: (yG c4 (la 5) (gn 5) (go 5) (gk 5) (gi 5) (gb 5)) :: (yG c4 (la 6) (gn 6) (go 6) (gk 6) (gi 6) (gb 6)) :: (yG c4 (la 7) (gn 7) (go 7) (gk 7) (gi 7) (gb 7)) :: (yG c4 (la 8) (gn 8) (go 8) (gk 8) (gi 8) (gb 8)) :: Ts) sa tr lc lS t f x c th pe cd dc wc dp lv cost set) (cwV 2 hts gX2_tryDay_X2_takeIfBetter rfl rfl rfl (by decide +kernel) (rmv (Nat.le_of_ble_eq_true rfl) (Nat.le_of_ble_eq_true rfl) hRf hRl)) hK trivial hw rfl rfl rfl hl rfl (Nat.le_of_ble_eq_true rfl) ⟨Nat.zero_le _, Nat.zero_le _⟩ dX2_tryDay_21 (fun u_21 H locs hpq hw => ?_)
      obtain ⟨lc2_21, lS2_21⟩ := u_21
      have hw : gW D A js.heap ((sG c4 sa (tr 0) lc2_21 lS2_21 (nI dp) t f x c th pe cd dc wc lv) :: (tG c4 tr bh mi fb ba) :: (yG c4 (la 4) (nI n) os kd ic br) :: (yG c4 (la 5) (gn 5) (go 5) (gk 5) (gi 5) (gb 5)) :: (yG c4 (la 6) (gn 6) (go 6) (gk 6) (gi 6) (gb 6)) :: (yG c4 (la 7) (gn 7) (go 7) (gk 7) (gi 7) (gb 7)) :: (yG c4 (la 8) (gn 8) (go 8) (gk 8) (gi 8) (gb 8)) :: Ts) H locs := hw
      have hB_21 := hpq
      have hB_21 : (lc2_21, lS2_21) = betP cost set (lc, lS) := hB_21
      exact kr (lc2_21, lS2_21, bh, mi, fb, ba, gn, go, gk, gi, gb) _ _ _ _ hw (sr_leaf c_14 c_5 hB_21) dX2_tryDay_24
  · exact kr (lc, lS, bh, mi, fb, ba, gn, go, gk, gi, gb) _ _ _ _ hw (sr_out (b := (lc, lS)) c_5) dX2_tryDay_8
set_option maxHeartbeats 4000000 in
set_option maxRecDepth 100000 in
theorem k_X2_tryDay_3 (l : Launch) (D : va_G) (c4 : Nat → ClassId) (A : Nat → Prop) (Ts : List va_W) (sa : Nat → Nat) (tr : Nat → Nat) (la : Nat → Nat → Nat) (lc : Int32) (lS : Int32) (t : Int32) (f : Int32) (x : Int32) (c : Int32) (th : Int32) (pe : Int32) (cd : Int32) (dc : Int32) (wc : Int32) (dp : Nat) (lv : Nat → Option Nat) (bh : Int32) (mi : Int32) (fb : Int32) (ba : Nat → Int32) (n : Nat) (os : Int32) (kd : Nat → Int32) (ic : Nat → Int32) (br : Nat → Int32) (q : Nat → Yq) (gn : Nat → Int32) (go : Nat → Int32) (gk : Nat → Nat → Int32) (gi : Nat → Nat → Int32) (gb : Nat → Nat → Int32) (coal : Int32) (cost : Int32) (set : Int32) (hdp : dp ≤ 8) (hn : n ≤ 12) (hY : yR q n os kd ic br) (hf : fOk f x) (hc : 0 ≤ c.toInt ∧ c.toInt ≤ 30) (hlv : ∀ k, k < 9 → lv k = some (la k 0)) : Cv l yX2_tryDay wsX2_tryDay 7 194 [.ref (sa 0), .int 3, .int coal, .int cost, .int set] D (tyA c4) A none ((sG c4 sa (tr 0) lc lS (nI dp) t f x c th pe cd dc wc lv) :: (tG c4 tr bh mi fb ba) :: (yG c4 (la 3) (nI n) os kd ic br) :: (yG c4 (la 4) (gn 4) (go 4) (gk 4) (gi 4) (gb 4)) :: (yG c4 (la 5) (gn 5) (go 5) (gk 5) (gi 5) (gb 5)) :: (yG c4 (la 6) (gn 6) (go 6) (gk 6) (gi 6) (gb 6)) :: (yG c4 (la 7) (gn 7) (go 7) (gk 7) (gi 7) (gb 7)) :: (yG c4 (la 8) (gn 8) (go 8) (gk 8) (gi 8) (gb 8)) :: Ts) (S := Int32 × Int32 × Int32 × Int32 × Int32 × (Nat → Int32) × (Nat → Int32) × (Nat → Int32) × (Nat → Nat → Int32) × (Nat → Nat → Int32) × (Nat → Nat → Int32)) (fun (u : Int32 × Int32 × Int32 × Int32 × Int32 × (Nat → Int32) × (Nat → Int32) × (Nat → Int32) × (Nat → Nat → Int32) × (Nat → Nat → Int32) × (Nat → Nat → Int32)) => (u.1, u.2.1) = srch n f x t c cd dc wc (dp - 3) 3 q coal cost set (lc, lS)) (fun u => ((sG c4 sa (tr 0) u.1 u.2.1 (nI dp) t f x c th pe cd dc wc lv) :: (tG c4 tr u.2.2.1 u.2.2.2.1 u.2.2.2.2.1 u.2.2.2.2.2.1) :: (yG c4 (la 3) (nI n) os kd ic br) :: (yG c4 (la 4) (u.2.2.2.2.2.2.1 4) (u.2.2.2.2.2.2.2.1 4) (u.2.2.2.2.2.2.2.2.1 4) (u.2.2.2.2.2.2.2.2.2.1 4) (u.2.2.2.2.2.2.2.2.2.2 4)) :: (yG c4 (la 5) (u.2.2.2.2.2.2.1 5) (u.2.2.2.2.2.2.2.1 5) (u.2.2.2.2.2.2.2.2.1 5) (u.2.2.2.2.2.2.2.2.2.1 5) (u.2.2.2.2.2.2.2.2.2.2 5)) :: (yG c4 (la 6) (u.2.2.2.2.2.2.1 6) (u.2.2.2.2.2.2.2.1 6) (u.2.2.2.2.2.2.2.2.1 6) (u.2.2.2.2.2.2.2.2.2.1 6) (u.2.2.2.2.2.2.2.2.2.2 6)) :: (yG c4 (la 7) (u.2.2.2.2.2.2.1 7) (u.2.2.2.2.2.2.2.1 7) (u.2.2.2.2.2.2.2.2.1 7) (u.2.2.2.2.2.2.2.2.2.1 7) (u.2.2.2.2.2.2.2.2.2.2 7)) :: (yG c4 (la 8) (u.2.2.2.2.2.2.1 8) (u.2.2.2.2.2.2.2.1 8) (u.2.2.2.2.2.2.2.2.1 8) (u.2.2.2.2.2.2.2.2.2.1 8) (u.2.2.2.2.2.2.2.2.2.2 8)) :: Ts)) := by
  refine cOv (cc := cX2_tryDay) (maxL := 11) (by decide) rfl (Nat.le_of_ble_eq_true rfl) rfl ?_
  rintro jp je js jm below meth jc ls args R Q H locs hRf hRl ⟨hx, hb, hml, hr, hts, hown, hlocks, hK, hX⟩ hw hl kr
  have hown : js.vm.findClass RX2 = some jm.cls := hown
  have f_0 := hts (.fieldLink RX2 86 "IceSway$Search" "leastCost" "I") (by decide +kernel)
  have f_1 := hts (.fieldLink RX2 41 "IceSway$Search" "depth" "I") (by decide +kernel)
  have f_2 := hts (.methodLink RX2 100 Lib.Math.max.name) (by decide +kernel)
  have f_3 := hts (.static Lib.Math.max.name) (by decide +kernel)
  have f_4 := hts (.initialized "java/lang/Math") (by decide +kernel)
  have f_5 := hts (.code Lib.Math.max.name Lib.Math.max.code 2 (some .int)) (by decide +kernel)
  have f_6 := hts (.fieldLink RX2 83 "IceSway$Search" "wantCost" "I") (by decide +kernel)
  have f_7 := hts (.fieldLink RX2 20 "IceSway$Search" "levels" "[LIceSway$Yards;") (by decide +kernel)
  have f_8 := hts (.fieldLink RX2 67 "IceSway$Search" "cold" "I") (by decide +kernel)
  have f_9 := hts (.fieldLink RX2 12 "IceSway$Search" "trip" "LIceSway$Trip;") (by decide +kernel)
  have f_10 := hts (.fieldLink RX2 57 "IceSway$Search" "force" "I") (by decide +kernel)
  have f_11 := hts (.fieldLink RX2 64 "IceSway$Search" "axe" "I") (by decide +kernel)
  have f_12 := hts (.fieldLink RX2 45 "IceSway$Search" "minutes" "I") (by decide +kernel)
  have f_13 := hts (.fieldLink RX2 111 "IceSway$Trip" "behind" "I") (by decide +kernel)
  have f_14 := hts (.fieldLink RX2 73 "IceSway$Search" "coalDays" "I") (by decide +kernel)
  have f_15 := hts (.fieldLink RX2 78 "IceSway$Search" "dayCost" "I") (by decide +kernel)
  have hi2 : ∀ w ∈ u_ws RX2 TX2 14, w ∈ wsX2_tryDay := fun w h => List.mem_cons_of_mem _ (List.mem_append_left _ (List.mem_append_left _ (List.mem_append_right _ h)))
  have hi4 : ∀ w ∈ u_ws RX4 TX4 4, w ∈ wsX2_tryDay := fun w h => List.mem_cons_of_mem _ (List.mem_append_left _ (List.mem_append_right _ h))
  refine lv_iload_n hx hb dX2_tryDay_0 rfl (lv_at hl 3 rfl) ?_
  refine lv_aload_n hx hb dX2_tryDay_1 rfl (lv_at hl 0 rfl) ?_
  refine r_get (T := TX2) (v := .int lc) hx hb hts hi2 hown hK hw 0 rfl rfl 0 (by decide) f_0 rfl dX2_tryDay_2 ?_
  refine lv_icmp_le (tgt := 9) hx hb dX2_tryDay_5 (by decide) (fun c_5 => ?_) (fun c_5 => ?_)
  · refine lv_iload_n hx hb dX2_tryDay_9 rfl (lv_at hl 1 rfl) ?_
    refine lv_aload_n hx hb dX2_tryDay_10 rfl (lv_at hl 0 rfl) ?_
    refine r_get (T := TX2) (v := .int (nI dp)) hx hb hts hi2 hown hK hw 0 rfl rfl 4 (by decide) f_1 rfl dX2_tryDay_11 ?_
    refine r_clt hx hb 3 dp (by omega) (by omega) (tgt := 25) dX2_tryDay_14 (by decide) (fun c_14 => ?_) (fun c_14 => ?_)
    · refine lv_iconst (v := 0) hx hb dX2_tryDay_25 (by decide) ?_
      refine lv_iload_n hx hb dX2_tryDay_26 rfl (lv_at hl 2 rfl) ?_
      refine lv_iconst (v := 1) hx hb dX2_tryDay_27 (by decide) ?_
      refine lv_isub hx hb dX2_tryDay_28 ?_
      refine va_mmax hx hb (hml.trans hl.1.symm) hown f_2 f_3 f_4 f_5 (by rw [hRf]; exact Nat.le_of_ble_eq_true rfl) (by rw [hRl]; exact Nat.le_of_ble_eq_true rfl) (Nat.zero_le _) (Nat.zero_le _) dX2_tryDay_29 ?_
      refine lv_istore (lv' := [(5, .int (if 0 < (coal - 1) then (coal - 1) else 0)), (0, .ref (sa 0)), (1, .int 3), (2, .int coal), (3, .int cost), (4, .int set)]) hx hb dX2_tryDay_32 hl (by decide) rfl (fun ls hl => ?_)
      refine lv_iload_n hx hb dX2_tryDay_34 rfl (lv_at hl 3 rfl) ?_
      have kj_35 : ∀ (w_1 : Int32) (ls : Array Slot), w_1 = (if coal ≤ 0 then (cost + wc) else cost) → lv_has ls 11 [(5, .int (if 0 < (coal - 1) then (coal - 1) else 0)), (0, .ref (sa 0)), (1, .int 3), (2, .int coal), (3, .int cost), (4, .int set)] → W jp l je R js jm args below meth jc H locs 0 0 Q (F0 jm 48 ls [.int w_1]) := by
        intro w_1 ls e_w_1 hl
        subst e_w_1
        refine lv_istore (lv' := [(6, .int (if coal ≤ 0 then (cost + wc) else cost)), (5, .int (if 0 < (coal - 1) then (coal - 1) else 0)), (0, .ref (sa 0)), (1, .int 3), (2, .int coal), (3, .int cost), (4, .int set)]) hx hb dX2_tryDay_48 hl (by decide) rfl (fun ls hl => ?_)
        refine lv_aload_n hx hb dX2_tryDay_50 rfl (lv_at hl 2 rfl) ?_
        refine r_get (T := TX2) (v := .ref (sa 1)) hx hb hts hi2 hown hK hw 0 rfl rfl 3 (by decide) f_7 rfl dX2_tryDay_51 ?_
        refine lv_iload_n hx hb dX2_tryDay_54 rfl (lv_at hl 3 rfl) ?_
        refine r_aald hx hb hK hw 1 3 rfl rfl 3 (by decide) (by decide) (b := ((la 3) 0)) (hlv 3 (by decide)) dX2_tryDay_55 ?_
        refine lv_astore (lv' := [(7, .ref ((la 3) 0)), (6, .int (if coal ≤ 0 then (cost + wc) else cost)), (5, .int (if 0 < (coal - 1) then (coal - 1) else 0)), (0, .ref (sa 0)), (1, .int 3), (2, .int coal), (3, .int cost), (4, .int set)]) hx hb dX2_tryDay_56 hl (by decide) rfl (fun ls hl => ?_)
        refine lv_aload_n hx hb dX2_tryDay_58 rfl (lv_at hl 3 rfl) ?_
        refine r_get (T := TX2) (v := .ref (sa 1)) hx hb hts hi2 hown hK hw 0 rfl rfl 3 (by decide) f_7 rfl dX2_tryDay_59 ?_
        refine lv_iload_n hx hb dX2_tryDay_62 rfl (lv_at hl 4 rfl) ?_
        refine lv_iconst (v := 1) hx hb dX2_tryDay_63 (by decide) ?_
        refine r_addN hx hb 3 1 dX2_tryDay_64 ?_
        refine r_aald hx hb hK hw 1 3 rfl rfl 4 (by decide) (by decide) (b := ((la 4) 0)) (hlv 4 (by decide)) dX2_tryDay_65 ?_
        refine lv_astore (lv' := [(8, .ref ((la 4) 0)), (7, .ref ((la 3) 0)), (6, .int (if coal ≤ 0 then (cost + wc) else cost)), (5, .int (if 0 < (coal - 1) then (coal - 1) else 0)), (0, .ref (sa 0)), (1, .int 3), (2, .int coal), (3, .int cost), (4, .int set)]) hx hb dX2_tryDay_66 hl (by decide) rfl (fun ls hl => ?_)
        refine lv_aload hx hb dX2_tryDay_68 (lv_at hl 0 rfl) ?_
        refine lv_aload hx hb dX2_tryDay_70 (lv_at hl 1 rfl) ?_
        have hw := hw.m2
        have hw := hw.m3
        refine c_vv (As := [.ref ((la 3) 0)]) (rest := []) ⟨hx, hb, hml, hown, hts⟩ (k_X6_copyFrom l D c4 A ((sG c4 sa (tr 0) lc lS (nI dp) t f x c th pe cd dc wc lv) :: (tG c4 tr bh mi fb ba) :: (yG c4 (la 5) (gn 5) (go 5) (gk 5) (gi 5) (gb 5)) :: (yG c4 (la 6) (gn 6) (go 6) (gk 6) (gi 6) (gb 6)) :: (yG c4 (la 7) (gn 7) (go 7) (gk 7) (gi 7) (gb 7)) :: (yG c4 (la 8) (gn 8) (go 8) (gk 8) (gi 8) (gb 8)) :: Ts) (la 4) (gn 4) (go 4) (gk 4) (gi 4) (gb 4) (la 3) n os kd ic br q hn hY) (cwV 1 hts gX2_tryDay_X6_copyFrom rfl rfl rfl (by decide +kernel) (rmv (Nat.le_of_ble_eq_true rfl) (Nat.le_of_ble_eq_true rfl) hRf hRl)) hK trivial hw rfl rfl rfl hl rfl (Nat.le_of_ble_eq_true rfl) ⟨Nat.zero_le _, Nat.zero_le _⟩ dX2_tryDay_72 (fun u_72 H locs hpq hw => ?_)
        obtain ⟨kd2_72, ic2_72, br2_72⟩ := u_72
        have hw : gW D A js.heap ((yG c4 (la 4) (nI n) os kd2_72 ic2_72 br2_72) :: (yG c4 (la 3) (nI n) os kd ic br) :: (sG c4 sa (tr 0) lc lS (nI dp) t f x c th pe cd dc wc lv) :: (tG c4 tr bh mi fb ba) :: (yG c4 (la 5) (gn 5) (go 5) (gk 5) (gi 5) (gb 5)) :: (yG c4 (la 6) (gn 6) (go 6) (gk 6) (gi 6) (gb 6)) :: (yG c4 (la 7) (gn 7) (go 7) (gk 7) (gi 7) (gb 7)) :: (yG c4 (la 8) (gn 8) (go 8) (gk 8) (gi 8) (gb 8)) :: Ts) H locs := hw
        have hY_72 := hpq
        have hY_72 : yR q n os kd2_72 ic2_72 br2_72 := hY_72
        refine lv_aload hx hb dX2_tryDay_75 (lv_at hl 0 rfl) ?_
        refine lv_aload_n hx hb dX2_tryDay_77 rfl (lv_at hl 4 rfl) ?_
        refine r_get (T := TX2) (v := .int c) hx hb hts hi2 hown hK hw 8 rfl rfl 8 (by decide) f_8 rfl dX2_tryDay_78 ?_
        refine c_vv (As := [.int c]) (rest := []) ⟨hx, hb, hml, hown, hts⟩ (k_X6_freeze l D c4 A ((yG c4 (la 3) (nI n) os kd ic br) :: (sG c4 sa (tr 0) lc lS (nI dp) t f x c th pe cd dc wc lv) :: (tG c4 tr bh mi fb ba) :: (yG c4 (la 5) (gn 5) (go 5) (gk 5) (gi 5) (gb 5)) :: (yG c4 (la 6) (gn 6) (go 6) (gk 6) (gi 6) (gb 6)) :: (yG c4 (la 7) (gn 7) (go 7) (gk 7) (gi 7) (gb 7)) :: (yG c4 (la 8) (gn 8) (go 8) (gk 8) (gi 8) (gb 8)) :: Ts) (la 4) n os kd2_72 ic2_72 br2_72 q c hn hY_72 hc) (cwV 1 hts gX2_tryDay_X6_freeze rfl rfl rfl (by decide +kernel) (rmv (Nat.le_of_ble_eq_true rfl) (Nat.le_of_ble_eq_true rfl) hRf hRl)) hK trivial hw rfl rfl rfl hl rfl (Nat.le_of_ble_eq_true rfl) ⟨Nat.zero_le _, Nat.zero_le _⟩ dX2_tryDay_81 (fun u_81 H locs hpq hw => ?_)
        obtain ⟨os2_81, kd2_81, ic2_81, br2_81⟩ := u_81
        have hw : gW D A js.heap ((yG c4 (la 4) (nI n) os2_81 kd2_81 ic2_81 br2_81) :: (yG c4 (la 3) (nI n) os kd ic br) :: (sG c4 sa (tr 0) lc lS (nI dp) t f x c th pe cd dc wc lv) :: (tG c4 tr bh mi fb ba) :: (yG c4 (la 5) (gn 5) (go 5) (gk 5) (gi 5) (gb 5)) :: (yG c4 (la 6) (gn 6) (go 6) (gk 6) (gi 6) (gb 6)) :: (yG c4 (la 7) (gn 7) (go 7) (gk 7) (gi 7) (gb 7)) :: (yG c4 (la 8) (gn 8) (go 8) (gk 8) (gi 8) (gb 8)) :: Ts) H locs := hw
        have hY_81 := hpq
        have hY_81 : yR (fun y => nightQ c (q y)) n os2_81 kd2_81 ic2_81 br2_81 := hY_81
        refine lv_aload_n hx hb dX2_tryDay_84 rfl (lv_at hl 4 rfl) ?_
        refine lv_iload_n hx hb dX2_tryDay_85 rfl (lv_at hl 5 rfl) ?_
        refine lv_iconst (v := 1) hx hb dX2_tryDay_86 (by decide) ?_
        refine r_addN hx hb 3 1 dX2_tryDay_87 ?_
        refine lv_iload hx hb dX2_tryDay_88 (lv_at hl 3 rfl) ?_
        refine lv_iload hx hb dX2_tryDay_90 (lv_at hl 2 rfl) ?_
        refine lv_iload hx hb dX2_tryDay_92 (lv_at hl 8 rfl) ?_
        have hw := hw.m7
        have hw := hw.m7
        have hw := hw.m7
        have hw := hw.m7
        have hw := hw.m4
        have hw := hw.m7
        have hw := hw.m7
        refine c_vv (As := [.int 4, .int (if 0 < (coal - 1) then (coal - 1) else 0), .int (if coal ≤ 0 then (cost + wc) else cost), .int set]) (rest := []) ⟨hx, hb, hml, hown, hts⟩ (k_X2_tryDay_4 l D c4 A ((yG c4 (la 3) (nI n) os kd ic br) :: Ts) sa tr la lc lS t f x c th pe cd dc wc dp lv bh mi fb ba n os2_81 kd2_81 ic2_81 br2_81 (fun y => nightQ c (q y)) gn go gk gi gb (if 0 < (coal - 1) then (coal - 1) else 0) (if coal ≤ 0 then (cost + wc) else cost) set hdp hn hY_81 hf hc hlv) (cwV 4 hts gX2_tryDay_X2_tryDay rfl rfl rfl (by decide +kernel) (rmv (Nat.le_of_ble_eq_true rfl) (Nat.le_of_ble_eq_true rfl) hRf hRl)) hK trivial hw rfl rfl rfl hl rfl (Nat.le_of_ble_eq_true rfl) ⟨Nat.zero_le _, Nat.zero_le _⟩ dX2_tryDay_94 (fun u_94 H locs hpq hw => ?_)
        obtain ⟨lc2_94, lS2_94, bh2_94, mi2_94, fb2_94, ba2_94, gn2_94, go2_94, gk2_94, gi2_94, gb2_94⟩ := u_94
        have hw : gW D A js.heap ((sG c4 sa (tr 0) lc2_94 lS2_94 (nI dp) t f x c th pe cd dc wc lv) :: (tG c4 tr bh2_94 mi2_94 fb2_94 ba2_94) :: (yG c4 (la 4) (nI n) os2_81 kd2_81 ic2_81 br2_81) :: (yG c4 (la 5) (gn2_94 5) (go2_94 5) (gk2_94 5) (gi2_94 5) (gb2_94 5)) :: (yG c4 (la 6) (gn2_94 6) (go2_94 6) (gk2_94 6) (gi2_94 6) (gb2_94 6)) :: (yG c4 (la 7) (gn2_94 7) (go2_94 7) (gk2_94 7) (gi2_94 7) (gb2_94 7)) :: (yG c4 (la 8) (gn2_94 8) (go2_94 8) (gk2_94 8) (gi2_94 8) (gb2_94 8)) :: (yG c4 (la 3) (nI n) os kd ic br) :: Ts) H locs := hw
        have hS_94 := hpq
        have hS_94 : (lc2_94, lS2_94) = srch n f x t c cd dc wc (dp - 4) 4 (fun y => nightQ c (q y)) (if 0 < (coal - 1) then (coal - 1) else 0) (if coal ≤ 0 then (cost + wc) else cost) set (lc, lS) := hS_94
        refine lv_aload_n hx hb dX2_tryDay_97 rfl (lv_at hl 4 rfl) ?_
        refine r_get (T := TX2) (v := .ref (tr 0)) hx hb hts hi2 hown hK hw 0 rfl rfl 2 (by decide) f_9 rfl dX2_tryDay_98 ?_
        refine lv_aload hx hb dX2_tryDay_101 (lv_at hl 1 rfl) ?_
        refine lv_aload_n hx hb dX2_tryDay_103 rfl (lv_at hl 4 rfl) ?_
        refine r_get (T := TX2) (v := .int f) hx hb hts hi2 hown hK hw 0 rfl rfl 6 (by decide) f_10 rfl dX2_tryDay_104 ?_
        refine lv_aload_n hx hb dX2_tryDay_107 rfl (lv_at hl 4 rfl) ?_
        refine r_get (T := TX2) (v := .int x) hx hb hts hi2 hown hK hw 0 rfl rfl 7 (by decide) f_11 rfl dX2_tryDay_108 ?_
        refine lv_aload_n hx hb dX2_tryDay_111 rfl (lv_at hl 4 rfl) ?_
        refine r_get (T := TX2) (v := .int t) hx hb hts hi2 hown hK hw 0 rfl rfl 5 (by decide) f_12 rfl dX2_tryDay_112 ?_
        have hw := hw.m7
        have hw := hw.m2
        refine c_vi (As := [.ref ((la 3) 0), .int f, .int x, .int t]) (rest := []) ⟨hx, hb, hml, hown, hts⟩ (k_X4_passes l D c4 A ((sG c4 sa (tr 0) lc2_94 lS2_94 (nI dp) t f x c th pe cd dc wc lv) :: (yG c4 (la 4) (nI n) os2_81 kd2_81 ic2_81 br2_81) :: (yG c4 (la 5) (gn2_94 5) (go2_94 5) (gk2_94 5) (gi2_94 5) (gb2_94 5)) :: (yG c4 (la 6) (gn2_94 6) (go2_94 6) (gk2_94 6) (gi2_94 6) (gb2_94 6)) :: (yG c4 (la 7) (gn2_94 7) (go2_94 7) (gk2_94 7) (gi2_94 7) (gb2_94 7)) :: (yG c4 (la 8) (gn2_94 8) (go2_94 8) (gk2_94 8) (gi2_94 8) (gb2_94 8)) :: Ts) tr bh2_94 mi2_94 fb2_94 ba2_94 (la 3) n os kd ic br q f x t hn hY hf) (cwV 4 hts gX2_tryDay_X4_passes rfl rfl rfl (by decide +kernel) (rmv (Nat.le_of_ble_eq_true rfl) (Nat.le_of_ble_eq_true rfl) hRf hRl)) hK trivial hw rfl rfl rfl hl rfl (Nat.le_of_ble_eq_true rfl) ⟨Nat.zero_le _, Nat.zero_le _⟩ dX2_tryDay_115 (fun r_115 u_115 H locs hpq hw => ?_)
        obtain ⟨b2_115, ba2_115⟩ := u_115
        have hw : gW D A js.heap ((tG c4 tr (nI b2_115) (cumQ f x q b2_115) (fbQ q b2_115) ba2_115) :: (yG c4 (la 3) (nI n) os kd ic br) :: (sG c4 sa (tr 0) lc2_94 lS2_94 (nI dp) t f x c th pe cd dc wc lv) :: (yG c4 (la 4) (nI n) os2_81 kd2_81 ic2_81 br2_81) :: (yG c4 (la 5) (gn2_94 5) (go2_94 5) (gk2_94 5) (gi2_94 5) (gb2_94 5)) :: (yG c4 (la 6) (gn2_94 6) (go2_94 6) (gk2_94 6) (gi2_94 6) (gb2_94 6)) :: (yG c4 (la 7) (gn2_94 7) (go2_94 7) (gk2_94 7) (gi2_94 7) (gb2_94 7)) :: (yG c4 (la 8) (gn2_94 8) (go2_94 8) (gk2_94 8) (gi2_94 8) (gb2_94 8)) :: Ts) H locs := hw
        obtain ⟨h0_115, h1_115, hb2_115, hba_115⟩ := hpq
        have h0_115 : r_115 = 0 → ¬ b2_115 = n := h0_115
        have h1_115 : ¬ r_115 = 0 → b2_115 = n := h1_115
        have hb2_115 : b2_115 = bhQ f x t q n := hb2_115
        have hba_115 : ∀ k, k < b2_115 → ba2_115 k = cumQ f x q (k + 1) := hba_115
        refine lv_istore (lv' := [(9, .int r_115), (8, .ref ((la 4) 0)), (7, .ref ((la 3) 0)), (6, .int (if coal ≤ 0 then (cost + wc) else cost)), (5, .int (if 0 < (coal - 1) then (coal - 1) else 0)), (0, .ref (sa 0)), (1, .int 3), (2, .int coal), (3, .int cost), (4, .int set)]) hx hb dX2_tryDay_118 hl (by decide) rfl (fun ls hl => ?_)
        refine lv_aload hx hb dX2_tryDay_120 (lv_at hl 1 rfl) ?_
        refine lv_aload hx hb dX2_tryDay_122 (lv_at hl 2 rfl) ?_
        have hw := hw.m1
        have hw := hw.m3
        refine c_vv (As := [.ref ((la 3) 0)]) (rest := []) ⟨hx, hb, hml, hown, hts⟩ (k_X6_copyFrom l D c4 A ((tG c4 tr (nI b2_115) (cumQ f x q b2_115) (fbQ q b2_115) ba2_115) :: (sG c4 sa (tr 0) lc2_94 lS2_94 (nI dp) t f x c th pe cd dc wc lv) :: (yG c4 (la 5) (gn2_94 5) (go2_94 5) (gk2_94 5) (gi2_94 5) (gb2_94 5)) :: (yG c4 (la 6) (gn2_94 6) (go2_94 6) (gk2_94 6) (gi2_94 6) (gb2_94 6)) :: (yG c4 (la 7) (gn2_94 7) (go2_94 7) (gk2_94 7) (gi2_94 7) (gb2_94 7)) :: (yG c4 (la 8) (gn2_94 8) (go2_94 8) (gk2_94 8) (gi2_94 8) (gb2_94 8)) :: Ts) (la 4) (nI n) os2_81 kd2_81 ic2_81 br2_81 (la 3) n os kd ic br q hn hY) (cwV 1 hts gX2_tryDay_X6_copyFrom rfl rfl rfl (by decide +kernel) (rmv (Nat.le_of_ble_eq_true rfl) (Nat.le_of_ble_eq_true rfl) hRf hRl)) hK trivial hw rfl rfl rfl hl rfl (Nat.le_of_ble_eq_true rfl) ⟨Nat.zero_le _, Nat.zero_le _⟩ dX2_tryDay_124 (fun u_124 H locs hpq hw => ?_)
        obtain ⟨kd2_124, ic2_124, br2_124⟩ := u_124
        have hw : gW D A js.heap ((yG c4 (la 4) (nI n) os kd2_124 ic2_124 br2_124) :: (yG c4 (la 3) (nI n) os kd ic br) :: (tG c4 tr (nI b2_115) (cumQ f x q b2_115) (fbQ q b2_115) ba2_115) :: (sG c4 sa (tr 0) lc2_94 lS2_94 (nI dp) t f x c th pe cd dc wc lv) :: (yG c4 (la 5) (gn2_94 5) (go2_94 5) (gk2_94 5) (gi2_94 5) (gb2_94 5)) :: (yG c4 (la 6) (gn2_94 6) (go2_94 6) (gk2_94 6) (gi2_94 6) (gb2_94 6)) :: (yG c4 (la 7) (gn2_94 7) (go2_94 7) (gk2_94 7) (gi2_94 7) (gb2_94 7)) :: (yG c4 (la 8) (gn2_94 8) (go2_94 8) (gk2_94 8) (gi2_94 8) (gb2_94 8)) :: Ts) H locs := hw
        have hY_124 := hpq
        have hY_124 : yR q n os kd2_124 ic2_124 br2_124 := hY_124
        refine lv_aload hx hb dX2_tryDay_127 (lv_at hl 1 rfl) ?_
        refine lv_aload_n hx hb dX2_tryDay_129 rfl (lv_at hl 5 rfl) ?_
        refine r_get (T := TX2) (v := .ref (tr 0)) hx hb hts hi2 hown hK hw 10 rfl rfl 2 (by decide) f_9 rfl dX2_tryDay_130 ?_
        refine r_get (T := TX4) (v := .int (nI b2_115)) hx hb hts hi4 hown hK hw 8 rfl rfl 0 (by decide) f_13 rfl dX2_tryDay_133 ?_
        refine c_vv (As := [.int (nI b2_115)]) (rest := []) ⟨hx, hb, hml, hown, hts⟩ (k_X6_openFirst l D c4 A ((yG c4 (la 3) (nI n) os kd ic br) :: (tG c4 tr (nI b2_115) (cumQ f x q b2_115) (fbQ q b2_115) ba2_115) :: (sG c4 sa (tr 0) lc2_94 lS2_94 (nI dp) t f x c th pe cd dc wc lv) :: (yG c4 (la 5) (gn2_94 5) (go2_94 5) (gk2_94 5) (gi2_94 5) (gb2_94 5)) :: (yG c4 (la 6) (gn2_94 6) (go2_94 6) (gk2_94 6) (gi2_94 6) (gb2_94 6)) :: (yG c4 (la 7) (gn2_94 7) (go2_94 7) (gk2_94 7) (gi2_94 7) (gb2_94 7)) :: (yG c4 (la 8) (gn2_94 8) (go2_94 8) (gk2_94 8) (gi2_94 8) (gb2_94 8)) :: Ts) (la 4) n os kd2_124 ic2_124 br2_124 q b2_115 hn hY_124 (by rw [hb2_115]; exact bh_le _ _ _ _ _)) (cwV 1 hts gX2_tryDay_X6_openFirst rfl rfl rfl (by decide +kernel) (rmv (Nat.le_of_ble_eq_true rfl) (Nat.le_of_ble_eq_true rfl) hRf hRl)) hK trivial hw rfl rfl rfl hl rfl (Nat.le_of_ble_eq_true rfl) ⟨Nat.zero_le _, Nat.zero_le _⟩ dX2_tryDay_136 (fun u_136 H locs hpq hw => ?_)
        obtain ⟨os2_136, ic2_136, br2_136⟩ := u_136
        have hw : gW D A js.heap ((yG c4 (la 4) (nI n) os2_136 kd2_124 ic2_136 br2_136) :: (yG c4 (la 3) (nI n) os kd ic br) :: (tG c4 tr (nI b2_115) (cumQ f x q b2_115) (fbQ q b2_115) ba2_115) :: (sG c4 sa (tr 0) lc2_94 lS2_94 (nI dp) t f x c th pe cd dc wc lv) :: (yG c4 (la 5) (gn2_94 5) (go2_94 5) (gk2_94 5) (gi2_94 5) (gb2_94 5)) :: (yG c4 (la 6) (gn2_94 6) (go2_94 6) (gk2_94 6) (gi2_94 6) (gb2_94 6)) :: (yG c4 (la 7) (gn2_94 7) (go2_94 7) (gk2_94 7) (gi2_94 7) (gb2_94 7)) :: (yG c4 (la 8) (gn2_94 8) (go2_94 8) (gk2_94 8) (gi2_94 8) (gb2_94 8)) :: Ts) H locs := hw
        have hY_136 := hpq
        have hY_136 : yR (mixQ openQ q b2_115) n os2_136 kd2_124 ic2_136 br2_136 := hY_136
        refine lv_aload hx hb dX2_tryDay_139 (lv_at hl 1 rfl) ?_
        refine lv_aload_n hx hb dX2_tryDay_141 rfl (lv_at hl 5 rfl) ?_
        refine r_get (T := TX2) (v := .int c) hx hb hts hi2 hown hK hw 10 rfl rfl 8 (by decide) f_8 rfl dX2_tryDay_142 ?_
        refine c_vv (As := [.int c]) (rest := []) ⟨hx, hb, hml, hown, hts⟩ (k_X6_freeze l D c4 A ((yG c4 (la 3) (nI n) os kd ic br) :: (tG c4 tr (nI b2_115) (cumQ f x q b2_115) (fbQ q b2_115) ba2_115) :: (sG c4 sa (tr 0) lc2_94 lS2_94 (nI dp) t f x c th pe cd dc wc lv) :: (yG c4 (la 5) (gn2_94 5) (go2_94 5) (gk2_94 5) (gi2_94 5) (gb2_94 5)) :: (yG c4 (la 6) (gn2_94 6) (go2_94 6) (gk2_94 6) (gi2_94 6) (gb2_94 6)) :: (yG c4 (la 7) (gn2_94 7) (go2_94 7) (gk2_94 7) (gi2_94 7) (gb2_94 7)) :: (yG c4 (la 8) (gn2_94 8) (go2_94 8) (gk2_94 8) (gi2_94 8) (gb2_94 8)) :: Ts) (la 4) n os2_136 kd2_124 ic2_136 br2_136 (mixQ openQ q b2_115) c hn hY_136 hc) (cwV 1 hts gX2_tryDay_X6_freeze rfl rfl rfl (by decide +kernel) (rmv (Nat.le_of_ble_eq_true rfl) (Nat.le_of_ble_eq_true rfl) hRf hRl)) hK trivial hw rfl rfl rfl hl rfl (Nat.le_of_ble_eq_true rfl) ⟨Nat.zero_le _, Nat.zero_le _⟩ dX2_tryDay_145 (fun u_145 H locs hpq hw => ?_)
        obtain ⟨os2_145, kd2_145, ic2_145, br2_145⟩ := u_145
        have hw : gW D A js.heap ((yG c4 (la 4) (nI n) os2_145 kd2_145 ic2_145 br2_145) :: (yG c4 (la 3) (nI n) os kd ic br) :: (tG c4 tr (nI b2_115) (cumQ f x q b2_115) (fbQ q b2_115) ba2_115) :: (sG c4 sa (tr 0) lc2_94 lS2_94 (nI dp) t f x c th pe cd dc wc lv) :: (yG c4 (la 5) (gn2_94 5) (go2_94 5) (gk2_94 5) (gi2_94 5) (gb2_94 5)) :: (yG c4 (la 6) (gn2_94 6) (go2_94 6) (gk2_94 6) (gi2_94 6) (gb2_94 6)) :: (yG c4 (la 7) (gn2_94 7) (go2_94 7) (gk2_94 7) (gi2_94 7) (gb2_94 7)) :: (yG c4 (la 8) (gn2_94 8) (go2_94 8) (gk2_94 8) (gi2_94 8) (gb2_94 8)) :: Ts) H locs := hw
        have hY_145 := hpq
        have hY_145 : yR (fun y => nightQ c ((mixQ openQ q b2_115) y)) n os2_145 kd2_145 ic2_145 br2_145 := hY_145
        refine lv_iload hx hb dX2_tryDay_148 (lv_at hl 0 rfl) ?_
        have kj_150 : ∀ (w_2 : Int32) (ls : Array Slot), w_2 = (if r_115 = 0 then (if 0 < (coal - 1) then (coal - 1) else 0) else cd) → lv_has ls 11 [(9, .int r_115), (8, .ref ((la 4) 0)), (7, .ref ((la 3) 0)), (6, .int (if coal ≤ 0 then (cost + wc) else cost)), (5, .int (if 0 < (coal - 1) then (coal - 1) else 0)), (0, .ref (sa 0)), (1, .int 3), (2, .int coal), (3, .int cost), (4, .int set)] → W jp l je R js jm args below meth jc H locs 0 0 Q (F0 jm 162 ls [.int w_2]) := by
          intro w_2 ls e_w_2 hl
          subst e_w_2
          refine lv_istore (lv' := [(10, .int (if r_115 = 0 then (if 0 < (coal - 1) then (coal - 1) else 0) else cd)), (9, .int r_115), (8, .ref ((la 4) 0)), (7, .ref ((la 3) 0)), (6, .int (if coal ≤ 0 then (cost + wc) else cost)), (5, .int (if 0 < (coal - 1) then (coal - 1) else 0)), (0, .ref (sa 0)), (1, .int 3), (2, .int coal), (3, .int cost), (4, .int set)]) hx hb dX2_tryDay_162 hl (by decide) rfl (fun ls hl => ?_)
          refine lv_aload_n hx hb dX2_tryDay_164 rfl (lv_at hl 6 rfl) ?_
          refine lv_iload_n hx hb dX2_tryDay_165 rfl (lv_at hl 7 rfl) ?_
          refine lv_iconst (v := 1) hx hb dX2_tryDay_166 (by decide) ?_
          refine r_addN hx hb 3 1 dX2_tryDay_167 ?_
          refine lv_iload hx hb dX2_tryDay_168 (lv_at hl 0 rfl) ?_
          refine lv_iload hx hb dX2_tryDay_170 (lv_at hl 4 rfl) ?_
          refine lv_aload_n hx hb dX2_tryDay_172 rfl (lv_at hl 6 rfl) ?_
          refine r_get (T := TX2) (v := .int dc) hx hb hts hi2 hown hK hw 10 rfl rfl 12 (by decide) f_15 rfl dX2_tryDay_173 ?_
          refine lv_iadd hx hb dX2_tryDay_176 ?_
          refine lv_iload hx hb dX2_tryDay_177 (lv_at hl 10 rfl) ?_
          refine lv_iconst (v := 1) hx hb dX2_tryDay_179 (by decide) ?_
          refine lv_iload_n hx hb dX2_tryDay_180 rfl (lv_at hl 7 rfl) ?_
          refine lv_ishl hx hb dX2_tryDay_181 ?_
          refine lv_ior hx hb dX2_tryDay_182 ?_
          have hw := hw.m7
          have hw := hw.m7
          have hw := hw.m7
          have hw := hw.m7
          have hw := hw.m4
          have hw := hw.m6
          have hw := hw.m7
          refine c_vv (As := [.int 4, .int (if r_115 = 0 then (if 0 < (coal - 1) then (coal - 1) else 0) else cd), .int ((if coal ≤ 0 then (cost + wc) else cost) + dc), .int (set ||| ((1 : Int32) <<< ((3 : Int32) &&& 31)))]) (rest := []) ⟨hx, hb, hml, hown, hts⟩ (k_X2_tryDay_4 l D c4 A ((yG c4 (la 3) (nI n) os kd ic br) :: Ts) sa tr la lc2_94 lS2_94 t f x c th pe cd dc wc dp lv (nI b2_115) (cumQ f x q b2_115) (fbQ q b2_115) ba2_115 n os2_145 kd2_145 ic2_145 br2_145 (fun y => nightQ c ((mixQ openQ q b2_115) y)) gn2_94 go2_94 gk2_94 gi2_94 gb2_94 (if r_115 = 0 then (if 0 < (coal - 1) then (coal - 1) else 0) else cd) ((if coal ≤ 0 then (cost + wc) else cost) + dc) (set ||| ((1 : Int32) <<< ((3 : Int32) &&& 31))) hdp hn hY_145 hf hc hlv) (cwV 4 hts gX2_tryDay_X2_tryDay rfl rfl rfl (by decide +kernel) (rmv (Nat.le_of_ble_eq_true rfl) (Nat.le_of_ble_eq_true rfl) hRf hRl)) hK trivial hw rfl rfl rfl hl rfl (Nat.le_of_ble_eq_true rfl) ⟨Nat.zero_le _, Nat.zero_le _⟩ dX2_tryDay_183 (fun u_183 H locs hpq hw => ?_)
          obtain ⟨lc2_183, lS2_183, bh2_183, mi2_183, fb2_183, ba2_183, gn2_183, go2_183, gk2_183, gi2_183, gb2_183⟩ := u_183
          have hw : gW D A js.heap ((sG c4 sa (tr 0) lc2_183 lS2_183 (nI dp) t f x c th pe cd dc wc lv) :: (tG c4 tr bh2_183 mi2_183 fb2_183 ba2_183) :: (yG c4 (la 4) (nI n) os2_145 kd2_145 ic2_145 br2_145) :: (yG c4 (la 5) (gn2_183 5) (go2_183 5) (gk2_183 5) (gi2_183 5) (gb2_183 5)) :: (yG c4 (la 6) (gn2_183 6) (go2_183 6) (gk2_183 6) (gi2_183 6) (gb2_183 6)) :: (yG c4 (la 7) (gn2_183 7) (go2_183 7) (gk2_183 7) (gi2_183 7) (gb2_183 7)) :: (yG c4 (la 8) (gn2_183 8) (go2_183 8) (gk2_183 8) (gi2_183 8) (gb2_183 8)) :: (yG c4 (la 3) (nI n) os kd ic br) :: Ts) H locs := hw
          have hS_183 := hpq
          have hS_183 : (lc2_183, lS2_183) = srch n f x t c cd dc wc (dp - 4) 4 (fun y => nightQ c ((mixQ openQ q b2_115) y)) (if r_115 = 0 then (if 0 < (coal - 1) then (coal - 1) else 0) else cd) ((if coal ≤ 0 then (cost + wc) else cost) + dc) (set ||| ((1 : Int32) <<< ((3 : Int32) &&& 31))) (lc2_94, lS2_94) := hS_183
          have hw := hw.m6
          have hw := hw.m6
          have hw := hw.m6
          have hw := hw.m6
          have hw := hw.m6
          have hw := hw.m7
          have hw := hw.m7
          have hw := hw.m7
          exact kr (lc2_183, lS2_183, bh2_183, mi2_183, fb2_183, ba2_183, upd gn2_183 4 (nI n), upd go2_183 4 os2_145, va_up gk2_183 4 kd2_145, va_up gi2_183 4 ic2_145, va_up gb2_183 4 br2_145) _ _ _ _ hw (sr_node (d := 3) c_14 c_5 hS_94 hb2_115 h0_115 h1_115 hS_183) dX2_tryDay_186
        refine lv_if_eq (tgt := 160) hx hb dX2_tryDay_150 (by decide) (fun c_150 => ?_) (fun c_150 => ?_)
        · refine lv_iload hx hb dX2_tryDay_160 (lv_at hl 4 rfl) ?_
          exact kj_150 _ ls (by first | rfl | (rw [if_pos c_150]; done) | (simp only [if_pos c_150]; done) | simp [c_150]) (lv_sub hl [0, 1, 2, 3, 4, 5, 6, 7, 8, 9] rfl)
        · refine lv_aload_n hx hb dX2_tryDay_153 rfl (lv_at hl 5 rfl) ?_
          refine r_get (T := TX2) (v := .int cd) hx hb hts hi2 hown hK hw 10 rfl rfl 11 (by decide) f_14 rfl dX2_tryDay_154 ?_
          refine lv_goto (tgt := 162) hx hb dX2_tryDay_157 (by decide) ?_
          exact kj_150 _ ls (by first | rfl | (rw [if_neg c_150]; done) | (simp only [if_neg c_150]; done) | simp [c_150]) (lv_sub hl [0, 1, 2, 3, 4, 5, 6, 7, 8, 9] rfl)
      refine lv_if_le (tgt := 42) hx hb dX2_tryDay_35 (by decide) (fun c_35 => ?_) (fun c_35 => ?_)
      · refine lv_iload_n hx hb dX2_tryDay_42 rfl (lv_at hl 4 rfl) ?_
        refine lv_aload_n hx hb dX2_tryDay_43 rfl (lv_at hl 1 rfl) ?_
        refine r_get (T := TX2) (v := .int wc) hx hb hts hi2 hown hK hw 0 rfl rfl 13 (by decide) f_6 rfl dX2_tryDay_44 ?_
        refine lv_iadd hx hb dX2_tryDay_47 ?_
        exact kj_35 _ ls (by first | rfl | (rw [if_pos c_35]; done) | (simp only [if_pos c_35]; done) | simp [c_35]) (lv_sub hl [0, 1, 2, 3, 4, 5] rfl)
      · refine lv_iload_n hx hb dX2_tryDay_38 rfl (lv_at hl 4 rfl) ?_
        refine lv_goto (tgt := 48) hx hb dX2_tryDay_39 (by decide) ?_
        exact kj_35 _ ls (by first | rfl | (rw [if_neg c_35]; done) | (simp only [if_neg c_35]; done) | simp [c_35]) (lv_sub hl [0, 1, 2, 3, 4, 5] rfl)
    · refine lv_aload_n hx hb dX2_tryDay_17 rfl (lv_at hl 0 rfl) ?_
      refine lv_iload_n hx hb dX2_tryDay_18 rfl (lv_at hl 3 rfl) ?_
      refine lv_iload hx hb dX2_tryDay_19 (lv_at hl 4 rfl) ?_
      refine c_vv (As := [.int cost, .int set]) (rest := []) ⟨hx, hb, hml, hown, hts⟩ (k_X2_takeIfBetter l D c4 A ((tG c4 tr bh mi fb ba) :: (yG c4 (la 3) (nI n) os kd ic br) :: (yG c4 (la 4) (gn 4) (go 4) (gk 4) (gi 4) (gb 4)) :: (yG c4 (la 5) (gn 5) (go 5) (gk 5) (gi 5) (gb 5)) :: (yG c4 (la 6) (gn 6) (go 6) (gk 6) (gi 6) (gb 6)) :: (yG c4 (la 7) (gn 7) (go 7) (gk 7) (gi 7) (gb 7)) :: (yG c4 (la 8) (gn 8) (go 8) (gk 8) (gi 8) (gb 8)) :: Ts) sa tr lc lS t f x c th pe cd dc wc dp lv cost set) (cwV 2 hts gX2_tryDay_X2_takeIfBetter rfl rfl rfl (by decide +kernel) (rmv (Nat.le_of_ble_eq_true rfl) (Nat.le_of_ble_eq_true rfl) hRf hRl)) hK trivial hw rfl rfl rfl hl rfl (Nat.le_of_ble_eq_true rfl) ⟨Nat.zero_le _, Nat.zero_le _⟩ dX2_tryDay_21 (fun u_21 H locs hpq hw => ?_)
      obtain ⟨lc2_21, lS2_21⟩ := u_21
      have hw : gW D A js.heap ((sG c4 sa (tr 0) lc2_21 lS2_21 (nI dp) t f x c th pe cd dc wc lv) :: (tG c4 tr bh mi fb ba) :: (yG c4 (la 3) (nI n) os kd ic br) :: (yG c4 (la 4) (gn 4) (go 4) (gk 4) (gi 4) (gb 4)) :: (yG c4 (la 5) (gn 5) (go 5) (gk 5) (gi 5) (gb 5)) :: (yG c4 (la 6) (gn 6) (go 6) (gk 6) (gi 6) (gb 6)) :: (yG c4 (la 7) (gn 7) (go 7) (gk 7) (gi 7) (gb 7)) :: (yG c4 (la 8) (gn 8) (go 8) (gk 8) (gi 8) (gb 8)) :: Ts) H locs := hw
      have hB_21 := hpq
      have hB_21 : (lc2_21, lS2_21) = betP cost set (lc, lS) := hB_21
      exact kr (lc2_21, lS2_21, bh, mi, fb, ba, gn, go, gk, gi, gb) _ _ _ _ hw (sr_leaf c_14 c_5 hB_21) dX2_tryDay_24
  · exact kr (lc, lS, bh, mi, fb, ba, gn, go, gk, gi, gb) _ _ _ _ hw (sr_out (b := (lc, lS)) c_5) dX2_tryDay_8
set_option maxHeartbeats 4000000 in
set_option maxRecDepth 100000 in
theorem k_X2_tryDay_2 (l : Launch) (D : va_G) (c4 : Nat → ClassId) (A : Nat → Prop) (Ts : List va_W) (sa : Nat → Nat) (tr : Nat → Nat) (la : Nat → Nat → Nat) (lc : Int32) (lS : Int32) (t : Int32) (f : Int32) (x : Int32) (c : Int32) (th : Int32) (pe : Int32) (cd : Int32) (dc : Int32) (wc : Int32) (dp : Nat) (lv : Nat → Option Nat) (bh : Int32) (mi : Int32) (fb : Int32) (ba : Nat → Int32) (n : Nat) (os : Int32) (kd : Nat → Int32) (ic : Nat → Int32) (br : Nat → Int32) (q : Nat → Yq) (gn : Nat → Int32) (go : Nat → Int32) (gk : Nat → Nat → Int32) (gi : Nat → Nat → Int32) (gb : Nat → Nat → Int32) (coal : Int32) (cost : Int32) (set : Int32) (hdp : dp ≤ 8) (hn : n ≤ 12) (hY : yR q n os kd ic br) (hf : fOk f x) (hc : 0 ≤ c.toInt ∧ c.toInt ≤ 30) (hlv : ∀ k, k < 9 → lv k = some (la k 0)) : Cv l yX2_tryDay wsX2_tryDay 8 224 [.ref (sa 0), .int 2, .int coal, .int cost, .int set] D (tyA c4) A none ((sG c4 sa (tr 0) lc lS (nI dp) t f x c th pe cd dc wc lv) :: (tG c4 tr bh mi fb ba) :: (yG c4 (la 2) (nI n) os kd ic br) :: (yG c4 (la 3) (gn 3) (go 3) (gk 3) (gi 3) (gb 3)) :: (yG c4 (la 4) (gn 4) (go 4) (gk 4) (gi 4) (gb 4)) :: (yG c4 (la 5) (gn 5) (go 5) (gk 5) (gi 5) (gb 5)) :: (yG c4 (la 6) (gn 6) (go 6) (gk 6) (gi 6) (gb 6)) :: (yG c4 (la 7) (gn 7) (go 7) (gk 7) (gi 7) (gb 7)) :: (yG c4 (la 8) (gn 8) (go 8) (gk 8) (gi 8) (gb 8)) :: Ts) (S := Int32 × Int32 × Int32 × Int32 × Int32 × (Nat → Int32) × (Nat → Int32) × (Nat → Int32) × (Nat → Nat → Int32) × (Nat → Nat → Int32) × (Nat → Nat → Int32)) (fun (u : Int32 × Int32 × Int32 × Int32 × Int32 × (Nat → Int32) × (Nat → Int32) × (Nat → Int32) × (Nat → Nat → Int32) × (Nat → Nat → Int32) × (Nat → Nat → Int32)) => (u.1, u.2.1) = srch n f x t c cd dc wc (dp - 2) 2 q coal cost set (lc, lS)) (fun u => ((sG c4 sa (tr 0) u.1 u.2.1 (nI dp) t f x c th pe cd dc wc lv) :: (tG c4 tr u.2.2.1 u.2.2.2.1 u.2.2.2.2.1 u.2.2.2.2.2.1) :: (yG c4 (la 2) (nI n) os kd ic br) :: (yG c4 (la 3) (u.2.2.2.2.2.2.1 3) (u.2.2.2.2.2.2.2.1 3) (u.2.2.2.2.2.2.2.2.1 3) (u.2.2.2.2.2.2.2.2.2.1 3) (u.2.2.2.2.2.2.2.2.2.2 3)) :: (yG c4 (la 4) (u.2.2.2.2.2.2.1 4) (u.2.2.2.2.2.2.2.1 4) (u.2.2.2.2.2.2.2.2.1 4) (u.2.2.2.2.2.2.2.2.2.1 4) (u.2.2.2.2.2.2.2.2.2.2 4)) :: (yG c4 (la 5) (u.2.2.2.2.2.2.1 5) (u.2.2.2.2.2.2.2.1 5) (u.2.2.2.2.2.2.2.2.1 5) (u.2.2.2.2.2.2.2.2.2.1 5) (u.2.2.2.2.2.2.2.2.2.2 5)) :: (yG c4 (la 6) (u.2.2.2.2.2.2.1 6) (u.2.2.2.2.2.2.2.1 6) (u.2.2.2.2.2.2.2.2.1 6) (u.2.2.2.2.2.2.2.2.2.1 6) (u.2.2.2.2.2.2.2.2.2.2 6)) :: (yG c4 (la 7) (u.2.2.2.2.2.2.1 7) (u.2.2.2.2.2.2.2.1 7) (u.2.2.2.2.2.2.2.2.1 7) (u.2.2.2.2.2.2.2.2.2.1 7) (u.2.2.2.2.2.2.2.2.2.2 7)) :: (yG c4 (la 8) (u.2.2.2.2.2.2.1 8) (u.2.2.2.2.2.2.2.1 8) (u.2.2.2.2.2.2.2.2.1 8) (u.2.2.2.2.2.2.2.2.2.1 8) (u.2.2.2.2.2.2.2.2.2.2 8)) :: Ts)) := by
  refine cOv (cc := cX2_tryDay) (maxL := 11) (by decide) rfl (Nat.le_of_ble_eq_true rfl) rfl ?_
  rintro jp je js jm below meth jc ls args R Q H locs hRf hRl ⟨hx, hb, hml, hr, hts, hown, hlocks, hK, hX⟩ hw hl kr
  have hown : js.vm.findClass RX2 = some jm.cls := hown
  have f_0 := hts (.fieldLink RX2 86 "IceSway$Search" "leastCost" "I") (by decide +kernel)
  have f_1 := hts (.fieldLink RX2 41 "IceSway$Search" "depth" "I") (by decide +kernel)
  have f_2 := hts (.methodLink RX2 100 Lib.Math.max.name) (by decide +kernel)
  have f_3 := hts (.static Lib.Math.max.name) (by decide +kernel)
  have f_4 := hts (.initialized "java/lang/Math") (by decide +kernel)
  have f_5 := hts (.code Lib.Math.max.name Lib.Math.max.code 2 (some .int)) (by decide +kernel)
  have f_6 := hts (.fieldLink RX2 83 "IceSway$Search" "wantCost" "I") (by decide +kernel)
  have f_7 := hts (.fieldLink RX2 20 "IceSway$Search" "levels" "[LIceSway$Yards;") (by decide +kernel)
  have f_8 := hts (.fieldLink RX2 67 "IceSway$Search" "cold" "I") (by decide +kernel)
  have f_9 := hts (.fieldLink RX2 12 "IceSway$Search" "trip" "LIceSway$Trip;") (by decide +kernel)
  have f_10 := hts (.fieldLink RX2 57 "IceSway$Search" "force" "I") (by decide +kernel)
  have f_11 := hts (.fieldLink RX2 64 "IceSway$Search" "axe" "I") (by decide +kernel)
  have f_12 := hts (.fieldLink RX2 45 "IceSway$Search" "minutes" "I") (by decide +kernel)
  have f_13 := hts (.fieldLink RX2 111 "IceSway$Trip" "behind" "I") (by decide +kernel)
  have f_14 := hts (.fieldLink RX2 73 "IceSway$Search" "coalDays" "I") (by decide +kernel)
  have f_15 := hts (.fieldLink RX2 78 "IceSway$Search" "dayCost" "I") (by decide +kernel)
  have hi2 : ∀ w ∈ u_ws RX2 TX2 14, w ∈ wsX2_tryDay := fun w h => List.mem_cons_of_mem _ (List.mem_append_left _ (List.mem_append_left _ (List.mem_append_right _ h)))
  have hi4 : ∀ w ∈ u_ws RX4 TX4 4, w ∈ wsX2_tryDay := fun w h => List.mem_cons_of_mem _ (List.mem_append_left _ (List.mem_append_right _ h))
  refine lv_iload_n hx hb dX2_tryDay_0 rfl (lv_at hl 3 rfl) ?_
  refine lv_aload_n hx hb dX2_tryDay_1 rfl (lv_at hl 0 rfl) ?_
  refine r_get (T := TX2) (v := .int lc) hx hb hts hi2 hown hK hw 0 rfl rfl 0 (by decide) f_0 rfl dX2_tryDay_2 ?_
  refine lv_icmp_le (tgt := 9) hx hb dX2_tryDay_5 (by decide) (fun c_5 => ?_) (fun c_5 => ?_)
  · refine lv_iload_n hx hb dX2_tryDay_9 rfl (lv_at hl 1 rfl) ?_
    refine lv_aload_n hx hb dX2_tryDay_10 rfl (lv_at hl 0 rfl) ?_
    refine r_get (T := TX2) (v := .int (nI dp)) hx hb hts hi2 hown hK hw 0 rfl rfl 4 (by decide) f_1 rfl dX2_tryDay_11 ?_
    refine r_clt hx hb 2 dp (by omega) (by omega) (tgt := 25) dX2_tryDay_14 (by decide) (fun c_14 => ?_) (fun c_14 => ?_)
    · refine lv_iconst (v := 0) hx hb dX2_tryDay_25 (by decide) ?_
      refine lv_iload_n hx hb dX2_tryDay_26 rfl (lv_at hl 2 rfl) ?_
      refine lv_iconst (v := 1) hx hb dX2_tryDay_27 (by decide) ?_
      refine lv_isub hx hb dX2_tryDay_28 ?_
      refine va_mmax hx hb (hml.trans hl.1.symm) hown f_2 f_3 f_4 f_5 (by rw [hRf]; exact Nat.le_of_ble_eq_true rfl) (by rw [hRl]; exact Nat.le_of_ble_eq_true rfl) (Nat.zero_le _) (Nat.zero_le _) dX2_tryDay_29 ?_
      refine lv_istore (lv' := [(5, .int (if 0 < (coal - 1) then (coal - 1) else 0)), (0, .ref (sa 0)), (1, .int 2), (2, .int coal), (3, .int cost), (4, .int set)]) hx hb dX2_tryDay_32 hl (by decide) rfl (fun ls hl => ?_)
      refine lv_iload_n hx hb dX2_tryDay_34 rfl (lv_at hl 3 rfl) ?_
      have kj_35 : ∀ (w_1 : Int32) (ls : Array Slot), w_1 = (if coal ≤ 0 then (cost + wc) else cost) → lv_has ls 11 [(5, .int (if 0 < (coal - 1) then (coal - 1) else 0)), (0, .ref (sa 0)), (1, .int 2), (2, .int coal), (3, .int cost), (4, .int set)] → W jp l je R js jm args below meth jc H locs 0 0 Q (F0 jm 48 ls [.int w_1]) := by
        intro w_1 ls e_w_1 hl
        subst e_w_1
        refine lv_istore (lv' := [(6, .int (if coal ≤ 0 then (cost + wc) else cost)), (5, .int (if 0 < (coal - 1) then (coal - 1) else 0)), (0, .ref (sa 0)), (1, .int 2), (2, .int coal), (3, .int cost), (4, .int set)]) hx hb dX2_tryDay_48 hl (by decide) rfl (fun ls hl => ?_)
        refine lv_aload_n hx hb dX2_tryDay_50 rfl (lv_at hl 2 rfl) ?_
        refine r_get (T := TX2) (v := .ref (sa 1)) hx hb hts hi2 hown hK hw 0 rfl rfl 3 (by decide) f_7 rfl dX2_tryDay_51 ?_
        refine lv_iload_n hx hb dX2_tryDay_54 rfl (lv_at hl 3 rfl) ?_
        refine r_aald hx hb hK hw 1 3 rfl rfl 2 (by decide) (by decide) (b := ((la 2) 0)) (hlv 2 (by decide)) dX2_tryDay_55 ?_
        refine lv_astore (lv' := [(7, .ref ((la 2) 0)), (6, .int (if coal ≤ 0 then (cost + wc) else cost)), (5, .int (if 0 < (coal - 1) then (coal - 1) else 0)), (0, .ref (sa 0)), (1, .int 2), (2, .int coal), (3, .int cost), (4, .int set)]) hx hb dX2_tryDay_56 hl (by decide) rfl (fun ls hl => ?_)
        refine lv_aload_n hx hb dX2_tryDay_58 rfl (lv_at hl 3 rfl) ?_
        refine r_get (T := TX2) (v := .ref (sa 1)) hx hb hts hi2 hown hK hw 0 rfl rfl 3 (by decide) f_7 rfl dX2_tryDay_59 ?_
        refine lv_iload_n hx hb dX2_tryDay_62 rfl (lv_at hl 4 rfl) ?_
        refine lv_iconst (v := 1) hx hb dX2_tryDay_63 (by decide) ?_
        refine r_addN hx hb 2 1 dX2_tryDay_64 ?_
        refine r_aald hx hb hK hw 1 3 rfl rfl 3 (by decide) (by decide) (b := ((la 3) 0)) (hlv 3 (by decide)) dX2_tryDay_65 ?_
        refine lv_astore (lv' := [(8, .ref ((la 3) 0)), (7, .ref ((la 2) 0)), (6, .int (if coal ≤ 0 then (cost + wc) else cost)), (5, .int (if 0 < (coal - 1) then (coal - 1) else 0)), (0, .ref (sa 0)), (1, .int 2), (2, .int coal), (3, .int cost), (4, .int set)]) hx hb dX2_tryDay_66 hl (by decide) rfl (fun ls hl => ?_)
        refine lv_aload hx hb dX2_tryDay_68 (lv_at hl 0 rfl) ?_
        refine lv_aload hx hb dX2_tryDay_70 (lv_at hl 1 rfl) ?_
        have hw := hw.m2
        have hw := hw.m3
        refine c_vv (As := [.ref ((la 2) 0)]) (rest := []) ⟨hx, hb, hml, hown, hts⟩ (k_X6_copyFrom l D c4 A ((sG c4 sa (tr 0) lc lS (nI dp) t f x c th pe cd dc wc lv) :: (tG c4 tr bh mi fb ba) :: (yG c4 (la 4) (gn 4) (go 4) (gk 4) (gi 4) (gb 4)) :: (yG c4 (la 5) (gn 5) (go 5) (gk 5) (gi 5) (gb 5)) :: (yG c4 (la 6) (gn 6) (go 6) (gk 6) (gi 6) (gb 6)) :: (yG c4 (la 7) (gn 7) (go 7) (gk 7) (gi 7) (gb 7)) :: (yG c4 (la 8) (gn 8) (go 8) (gk 8) (gi 8) (gb 8)) :: Ts) (la 3) (gn 3) (go 3) (gk 3) (gi 3) (gb 3) (la 2) n os kd ic br q hn hY) (cwV 1 hts gX2_tryDay_X6_copyFrom rfl rfl rfl (by decide +kernel) (rmv (Nat.le_of_ble_eq_true rfl) (Nat.le_of_ble_eq_true rfl) hRf hRl)) hK trivial hw rfl rfl rfl hl rfl (Nat.le_of_ble_eq_true rfl) ⟨Nat.zero_le _, Nat.zero_le _⟩ dX2_tryDay_72 (fun u_72 H locs hpq hw => ?_)
        obtain ⟨kd2_72, ic2_72, br2_72⟩ := u_72
        have hw : gW D A js.heap ((yG c4 (la 3) (nI n) os kd2_72 ic2_72 br2_72) :: (yG c4 (la 2) (nI n) os kd ic br) :: (sG c4 sa (tr 0) lc lS (nI dp) t f x c th pe cd dc wc lv) :: (tG c4 tr bh mi fb ba) :: (yG c4 (la 4) (gn 4) (go 4) (gk 4) (gi 4) (gb 4)) :: (yG c4 (la 5) (gn 5) (go 5) (gk 5) (gi 5) (gb 5)) :: (yG c4 (la 6) (gn 6) (go 6) (gk 6) (gi 6) (gb 6)) :: (yG c4 (la 7) (gn 7) (go 7) (gk 7) (gi 7) (gb 7)) :: (yG c4 (la 8) (gn 8) (go 8) (gk 8) (gi 8) (gb 8)) :: Ts) H locs := hw
        have hY_72 := hpq
        have hY_72 : yR q n os kd2_72 ic2_72 br2_72 := hY_72
        refine lv_aload hx hb dX2_tryDay_75 (lv_at hl 0 rfl) ?_
        refine lv_aload_n hx hb dX2_tryDay_77 rfl (lv_at hl 4 rfl) ?_
        refine r_get (T := TX2) (v := .int c) hx hb hts hi2 hown hK hw 8 rfl rfl 8 (by decide) f_8 rfl dX2_tryDay_78 ?_
        refine c_vv (As := [.int c]) (rest := []) ⟨hx, hb, hml, hown, hts⟩ (k_X6_freeze l D c4 A ((yG c4 (la 2) (nI n) os kd ic br) :: (sG c4 sa (tr 0) lc lS (nI dp) t f x c th pe cd dc wc lv) :: (tG c4 tr bh mi fb ba) :: (yG c4 (la 4) (gn 4) (go 4) (gk 4) (gi 4) (gb 4)) :: (yG c4 (la 5) (gn 5) (go 5) (gk 5) (gi 5) (gb 5)) :: (yG c4 (la 6) (gn 6) (go 6) (gk 6) (gi 6) (gb 6)) :: (yG c4 (la 7) (gn 7) (go 7) (gk 7) (gi 7) (gb 7)) :: (yG c4 (la 8) (gn 8) (go 8) (gk 8) (gi 8) (gb 8)) :: Ts) (la 3) n os kd2_72 ic2_72 br2_72 q c hn hY_72 hc) (cwV 1 hts gX2_tryDay_X6_freeze rfl rfl rfl (by decide +kernel) (rmv (Nat.le_of_ble_eq_true rfl) (Nat.le_of_ble_eq_true rfl) hRf hRl)) hK trivial hw rfl rfl rfl hl rfl (Nat.le_of_ble_eq_true rfl) ⟨Nat.zero_le _, Nat.zero_le _⟩ dX2_tryDay_81 (fun u_81 H locs hpq hw => ?_)
        obtain ⟨os2_81, kd2_81, ic2_81, br2_81⟩ := u_81
        have hw : gW D A js.heap ((yG c4 (la 3) (nI n) os2_81 kd2_81 ic2_81 br2_81) :: (yG c4 (la 2) (nI n) os kd ic br) :: (sG c4 sa (tr 0) lc lS (nI dp) t f x c th pe cd dc wc lv) :: (tG c4 tr bh mi fb ba) :: (yG c4 (la 4) (gn 4) (go 4) (gk 4) (gi 4) (gb 4)) :: (yG c4 (la 5) (gn 5) (go 5) (gk 5) (gi 5) (gb 5)) :: (yG c4 (la 6) (gn 6) (go 6) (gk 6) (gi 6) (gb 6)) :: (yG c4 (la 7) (gn 7) (go 7) (gk 7) (gi 7) (gb 7)) :: (yG c4 (la 8) (gn 8) (go 8) (gk 8) (gi 8) (gb 8)) :: Ts) H locs := hw
        have hY_81 := hpq
        have hY_81 : yR (fun y => nightQ c (q y)) n os2_81 kd2_81 ic2_81 br2_81 := hY_81
        refine lv_aload_n hx hb dX2_tryDay_84 rfl (lv_at hl 4 rfl) ?_
        refine lv_iload_n hx hb dX2_tryDay_85 rfl (lv_at hl 5 rfl) ?_
        refine lv_iconst (v := 1) hx hb dX2_tryDay_86 (by decide) ?_
        refine r_addN hx hb 2 1 dX2_tryDay_87 ?_
        refine lv_iload hx hb dX2_tryDay_88 (lv_at hl 3 rfl) ?_
        refine lv_iload hx hb dX2_tryDay_90 (lv_at hl 2 rfl) ?_
        refine lv_iload hx hb dX2_tryDay_92 (lv_at hl 8 rfl) ?_
        have hw := hw.m8
        have hw := hw.m8
        have hw := hw.m8
        have hw := hw.m8
        have hw := hw.m8
        have hw := hw.m5
        have hw := hw.m8
        have hw := hw.m8
        refine c_vv (As := [.int 3, .int (if 0 < (coal - 1) then (coal - 1) else 0), .int (if coal ≤ 0 then (cost + wc) else cost), .int set]) (rest := []) ⟨hx, hb, hml, hown, hts⟩ (k_X2_tryDay_3 l D c4 A ((yG c4 (la 2) (nI n) os kd ic br) :: Ts) sa tr la lc lS t f x c th pe cd dc wc dp lv bh mi fb ba n os2_81 kd2_81 ic2_81 br2_81 (fun y => nightQ c (q y)) gn go gk gi gb (if 0 < (coal - 1) then (coal - 1) else 0) (if coal ≤ 0 then (cost + wc) else cost) set hdp hn hY_81 hf hc hlv) (cwV 4 hts gX2_tryDay_X2_tryDay rfl rfl rfl (by decide +kernel) (rmv (Nat.le_of_ble_eq_true rfl) (Nat.le_of_ble_eq_true rfl) hRf hRl)) hK trivial hw rfl rfl rfl hl rfl (Nat.le_of_ble_eq_true rfl) ⟨Nat.zero_le _, Nat.zero_le _⟩ dX2_tryDay_94 (fun u_94 H locs hpq hw => ?_)
        obtain ⟨lc2_94, lS2_94, bh2_94, mi2_94, fb2_94, ba2_94, gn2_94, go2_94, gk2_94, gi2_94, gb2_94⟩ := u_94
        have hw : gW D A js.heap ((sG c4 sa (tr 0) lc2_94 lS2_94 (nI dp) t f x c th pe cd dc wc lv) :: (tG c4 tr bh2_94 mi2_94 fb2_94 ba2_94) :: (yG c4 (la 3) (nI n) os2_81 kd2_81 ic2_81 br2_81) :: (yG c4 (la 4) (gn2_94 4) (go2_94 4) (gk2_94 4) (gi2_94 4) (gb2_94 4)) :: (yG c4 (la 5) (gn2_94 5) (go2_94 5) (gk2_94 5) (gi2_94 5) (gb2_94 5)) :: (yG c4 (la 6) (gn2_94 6) (go2_94 6) (gk2_94 6) (gi2_94 6) (gb2_94 6)) :: (yG c4 (la 7) (gn2_94 7) (go2_94 7) (gk2_94 7) (gi2_94 7) (gb2_94 7)) :: (yG c4 (la 8) (gn2_94 8) (go2_94 8) (gk2_94 8) (gi2_94 8) (gb2_94 8)) :: (yG c4 (la 2) (nI n) os kd ic br) :: Ts) H locs := hw
        have hS_94 := hpq
        have hS_94 : (lc2_94, lS2_94) = srch n f x t c cd dc wc (dp - 3) 3 (fun y => nightQ c (q y)) (if 0 < (coal - 1) then (coal - 1) else 0) (if coal ≤ 0 then (cost + wc) else cost) set (lc, lS) := hS_94
        refine lv_aload_n hx hb dX2_tryDay_97 rfl (lv_at hl 4 rfl) ?_
        refine r_get (T := TX2) (v := .ref (tr 0)) hx hb hts hi2 hown hK hw 0 rfl rfl 2 (by decide) f_9 rfl dX2_tryDay_98 ?_
        refine lv_aload hx hb dX2_tryDay_101 (lv_at hl 1 rfl) ?_
        refine lv_aload_n hx hb dX2_tryDay_103 rfl (lv_at hl 4 rfl) ?_
        refine r_get (T := TX2) (v := .int f) hx hb hts hi2 hown hK hw 0 rfl rfl 6 (by decide) f_10 rfl dX2_tryDay_104 ?_
        refine lv_aload_n hx hb dX2_tryDay_107 rfl (lv_at hl 4 rfl) ?_
        refine r_get (T := TX2) (v := .int x) hx hb hts hi2 hown hK hw 0 rfl rfl 7 (by decide) f_11 rfl dX2_tryDay_108 ?_
        refine lv_aload_n hx hb dX2_tryDay_111 rfl (lv_at hl 4 rfl) ?_
        refine r_get (T := TX2) (v := .int t) hx hb hts hi2 hown hK hw 0 rfl rfl 5 (by decide) f_12 rfl dX2_tryDay_112 ?_
        have hw := hw.m8
        have hw := hw.m2
        refine c_vi (As := [.ref ((la 2) 0), .int f, .int x, .int t]) (rest := []) ⟨hx, hb, hml, hown, hts⟩ (k_X4_passes l D c4 A ((sG c4 sa (tr 0) lc2_94 lS2_94 (nI dp) t f x c th pe cd dc wc lv) :: (yG c4 (la 3) (nI n) os2_81 kd2_81 ic2_81 br2_81) :: (yG c4 (la 4) (gn2_94 4) (go2_94 4) (gk2_94 4) (gi2_94 4) (gb2_94 4)) :: (yG c4 (la 5) (gn2_94 5) (go2_94 5) (gk2_94 5) (gi2_94 5) (gb2_94 5)) :: (yG c4 (la 6) (gn2_94 6) (go2_94 6) (gk2_94 6) (gi2_94 6) (gb2_94 6)) :: (yG c4 (la 7) (gn2_94 7) (go2_94 7) (gk2_94 7) (gi2_94 7) (gb2_94 7)) :: (yG c4 (la 8) (gn2_94 8) (go2_94 8) (gk2_94 8) (gi2_94 8) (gb2_94 8)) :: Ts) tr bh2_94 mi2_94 fb2_94 ba2_94 (la 2) n os kd ic br q f x t hn hY hf) (cwV 4 hts gX2_tryDay_X4_passes rfl rfl rfl (by decide +kernel) (rmv (Nat.le_of_ble_eq_true rfl) (Nat.le_of_ble_eq_true rfl) hRf hRl)) hK trivial hw rfl rfl rfl hl rfl (Nat.le_of_ble_eq_true rfl) ⟨Nat.zero_le _, Nat.zero_le _⟩ dX2_tryDay_115 (fun r_115 u_115 H locs hpq hw => ?_)
        obtain ⟨b2_115, ba2_115⟩ := u_115
        have hw : gW D A js.heap ((tG c4 tr (nI b2_115) (cumQ f x q b2_115) (fbQ q b2_115) ba2_115) :: (yG c4 (la 2) (nI n) os kd ic br) :: (sG c4 sa (tr 0) lc2_94 lS2_94 (nI dp) t f x c th pe cd dc wc lv) :: (yG c4 (la 3) (nI n) os2_81 kd2_81 ic2_81 br2_81) :: (yG c4 (la 4) (gn2_94 4) (go2_94 4) (gk2_94 4) (gi2_94 4) (gb2_94 4)) :: (yG c4 (la 5) (gn2_94 5) (go2_94 5) (gk2_94 5) (gi2_94 5) (gb2_94 5)) :: (yG c4 (la 6) (gn2_94 6) (go2_94 6) (gk2_94 6) (gi2_94 6) (gb2_94 6)) :: (yG c4 (la 7) (gn2_94 7) (go2_94 7) (gk2_94 7) (gi2_94 7) (gb2_94 7)) :: (yG c4 (la 8) (gn2_94 8) (go2_94 8) (gk2_94 8) (gi2_94 8) (gb2_94 8)) :: Ts) H locs := hw
        obtain ⟨h0_115, h1_115, hb2_115, hba_115⟩ := hpq
        have h0_115 : r_115 = 0 → ¬ b2_115 = n := h0_115
        have h1_115 : ¬ r_115 = 0 → b2_115 = n := h1_115
        have hb2_115 : b2_115 = bhQ f x t q n := hb2_115
        have hba_115 : ∀ k, k < b2_115 → ba2_115 k = cumQ f x q (k + 1) := hba_115
        refine lv_istore (lv' := [(9, .int r_115), (8, .ref ((la 3) 0)), (7, .ref ((la 2) 0)), (6, .int (if coal ≤ 0 then (cost + wc) else cost)), (5, .int (if 0 < (coal - 1) then (coal - 1) else 0)), (0, .ref (sa 0)), (1, .int 2), (2, .int coal), (3, .int cost), (4, .int set)]) hx hb dX2_tryDay_118 hl (by decide) rfl (fun ls hl => ?_)
        refine lv_aload hx hb dX2_tryDay_120 (lv_at hl 1 rfl) ?_
        refine lv_aload hx hb dX2_tryDay_122 (lv_at hl 2 rfl) ?_
        have hw := hw.m1
        have hw := hw.m3
        refine c_vv (As := [.ref ((la 2) 0)]) (rest := []) ⟨hx, hb, hml, hown, hts⟩ (k_X6_copyFrom l D c4 A ((tG c4 tr (nI b2_115) (cumQ f x q b2_115) (fbQ q b2_115) ba2_115) :: (sG c4 sa (tr 0) lc2_94 lS2_94 (nI dp) t f x c th pe cd dc wc lv) :: (yG c4 (la 4) (gn2_94 4) (go2_94 4) (gk2_94 4) (gi2_94 4) (gb2_94 4)) :: (yG c4 (la 5) (gn2_94 5) (go2_94 5) (gk2_94 5) (gi2_94 5) (gb2_94 5)) :: (yG c4 (la 6) (gn2_94 6) (go2_94 6) (gk2_94 6) (gi2_94 6) (gb2_94 6)) :: (yG c4 (la 7) (gn2_94 7) (go2_94 7) (gk2_94 7) (gi2_94 7) (gb2_94 7)) :: (yG c4 (la 8) (gn2_94 8) (go2_94 8) (gk2_94 8) (gi2_94 8) (gb2_94 8)) :: Ts) (la 3) (nI n) os2_81 kd2_81 ic2_81 br2_81 (la 2) n os kd ic br q hn hY) (cwV 1 hts gX2_tryDay_X6_copyFrom rfl rfl rfl (by decide +kernel) (rmv (Nat.le_of_ble_eq_true rfl) (Nat.le_of_ble_eq_true rfl) hRf hRl)) hK trivial hw rfl rfl rfl hl rfl (Nat.le_of_ble_eq_true rfl) ⟨Nat.zero_le _, Nat.zero_le _⟩ dX2_tryDay_124 (fun u_124 H locs hpq hw => ?_)
        obtain ⟨kd2_124, ic2_124, br2_124⟩ := u_124
        have hw : gW D A js.heap ((yG c4 (la 3) (nI n) os kd2_124 ic2_124 br2_124) :: (yG c4 (la 2) (nI n) os kd ic br) :: (tG c4 tr (nI b2_115) (cumQ f x q b2_115) (fbQ q b2_115) ba2_115) :: (sG c4 sa (tr 0) lc2_94 lS2_94 (nI dp) t f x c th pe cd dc wc lv) :: (yG c4 (la 4) (gn2_94 4) (go2_94 4) (gk2_94 4) (gi2_94 4) (gb2_94 4)) :: (yG c4 (la 5) (gn2_94 5) (go2_94 5) (gk2_94 5) (gi2_94 5) (gb2_94 5)) :: (yG c4 (la 6) (gn2_94 6) (go2_94 6) (gk2_94 6) (gi2_94 6) (gb2_94 6)) :: (yG c4 (la 7) (gn2_94 7) (go2_94 7) (gk2_94 7) (gi2_94 7) (gb2_94 7)) :: (yG c4 (la 8) (gn2_94 8) (go2_94 8) (gk2_94 8) (gi2_94 8) (gb2_94 8)) :: Ts) H locs := hw
        have hY_124 := hpq
        have hY_124 : yR q n os kd2_124 ic2_124 br2_124 := hY_124
        refine lv_aload hx hb dX2_tryDay_127 (lv_at hl 1 rfl) ?_
        refine lv_aload_n hx hb dX2_tryDay_129 rfl (lv_at hl 5 rfl) ?_
        refine r_get (T := TX2) (v := .ref (tr 0)) hx hb hts hi2 hown hK hw 10 rfl rfl 2 (by decide) f_9 rfl dX2_tryDay_130 ?_
        refine r_get (T := TX4) (v := .int (nI b2_115)) hx hb hts hi4 hown hK hw 8 rfl rfl 0 (by decide) f_13 rfl dX2_tryDay_133 ?_
        refine c_vv (As := [.int (nI b2_115)]) (rest := []) ⟨hx, hb, hml, hown, hts⟩ (k_X6_openFirst l D c4 A ((yG c4 (la 2) (nI n) os kd ic br) :: (tG c4 tr (nI b2_115) (cumQ f x q b2_115) (fbQ q b2_115) ba2_115) :: (sG c4 sa (tr 0) lc2_94 lS2_94 (nI dp) t f x c th pe cd dc wc lv) :: (yG c4 (la 4) (gn2_94 4) (go2_94 4) (gk2_94 4) (gi2_94 4) (gb2_94 4)) :: (yG c4 (la 5) (gn2_94 5) (go2_94 5) (gk2_94 5) (gi2_94 5) (gb2_94 5)) :: (yG c4 (la 6) (gn2_94 6) (go2_94 6) (gk2_94 6) (gi2_94 6) (gb2_94 6)) :: (yG c4 (la 7) (gn2_94 7) (go2_94 7) (gk2_94 7) (gi2_94 7) (gb2_94 7)) :: (yG c4 (la 8) (gn2_94 8) (go2_94 8) (gk2_94 8) (gi2_94 8) (gb2_94 8)) :: Ts) (la 3) n os kd2_124 ic2_124 br2_124 q b2_115 hn hY_124 (by rw [hb2_115]; exact bh_le _ _ _ _ _)) (cwV 1 hts gX2_tryDay_X6_openFirst rfl rfl rfl (by decide +kernel) (rmv (Nat.le_of_ble_eq_true rfl) (Nat.le_of_ble_eq_true rfl) hRf hRl)) hK trivial hw rfl rfl rfl hl rfl (Nat.le_of_ble_eq_true rfl) ⟨Nat.zero_le _, Nat.zero_le _⟩ dX2_tryDay_136 (fun u_136 H locs hpq hw => ?_)
        obtain ⟨os2_136, ic2_136, br2_136⟩ := u_136
        have hw : gW D A js.heap ((yG c4 (la 3) (nI n) os2_136 kd2_124 ic2_136 br2_136) :: (yG c4 (la 2) (nI n) os kd ic br) :: (tG c4 tr (nI b2_115) (cumQ f x q b2_115) (fbQ q b2_115) ba2_115) :: (sG c4 sa (tr 0) lc2_94 lS2_94 (nI dp) t f x c th pe cd dc wc lv) :: (yG c4 (la 4) (gn2_94 4) (go2_94 4) (gk2_94 4) (gi2_94 4) (gb2_94 4)) :: (yG c4 (la 5) (gn2_94 5) (go2_94 5) (gk2_94 5) (gi2_94 5) (gb2_94 5)) :: (yG c4 (la 6) (gn2_94 6) (go2_94 6) (gk2_94 6) (gi2_94 6) (gb2_94 6)) :: (yG c4 (la 7) (gn2_94 7) (go2_94 7) (gk2_94 7) (gi2_94 7) (gb2_94 7)) :: (yG c4 (la 8) (gn2_94 8) (go2_94 8) (gk2_94 8) (gi2_94 8) (gb2_94 8)) :: Ts) H locs := hw
        have hY_136 := hpq
        have hY_136 : yR (mixQ openQ q b2_115) n os2_136 kd2_124 ic2_136 br2_136 := hY_136
        refine lv_aload hx hb dX2_tryDay_139 (lv_at hl 1 rfl) ?_
        refine lv_aload_n hx hb dX2_tryDay_141 rfl (lv_at hl 5 rfl) ?_
        refine r_get (T := TX2) (v := .int c) hx hb hts hi2 hown hK hw 10 rfl rfl 8 (by decide) f_8 rfl dX2_tryDay_142 ?_
        refine c_vv (As := [.int c]) (rest := []) ⟨hx, hb, hml, hown, hts⟩ (k_X6_freeze l D c4 A ((yG c4 (la 2) (nI n) os kd ic br) :: (tG c4 tr (nI b2_115) (cumQ f x q b2_115) (fbQ q b2_115) ba2_115) :: (sG c4 sa (tr 0) lc2_94 lS2_94 (nI dp) t f x c th pe cd dc wc lv) :: (yG c4 (la 4) (gn2_94 4) (go2_94 4) (gk2_94 4) (gi2_94 4) (gb2_94 4)) :: (yG c4 (la 5) (gn2_94 5) (go2_94 5) (gk2_94 5) (gi2_94 5) (gb2_94 5)) :: (yG c4 (la 6) (gn2_94 6) (go2_94 6) (gk2_94 6) (gi2_94 6) (gb2_94 6)) :: (yG c4 (la 7) (gn2_94 7) (go2_94 7) (gk2_94 7) (gi2_94 7) (gb2_94 7)) :: (yG c4 (la 8) (gn2_94 8) (go2_94 8) (gk2_94 8) (gi2_94 8) (gb2_94 8)) :: Ts) (la 3) n os2_136 kd2_124 ic2_136 br2_136 (mixQ openQ q b2_115) c hn hY_136 hc) (cwV 1 hts gX2_tryDay_X6_freeze rfl rfl rfl (by decide +kernel) (rmv (Nat.le_of_ble_eq_true rfl) (Nat.le_of_ble_eq_true rfl) hRf hRl)) hK trivial hw rfl rfl rfl hl rfl (Nat.le_of_ble_eq_true rfl) ⟨Nat.zero_le _, Nat.zero_le _⟩ dX2_tryDay_145 (fun u_145 H locs hpq hw => ?_)
        obtain ⟨os2_145, kd2_145, ic2_145, br2_145⟩ := u_145
        have hw : gW D A js.heap ((yG c4 (la 3) (nI n) os2_145 kd2_145 ic2_145 br2_145) :: (yG c4 (la 2) (nI n) os kd ic br) :: (tG c4 tr (nI b2_115) (cumQ f x q b2_115) (fbQ q b2_115) ba2_115) :: (sG c4 sa (tr 0) lc2_94 lS2_94 (nI dp) t f x c th pe cd dc wc lv) :: (yG c4 (la 4) (gn2_94 4) (go2_94 4) (gk2_94 4) (gi2_94 4) (gb2_94 4)) :: (yG c4 (la 5) (gn2_94 5) (go2_94 5) (gk2_94 5) (gi2_94 5) (gb2_94 5)) :: (yG c4 (la 6) (gn2_94 6) (go2_94 6) (gk2_94 6) (gi2_94 6) (gb2_94 6)) :: (yG c4 (la 7) (gn2_94 7) (go2_94 7) (gk2_94 7) (gi2_94 7) (gb2_94 7)) :: (yG c4 (la 8) (gn2_94 8) (go2_94 8) (gk2_94 8) (gi2_94 8) (gb2_94 8)) :: Ts) H locs := hw
        have hY_145 := hpq
        have hY_145 : yR (fun y => nightQ c ((mixQ openQ q b2_115) y)) n os2_145 kd2_145 ic2_145 br2_145 := hY_145
        refine lv_iload hx hb dX2_tryDay_148 (lv_at hl 0 rfl) ?_
        have kj_150 : ∀ (w_2 : Int32) (ls : Array Slot), w_2 = (if r_115 = 0 then (if 0 < (coal - 1) then (coal - 1) else 0) else cd) → lv_has ls 11 [(9, .int r_115), (8, .ref ((la 3) 0)), (7, .ref ((la 2) 0)), (6, .int (if coal ≤ 0 then (cost + wc) else cost)), (5, .int (if 0 < (coal - 1) then (coal - 1) else 0)), (0, .ref (sa 0)), (1, .int 2), (2, .int coal), (3, .int cost), (4, .int set)] → W jp l je R js jm args below meth jc H locs 0 0 Q (F0 jm 162 ls [.int w_2]) := by
          intro w_2 ls e_w_2 hl
          subst e_w_2
          refine lv_istore (lv' := [(10, .int (if r_115 = 0 then (if 0 < (coal - 1) then (coal - 1) else 0) else cd)), (9, .int r_115), (8, .ref ((la 3) 0)), (7, .ref ((la 2) 0)), (6, .int (if coal ≤ 0 then (cost + wc) else cost)), (5, .int (if 0 < (coal - 1) then (coal - 1) else 0)), (0, .ref (sa 0)), (1, .int 2), (2, .int coal), (3, .int cost), (4, .int set)]) hx hb dX2_tryDay_162 hl (by decide) rfl (fun ls hl => ?_)
          refine lv_aload_n hx hb dX2_tryDay_164 rfl (lv_at hl 6 rfl) ?_
          refine lv_iload_n hx hb dX2_tryDay_165 rfl (lv_at hl 7 rfl) ?_
          refine lv_iconst (v := 1) hx hb dX2_tryDay_166 (by decide) ?_
          refine r_addN hx hb 2 1 dX2_tryDay_167 ?_
          refine lv_iload hx hb dX2_tryDay_168 (lv_at hl 0 rfl) ?_
          refine lv_iload hx hb dX2_tryDay_170 (lv_at hl 4 rfl) ?_
          refine lv_aload_n hx hb dX2_tryDay_172 rfl (lv_at hl 6 rfl) ?_
          refine r_get (T := TX2) (v := .int dc) hx hb hts hi2 hown hK hw 10 rfl rfl 12 (by decide) f_15 rfl dX2_tryDay_173 ?_
          refine lv_iadd hx hb dX2_tryDay_176 ?_
          refine lv_iload hx hb dX2_tryDay_177 (lv_at hl 10 rfl) ?_
          refine lv_iconst (v := 1) hx hb dX2_tryDay_179 (by decide) ?_
          refine lv_iload_n hx hb dX2_tryDay_180 rfl (lv_at hl 7 rfl) ?_
          refine lv_ishl hx hb dX2_tryDay_181 ?_
          refine lv_ior hx hb dX2_tryDay_182 ?_
          have hw := hw.m8
          have hw := hw.m8
          have hw := hw.m8
          have hw := hw.m8
          have hw := hw.m8
          have hw := hw.m5
          have hw := hw.m7
          have hw := hw.m8
          refine c_vv (As := [.int 3, .int (if r_115 = 0 then (if 0 < (coal - 1) then (coal - 1) else 0) else cd), .int ((if coal ≤ 0 then (cost + wc) else cost) + dc), .int (set ||| ((1 : Int32) <<< ((2 : Int32) &&& 31)))]) (rest := []) ⟨hx, hb, hml, hown, hts⟩ (k_X2_tryDay_3 l D c4 A ((yG c4 (la 2) (nI n) os kd ic br) :: Ts) sa tr la lc2_94 lS2_94 t f x c th pe cd dc wc dp lv (nI b2_115) (cumQ f x q b2_115) (fbQ q b2_115) ba2_115 n os2_145 kd2_145 ic2_145 br2_145 (fun y => nightQ c ((mixQ openQ q b2_115) y)) gn2_94 go2_94 gk2_94 gi2_94 gb2_94 (if r_115 = 0 then (if 0 < (coal - 1) then (coal - 1) else 0) else cd) ((if coal ≤ 0 then (cost + wc) else cost) + dc) (set ||| ((1 : Int32) <<< ((2 : Int32) &&& 31))) hdp hn hY_145 hf hc hlv) (cwV 4 hts gX2_tryDay_X2_tryDay rfl rfl rfl (by decide +kernel) (rmv (Nat.le_of_ble_eq_true rfl) (Nat.le_of_ble_eq_true rfl) hRf hRl)) hK trivial hw rfl rfl rfl hl rfl (Nat.le_of_ble_eq_true rfl) ⟨Nat.zero_le _, Nat.zero_le _⟩ dX2_tryDay_183 (fun u_183 H locs hpq hw => ?_)
          obtain ⟨lc2_183, lS2_183, bh2_183, mi2_183, fb2_183, ba2_183, gn2_183, go2_183, gk2_183, gi2_183, gb2_183⟩ := u_183
          have hw : gW D A js.heap ((sG c4 sa (tr 0) lc2_183 lS2_183 (nI dp) t f x c th pe cd dc wc lv) :: (tG c4 tr bh2_183 mi2_183 fb2_183 ba2_183) :: (yG c4 (la 3) (nI n) os2_145 kd2_145 ic2_145 br2_145) :: (yG c4 (la 4) (gn2_183 4) (go2_183 4) (gk2_183 4) (gi2_183 4) (gb2_183 4)) :: (yG c4 (la 5) (gn2_183 5) (go2_183 5) (gk2_183 5) (gi2_183 5) (gb2_183 5)) :: (yG c4 (la 6) (gn2_183 6) (go2_183 6) (gk2_183 6) (gi2_183 6) (gb2_183 6)) :: (yG c4 (la 7) (gn2_183 7) (go2_183 7) (gk2_183 7) (gi2_183 7) (gb2_183 7)) :: (yG c4 (la 8) (gn2_183 8) (go2_183 8) (gk2_183 8) (gi2_183 8) (gb2_183 8)) :: (yG c4 (la 2) (nI n) os kd ic br) :: Ts) H locs := hw
          have hS_183 := hpq
          have hS_183 : (lc2_183, lS2_183) = srch n f x t c cd dc wc (dp - 3) 3 (fun y => nightQ c ((mixQ openQ q b2_115) y)) (if r_115 = 0 then (if 0 < (coal - 1) then (coal - 1) else 0) else cd) ((if coal ≤ 0 then (cost + wc) else cost) + dc) (set ||| ((1 : Int32) <<< ((2 : Int32) &&& 31))) (lc2_94, lS2_94) := hS_183
          have hw := hw.m7
          have hw := hw.m7
          have hw := hw.m7
          have hw := hw.m7
          have hw := hw.m7
          have hw := hw.m7
          have hw := hw.m8
          have hw := hw.m8
          have hw := hw.m8
          exact kr (lc2_183, lS2_183, bh2_183, mi2_183, fb2_183, ba2_183, upd gn2_183 3 (nI n), upd go2_183 3 os2_145, va_up gk2_183 3 kd2_145, va_up gi2_183 3 ic2_145, va_up gb2_183 3 br2_145) _ _ _ _ hw (sr_node (d := 2) c_14 c_5 hS_94 hb2_115 h0_115 h1_115 hS_183) dX2_tryDay_186
        refine lv_if_eq (tgt := 160) hx hb dX2_tryDay_150 (by decide) (fun c_150 => ?_) (fun c_150 => ?_)
        · refine lv_iload hx hb dX2_tryDay_160 (lv_at hl 4 rfl) ?_
          exact kj_150 _ ls (by first | rfl | (rw [if_pos c_150]; done) | (simp only [if_pos c_150]; done) | simp [c_150]) (lv_sub hl [0, 1, 2, 3, 4, 5, 6, 7, 8, 9] rfl)
        · refine lv_aload_n hx hb dX2_tryDay_153 rfl (lv_at hl 5 rfl) ?_
          refine r_get (T := TX2) (v := .int cd) hx hb hts hi2 hown hK hw 10 rfl rfl 11 (by decide) f_14 rfl dX2_tryDay_154 ?_
          refine lv_goto (tgt := 162) hx hb dX2_tryDay_157 (by decide) ?_
          exact kj_150 _ ls (by first | rfl | (rw [if_neg c_150]; done) | (simp only [if_neg c_150]; done) | simp [c_150]) (lv_sub hl [0, 1, 2, 3, 4, 5, 6, 7, 8, 9] rfl)
      refine lv_if_le (tgt := 42) hx hb dX2_tryDay_35 (by decide) (fun c_35 => ?_) (fun c_35 => ?_)
      · refine lv_iload_n hx hb dX2_tryDay_42 rfl (lv_at hl 4 rfl) ?_
        refine lv_aload_n hx hb dX2_tryDay_43 rfl (lv_at hl 1 rfl) ?_
        refine r_get (T := TX2) (v := .int wc) hx hb hts hi2 hown hK hw 0 rfl rfl 13 (by decide) f_6 rfl dX2_tryDay_44 ?_
        refine lv_iadd hx hb dX2_tryDay_47 ?_
        exact kj_35 _ ls (by first | rfl | (rw [if_pos c_35]; done) | (simp only [if_pos c_35]; done) | simp [c_35]) (lv_sub hl [0, 1, 2, 3, 4, 5] rfl)
      · refine lv_iload_n hx hb dX2_tryDay_38 rfl (lv_at hl 4 rfl) ?_
        refine lv_goto (tgt := 48) hx hb dX2_tryDay_39 (by decide) ?_
        exact kj_35 _ ls (by first | rfl | (rw [if_neg c_35]; done) | (simp only [if_neg c_35]; done) | simp [c_35]) (lv_sub hl [0, 1, 2, 3, 4, 5] rfl)
    · refine lv_aload_n hx hb dX2_tryDay_17 rfl (lv_at hl 0 rfl) ?_
      refine lv_iload_n hx hb dX2_tryDay_18 rfl (lv_at hl 3 rfl) ?_
      refine lv_iload hx hb dX2_tryDay_19 (lv_at hl 4 rfl) ?_
      refine c_vv (As := [.int cost, .int set]) (rest := []) ⟨hx, hb, hml, hown, hts⟩ (k_X2_takeIfBetter l D c4 A ((tG c4 tr bh mi fb ba) :: (yG c4 (la 2) (nI n) os kd ic br) :: (yG c4 (la 3) (gn 3) (go 3) (gk 3) (gi 3) (gb 3)) :: (yG c4 (la 4) (gn 4) (go 4) (gk 4) (gi 4) (gb 4)) :: (yG c4 (la 5) (gn 5) (go 5) (gk 5) (gi 5) (gb 5)) :: (yG c4 (la 6) (gn 6) (go 6) (gk 6) (gi 6) (gb 6)) :: (yG c4 (la 7) (gn 7) (go 7) (gk 7) (gi 7) (gb 7)) :: (yG c4 (la 8) (gn 8) (go 8) (gk 8) (gi 8) (gb 8)) :: Ts) sa tr lc lS t f x c th pe cd dc wc dp lv cost set) (cwV 2 hts gX2_tryDay_X2_takeIfBetter rfl rfl rfl (by decide +kernel) (rmv (Nat.le_of_ble_eq_true rfl) (Nat.le_of_ble_eq_true rfl) hRf hRl)) hK trivial hw rfl rfl rfl hl rfl (Nat.le_of_ble_eq_true rfl) ⟨Nat.zero_le _, Nat.zero_le _⟩ dX2_tryDay_21 (fun u_21 H locs hpq hw => ?_)
      obtain ⟨lc2_21, lS2_21⟩ := u_21
      have hw : gW D A js.heap ((sG c4 sa (tr 0) lc2_21 lS2_21 (nI dp) t f x c th pe cd dc wc lv) :: (tG c4 tr bh mi fb ba) :: (yG c4 (la 2) (nI n) os kd ic br) :: (yG c4 (la 3) (gn 3) (go 3) (gk 3) (gi 3) (gb 3)) :: (yG c4 (la 4) (gn 4) (go 4) (gk 4) (gi 4) (gb 4)) :: (yG c4 (la 5) (gn 5) (go 5) (gk 5) (gi 5) (gb 5)) :: (yG c4 (la 6) (gn 6) (go 6) (gk 6) (gi 6) (gb 6)) :: (yG c4 (la 7) (gn 7) (go 7) (gk 7) (gi 7) (gb 7)) :: (yG c4 (la 8) (gn 8) (go 8) (gk 8) (gi 8) (gb 8)) :: Ts) H locs := hw
      have hB_21 := hpq
      have hB_21 : (lc2_21, lS2_21) = betP cost set (lc, lS) := hB_21
      exact kr (lc2_21, lS2_21, bh, mi, fb, ba, gn, go, gk, gi, gb) _ _ _ _ hw (sr_leaf c_14 c_5 hB_21) dX2_tryDay_24
  · exact kr (lc, lS, bh, mi, fb, ba, gn, go, gk, gi, gb) _ _ _ _ hw (sr_out (b := (lc, lS)) c_5) dX2_tryDay_8
set_option maxHeartbeats 4000000 in
set_option maxRecDepth 100000 in
theorem k_X2_tryDay_1 (l : Launch) (D : va_G) (c4 : Nat → ClassId) (A : Nat → Prop) (Ts : List va_W) (sa : Nat → Nat) (tr : Nat → Nat) (la : Nat → Nat → Nat) (lc : Int32) (lS : Int32) (t : Int32) (f : Int32) (x : Int32) (c : Int32) (th : Int32) (pe : Int32) (cd : Int32) (dc : Int32) (wc : Int32) (dp : Nat) (lv : Nat → Option Nat) (bh : Int32) (mi : Int32) (fb : Int32) (ba : Nat → Int32) (n : Nat) (os : Int32) (kd : Nat → Int32) (ic : Nat → Int32) (br : Nat → Int32) (q : Nat → Yq) (gn : Nat → Int32) (go : Nat → Int32) (gk : Nat → Nat → Int32) (gi : Nat → Nat → Int32) (gb : Nat → Nat → Int32) (coal : Int32) (cost : Int32) (set : Int32) (hdp : dp ≤ 8) (hn : n ≤ 12) (hY : yR q n os kd ic br) (hf : fOk f x) (hc : 0 ≤ c.toInt ∧ c.toInt ≤ 30) (hlv : ∀ k, k < 9 → lv k = some (la k 0)) : Cv l yX2_tryDay wsX2_tryDay 9 254 [.ref (sa 0), .int 1, .int coal, .int cost, .int set] D (tyA c4) A none ((sG c4 sa (tr 0) lc lS (nI dp) t f x c th pe cd dc wc lv) :: (tG c4 tr bh mi fb ba) :: (yG c4 (la 1) (nI n) os kd ic br) :: (yG c4 (la 2) (gn 2) (go 2) (gk 2) (gi 2) (gb 2)) :: (yG c4 (la 3) (gn 3) (go 3) (gk 3) (gi 3) (gb 3)) :: (yG c4 (la 4) (gn 4) (go 4) (gk 4) (gi 4) (gb 4)) :: (yG c4 (la 5) (gn 5) (go 5) (gk 5) (gi 5) (gb 5)) :: (yG c4 (la 6) (gn 6) (go 6) (gk 6) (gi 6) (gb 6)) :: (yG c4 (la 7) (gn 7) (go 7) (gk 7) (gi 7) (gb 7)) :: (yG c4 (la 8) (gn 8) (go 8) (gk 8) (gi 8) (gb 8)) :: Ts) (S := Int32 × Int32 × Int32 × Int32 × Int32 × (Nat → Int32) × (Nat → Int32) × (Nat → Int32) × (Nat → Nat → Int32) × (Nat → Nat → Int32) × (Nat → Nat → Int32)) (fun (u : Int32 × Int32 × Int32 × Int32 × Int32 × (Nat → Int32) × (Nat → Int32) × (Nat → Int32) × (Nat → Nat → Int32) × (Nat → Nat → Int32) × (Nat → Nat → Int32)) => (u.1, u.2.1) = srch n f x t c cd dc wc (dp - 1) 1 q coal cost set (lc, lS)) (fun u => ((sG c4 sa (tr 0) u.1 u.2.1 (nI dp) t f x c th pe cd dc wc lv) :: (tG c4 tr u.2.2.1 u.2.2.2.1 u.2.2.2.2.1 u.2.2.2.2.2.1) :: (yG c4 (la 1) (nI n) os kd ic br) :: (yG c4 (la 2) (u.2.2.2.2.2.2.1 2) (u.2.2.2.2.2.2.2.1 2) (u.2.2.2.2.2.2.2.2.1 2) (u.2.2.2.2.2.2.2.2.2.1 2) (u.2.2.2.2.2.2.2.2.2.2 2)) :: (yG c4 (la 3) (u.2.2.2.2.2.2.1 3) (u.2.2.2.2.2.2.2.1 3) (u.2.2.2.2.2.2.2.2.1 3) (u.2.2.2.2.2.2.2.2.2.1 3) (u.2.2.2.2.2.2.2.2.2.2 3)) :: (yG c4 (la 4) (u.2.2.2.2.2.2.1 4) (u.2.2.2.2.2.2.2.1 4) (u.2.2.2.2.2.2.2.2.1 4) (u.2.2.2.2.2.2.2.2.2.1 4) (u.2.2.2.2.2.2.2.2.2.2 4)) :: (yG c4 (la 5) (u.2.2.2.2.2.2.1 5) (u.2.2.2.2.2.2.2.1 5) (u.2.2.2.2.2.2.2.2.1 5) (u.2.2.2.2.2.2.2.2.2.1 5) (u.2.2.2.2.2.2.2.2.2.2 5)) :: (yG c4 (la 6) (u.2.2.2.2.2.2.1 6) (u.2.2.2.2.2.2.2.1 6) (u.2.2.2.2.2.2.2.2.1 6) (u.2.2.2.2.2.2.2.2.2.1 6) (u.2.2.2.2.2.2.2.2.2.2 6)) :: (yG c4 (la 7) (u.2.2.2.2.2.2.1 7) (u.2.2.2.2.2.2.2.1 7) (u.2.2.2.2.2.2.2.2.1 7) (u.2.2.2.2.2.2.2.2.2.1 7) (u.2.2.2.2.2.2.2.2.2.2 7)) :: (yG c4 (la 8) (u.2.2.2.2.2.2.1 8) (u.2.2.2.2.2.2.2.1 8) (u.2.2.2.2.2.2.2.2.1 8) (u.2.2.2.2.2.2.2.2.2.1 8) (u.2.2.2.2.2.2.2.2.2.2 8)) :: Ts)) := by
  refine cOv (cc := cX2_tryDay) (maxL := 11) (by decide) rfl (Nat.le_of_ble_eq_true rfl) rfl ?_
  rintro jp je js jm below meth jc ls args R Q H locs hRf hRl ⟨hx, hb, hml, hr, hts, hown, hlocks, hK, hX⟩ hw hl kr
  have hown : js.vm.findClass RX2 = some jm.cls := hown
  have f_0 := hts (.fieldLink RX2 86 "IceSway$Search" "leastCost" "I") (by decide +kernel)
  have f_1 := hts (.fieldLink RX2 41 "IceSway$Search" "depth" "I") (by decide +kernel)
  have f_2 := hts (.methodLink RX2 100 Lib.Math.max.name) (by decide +kernel)
  have f_3 := hts (.static Lib.Math.max.name) (by decide +kernel)
  have f_4 := hts (.initialized "java/lang/Math") (by decide +kernel)
  have f_5 := hts (.code Lib.Math.max.name Lib.Math.max.code 2 (some .int)) (by decide +kernel)
  have f_6 := hts (.fieldLink RX2 83 "IceSway$Search" "wantCost" "I") (by decide +kernel)
  have f_7 := hts (.fieldLink RX2 20 "IceSway$Search" "levels" "[LIceSway$Yards;") (by decide +kernel)
  have f_8 := hts (.fieldLink RX2 67 "IceSway$Search" "cold" "I") (by decide +kernel)
  have f_9 := hts (.fieldLink RX2 12 "IceSway$Search" "trip" "LIceSway$Trip;") (by decide +kernel)
  have f_10 := hts (.fieldLink RX2 57 "IceSway$Search" "force" "I") (by decide +kernel)
  have f_11 := hts (.fieldLink RX2 64 "IceSway$Search" "axe" "I") (by decide +kernel)
  have f_12 := hts (.fieldLink RX2 45 "IceSway$Search" "minutes" "I") (by decide +kernel)
  have f_13 := hts (.fieldLink RX2 111 "IceSway$Trip" "behind" "I") (by decide +kernel)
  have f_14 := hts (.fieldLink RX2 73 "IceSway$Search" "coalDays" "I") (by decide +kernel)
  have f_15 := hts (.fieldLink RX2 78 "IceSway$Search" "dayCost" "I") (by decide +kernel)
  have hi2 : ∀ w ∈ u_ws RX2 TX2 14, w ∈ wsX2_tryDay := fun w h => List.mem_cons_of_mem _ (List.mem_append_left _ (List.mem_append_left _ (List.mem_append_right _ h)))
  have hi4 : ∀ w ∈ u_ws RX4 TX4 4, w ∈ wsX2_tryDay := fun w h => List.mem_cons_of_mem _ (List.mem_append_left _ (List.mem_append_right _ h))
  refine lv_iload_n hx hb dX2_tryDay_0 rfl (lv_at hl 3 rfl) ?_
  refine lv_aload_n hx hb dX2_tryDay_1 rfl (lv_at hl 0 rfl) ?_
  refine r_get (T := TX2) (v := .int lc) hx hb hts hi2 hown hK hw 0 rfl rfl 0 (by decide) f_0 rfl dX2_tryDay_2 ?_
  refine lv_icmp_le (tgt := 9) hx hb dX2_tryDay_5 (by decide) (fun c_5 => ?_) (fun c_5 => ?_)
  · refine lv_iload_n hx hb dX2_tryDay_9 rfl (lv_at hl 1 rfl) ?_
    refine lv_aload_n hx hb dX2_tryDay_10 rfl (lv_at hl 0 rfl) ?_
    refine r_get (T := TX2) (v := .int (nI dp)) hx hb hts hi2 hown hK hw 0 rfl rfl 4 (by decide) f_1 rfl dX2_tryDay_11 ?_
    refine r_clt hx hb 1 dp (by omega) (by omega) (tgt := 25) dX2_tryDay_14 (by decide) (fun c_14 => ?_) (fun c_14 => ?_)
    · refine lv_iconst (v := 0) hx hb dX2_tryDay_25 (by decide) ?_
      refine lv_iload_n hx hb dX2_tryDay_26 rfl (lv_at hl 2 rfl) ?_
      refine lv_iconst (v := 1) hx hb dX2_tryDay_27 (by decide) ?_
      refine lv_isub hx hb dX2_tryDay_28 ?_
      refine va_mmax hx hb (hml.trans hl.1.symm) hown f_2 f_3 f_4 f_5 (by rw [hRf]; exact Nat.le_of_ble_eq_true rfl) (by rw [hRl]; exact Nat.le_of_ble_eq_true rfl) (Nat.zero_le _) (Nat.zero_le _) dX2_tryDay_29 ?_
      refine lv_istore (lv' := [(5, .int (if 0 < (coal - 1) then (coal - 1) else 0)), (0, .ref (sa 0)), (1, .int 1), (2, .int coal), (3, .int cost), (4, .int set)]) hx hb dX2_tryDay_32 hl (by decide) rfl (fun ls hl => ?_)
      refine lv_iload_n hx hb dX2_tryDay_34 rfl (lv_at hl 3 rfl) ?_
      have kj_35 : ∀ (w_1 : Int32) (ls : Array Slot), w_1 = (if coal ≤ 0 then (cost + wc) else cost) → lv_has ls 11 [(5, .int (if 0 < (coal - 1) then (coal - 1) else 0)), (0, .ref (sa 0)), (1, .int 1), (2, .int coal), (3, .int cost), (4, .int set)] → W jp l je R js jm args below meth jc H locs 0 0 Q (F0 jm 48 ls [.int w_1]) := by
        intro w_1 ls e_w_1 hl
        subst e_w_1
        refine lv_istore (lv' := [(6, .int (if coal ≤ 0 then (cost + wc) else cost)), (5, .int (if 0 < (coal - 1) then (coal - 1) else 0)), (0, .ref (sa 0)), (1, .int 1), (2, .int coal), (3, .int cost), (4, .int set)]) hx hb dX2_tryDay_48 hl (by decide) rfl (fun ls hl => ?_)
        refine lv_aload_n hx hb dX2_tryDay_50 rfl (lv_at hl 2 rfl) ?_
        refine r_get (T := TX2) (v := .ref (sa 1)) hx hb hts hi2 hown hK hw 0 rfl rfl 3 (by decide) f_7 rfl dX2_tryDay_51 ?_
        refine lv_iload_n hx hb dX2_tryDay_54 rfl (lv_at hl 3 rfl) ?_
        refine r_aald hx hb hK hw 1 3 rfl rfl 1 (by decide) (by decide) (b := ((la 1) 0)) (hlv 1 (by decide)) dX2_tryDay_55 ?_
        refine lv_astore (lv' := [(7, .ref ((la 1) 0)), (6, .int (if coal ≤ 0 then (cost + wc) else cost)), (5, .int (if 0 < (coal - 1) then (coal - 1) else 0)), (0, .ref (sa 0)), (1, .int 1), (2, .int coal), (3, .int cost), (4, .int set)]) hx hb dX2_tryDay_56 hl (by decide) rfl (fun ls hl => ?_)
        refine lv_aload_n hx hb dX2_tryDay_58 rfl (lv_at hl 3 rfl) ?_
        refine r_get (T := TX2) (v := .ref (sa 1)) hx hb hts hi2 hown hK hw 0 rfl rfl 3 (by decide) f_7 rfl dX2_tryDay_59 ?_
        refine lv_iload_n hx hb dX2_tryDay_62 rfl (lv_at hl 4 rfl) ?_
        refine lv_iconst (v := 1) hx hb dX2_tryDay_63 (by decide) ?_
        refine r_addN hx hb 1 1 dX2_tryDay_64 ?_
        refine r_aald hx hb hK hw 1 3 rfl rfl 2 (by decide) (by decide) (b := ((la 2) 0)) (hlv 2 (by decide)) dX2_tryDay_65 ?_
        refine lv_astore (lv' := [(8, .ref ((la 2) 0)), (7, .ref ((la 1) 0)), (6, .int (if coal ≤ 0 then (cost + wc) else cost)), (5, .int (if 0 < (coal - 1) then (coal - 1) else 0)), (0, .ref (sa 0)), (1, .int 1), (2, .int coal), (3, .int cost), (4, .int set)]) hx hb dX2_tryDay_66 hl (by decide) rfl (fun ls hl => ?_)
        refine lv_aload hx hb dX2_tryDay_68 (lv_at hl 0 rfl) ?_
        refine lv_aload hx hb dX2_tryDay_70 (lv_at hl 1 rfl) ?_
        have hw := hw.m2
        have hw := hw.m3
        refine c_vv (As := [.ref ((la 1) 0)]) (rest := []) ⟨hx, hb, hml, hown, hts⟩ (k_X6_copyFrom l D c4 A ((sG c4 sa (tr 0) lc lS (nI dp) t f x c th pe cd dc wc lv) :: (tG c4 tr bh mi fb ba) :: (yG c4 (la 3) (gn 3) (go 3) (gk 3) (gi 3) (gb 3)) :: (yG c4 (la 4) (gn 4) (go 4) (gk 4) (gi 4) (gb 4)) :: (yG c4 (la 5) (gn 5) (go 5) (gk 5) (gi 5) (gb 5)) :: (yG c4 (la 6) (gn 6) (go 6) (gk 6) (gi 6) (gb 6)) :: (yG c4 (la 7) (gn 7) (go 7) (gk 7) (gi 7) (gb 7)) :: (yG c4 (la 8) (gn 8) (go 8) (gk 8) (gi 8) (gb 8)) :: Ts) (la 2) (gn 2) (go 2) (gk 2) (gi 2) (gb 2) (la 1) n os kd ic br q hn hY) (cwV 1 hts gX2_tryDay_X6_copyFrom rfl rfl rfl (by decide +kernel) (rmv (Nat.le_of_ble_eq_true rfl) (Nat.le_of_ble_eq_true rfl) hRf hRl)) hK trivial hw rfl rfl rfl hl rfl (Nat.le_of_ble_eq_true rfl) ⟨Nat.zero_le _, Nat.zero_le _⟩ dX2_tryDay_72 (fun u_72 H locs hpq hw => ?_)
        obtain ⟨kd2_72, ic2_72, br2_72⟩ := u_72
        have hw : gW D A js.heap ((yG c4 (la 2) (nI n) os kd2_72 ic2_72 br2_72) :: (yG c4 (la 1) (nI n) os kd ic br) :: (sG c4 sa (tr 0) lc lS (nI dp) t f x c th pe cd dc wc lv) :: (tG c4 tr bh mi fb ba) :: (yG c4 (la 3) (gn 3) (go 3) (gk 3) (gi 3) (gb 3)) :: (yG c4 (la 4) (gn 4) (go 4) (gk 4) (gi 4) (gb 4)) :: (yG c4 (la 5) (gn 5) (go 5) (gk 5) (gi 5) (gb 5)) :: (yG c4 (la 6) (gn 6) (go 6) (gk 6) (gi 6) (gb 6)) :: (yG c4 (la 7) (gn 7) (go 7) (gk 7) (gi 7) (gb 7)) :: (yG c4 (la 8) (gn 8) (go 8) (gk 8) (gi 8) (gb 8)) :: Ts) H locs := hw
        have hY_72 := hpq
        have hY_72 : yR q n os kd2_72 ic2_72 br2_72 := hY_72
        refine lv_aload hx hb dX2_tryDay_75 (lv_at hl 0 rfl) ?_
        refine lv_aload_n hx hb dX2_tryDay_77 rfl (lv_at hl 4 rfl) ?_
        refine r_get (T := TX2) (v := .int c) hx hb hts hi2 hown hK hw 8 rfl rfl 8 (by decide) f_8 rfl dX2_tryDay_78 ?_
        refine c_vv (As := [.int c]) (rest := []) ⟨hx, hb, hml, hown, hts⟩ (k_X6_freeze l D c4 A ((yG c4 (la 1) (nI n) os kd ic br) :: (sG c4 sa (tr 0) lc lS (nI dp) t f x c th pe cd dc wc lv) :: (tG c4 tr bh mi fb ba) :: (yG c4 (la 3) (gn 3) (go 3) (gk 3) (gi 3) (gb 3)) :: (yG c4 (la 4) (gn 4) (go 4) (gk 4) (gi 4) (gb 4)) :: (yG c4 (la 5) (gn 5) (go 5) (gk 5) (gi 5) (gb 5)) :: (yG c4 (la 6) (gn 6) (go 6) (gk 6) (gi 6) (gb 6)) :: (yG c4 (la 7) (gn 7) (go 7) (gk 7) (gi 7) (gb 7)) :: (yG c4 (la 8) (gn 8) (go 8) (gk 8) (gi 8) (gb 8)) :: Ts) (la 2) n os kd2_72 ic2_72 br2_72 q c hn hY_72 hc) (cwV 1 hts gX2_tryDay_X6_freeze rfl rfl rfl (by decide +kernel) (rmv (Nat.le_of_ble_eq_true rfl) (Nat.le_of_ble_eq_true rfl) hRf hRl)) hK trivial hw rfl rfl rfl hl rfl (Nat.le_of_ble_eq_true rfl) ⟨Nat.zero_le _, Nat.zero_le _⟩ dX2_tryDay_81 (fun u_81 H locs hpq hw => ?_)
        obtain ⟨os2_81, kd2_81, ic2_81, br2_81⟩ := u_81
        have hw : gW D A js.heap ((yG c4 (la 2) (nI n) os2_81 kd2_81 ic2_81 br2_81) :: (yG c4 (la 1) (nI n) os kd ic br) :: (sG c4 sa (tr 0) lc lS (nI dp) t f x c th pe cd dc wc lv) :: (tG c4 tr bh mi fb ba) :: (yG c4 (la 3) (gn 3) (go 3) (gk 3) (gi 3) (gb 3)) :: (yG c4 (la 4) (gn 4) (go 4) (gk 4) (gi 4) (gb 4)) :: (yG c4 (la 5) (gn 5) (go 5) (gk 5) (gi 5) (gb 5)) :: (yG c4 (la 6) (gn 6) (go 6) (gk 6) (gi 6) (gb 6)) :: (yG c4 (la 7) (gn 7) (go 7) (gk 7) (gi 7) (gb 7)) :: (yG c4 (la 8) (gn 8) (go 8) (gk 8) (gi 8) (gb 8)) :: Ts) H locs := hw
        have hY_81 := hpq
        have hY_81 : yR (fun y => nightQ c (q y)) n os2_81 kd2_81 ic2_81 br2_81 := hY_81
        refine lv_aload_n hx hb dX2_tryDay_84 rfl (lv_at hl 4 rfl) ?_
        refine lv_iload_n hx hb dX2_tryDay_85 rfl (lv_at hl 5 rfl) ?_
        refine lv_iconst (v := 1) hx hb dX2_tryDay_86 (by decide) ?_
        refine r_addN hx hb 1 1 dX2_tryDay_87 ?_
        refine lv_iload hx hb dX2_tryDay_88 (lv_at hl 3 rfl) ?_
        refine lv_iload hx hb dX2_tryDay_90 (lv_at hl 2 rfl) ?_
        refine lv_iload hx hb dX2_tryDay_92 (lv_at hl 8 rfl) ?_
        have hw := hw.m9
        have hw := hw.m9
        have hw := hw.m9
        have hw := hw.m9
        have hw := hw.m9
        have hw := hw.m9
        have hw := hw.m6
        have hw := hw.m9
        have hw := hw.m9
        refine c_vv (As := [.int 2, .int (if 0 < (coal - 1) then (coal - 1) else 0), .int (if coal ≤ 0 then (cost + wc) else cost), .int set]) (rest := []) ⟨hx, hb, hml, hown, hts⟩ (k_X2_tryDay_2 l D c4 A ((yG c4 (la 1) (nI n) os kd ic br) :: Ts) sa tr la lc lS t f x c th pe cd dc wc dp lv bh mi fb ba n os2_81 kd2_81 ic2_81 br2_81 (fun y => nightQ c (q y)) gn go gk gi gb (if 0 < (coal - 1) then (coal - 1) else 0) (if coal ≤ 0 then (cost + wc) else cost) set hdp hn hY_81 hf hc hlv) (cwV 4 hts gX2_tryDay_X2_tryDay rfl rfl rfl (by decide +kernel) (rmv (Nat.le_of_ble_eq_true rfl) (Nat.le_of_ble_eq_true rfl) hRf hRl)) hK trivial hw rfl rfl rfl hl rfl (Nat.le_of_ble_eq_true rfl) ⟨Nat.zero_le _, Nat.zero_le _⟩ dX2_tryDay_94 (fun u_94 H locs hpq hw => ?_)
        obtain ⟨lc2_94, lS2_94, bh2_94, mi2_94, fb2_94, ba2_94, gn2_94, go2_94, gk2_94, gi2_94, gb2_94⟩ := u_94
        have hw : gW D A js.heap ((sG c4 sa (tr 0) lc2_94 lS2_94 (nI dp) t f x c th pe cd dc wc lv) :: (tG c4 tr bh2_94 mi2_94 fb2_94 ba2_94) :: (yG c4 (la 2) (nI n) os2_81 kd2_81 ic2_81 br2_81) :: (yG c4 (la 3) (gn2_94 3) (go2_94 3) (gk2_94 3) (gi2_94 3) (gb2_94 3)) :: (yG c4 (la 4) (gn2_94 4) (go2_94 4) (gk2_94 4) (gi2_94 4) (gb2_94 4)) :: (yG c4 (la 5) (gn2_94 5) (go2_94 5) (gk2_94 5) (gi2_94 5) (gb2_94 5)) :: (yG c4 (la 6) (gn2_94 6) (go2_94 6) (gk2_94 6) (gi2_94 6) (gb2_94 6)) :: (yG c4 (la 7) (gn2_94 7) (go2_94 7) (gk2_94 7) (gi2_94 7) (gb2_94 7)) :: (yG c4 (la 8) (gn2_94 8) (go2_94 8) (gk2_94 8) (gi2_94 8) (gb2_94 8)) :: (yG c4 (la 1) (nI n) os kd ic br) :: Ts) H locs := hw
        have hS_94 := hpq
        have hS_94 : (lc2_94, lS2_94) = srch n f x t c cd dc wc (dp - 2) 2 (fun y => nightQ c (q y)) (if 0 < (coal - 1) then (coal - 1) else 0) (if coal ≤ 0 then (cost + wc) else cost) set (lc, lS) := hS_94
        refine lv_aload_n hx hb dX2_tryDay_97 rfl (lv_at hl 4 rfl) ?_
        refine r_get (T := TX2) (v := .ref (tr 0)) hx hb hts hi2 hown hK hw 0 rfl rfl 2 (by decide) f_9 rfl dX2_tryDay_98 ?_
        refine lv_aload hx hb dX2_tryDay_101 (lv_at hl 1 rfl) ?_
        refine lv_aload_n hx hb dX2_tryDay_103 rfl (lv_at hl 4 rfl) ?_
        refine r_get (T := TX2) (v := .int f) hx hb hts hi2 hown hK hw 0 rfl rfl 6 (by decide) f_10 rfl dX2_tryDay_104 ?_
        refine lv_aload_n hx hb dX2_tryDay_107 rfl (lv_at hl 4 rfl) ?_
        refine r_get (T := TX2) (v := .int x) hx hb hts hi2 hown hK hw 0 rfl rfl 7 (by decide) f_11 rfl dX2_tryDay_108 ?_
        refine lv_aload_n hx hb dX2_tryDay_111 rfl (lv_at hl 4 rfl) ?_
        refine r_get (T := TX2) (v := .int t) hx hb hts hi2 hown hK hw 0 rfl rfl 5 (by decide) f_12 rfl dX2_tryDay_112 ?_
        have hw := hw.m9
        have hw := hw.m2
        refine c_vi (As := [.ref ((la 1) 0), .int f, .int x, .int t]) (rest := []) ⟨hx, hb, hml, hown, hts⟩ (k_X4_passes l D c4 A ((sG c4 sa (tr 0) lc2_94 lS2_94 (nI dp) t f x c th pe cd dc wc lv) :: (yG c4 (la 2) (nI n) os2_81 kd2_81 ic2_81 br2_81) :: (yG c4 (la 3) (gn2_94 3) (go2_94 3) (gk2_94 3) (gi2_94 3) (gb2_94 3)) :: (yG c4 (la 4) (gn2_94 4) (go2_94 4) (gk2_94 4) (gi2_94 4) (gb2_94 4)) :: (yG c4 (la 5) (gn2_94 5) (go2_94 5) (gk2_94 5) (gi2_94 5) (gb2_94 5)) :: (yG c4 (la 6) (gn2_94 6) (go2_94 6) (gk2_94 6) (gi2_94 6) (gb2_94 6)) :: (yG c4 (la 7) (gn2_94 7) (go2_94 7) (gk2_94 7) (gi2_94 7) (gb2_94 7)) :: (yG c4 (la 8) (gn2_94 8) (go2_94 8) (gk2_94 8) (gi2_94 8) (gb2_94 8)) :: Ts) tr bh2_94 mi2_94 fb2_94 ba2_94 (la 1) n os kd ic br q f x t hn hY hf) (cwV 4 hts gX2_tryDay_X4_passes rfl rfl rfl (by decide +kernel) (rmv (Nat.le_of_ble_eq_true rfl) (Nat.le_of_ble_eq_true rfl) hRf hRl)) hK trivial hw rfl rfl rfl hl rfl (Nat.le_of_ble_eq_true rfl) ⟨Nat.zero_le _, Nat.zero_le _⟩ dX2_tryDay_115 (fun r_115 u_115 H locs hpq hw => ?_)
        obtain ⟨b2_115, ba2_115⟩ := u_115
        have hw : gW D A js.heap ((tG c4 tr (nI b2_115) (cumQ f x q b2_115) (fbQ q b2_115) ba2_115) :: (yG c4 (la 1) (nI n) os kd ic br) :: (sG c4 sa (tr 0) lc2_94 lS2_94 (nI dp) t f x c th pe cd dc wc lv) :: (yG c4 (la 2) (nI n) os2_81 kd2_81 ic2_81 br2_81) :: (yG c4 (la 3) (gn2_94 3) (go2_94 3) (gk2_94 3) (gi2_94 3) (gb2_94 3)) :: (yG c4 (la 4) (gn2_94 4) (go2_94 4) (gk2_94 4) (gi2_94 4) (gb2_94 4)) :: (yG c4 (la 5) (gn2_94 5) (go2_94 5) (gk2_94 5) (gi2_94 5) (gb2_94 5)) :: (yG c4 (la 6) (gn2_94 6) (go2_94 6) (gk2_94 6) (gi2_94 6) (gb2_94 6)) :: (yG c4 (la 7) (gn2_94 7) (go2_94 7) (gk2_94 7) (gi2_94 7) (gb2_94 7)) :: (yG c4 (la 8) (gn2_94 8) (go2_94 8) (gk2_94 8) (gi2_94 8) (gb2_94 8)) :: Ts) H locs := hw
        obtain ⟨h0_115, h1_115, hb2_115, hba_115⟩ := hpq
        have h0_115 : r_115 = 0 → ¬ b2_115 = n := h0_115
        have h1_115 : ¬ r_115 = 0 → b2_115 = n := h1_115
        have hb2_115 : b2_115 = bhQ f x t q n := hb2_115
        have hba_115 : ∀ k, k < b2_115 → ba2_115 k = cumQ f x q (k + 1) := hba_115
        refine lv_istore (lv' := [(9, .int r_115), (8, .ref ((la 2) 0)), (7, .ref ((la 1) 0)), (6, .int (if coal ≤ 0 then (cost + wc) else cost)), (5, .int (if 0 < (coal - 1) then (coal - 1) else 0)), (0, .ref (sa 0)), (1, .int 1), (2, .int coal), (3, .int cost), (4, .int set)]) hx hb dX2_tryDay_118 hl (by decide) rfl (fun ls hl => ?_)
        refine lv_aload hx hb dX2_tryDay_120 (lv_at hl 1 rfl) ?_
        refine lv_aload hx hb dX2_tryDay_122 (lv_at hl 2 rfl) ?_
        have hw := hw.m1
        have hw := hw.m3
        refine c_vv (As := [.ref ((la 1) 0)]) (rest := []) ⟨hx, hb, hml, hown, hts⟩ (k_X6_copyFrom l D c4 A ((tG c4 tr (nI b2_115) (cumQ f x q b2_115) (fbQ q b2_115) ba2_115) :: (sG c4 sa (tr 0) lc2_94 lS2_94 (nI dp) t f x c th pe cd dc wc lv) :: (yG c4 (la 3) (gn2_94 3) (go2_94 3) (gk2_94 3) (gi2_94 3) (gb2_94 3)) :: (yG c4 (la 4) (gn2_94 4) (go2_94 4) (gk2_94 4) (gi2_94 4) (gb2_94 4)) :: (yG c4 (la 5) (gn2_94 5) (go2_94 5) (gk2_94 5) (gi2_94 5) (gb2_94 5)) :: (yG c4 (la 6) (gn2_94 6) (go2_94 6) (gk2_94 6) (gi2_94 6) (gb2_94 6)) :: (yG c4 (la 7) (gn2_94 7) (go2_94 7) (gk2_94 7) (gi2_94 7) (gb2_94 7)) :: (yG c4 (la 8) (gn2_94 8) (go2_94 8) (gk2_94 8) (gi2_94 8) (gb2_94 8)) :: Ts) (la 2) (nI n) os2_81 kd2_81 ic2_81 br2_81 (la 1) n os kd ic br q hn hY) (cwV 1 hts gX2_tryDay_X6_copyFrom rfl rfl rfl (by decide +kernel) (rmv (Nat.le_of_ble_eq_true rfl) (Nat.le_of_ble_eq_true rfl) hRf hRl)) hK trivial hw rfl rfl rfl hl rfl (Nat.le_of_ble_eq_true rfl) ⟨Nat.zero_le _, Nat.zero_le _⟩ dX2_tryDay_124 (fun u_124 H locs hpq hw => ?_)
        obtain ⟨kd2_124, ic2_124, br2_124⟩ := u_124
        have hw : gW D A js.heap ((yG c4 (la 2) (nI n) os kd2_124 ic2_124 br2_124) :: (yG c4 (la 1) (nI n) os kd ic br) :: (tG c4 tr (nI b2_115) (cumQ f x q b2_115) (fbQ q b2_115) ba2_115) :: (sG c4 sa (tr 0) lc2_94 lS2_94 (nI dp) t f x c th pe cd dc wc lv) :: (yG c4 (la 3) (gn2_94 3) (go2_94 3) (gk2_94 3) (gi2_94 3) (gb2_94 3)) :: (yG c4 (la 4) (gn2_94 4) (go2_94 4) (gk2_94 4) (gi2_94 4) (gb2_94 4)) :: (yG c4 (la 5) (gn2_94 5) (go2_94 5) (gk2_94 5) (gi2_94 5) (gb2_94 5)) :: (yG c4 (la 6) (gn2_94 6) (go2_94 6) (gk2_94 6) (gi2_94 6) (gb2_94 6)) :: (yG c4 (la 7) (gn2_94 7) (go2_94 7) (gk2_94 7) (gi2_94 7) (gb2_94 7)) :: (yG c4 (la 8) (gn2_94 8) (go2_94 8) (gk2_94 8) (gi2_94 8) (gb2_94 8)) :: Ts) H locs := hw
        have hY_124 := hpq
        have hY_124 : yR q n os kd2_124 ic2_124 br2_124 := hY_124
        refine lv_aload hx hb dX2_tryDay_127 (lv_at hl 1 rfl) ?_
        refine lv_aload_n hx hb dX2_tryDay_129 rfl (lv_at hl 5 rfl) ?_
        refine r_get (T := TX2) (v := .ref (tr 0)) hx hb hts hi2 hown hK hw 10 rfl rfl 2 (by decide) f_9 rfl dX2_tryDay_130 ?_
        refine r_get (T := TX4) (v := .int (nI b2_115)) hx hb hts hi4 hown hK hw 8 rfl rfl 0 (by decide) f_13 rfl dX2_tryDay_133 ?_
        refine c_vv (As := [.int (nI b2_115)]) (rest := []) ⟨hx, hb, hml, hown, hts⟩ (k_X6_openFirst l D c4 A ((yG c4 (la 1) (nI n) os kd ic br) :: (tG c4 tr (nI b2_115) (cumQ f x q b2_115) (fbQ q b2_115) ba2_115) :: (sG c4 sa (tr 0) lc2_94 lS2_94 (nI dp) t f x c th pe cd dc wc lv) :: (yG c4 (la 3) (gn2_94 3) (go2_94 3) (gk2_94 3) (gi2_94 3) (gb2_94 3)) :: (yG c4 (la 4) (gn2_94 4) (go2_94 4) (gk2_94 4) (gi2_94 4) (gb2_94 4)) :: (yG c4 (la 5) (gn2_94 5) (go2_94 5) (gk2_94 5) (gi2_94 5) (gb2_94 5)) :: (yG c4 (la 6) (gn2_94 6) (go2_94 6) (gk2_94 6) (gi2_94 6) (gb2_94 6)) :: (yG c4 (la 7) (gn2_94 7) (go2_94 7) (gk2_94 7) (gi2_94 7) (gb2_94 7)) :: (yG c4 (la 8) (gn2_94 8) (go2_94 8) (gk2_94 8) (gi2_94 8) (gb2_94 8)) :: Ts) (la 2) n os kd2_124 ic2_124 br2_124 q b2_115 hn hY_124 (by rw [hb2_115]; exact bh_le _ _ _ _ _)) (cwV 1 hts gX2_tryDay_X6_openFirst rfl rfl rfl (by decide +kernel) (rmv (Nat.le_of_ble_eq_true rfl) (Nat.le_of_ble_eq_true rfl) hRf hRl)) hK trivial hw rfl rfl rfl hl rfl (Nat.le_of_ble_eq_true rfl) ⟨Nat.zero_le _, Nat.zero_le _⟩ dX2_tryDay_136 (fun u_136 H locs hpq hw => ?_)
        obtain ⟨os2_136, ic2_136, br2_136⟩ := u_136
        have hw : gW D A js.heap ((yG c4 (la 2) (nI n) os2_136 kd2_124 ic2_136 br2_136) :: (yG c4 (la 1) (nI n) os kd ic br) :: (tG c4 tr (nI b2_115) (cumQ f x q b2_115) (fbQ q b2_115) ba2_115) :: (sG c4 sa (tr 0) lc2_94 lS2_94 (nI dp) t f x c th pe cd dc wc lv) :: (yG c4 (la 3) (gn2_94 3) (go2_94 3) (gk2_94 3) (gi2_94 3) (gb2_94 3)) :: (yG c4 (la 4) (gn2_94 4) (go2_94 4) (gk2_94 4) (gi2_94 4) (gb2_94 4)) :: (yG c4 (la 5) (gn2_94 5) (go2_94 5) (gk2_94 5) (gi2_94 5) (gb2_94 5)) :: (yG c4 (la 6) (gn2_94 6) (go2_94 6) (gk2_94 6) (gi2_94 6) (gb2_94 6)) :: (yG c4 (la 7) (gn2_94 7) (go2_94 7) (gk2_94 7) (gi2_94 7) (gb2_94 7)) :: (yG c4 (la 8) (gn2_94 8) (go2_94 8) (gk2_94 8) (gi2_94 8) (gb2_94 8)) :: Ts) H locs := hw
        have hY_136 := hpq
        have hY_136 : yR (mixQ openQ q b2_115) n os2_136 kd2_124 ic2_136 br2_136 := hY_136
        refine lv_aload hx hb dX2_tryDay_139 (lv_at hl 1 rfl) ?_
        refine lv_aload_n hx hb dX2_tryDay_141 rfl (lv_at hl 5 rfl) ?_
        refine r_get (T := TX2) (v := .int c) hx hb hts hi2 hown hK hw 10 rfl rfl 8 (by decide) f_8 rfl dX2_tryDay_142 ?_
        refine c_vv (As := [.int c]) (rest := []) ⟨hx, hb, hml, hown, hts⟩ (k_X6_freeze l D c4 A ((yG c4 (la 1) (nI n) os kd ic br) :: (tG c4 tr (nI b2_115) (cumQ f x q b2_115) (fbQ q b2_115) ba2_115) :: (sG c4 sa (tr 0) lc2_94 lS2_94 (nI dp) t f x c th pe cd dc wc lv) :: (yG c4 (la 3) (gn2_94 3) (go2_94 3) (gk2_94 3) (gi2_94 3) (gb2_94 3)) :: (yG c4 (la 4) (gn2_94 4) (go2_94 4) (gk2_94 4) (gi2_94 4) (gb2_94 4)) :: (yG c4 (la 5) (gn2_94 5) (go2_94 5) (gk2_94 5) (gi2_94 5) (gb2_94 5)) :: (yG c4 (la 6) (gn2_94 6) (go2_94 6) (gk2_94 6) (gi2_94 6) (gb2_94 6)) :: (yG c4 (la 7) (gn2_94 7) (go2_94 7) (gk2_94 7) (gi2_94 7) (gb2_94 7)) :: (yG c4 (la 8) (gn2_94 8) (go2_94 8) (gk2_94 8) (gi2_94 8) (gb2_94 8)) :: Ts) (la 2) n os2_136 kd2_124 ic2_136 br2_136 (mixQ openQ q b2_115) c hn hY_136 hc) (cwV 1 hts gX2_tryDay_X6_freeze rfl rfl rfl (by decide +kernel) (rmv (Nat.le_of_ble_eq_true rfl) (Nat.le_of_ble_eq_true rfl) hRf hRl)) hK trivial hw rfl rfl rfl hl rfl (Nat.le_of_ble_eq_true rfl) ⟨Nat.zero_le _, Nat.zero_le _⟩ dX2_tryDay_145 (fun u_145 H locs hpq hw => ?_)
        obtain ⟨os2_145, kd2_145, ic2_145, br2_145⟩ := u_145
        have hw : gW D A js.heap ((yG c4 (la 2) (nI n) os2_145 kd2_145 ic2_145 br2_145) :: (yG c4 (la 1) (nI n) os kd ic br) :: (tG c4 tr (nI b2_115) (cumQ f x q b2_115) (fbQ q b2_115) ba2_115) :: (sG c4 sa (tr 0) lc2_94 lS2_94 (nI dp) t f x c th pe cd dc wc lv) :: (yG c4 (la 3) (gn2_94 3) (go2_94 3) (gk2_94 3) (gi2_94 3) (gb2_94 3)) :: (yG c4 (la 4) (gn2_94 4) (go2_94 4) (gk2_94 4) (gi2_94 4) (gb2_94 4)) :: (yG c4 (la 5) (gn2_94 5) (go2_94 5) (gk2_94 5) (gi2_94 5) (gb2_94 5)) :: (yG c4 (la 6) (gn2_94 6) (go2_94 6) (gk2_94 6) (gi2_94 6) (gb2_94 6)) :: (yG c4 (la 7) (gn2_94 7) (go2_94 7) (gk2_94 7) (gi2_94 7) (gb2_94 7)) :: (yG c4 (la 8) (gn2_94 8) (go2_94 8) (gk2_94 8) (gi2_94 8) (gb2_94 8)) :: Ts) H locs := hw
        have hY_145 := hpq
        have hY_145 : yR (fun y => nightQ c ((mixQ openQ q b2_115) y)) n os2_145 kd2_145 ic2_145 br2_145 := hY_145
        refine lv_iload hx hb dX2_tryDay_148 (lv_at hl 0 rfl) ?_
        have kj_150 : ∀ (w_2 : Int32) (ls : Array Slot), w_2 = (if r_115 = 0 then (if 0 < (coal - 1) then (coal - 1) else 0) else cd) → lv_has ls 11 [(9, .int r_115), (8, .ref ((la 2) 0)), (7, .ref ((la 1) 0)), (6, .int (if coal ≤ 0 then (cost + wc) else cost)), (5, .int (if 0 < (coal - 1) then (coal - 1) else 0)), (0, .ref (sa 0)), (1, .int 1), (2, .int coal), (3, .int cost), (4, .int set)] → W jp l je R js jm args below meth jc H locs 0 0 Q (F0 jm 162 ls [.int w_2]) := by
          intro w_2 ls e_w_2 hl
          subst e_w_2
          refine lv_istore (lv' := [(10, .int (if r_115 = 0 then (if 0 < (coal - 1) then (coal - 1) else 0) else cd)), (9, .int r_115), (8, .ref ((la 2) 0)), (7, .ref ((la 1) 0)), (6, .int (if coal ≤ 0 then (cost + wc) else cost)), (5, .int (if 0 < (coal - 1) then (coal - 1) else 0)), (0, .ref (sa 0)), (1, .int 1), (2, .int coal), (3, .int cost), (4, .int set)]) hx hb dX2_tryDay_162 hl (by decide) rfl (fun ls hl => ?_)
          refine lv_aload_n hx hb dX2_tryDay_164 rfl (lv_at hl 6 rfl) ?_
          refine lv_iload_n hx hb dX2_tryDay_165 rfl (lv_at hl 7 rfl) ?_
          refine lv_iconst (v := 1) hx hb dX2_tryDay_166 (by decide) ?_
          refine r_addN hx hb 1 1 dX2_tryDay_167 ?_
          refine lv_iload hx hb dX2_tryDay_168 (lv_at hl 0 rfl) ?_
          refine lv_iload hx hb dX2_tryDay_170 (lv_at hl 4 rfl) ?_
          refine lv_aload_n hx hb dX2_tryDay_172 rfl (lv_at hl 6 rfl) ?_
          refine r_get (T := TX2) (v := .int dc) hx hb hts hi2 hown hK hw 10 rfl rfl 12 (by decide) f_15 rfl dX2_tryDay_173 ?_
          refine lv_iadd hx hb dX2_tryDay_176 ?_
          refine lv_iload hx hb dX2_tryDay_177 (lv_at hl 10 rfl) ?_
          refine lv_iconst (v := 1) hx hb dX2_tryDay_179 (by decide) ?_
          refine lv_iload_n hx hb dX2_tryDay_180 rfl (lv_at hl 7 rfl) ?_
          refine lv_ishl hx hb dX2_tryDay_181 ?_
          refine lv_ior hx hb dX2_tryDay_182 ?_
          have hw := hw.m9
          have hw := hw.m9
          have hw := hw.m9
          have hw := hw.m9
          have hw := hw.m9
          have hw := hw.m9
          have hw := hw.m6
          have hw := hw.m8
          have hw := hw.m9
          refine c_vv (As := [.int 2, .int (if r_115 = 0 then (if 0 < (coal - 1) then (coal - 1) else 0) else cd), .int ((if coal ≤ 0 then (cost + wc) else cost) + dc), .int (set ||| ((1 : Int32) <<< ((1 : Int32) &&& 31)))]) (rest := []) ⟨hx, hb, hml, hown, hts⟩ (k_X2_tryDay_2 l D c4 A ((yG c4 (la 1) (nI n) os kd ic br) :: Ts) sa tr la lc2_94 lS2_94 t f x c th pe cd dc wc dp lv (nI b2_115) (cumQ f x q b2_115) (fbQ q b2_115) ba2_115 n os2_145 kd2_145 ic2_145 br2_145 (fun y => nightQ c ((mixQ openQ q b2_115) y)) gn2_94 go2_94 gk2_94 gi2_94 gb2_94 (if r_115 = 0 then (if 0 < (coal - 1) then (coal - 1) else 0) else cd) ((if coal ≤ 0 then (cost + wc) else cost) + dc) (set ||| ((1 : Int32) <<< ((1 : Int32) &&& 31))) hdp hn hY_145 hf hc hlv) (cwV 4 hts gX2_tryDay_X2_tryDay rfl rfl rfl (by decide +kernel) (rmv (Nat.le_of_ble_eq_true rfl) (Nat.le_of_ble_eq_true rfl) hRf hRl)) hK trivial hw rfl rfl rfl hl rfl (Nat.le_of_ble_eq_true rfl) ⟨Nat.zero_le _, Nat.zero_le _⟩ dX2_tryDay_183 (fun u_183 H locs hpq hw => ?_)
          obtain ⟨lc2_183, lS2_183, bh2_183, mi2_183, fb2_183, ba2_183, gn2_183, go2_183, gk2_183, gi2_183, gb2_183⟩ := u_183
          have hw : gW D A js.heap ((sG c4 sa (tr 0) lc2_183 lS2_183 (nI dp) t f x c th pe cd dc wc lv) :: (tG c4 tr bh2_183 mi2_183 fb2_183 ba2_183) :: (yG c4 (la 2) (nI n) os2_145 kd2_145 ic2_145 br2_145) :: (yG c4 (la 3) (gn2_183 3) (go2_183 3) (gk2_183 3) (gi2_183 3) (gb2_183 3)) :: (yG c4 (la 4) (gn2_183 4) (go2_183 4) (gk2_183 4) (gi2_183 4) (gb2_183 4)) :: (yG c4 (la 5) (gn2_183 5) (go2_183 5) (gk2_183 5) (gi2_183 5) (gb2_183 5)) :: (yG c4 (la 6) (gn2_183 6) (go2_183 6) (gk2_183 6) (gi2_183 6) (gb2_183 6)) :: (yG c4 (la 7) (gn2_183 7) (go2_183 7) (gk2_183 7) (gi2_183 7) (gb2_183 7)) :: (yG c4 (la 8) (gn2_183 8) (go2_183 8) (gk2_183 8) (gi2_183 8) (gb2_183 8)) :: (yG c4 (la 1) (nI n) os kd ic br) :: Ts) H locs := hw
          have hS_183 := hpq
          have hS_183 : (lc2_183, lS2_183) = srch n f x t c cd dc wc (dp - 2) 2 (fun y => nightQ c ((mixQ openQ q b2_115) y)) (if r_115 = 0 then (if 0 < (coal - 1) then (coal - 1) else 0) else cd) ((if coal ≤ 0 then (cost + wc) else cost) + dc) (set ||| ((1 : Int32) <<< ((1 : Int32) &&& 31))) (lc2_94, lS2_94) := hS_183
          have hw := hw.m8
          have hw := hw.m8
          have hw := hw.m8
          have hw := hw.m8
          have hw := hw.m8
          have hw := hw.m8
          have hw := hw.m8
          have hw := hw.m9
          have hw := hw.m9
          have hw := hw.m9
          exact kr (lc2_183, lS2_183, bh2_183, mi2_183, fb2_183, ba2_183, upd gn2_183 2 (nI n), upd go2_183 2 os2_145, va_up gk2_183 2 kd2_145, va_up gi2_183 2 ic2_145, va_up gb2_183 2 br2_145) _ _ _ _ hw (sr_node (d := 1) c_14 c_5 hS_94 hb2_115 h0_115 h1_115 hS_183) dX2_tryDay_186
        refine lv_if_eq (tgt := 160) hx hb dX2_tryDay_150 (by decide) (fun c_150 => ?_) (fun c_150 => ?_)
        · refine lv_iload hx hb dX2_tryDay_160 (lv_at hl 4 rfl) ?_
          exact kj_150 _ ls (by first | rfl | (rw [if_pos c_150]; done) | (simp only [if_pos c_150]; done) | simp [c_150]) (lv_sub hl [0, 1, 2, 3, 4, 5, 6, 7, 8, 9] rfl)
        · refine lv_aload_n hx hb dX2_tryDay_153 rfl (lv_at hl 5 rfl) ?_
          refine r_get (T := TX2) (v := .int cd) hx hb hts hi2 hown hK hw 10 rfl rfl 11 (by decide) f_14 rfl dX2_tryDay_154 ?_
          refine lv_goto (tgt := 162) hx hb dX2_tryDay_157 (by decide) ?_
          exact kj_150 _ ls (by first | rfl | (rw [if_neg c_150]; done) | (simp only [if_neg c_150]; done) | simp [c_150]) (lv_sub hl [0, 1, 2, 3, 4, 5, 6, 7, 8, 9] rfl)
      refine lv_if_le (tgt := 42) hx hb dX2_tryDay_35 (by decide) (fun c_35 => ?_) (fun c_35 => ?_)
      · refine lv_iload_n hx hb dX2_tryDay_42 rfl (lv_at hl 4 rfl) ?_
        refine lv_aload_n hx hb dX2_tryDay_43 rfl (lv_at hl 1 rfl) ?_
        refine r_get (T := TX2) (v := .int wc) hx hb hts hi2 hown hK hw 0 rfl rfl 13 (by decide) f_6 rfl dX2_tryDay_44 ?_
        refine lv_iadd hx hb dX2_tryDay_47 ?_
        exact kj_35 _ ls (by first | rfl | (rw [if_pos c_35]; done) | (simp only [if_pos c_35]; done) | simp [c_35]) (lv_sub hl [0, 1, 2, 3, 4, 5] rfl)
      · refine lv_iload_n hx hb dX2_tryDay_38 rfl (lv_at hl 4 rfl) ?_
        refine lv_goto (tgt := 48) hx hb dX2_tryDay_39 (by decide) ?_
        exact kj_35 _ ls (by first | rfl | (rw [if_neg c_35]; done) | (simp only [if_neg c_35]; done) | simp [c_35]) (lv_sub hl [0, 1, 2, 3, 4, 5] rfl)
    · refine lv_aload_n hx hb dX2_tryDay_17 rfl (lv_at hl 0 rfl) ?_
      refine lv_iload_n hx hb dX2_tryDay_18 rfl (lv_at hl 3 rfl) ?_
      refine lv_iload hx hb dX2_tryDay_19 (lv_at hl 4 rfl) ?_
      refine c_vv (As := [.int cost, .int set]) (rest := []) ⟨hx, hb, hml, hown, hts⟩ (k_X2_takeIfBetter l D c4 A ((tG c4 tr bh mi fb ba) :: (yG c4 (la 1) (nI n) os kd ic br) :: (yG c4 (la 2) (gn 2) (go 2) (gk 2) (gi 2) (gb 2)) :: (yG c4 (la 3) (gn 3) (go 3) (gk 3) (gi 3) (gb 3)) :: (yG c4 (la 4) (gn 4) (go 4) (gk 4) (gi 4) (gb 4)) :: (yG c4 (la 5) (gn 5) (go 5) (gk 5) (gi 5) (gb 5)) :: (yG c4 (la 6) (gn 6) (go 6) (gk 6) (gi 6) (gb 6)) :: (yG c4 (la 7) (gn 7) (go 7) (gk 7) (gi 7) (gb 7)) :: (yG c4 (la 8) (gn 8) (go 8) (gk 8) (gi 8) (gb 8)) :: Ts) sa tr lc lS t f x c th pe cd dc wc dp lv cost set) (cwV 2 hts gX2_tryDay_X2_takeIfBetter rfl rfl rfl (by decide +kernel) (rmv (Nat.le_of_ble_eq_true rfl) (Nat.le_of_ble_eq_true rfl) hRf hRl)) hK trivial hw rfl rfl rfl hl rfl (Nat.le_of_ble_eq_true rfl) ⟨Nat.zero_le _, Nat.zero_le _⟩ dX2_tryDay_21 (fun u_21 H locs hpq hw => ?_)
      obtain ⟨lc2_21, lS2_21⟩ := u_21
      have hw : gW D A js.heap ((sG c4 sa (tr 0) lc2_21 lS2_21 (nI dp) t f x c th pe cd dc wc lv) :: (tG c4 tr bh mi fb ba) :: (yG c4 (la 1) (nI n) os kd ic br) :: (yG c4 (la 2) (gn 2) (go 2) (gk 2) (gi 2) (gb 2)) :: (yG c4 (la 3) (gn 3) (go 3) (gk 3) (gi 3) (gb 3)) :: (yG c4 (la 4) (gn 4) (go 4) (gk 4) (gi 4) (gb 4)) :: (yG c4 (la 5) (gn 5) (go 5) (gk 5) (gi 5) (gb 5)) :: (yG c4 (la 6) (gn 6) (go 6) (gk 6) (gi 6) (gb 6)) :: (yG c4 (la 7) (gn 7) (go 7) (gk 7) (gi 7) (gb 7)) :: (yG c4 (la 8) (gn 8) (go 8) (gk 8) (gi 8) (gb 8)) :: Ts) H locs := hw
      have hB_21 := hpq
      have hB_21 : (lc2_21, lS2_21) = betP cost set (lc, lS) := hB_21
      exact kr (lc2_21, lS2_21, bh, mi, fb, ba, gn, go, gk, gi, gb) _ _ _ _ hw (sr_leaf c_14 c_5 hB_21) dX2_tryDay_24
  · exact kr (lc, lS, bh, mi, fb, ba, gn, go, gk, gi, gb) _ _ _ _ hw (sr_out (b := (lc, lS)) c_5) dX2_tryDay_8
set_option maxHeartbeats 4000000 in
set_option maxRecDepth 100000 in
theorem k_X2_tryDay_0 (l : Launch) (D : va_G) (c4 : Nat → ClassId) (A : Nat → Prop) (Ts : List va_W) (sa : Nat → Nat) (tr : Nat → Nat) (la : Nat → Nat → Nat) (lc : Int32) (lS : Int32) (t : Int32) (f : Int32) (x : Int32) (c : Int32) (th : Int32) (pe : Int32) (cd : Int32) (dc : Int32) (wc : Int32) (dp : Nat) (lv : Nat → Option Nat) (bh : Int32) (mi : Int32) (fb : Int32) (ba : Nat → Int32) (n : Nat) (os : Int32) (kd : Nat → Int32) (ic : Nat → Int32) (br : Nat → Int32) (q : Nat → Yq) (gn : Nat → Int32) (go : Nat → Int32) (gk : Nat → Nat → Int32) (gi : Nat → Nat → Int32) (gb : Nat → Nat → Int32) (coal : Int32) (cost : Int32) (set : Int32) (hdp : dp ≤ 8) (hn : n ≤ 12) (hY : yR q n os kd ic br) (hf : fOk f x) (hc : 0 ≤ c.toInt ∧ c.toInt ≤ 30) (hlv : ∀ k, k < 9 → lv k = some (la k 0)) : Cv l yX2_tryDay wsX2_tryDay 10 284 [.ref (sa 0), .int 0, .int coal, .int cost, .int set] D (tyA c4) A none ((sG c4 sa (tr 0) lc lS (nI dp) t f x c th pe cd dc wc lv) :: (tG c4 tr bh mi fb ba) :: (yG c4 (la 0) (nI n) os kd ic br) :: (yG c4 (la 1) (gn 1) (go 1) (gk 1) (gi 1) (gb 1)) :: (yG c4 (la 2) (gn 2) (go 2) (gk 2) (gi 2) (gb 2)) :: (yG c4 (la 3) (gn 3) (go 3) (gk 3) (gi 3) (gb 3)) :: (yG c4 (la 4) (gn 4) (go 4) (gk 4) (gi 4) (gb 4)) :: (yG c4 (la 5) (gn 5) (go 5) (gk 5) (gi 5) (gb 5)) :: (yG c4 (la 6) (gn 6) (go 6) (gk 6) (gi 6) (gb 6)) :: (yG c4 (la 7) (gn 7) (go 7) (gk 7) (gi 7) (gb 7)) :: (yG c4 (la 8) (gn 8) (go 8) (gk 8) (gi 8) (gb 8)) :: Ts) (S := Int32 × Int32 × Int32 × Int32 × Int32 × (Nat → Int32) × (Nat → Int32) × (Nat → Int32) × (Nat → Nat → Int32) × (Nat → Nat → Int32) × (Nat → Nat → Int32)) (fun (u : Int32 × Int32 × Int32 × Int32 × Int32 × (Nat → Int32) × (Nat → Int32) × (Nat → Int32) × (Nat → Nat → Int32) × (Nat → Nat → Int32) × (Nat → Nat → Int32)) => (u.1, u.2.1) = srch n f x t c cd dc wc (dp - 0) 0 q coal cost set (lc, lS)) (fun u => ((sG c4 sa (tr 0) u.1 u.2.1 (nI dp) t f x c th pe cd dc wc lv) :: (tG c4 tr u.2.2.1 u.2.2.2.1 u.2.2.2.2.1 u.2.2.2.2.2.1) :: (yG c4 (la 0) (nI n) os kd ic br) :: (yG c4 (la 1) (u.2.2.2.2.2.2.1 1) (u.2.2.2.2.2.2.2.1 1) (u.2.2.2.2.2.2.2.2.1 1) (u.2.2.2.2.2.2.2.2.2.1 1) (u.2.2.2.2.2.2.2.2.2.2 1)) :: (yG c4 (la 2) (u.2.2.2.2.2.2.1 2) (u.2.2.2.2.2.2.2.1 2) (u.2.2.2.2.2.2.2.2.1 2) (u.2.2.2.2.2.2.2.2.2.1 2) (u.2.2.2.2.2.2.2.2.2.2 2)) :: (yG c4 (la 3) (u.2.2.2.2.2.2.1 3) (u.2.2.2.2.2.2.2.1 3) (u.2.2.2.2.2.2.2.2.1 3) (u.2.2.2.2.2.2.2.2.2.1 3) (u.2.2.2.2.2.2.2.2.2.2 3)) :: (yG c4 (la 4) (u.2.2.2.2.2.2.1 4) (u.2.2.2.2.2.2.2.1 4) (u.2.2.2.2.2.2.2.2.1 4) (u.2.2.2.2.2.2.2.2.2.1 4) (u.2.2.2.2.2.2.2.2.2.2 4)) :: (yG c4 (la 5) (u.2.2.2.2.2.2.1 5) (u.2.2.2.2.2.2.2.1 5) (u.2.2.2.2.2.2.2.2.1 5) (u.2.2.2.2.2.2.2.2.2.1 5) (u.2.2.2.2.2.2.2.2.2.2 5)) :: (yG c4 (la 6) (u.2.2.2.2.2.2.1 6) (u.2.2.2.2.2.2.2.1 6) (u.2.2.2.2.2.2.2.2.1 6) (u.2.2.2.2.2.2.2.2.2.1 6) (u.2.2.2.2.2.2.2.2.2.2 6)) :: (yG c4 (la 7) (u.2.2.2.2.2.2.1 7) (u.2.2.2.2.2.2.2.1 7) (u.2.2.2.2.2.2.2.2.1 7) (u.2.2.2.2.2.2.2.2.2.1 7) (u.2.2.2.2.2.2.2.2.2.2 7)) :: (yG c4 (la 8) (u.2.2.2.2.2.2.1 8) (u.2.2.2.2.2.2.2.1 8) (u.2.2.2.2.2.2.2.2.1 8) (u.2.2.2.2.2.2.2.2.2.1 8) (u.2.2.2.2.2.2.2.2.2.2 8)) :: Ts)) := by
  refine cOv (cc := cX2_tryDay) (maxL := 11) (by decide) rfl (Nat.le_of_ble_eq_true rfl) rfl ?_
  rintro jp je js jm below meth jc ls args R Q H locs hRf hRl ⟨hx, hb, hml, hr, hts, hown, hlocks, hK, hX⟩ hw hl kr
  have hown : js.vm.findClass RX2 = some jm.cls := hown
  have f_0 := hts (.fieldLink RX2 86 "IceSway$Search" "leastCost" "I") (by decide +kernel)
  have f_1 := hts (.fieldLink RX2 41 "IceSway$Search" "depth" "I") (by decide +kernel)
  have f_2 := hts (.methodLink RX2 100 Lib.Math.max.name) (by decide +kernel)
  have f_3 := hts (.static Lib.Math.max.name) (by decide +kernel)
  have f_4 := hts (.initialized "java/lang/Math") (by decide +kernel)
  have f_5 := hts (.code Lib.Math.max.name Lib.Math.max.code 2 (some .int)) (by decide +kernel)
  have f_6 := hts (.fieldLink RX2 83 "IceSway$Search" "wantCost" "I") (by decide +kernel)
  have f_7 := hts (.fieldLink RX2 20 "IceSway$Search" "levels" "[LIceSway$Yards;") (by decide +kernel)
  have f_8 := hts (.fieldLink RX2 67 "IceSway$Search" "cold" "I") (by decide +kernel)
  have f_9 := hts (.fieldLink RX2 12 "IceSway$Search" "trip" "LIceSway$Trip;") (by decide +kernel)
  have f_10 := hts (.fieldLink RX2 57 "IceSway$Search" "force" "I") (by decide +kernel)
  have f_11 := hts (.fieldLink RX2 64 "IceSway$Search" "axe" "I") (by decide +kernel)
  have f_12 := hts (.fieldLink RX2 45 "IceSway$Search" "minutes" "I") (by decide +kernel)
  have f_13 := hts (.fieldLink RX2 111 "IceSway$Trip" "behind" "I") (by decide +kernel)
  have f_14 := hts (.fieldLink RX2 73 "IceSway$Search" "coalDays" "I") (by decide +kernel)
  have f_15 := hts (.fieldLink RX2 78 "IceSway$Search" "dayCost" "I") (by decide +kernel)
  have hi2 : ∀ w ∈ u_ws RX2 TX2 14, w ∈ wsX2_tryDay := fun w h => List.mem_cons_of_mem _ (List.mem_append_left _ (List.mem_append_left _ (List.mem_append_right _ h)))
  have hi4 : ∀ w ∈ u_ws RX4 TX4 4, w ∈ wsX2_tryDay := fun w h => List.mem_cons_of_mem _ (List.mem_append_left _ (List.mem_append_right _ h))
  refine lv_iload_n hx hb dX2_tryDay_0 rfl (lv_at hl 3 rfl) ?_
  refine lv_aload_n hx hb dX2_tryDay_1 rfl (lv_at hl 0 rfl) ?_
  refine r_get (T := TX2) (v := .int lc) hx hb hts hi2 hown hK hw 0 rfl rfl 0 (by decide) f_0 rfl dX2_tryDay_2 ?_
  refine lv_icmp_le (tgt := 9) hx hb dX2_tryDay_5 (by decide) (fun c_5 => ?_) (fun c_5 => ?_)
  · refine lv_iload_n hx hb dX2_tryDay_9 rfl (lv_at hl 1 rfl) ?_
    refine lv_aload_n hx hb dX2_tryDay_10 rfl (lv_at hl 0 rfl) ?_
    refine r_get (T := TX2) (v := .int (nI dp)) hx hb hts hi2 hown hK hw 0 rfl rfl 4 (by decide) f_1 rfl dX2_tryDay_11 ?_
    refine r_clt hx hb 0 dp (by omega) (by omega) (tgt := 25) dX2_tryDay_14 (by decide) (fun c_14 => ?_) (fun c_14 => ?_)
    · refine lv_iconst (v := 0) hx hb dX2_tryDay_25 (by decide) ?_
      refine lv_iload_n hx hb dX2_tryDay_26 rfl (lv_at hl 2 rfl) ?_
      refine lv_iconst (v := 1) hx hb dX2_tryDay_27 (by decide) ?_
      refine lv_isub hx hb dX2_tryDay_28 ?_
      refine va_mmax hx hb (hml.trans hl.1.symm) hown f_2 f_3 f_4 f_5 (by rw [hRf]; exact Nat.le_of_ble_eq_true rfl) (by rw [hRl]; exact Nat.le_of_ble_eq_true rfl) (Nat.zero_le _) (Nat.zero_le _) dX2_tryDay_29 ?_
      refine lv_istore (lv' := [(5, .int (if 0 < (coal - 1) then (coal - 1) else 0)), (0, .ref (sa 0)), (1, .int 0), (2, .int coal), (3, .int cost), (4, .int set)]) hx hb dX2_tryDay_32 hl (by decide) rfl (fun ls hl => ?_)
      refine lv_iload_n hx hb dX2_tryDay_34 rfl (lv_at hl 3 rfl) ?_
      have kj_35 : ∀ (w_1 : Int32) (ls : Array Slot), w_1 = (if coal ≤ 0 then (cost + wc) else cost) → lv_has ls 11 [(5, .int (if 0 < (coal - 1) then (coal - 1) else 0)), (0, .ref (sa 0)), (1, .int 0), (2, .int coal), (3, .int cost), (4, .int set)] → W jp l je R js jm args below meth jc H locs 0 0 Q (F0 jm 48 ls [.int w_1]) := by
        intro w_1 ls e_w_1 hl
        subst e_w_1
        refine lv_istore (lv' := [(6, .int (if coal ≤ 0 then (cost + wc) else cost)), (5, .int (if 0 < (coal - 1) then (coal - 1) else 0)), (0, .ref (sa 0)), (1, .int 0), (2, .int coal), (3, .int cost), (4, .int set)]) hx hb dX2_tryDay_48 hl (by decide) rfl (fun ls hl => ?_)
        refine lv_aload_n hx hb dX2_tryDay_50 rfl (lv_at hl 2 rfl) ?_
        refine r_get (T := TX2) (v := .ref (sa 1)) hx hb hts hi2 hown hK hw 0 rfl rfl 3 (by decide) f_7 rfl dX2_tryDay_51 ?_
        refine lv_iload_n hx hb dX2_tryDay_54 rfl (lv_at hl 3 rfl) ?_
        refine r_aald hx hb hK hw 1 3 rfl rfl 0 (by decide) (by decide) (b := ((la 0) 0)) (hlv 0 (by decide)) dX2_tryDay_55 ?_
        refine lv_astore (lv' := [(7, .ref ((la 0) 0)), (6, .int (if coal ≤ 0 then (cost + wc) else cost)), (5, .int (if 0 < (coal - 1) then (coal - 1) else 0)), (0, .ref (sa 0)), (1, .int 0), (2, .int coal), (3, .int cost), (4, .int set)]) hx hb dX2_tryDay_56 hl (by decide) rfl (fun ls hl => ?_)
        refine lv_aload_n hx hb dX2_tryDay_58 rfl (lv_at hl 3 rfl) ?_
        refine r_get (T := TX2) (v := .ref (sa 1)) hx hb hts hi2 hown hK hw 0 rfl rfl 3 (by decide) f_7 rfl dX2_tryDay_59 ?_
        refine lv_iload_n hx hb dX2_tryDay_62 rfl (lv_at hl 4 rfl) ?_
        refine lv_iconst (v := 1) hx hb dX2_tryDay_63 (by decide) ?_
        refine r_addN hx hb 0 1 dX2_tryDay_64 ?_
        refine r_aald hx hb hK hw 1 3 rfl rfl 1 (by decide) (by decide) (b := ((la 1) 0)) (hlv 1 (by decide)) dX2_tryDay_65 ?_
        refine lv_astore (lv' := [(8, .ref ((la 1) 0)), (7, .ref ((la 0) 0)), (6, .int (if coal ≤ 0 then (cost + wc) else cost)), (5, .int (if 0 < (coal - 1) then (coal - 1) else 0)), (0, .ref (sa 0)), (1, .int 0), (2, .int coal), (3, .int cost), (4, .int set)]) hx hb dX2_tryDay_66 hl (by decide) rfl (fun ls hl => ?_)
        refine lv_aload hx hb dX2_tryDay_68 (lv_at hl 0 rfl) ?_
        refine lv_aload hx hb dX2_tryDay_70 (lv_at hl 1 rfl) ?_
        have hw := hw.m2
        have hw := hw.m3
        refine c_vv (As := [.ref ((la 0) 0)]) (rest := []) ⟨hx, hb, hml, hown, hts⟩ (k_X6_copyFrom l D c4 A ((sG c4 sa (tr 0) lc lS (nI dp) t f x c th pe cd dc wc lv) :: (tG c4 tr bh mi fb ba) :: (yG c4 (la 2) (gn 2) (go 2) (gk 2) (gi 2) (gb 2)) :: (yG c4 (la 3) (gn 3) (go 3) (gk 3) (gi 3) (gb 3)) :: (yG c4 (la 4) (gn 4) (go 4) (gk 4) (gi 4) (gb 4)) :: (yG c4 (la 5) (gn 5) (go 5) (gk 5) (gi 5) (gb 5)) :: (yG c4 (la 6) (gn 6) (go 6) (gk 6) (gi 6) (gb 6)) :: (yG c4 (la 7) (gn 7) (go 7) (gk 7) (gi 7) (gb 7)) :: (yG c4 (la 8) (gn 8) (go 8) (gk 8) (gi 8) (gb 8)) :: Ts) (la 1) (gn 1) (go 1) (gk 1) (gi 1) (gb 1) (la 0) n os kd ic br q hn hY) (cwV 1 hts gX2_tryDay_X6_copyFrom rfl rfl rfl (by decide +kernel) (rmv (Nat.le_of_ble_eq_true rfl) (Nat.le_of_ble_eq_true rfl) hRf hRl)) hK trivial hw rfl rfl rfl hl rfl (Nat.le_of_ble_eq_true rfl) ⟨Nat.zero_le _, Nat.zero_le _⟩ dX2_tryDay_72 (fun u_72 H locs hpq hw => ?_)
        obtain ⟨kd2_72, ic2_72, br2_72⟩ := u_72
        have hw : gW D A js.heap ((yG c4 (la 1) (nI n) os kd2_72 ic2_72 br2_72) :: (yG c4 (la 0) (nI n) os kd ic br) :: (sG c4 sa (tr 0) lc lS (nI dp) t f x c th pe cd dc wc lv) :: (tG c4 tr bh mi fb ba) :: (yG c4 (la 2) (gn 2) (go 2) (gk 2) (gi 2) (gb 2)) :: (yG c4 (la 3) (gn 3) (go 3) (gk 3) (gi 3) (gb 3)) :: (yG c4 (la 4) (gn 4) (go 4) (gk 4) (gi 4) (gb 4)) :: (yG c4 (la 5) (gn 5) (go 5) (gk 5) (gi 5) (gb 5)) :: (yG c4 (la 6) (gn 6) (go 6) (gk 6) (gi 6) (gb 6)) :: (yG c4 (la 7) (gn 7) (go 7) (gk 7) (gi 7) (gb 7)) :: (yG c4 (la 8) (gn 8) (go 8) (gk 8) (gi 8) (gb 8)) :: Ts) H locs := hw
        have hY_72 := hpq
        have hY_72 : yR q n os kd2_72 ic2_72 br2_72 := hY_72
        refine lv_aload hx hb dX2_tryDay_75 (lv_at hl 0 rfl) ?_
        refine lv_aload_n hx hb dX2_tryDay_77 rfl (lv_at hl 4 rfl) ?_
        refine r_get (T := TX2) (v := .int c) hx hb hts hi2 hown hK hw 8 rfl rfl 8 (by decide) f_8 rfl dX2_tryDay_78 ?_
        refine c_vv (As := [.int c]) (rest := []) ⟨hx, hb, hml, hown, hts⟩ (k_X6_freeze l D c4 A ((yG c4 (la 0) (nI n) os kd ic br) :: (sG c4 sa (tr 0) lc lS (nI dp) t f x c th pe cd dc wc lv) :: (tG c4 tr bh mi fb ba) :: (yG c4 (la 2) (gn 2) (go 2) (gk 2) (gi 2) (gb 2)) :: (yG c4 (la 3) (gn 3) (go 3) (gk 3) (gi 3) (gb 3)) :: (yG c4 (la 4) (gn 4) (go 4) (gk 4) (gi 4) (gb 4)) :: (yG c4 (la 5) (gn 5) (go 5) (gk 5) (gi 5) (gb 5)) :: (yG c4 (la 6) (gn 6) (go 6) (gk 6) (gi 6) (gb 6)) :: (yG c4 (la 7) (gn 7) (go 7) (gk 7) (gi 7) (gb 7)) :: (yG c4 (la 8) (gn 8) (go 8) (gk 8) (gi 8) (gb 8)) :: Ts) (la 1) n os kd2_72 ic2_72 br2_72 q c hn hY_72 hc) (cwV 1 hts gX2_tryDay_X6_freeze rfl rfl rfl (by decide +kernel) (rmv (Nat.le_of_ble_eq_true rfl) (Nat.le_of_ble_eq_true rfl) hRf hRl)) hK trivial hw rfl rfl rfl hl rfl (Nat.le_of_ble_eq_true rfl) ⟨Nat.zero_le _, Nat.zero_le _⟩ dX2_tryDay_81 (fun u_81 H locs hpq hw => ?_)
        obtain ⟨os2_81, kd2_81, ic2_81, br2_81⟩ := u_81
        have hw : gW D A js.heap ((yG c4 (la 1) (nI n) os2_81 kd2_81 ic2_81 br2_81) :: (yG c4 (la 0) (nI n) os kd ic br) :: (sG c4 sa (tr 0) lc lS (nI dp) t f x c th pe cd dc wc lv) :: (tG c4 tr bh mi fb ba) :: (yG c4 (la 2) (gn 2) (go 2) (gk 2) (gi 2) (gb 2)) :: (yG c4 (la 3) (gn 3) (go 3) (gk 3) (gi 3) (gb 3)) :: (yG c4 (la 4) (gn 4) (go 4) (gk 4) (gi 4) (gb 4)) :: (yG c4 (la 5) (gn 5) (go 5) (gk 5) (gi 5) (gb 5)) :: (yG c4 (la 6) (gn 6) (go 6) (gk 6) (gi 6) (gb 6)) :: (yG c4 (la 7) (gn 7) (go 7) (gk 7) (gi 7) (gb 7)) :: (yG c4 (la 8) (gn 8) (go 8) (gk 8) (gi 8) (gb 8)) :: Ts) H locs := hw
        have hY_81 := hpq
        have hY_81 : yR (fun y => nightQ c (q y)) n os2_81 kd2_81 ic2_81 br2_81 := hY_81
        refine lv_aload_n hx hb dX2_tryDay_84 rfl (lv_at hl 4 rfl) ?_
        refine lv_iload_n hx hb dX2_tryDay_85 rfl (lv_at hl 5 rfl) ?_
        refine lv_iconst (v := 1) hx hb dX2_tryDay_86 (by decide) ?_
        refine r_addN hx hb 0 1 dX2_tryDay_87 ?_
        refine lv_iload hx hb dX2_tryDay_88 (lv_at hl 3 rfl) ?_
        refine lv_iload hx hb dX2_tryDay_90 (lv_at hl 2 rfl) ?_
        refine lv_iload hx hb dX2_tryDay_92 (lv_at hl 8 rfl) ?_
        have hw := hw.m10
        have hw := hw.m10
        have hw := hw.m10
        have hw := hw.m10
        have hw := hw.m10
        have hw := hw.m10
        have hw := hw.m10
        have hw := hw.m7
        have hw := hw.m10
        have hw := hw.m10
        refine c_vv (As := [.int 1, .int (if 0 < (coal - 1) then (coal - 1) else 0), .int (if coal ≤ 0 then (cost + wc) else cost), .int set]) (rest := []) ⟨hx, hb, hml, hown, hts⟩ (k_X2_tryDay_1 l D c4 A ((yG c4 (la 0) (nI n) os kd ic br) :: Ts) sa tr la lc lS t f x c th pe cd dc wc dp lv bh mi fb ba n os2_81 kd2_81 ic2_81 br2_81 (fun y => nightQ c (q y)) gn go gk gi gb (if 0 < (coal - 1) then (coal - 1) else 0) (if coal ≤ 0 then (cost + wc) else cost) set hdp hn hY_81 hf hc hlv) (cwV 4 hts gX2_tryDay_X2_tryDay rfl rfl rfl (by decide +kernel) (rmv (Nat.le_of_ble_eq_true rfl) (Nat.le_of_ble_eq_true rfl) hRf hRl)) hK trivial hw rfl rfl rfl hl rfl (Nat.le_of_ble_eq_true rfl) ⟨Nat.zero_le _, Nat.zero_le _⟩ dX2_tryDay_94 (fun u_94 H locs hpq hw => ?_)
        obtain ⟨lc2_94, lS2_94, bh2_94, mi2_94, fb2_94, ba2_94, gn2_94, go2_94, gk2_94, gi2_94, gb2_94⟩ := u_94
        have hw : gW D A js.heap ((sG c4 sa (tr 0) lc2_94 lS2_94 (nI dp) t f x c th pe cd dc wc lv) :: (tG c4 tr bh2_94 mi2_94 fb2_94 ba2_94) :: (yG c4 (la 1) (nI n) os2_81 kd2_81 ic2_81 br2_81) :: (yG c4 (la 2) (gn2_94 2) (go2_94 2) (gk2_94 2) (gi2_94 2) (gb2_94 2)) :: (yG c4 (la 3) (gn2_94 3) (go2_94 3) (gk2_94 3) (gi2_94 3) (gb2_94 3)) :: (yG c4 (la 4) (gn2_94 4) (go2_94 4) (gk2_94 4) (gi2_94 4) (gb2_94 4)) :: (yG c4 (la 5) (gn2_94 5) (go2_94 5) (gk2_94 5) (gi2_94 5) (gb2_94 5)) :: (yG c4 (la 6) (gn2_94 6) (go2_94 6) (gk2_94 6) (gi2_94 6) (gb2_94 6)) :: (yG c4 (la 7) (gn2_94 7) (go2_94 7) (gk2_94 7) (gi2_94 7) (gb2_94 7)) :: (yG c4 (la 8) (gn2_94 8) (go2_94 8) (gk2_94 8) (gi2_94 8) (gb2_94 8)) :: (yG c4 (la 0) (nI n) os kd ic br) :: Ts) H locs := hw
        have hS_94 := hpq
        have hS_94 : (lc2_94, lS2_94) = srch n f x t c cd dc wc (dp - 1) 1 (fun y => nightQ c (q y)) (if 0 < (coal - 1) then (coal - 1) else 0) (if coal ≤ 0 then (cost + wc) else cost) set (lc, lS) := hS_94
        refine lv_aload_n hx hb dX2_tryDay_97 rfl (lv_at hl 4 rfl) ?_
        refine r_get (T := TX2) (v := .ref (tr 0)) hx hb hts hi2 hown hK hw 0 rfl rfl 2 (by decide) f_9 rfl dX2_tryDay_98 ?_
        refine lv_aload hx hb dX2_tryDay_101 (lv_at hl 1 rfl) ?_
        refine lv_aload_n hx hb dX2_tryDay_103 rfl (lv_at hl 4 rfl) ?_
        refine r_get (T := TX2) (v := .int f) hx hb hts hi2 hown hK hw 0 rfl rfl 6 (by decide) f_10 rfl dX2_tryDay_104 ?_
        refine lv_aload_n hx hb dX2_tryDay_107 rfl (lv_at hl 4 rfl) ?_
        refine r_get (T := TX2) (v := .int x) hx hb hts hi2 hown hK hw 0 rfl rfl 7 (by decide) f_11 rfl dX2_tryDay_108 ?_
        refine lv_aload_n hx hb dX2_tryDay_111 rfl (lv_at hl 4 rfl) ?_
        refine r_get (T := TX2) (v := .int t) hx hb hts hi2 hown hK hw 0 rfl rfl 5 (by decide) f_12 rfl dX2_tryDay_112 ?_
        have hw := hw.m10
        have hw := hw.m2
        refine c_vi (As := [.ref ((la 0) 0), .int f, .int x, .int t]) (rest := []) ⟨hx, hb, hml, hown, hts⟩ (k_X4_passes l D c4 A ((sG c4 sa (tr 0) lc2_94 lS2_94 (nI dp) t f x c th pe cd dc wc lv) :: (yG c4 (la 1) (nI n) os2_81 kd2_81 ic2_81 br2_81) :: (yG c4 (la 2) (gn2_94 2) (go2_94 2) (gk2_94 2) (gi2_94 2) (gb2_94 2)) :: (yG c4 (la 3) (gn2_94 3) (go2_94 3) (gk2_94 3) (gi2_94 3) (gb2_94 3)) :: (yG c4 (la 4) (gn2_94 4) (go2_94 4) (gk2_94 4) (gi2_94 4) (gb2_94 4)) :: (yG c4 (la 5) (gn2_94 5) (go2_94 5) (gk2_94 5) (gi2_94 5) (gb2_94 5)) :: (yG c4 (la 6) (gn2_94 6) (go2_94 6) (gk2_94 6) (gi2_94 6) (gb2_94 6)) :: (yG c4 (la 7) (gn2_94 7) (go2_94 7) (gk2_94 7) (gi2_94 7) (gb2_94 7)) :: (yG c4 (la 8) (gn2_94 8) (go2_94 8) (gk2_94 8) (gi2_94 8) (gb2_94 8)) :: Ts) tr bh2_94 mi2_94 fb2_94 ba2_94 (la 0) n os kd ic br q f x t hn hY hf) (cwV 4 hts gX2_tryDay_X4_passes rfl rfl rfl (by decide +kernel) (rmv (Nat.le_of_ble_eq_true rfl) (Nat.le_of_ble_eq_true rfl) hRf hRl)) hK trivial hw rfl rfl rfl hl rfl (Nat.le_of_ble_eq_true rfl) ⟨Nat.zero_le _, Nat.zero_le _⟩ dX2_tryDay_115 (fun r_115 u_115 H locs hpq hw => ?_)
        obtain ⟨b2_115, ba2_115⟩ := u_115
        have hw : gW D A js.heap ((tG c4 tr (nI b2_115) (cumQ f x q b2_115) (fbQ q b2_115) ba2_115) :: (yG c4 (la 0) (nI n) os kd ic br) :: (sG c4 sa (tr 0) lc2_94 lS2_94 (nI dp) t f x c th pe cd dc wc lv) :: (yG c4 (la 1) (nI n) os2_81 kd2_81 ic2_81 br2_81) :: (yG c4 (la 2) (gn2_94 2) (go2_94 2) (gk2_94 2) (gi2_94 2) (gb2_94 2)) :: (yG c4 (la 3) (gn2_94 3) (go2_94 3) (gk2_94 3) (gi2_94 3) (gb2_94 3)) :: (yG c4 (la 4) (gn2_94 4) (go2_94 4) (gk2_94 4) (gi2_94 4) (gb2_94 4)) :: (yG c4 (la 5) (gn2_94 5) (go2_94 5) (gk2_94 5) (gi2_94 5) (gb2_94 5)) :: (yG c4 (la 6) (gn2_94 6) (go2_94 6) (gk2_94 6) (gi2_94 6) (gb2_94 6)) :: (yG c4 (la 7) (gn2_94 7) (go2_94 7) (gk2_94 7) (gi2_94 7) (gb2_94 7)) :: (yG c4 (la 8) (gn2_94 8) (go2_94 8) (gk2_94 8) (gi2_94 8) (gb2_94 8)) :: Ts) H locs := hw
        obtain ⟨h0_115, h1_115, hb2_115, hba_115⟩ := hpq
        have h0_115 : r_115 = 0 → ¬ b2_115 = n := h0_115
        have h1_115 : ¬ r_115 = 0 → b2_115 = n := h1_115
        have hb2_115 : b2_115 = bhQ f x t q n := hb2_115
        have hba_115 : ∀ k, k < b2_115 → ba2_115 k = cumQ f x q (k + 1) := hba_115
        refine lv_istore (lv' := [(9, .int r_115), (8, .ref ((la 1) 0)), (7, .ref ((la 0) 0)), (6, .int (if coal ≤ 0 then (cost + wc) else cost)), (5, .int (if 0 < (coal - 1) then (coal - 1) else 0)), (0, .ref (sa 0)), (1, .int 0), (2, .int coal), (3, .int cost), (4, .int set)]) hx hb dX2_tryDay_118 hl (by decide) rfl (fun ls hl => ?_)
        refine lv_aload hx hb dX2_tryDay_120 (lv_at hl 1 rfl) ?_
        refine lv_aload hx hb dX2_tryDay_122 (lv_at hl 2 rfl) ?_
        have hw := hw.m1
        have hw := hw.m3
        refine c_vv (As := [.ref ((la 0) 0)]) (rest := []) ⟨hx, hb, hml, hown, hts⟩ (k_X6_copyFrom l D c4 A ((tG c4 tr (nI b2_115) (cumQ f x q b2_115) (fbQ q b2_115) ba2_115) :: (sG c4 sa (tr 0) lc2_94 lS2_94 (nI dp) t f x c th pe cd dc wc lv) :: (yG c4 (la 2) (gn2_94 2) (go2_94 2) (gk2_94 2) (gi2_94 2) (gb2_94 2)) :: (yG c4 (la 3) (gn2_94 3) (go2_94 3) (gk2_94 3) (gi2_94 3) (gb2_94 3)) :: (yG c4 (la 4) (gn2_94 4) (go2_94 4) (gk2_94 4) (gi2_94 4) (gb2_94 4)) :: (yG c4 (la 5) (gn2_94 5) (go2_94 5) (gk2_94 5) (gi2_94 5) (gb2_94 5)) :: (yG c4 (la 6) (gn2_94 6) (go2_94 6) (gk2_94 6) (gi2_94 6) (gb2_94 6)) :: (yG c4 (la 7) (gn2_94 7) (go2_94 7) (gk2_94 7) (gi2_94 7) (gb2_94 7)) :: (yG c4 (la 8) (gn2_94 8) (go2_94 8) (gk2_94 8) (gi2_94 8) (gb2_94 8)) :: Ts) (la 1) (nI n) os2_81 kd2_81 ic2_81 br2_81 (la 0) n os kd ic br q hn hY) (cwV 1 hts gX2_tryDay_X6_copyFrom rfl rfl rfl (by decide +kernel) (rmv (Nat.le_of_ble_eq_true rfl) (Nat.le_of_ble_eq_true rfl) hRf hRl)) hK trivial hw rfl rfl rfl hl rfl (Nat.le_of_ble_eq_true rfl) ⟨Nat.zero_le _, Nat.zero_le _⟩ dX2_tryDay_124 (fun u_124 H locs hpq hw => ?_)
        obtain ⟨kd2_124, ic2_124, br2_124⟩ := u_124
        have hw : gW D A js.heap ((yG c4 (la 1) (nI n) os kd2_124 ic2_124 br2_124) :: (yG c4 (la 0) (nI n) os kd ic br) :: (tG c4 tr (nI b2_115) (cumQ f x q b2_115) (fbQ q b2_115) ba2_115) :: (sG c4 sa (tr 0) lc2_94 lS2_94 (nI dp) t f x c th pe cd dc wc lv) :: (yG c4 (la 2) (gn2_94 2) (go2_94 2) (gk2_94 2) (gi2_94 2) (gb2_94 2)) :: (yG c4 (la 3) (gn2_94 3) (go2_94 3) (gk2_94 3) (gi2_94 3) (gb2_94 3)) :: (yG c4 (la 4) (gn2_94 4) (go2_94 4) (gk2_94 4) (gi2_94 4) (gb2_94 4)) :: (yG c4 (la 5) (gn2_94 5) (go2_94 5) (gk2_94 5) (gi2_94 5) (gb2_94 5)) :: (yG c4 (la 6) (gn2_94 6) (go2_94 6) (gk2_94 6) (gi2_94 6) (gb2_94 6)) :: (yG c4 (la 7) (gn2_94 7) (go2_94 7) (gk2_94 7) (gi2_94 7) (gb2_94 7)) :: (yG c4 (la 8) (gn2_94 8) (go2_94 8) (gk2_94 8) (gi2_94 8) (gb2_94 8)) :: Ts) H locs := hw
        have hY_124 := hpq
        have hY_124 : yR q n os kd2_124 ic2_124 br2_124 := hY_124
        refine lv_aload hx hb dX2_tryDay_127 (lv_at hl 1 rfl) ?_
        refine lv_aload_n hx hb dX2_tryDay_129 rfl (lv_at hl 5 rfl) ?_
        refine r_get (T := TX2) (v := .ref (tr 0)) hx hb hts hi2 hown hK hw 10 rfl rfl 2 (by decide) f_9 rfl dX2_tryDay_130 ?_
        refine r_get (T := TX4) (v := .int (nI b2_115)) hx hb hts hi4 hown hK hw 8 rfl rfl 0 (by decide) f_13 rfl dX2_tryDay_133 ?_
        refine c_vv (As := [.int (nI b2_115)]) (rest := []) ⟨hx, hb, hml, hown, hts⟩ (k_X6_openFirst l D c4 A ((yG c4 (la 0) (nI n) os kd ic br) :: (tG c4 tr (nI b2_115) (cumQ f x q b2_115) (fbQ q b2_115) ba2_115) :: (sG c4 sa (tr 0) lc2_94 lS2_94 (nI dp) t f x c th pe cd dc wc lv) :: (yG c4 (la 2) (gn2_94 2) (go2_94 2) (gk2_94 2) (gi2_94 2) (gb2_94 2)) :: (yG c4 (la 3) (gn2_94 3) (go2_94 3) (gk2_94 3) (gi2_94 3) (gb2_94 3)) :: (yG c4 (la 4) (gn2_94 4) (go2_94 4) (gk2_94 4) (gi2_94 4) (gb2_94 4)) :: (yG c4 (la 5) (gn2_94 5) (go2_94 5) (gk2_94 5) (gi2_94 5) (gb2_94 5)) :: (yG c4 (la 6) (gn2_94 6) (go2_94 6) (gk2_94 6) (gi2_94 6) (gb2_94 6)) :: (yG c4 (la 7) (gn2_94 7) (go2_94 7) (gk2_94 7) (gi2_94 7) (gb2_94 7)) :: (yG c4 (la 8) (gn2_94 8) (go2_94 8) (gk2_94 8) (gi2_94 8) (gb2_94 8)) :: Ts) (la 1) n os kd2_124 ic2_124 br2_124 q b2_115 hn hY_124 (by rw [hb2_115]; exact bh_le _ _ _ _ _)) (cwV 1 hts gX2_tryDay_X6_openFirst rfl rfl rfl (by decide +kernel) (rmv (Nat.le_of_ble_eq_true rfl) (Nat.le_of_ble_eq_true rfl) hRf hRl)) hK trivial hw rfl rfl rfl hl rfl (Nat.le_of_ble_eq_true rfl) ⟨Nat.zero_le _, Nat.zero_le _⟩ dX2_tryDay_136 (fun u_136 H locs hpq hw => ?_)
        obtain ⟨os2_136, ic2_136, br2_136⟩ := u_136
        have hw : gW D A js.heap ((yG c4 (la 1) (nI n) os2_136 kd2_124 ic2_136 br2_136) :: (yG c4 (la 0) (nI n) os kd ic br) :: (tG c4 tr (nI b2_115) (cumQ f x q b2_115) (fbQ q b2_115) ba2_115) :: (sG c4 sa (tr 0) lc2_94 lS2_94 (nI dp) t f x c th pe cd dc wc lv) :: (yG c4 (la 2) (gn2_94 2) (go2_94 2) (gk2_94 2) (gi2_94 2) (gb2_94 2)) :: (yG c4 (la 3) (gn2_94 3) (go2_94 3) (gk2_94 3) (gi2_94 3) (gb2_94 3)) :: (yG c4 (la 4) (gn2_94 4) (go2_94 4) (gk2_94 4) (gi2_94 4) (gb2_94 4)) :: (yG c4 (la 5) (gn2_94 5) (go2_94 5) (gk2_94 5) (gi2_94 5) (gb2_94 5)) :: (yG c4 (la 6) (gn2_94 6) (go2_94 6) (gk2_94 6) (gi2_94 6) (gb2_94 6)) :: (yG c4 (la 7) (gn2_94 7) (go2_94 7) (gk2_94 7) (gi2_94 7) (gb2_94 7)) :: (yG c4 (la 8) (gn2_94 8) (go2_94 8) (gk2_94 8) (gi2_94 8) (gb2_94 8)) :: Ts) H locs := hw
        have hY_136 := hpq
        have hY_136 : yR (mixQ openQ q b2_115) n os2_136 kd2_124 ic2_136 br2_136 := hY_136
        refine lv_aload hx hb dX2_tryDay_139 (lv_at hl 1 rfl) ?_
        refine lv_aload_n hx hb dX2_tryDay_141 rfl (lv_at hl 5 rfl) ?_
        refine r_get (T := TX2) (v := .int c) hx hb hts hi2 hown hK hw 10 rfl rfl 8 (by decide) f_8 rfl dX2_tryDay_142 ?_
        refine c_vv (As := [.int c]) (rest := []) ⟨hx, hb, hml, hown, hts⟩ (k_X6_freeze l D c4 A ((yG c4 (la 0) (nI n) os kd ic br) :: (tG c4 tr (nI b2_115) (cumQ f x q b2_115) (fbQ q b2_115) ba2_115) :: (sG c4 sa (tr 0) lc2_94 lS2_94 (nI dp) t f x c th pe cd dc wc lv) :: (yG c4 (la 2) (gn2_94 2) (go2_94 2) (gk2_94 2) (gi2_94 2) (gb2_94 2)) :: (yG c4 (la 3) (gn2_94 3) (go2_94 3) (gk2_94 3) (gi2_94 3) (gb2_94 3)) :: (yG c4 (la 4) (gn2_94 4) (go2_94 4) (gk2_94 4) (gi2_94 4) (gb2_94 4)) :: (yG c4 (la 5) (gn2_94 5) (go2_94 5) (gk2_94 5) (gi2_94 5) (gb2_94 5)) :: (yG c4 (la 6) (gn2_94 6) (go2_94 6) (gk2_94 6) (gi2_94 6) (gb2_94 6)) :: (yG c4 (la 7) (gn2_94 7) (go2_94 7) (gk2_94 7) (gi2_94 7) (gb2_94 7)) :: (yG c4 (la 8) (gn2_94 8) (go2_94 8) (gk2_94 8) (gi2_94 8) (gb2_94 8)) :: Ts) (la 1) n os2_136 kd2_124 ic2_136 br2_136 (mixQ openQ q b2_115) c hn hY_136 hc) (cwV 1 hts gX2_tryDay_X6_freeze rfl rfl rfl (by decide +kernel) (rmv (Nat.le_of_ble_eq_true rfl) (Nat.le_of_ble_eq_true rfl) hRf hRl)) hK trivial hw rfl rfl rfl hl rfl (Nat.le_of_ble_eq_true rfl) ⟨Nat.zero_le _, Nat.zero_le _⟩ dX2_tryDay_145 (fun u_145 H locs hpq hw => ?_)
        obtain ⟨os2_145, kd2_145, ic2_145, br2_145⟩ := u_145
        have hw : gW D A js.heap ((yG c4 (la 1) (nI n) os2_145 kd2_145 ic2_145 br2_145) :: (yG c4 (la 0) (nI n) os kd ic br) :: (tG c4 tr (nI b2_115) (cumQ f x q b2_115) (fbQ q b2_115) ba2_115) :: (sG c4 sa (tr 0) lc2_94 lS2_94 (nI dp) t f x c th pe cd dc wc lv) :: (yG c4 (la 2) (gn2_94 2) (go2_94 2) (gk2_94 2) (gi2_94 2) (gb2_94 2)) :: (yG c4 (la 3) (gn2_94 3) (go2_94 3) (gk2_94 3) (gi2_94 3) (gb2_94 3)) :: (yG c4 (la 4) (gn2_94 4) (go2_94 4) (gk2_94 4) (gi2_94 4) (gb2_94 4)) :: (yG c4 (la 5) (gn2_94 5) (go2_94 5) (gk2_94 5) (gi2_94 5) (gb2_94 5)) :: (yG c4 (la 6) (gn2_94 6) (go2_94 6) (gk2_94 6) (gi2_94 6) (gb2_94 6)) :: (yG c4 (la 7) (gn2_94 7) (go2_94 7) (gk2_94 7) (gi2_94 7) (gb2_94 7)) :: (yG c4 (la 8) (gn2_94 8) (go2_94 8) (gk2_94 8) (gi2_94 8) (gb2_94 8)) :: Ts) H locs := hw
        have hY_145 := hpq
        have hY_145 : yR (fun y => nightQ c ((mixQ openQ q b2_115) y)) n os2_145 kd2_145 ic2_145 br2_145 := hY_145
        refine lv_iload hx hb dX2_tryDay_148 (lv_at hl 0 rfl) ?_
        have kj_150 : ∀ (w_2 : Int32) (ls : Array Slot), w_2 = (if r_115 = 0 then (if 0 < (coal - 1) then (coal - 1) else 0) else cd) → lv_has ls 11 [(9, .int r_115), (8, .ref ((la 1) 0)), (7, .ref ((la 0) 0)), (6, .int (if coal ≤ 0 then (cost + wc) else cost)), (5, .int (if 0 < (coal - 1) then (coal - 1) else 0)), (0, .ref (sa 0)), (1, .int 0), (2, .int coal), (3, .int cost), (4, .int set)] → W jp l je R js jm args below meth jc H locs 0 0 Q (F0 jm 162 ls [.int w_2]) := by
          intro w_2 ls e_w_2 hl
          subst e_w_2
          refine lv_istore (lv' := [(10, .int (if r_115 = 0 then (if 0 < (coal - 1) then (coal - 1) else 0) else cd)), (9, .int r_115), (8, .ref ((la 1) 0)), (7, .ref ((la 0) 0)), (6, .int (if coal ≤ 0 then (cost + wc) else cost)), (5, .int (if 0 < (coal - 1) then (coal - 1) else 0)), (0, .ref (sa 0)), (1, .int 0), (2, .int coal), (3, .int cost), (4, .int set)]) hx hb dX2_tryDay_162 hl (by decide) rfl (fun ls hl => ?_)
          refine lv_aload_n hx hb dX2_tryDay_164 rfl (lv_at hl 6 rfl) ?_
          refine lv_iload_n hx hb dX2_tryDay_165 rfl (lv_at hl 7 rfl) ?_
          refine lv_iconst (v := 1) hx hb dX2_tryDay_166 (by decide) ?_
          refine r_addN hx hb 0 1 dX2_tryDay_167 ?_
          refine lv_iload hx hb dX2_tryDay_168 (lv_at hl 0 rfl) ?_
          refine lv_iload hx hb dX2_tryDay_170 (lv_at hl 4 rfl) ?_
          refine lv_aload_n hx hb dX2_tryDay_172 rfl (lv_at hl 6 rfl) ?_
          refine r_get (T := TX2) (v := .int dc) hx hb hts hi2 hown hK hw 10 rfl rfl 12 (by decide) f_15 rfl dX2_tryDay_173 ?_
          refine lv_iadd hx hb dX2_tryDay_176 ?_
          refine lv_iload hx hb dX2_tryDay_177 (lv_at hl 10 rfl) ?_
          refine lv_iconst (v := 1) hx hb dX2_tryDay_179 (by decide) ?_
          refine lv_iload_n hx hb dX2_tryDay_180 rfl (lv_at hl 7 rfl) ?_
          refine lv_ishl hx hb dX2_tryDay_181 ?_
          refine lv_ior hx hb dX2_tryDay_182 ?_
          have hw := hw.m10
          have hw := hw.m10
          have hw := hw.m10
          have hw := hw.m10
          have hw := hw.m10
          have hw := hw.m10
          have hw := hw.m10
          have hw := hw.m7
          have hw := hw.m9
          have hw := hw.m10
          refine c_vv (As := [.int 1, .int (if r_115 = 0 then (if 0 < (coal - 1) then (coal - 1) else 0) else cd), .int ((if coal ≤ 0 then (cost + wc) else cost) + dc), .int (set ||| ((1 : Int32) <<< ((0 : Int32) &&& 31)))]) (rest := []) ⟨hx, hb, hml, hown, hts⟩ (k_X2_tryDay_1 l D c4 A ((yG c4 (la 0) (nI n) os kd ic br) :: Ts) sa tr la lc2_94 lS2_94 t f x c th pe cd dc wc dp lv (nI b2_115) (cumQ f x q b2_115) (fbQ q b2_115) ba2_115 n os2_145 kd2_145 ic2_145 br2_145 (fun y => nightQ c ((mixQ openQ q b2_115) y)) gn2_94 go2_94 gk2_94 gi2_94 gb2_94 (if r_115 = 0 then (if 0 < (coal - 1) then (coal - 1) else 0) else cd) ((if coal ≤ 0 then (cost + wc) else cost) + dc) (set ||| ((1 : Int32) <<< ((0 : Int32) &&& 31))) hdp hn hY_145 hf hc hlv) (cwV 4 hts gX2_tryDay_X2_tryDay rfl rfl rfl (by decide +kernel) (rmv (Nat.le_of_ble_eq_true rfl) (Nat.le_of_ble_eq_true rfl) hRf hRl)) hK trivial hw rfl rfl rfl hl rfl (Nat.le_of_ble_eq_true rfl) ⟨Nat.zero_le _, Nat.zero_le _⟩ dX2_tryDay_183 (fun u_183 H locs hpq hw => ?_)
          obtain ⟨lc2_183, lS2_183, bh2_183, mi2_183, fb2_183, ba2_183, gn2_183, go2_183, gk2_183, gi2_183, gb2_183⟩ := u_183
          have hw : gW D A js.heap ((sG c4 sa (tr 0) lc2_183 lS2_183 (nI dp) t f x c th pe cd dc wc lv) :: (tG c4 tr bh2_183 mi2_183 fb2_183 ba2_183) :: (yG c4 (la 1) (nI n) os2_145 kd2_145 ic2_145 br2_145) :: (yG c4 (la 2) (gn2_183 2) (go2_183 2) (gk2_183 2) (gi2_183 2) (gb2_183 2)) :: (yG c4 (la 3) (gn2_183 3) (go2_183 3) (gk2_183 3) (gi2_183 3) (gb2_183 3)) :: (yG c4 (la 4) (gn2_183 4) (go2_183 4) (gk2_183 4) (gi2_183 4) (gb2_183 4)) :: (yG c4 (la 5) (gn2_183 5) (go2_183 5) (gk2_183 5) (gi2_183 5) (gb2_183 5)) :: (yG c4 (la 6) (gn2_183 6) (go2_183 6) (gk2_183 6) (gi2_183 6) (gb2_183 6)) :: (yG c4 (la 7) (gn2_183 7) (go2_183 7) (gk2_183 7) (gi2_183 7) (gb2_183 7)) :: (yG c4 (la 8) (gn2_183 8) (go2_183 8) (gk2_183 8) (gi2_183 8) (gb2_183 8)) :: (yG c4 (la 0) (nI n) os kd ic br) :: Ts) H locs := hw
          have hS_183 := hpq
          have hS_183 : (lc2_183, lS2_183) = srch n f x t c cd dc wc (dp - 1) 1 (fun y => nightQ c ((mixQ openQ q b2_115) y)) (if r_115 = 0 then (if 0 < (coal - 1) then (coal - 1) else 0) else cd) ((if coal ≤ 0 then (cost + wc) else cost) + dc) (set ||| ((1 : Int32) <<< ((0 : Int32) &&& 31))) (lc2_94, lS2_94) := hS_183
          have hw := hw.m9
          have hw := hw.m9
          have hw := hw.m9
          have hw := hw.m9
          have hw := hw.m9
          have hw := hw.m9
          have hw := hw.m9
          have hw := hw.m9
          have hw := hw.m10
          have hw := hw.m10
          have hw := hw.m10
          exact kr (lc2_183, lS2_183, bh2_183, mi2_183, fb2_183, ba2_183, upd gn2_183 1 (nI n), upd go2_183 1 os2_145, va_up gk2_183 1 kd2_145, va_up gi2_183 1 ic2_145, va_up gb2_183 1 br2_145) _ _ _ _ hw (sr_node (d := 0) c_14 c_5 hS_94 hb2_115 h0_115 h1_115 hS_183) dX2_tryDay_186
        refine lv_if_eq (tgt := 160) hx hb dX2_tryDay_150 (by decide) (fun c_150 => ?_) (fun c_150 => ?_)
        · refine lv_iload hx hb dX2_tryDay_160 (lv_at hl 4 rfl) ?_
          exact kj_150 _ ls (by first | rfl | (rw [if_pos c_150]; done) | (simp only [if_pos c_150]; done) | simp [c_150]) (lv_sub hl [0, 1, 2, 3, 4, 5, 6, 7, 8, 9] rfl)
        · refine lv_aload_n hx hb dX2_tryDay_153 rfl (lv_at hl 5 rfl) ?_
          refine r_get (T := TX2) (v := .int cd) hx hb hts hi2 hown hK hw 10 rfl rfl 11 (by decide) f_14 rfl dX2_tryDay_154 ?_
          refine lv_goto (tgt := 162) hx hb dX2_tryDay_157 (by decide) ?_
          exact kj_150 _ ls (by first | rfl | (rw [if_neg c_150]; done) | (simp only [if_neg c_150]; done) | simp [c_150]) (lv_sub hl [0, 1, 2, 3, 4, 5, 6, 7, 8, 9] rfl)
      refine lv_if_le (tgt := 42) hx hb dX2_tryDay_35 (by decide) (fun c_35 => ?_) (fun c_35 => ?_)
      · refine lv_iload_n hx hb dX2_tryDay_42 rfl (lv_at hl 4 rfl) ?_
        refine lv_aload_n hx hb dX2_tryDay_43 rfl (lv_at hl 1 rfl) ?_
        refine r_get (T := TX2) (v := .int wc) hx hb hts hi2 hown hK hw 0 rfl rfl 13 (by decide) f_6 rfl dX2_tryDay_44 ?_
        refine lv_iadd hx hb dX2_tryDay_47 ?_
        exact kj_35 _ ls (by first | rfl | (rw [if_pos c_35]; done) | (simp only [if_pos c_35]; done) | simp [c_35]) (lv_sub hl [0, 1, 2, 3, 4, 5] rfl)
      · refine lv_iload_n hx hb dX2_tryDay_38 rfl (lv_at hl 4 rfl) ?_
        refine lv_goto (tgt := 48) hx hb dX2_tryDay_39 (by decide) ?_
        exact kj_35 _ ls (by first | rfl | (rw [if_neg c_35]; done) | (simp only [if_neg c_35]; done) | simp [c_35]) (lv_sub hl [0, 1, 2, 3, 4, 5] rfl)
    · refine lv_aload_n hx hb dX2_tryDay_17 rfl (lv_at hl 0 rfl) ?_
      refine lv_iload_n hx hb dX2_tryDay_18 rfl (lv_at hl 3 rfl) ?_
      refine lv_iload hx hb dX2_tryDay_19 (lv_at hl 4 rfl) ?_
      refine c_vv (As := [.int cost, .int set]) (rest := []) ⟨hx, hb, hml, hown, hts⟩ (k_X2_takeIfBetter l D c4 A ((tG c4 tr bh mi fb ba) :: (yG c4 (la 0) (nI n) os kd ic br) :: (yG c4 (la 1) (gn 1) (go 1) (gk 1) (gi 1) (gb 1)) :: (yG c4 (la 2) (gn 2) (go 2) (gk 2) (gi 2) (gb 2)) :: (yG c4 (la 3) (gn 3) (go 3) (gk 3) (gi 3) (gb 3)) :: (yG c4 (la 4) (gn 4) (go 4) (gk 4) (gi 4) (gb 4)) :: (yG c4 (la 5) (gn 5) (go 5) (gk 5) (gi 5) (gb 5)) :: (yG c4 (la 6) (gn 6) (go 6) (gk 6) (gi 6) (gb 6)) :: (yG c4 (la 7) (gn 7) (go 7) (gk 7) (gi 7) (gb 7)) :: (yG c4 (la 8) (gn 8) (go 8) (gk 8) (gi 8) (gb 8)) :: Ts) sa tr lc lS t f x c th pe cd dc wc dp lv cost set) (cwV 2 hts gX2_tryDay_X2_takeIfBetter rfl rfl rfl (by decide +kernel) (rmv (Nat.le_of_ble_eq_true rfl) (Nat.le_of_ble_eq_true rfl) hRf hRl)) hK trivial hw rfl rfl rfl hl rfl (Nat.le_of_ble_eq_true rfl) ⟨Nat.zero_le _, Nat.zero_le _⟩ dX2_tryDay_21 (fun u_21 H locs hpq hw => ?_)
      obtain ⟨lc2_21, lS2_21⟩ := u_21
      have hw : gW D A js.heap ((sG c4 sa (tr 0) lc2_21 lS2_21 (nI dp) t f x c th pe cd dc wc lv) :: (tG c4 tr bh mi fb ba) :: (yG c4 (la 0) (nI n) os kd ic br) :: (yG c4 (la 1) (gn 1) (go 1) (gk 1) (gi 1) (gb 1)) :: (yG c4 (la 2) (gn 2) (go 2) (gk 2) (gi 2) (gb 2)) :: (yG c4 (la 3) (gn 3) (go 3) (gk 3) (gi 3) (gb 3)) :: (yG c4 (la 4) (gn 4) (go 4) (gk 4) (gi 4) (gb 4)) :: (yG c4 (la 5) (gn 5) (go 5) (gk 5) (gi 5) (gb 5)) :: (yG c4 (la 6) (gn 6) (go 6) (gk 6) (gi 6) (gb 6)) :: (yG c4 (la 7) (gn 7) (go 7) (gk 7) (gi 7) (gb 7)) :: (yG c4 (la 8) (gn 8) (go 8) (gk 8) (gi 8) (gb 8)) :: Ts) H locs := hw
      have hB_21 := hpq
      have hB_21 : (lc2_21, lS2_21) = betP cost set (lc, lS) := hB_21
      exact kr (lc2_21, lS2_21, bh, mi, fb, ba, gn, go, gk, gi, gb) _ _ _ _ hw (sr_leaf c_14 c_5 hB_21) dX2_tryDay_24
  · exact kr (lc, lS, bh, mi, fb, ba, gn, go, gk, gi, gb) _ _ _ _ hw (sr_out (b := (lc, lS)) c_5) dX2_tryDay_8
