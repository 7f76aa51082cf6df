set_option maxHeartbeats 4000000 in
set_option maxRecDepth 100000 in
theorem k_X2_start (l : Launch) (D : va_G) (c4 : Nat → ClassId) (A : Nat → Prop) (Ts : List va_W) (sa : Nat → Nat) (tr : Nat → Nat) (la : Nat → Nat → Nat) (lc : Int32) (lS : Int32) (t : Int32) (f : Int32) (x : Int32) (c : Int32) (th : Int32) (pe : Int32) (cd : Int32) (dc : Int32) (wc : Int32) (dp : Int32) (lv : Nat → Option Nat) (n0 : Int32) (os0 : Int32) (kd0 : Nat → Int32) (ic0 : Nat → Int32) (br0 : Nat → Int32) (w : Nat) (bt : Int32) (nt : Int32) (sd : Int32) (b : Nat → Nat) (n : Nat) (os : Int32) (kd : Nat → Int32) (ic : Nat → Int32) (br : Nat → Int32) (q : Nat → Yq) (bo : Nat → Nat) (nb : Nat → Int32) (k : Nat) (t2 : Int32) (hn : n ≤ 12) (hY : yR q n os kd ic br) (hlv : ∀ k, k < 9 → lv k = some (la k 0)) (hk : k ≤ 8) : Cv l yX2_start wsX2_start 3 59 [.ref (sa 0), .ref w, .ref (bo 0), .int (nI k), .int t2] D (tyA c4) A none ((sG c4 sa (tr 0) lc lS dp t f x c th pe cd dc wc lv) :: (yG c4 (la 0) n0 os0 kd0 ic0 br0) :: (wG w (b 0) bt nt sd) :: (yG c4 b (nI n) os kd ic br) :: (bG c4 bo nb) :: Ts) (S := (Nat → Int32) × (Nat → Int32) × (Nat → Int32)) (fun (u : (Nat → Int32) × (Nat → Int32) × (Nat → Int32)) => yR q n os u.1 u.2.1 u.2.2) (fun u => ((sG c4 sa (tr 0) lc lS (nI k) t2 (pForce nb bt) (nb 5) c th pe cd dc wc lv) :: (yG c4 (la 0) (nI n) os u.1 u.2.1 u.2.2) :: (wG w (b 0) bt nt sd) :: (yG c4 b (nI n) os kd ic br) :: (bG c4 bo nb) :: Ts)) := by
  refine cOv (cc := cX2_start) (maxL := 5) (by decide) rfl (Nat.le_of_ble_eq_true rfl) rfl ?_
  rintro jp je js jm below meth jc ls args R Q H locs hRf hRl ⟨hx, hb, hml, hr, hts, hown, hlocks, hK, hX⟩ hw hl kr
  have hown : js.vm.findClass RX2 = some jm.cls := hown
  have f_0 := hts (.fieldLink RX2 20 "IceSway$Search" "levels" "[LIceSway$Yards;") (by decide +kernel)
  have f_1 := hts (.fieldLink RX2 25 "IceSway$Winter" "yards" "LIceSway$Yards;") (by decide +kernel)
  have f_2 := hts (.methodLink RX2 35 Lib.Math.min.name) (by decide +kernel)
  have f_3 := hts (.static Lib.Math.min.name) (by decide +kernel)
  have f_4 := hts (.initialized "java/lang/Math") (by decide +kernel)
  have f_5 := hts (.code Lib.Math.min.name Lib.Math.min.code 2 (some .int)) (by decide +kernel)
  have f_6 := hts (.fieldLink RX2 41 "IceSway$Search" "depth" "I") (by decide +kernel)
  have f_7 := hts (.fieldLink RX2 45 "IceSway$Search" "minutes" "I") (by decide +kernel)
  have f_8 := hts (.fieldLink RX2 48 "IceSway$Winter" "beat" "I") (by decide +kernel)
  have f_9 := hts (.fieldLink RX2 57 "IceSway$Search" "force" "I") (by decide +kernel)
  have f_10 := hts (.fieldLink RX2 64 "IceSway$Search" "axe" "I") (by decide +kernel)
  have hi2 : ∀ w ∈ u_ws RX2 TX2 14, w ∈ wsX2_start := fun w h => List.mem_cons_of_mem _ (List.mem_append_left _ (List.mem_append_left _ (List.mem_append_left _ (List.mem_append_right _ h))))
  have hi5 : ∀ w ∈ u_ws RX5 TX5 4, w ∈ wsX2_start := fun w h => List.mem_cons_of_mem _ (List.mem_append_left _ (List.mem_append_left _ (List.mem_append_right _ h)))
  refine lv_aload_n hx hb dX2_start_0 rfl (lv_at hl 0 rfl) ?_
  refine r_get (T := TX2) (v := .ref (sa 1)) hx hb hts hi2 hown hK hw 0 rfl rfl 3 (by decide) f_0 rfl dX2_start_1 ?_
  refine lv_iconst (v := 0) hx hb dX2_start_4 (by decide) ?_
  refine r_aald hx hb hK hw 1 3 rfl rfl 0 (by decide) (by decide) (b := ((la 0) 0)) (hlv 0 (by decide)) dX2_start_5 ?_
  refine lv_aload_n hx hb dX2_start_6 rfl (lv_at hl 1 rfl) ?_
  refine r_get (T := TX5) (v := .ref (b 0)) hx hb hts hi5 hown hK hw 6 rfl rfl 0 (by decide) f_1 rfl dX2_start_7 ?_
  have hw := hw.m3
  have hw := hw.m2
  refine c_vv (As := [.ref (b 0)]) (rest := []) ⟨hx, hb, hml, hown, hts⟩ (k_X6_copyFrom l D c4 A ((sG c4 sa (tr 0) lc lS dp t f x c th pe cd dc wc lv) :: (wG w (b 0) bt nt sd) :: (bG c4 bo nb) :: Ts) (la 0) n0 os0 kd0 ic0 br0 b n os kd ic br q hn hY) (cwV 1 hts gX2_start_X6_copyFrom rfl rfl rfl (by decide +kernel) (rmv (Nat.le_of_ble_eq_true rfl) (Nat.le_of_ble_eq_true rfl) hRf hRl)) hK trivial hw rfl rfl rfl hl rfl (Nat.le_of_ble_eq_true rfl) ⟨Nat.zero_le _, Nat.zero_le _⟩ dX2_start_10 (fun u_10 H locs hpq hw => ?_)
  obtain ⟨kd2_10, ic2_10, br2_10⟩ := u_10
  have hw : gW D A js.heap ((yG c4 (la 0) (nI n) os kd2_10 ic2_10 br2_10) :: (yG c4 b (nI n) os kd ic br) :: (sG c4 sa (tr 0) lc lS dp t f x c th pe cd dc wc lv) :: (wG w (b 0) bt nt sd) :: (bG c4 bo nb) :: Ts) H locs := hw
  have hY_10 := hpq
  have hY_10 : yR q n os kd2_10 ic2_10 br2_10 := hY_10
  refine lv_aload_n hx hb dX2_start_13 rfl (lv_at hl 0 rfl) ?_
  refine lv_bipush (v := 8) hx hb dX2_start_14 (by decide) ?_
  refine lv_iload_n hx hb dX2_start_16 rfl (lv_at hl 3 rfl) ?_
  refine va_mmin hx hb (hml.trans hl.1.symm) hown f_2 f_3 f_4 f_5 (by rw [hRf]; exact Nat.le_of_ble_eq_true rfl) (by rw [hRl]; exact Nat.le_of_ble_eq_true rfl) (Nat.zero_le _) (Nat.zero_le _) dX2_start_17 ?_
  refine r_top (y := nI k) (min8 hk) ?_
  refine r_put (T := TX2) (G' := ((yG c4 (la 0) (nI n) os kd2_10 ic2_10 br2_10) :: (yG c4 b (nI n) os kd ic br) :: (sG c4 sa (tr 0) lc lS (nI k) t f x c th pe cd dc wc lv) :: (wG w (b 0) bt nt sd) :: (bG c4 bo nb) :: Ts)) hx hb hts hi2 tyX2 tyX2_ok nmX2 hown hK hw 8 rfl rfl 4 (by decide) f_6 rfl rfl (Nat.le_of_ble_eq_true rfl) rfl dX2_start_20 (fun H locs hw => ?_)
  refine lv_aload_n hx hb dX2_start_23 rfl (lv_at hl 0 rfl) ?_
  refine lv_iload hx hb dX2_start_24 (lv_at hl 4 rfl) ?_
  refine r_put (T := TX2) (G' := ((yG c4 (la 0) (nI n) os kd2_10 ic2_10 br2_10) :: (yG c4 b (nI n) os kd ic br) :: (sG c4 sa (tr 0) lc lS (nI k) t2 f x c th pe cd dc wc lv) :: (wG w (b 0) bt nt sd) :: (bG c4 bo nb) :: Ts)) hx hb hts hi2 tyX2 tyX2_ok nmX2 hown hK hw 8 rfl rfl 5 (by decide) f_7 rfl rfl (Nat.le_of_ble_eq_true rfl) rfl dX2_start_26 (fun H locs hw => ?_)
  refine lv_aload_n hx hb dX2_start_29 rfl (lv_at hl 0 rfl) ?_
  refine lv_aload_n hx hb dX2_start_30 rfl (lv_at hl 2 rfl) ?_
  refine lv_aload_n hx hb dX2_start_31 rfl (lv_at hl 1 rfl) ?_
  refine r_get (T := TX5) (v := .int bt) hx hb hts hi5 hown hK hw 10 rfl rfl 1 (by decide) f_8 rfl dX2_start_32 ?_
  have hw := hw.m4
  refine c_vi (As := [.int bt]) (rest := [.ref (sa 0)]) ⟨hx, hb, hml, hown, hts⟩ (k_X0_forceBy l D c4 A ((yG c4 (la 0) (nI n) os kd2_10 ic2_10 br2_10) :: (yG c4 b (nI n) os kd ic br) :: (sG c4 sa (tr 0) lc lS (nI k) t2 f x c th pe cd dc wc lv) :: (wG w (b 0) bt nt sd) :: Ts) bo nb bt) (cwV 1 hts gX2_start_X0_forceBy rfl rfl rfl (by decide +kernel) (rmv (Nat.le_of_ble_eq_true rfl) (Nat.le_of_ble_eq_true rfl) hRf hRl)) hK trivial hw rfl rfl rfl hl rfl (Nat.le_of_ble_eq_true rfl) ⟨Nat.zero_le _, Nat.zero_le _⟩ dX2_start_35 (fun r_35 u_35 H locs hpq hw => ?_)
  have er_35 := hpq
  subst er_35
  refine r_put (T := TX2) (G' := ((bG c4 bo nb) :: (yG c4 (la 0) (nI n) os kd2_10 ic2_10 br2_10) :: (yG c4 b (nI n) os kd ic br) :: (sG c4 sa (tr 0) lc lS (nI k) t2 (pForce nb bt) x c th pe cd dc wc lv) :: (wG w (b 0) bt nt sd) :: Ts)) hx hb hts hi2 tyX2 tyX2_ok nmX2 hown hK hw 10 rfl rfl 6 (by decide) f_9 rfl rfl (Nat.le_of_ble_eq_true rfl) rfl dX2_start_38 (fun H locs hw => ?_)
  refine lv_aload_n hx hb dX2_start_41 rfl (lv_at hl 0 rfl) ?_
  refine lv_aload_n hx hb dX2_start_42 rfl (lv_at hl 2 rfl) ?_
  refine c_vi (As := []) (rest := [.ref (sa 0)]) ⟨hx, hb, hml, hown, hts⟩ (k_X0_axeMinutes l D c4 A ((yG c4 (la 0) (nI n) os kd2_10 ic2_10 br2_10) :: (yG c4 b (nI n) os kd ic br) :: (sG c4 sa (tr 0) lc lS (nI k) t2 (pForce nb bt) x c th pe cd dc wc lv) :: (wG w (b 0) bt nt sd) :: Ts) bo nb) (cwV 0 hts gX2_start_X0_axeMinutes rfl rfl rfl (by decide +kernel) (rmv (Nat.le_of_ble_eq_true rfl) (Nat.le_of_ble_eq_true rfl) hRf hRl)) hK trivial hw rfl rfl rfl hl rfl (Nat.le_of_ble_eq_true rfl) ⟨Nat.zero_le _, Nat.zero_le _⟩ dX2_start_43 (fun r_43 u_43 H locs hpq hw => ?_)
  have er_43 := hpq
  subst er_43
  refine r_put (T := TX2) (G' := ((bG c4 bo nb) :: (yG c4 (la 0) (nI n) os kd2_10 ic2_10 br2_10) :: (yG c4 b (nI n) os kd ic br) :: (sG c4 sa (tr 0) lc lS (nI k) t2 (pForce nb bt) (nb 5) c th pe cd dc wc lv) :: (wG w (b 0) bt nt sd) :: Ts)) hx hb hts hi2 tyX2 tyX2_ok nmX2 hown hK hw 10 rfl rfl 7 (by decide) f_10 rfl rfl (Nat.le_of_ble_eq_true rfl) rfl dX2_start_46 (fun H locs hw => ?_)
  have hw := hw.m2
  have hw := hw.m4
  have hw := hw.m3
  have hw := hw.m4
  exact kr (kd2_10, ic2_10, br2_10) _ _ _ _ hw hY_10 dX2_start_49
set_option maxHeartbeats 4000000 in
set_option maxRecDepth 100000 in
theorem k_X2_findPlan (l : Launch) (D : va_G) (c4 : Nat → ClassId) (A : Nat → Prop) (Ts : List va_W) (sa : Nat → Nat) (tr : Nat → Nat) (la : Nat → Nat → Nat) (lc : Int32) (lS : Int32) (t : Int32) (f : Int32) (x : Int32) (c : Int32) (c0 : Int32) (th : Int32) (pe : Int32) (cd0 : Int32) (dc0 : Int32) (wc0 : Int32) (dp : Nat) (lv : Nat → Option Nat) (bh : Int32) (mi : Int32) (fb : Int32) (ba : Nat → Int32) (n : Nat) (os : Int32) (kd : Nat → Int32) (ic : Nat → Int32) (br : Nat → Int32) (q : Nat → Yq) (gn : Nat → Int32) (go : Nat → Int32) (gk : Nat → Nat → Int32) (gi : Nat → Nat → Int32) (gb : Nat → Nat → Int32) (bo : Nat → Nat) (nb : Nat → Int32) (hdp : dp ≤ 8) (hn : n ≤ 12) (hY : yR q n os kd ic br) (hf : fOk f x) (hc : 0 ≤ c.toInt ∧ c.toInt ≤ 30) (hlv : ∀ k, k < 9 → lv k = some (la k 0)) : Cv l yX2_findPlan wsX2_findPlan 11 314 [.ref (sa 0), .ref (bo 0), .int c] D (tyA c4) A none ((sG c4 sa (tr 0) lc lS (nI dp) t f x c0 th pe cd0 dc0 wc0 lv) :: (bG c4 bo nb) :: (tG c4 tr bh mi fb ba) :: (yG c4 (la 0) (nI n) os kd ic br) :: (yG c4 (la 1) (gn 1) (go 1) (gk 1) (gi 1) (gb 1)) :: (yG c4 (la 2) (gn 2) (go 2) (gk 2) (gi 2) (gb 2)) :: (yG c4 (la 3) (gn 3) (go 3) (gk 3) (gi 3) (gb 3)) :: (yG c4 (la 4) (gn 4) (go 4) (gk 4) (gi 4) (gb 4)) :: (yG c4 (la 5) (gn 5) (go 5) (gk 5) (gi 5) (gb 5)) :: (yG c4 (la 6) (gn 6) (go 6) (gk 6) (gi 6) (gb 6)) :: (yG c4 (la 7) (gn 7) (go 7) (gk 7) (gi 7) (gb 7)) :: (yG c4 (la 8) (gn 8) (go 8) (gk 8) (gi 8) (gb 8)) :: Ts) (S := Int32 × Int32 × Int32 × Int32 × Int32 × (Nat → Int32) × (Nat → Int32) × (Nat → Int32) × (Nat → Nat → Int32) × (Nat → Nat → Int32) × (Nat → Nat → Int32)) (fun (u : Int32 × Int32 × Int32 × Int32 × Int32 × (Nat → Int32) × (Nat → Int32) × (Nat → Int32) × (Nat → Nat → Int32) × (Nat → Nat → Int32) × (Nat → Nat → Int32)) => (u.1, u.2.1) = srch n f x t c (nb 6) (nb 7) (nb 8) (dp - 0) 0 q (nb 6) 0 0 (1000000000, 0)) (fun u => ((sG c4 sa (tr 0) u.1 u.2.1 (nI dp) t f x c th pe (nb 6) (nb 7) (nb 8) lv) :: (bG c4 bo nb) :: (tG c4 tr u.2.2.1 u.2.2.2.1 u.2.2.2.2.1 u.2.2.2.2.2.1) :: (yG c4 (la 0) (nI n) os kd ic br) :: (yG c4 (la 1) (u.2.2.2.2.2.2.1 1) (u.2.2.2.2.2.2.2.1 1) (u.2.2.2.2.2.2.2.2.1 1) (u.2.2.2.2.2.2.2.2.2.1 1) (u.2.2.2.2.2.2.2.2.2.2 1)) :: (yG c4 (la 2) (u.2.2.2.2.2.2.1 2) (u.2.2.2.2.2.2.2.1 2) (u.2.2.2.2.2.2.2.2.1 2) (u.2.2.2.2.2.2.2.2.2.1 2) (u.2.2.2.2.2.2.2.2.2.2 2)) :: (yG c4 (la 3) (u.2.2.2.2.2.2.1 3) (u.2.2.2.2.2.2.2.1 3) (u.2.2.2.2.2.2.2.2.1 3) (u.2.2.2.2.2.2.2.2.2.1 3) (u.2.2.2.2.2.2.2.2.2.2 3)) :: (yG c4 (la 4) (u.2.2.2.2.2.2.1 4) (u.2.2.2.2.2.2.2.1 4) (u.2.2.2.2.2.2.2.2.1 4) (u.2.2.2.2.2.2.2.2.2.1 4) (u.2.2.2.2.2.2.2.2.2.2 4)) :: (yG c4 (la 5) (u.2.2.2.2.2.2.1 5) (u.2.2.2.2.2.2.2.1 5) (u.2.2.2.2.2.2.2.2.1 5) (u.2.2.2.2.2.2.2.2.2.1 5) (u.2.2.2.2.2.2.2.2.2.2 5)) :: (yG c4 (la 6) (u.2.2.2.2.2.2.1 6) (u.2.2.2.2.2.2.2.1 6) (u.2.2.2.2.2.2.2.2.1 6) (u.2.2.2.2.2.2.2.2.2.1 6) (u.2.2.2.2.2.2.2.2.2.2 6)) :: (yG c4 (la 7) (u.2.2.2.2.2.2.1 7) (u.2.2.2.2.2.2.2.1 7) (u.2.2.2.2.2.2.2.2.1 7) (u.2.2.2.2.2.2.2.2.2.1 7) (u.2.2.2.2.2.2.2.2.2.2 7)) :: (yG c4 (la 8) (u.2.2.2.2.2.2.1 8) (u.2.2.2.2.2.2.2.1 8) (u.2.2.2.2.2.2.2.2.1 8) (u.2.2.2.2.2.2.2.2.2.1 8) (u.2.2.2.2.2.2.2.2.2.2 8)) :: Ts)) := by
  refine cOv (cc := cX2_findPlan) (maxL := 3) (by decide) rfl (Nat.le_of_ble_eq_true rfl) rfl ?_
  rintro jp je js jm below meth jc ls args R Q H locs hRf hRl ⟨hx, hb, hml, hr, hts, hown, hlocks, hK, hX⟩ hw hl kr
  have hown : js.vm.findClass RX2 = some jm.cls := hown
  have f_0 := hts (.fieldLink RX2 67 "IceSway$Search" "cold" "I") (by decide +kernel)
  have f_1 := hts (.fieldLink RX2 73 "IceSway$Search" "coalDays" "I") (by decide +kernel)
  have f_2 := hts (.fieldLink RX2 78 "IceSway$Search" "dayCost" "I") (by decide +kernel)
  have f_3 := hts (.fieldLink RX2 83 "IceSway$Search" "wantCost" "I") (by decide +kernel)
  have f_4 := hts (.constant RX2 85 (1000000000)) (by decide +kernel)
  have f_5 := hts (.fieldLink RX2 86 "IceSway$Search" "leastCost" "I") (by decide +kernel)
  have f_6 := hts (.fieldLink RX2 89 "IceSway$Search" "leastSet" "I") (by decide +kernel)
  have hi2 : ∀ w ∈ u_ws RX2 TX2 14, w ∈ wsX2_findPlan := fun w h => List.mem_cons_of_mem _ (List.mem_append_left _ (List.mem_append_left _ (List.mem_append_left _ (List.mem_append_right _ h))))
  refine lv_aload_n hx hb dX2_findPlan_0 rfl (lv_at hl 0 rfl) ?_
  refine lv_iload_n hx hb dX2_findPlan_1 rfl (lv_at hl 2 rfl) ?_
  refine r_put (T := TX2) (G' := ((sG c4 sa (tr 0) lc lS (nI dp) t f x c th pe cd0 dc0 wc0 lv) :: (bG c4 bo nb) :: (tG c4 tr bh mi fb ba) :: (yG c4 (la 0) (nI n) os kd ic br) :: (yG c4 (la 1) (gn 1) (go 1) (gk 1) (gi 1) (gb 1)) :: (yG c4 (la 2) (gn 2) (go 2) (gk 2) (gi 2) (gb 2)) :: (yG c4 (la 3) (gn 3) (go 3) (gk 3) (gi 3) (gb 3)) :: (yG c4 (la 4) (gn 4) (go 4) (gk 4) (gi 4) (gb 4)) :: (yG c4 (la 5) (gn 5) (go 5) (gk 5) (gi 5) (gb 5)) :: (yG c4 (la 6) (gn 6) (go 6) (gk 6) (gi 6) (gb 6)) :: (yG c4 (la 7) (gn 7) (go 7) (gk 7) (gi 7) (gb 7)) :: (yG c4 (la 8) (gn 8) (go 8) (gk 8) (gi 8) (gb 8)) :: Ts)) hx hb hts hi2 tyX2 tyX2_ok nmX2 hown hK hw 0 rfl rfl 8 (by decide) f_0 rfl rfl (Nat.le_of_ble_eq_true rfl) rfl dX2_findPlan_2 (fun H locs hw => ?_)
  refine lv_aload_n hx hb dX2_findPlan_5 rfl (lv_at hl 0 rfl) ?_
  refine lv_aload_n hx hb dX2_findPlan_6 rfl (lv_at hl 1 rfl) ?_
  have hw := hw.m1
  refine c_vi (As := []) (rest := [.ref (sa 0)]) ⟨hx, hb, hml, hown, hts⟩ (k_X0_coalDays l D c4 A ((sG c4 sa (tr 0) lc lS (nI dp) t f x c th pe cd0 dc0 wc0 lv) :: (tG c4 tr bh mi fb ba) :: (yG c4 (la 0) (nI n) os kd ic br) :: (yG c4 (la 1) (gn 1) (go 1) (gk 1) (gi 1) (gb 1)) :: (yG c4 (la 2) (gn 2) (go 2) (gk 2) (gi 2) (gb 2)) :: (yG c4 (la 3) (gn 3) (go 3) (gk 3) (gi 3) (gb 3)) :: (yG c4 (la 4) (gn 4) (go 4) (gk 4) (gi 4) (gb 4)) :: (yG c4 (la 5) (gn 5) (go 5) (gk 5) (gi 5) (gb 5)) :: (yG c4 (la 6) (gn 6) (go 6) (gk 6) (gi 6) (gb 6)) :: (yG c4 (la 7) (gn 7) (go 7) (gk 7) (gi 7) (gb 7)) :: (yG c4 (la 8) (gn 8) (go 8) (gk 8) (gi 8) (gb 8)) :: Ts) bo nb) (cwV 0 hts gX2_findPlan_X0_coalDays rfl rfl rfl (by decide +kernel) (rmv (Nat.le_of_ble_eq_true rfl) (Nat.le_of_ble_eq_true rfl) hRf hRl)) hK trivial hw rfl rfl rfl hl rfl (Nat.le_of_ble_eq_true rfl) ⟨Nat.zero_le _, Nat.zero_le _⟩ dX2_findPlan_7 (fun r_7 u_7 H locs hpq hw => ?_)
  have er_7 := hpq
  subst er_7
  refine r_put (T := TX2) (G' := ((bG c4 bo nb) :: (sG c4 sa (tr 0) lc lS (nI dp) t f x c th pe (nb 6) dc0 wc0 lv) :: (tG c4 tr bh mi fb ba) :: (yG c4 (la 0) (nI n) os kd ic br) :: (yG c4 (la 1) (gn 1) (go 1) (gk 1) (gi 1) (gb 1)) :: (yG c4 (la 2) (gn 2) (go 2) (gk 2) (gi 2) (gb 2)) :: (yG c4 (la 3) (gn 3) (go 3) (gk 3) (gi 3) (gb 3)) :: (yG c4 (la 4) (gn 4) (go 4) (gk 4) (gi 4) (gb 4)) :: (yG c4 (la 5) (gn 5) (go 5) (gk 5) (gi 5) (gb 5)) :: (yG c4 (la 6) (gn 6) (go 6) (gk 6) (gi 6) (gb 6)) :: (yG c4 (la 7) (gn 7) (go 7) (gk 7) (gi 7) (gb 7)) :: (yG c4 (la 8) (gn 8) (go 8) (gk 8) (gi 8) (gb 8)) :: Ts)) hx hb hts hi2 tyX2 tyX2_ok nmX2 hown hK hw 2 rfl rfl 11 (by decide) f_1 rfl rfl (Nat.le_of_ble_eq_true rfl) rfl dX2_findPlan_10 (fun H locs hw => ?_)
  refine lv_aload_n hx hb dX2_findPlan_13 rfl (lv_at hl 0 rfl) ?_
  refine lv_aload_n hx hb dX2_findPlan_14 rfl (lv_at hl 1 rfl) ?_
  refine c_vi (As := []) (rest := [.ref (sa 0)]) ⟨hx, hb, hml, hown, hts⟩ (k_X0_dayCost l D c4 A ((sG c4 sa (tr 0) lc lS (nI dp) t f x c th pe (nb 6) dc0 wc0 lv) :: (tG c4 tr bh mi fb ba) :: (yG c4 (la 0) (nI n) os kd ic br) :: (yG c4 (la 1) (gn 1) (go 1) (gk 1) (gi 1) (gb 1)) :: (yG c4 (la 2) (gn 2) (go 2) (gk 2) (gi 2) (gb 2)) :: (yG c4 (la 3) (gn 3) (go 3) (gk 3) (gi 3) (gb 3)) :: (yG c4 (la 4) (gn 4) (go 4) (gk 4) (gi 4) (gb 4)) :: (yG c4 (la 5) (gn 5) (go 5) (gk 5) (gi 5) (gb 5)) :: (yG c4 (la 6) (gn 6) (go 6) (gk 6) (gi 6) (gb 6)) :: (yG c4 (la 7) (gn 7) (go 7) (gk 7) (gi 7) (gb 7)) :: (yG c4 (la 8) (gn 8) (go 8) (gk 8) (gi 8) (gb 8)) :: Ts) bo nb) (cwV 0 hts gX2_findPlan_X0_dayCost rfl rfl rfl (by decide +kernel) (rmv (Nat.le_of_ble_eq_true rfl) (Nat.le_of_ble_eq_true rfl) hRf hRl)) hK trivial hw rfl rfl rfl hl rfl (Nat.le_of_ble_eq_true rfl) ⟨Nat.zero_le _, Nat.zero_le _⟩ dX2_findPlan_15 (fun r_15 u_15 H locs hpq hw => ?_)
  have er_15 := hpq
  subst er_15
  refine r_put (T := TX2) (G' := ((bG c4 bo nb) :: (sG c4 sa (tr 0) lc lS (nI dp) t f x c th pe (nb 6) (nb 7) wc0 lv) :: (tG c4 tr bh mi fb ba) :: (yG c4 (la 0) (nI n) os kd ic br) :: (yG c4 (la 1) (gn 1) (go 1) (gk 1) (gi 1) (gb 1)) :: (yG c4 (la 2) (gn 2) (go 2) (gk 2) (gi 2) (gb 2)) :: (yG c4 (la 3) (gn 3) (go 3) (gk 3) (gi 3) (gb 3)) :: (yG c4 (la 4) (gn 4) (go 4) (gk 4) (gi 4) (gb 4)) :: (yG c4 (la 5) (gn 5) (go 5) (gk 5) (gi 5) (gb 5)) :: (yG c4 (la 6) (gn 6) (go 6) (gk 6) (gi 6) (gb 6)) :: (yG c4 (la 7) (gn 7) (go 7) (gk 7) (gi 7) (gb 7)) :: (yG c4 (la 8) (gn 8) (go 8) (gk 8) (gi 8) (gb 8)) :: Ts)) hx hb hts hi2 tyX2 tyX2_ok nmX2 hown hK hw 2 rfl rfl 12 (by decide) f_2 rfl rfl (Nat.le_of_ble_eq_true rfl) rfl dX2_findPlan_18 (fun H locs hw => ?_)
  refine lv_aload_n hx hb dX2_findPlan_21 rfl (lv_at hl 0 rfl) ?_
  refine lv_aload_n hx hb dX2_findPlan_22 rfl (lv_at hl 1 rfl) ?_
  refine c_vi (As := []) (rest := [.ref (sa 0)]) ⟨hx, hb, hml, hown, hts⟩ (k_X0_wantCost l D c4 A ((sG c4 sa (tr 0) lc lS (nI dp) t f x c th pe (nb 6) (nb 7) wc0 lv) :: (tG c4 tr bh mi fb ba) :: (yG c4 (la 0) (nI n) os kd ic br) :: (yG c4 (la 1) (gn 1) (go 1) (gk 1) (gi 1) (gb 1)) :: (yG c4 (la 2) (gn 2) (go 2) (gk 2) (gi 2) (gb 2)) :: (yG c4 (la 3) (gn 3) (go 3) (gk 3) (gi 3) (gb 3)) :: (yG c4 (la 4) (gn 4) (go 4) (gk 4) (gi 4) (gb 4)) :: (yG c4 (la 5) (gn 5) (go 5) (gk 5) (gi 5) (gb 5)) :: (yG c4 (la 6) (gn 6) (go 6) (gk 6) (gi 6) (gb 6)) :: (yG c4 (la 7) (gn 7) (go 7) (gk 7) (gi 7) (gb 7)) :: (yG c4 (la 8) (gn 8) (go 8) (gk 8) (gi 8) (gb 8)) :: Ts) bo nb) (cwV 0 hts gX2_findPlan_X0_wantCost rfl rfl rfl (by decide +kernel) (rmv (Nat.le_of_ble_eq_true rfl) (Nat.le_of_ble_eq_true rfl) hRf hRl)) hK trivial hw rfl rfl rfl hl rfl (Nat.le_of_ble_eq_true rfl) ⟨Nat.zero_le _, Nat.zero_le _⟩ dX2_findPlan_23 (fun r_23 u_23 H locs hpq hw => ?_)
  have er_23 := hpq
  subst er_23
  refine r_put (T := TX2) (G' := ((bG c4 bo nb) :: (sG c4 sa (tr 0) lc lS (nI dp) t f x c th pe (nb 6) (nb 7) (nb 8) lv) :: (tG c4 tr bh mi fb ba) :: (yG c4 (la 0) (nI n) os kd ic br) :: (yG c4 (la 1) (gn 1) (go 1) (gk 1) (gi 1) (gb 1)) :: (yG c4 (la 2) (gn 2) (go 2) (gk 2) (gi 2) (gb 2)) :: (yG c4 (la 3) (gn 3) (go 3) (gk 3) (gi 3) (gb 3)) :: (yG c4 (la 4) (gn 4) (go 4) (gk 4) (gi 4) (gb 4)) :: (yG c4 (la 5) (gn 5) (go 5) (gk 5) (gi 5) (gb 5)) :: (yG c4 (la 6) (gn 6) (go 6) (gk 6) (gi 6) (gb 6)) :: (yG c4 (la 7) (gn 7) (go 7) (gk 7) (gi 7) (gb 7)) :: (yG c4 (la 8) (gn 8) (go 8) (gk 8) (gi 8) (gb 8)) :: Ts)) hx hb hts hi2 tyX2 tyX2_ok nmX2 hown hK hw 2 rfl rfl 13 (by decide) f_3 rfl rfl (Nat.le_of_ble_eq_true rfl) rfl dX2_findPlan_26 (fun H locs hw => ?_)
  refine lv_aload_n hx hb dX2_findPlan_29 rfl (lv_at hl 0 rfl) ?_
  refine lv_ldc hx hb hown f_4 dX2_findPlan_30 ?_
  refine r_put (T := TX2) (G' := ((bG c4 bo nb) :: (sG c4 sa (tr 0) 1000000000 lS (nI dp) t f x c th pe (nb 6) (nb 7) (nb 8) lv) :: (tG c4 tr bh mi fb ba) :: (yG c4 (la 0) (nI n) os kd ic br) :: (yG c4 (la 1) (gn 1) (go 1) (gk 1) (gi 1) (gb 1)) :: (yG c4 (la 2) (gn 2) (go 2) (gk 2) (gi 2) (gb 2)) :: (yG c4 (la 3) (gn 3) (go 3) (gk 3) (gi 3) (gb 3)) :: (yG c4 (la 4) (gn 4) (go 4) (gk 4) (gi 4) (gb 4)) :: (yG c4 (la 5) (gn 5) (go 5) (gk 5) (gi 5) (gb 5)) :: (yG c4 (la 6) (gn 6) (go 6) (gk 6) (gi 6) (gb 6)) :: (yG c4 (la 7) (gn 7) (go 7) (gk 7) (gi 7) (gb 7)) :: (yG c4 (la 8) (gn 8) (go 8) (gk 8) (gi 8) (gb 8)) :: Ts)) hx hb hts hi2 tyX2 tyX2_ok nmX2 hown hK hw 2 rfl rfl 0 (by decide) f_5 rfl rfl (Nat.le_of_ble_eq_true rfl) rfl dX2_findPlan_32 (fun H locs hw => ?_)
  refine lv_aload_n hx hb dX2_findPlan_35 rfl (lv_at hl 0 rfl) ?_
  refine lv_iconst (v := 0) hx hb dX2_findPlan_36 (by decide) ?_
  refine r_put (T := TX2) (G' := ((bG c4 bo nb) :: (sG c4 sa (tr 0) 1000000000 0 (nI dp) t f x c th pe (nb 6) (nb 7) (nb 8) lv) :: (tG c4 tr bh mi fb ba) :: (yG c4 (la 0) (nI n) os kd ic br) :: (yG c4 (la 1) (gn 1) (go 1) (gk 1) (gi 1) (gb 1)) :: (yG c4 (la 2) (gn 2) (go 2) (gk 2) (gi 2) (gb 2)) :: (yG c4 (la 3) (gn 3) (go 3) (gk 3) (gi 3) (gb 3)) :: (yG c4 (la 4) (gn 4) (go 4) (gk 4) (gi 4) (gb 4)) :: (yG c4 (la 5) (gn 5) (go 5) (gk 5) (gi 5) (gb 5)) :: (yG c4 (la 6) (gn 6) (go 6) (gk 6) (gi 6) (gb 6)) :: (yG c4 (la 7) (gn 7) (go 7) (gk 7) (gi 7) (gb 7)) :: (yG c4 (la 8) (gn 8) (go 8) (gk 8) (gi 8) (gb 8)) :: Ts)) hx hb hts hi2 tyX2 tyX2_ok nmX2 hown hK hw 2 rfl rfl 1 (by decide) f_6 rfl rfl (Nat.le_of_ble_eq_true rfl) rfl dX2_findPlan_37 (fun H locs hw => ?_)
  refine lv_aload_n hx hb dX2_findPlan_40 rfl (lv_at hl 0 rfl) ?_
  refine lv_iconst (v := 0) hx hb dX2_findPlan_41 (by decide) ?_
  refine lv_aload_n hx hb dX2_findPlan_42 rfl (lv_at hl 0 rfl) ?_
  refine r_get (T := TX2) (v := .int (nb 6)) hx hb hts hi2 hown hK hw 2 rfl rfl 11 (by decide) f_1 rfl dX2_findPlan_43 ?_
  refine lv_iconst (v := 0) hx hb dX2_findPlan_46 (by decide) ?_
  refine lv_iconst (v := 0) hx hb dX2_findPlan_47 (by decide) ?_
  have hw := hw.m11
  have hw := hw.m11
  have hw := hw.m11
  have hw := hw.m11
  have hw := hw.m11
  have hw := hw.m11
  have hw := hw.m11
  have hw := hw.m11
  have hw := hw.m11
  have hw := hw.m11
  have hw := hw.m11
  refine c_vv (As := [.int 0, .int (nb 6), .int 0, .int 0]) (rest := []) ⟨hx, hb, hml, hown, hts⟩ (k_X2_tryDay_0 l D c4 A ((bG c4 bo nb) :: Ts) sa tr la 1000000000 0 t f x c th pe (nb 6) (nb 7) (nb 8) dp lv bh mi fb ba n os kd ic br q gn go gk gi gb (nb 6) 0 0 hdp hn hY hf hc hlv) (cwV 4 hts gX2_findPlan_X2_tryDay rfl rfl rfl (by decide +kernel) (rmv (Nat.le_of_ble_eq_true rfl) (Nat.le_of_ble_eq_true rfl) hRf hRl)) hK trivial hw rfl rfl rfl hl rfl (Nat.le_of_ble_eq_true rfl) ⟨Nat.zero_le _, Nat.zero_le _⟩ dX2_findPlan_48 (fun u_48 H locs hpq hw => ?_)
  obtain ⟨lc2_48, lS2_48, bh2_48, mi2_48, fb2_48, ba2_48, gn2_48, go2_48, gk2_48, gi2_48, gb2_48⟩ := u_48
  have hw : gW D A js.heap ((sG c4 sa (tr 0) lc2_48 lS2_48 (nI dp) t f x c th pe (nb 6) (nb 7) (nb 8) lv) :: (tG c4 tr bh2_48 mi2_48 fb2_48 ba2_48) :: (yG c4 (la 0) (nI n) os kd ic br) :: (yG c4 (la 1) (gn2_48 1) (go2_48 1) (gk2_48 1) (gi2_48 1) (gb2_48 1)) :: (yG c4 (la 2) (gn2_48 2) (go2_48 2) (gk2_48 2) (gi2_48 2) (gb2_48 2)) :: (yG c4 (la 3) (gn2_48 3) (go2_48 3) (gk2_48 3) (gi2_48 3) (gb2_48 3)) :: (yG c4 (la 4) (gn2_48 4) (go2_48 4) (gk2_48 4) (gi2_48 4) (gb2_48 4)) :: (yG c4 (la 5) (gn2_48 5) (go2_48 5) (gk2_48 5) (gi2_48 5) (gb2_48 5)) :: (yG c4 (la 6) (gn2_48 6) (go2_48 6) (gk2_48 6) (gi2_48 6) (gb2_48 6)) :: (yG c4 (la 7) (gn2_48 7) (go2_48 7) (gk2_48 7) (gi2_48 7) (gb2_48 7)) :: (yG c4 (la 8) (gn2_48 8) (go2_48 8) (gk2_48 8) (gi2_48 8) (gb2_48 8)) :: (bG c4 bo nb) :: Ts) H locs := hw
  have hS_48 := hpq
  have hS_48 : (lc2_48, lS2_48) = srch n f x t c (nb 6) (nb 7) (nb 8) (dp - 0) 0 q (nb 6) 0 0 (1000000000, 0) := hS_48
  have hw := hw.m10
  have hw := hw.m10
  have hw := hw.m10
  have hw := hw.m10
  have hw := hw.m10
  have hw := hw.m10
  have hw := hw.m10
  have hw := hw.m10
  have hw := hw.m10
  have hw := hw.m10
  have hw := hw.m11
  have hw := hw.m11
  exact kr (lc2_48, lS2_48, bh2_48, mi2_48, fb2_48, ba2_48, gn2_48, go2_48, gk2_48, gi2_48, gb2_48) _ _ _ _ hw hS_48 dX2_findPlan_51
set_option maxHeartbeats 4000000 in
set_option maxRecDepth 100000 in
theorem k_X2_findOdds (l : Launch) (D : va_G) (c4 : Nat → ClassId) (A : Nat → Prop) (Ts : List va_W) (sa : Nat → Nat) (tr : Nat → Nat) (la : Nat → Nat → Nat) (lc : Int32) (lS : Int32) (t : Int32) (f : Int32) (x : Int32) (c : Int32) (c0 : Int32) (th : Int32) (th0 : Int32) (pe : Int32) (pe0 : Int32) (cd : Int32) (dc : Int32) (wc : Int32) (dp : Nat) (lv : Nat → Option Nat) (bh : Int32) (mi : Int32) (fb : Int32) (ba : Nat → Int32) (n : Nat) (os : Int32) (kd : Nat → Int32) (ic : Nat → Int32) (br : Nat → Int32) (q : Nat → Yq) (gn : Nat → Int32) (go : Nat → Int32) (gk : Nat → Nat → Int32) (gi : Nat → Nat → Int32) (gb : Nat → Nat → Int32) (hdp : dp ≤ 8) (hn : n ≤ 12) (hY : yR q n os kd ic br) (hf : fOk f x) (hc : 0 ≤ c.toInt ∧ c.toInt ≤ 30) (hlv : ∀ k, k < 9 → lv k = some (la k 0)) (ht0 : 0 ≤ th.toInt ∧ th.toInt ≤ 60) : Ci l yX2_findOdds wsX2_findOdds 12 326 [.ref (sa 0), .int c, .int th, .int pe] D (tyA c4) A none ((sG c4 sa (tr 0) lc lS (nI dp) t f x c0 th0 pe0 cd dc wc lv) :: (tG c4 tr bh mi fb ba) :: (yG c4 (la 0) (nI n) os kd ic br) :: (yG c4 (la 1) (gn 1) (go 1) (gk 1) (gi 1) (gb 1)) :: (yG c4 (la 2) (gn 2) (go 2) (gk 2) (gi 2) (gb 2)) :: (yG c4 (la 3) (gn 3) (go 3) (gk 3) (gi 3) (gb 3)) :: (yG c4 (la 4) (gn 4) (go 4) (gk 4) (gi 4) (gb 4)) :: (yG c4 (la 5) (gn 5) (go 5) (gk 5) (gi 5) (gb 5)) :: (yG c4 (la 6) (gn 6) (go 6) (gk 6) (gi 6) (gb 6)) :: (yG c4 (la 7) (gn 7) (go 7) (gk 7) (gi 7) (gb 7)) :: (yG c4 (la 8) (gn 8) (go 8) (gk 8) (gi 8) (gb 8)) :: Ts) (S := Int32 × Int32 × Int32 × (Nat → Int32) × (Nat → Int32) × (Nat → Int32) × (Nat → Nat → Int32) × (Nat → Nat → Int32) × (Nat → Nat → Int32)) (fun (r : Int32) (u : Int32 × Int32 × Int32 × (Nat → Int32) × (Nat → Int32) × (Nat → Int32) × (Nat → Nat → Int32) × (Nat → Nat → Int32) × (Nat → Nat → Int32)) => r = ((oddP n f x t c th pe (dp - 0) q 1000000000).toInt32)) (fun u => ((sG c4 sa (tr 0) lc lS (nI dp) t f x c th pe cd dc wc lv) :: (tG c4 tr u.1 u.2.1 u.2.2.1 u.2.2.2.1) :: (yG c4 (la 0) (nI n) os kd ic br) :: (yG c4 (la 1) (u.2.2.2.2.1 1) (u.2.2.2.2.2.1 1) (u.2.2.2.2.2.2.1 1) (u.2.2.2.2.2.2.2.1 1) (u.2.2.2.2.2.2.2.2 1)) :: (yG c4 (la 2) (u.2.2.2.2.1 2) (u.2.2.2.2.2.1 2) (u.2.2.2.2.2.2.1 2) (u.2.2.2.2.2.2.2.1 2) (u.2.2.2.2.2.2.2.2 2)) :: (yG c4 (la 3) (u.2.2.2.2.1 3) (u.2.2.2.2.2.1 3) (u.2.2.2.2.2.2.1 3) (u.2.2.2.2.2.2.2.1 3) (u.2.2.2.2.2.2.2.2 3)) :: (yG c4 (la 4) (u.2.2.2.2.1 4) (u.2.2.2.2.2.1 4) (u.2.2.2.2.2.2.1 4) (u.2.2.2.2.2.2.2.1 4) (u.2.2.2.2.2.2.2.2 4)) :: (yG c4 (la 5) (u.2.2.2.2.1 5) (u.2.2.2.2.2.1 5) (u.2.2.2.2.2.2.1 5) (u.2.2.2.2.2.2.2.1 5) (u.2.2.2.2.2.2.2.2 5)) :: (yG c4 (la 6) (u.2.2.2.2.1 6) (u.2.2.2.2.2.1 6) (u.2.2.2.2.2.2.1 6) (u.2.2.2.2.2.2.2.1 6) (u.2.2.2.2.2.2.2.2 6)) :: (yG c4 (la 7) (u.2.2.2.2.1 7) (u.2.2.2.2.2.1 7) (u.2.2.2.2.2.2.1 7) (u.2.2.2.2.2.2.2.1 7) (u.2.2.2.2.2.2.2.2 7)) :: (yG c4 (la 8) (u.2.2.2.2.1 8) (u.2.2.2.2.2.1 8) (u.2.2.2.2.2.2.1 8) (u.2.2.2.2.2.2.2.1 8) (u.2.2.2.2.2.2.2.2 8)) :: Ts)) := by
  refine cOi (cc := cX2_findOdds) (maxL := 4) (by decide) rfl (Nat.le_of_ble_eq_true rfl) rfl ?_
  rintro jp je js jm below meth jc ls args R Q H locs hRf hRl ⟨hx, hb, hml, hr, hts, hown, hlocks, hK, hX⟩ hw hl kr
  have hown : js.vm.findClass RX2 = some jm.cls := hown
  have f_0 := hts (.fieldLink RX2 67 "IceSway$Search" "cold" "I") (by decide +kernel)
  have f_1 := hts (.fieldLink RX2 117 "IceSway$Search" "thaw" "I") (by decide +kernel)
  have f_2 := hts (.fieldLink RX2 120 "IceSway$Search" "percent" "I") (by decide +kernel)
  have f_3 := hts (.constantLong RX2 123 (1000000000)) (by decide +kernel)
  have hi2 : ∀ w ∈ u_ws RX2 TX2 14, w ∈ wsX2_findOdds := fun w h => List.mem_cons_of_mem _ (List.mem_append_left _ (List.mem_append_left _ (List.mem_append_right _ h)))
  refine lv_aload_n hx hb dX2_findOdds_0 rfl (lv_at hl 0 rfl) ?_
  refine lv_iload_n hx hb dX2_findOdds_1 rfl (lv_at hl 1 rfl) ?_
  refine r_put (T := TX2) (G' := ((sG c4 sa (tr 0) lc lS (nI dp) t f x c th0 pe0 cd dc wc lv) :: (tG c4 tr bh mi fb ba) :: (yG c4 (la 0) (nI n) os kd ic br) :: (yG c4 (la 1) (gn 1) (go 1) (gk 1) (gi 1) (gb 1)) :: (yG c4 (la 2) (gn 2) (go 2) (gk 2) (gi 2) (gb 2)) :: (yG c4 (la 3) (gn 3) (go 3) (gk 3) (gi 3) (gb 3)) :: (yG c4 (la 4) (gn 4) (go 4) (gk 4) (gi 4) (gb 4)) :: (yG c4 (la 5) (gn 5) (go 5) (gk 5) (gi 5) (gb 5)) :: (yG c4 (la 6) (gn 6) (go 6) (gk 6) (gi 6) (gb 6)) :: (yG c4 (la 7) (gn 7) (go 7) (gk 7) (gi 7) (gb 7)) :: (yG c4 (la 8) (gn 8) (go 8) (gk 8) (gi 8) (gb 8)) :: Ts)) hx hb hts hi2 tyX2 tyX2_ok nmX2 hown hK hw 0 rfl rfl 8 (by decide) f_0 rfl rfl (Nat.le_of_ble_eq_true rfl) rfl dX2_findOdds_2 (fun H locs hw => ?_)
  refine lv_aload_n hx hb dX2_findOdds_5 rfl (lv_at hl 0 rfl) ?_
  refine lv_iload_n hx hb dX2_findOdds_6 rfl (lv_at hl 2 rfl) ?_
  refine r_put (T := TX2) (G' := ((sG c4 sa (tr 0) lc lS (nI dp) t f x c th pe0 cd dc wc lv) :: (tG c4 tr bh mi fb ba) :: (yG c4 (la 0) (nI n) os kd ic br) :: (yG c4 (la 1) (gn 1) (go 1) (gk 1) (gi 1) (gb 1)) :: (yG c4 (la 2) (gn 2) (go 2) (gk 2) (gi 2) (gb 2)) :: (yG c4 (la 3) (gn 3) (go 3) (gk 3) (gi 3) (gb 3)) :: (yG c4 (la 4) (gn 4) (go 4) (gk 4) (gi 4) (gb 4)) :: (yG c4 (la 5) (gn 5) (go 5) (gk 5) (gi 5) (gb 5)) :: (yG c4 (la 6) (gn 6) (go 6) (gk 6) (gi 6) (gb 6)) :: (yG c4 (la 7) (gn 7) (go 7) (gk 7) (gi 7) (gb 7)) :: (yG c4 (la 8) (gn 8) (go 8) (gk 8) (gi 8) (gb 8)) :: Ts)) hx hb hts hi2 tyX2 tyX2_ok nmX2 hown hK hw 0 rfl rfl 9 (by decide) f_1 rfl rfl (Nat.le_of_ble_eq_true rfl) rfl dX2_findOdds_7 (fun H locs hw => ?_)
  refine lv_aload_n hx hb dX2_findOdds_10 rfl (lv_at hl 0 rfl) ?_
  refine lv_iload_n hx hb dX2_findOdds_11 rfl (lv_at hl 3 rfl) ?_
  refine r_put (T := TX2) (G' := ((sG c4 sa (tr 0) lc lS (nI dp) t f x c th pe cd dc wc lv) :: (tG c4 tr bh mi fb ba) :: (yG c4 (la 0) (nI n) os kd ic br) :: (yG c4 (la 1) (gn 1) (go 1) (gk 1) (gi 1) (gb 1)) :: (yG c4 (la 2) (gn 2) (go 2) (gk 2) (gi 2) (gb 2)) :: (yG c4 (la 3) (gn 3) (go 3) (gk 3) (gi 3) (gb 3)) :: (yG c4 (la 4) (gn 4) (go 4) (gk 4) (gi 4) (gb 4)) :: (yG c4 (la 5) (gn 5) (go 5) (gk 5) (gi 5) (gb 5)) :: (yG c4 (la 6) (gn 6) (go 6) (gk 6) (gi 6) (gb 6)) :: (yG c4 (la 7) (gn 7) (go 7) (gk 7) (gi 7) (gb 7)) :: (yG c4 (la 8) (gn 8) (go 8) (gk 8) (gi 8) (gb 8)) :: Ts)) hx hb hts hi2 tyX2 tyX2_ok nmX2 hown hK hw 0 rfl rfl 10 (by decide) f_2 rfl rfl (Nat.le_of_ble_eq_true rfl) rfl dX2_findOdds_12 (fun H locs hw => ?_)
  refine lv_aload_n hx hb dX2_findOdds_15 rfl (lv_at hl 0 rfl) ?_
  refine lv_iconst (v := 0) hx hb dX2_findOdds_16 (by decide) ?_
  refine lv_ldc2 hx hb hown f_3 dX2_findOdds_17 ?_
  have hw := hw.m10
  have hw := hw.m10
  have hw := hw.m10
  have hw := hw.m10
  have hw := hw.m10
  have hw := hw.m10
  have hw := hw.m10
  have hw := hw.m10
  have hw := hw.m10
  have hw := hw.m10
  have hw := hw.m10
  refine c_vl (As := [.int 0, .long 1000000000]) (rest := []) ⟨hx, hb, hml, hown, hts⟩ (k_X2_oddsOf_0 l D c4 A Ts sa tr la lc lS t f x c th pe cd dc wc dp lv bh mi fb ba n os kd ic br q gn go gk gi gb 1000000000 hdp hn hY hf hc hlv ht0) (cwV 2 hts gX2_findOdds_X2_oddsOf rfl rfl rfl (by decide +kernel) (rmv (Nat.le_of_ble_eq_true rfl) (Nat.le_of_ble_eq_true rfl) hRf hRl)) hK trivial hw rfl rfl rfl hl rfl (Nat.le_of_ble_eq_true rfl) ⟨Nat.zero_le _, Nat.zero_le _⟩ dX2_findOdds_20 (fun r_20 u_20 H locs hpq hw => ?_)
  obtain ⟨bh2_20, mi2_20, fb2_20, ba2_20, gn2_20, go2_20, gk2_20, gi2_20, gb2_20⟩ := u_20
  have hw : gW D A js.heap ((sG c4 sa (tr 0) lc lS (nI dp) t f x c th pe cd dc wc lv) :: (tG c4 tr bh2_20 mi2_20 fb2_20 ba2_20) :: (yG c4 (la 0) (nI n) os kd ic br) :: (yG c4 (la 1) (gn2_20 1) (go2_20 1) (gk2_20 1) (gi2_20 1) (gb2_20 1)) :: (yG c4 (la 2) (gn2_20 2) (go2_20 2) (gk2_20 2) (gi2_20 2) (gb2_20 2)) :: (yG c4 (la 3) (gn2_20 3) (go2_20 3) (gk2_20 3) (gi2_20 3) (gb2_20 3)) :: (yG c4 (la 4) (gn2_20 4) (go2_20 4) (gk2_20 4) (gi2_20 4) (gb2_20 4)) :: (yG c4 (la 5) (gn2_20 5) (go2_20 5) (gk2_20 5) (gi2_20 5) (gb2_20 5)) :: (yG c4 (la 6) (gn2_20 6) (go2_20 6) (gk2_20 6) (gi2_20 6) (gb2_20 6)) :: (yG c4 (la 7) (gn2_20 7) (go2_20 7) (gk2_20 7) (gi2_20 7) (gb2_20 7)) :: (yG c4 (la 8) (gn2_20 8) (go2_20 8) (gk2_20 8) (gi2_20 8) (gb2_20 8)) :: Ts) H locs := hw
  have er_20 := hpq
  have er_20 : r_20 = (oddP n f x t c th pe (dp - 0) q 1000000000) := er_20
  subst er_20
  refine lv_l2i hx hb dX2_findOdds_23 rfl ?_
  exact kr ((oddP n f x t c th pe (dp - 0) q 1000000000).toInt32) (bh2_20, mi2_20, fb2_20, ba2_20, gn2_20, go2_20, gk2_20, gi2_20, gb2_20) _ _ _ _ hw rfl dX2_findOdds_24
