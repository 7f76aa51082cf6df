set_option maxHeartbeats 4000000 in
set_option maxRecDepth 100000 in
theorem k_X5_passCold (l : Launch) (D : va_G) (c4 : Nat → ClassId) (A : Nat → Prop) (Ts : List va_W) (b : Nat) (bt : Int32) (nt : Int32) (sd : Int32) (a : Nat → Nat) (n : Nat) (os : Int32) (kd : Nat → Int32) (ic : Nat → Int32) (br : Nat → Int32) (q : Nat → Yq) (c : Int32) (hn : n ≤ 12) (hY : yR q n os kd ic br) (hc : 0 ≤ c.toInt ∧ c.toInt ≤ 30) : Cv l yX5_passCold wsX5_passCold 3 68 [.ref b, .int c] D (tyA c4) A none ((wG b (a 0) bt nt sd) :: (yG c4 a (nI n) os kd ic br) :: Ts) (S := Int32 × (Nat → Int32) × (Nat → Int32) × (Nat → Int32)) (fun (u : Int32 × (Nat → Int32) × (Nat → Int32) × (Nat → Int32)) => yR (fun y => nightQ c (q y)) n u.1 u.2.1 u.2.2.1 u.2.2.2) (fun u => ((wG b (a 0) bt (nt + 1) sd) :: (yG c4 a (nI n) u.1 u.2.1 u.2.2.1 u.2.2.2) :: Ts)) := by
  refine cOv (cc := cX5_passCold) (maxL := 2) (by decide) rfl (Nat.le_of_ble_eq_true rfl) rfl ?_
  rintro jp je js jm below meth jc ls args R Q H locs hRf hRl ⟨hx, hb, hml, hr, hts, hown, hlocks, hK, hX⟩ hw hl kr
  have hown : js.vm.findClass RX5 = some jm.cls := hown
  have f_0 := hts (.fieldLink RX5 10 "IceSway$Winter" "yards" "LIceSway$Yards;") (by decide +kernel)
  have f_1 := hts (.fieldLink RX5 24 "IceSway$Winter" "nights" "I") (by decide +kernel)
  have hi5 : ∀ w ∈ u_ws RX5 TX5 4, w ∈ wsX5_passCold := fun w h => List.mem_cons_of_mem _ (List.mem_append_left _ (List.mem_append_right _ h))
  refine lv_aload_n hx hb dX5_passCold_0 rfl (lv_at hl 0 rfl) ?_
  refine r_get (T := TX5) (v := .ref (a 0)) hx hb hts hi5 hown hK hw 0 rfl rfl 0 (by decide) f_0 rfl dX5_passCold_1 ?_
  refine lv_iload_n hx hb dX5_passCold_4 rfl (lv_at hl 1 rfl) ?_
  have hw := hw.m1
  refine c_vv (As := [.int c]) (rest := []) ⟨hx, hb, hml, hown, hts⟩ (k_X6_freeze l D c4 A ((wG b (a 0) bt nt sd) :: Ts) a n os kd ic br q c hn hY hc) (cwV 1 hts gX5_passCold_X6_freeze rfl rfl rfl (by decide +kernel) (rmv (Nat.le_of_ble_eq_true rfl) (Nat.le_of_ble_eq_true rfl) hRf hRl)) hK trivial hw rfl rfl rfl hl rfl (Nat.le_of_ble_eq_true rfl) ⟨Nat.zero_le _, Nat.zero_le _⟩ dX5_passCold_5 (fun u_5 H locs hpq hw => ?_)
  obtain ⟨os2_5, kd2_5, ic2_5, br2_5⟩ := u_5
  have hw : gW D A js.heap ((yG c4 a (nI n) os2_5 kd2_5 ic2_5 br2_5) :: (wG b (a 0) bt nt sd) :: Ts) H locs := hw
  have hY_5 := hpq
  have hY_5 : yR (fun y => nightQ c (q y)) n os2_5 kd2_5 ic2_5 br2_5 := hY_5
  refine lv_aload_n hx hb dX5_passCold_8 rfl (lv_at hl 0 rfl) ?_
  refine lv_dup hx hb dX5_passCold_9 rfl ?_
  refine r_get (T := TX5) (v := .int nt) hx hb hts hi5 hown hK hw 4 rfl rfl 2 (by decide) f_1 rfl dX5_passCold_10 ?_
  refine lv_iconst (v := 1) hx hb dX5_passCold_13 (by decide) ?_
  refine lv_iadd hx hb dX5_passCold_14 ?_
  refine r_put (T := TX5) (G' := ((yG c4 a (nI n) os2_5 kd2_5 ic2_5 br2_5) :: (wG b (a 0) bt (nt + 1) sd) :: Ts)) hx hb hts hi5 tyX5 tyX5_ok nmX5 hown hK hw 4 rfl rfl 2 (by decide) f_1 rfl rfl (Nat.le_of_ble_eq_true rfl) rfl dX5_passCold_15 (fun H locs hw => ?_)
  have hw := hw.m1
  exact kr (os2_5, kd2_5, ic2_5, br2_5) _ _ _ _ hw hY_5 dX5_passCold_18
set_option maxHeartbeats 4000000 in
set_option maxRecDepth 100000 in
theorem k_X5_passThaw (l : Launch) (D : va_G) (c4 : Nat → ClassId) (A : Nat → Prop) (Ts : List va_W) (b : Nat) (bt : Int32) (nt : Int32) (sd : Int32) (a : Nat → Nat) (n : Nat) (os : Int32) (kd : Nat → Int32) (ic : Nat → Int32) (br : Nat → Int32) (q : Nat → Yq) (d : Int32) (hn : n ≤ 12) (hY : yR q n os kd ic br) (hd : 0 ≤ d.toInt ∧ d.toInt ≤ 60) : Cv l yX5_passThaw wsX5_passThaw 3 64 [.ref b, .int d] D (tyA c4) A none ((wG b (a 0) bt nt sd) :: (yG c4 a (nI n) os kd ic br) :: Ts) (S := Int32 × (Nat → Int32) × (Nat → Int32) × (Nat → Int32)) (fun (u : Int32 × (Nat → Int32) × (Nat → Int32) × (Nat → Int32)) => yR (fun y => thawQ d (q y)) n u.1 u.2.1 u.2.2.1 u.2.2.2) (fun u => ((wG b (a 0) bt (nt + 1) sd) :: (yG c4 a (nI n) u.1 u.2.1 u.2.2.1 u.2.2.2) :: Ts)) := by
  refine cOv (cc := cX5_passThaw) (maxL := 2) (by decide) rfl (Nat.le_of_ble_eq_true rfl) rfl ?_
  rintro jp je js jm below meth jc ls args R Q H locs hRf hRl ⟨hx, hb, hml, hr, hts, hown, hlocks, hK, hX⟩ hw hl kr
  have hown : js.vm.findClass RX5 = some jm.cls := hown
  have f_0 := hts (.fieldLink RX5 10 "IceSway$Winter" "yards" "LIceSway$Yards;") (by decide +kernel)
  have f_1 := hts (.fieldLink RX5 24 "IceSway$Winter" "nights" "I") (by decide +kernel)
  have hi5 : ∀ w ∈ u_ws RX5 TX5 4, w ∈ wsX5_passThaw := fun w h => List.mem_cons_of_mem _ (List.mem_append_left _ (List.mem_append_right _ h))
  refine lv_aload_n hx hb dX5_passThaw_0 rfl (lv_at hl 0 rfl) ?_
  refine r_get (T := TX5) (v := .ref (a 0)) hx hb hts hi5 hown hK hw 0 rfl rfl 0 (by decide) f_0 rfl dX5_passThaw_1 ?_
  refine lv_iload_n hx hb dX5_passThaw_4 rfl (lv_at hl 1 rfl) ?_
  have hw := hw.m1
  refine c_vv (As := [.int d]) (rest := []) ⟨hx, hb, hml, hown, hts⟩ (k_X6_melt l D c4 A ((wG b (a 0) bt nt sd) :: Ts) a n os kd ic br q d hn hY hd) (cwV 1 hts gX5_passThaw_X6_melt rfl rfl rfl (by decide +kernel) (rmv (Nat.le_of_ble_eq_true rfl) (Nat.le_of_ble_eq_true rfl) hRf hRl)) hK trivial hw rfl rfl rfl hl rfl (Nat.le_of_ble_eq_true rfl) ⟨Nat.zero_le _, Nat.zero_le _⟩ dX5_passThaw_5 (fun u_5 H locs hpq hw => ?_)
  obtain ⟨os2_5, kd2_5, ic2_5, br2_5⟩ := u_5
  have hw : gW D A js.heap ((yG c4 a (nI n) os2_5 kd2_5 ic2_5 br2_5) :: (wG b (a 0) bt nt sd) :: Ts) H locs := hw
  have hY_5 := hpq
  have hY_5 : yR (fun y => thawQ d (q y)) n os2_5 kd2_5 ic2_5 br2_5 := hY_5
  refine lv_aload_n hx hb dX5_passThaw_8 rfl (lv_at hl 0 rfl) ?_
  refine lv_dup hx hb dX5_passThaw_9 rfl ?_
  refine r_get (T := TX5) (v := .int nt) hx hb hts hi5 hown hK hw 4 rfl rfl 2 (by decide) f_1 rfl dX5_passThaw_10 ?_
  refine lv_iconst (v := 1) hx hb dX5_passThaw_13 (by decide) ?_
  refine lv_iadd hx hb dX5_passThaw_14 ?_
  refine r_put (T := TX5) (G' := ((yG c4 a (nI n) os2_5 kd2_5 ic2_5 br2_5) :: (wG b (a 0) bt (nt + 1) sd) :: Ts)) hx hb hts hi5 tyX5 tyX5_ok nmX5 hown hK hw 4 rfl rfl 2 (by decide) f_1 rfl rfl (Nat.le_of_ble_eq_true rfl) rfl dX5_passThaw_15 (fun H locs hw => ?_)
  have hw := hw.m1
  exact kr (os2_5, kd2_5, ic2_5, br2_5) _ _ _ _ hw hY_5 dX5_passThaw_18
set_option maxHeartbeats 4000000 in
set_option maxRecDepth 100000 in
theorem k_X5_draw (l : Launch) (D : va_G) (c4 : Nat → ClassId) (A : Nat → Prop) (Ts : List va_W) (b : Nat) (y : Nat) (bt : Int32) (nt : Int32) (sd : Int32) (n : Int32) (h1 : (1 : Int32) ≤ n) : Ci l yX5_draw wsX5_draw 0 0 [.ref b, .int n] D (tyA c4) A none ((wG b y bt nt sd) :: Ts) (S := Unit) (fun (r : Int32) (u : Unit) => r = (drawV sd n)) (fun u => ((wG b y bt nt (drawS sd)) :: Ts)) := by
  refine cOi (cc := cX5_draw) (maxL := 2) (by decide) rfl (Nat.le_of_ble_eq_true rfl) rfl ?_
  rintro jp je js jm below meth jc ls args R Q H locs hRf hRl ⟨hx, hb, hml, hr, hts, hown, hlocks, hK, hX⟩ hw hl kr
  have hown : js.vm.findClass RX5 = some jm.cls := hown
  have f_0 := hts (.fieldLink RX5 31 "IceSway$Winter" "drawSeed" "I") (by decide +kernel)
  have f_1 := hts (.constantLong RX5 51 (1103515245)) (by decide +kernel)
  have f_2 := hts (.constantLong RX5 53 (12345)) (by decide +kernel)
  have f_3 := hts (.constantLong RX5 55 (2147483647)) (by decide +kernel)
  have f_4 := hts (.constant RX5 57 (65536)) (by decide +kernel)
  have hi5 : ∀ w ∈ u_ws RX5 TX5 4, w ∈ wsX5_draw := fun w h => List.mem_cons_of_mem _ (List.mem_append_right _ h)
  refine lv_aload_n hx hb dX5_draw_0 rfl (lv_at hl 0 rfl) ?_
  refine lv_aload_n hx hb dX5_draw_1 rfl (lv_at hl 0 rfl) ?_
  refine r_get (T := TX5) (v := .int sd) hx hb hts hi5 hown hK hw 0 rfl rfl 3 (by decide) f_0 rfl dX5_draw_2 ?_
  refine lv_i2l hx hb dX5_draw_5 rfl ?_
  refine lv_ldc2 hx hb hown f_1 dX5_draw_6 ?_
  refine lv_lmul hx hb dX5_draw_9 ?_
  refine lv_ldc2 hx hb hown f_2 dX5_draw_10 ?_
  refine lv_ladd hx hb dX5_draw_13 ?_
  refine lv_ldc2 hx hb hown f_3 dX5_draw_14 ?_
  refine lv_land hx hb dX5_draw_17 ?_
  refine lv_l2i hx hb dX5_draw_18 rfl ?_
  refine r_top (y := drawS sd) rfl ?_
  refine r_put (T := TX5) (G' := ((wG b y bt nt (drawS sd)) :: Ts)) hx hb hts hi5 tyX5 tyX5_ok nmX5 hown hK hw 0 rfl rfl 3 (by decide) f_0 rfl rfl (Nat.le_of_ble_eq_true rfl) rfl dX5_draw_19 (fun H locs hw => ?_)
  refine lv_iload_n hx hb dX5_draw_22 rfl (lv_at hl 1 rfl) ?_
  refine lv_iconst (v := 1) hx hb dX5_draw_23 (by decide) ?_
  refine lv_icmp_ge (tgt := 31) hx hb dX5_draw_24 (by decide) (fun c_24 => ?_) (fun c_24 => ?_)
  · refine lv_aload_n hx hb dX5_draw_31 rfl (lv_at hl 0 rfl) ?_
    refine r_get (T := TX5) (v := .int (drawS sd)) hx hb hts hi5 hown hK hw 0 rfl rfl 3 (by decide) f_0 rfl dX5_draw_32 ?_
    refine lv_ldc hx hb hown f_4 dX5_draw_35 ?_
    refine lv_idiv hx hb dX5_draw_37 (by decide) ?_
    refine lv_iload_n hx hb dX5_draw_38 rfl (lv_at hl 1 rfl) ?_
    refine lv_irem hx hb dX5_draw_39 (fun e => absurd h1 (by rw [e]; decide)) ?_
    exact kr (((drawS sd) / 65536) - ((drawS sd) / 65536) / n * n) () _ _ _ _ hw rfl dX5_draw_40
  · exact absurd h1 c_24
set_option maxHeartbeats 4000000 in
set_option maxRecDepth 100000 in
theorem k_X5_passByDraws (l : Launch) (D : va_G) (c4 : Nat → ClassId) (A : Nat → Prop) (Ts : List va_W) (b : Nat) (bt : Int32) (nt : Int32) (sd : Int32) (a : Nat → Nat) (n : Nat) (os : Int32) (kd : Nat → Int32) (ic : Nat → Int32) (br : Nat → Int32) (q : Nat → Yq) (hn : n ≤ 12) (hY : yR q n os kd ic br) : Cv l yX5_passByDraws wsX5_passByDraws 4 89 [.ref b] D (tyA c4) A none ((wG b (a 0) bt nt sd) :: (yG c4 a (nI n) os kd ic br) :: Ts) (S := Int32 × (Nat → Int32) × (Nat → Int32) × (Nat → Int32)) (fun (u : Int32 × (Nat → Int32) × (Nat → Int32) × (Nat → Int32)) => yR (fun y => driftQ sd (q y)) n u.1 u.2.1 u.2.2.1 u.2.2.2) (fun u => ((wG b (a 0) bt (nt + 1) (drawS (drawS sd))) :: (yG c4 a (nI n) u.1 u.2.1 u.2.2.1 u.2.2.2) :: Ts)) := by
  refine cOv (cc := cX5_passByDraws) (maxL := 1) (by decide) rfl (Nat.le_of_ble_eq_true rfl) rfl ?_
  rintro jp je js jm below meth jc ls args R Q H locs hRf hRl ⟨hx, hb, hml, hr, hts, hown, hlocks, hK, hX⟩ hw hl kr
  have hown : js.vm.findClass RX5 = some jm.cls := hown
  refine lv_aload_n hx hb dX5_passByDraws_0 rfl (lv_at hl 0 rfl) ?_
  refine lv_iconst (v := 5) hx hb dX5_passByDraws_1 (by decide) ?_
  refine c_vi (As := [.int 5]) (rest := []) ⟨hx, hb, hml, hown, hts⟩ (k_X5_draw l D c4 A ((yG c4 a (nI n) os kd ic br) :: Ts) b (a 0) bt nt sd 5 (by first | omega | decide)) (cwV 1 hts gX5_passByDraws_X5_draw rfl rfl rfl (by decide +kernel) (rmv (Nat.le_of_ble_eq_true rfl) (Nat.le_of_ble_eq_true rfl) hRf hRl)) hK trivial hw rfl rfl rfl hl rfl (Nat.le_of_ble_eq_true rfl) ⟨Nat.zero_le _, Nat.zero_le _⟩ dX5_passByDraws_2 (fun r_2 u_2 H locs hpq hw => ?_)
  have er_2 := hpq
  subst er_2
  refine lv_if_ne (tgt := 21) hx hb dX5_passByDraws_5 (by decide) (fun c_5 => ?_) (fun c_5 => ?_)
  · refine lv_aload_n hx hb dX5_passByDraws_21 rfl (lv_at hl 0 rfl) ?_
    refine lv_aload_n hx hb dX5_passByDraws_22 rfl (lv_at hl 0 rfl) ?_
    refine lv_bipush (v := 31) hx hb dX5_passByDraws_23 (by decide) ?_
    refine c_vi (As := [.int 31]) (rest := [.ref b]) ⟨hx, hb, hml, hown, hts⟩ (k_X5_draw l D c4 A ((yG c4 a (nI n) os kd ic br) :: Ts) b (a 0) bt nt (drawS sd) 31 (by first | omega | decide)) (cwV 1 hts gX5_passByDraws_X5_draw rfl rfl rfl (by decide +kernel) (rmv (Nat.le_of_ble_eq_true rfl) (Nat.le_of_ble_eq_true rfl) hRf hRl)) hK trivial hw rfl rfl rfl hl rfl (Nat.le_of_ble_eq_true rfl) ⟨Nat.zero_le _, Nat.zero_le _⟩ dX5_passByDraws_25 (fun r_25 u_25 H locs hpq hw => ?_)
    have er_25 := hpq
    subst er_25
    have hw := hw.m1
    have hw := hw.m1
    refine c_vv (As := [.int (drawV (drawS sd) 31)]) (rest := []) ⟨hx, hb, hml, hown, hts⟩ (k_X5_passCold l D c4 A Ts b bt nt (drawS (drawS sd)) a n os kd ic br q (drawV (drawS sd) 31) hn hY (draw31 _)) (cwV 1 hts gX5_passByDraws_X5_passCold rfl rfl rfl (by decide +kernel) (rmv (Nat.le_of_ble_eq_true rfl) (Nat.le_of_ble_eq_true rfl) hRf hRl)) hK trivial hw rfl rfl rfl hl rfl (Nat.le_of_ble_eq_true rfl) ⟨Nat.zero_le _, Nat.zero_le _⟩ dX5_passByDraws_28 (fun u_28 H locs hpq hw => ?_)
    obtain ⟨os2_28, kd2_28, ic2_28, br2_28⟩ := u_28
    have hw : gW D A js.heap ((wG b (a 0) bt (nt + 1) (drawS (drawS sd))) :: (yG c4 a (nI n) os2_28 kd2_28 ic2_28 br2_28) :: Ts) H locs := hw
    have hY_28 := hpq
    have hY_28 : yR (fun y => nightQ (drawV (drawS sd) 31) (q y)) n os2_28 kd2_28 ic2_28 br2_28 := hY_28
    exact kr (os2_28, kd2_28, ic2_28, br2_28) _ _ _ _ hw (dr_n c_5 hY_28) dX5_passByDraws_31
  · refine lv_aload_n hx hb dX5_passByDraws_8 rfl (lv_at hl 0 rfl) ?_
    refine lv_aload_n hx hb dX5_passByDraws_9 rfl (lv_at hl 0 rfl) ?_
    refine lv_bipush (v := 40) hx hb dX5_passByDraws_10 (by decide) ?_
    refine c_vi (As := [.int 40]) (rest := [.ref b]) ⟨hx, hb, hml, hown, hts⟩ (k_X5_draw l D c4 A ((yG c4 a (nI n) os kd ic br) :: Ts) b (a 0) bt nt (drawS sd) 40 (by first | omega | decide)) (cwV 1 hts gX5_passByDraws_X5_draw rfl rfl rfl (by decide +kernel) (rmv (Nat.le_of_ble_eq_true rfl) (Nat.le_of_ble_eq_true rfl) hRf hRl)) hK trivial hw rfl rfl rfl hl rfl (Nat.le_of_ble_eq_true rfl) ⟨Nat.zero_le _, Nat.zero_le _⟩ dX5_passByDraws_12 (fun r_12 u_12 H locs hpq hw => ?_)
    have er_12 := hpq
    subst er_12
    have hw := hw.m1
    have hw := hw.m1
    refine c_vv (As := [.int (drawV (drawS sd) 40)]) (rest := []) ⟨hx, hb, hml, hown, hts⟩ (k_X5_passThaw l D c4 A Ts b bt nt (drawS (drawS sd)) a n os kd ic br q (drawV (drawS sd) 40) hn hY (draw40 _)) (cwV 1 hts gX5_passByDraws_X5_passThaw rfl rfl rfl (by decide +kernel) (rmv (Nat.le_of_ble_eq_true rfl) (Nat.le_of_ble_eq_true rfl) hRf hRl)) hK trivial hw rfl rfl rfl hl rfl (Nat.le_of_ble_eq_true rfl) ⟨Nat.zero_le _, Nat.zero_le _⟩ dX5_passByDraws_15 (fun u_15 H locs hpq hw => ?_)
    obtain ⟨os2_15, kd2_15, ic2_15, br2_15⟩ := u_15
    have hw : gW D A js.heap ((wG b (a 0) bt (nt + 1) (drawS (drawS sd))) :: (yG c4 a (nI n) os2_15 kd2_15 ic2_15 br2_15) :: Ts) H locs := hw
    have hY_15 := hpq
    have hY_15 : yR (fun y => thawQ (drawV (drawS sd) 40) (q y)) n os2_15 kd2_15 ic2_15 br2_15 := hY_15
    refine lv_goto (tgt := 31) hx hb dX5_passByDraws_18 (by decide) ?_
    exact kr (os2_15, kd2_15, ic2_15, br2_15) _ _ _ _ hw (dr_t c_5 hY_15) dX5_passByDraws_31
set_option maxHeartbeats 4000000 in
set_option maxRecDepth 100000 in
theorem k_X5_begin (l : Launch) (D : va_G) (c4 : Nat → ClassId) (A : Nat → Prop) (Ts : List va_W) (b : Nat) (bt : Int32) (nt : Int32) (sd : Int32) (a : Nat → Nat) (n0 : Int32) (os0 : Int32) (kd0 : Nat → Int32) (ic0 : Nat → Int32) (br0 : Nat → Int32) (x : Nat → Nat) (ln : Int32) (yc : Int32) (fn : Int32) (fp : Int32) (pl : Int32) (cs : Int32) (lt : Nat → Int32) (nb : Nat → Int32) (yk : Nat → Int32) (yi : Nat → Int32) (n : Nat) (hn : n ≤ 12) (hT : newOk n yk yi) : Cv l yX5_begin wsX5_begin 2 38 [.ref b, .int (nI n), .ref (x 3), .ref (x 4)] D (tyA c4) A none ((wG b (a 0) bt nt sd) :: (yG c4 a n0 os0 kd0 ic0 br0) :: (xG c4 x ln yc fn fp pl cs lt nb yk yi) :: Ts) (S := (Nat → Int32) × (Nat → Int32) × (Nat → Int32)) (fun (u : (Nat → Int32) × (Nat → Int32) × (Nat → Int32)) => yR (newQ yk yi) n 0 u.1 u.2.1 u.2.2) (fun u => ((wG b (a 0) 4 0 sd) :: (yG c4 a (nI n) 0 u.1 u.2.1 u.2.2) :: (xG c4 x ln yc fn fp pl cs lt nb yk yi) :: Ts)) := by
  refine cOv (cc := cX5_begin) (maxL := 4) (by decide) rfl (Nat.le_of_ble_eq_true rfl) rfl ?_
  rintro jp je js jm below meth jc ls args R Q H locs hRf hRl ⟨hx, hb, hml, hr, hts, hown, hlocks, hK, hX⟩ hw hl kr
  have hown : js.vm.findClass RX5 = some jm.cls := hown
  have f_0 := hts (.fieldLink RX5 10 "IceSway$Winter" "yards" "LIceSway$Yards;") (by decide +kernel)
  have f_1 := hts (.fieldLink RX5 16 "IceSway$Winter" "beat" "I") (by decide +kernel)
  have f_2 := hts (.fieldLink RX5 24 "IceSway$Winter" "nights" "I") (by decide +kernel)
  have hi5 : ∀ w ∈ u_ws RX5 TX5 4, w ∈ wsX5_begin := fun w h => List.mem_cons_of_mem _ (List.mem_append_left _ (List.mem_append_right _ h))
  refine lv_aload_n hx hb dX5_begin_0 rfl (lv_at hl 0 rfl) ?_
  refine r_get (T := TX5) (v := .ref (a 0)) hx hb hts hi5 hown hK hw 0 rfl rfl 0 (by decide) f_0 rfl dX5_begin_1 ?_
  refine lv_iload_n hx hb dX5_begin_4 rfl (lv_at hl 1 rfl) ?_
  refine lv_aload_n hx hb dX5_begin_5 rfl (lv_at hl 2 rfl) ?_
  refine lv_aload_n hx hb dX5_begin_6 rfl (lv_at hl 3 rfl) ?_
  have hw := hw.m2
  have hw := hw.m2
  refine c_vv (As := [.int (nI n), .ref (x 3), .ref (x 4)]) (rest := []) ⟨hx, hb, hml, hown, hts⟩ (k_X6_begin l D c4 A ((wG b (a 0) bt nt sd) :: Ts) a n0 os0 kd0 ic0 br0 x ln yc fn fp pl cs lt nb yk yi n hn hT) (cwV 3 hts gX5_begin_X6_begin rfl rfl rfl (by decide +kernel) (rmv (Nat.le_of_ble_eq_true rfl) (Nat.le_of_ble_eq_true rfl) hRf hRl)) hK trivial hw rfl rfl rfl hl rfl (Nat.le_of_ble_eq_true rfl) ⟨Nat.zero_le _, Nat.zero_le _⟩ dX5_begin_7 (fun u_7 H locs hpq hw => ?_)
  obtain ⟨kd2_7, ic2_7, br2_7⟩ := u_7
  have hw : gW D A js.heap ((yG c4 a (nI n) 0 kd2_7 ic2_7 br2_7) :: (xG c4 x ln yc fn fp pl cs lt nb yk yi) :: (wG b (a 0) bt nt sd) :: Ts) H locs := hw
  have hY_7 := hpq
  have hY_7 : yR (newQ yk yi) n 0 kd2_7 ic2_7 br2_7 := hY_7
  refine lv_aload_n hx hb dX5_begin_10 rfl (lv_at hl 0 rfl) ?_
  refine lv_iconst (v := 4) hx hb dX5_begin_11 (by decide) ?_
  refine r_put (T := TX5) (G' := ((yG c4 a (nI n) 0 kd2_7 ic2_7 br2_7) :: (xG c4 x ln yc fn fp pl cs lt nb yk yi) :: (wG b (a 0) 4 nt sd) :: Ts)) hx hb hts hi5 tyX5 tyX5_ok nmX5 hown hK hw 9 rfl rfl 1 (by decide) f_1 rfl rfl (Nat.le_of_ble_eq_true rfl) rfl dX5_begin_12 (fun H locs hw => ?_)
  refine lv_aload_n hx hb dX5_begin_15 rfl (lv_at hl 0 rfl) ?_
  refine lv_iconst (v := 0) hx hb dX5_begin_16 (by decide) ?_
  refine r_put (T := TX5) (G' := ((yG c4 a (nI n) 0 kd2_7 ic2_7 br2_7) :: (xG c4 x ln yc fn fp pl cs lt nb yk yi) :: (wG b (a 0) 4 0 sd) :: Ts)) hx hb hts hi5 tyX5 tyX5_ok nmX5 hown hK hw 9 rfl rfl 2 (by decide) f_2 rfl rfl (Nat.le_of_ble_eq_true rfl) rfl dX5_begin_17 (fun H locs hw => ?_)
  have hw := hw.m1
  have hw := hw.m1
  have hw := hw.m2
  exact kr (kd2_7, ic2_7, br2_7) _ _ _ _ hw hY_7 dX5_begin_20
set_option maxHeartbeats 4000000 in
set_option maxRecDepth 100000 in
theorem k_X5_copyFrom (l : Launch) (D : va_G) (c4 : Nat → ClassId) (A : Nat → Prop) (Ts : List va_W) (v : Nat) (bt0 : Int32) (nt0 : Int32) (sd0 : Int32) (a : Nat → Nat) (n0 : Int32) (os0 : Int32) (kd0 : Nat → Int32) (ic0 : Nat → Int32) (br0 : Nat → Int32) (w : Nat) (bt : Int32) (nt : Int32) (sd : Int32) (b : Nat → Nat) (n : Nat) (os : Int32) (kd : Nat → Int32) (ic : Nat → Int32) (br : Nat → Int32) (q : Nat → Yq) (hn : n ≤ 12) (hY : yR q n os kd ic br) : Cv l yX5_copyFrom wsX5_copyFrom 1 22 [.ref v, .ref w] D (tyA c4) A none ((wG v (a 0) bt0 nt0 sd0) :: (yG c4 a n0 os0 kd0 ic0 br0) :: (wG w (b 0) bt nt sd) :: (yG c4 b (nI n) os kd ic br) :: Ts) (S := (Nat → Int32) × (Nat → Int32) × (Nat → Int32)) (fun (u : (Nat → Int32) × (Nat → Int32) × (Nat → Int32)) => yR q n os u.1 u.2.1 u.2.2) (fun u => ((wG v (a 0) bt nt sd) :: (yG c4 a (nI n) os u.1 u.2.1 u.2.2) :: (wG w (b 0) bt nt sd) :: (yG c4 b (nI n) os kd ic br) :: Ts)) := by
  refine cOv (cc := cX5_copyFrom) (maxL := 2) (by decide) rfl (Nat.le_of_ble_eq_true rfl) rfl ?_
  rintro jp je js jm below meth jc ls args R Q H locs hRf hRl ⟨hx, hb, hml, hr, hts, hown, hlocks, hK, hX⟩ hw hl kr
  have hown : js.vm.findClass RX5 = some jm.cls := hown
  have f_0 := hts (.fieldLink RX5 10 "IceSway$Winter" "yards" "LIceSway$Yards;") (by decide +kernel)
  have f_1 := hts (.fieldLink RX5 16 "IceSway$Winter" "beat" "I") (by decide +kernel)
  have f_2 := hts (.fieldLink RX5 24 "IceSway$Winter" "nights" "I") (by decide +kernel)
  have f_3 := hts (.fieldLink RX5 31 "IceSway$Winter" "drawSeed" "I") (by decide +kernel)
  have hi5 : ∀ w ∈ u_ws RX5 TX5 4, w ∈ wsX5_copyFrom := fun w h => List.mem_cons_of_mem _ (List.mem_append_left _ (List.mem_append_right _ h))
  refine lv_aload_n hx hb dX5_copyFrom_0 rfl (lv_at hl 0 rfl) ?_
  refine r_get (T := TX5) (v := .ref (a 0)) hx hb hts hi5 hown hK hw 0 rfl rfl 0 (by decide) f_0 rfl dX5_copyFrom_1 ?_
  refine lv_aload_n hx hb dX5_copyFrom_4 rfl (lv_at hl 1 rfl) ?_
  refine r_get (T := TX5) (v := .ref (b 0)) hx hb hts hi5 hown hK hw 5 rfl rfl 0 (by decide) f_0 rfl dX5_copyFrom_5 ?_
  have hw := hw.m3
  have hw := hw.m2
  refine c_vv (As := [.ref (b 0)]) (rest := []) ⟨hx, hb, hml, hown, hts⟩ (k_X6_copyFrom l D c4 A ((wG v (a 0) bt0 nt0 sd0) :: (wG w (b 0) bt nt sd) :: Ts) a n0 os0 kd0 ic0 br0 b n os kd ic br q hn hY) (cwV 1 hts gX5_copyFrom_X6_copyFrom rfl rfl rfl (by decide +kernel) (rmv (Nat.le_of_ble_eq_true rfl) (Nat.le_of_ble_eq_true rfl) hRf hRl)) hK trivial hw rfl rfl rfl hl rfl (Nat.le_of_ble_eq_true rfl) ⟨Nat.zero_le _, Nat.zero_le _⟩ dX5_copyFrom_8 (fun u_8 H locs hpq hw => ?_)
  obtain ⟨kd2_8, ic2_8, br2_8⟩ := u_8
  have hw : gW D A js.heap ((yG c4 a (nI n) os kd2_8 ic2_8 br2_8) :: (yG c4 b (nI n) os kd ic br) :: (wG v (a 0) bt0 nt0 sd0) :: (wG w (b 0) bt nt sd) :: Ts) H locs := hw
  have hY_8 := hpq
  have hY_8 : yR q n os kd2_8 ic2_8 br2_8 := hY_8
  refine lv_aload_n hx hb dX5_copyFrom_11 rfl (lv_at hl 0 rfl) ?_
  refine lv_aload_n hx hb dX5_copyFrom_12 rfl (lv_at hl 1 rfl) ?_
  refine r_get (T := TX5) (v := .int bt) hx hb hts hi5 hown hK hw 9 rfl rfl 1 (by decide) f_1 rfl dX5_copyFrom_13 ?_
  refine r_put (T := TX5) (G' := ((yG c4 a (nI n) os kd2_8 ic2_8 br2_8) :: (yG c4 b (nI n) os kd ic br) :: (wG v (a 0) bt nt0 sd0) :: (wG w (b 0) bt nt sd) :: Ts)) hx hb hts hi5 tyX5 tyX5_ok nmX5 hown hK hw 8 rfl rfl 1 (by decide) f_1 rfl rfl (Nat.le_of_ble_eq_true rfl) rfl dX5_copyFrom_16 (fun H locs hw => ?_)
  refine lv_aload_n hx hb dX5_copyFrom_19 rfl (lv_at hl 0 rfl) ?_
  refine lv_aload_n hx hb dX5_copyFrom_20 rfl (lv_at hl 1 rfl) ?_
  refine r_get (T := TX5) (v := .int nt) hx hb hts hi5 hown hK hw 9 rfl rfl 2 (by decide) f_2 rfl dX5_copyFrom_21 ?_
  refine r_put (T := TX5) (G' := ((yG c4 a (nI n) os kd2_8 ic2_8 br2_8) :: (yG c4 b (nI n) os kd ic br) :: (wG v (a 0) bt nt sd0) :: (wG w (b 0) bt nt sd) :: Ts)) hx hb hts hi5 tyX5 tyX5_ok nmX5 hown hK hw 8 rfl rfl 2 (by decide) f_2 rfl rfl (Nat.le_of_ble_eq_true rfl) rfl dX5_copyFrom_24 (fun H locs hw => ?_)
  refine lv_aload_n hx hb dX5_copyFrom_27 rfl (lv_at hl 0 rfl) ?_
  refine lv_aload_n hx hb dX5_copyFrom_28 rfl (lv_at hl 1 rfl) ?_
  refine r_get (T := TX5) (v := .int sd) hx hb hts hi5 hown hK hw 9 rfl rfl 3 (by decide) f_3 rfl dX5_copyFrom_29 ?_
  refine r_put (T := TX5) (G' := ((yG c4 a (nI n) os kd2_8 ic2_8 br2_8) :: (yG c4 b (nI n) os kd ic br) :: (wG v (a 0) bt nt sd) :: (wG w (b 0) bt nt sd) :: Ts)) hx hb hts hi5 tyX5 tyX5_ok nmX5 hown hK hw 8 rfl rfl 3 (by decide) f_3 rfl rfl (Nat.le_of_ble_eq_true rfl) rfl dX5_copyFrom_32 (fun H locs hw => ?_)
  have hw := hw.m1
  have hw := hw.m3
  have hw := hw.m2
  have hw := hw.m3
  exact kr (kd2_8, ic2_8, br2_8) _ _ _ _ hw hY_8 dX5_copyFrom_35
