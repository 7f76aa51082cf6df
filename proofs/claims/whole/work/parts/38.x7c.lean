set_option maxHeartbeats 4000000 in
set_option maxRecDepth 100000 in
theorem k_X7_cut (l : Launch) (D : va_G) (c4 : Nat → ClassId) (A : Nat → Prop) (Ts : List va_W) (t : Nat → Nat) (ad : Nat → Nat → Nat) (fp : Int32) (ln : Nat) (xyc : Int32) (xfn : Int32) (xfp : Int32) (xpl : Int32) (xcs : Int32) (lt : Nat → Int32) (xnb : Nat → Int32) (xyk : Nat → Int32) (xyi : Nat → Int32) (bt : Int32) (nt : Int32) (sd : Int32) (nb : Nat → Int32) (n0 : Int32) (os0 : Int32) (kd0 : Nat → Int32) (ic0 : Nat → Int32) (br0 : Nat → Int32) (bc : Nat) (ec : Nat) (by0 : Nat → Int32) (bn : Nat → Int32) (bd : Nat → Int32) (bi : Nat → Int32) (ey : Nat → Int32) (ei : Nat → Int32) (kp : Nat → Int32) (hln : ln ≤ 230) : Ci l yX7_cut wsX7_cut 6 134 [.ref ((ad 0) 0)] D (tyA c4) A (some t) ((iG ad fp) :: (xG c4 (ad 1) (nI ln) xyc xfn xfp xpl xcs lt xnb xyk xyi) :: (wG ((ad 3) 0) ((ad 4) 0) bt nt sd) :: (bG c4 (ad 2) nb) :: (yG c4 (ad 4) n0 os0 kd0 ic0 br0) :: (rG c4 (ad 7) (nI bc) (nI ec) by0 bn bd bi ey ei) :: (zG c4 ((ad 6) 0) 2 kp) :: Ts) (S := Int32 × Int32 × Int32 × Int32 × Int32 × Int32 × (Nat → Int32) × (Nat → Int32) × (Nat → Int32) × (Nat → Int32) × Int32 × Int32 × Int32 × Int32 × (Nat → Int32) × (Nat → Int32) × (Nat → Int32) × Int32 × Int32 × (Nat → Int32)) (fun (r : Int32) (u : Int32 × Int32 × Int32 × Int32 × Int32 × Int32 × (Nat → Int32) × (Nat → Int32) × (Nat → Int32) × (Nat → Int32) × Int32 × Int32 × Int32 × Int32 × (Nat → Int32) × (Nat → Int32) × (Nat → Int32) × Int32 × Int32 × (Nat → Int32)) => cutP lt ln n0 os0 bt nt bc ec kd0 ic0 br0 nb kp r u.1 u.2.2.2.2.2.2.2.2.2.2.2.2.1 u.2.2.2.2.2.2.2.2.2.2.2.2.2.1 u.2.2.2.2.2.2.2.2.2.2.1 u.2.2.2.2.2.2.2.2.2.2.2.1 u.2.2.2.2.2.2.2.2.2.2.2.2.2.2.2.2.2.1 u.2.2.2.2.2.2.2.2.2.2.2.2.2.2.2.2.2.2.1 u.2.2.2.2.2.2.2.2.2.2.2.2.2.2.1 u.2.2.2.2.2.2.2.2.2.2.2.2.2.2.2.1 u.2.2.2.2.2.2.2.2.2.2.2.2.2.2.2.2.1 u.2.2.2.2.2.2.2.2.2.1 u.2.2.2.2.2.2.2.2.2.2.2.2.2.2.2.2.2.2.2) (fun u => ((iG ad u.1) :: (xG c4 (ad 1) 0 u.2.1 u.2.2.1 u.2.2.2.1 u.2.2.2.2.1 u.2.2.2.2.2.1 lt u.2.2.2.2.2.2.1 u.2.2.2.2.2.2.2.1 u.2.2.2.2.2.2.2.2.1) :: (wG ((ad 3) 0) ((ad 4) 0) u.2.2.2.2.2.2.2.2.2.2.1 u.2.2.2.2.2.2.2.2.2.2.2.1 sd) :: (bG c4 (ad 2) u.2.2.2.2.2.2.2.2.2.1) :: (yG c4 (ad 4) u.2.2.2.2.2.2.2.2.2.2.2.2.1 u.2.2.2.2.2.2.2.2.2.2.2.2.2.1 u.2.2.2.2.2.2.2.2.2.2.2.2.2.2.1 u.2.2.2.2.2.2.2.2.2.2.2.2.2.2.2.1 u.2.2.2.2.2.2.2.2.2.2.2.2.2.2.2.2.1) :: (rG c4 (ad 7) u.2.2.2.2.2.2.2.2.2.2.2.2.2.2.2.2.2.1 u.2.2.2.2.2.2.2.2.2.2.2.2.2.2.2.2.2.2.1 by0 bn bd bi ey ei) :: (zG c4 ((ad 6) 0) 2 u.2.2.2.2.2.2.2.2.2.2.2.2.2.2.2.2.2.2.2) :: Ts)) := by
  refine cOi (cc := cX7_cut) (maxL := 3) (by decide) rfl (Nat.le_of_ble_eq_true rfl) rfl ?_
  rintro jp je js jm below meth jc ls args R Q H locs hRf hRl ⟨hx, hb, hml, hr, hts, hown, hlocks, hK, hX⟩ hw hl kr
  have hown : js.vm.findClass RX7 = some jm.cls := hown
  have f_0 := hts (.fieldLink RX7 10 "IceSway" "text" "LIceSway$Text;") (by decide +kernel)
  have f_1 := hts (.fieldLink RX7 84 "IceSway$Text" "length" "I") (by decide +kernel)
  have f_2 := hts (.fieldLink RX7 90 "IceSway$Text" "faultPlace" "I") (by decide +kernel)
  have f_3 := hts (.fieldLink RX7 66 "IceSway" "faultPlace" "I") (by decide +kernel)
  have f_4 := hts (.fieldLink RX7 19 "IceSway" "boat" "LIceSway$Boat;") (by decide +kernel)
  have f_5 := hts (.fieldLink RX7 94 "IceSway$Text" "numbers" "[I") (by decide +kernel)
  have f_6 := hts (.fieldLink RX7 26 "IceSway" "now" "LIceSway$Winter;") (by decide +kernel)
  have f_7 := hts (.fieldLink RX7 102 "IceSway$Text" "yardCount" "I") (by decide +kernel)
  have f_8 := hts (.fieldLink RX7 105 "IceSway$Text" "yardKinds" "[I") (by decide +kernel)
  have f_9 := hts (.fieldLink RX7 108 "IceSway$Text" "yardIce" "[I") (by decide +kernel)
  have f_10 := hts (.fieldLink RX7 41 "IceSway" "records" "LIceSway$Records;") (by decide +kernel)
  have f_11 := hts (.fieldLink RX7 34 "IceSway" "kept" "[Z") (by decide +kernel)
  have f_12 := hts (.fieldLink RX7 118 "IceSway$Winter" "yards" "LIceSway$Yards;") (by decide +kernel)
  have f_13 := hts (.fieldLink RX7 121 "IceSway$Yards" "count" "I") (by decide +kernel)
  have f_14 := hts (.fieldLink RX7 91 "IceSway$Text" "faultNumber" "I") (by decide +kernel)
  have hi7 : ∀ w ∈ u_ws RX7 TX7 10, w ∈ wsX7_cut := fun w h => List.mem_cons_of_mem _ (List.mem_append_left _ (List.mem_append_left _ (List.mem_append_left _ (List.mem_append_left _ (List.mem_append_left _ (List.mem_append_right _ h))))))
  have hi3 : ∀ w ∈ u_ws RX3 TX3 10, w ∈ wsX7_cut := fun w h => List.mem_cons_of_mem _ (List.mem_append_left _ (List.mem_append_left _ (List.mem_append_left _ (List.mem_append_left _ (List.mem_append_right _ h)))))
  have hi5 : ∀ w ∈ u_ws RX5 TX5 4, w ∈ wsX7_cut := fun w h => List.mem_cons_of_mem _ (List.mem_append_left _ (List.mem_append_left _ (List.mem_append_left _ (List.mem_append_right _ h))))
  have hi6 : ∀ w ∈ u_ws RX6 TX6 5, w ∈ wsX7_cut := fun w h => List.mem_cons_of_mem _ (List.mem_append_left _ (List.mem_append_left _ (List.mem_append_right _ h)))
  refine lv_aload_n hx hb dX7_cut_0 rfl (lv_at hl 0 rfl) ?_
  refine r_get (T := TX7) (v := .ref ((ad 1) 0)) hx hb hts hi7 hown hK hw 0 rfl rfl 0 (by decide) f_0 rfl dX7_cut_1 ?_
  have hw := hw.m1
  refine c_vi (As := []) (rest := []) ⟨hx, hb, hml, hown, hts⟩ (k_X3_read l D c4 A ((iG ad fp) :: (wG ((ad 3) 0) ((ad 4) 0) bt nt sd) :: (bG c4 (ad 2) nb) :: (yG c4 (ad 4) n0 os0 kd0 ic0 br0) :: (rG c4 (ad 7) (nI bc) (nI ec) by0 bn bd bi ey ei) :: (zG c4 ((ad 6) 0) 2 kp) :: Ts) t (ad 1) ln xyc xfn xfp xpl xcs lt xnb xyk xyi hln) (cwV 0 hts gX7_cut_X3_read rfl rfl rfl (by decide +kernel) (rmv (Nat.le_of_ble_eq_true rfl) (Nat.le_of_ble_eq_true rfl) hRf hRl)) hK (by exact hX) hw rfl rfl rfl hl rfl (Nat.le_of_ble_eq_true rfl) ⟨Nat.zero_le _, Nat.zero_le _⟩ dX7_cut_4 (fun r_4 u_4 H locs hpq hw => ?_)
  obtain ⟨pl2_4, sn2_4, yc2_4, fn2_4, fp2_4, yk2_4, yi2_4, nb2_4⟩ := u_4
  have hw : gW D A js.heap ((xG c4 (ad 1) (nI ln) yc2_4 fn2_4 fp2_4 (nI pl2_4) sn2_4 lt nb2_4 yk2_4 yi2_4) :: (iG ad fp) :: (wG ((ad 3) 0) ((ad 4) 0) bt nt sd) :: (bG c4 (ad 2) nb) :: (yG c4 (ad 4) n0 os0 kd0 ic0 br0) :: (rG c4 (ad 7) (nI bc) (nI ec) by0 bn bd bi ey ei) :: (zG c4 ((ad 6) 0) 2 kp) :: Ts) H locs := hw
  have hP_4 := hpq
  have hP_4 : prP lt ln yc2_4 yk2_4 yi2_4 nb2_4 r_4 fn2_4 fp2_4 := hP_4
  refine lv_istore_n (lv' := [(1, .int r_4), (0, .ref ((ad 0) 0))]) hx hb dX7_cut_7 rfl hl (by decide) rfl (fun ls hl => ?_)
  refine lv_aload_n hx hb dX7_cut_8 rfl (lv_at hl 1 rfl) ?_
  refine r_get (T := TX7) (v := .ref ((ad 1) 0)) hx hb hts hi7 hown hK hw 5 rfl rfl 0 (by decide) f_0 rfl dX7_cut_9 ?_
  refine lv_iconst (v := 0) hx hb dX7_cut_12 (by decide) ?_
  refine r_put (T := TX3) (G' := ((xG c4 (ad 1) 0 yc2_4 fn2_4 fp2_4 (nI pl2_4) sn2_4 lt nb2_4 yk2_4 yi2_4) :: (iG ad fp) :: (wG ((ad 3) 0) ((ad 4) 0) bt nt sd) :: (bG c4 (ad 2) nb) :: (yG c4 (ad 4) n0 os0 kd0 ic0 br0) :: (rG c4 (ad 7) (nI bc) (nI ec) by0 bn bd bi ey ei) :: (zG c4 ((ad 6) 0) 2 kp) :: Ts)) hx hb hts hi3 tyX3 tyX3_ok nmX3 hown hK hw 0 rfl rfl 1 (by decide) f_1 rfl rfl (Nat.le_of_ble_eq_true rfl) rfl dX7_cut_13 (fun H locs hw => ?_)
  refine lv_aload_n hx hb dX7_cut_16 rfl (lv_at hl 1 rfl) ?_
  refine lv_aload_n hx hb dX7_cut_17 rfl (lv_at hl 1 rfl) ?_
  refine r_get (T := TX7) (v := .ref ((ad 1) 0)) hx hb hts hi7 hown hK hw 5 rfl rfl 0 (by decide) f_0 rfl dX7_cut_18 ?_
  refine r_get (T := TX3) (v := .int fp2_4) hx hb hts hi3 hown hK hw 0 rfl rfl 7 (by decide) f_2 rfl dX7_cut_21 ?_
  refine r_put (T := TX7) (G' := ((xG c4 (ad 1) 0 yc2_4 fn2_4 fp2_4 (nI pl2_4) sn2_4 lt nb2_4 yk2_4 yi2_4) :: (iG ad fp2_4) :: (wG ((ad 3) 0) ((ad 4) 0) bt nt sd) :: (bG c4 (ad 2) nb) :: (yG c4 (ad 4) n0 os0 kd0 ic0 br0) :: (rG c4 (ad 7) (nI bc) (nI ec) by0 bn bd bi ey ei) :: (zG c4 ((ad 6) 0) 2 kp) :: Ts)) hx hb hts hi7 tyX7 tyX7_ok nmX7 hown hK hw 5 rfl rfl 9 (by decide) f_3 rfl rfl (Nat.le_of_ble_eq_true rfl) rfl dX7_cut_24 (fun H locs hw => ?_)
  refine lv_iload_n hx hb dX7_cut_27 rfl (lv_at hl 0 rfl) ?_
  refine lv_if_ne (tgt := 42) hx hb dX7_cut_28 (by decide) (fun c_28 => ?_) (fun c_28 => ?_)
  · obtain ⟨ys, np, hP1, -, hP3, hP4, hP5, hP6⟩ := hP_4.resolve_right (fun z => c_28 z.2)
    have hpo := parse_ok hP1
    refine lv_aload_n hx hb dX7_cut_42 rfl (lv_at hl 1 rfl) ?_
    refine r_get (T := TX7) (v := .ref ((ad 2) 0)) hx hb hts hi7 hown hK hw 5 rfl rfl 1 (by decide) f_4 rfl dX7_cut_43 ?_
    refine lv_aload_n hx hb dX7_cut_46 rfl (lv_at hl 1 rfl) ?_
    refine r_get (T := TX7) (v := .ref ((ad 1) 0)) hx hb hts hi7 hown hK hw 5 rfl rfl 0 (by decide) f_0 rfl dX7_cut_47 ?_
    refine r_get (T := TX3) (v := .ref ((ad 1) 2)) hx hb hts hi3 hown hK hw 0 rfl rfl 2 (by decide) f_5 rfl dX7_cut_50 ?_
    have hw := hw.m3
    refine c_vv (As := [.ref ((ad 1) 2)]) (rest := []) ⟨hx, hb, hml, hown, hts⟩ (k_X0_become l D c4 A ((iG ad fp2_4) :: (wG ((ad 3) 0) ((ad 4) 0) bt nt sd) :: (yG c4 (ad 4) n0 os0 kd0 ic0 br0) :: (rG c4 (ad 7) (nI bc) (nI ec) by0 bn bd bi ey ei) :: (zG c4 ((ad 6) 0) 2 kp) :: Ts) (ad 2) nb (ad 1) 0 yc2_4 fn2_4 fp2_4 (nI pl2_4) sn2_4 lt nb2_4 yk2_4 yi2_4) (cwV 1 hts gX7_cut_X0_become rfl rfl rfl (by decide +kernel) (rmv (Nat.le_of_ble_eq_true rfl) (Nat.le_of_ble_eq_true rfl) hRf hRl)) hK trivial hw rfl rfl rfl hl rfl (Nat.le_of_ble_eq_true rfl) ⟨Nat.zero_le _, Nat.zero_le _⟩ dX7_cut_53 (fun u_53 H locs hpq hw => ?_)
    obtain ⟨nb2_53, rfl⟩ : ∃ z, z = u_53 := ⟨_, rfl⟩
    have hw : gW D A js.heap ((bG c4 (ad 2) nb2_53) :: (xG c4 (ad 1) 0 yc2_4 fn2_4 fp2_4 (nI pl2_4) sn2_4 lt nb2_4 yk2_4 yi2_4) :: (iG ad fp2_4) :: (wG ((ad 3) 0) ((ad 4) 0) bt nt sd) :: (yG c4 (ad 4) n0 os0 kd0 ic0 br0) :: (rG c4 (ad 7) (nI bc) (nI ec) by0 bn bd bi ey ei) :: (zG c4 ((ad 6) 0) 2 kp) :: Ts) H locs := hw
    have hE_53 := hpq
    have hE_53 : ∀ k, k < 9 → nb2_53 k = nb2_4 k := hE_53
    refine lv_aload_n hx hb dX7_cut_56 rfl (lv_at hl 1 rfl) ?_
    refine r_get (T := TX7) (v := .ref ((ad 3) 0)) hx hb hts hi7 hown hK hw 7 rfl rfl 2 (by decide) f_6 rfl dX7_cut_57 ?_
    refine lv_aload_n hx hb dX7_cut_60 rfl (lv_at hl 1 rfl) ?_
    refine r_get (T := TX7) (v := .ref ((ad 1) 0)) hx hb hts hi7 hown hK hw 7 rfl rfl 0 (by decide) f_0 rfl dX7_cut_61 ?_
    refine r_get (T := TX3) (v := .int yc2_4) hx hb hts hi3 hown hK hw 2 rfl rfl 5 (by decide) f_7 rfl dX7_cut_64 ?_
    refine r_top (y := nI ys.length) hP3 ?_
    refine lv_aload_n hx hb dX7_cut_67 rfl (lv_at hl 1 rfl) ?_
    refine r_get (T := TX7) (v := .ref ((ad 1) 0)) hx hb hts hi7 hown hK hw 7 rfl rfl 0 (by decide) f_0 rfl dX7_cut_68 ?_
    refine r_get (T := TX3) (v := .ref ((ad 1) 3)) hx hb hts hi3 hown hK hw 2 rfl rfl 3 (by decide) f_8 rfl dX7_cut_71 ?_
    refine lv_aload_n hx hb dX7_cut_74 rfl (lv_at hl 1 rfl) ?_
    refine r_get (T := TX7) (v := .ref ((ad 1) 0)) hx hb hts hi7 hown hK hw 7 rfl rfl 0 (by decide) f_0 rfl dX7_cut_75 ?_
    refine r_get (T := TX3) (v := .ref ((ad 1) 4)) hx hb hts hi3 hown hK hw 2 rfl rfl 4 (by decide) f_9 rfl dX7_cut_78 ?_
    have hw := hw.m1
    have hw := hw.m4
    have hw := hw.m4
    refine c_vv (As := [.int (nI ys.length), .ref ((ad 1) 3), .ref ((ad 1) 4)]) (rest := []) ⟨hx, hb, hml, hown, hts⟩ (k_X5_begin l D c4 A ((bG c4 (ad 2) nb2_53) :: (iG ad fp2_4) :: (rG c4 (ad 7) (nI bc) (nI ec) by0 bn bd bi ey ei) :: (zG c4 ((ad 6) 0) 2 kp) :: Ts) ((ad 3) 0) bt nt sd (ad 4) n0 os0 kd0 ic0 br0 (ad 1) 0 yc2_4 fn2_4 fp2_4 (nI pl2_4) sn2_4 lt nb2_4 yk2_4 yi2_4 ys.length hpo.2.1 (new_of hpo.1 hP4)) (cwV 3 hts gX7_cut_X5_begin rfl rfl rfl (by decide +kernel) (rmv (Nat.le_of_ble_eq_true rfl) (Nat.le_of_ble_eq_true rfl) hRf hRl)) hK trivial hw rfl rfl rfl hl rfl (Nat.le_of_ble_eq_true rfl) ⟨Nat.zero_le _, Nat.zero_le _⟩ dX7_cut_81 (fun u_81 H locs hpq hw => ?_)
    obtain ⟨kd2_81, ic2_81, br2_81⟩ := u_81
    have hw : gW D A js.heap ((wG ((ad 3) 0) ((ad 4) 0) 4 0 sd) :: (yG c4 (ad 4) (nI ys.length) 0 kd2_81 ic2_81 br2_81) :: (xG c4 (ad 1) 0 yc2_4 fn2_4 fp2_4 (nI pl2_4) sn2_4 lt nb2_4 yk2_4 yi2_4) :: (bG c4 (ad 2) nb2_53) :: (iG ad fp2_4) :: (rG c4 (ad 7) (nI bc) (nI ec) by0 bn bd bi ey ei) :: (zG c4 ((ad 6) 0) 2 kp) :: Ts) H locs := hw
    have hY_81 := hpq
    have hY_81 : yR (newQ yk2_4 yi2_4) ys.length 0 kd2_81 ic2_81 br2_81 := hY_81
    refine lv_aload_n hx hb dX7_cut_84 rfl (lv_at hl 1 rfl) ?_
    refine r_get (T := TX7) (v := .ref ((ad 7) 0)) hx hb hts hi7 hown hK hw 12 rfl rfl 5 (by decide) f_10 rfl dX7_cut_85 ?_
    have hw := hw.m5
    refine c_vv (As := []) (rest := []) ⟨hx, hb, hml, hown, hts⟩ (k_X1_clearAll l D c4 A ((wG ((ad 3) 0) ((ad 4) 0) 4 0 sd) :: (yG c4 (ad 4) (nI ys.length) 0 kd2_81 ic2_81 br2_81) :: (xG c4 (ad 1) 0 yc2_4 fn2_4 fp2_4 (nI pl2_4) sn2_4 lt nb2_4 yk2_4 yi2_4) :: (bG c4 (ad 2) nb2_53) :: (iG ad fp2_4) :: (zG c4 ((ad 6) 0) 2 kp) :: Ts) (ad 7) bc ec by0 bn bd bi ey ei) (cwV 0 hts gX7_cut_X1_clearAll rfl rfl rfl (by decide +kernel) (rmv (Nat.le_of_ble_eq_true rfl) (Nat.le_of_ble_eq_true rfl) hRf hRl)) hK trivial hw rfl rfl rfl hl rfl (Nat.le_of_ble_eq_true rfl) ⟨Nat.zero_le _, Nat.zero_le _⟩ dX7_cut_88 (fun u_88 H locs hpq hw => ?_)
    refine lv_iconst (v := 0) hx hb dX7_cut_91 (by decide) ?_
    refine lv_istore_n (lv' := [(2, .int 0), (1, .int r_4), (0, .ref ((ad 0) 0))]) hx hb dX7_cut_92 rfl hl (by decide) rfl (fun ls hl => ?_)
    have loop_93 : ∀ (fuel : Nat) (i : Nat) (kp1 : Nat → Int32), (2 - i) < fuel → (i ≤ 2) → (∀ j, j < i → kp1 j = 0) → ∀ (H : Heap) (locs : List Loc), gW D A js.heap ((rG c4 (ad 7) 0 0 by0 bn bd bi ey ei) :: (wG ((ad 3) 0) ((ad 4) 0) 4 0 sd) :: (yG c4 (ad 4) (nI ys.length) 0 kd2_81 ic2_81 br2_81) :: (xG c4 (ad 1) 0 yc2_4 fn2_4 fp2_4 (nI pl2_4) sn2_4 lt nb2_4 yk2_4 yi2_4) :: (bG c4 (ad 2) nb2_53) :: (iG ad fp2_4) :: (zG c4 ((ad 6) 0) 2 kp1) :: Ts) H locs → ∀ (ls : Array Slot), lv_has ls 3 [(2, .int (nI i)), (1, .int r_4), (0, .ref ((ad 0) 0))] → W jp l je R js jm args below meth jc H locs 0 0 Q (F0 jm 93 ls []) := by
      intro fuel
      induction fuel with
      | zero => intro i kp1 hm; exact absurd hm (Nat.not_lt_zero _)
      | succ fuel ih_93 =>
        intro i kp1 hm_93 hi hk H locs hw ls hl
        refine lv_iload_n hx hb dX7_cut_93 rfl (lv_at hl 0 rfl) ?_
        refine lv_iconst (v := 2) hx hb dX7_cut_94 (by decide) ?_
        refine r_cge hx hb i 2 (by omega) (by omega) (tgt := 111) dX7_cut_95 (by decide) (fun c_95 => ?_) (fun c_95 => ?_)
        · refine lv_aload_n hx hb dX7_cut_111 rfl (lv_at hl 2 rfl) ?_
          refine r_get (T := TX7) (v := .ref ((ad 3) 0)) hx hb hts hi7 hown hK hw 19 rfl rfl 2 (by decide) f_6 rfl dX7_cut_112 ?_
          refine r_get (T := TX5) (v := .ref ((ad 4) 0)) hx hb hts hi5 hown hK hw 7 rfl rfl 0 (by decide) f_12 rfl dX7_cut_115 ?_
          refine r_get (T := TX6) (v := .int (nI ys.length)) hx hb hts hi6 hown hK hw 8 rfl rfl 0 (by decide) f_13 rfl dX7_cut_118 ?_
          have hw := hw.m6
          have hw := hw.m1
          have hw := hw.m3
          have hw := hw.m5
          have hw := hw.m4
          have hw := hw.m5
          have hw := hw.m6
          exact kr (nI ys.length) (fp2_4, yc2_4, fn2_4, fp2_4, (nI pl2_4), sn2_4, nb2_4, yk2_4, yi2_4, nb2_53, 4, 0, (nI ys.length), 0, kd2_81, ic2_81, br2_81, 0, 0, kp1) _ _ _ _ hw (Or.inl ⟨ys, np, hP1, rfl, hP6, rfl, hY_81.cong (new_ls hP4), fun j hj => (hE_53 j hj).trans (hP5 j hj), rfl, rfl, rfl, rfl, hk 0 (by omega), hk 1 (by omega)⟩) dX7_cut_121
        · refine lv_aload_n hx hb dX7_cut_98 rfl (lv_at hl 2 rfl) ?_
          refine r_get (T := TX7) (v := .ref ((ad 6) 0)) hx hb hts hi7 hown hK hw 19 rfl rfl 4 (by decide) f_11 rfl dX7_cut_99 ?_
          refine lv_iload_n hx hb dX7_cut_102 rfl (lv_at hl 0 rfl) ?_
          refine lv_iconst (v := 0) hx hb dX7_cut_103 (by decide) ?_
          refine r_zast (G' := ((rG c4 (ad 7) 0 0 by0 bn bd bi ey ei) :: (wG ((ad 3) 0) ((ad 4) 0) 4 0 sd) :: (yG c4 (ad 4) (nI ys.length) 0 kd2_81 ic2_81 br2_81) :: (xG c4 (ad 1) 0 yc2_4 fn2_4 fp2_4 (nI pl2_4) sn2_4 lt nb2_4 yk2_4 yi2_4) :: (bG c4 (ad 2) nb2_53) :: (iG ad fp2_4) :: (zG c4 ((ad 6) 0) 2 (upd kp1 i 0)) :: Ts)) hx hb hK hw 20 1 rfl rfl i rfl (by omega) (by decide) rfl dX7_cut_104 (fun H locs hw => ?_)
          refine lv_iinc (v := (nI (i + 1))) (lv' := [(2, .int (nI (i + 1))), (1, .int r_4), (0, .ref ((ad 0) 0))]) hx hb dX7_cut_105 hl (k := 0) rfl (nI_add _ _) (by decide) rfl (fun ls hl => ?_)
          refine lv_goto (tgt := 93) hx hb dX7_cut_108 (by decide) ?_
          exact ih_93 (i + 1) (upd kp1 i 0) (by omega) (by omega) (kz_step hk) _ _ hw ls (lv_sub hl [0, 1, 2] rfl)
    exact loop_93 ((2 - 0) + 1) 0 kp (Nat.lt_succ_self _) (Nat.zero_le _) (fun j h => absurd h (Nat.not_lt_zero j)) _ _ hw ls (lv_sub hl [0, 1, 2] rfl)
  · obtain ⟨⟨w, k, hw1, hw2, hw3⟩, -⟩ := hP_4.resolve_left (by rintro ⟨_, _, _, z, _⟩; rw [c_28] at z; exact absurd z (by decide))
    refine lv_bipush (v := (-10)) hx hb dX7_cut_31 (by decide) ?_
    refine lv_aload_n hx hb dX7_cut_33 rfl (lv_at hl 1 rfl) ?_
    refine r_get (T := TX7) (v := .ref ((ad 1) 0)) hx hb hts hi7 hown hK hw 5 rfl rfl 0 (by decide) f_0 rfl dX7_cut_34 ?_
    refine r_get (T := TX3) (v := .int fn2_4) hx hb hts hi3 hown hK hw 0 rfl rfl 6 (by decide) f_14 rfl dX7_cut_37 ?_
    refine lv_isub hx hb dX7_cut_40 ?_
    have hw := hw.m6
    have hw := hw.m6
    have hw := hw.m6
    have hw := hw.m6
    have hw := hw.m6
    have hw := hw.m5
    have hw := hw.m6
    exact kr ((-10) - fn2_4) (fp2_4, yc2_4, fn2_4, fp2_4, (nI pl2_4), sn2_4, nb2_4, yk2_4, yi2_4, nb, bt, nt, n0, os0, kd0, ic0, br0, (nI bc), (nI ec), kp) _ _ _ _ hw (Or.inr ⟨w, k, hw1, by rw [hw2], hw3, rfl, rfl, rfl, rfl, rfl, rfl, rfl, rfl, rfl, rfl, rfl⟩) dX7_cut_41
set_option maxHeartbeats 4000000 in
set_option maxRecDepth 100000 in
theorem k_X7_keep_0 (l : Launch) (D : va_G) (c4 : Nat → ClassId) (A : Nat → Prop) (Ts : List va_W) (ad : Nat → Nat → Nat) (fp : Int32) (bt : Int32) (nt : Int32) (sd : Int32) (n : Nat) (os : Int32) (kd : Nat → Int32) (ic : Nat → Int32) (br : Nat → Int32) (q : Nat → Yq) (ig : Nat → Option Nat) (kp : Nat → Int32) (in0 : Int32) (io0 : Int32) (ib0 : Int32) (it0 : Int32) (is0 : Int32) (ik0 : Nat → Int32) (ii0 : Nat → Int32) (ir0 : Nat → Int32) (in1 : Int32) (io1 : Int32) (ib1 : Int32) (it1 : Int32) (is1 : Int32) (ik1 : Nat → Int32) (ii1 : Nat → Int32) (ir1 : Nat → Int32) (hn : n ≤ 12) (hY : yR q n os kd ic br) (him0 : ig 0 = some (ad 12 0)) (him1 : ig 1 = some (ad 13 0)) : Ci l yX7_keep wsX7_keep 2 43 [.ref ((ad 0) 0), .int 0] D (tyA c4) A none ((iG ad fp) :: (wG ((ad 3) 0) ((ad 4) 0) bt nt sd) :: (yG c4 (ad 4) (nI n) os kd ic br) :: (gG c4 ((ad 5) 0) ig) :: (zG c4 ((ad 6) 0) 2 kp) :: (wG ((ad 12) 0) ((ad 14) 0) ib0 it0 is0) :: (yG c4 (ad 14) in0 io0 ik0 ii0 ir0) :: (wG ((ad 13) 0) ((ad 15) 0) ib1 it1 is1) :: (yG c4 (ad 15) in1 io1 ik1 ii1 ir1) :: Ts) (S := (Nat → Int32) × Int32 × Int32 × Int32 × Int32 × Int32 × (Nat → Int32) × (Nat → Int32) × (Nat → Int32) × Int32 × Int32 × Int32 × Int32 × Int32 × (Nat → Int32) × (Nat → Int32) × (Nat → Int32)) (fun (r : Int32) (u : (Nat → Int32) × Int32 × Int32 × Int32 × Int32 × Int32 × (Nat → Int32) × (Nat → Int32) × (Nat → Int32) × Int32 × Int32 × Int32 × Int32 × Int32 × (Nat → Int32) × (Nat → Int32) × (Nat → Int32)) => keepP n q bt nt sd 0 r kp u.1 (in0, io0, ib0, it0, is0, ik0, ii0, ir0) (in1, io1, ib1, it1, is1, ik1, ii1, ir1) (u.2.1, u.2.2.1, u.2.2.2.1, u.2.2.2.2.1, u.2.2.2.2.2.1, u.2.2.2.2.2.2.1, u.2.2.2.2.2.2.2.1, u.2.2.2.2.2.2.2.2.1) (u.2.2.2.2.2.2.2.2.2.1, u.2.2.2.2.2.2.2.2.2.2.1, u.2.2.2.2.2.2.2.2.2.2.2.1, u.2.2.2.2.2.2.2.2.2.2.2.2.1, u.2.2.2.2.2.2.2.2.2.2.2.2.2.1, u.2.2.2.2.2.2.2.2.2.2.2.2.2.2.1, u.2.2.2.2.2.2.2.2.2.2.2.2.2.2.2.1, u.2.2.2.2.2.2.2.2.2.2.2.2.2.2.2.2)) (fun u => ((iG ad fp) :: (wG ((ad 3) 0) ((ad 4) 0) bt nt sd) :: (yG c4 (ad 4) (nI n) os kd ic br) :: (gG c4 ((ad 5) 0) ig) :: (zG c4 ((ad 6) 0) 2 u.1) :: (wG ((ad 12) 0) ((ad 14) 0) u.2.2.2.1 u.2.2.2.2.1 u.2.2.2.2.2.1) :: (yG c4 (ad 14) u.2.1 u.2.2.1 u.2.2.2.2.2.2.1 u.2.2.2.2.2.2.2.1 u.2.2.2.2.2.2.2.2.1) :: (wG ((ad 13) 0) ((ad 15) 0) u.2.2.2.2.2.2.2.2.2.2.2.1 u.2.2.2.2.2.2.2.2.2.2.2.2.1 u.2.2.2.2.2.2.2.2.2.2.2.2.2.1) :: (yG c4 (ad 15) u.2.2.2.2.2.2.2.2.2.1 u.2.2.2.2.2.2.2.2.2.2.1 u.2.2.2.2.2.2.2.2.2.2.2.2.2.2.1 u.2.2.2.2.2.2.2.2.2.2.2.2.2.2.2.1 u.2.2.2.2.2.2.2.2.2.2.2.2.2.2.2.2) :: Ts)) := by
  refine cOi (cc := cX7_keep) (maxL := 2) (by decide) rfl (Nat.le_of_ble_eq_true rfl) rfl ?_
  rintro jp je js jm below meth jc ls args R Q H locs hRf hRl ⟨hx, hb, hml, hr, hts, hown, hlocks, hK, hX⟩ hw hl kr
  have hown : js.vm.findClass RX7 = some jm.cls := hown
  have f_0 := hts (.fieldLink RX7 30 "IceSway" "images" "[LIceSway$Winter;") (by decide +kernel)
  have f_1 := hts (.fieldLink RX7 26 "IceSway" "now" "LIceSway$Winter;") (by decide +kernel)
  have f_2 := hts (.fieldLink RX7 34 "IceSway" "kept" "[Z") (by decide +kernel)
  have hi7 : ∀ w ∈ u_ws RX7 TX7 10, w ∈ wsX7_keep := fun w h => List.mem_cons_of_mem _ (List.mem_append_left _ (List.mem_append_left _ (List.mem_append_right _ h)))
  refine lv_iload_n hx hb dX7_keep_0 rfl (lv_at hl 1 rfl) ?_
  refine lv_iconst (v := 0) hx hb dX7_keep_1 (by decide) ?_
  refine lv_iconst (v := 1) hx hb dX7_keep_2 (by decide) ?_
  refine c_si (As := [.int 0, .int 0, .int 1]) (rest := []) ⟨hx, hb, hml, hown, hts⟩ (k_X7_isOut l D c4 A ((iG ad fp) :: (wG ((ad 3) 0) ((ad 4) 0) bt nt sd) :: (yG c4 (ad 4) (nI n) os kd ic br) :: (gG c4 ((ad 5) 0) ig) :: (zG c4 ((ad 6) 0) 2 kp) :: (wG ((ad 12) 0) ((ad 14) 0) ib0 it0 is0) :: (yG c4 (ad 14) in0 io0 ik0 ii0 ir0) :: (wG ((ad 13) 0) ((ad 15) 0) ib1 it1 is1) :: (yG c4 (ad 15) in1 io1 ik1 ii1 ir1) :: Ts) 0 0 1) (va_cwS 3 hts gX7_keep_X7_isOut rfl rfl rfl (by decide +kernel) (rmv (Nat.le_of_ble_eq_true rfl) (Nat.le_of_ble_eq_true rfl) hRf hRl)) hK trivial hw rfl hl rfl (Nat.le_of_ble_eq_true rfl) ⟨Nat.zero_le _, Nat.zero_le _⟩ dX7_keep_3 (fun r_3 u_3 H locs hpq hw => ?_)
  obtain ⟨h0_3, h1_3, hz_3⟩ := hpq
  refine lv_if_eq (tgt := 12) hx hb dX7_keep_6 (by decide) (fun c_6 => ?_) (fun c_6 => ?_)
  · refine lv_aload_n hx hb dX7_keep_12 rfl (lv_at hl 0 rfl) ?_
    refine r_get (T := TX7) (v := .ref ((ad 5) 0)) hx hb hts hi7 hown hK hw 0 rfl rfl 3 (by decide) f_0 rfl dX7_keep_13 ?_
    refine lv_iload_n hx hb dX7_keep_16 rfl (lv_at hl 1 rfl) ?_
    refine r_aald hx hb hK hw 6 2 rfl rfl 0 (by decide) (by decide) (b := ((ad 12) 0)) him0 dX7_keep_17 ?_
    refine lv_aload_n hx hb dX7_keep_18 rfl (lv_at hl 0 rfl) ?_
    refine r_get (T := TX7) (v := .ref ((ad 3) 0)) hx hb hts hi7 hown hK hw 0 rfl rfl 2 (by decide) f_1 rfl dX7_keep_19 ?_
    have hw := hw.m2
    have hw := hw.m2
    have hw := hw.m6
    have hw := hw.m6
    refine c_vv (As := [.ref ((ad 3) 0)]) (rest := []) ⟨hx, hb, hml, hown, hts⟩ (k_X5_copyFrom l D c4 A ((iG ad fp) :: (gG c4 ((ad 5) 0) ig) :: (zG c4 ((ad 6) 0) 2 kp) :: (wG ((ad 13) 0) ((ad 15) 0) ib1 it1 is1) :: (yG c4 (ad 15) in1 io1 ik1 ii1 ir1) :: Ts) ((ad 12) 0) ib0 it0 is0 (ad 14) in0 io0 ik0 ii0 ir0 ((ad 3) 0) bt nt sd (ad 4) n os kd ic br q hn hY) (cwV 1 hts gX7_keep_X5_copyFrom rfl rfl rfl (by decide +kernel) (rmv (Nat.le_of_ble_eq_true rfl) (Nat.le_of_ble_eq_true rfl) hRf hRl)) hK trivial hw rfl rfl rfl hl rfl (Nat.le_of_ble_eq_true rfl) ⟨Nat.zero_le _, Nat.zero_le _⟩ dX7_keep_22 (fun u_22 H locs hpq hw => ?_)
    obtain ⟨kd2_22, ic2_22, br2_22⟩ := u_22
    have hw : gW D A js.heap ((wG ((ad 12) 0) ((ad 14) 0) bt nt sd) :: (yG c4 (ad 14) (nI n) os kd2_22 ic2_22 br2_22) :: (wG ((ad 3) 0) ((ad 4) 0) bt nt sd) :: (yG c4 (ad 4) (nI n) os kd ic br) :: (iG ad fp) :: (gG c4 ((ad 5) 0) ig) :: (zG c4 ((ad 6) 0) 2 kp) :: (wG ((ad 13) 0) ((ad 15) 0) ib1 it1 is1) :: (yG c4 (ad 15) in1 io1 ik1 ii1 ir1) :: Ts) H locs := hw
    have hY_22 := hpq
    have hY_22 : yR q n os kd2_22 ic2_22 br2_22 := hY_22
    refine lv_aload_n hx hb dX7_keep_25 rfl (lv_at hl 0 rfl) ?_
    refine r_get (T := TX7) (v := .ref ((ad 6) 0)) hx hb hts hi7 hown hK hw 10 rfl rfl 4 (by decide) f_2 rfl dX7_keep_26 ?_
    refine lv_iload_n hx hb dX7_keep_29 rfl (lv_at hl 1 rfl) ?_
    refine lv_iconst (v := 1) hx hb dX7_keep_30 (by decide) ?_
    refine r_zast (G' := ((wG ((ad 12) 0) ((ad 14) 0) bt nt sd) :: (yG c4 (ad 14) (nI n) os kd2_22 ic2_22 br2_22) :: (wG ((ad 3) 0) ((ad 4) 0) bt nt sd) :: (yG c4 (ad 4) (nI n) os kd ic br) :: (iG ad fp) :: (gG c4 ((ad 5) 0) ig) :: (zG c4 ((ad 6) 0) 2 (upd kp 0 1)) :: (wG ((ad 13) 0) ((ad 15) 0) ib1 it1 is1) :: (yG c4 (ad 15) in1 io1 ik1 ii1 ir1) :: Ts)) hx hb hK hw 12 1 rfl rfl 0 rfl (by decide) (by decide) rfl dX7_keep_31 (fun H locs hw => ?_)
    refine lv_iconst (v := 1) hx hb dX7_keep_32 (by decide) ?_
    have hw := hw.m8
    have hw := hw.m8
    have hw := hw.m3
    have hw := hw.m3
    have hw := hw.m8
    have hw := hw.m8
    have hw := hw.m7
    have hw := hw.m7
    have hw := hw.m8
    exact kr 1 (upd kp 0 1, (nI n), os, bt, nt, sd, kd2_22, ic2_22, br2_22, in1, io1, ib1, it1, is1, ik1, ii1, ir1) _ _ _ _ hw (Or.inl ⟨rfl, rfl, rfl, ⟨rfl, hY_22, rfl, rfl, rfl⟩, rfl⟩) dX7_keep_33
  · exact absurd (h1_3 c_6) (by decide)
set_option maxHeartbeats 4000000 in
set_option maxRecDepth 100000 in
theorem k_X7_keep_1 (l : Launch) (D : va_G) (c4 : Nat → ClassId) (A : Nat → Prop) (Ts : List va_W) (ad : Nat → Nat → Nat) (fp : Int32) (bt : Int32) (nt : Int32) (sd : Int32) (n : Nat) (os : Int32) (kd : Nat → Int32) (ic : Nat → Int32) (br : Nat → Int32) (q : Nat → Yq) (ig : Nat → Option Nat) (kp : Nat → Int32) (in0 : Int32) (io0 : Int32) (ib0 : Int32) (it0 : Int32) (is0 : Int32) (ik0 : Nat → Int32) (ii0 : Nat → Int32) (ir0 : Nat → Int32) (in1 : Int32) (io1 : Int32) (ib1 : Int32) (it1 : Int32) (is1 : Int32) (ik1 : Nat → Int32) (ii1 : Nat → Int32) (ir1 : Nat → Int32) (hn : n ≤ 12) (hY : yR q n os kd ic br) (him0 : ig 0 = some (ad 12 0)) (him1 : ig 1 = some (ad 13 0)) : Ci l yX7_keep wsX7_keep 2 43 [.ref ((ad 0) 0), .int 1] D (tyA c4) A none ((iG ad fp) :: (wG ((ad 3) 0) ((ad 4) 0) bt nt sd) :: (yG c4 (ad 4) (nI n) os kd ic br) :: (gG c4 ((ad 5) 0) ig) :: (zG c4 ((ad 6) 0) 2 kp) :: (wG ((ad 12) 0) ((ad 14) 0) ib0 it0 is0) :: (yG c4 (ad 14) in0 io0 ik0 ii0 ir0) :: (wG ((ad 13) 0) ((ad 15) 0) ib1 it1 is1) :: (yG c4 (ad 15) in1 io1 ik1 ii1 ir1) :: Ts) (S := (Nat → Int32) × Int32 × Int32 × Int32 × Int32 × Int32 × (Nat → Int32) × (Nat → Int32) × (Nat → Int32) × Int32 × Int32 × Int32 × Int32 × Int32 × (Nat → Int32) × (Nat → Int32) × (Nat → Int32)) (fun (r : Int32) (u : (Nat → Int32) × Int32 × Int32 × Int32 × Int32 × Int32 × (Nat → Int32) × (Nat → Int32) × (Nat → Int32) × Int32 × Int32 × Int32 × Int32 × Int32 × (Nat → Int32) × (Nat → Int32) × (Nat → Int32)) => keepP n q bt nt sd 1 r kp u.1 (in0, io0, ib0, it0, is0, ik0, ii0, ir0) (in1, io1, ib1, it1, is1, ik1, ii1, ir1) (u.2.1, u.2.2.1, u.2.2.2.1, u.2.2.2.2.1, u.2.2.2.2.2.1, u.2.2.2.2.2.2.1, u.2.2.2.2.2.2.2.1, u.2.2.2.2.2.2.2.2.1) (u.2.2.2.2.2.2.2.2.2.1, u.2.2.2.2.2.2.2.2.2.2.1, u.2.2.2.2.2.2.2.2.2.2.2.1, u.2.2.2.2.2.2.2.2.2.2.2.2.1, u.2.2.2.2.2.2.2.2.2.2.2.2.2.1, u.2.2.2.2.2.2.2.2.2.2.2.2.2.2.1, u.2.2.2.2.2.2.2.2.2.2.2.2.2.2.2.1, u.2.2.2.2.2.2.2.2.2.2.2.2.2.2.2.2)) (fun u => ((iG ad fp) :: (wG ((ad 3) 0) ((ad 4) 0) bt nt sd) :: (yG c4 (ad 4) (nI n) os kd ic br) :: (gG c4 ((ad 5) 0) ig) :: (zG c4 ((ad 6) 0) 2 u.1) :: (wG ((ad 12) 0) ((ad 14) 0) u.2.2.2.1 u.2.2.2.2.1 u.2.2.2.2.2.1) :: (yG c4 (ad 14) u.2.1 u.2.2.1 u.2.2.2.2.2.2.1 u.2.2.2.2.2.2.2.1 u.2.2.2.2.2.2.2.2.1) :: (wG ((ad 13) 0) ((ad 15) 0) u.2.2.2.2.2.2.2.2.2.2.2.1 u.2.2.2.2.2.2.2.2.2.2.2.2.1 u.2.2.2.2.2.2.2.2.2.2.2.2.2.1) :: (yG c4 (ad 15) u.2.2.2.2.2.2.2.2.2.1 u.2.2.2.2.2.2.2.2.2.2.1 u.2.2.2.2.2.2.2.2.2.2.2.2.2.2.1 u.2.2.2.2.2.2.2.2.2.2.2.2.2.2.2.1 u.2.2.2.2.2.2.2.2.2.2.2.2.2.2.2.2) :: Ts)) := by
  refine cOi (cc := cX7_keep) (maxL := 2) (by decide) rfl (Nat.le_of_ble_eq_true rfl) rfl ?_
  rintro jp je js jm below meth jc ls args R Q H locs hRf hRl ⟨hx, hb, hml, hr, hts, hown, hlocks, hK, hX⟩ hw hl kr
  have hown : js.vm.findClass RX7 = some jm.cls := hown
  have f_0 := hts (.fieldLink RX7 30 "IceSway" "images" "[LIceSway$Winter;") (by decide +kernel)
  have f_1 := hts (.fieldLink RX7 26 "IceSway" "now" "LIceSway$Winter;") (by decide +kernel)
  have f_2 := hts (.fieldLink RX7 34 "IceSway" "kept" "[Z") (by decide +kernel)
  have hi7 : ∀ w ∈ u_ws RX7 TX7 10, w ∈ wsX7_keep := fun w h => List.mem_cons_of_mem _ (List.mem_append_left _ (List.mem_append_left _ (List.mem_append_right _ h)))
  refine lv_iload_n hx hb dX7_keep_0 rfl (lv_at hl 1 rfl) ?_
  refine lv_iconst (v := 0) hx hb dX7_keep_1 (by decide) ?_
  refine lv_iconst (v := 1) hx hb dX7_keep_2 (by decide) ?_
  refine c_si (As := [.int 1, .int 0, .int 1]) (rest := []) ⟨hx, hb, hml, hown, hts⟩ (k_X7_isOut l D c4 A ((iG ad fp) :: (wG ((ad 3) 0) ((ad 4) 0) bt nt sd) :: (yG c4 (ad 4) (nI n) os kd ic br) :: (gG c4 ((ad 5) 0) ig) :: (zG c4 ((ad 6) 0) 2 kp) :: (wG ((ad 12) 0) ((ad 14) 0) ib0 it0 is0) :: (yG c4 (ad 14) in0 io0 ik0 ii0 ir0) :: (wG ((ad 13) 0) ((ad 15) 0) ib1 it1 is1) :: (yG c4 (ad 15) in1 io1 ik1 ii1 ir1) :: Ts) 1 0 1) (va_cwS 3 hts gX7_keep_X7_isOut rfl rfl rfl (by decide +kernel) (rmv (Nat.le_of_ble_eq_true rfl) (Nat.le_of_ble_eq_true rfl) hRf hRl)) hK trivial hw rfl hl rfl (Nat.le_of_ble_eq_true rfl) ⟨Nat.zero_le _, Nat.zero_le _⟩ dX7_keep_3 (fun r_3 u_3 H locs hpq hw => ?_)
  obtain ⟨h0_3, h1_3, hz_3⟩ := hpq
  refine lv_if_eq (tgt := 12) hx hb dX7_keep_6 (by decide) (fun c_6 => ?_) (fun c_6 => ?_)
  · refine lv_aload_n hx hb dX7_keep_12 rfl (lv_at hl 0 rfl) ?_
    refine r_get (T := TX7) (v := .ref ((ad 5) 0)) hx hb hts hi7 hown hK hw 0 rfl rfl 3 (by decide) f_0 rfl dX7_keep_13 ?_
    refine lv_iload_n hx hb dX7_keep_16 rfl (lv_at hl 1 rfl) ?_
    refine r_aald hx hb hK hw 6 2 rfl rfl 1 (by decide) (by decide) (b := ((ad 13) 0)) him1 dX7_keep_17 ?_
    refine lv_aload_n hx hb dX7_keep_18 rfl (lv_at hl 0 rfl) ?_
    refine r_get (T := TX7) (v := .ref ((ad 3) 0)) hx hb hts hi7 hown hK hw 0 rfl rfl 2 (by decide) f_1 rfl dX7_keep_19 ?_
    have hw := hw.m2
    have hw := hw.m2
    have hw := hw.m8
    have hw := hw.m8
    refine c_vv (As := [.ref ((ad 3) 0)]) (rest := []) ⟨hx, hb, hml, hown, hts⟩ (k_X5_copyFrom l D c4 A ((iG ad fp) :: (gG c4 ((ad 5) 0) ig) :: (zG c4 ((ad 6) 0) 2 kp) :: (wG ((ad 12) 0) ((ad 14) 0) ib0 it0 is0) :: (yG c4 (ad 14) in0 io0 ik0 ii0 ir0) :: Ts) ((ad 13) 0) ib1 it1 is1 (ad 15) in1 io1 ik1 ii1 ir1 ((ad 3) 0) bt nt sd (ad 4) n os kd ic br q hn hY) (cwV 1 hts gX7_keep_X5_copyFrom rfl rfl rfl (by decide +kernel) (rmv (Nat.le_of_ble_eq_true rfl) (Nat.le_of_ble_eq_true rfl) hRf hRl)) hK trivial hw rfl rfl rfl hl rfl (Nat.le_of_ble_eq_true rfl) ⟨Nat.zero_le _, Nat.zero_le _⟩ dX7_keep_22 (fun u_22 H locs hpq hw => ?_)
    obtain ⟨kd2_22, ic2_22, br2_22⟩ := u_22
    have hw : gW D A js.heap ((wG ((ad 13) 0) ((ad 15) 0) bt nt sd) :: (yG c4 (ad 15) (nI n) os kd2_22 ic2_22 br2_22) :: (wG ((ad 3) 0) ((ad 4) 0) bt nt sd) :: (yG c4 (ad 4) (nI n) os kd ic br) :: (iG ad fp) :: (gG c4 ((ad 5) 0) ig) :: (zG c4 ((ad 6) 0) 2 kp) :: (wG ((ad 12) 0) ((ad 14) 0) ib0 it0 is0) :: (yG c4 (ad 14) in0 io0 ik0 ii0 ir0) :: Ts) H locs := hw
    have hY_22 := hpq
    have hY_22 : yR q n os kd2_22 ic2_22 br2_22 := hY_22
    refine lv_aload_n hx hb dX7_keep_25 rfl (lv_at hl 0 rfl) ?_
    refine r_get (T := TX7) (v := .ref ((ad 6) 0)) hx hb hts hi7 hown hK hw 10 rfl rfl 4 (by decide) f_2 rfl dX7_keep_26 ?_
    refine lv_iload_n hx hb dX7_keep_29 rfl (lv_at hl 1 rfl) ?_
    refine lv_iconst (v := 1) hx hb dX7_keep_30 (by decide) ?_
    refine r_zast (G' := ((wG ((ad 13) 0) ((ad 15) 0) bt nt sd) :: (yG c4 (ad 15) (nI n) os kd2_22 ic2_22 br2_22) :: (wG ((ad 3) 0) ((ad 4) 0) bt nt sd) :: (yG c4 (ad 4) (nI n) os kd ic br) :: (iG ad fp) :: (gG c4 ((ad 5) 0) ig) :: (zG c4 ((ad 6) 0) 2 (upd kp 1 1)) :: (wG ((ad 12) 0) ((ad 14) 0) ib0 it0 is0) :: (yG c4 (ad 14) in0 io0 ik0 ii0 ir0) :: Ts)) hx hb hK hw 12 1 rfl rfl 1 rfl (by decide) (by decide) rfl dX7_keep_31 (fun H locs hw => ?_)
    refine lv_iconst (v := 1) hx hb dX7_keep_32 (by decide) ?_
    have hw := hw.m1
    have hw := hw.m1
    have hw := hw.m8
    have hw := hw.m8
    have hw := hw.m8
    have hw := hw.m8
    have hw := hw.m7
    have hw := hw.m7
    have hw := hw.m8
    exact kr 1 (upd kp 1 1, in0, io0, ib0, it0, is0, ik0, ii0, ir0, (nI n), os, bt, nt, sd, kd2_22, ic2_22, br2_22) _ _ _ _ hw (Or.inr (Or.inl ⟨rfl, rfl, rfl, rfl, ⟨rfl, hY_22, rfl, rfl, rfl⟩⟩)) dX7_keep_33
  · exact absurd (h1_3 c_6) (by decide)
set_option maxHeartbeats 4000000 in
set_option maxRecDepth 100000 in
theorem k_X7_keep_2 (l : Launch) (D : va_G) (c4 : Nat → ClassId) (A : Nat → Prop) (Ts : List va_W) (ad : Nat → Nat → Nat) (fp : Int32) (bt : Int32) (nt : Int32) (sd : Int32) (n : Nat) (os : Int32) (kd : Nat → Int32) (ic : Nat → Int32) (br : Nat → Int32) (q : Nat → Yq) (ig : Nat → Option Nat) (kp : Nat → Int32) (in0 : Int32) (io0 : Int32) (ib0 : Int32) (it0 : Int32) (is0 : Int32) (ik0 : Nat → Int32) (ii0 : Nat → Int32) (ir0 : Nat → Int32) (in1 : Int32) (io1 : Int32) (ib1 : Int32) (it1 : Int32) (is1 : Int32) (ik1 : Nat → Int32) (ii1 : Nat → Int32) (ir1 : Nat → Int32) (v : Int32) (hn : n ≤ 12) (hY : yR q n os kd ic br) (him0 : ig 0 = some (ad 12 0)) (him1 : ig 1 = some (ad 13 0)) (hv : ¬ inR v 0 1) : Ci l yX7_keep wsX7_keep 2 43 [.ref ((ad 0) 0), .int v] D (tyA c4) A none ((iG ad fp) :: (wG ((ad 3) 0) ((ad 4) 0) bt nt sd) :: (yG c4 (ad 4) (nI n) os kd ic br) :: (gG c4 ((ad 5) 0) ig) :: (zG c4 ((ad 6) 0) 2 kp) :: (wG ((ad 12) 0) ((ad 14) 0) ib0 it0 is0) :: (yG c4 (ad 14) in0 io0 ik0 ii0 ir0) :: (wG ((ad 13) 0) ((ad 15) 0) ib1 it1 is1) :: (yG c4 (ad 15) in1 io1 ik1 ii1 ir1) :: Ts) (S := (Nat → Int32) × Int32 × Int32 × Int32 × Int32 × Int32 × (Nat → Int32) × (Nat → Int32) × (Nat → Int32) × Int32 × Int32 × Int32 × Int32 × Int32 × (Nat → Int32) × (Nat → Int32) × (Nat → Int32)) (fun (r : Int32) (u : (Nat → Int32) × Int32 × Int32 × Int32 × Int32 × Int32 × (Nat → Int32) × (Nat → Int32) × (Nat → Int32) × Int32 × Int32 × Int32 × Int32 × Int32 × (Nat → Int32) × (Nat → Int32) × (Nat → Int32)) => keepP n q bt nt sd v r kp u.1 (in0, io0, ib0, it0, is0, ik0, ii0, ir0) (in1, io1, ib1, it1, is1, ik1, ii1, ir1) (u.2.1, u.2.2.1, u.2.2.2.1, u.2.2.2.2.1, u.2.2.2.2.2.1, u.2.2.2.2.2.2.1, u.2.2.2.2.2.2.2.1, u.2.2.2.2.2.2.2.2.1) (u.2.2.2.2.2.2.2.2.2.1, u.2.2.2.2.2.2.2.2.2.2.1, u.2.2.2.2.2.2.2.2.2.2.2.1, u.2.2.2.2.2.2.2.2.2.2.2.2.1, u.2.2.2.2.2.2.2.2.2.2.2.2.2.1, u.2.2.2.2.2.2.2.2.2.2.2.2.2.2.1, u.2.2.2.2.2.2.2.2.2.2.2.2.2.2.2.1, u.2.2.2.2.2.2.2.2.2.2.2.2.2.2.2.2)) (fun u => ((iG ad fp) :: (wG ((ad 3) 0) ((ad 4) 0) bt nt sd) :: (yG c4 (ad 4) (nI n) os kd ic br) :: (gG c4 ((ad 5) 0) ig) :: (zG c4 ((ad 6) 0) 2 u.1) :: (wG ((ad 12) 0) ((ad 14) 0) u.2.2.2.1 u.2.2.2.2.1 u.2.2.2.2.2.1) :: (yG c4 (ad 14) u.2.1 u.2.2.1 u.2.2.2.2.2.2.1 u.2.2.2.2.2.2.2.1 u.2.2.2.2.2.2.2.2.1) :: (wG ((ad 13) 0) ((ad 15) 0) u.2.2.2.2.2.2.2.2.2.2.2.1 u.2.2.2.2.2.2.2.2.2.2.2.2.1 u.2.2.2.2.2.2.2.2.2.2.2.2.2.1) :: (yG c4 (ad 15) u.2.2.2.2.2.2.2.2.2.1 u.2.2.2.2.2.2.2.2.2.2.1 u.2.2.2.2.2.2.2.2.2.2.2.2.2.2.1 u.2.2.2.2.2.2.2.2.2.2.2.2.2.2.2.1 u.2.2.2.2.2.2.2.2.2.2.2.2.2.2.2.2) :: Ts)) := by
  refine cOi (cc := cX7_keep) (maxL := 2) (by decide) rfl (Nat.le_of_ble_eq_true rfl) rfl ?_
  rintro jp je js jm below meth jc ls args R Q H locs hRf hRl ⟨hx, hb, hml, hr, hts, hown, hlocks, hK, hX⟩ hw hl kr
  have hown : js.vm.findClass RX7 = some jm.cls := hown
  have f_0 := hts (.constant RX7 155 (-1000000001)) (by decide +kernel)
  refine lv_iload_n hx hb dX7_keep_0 rfl (lv_at hl 1 rfl) ?_
  refine lv_iconst (v := 0) hx hb dX7_keep_1 (by decide) ?_
  refine lv_iconst (v := 1) hx hb dX7_keep_2 (by decide) ?_
  refine c_si (As := [.int v, .int 0, .int 1]) (rest := []) ⟨hx, hb, hml, hown, hts⟩ (k_X7_isOut l D c4 A ((iG ad fp) :: (wG ((ad 3) 0) ((ad 4) 0) bt nt sd) :: (yG c4 (ad 4) (nI n) os kd ic br) :: (gG c4 ((ad 5) 0) ig) :: (zG c4 ((ad 6) 0) 2 kp) :: (wG ((ad 12) 0) ((ad 14) 0) ib0 it0 is0) :: (yG c4 (ad 14) in0 io0 ik0 ii0 ir0) :: (wG ((ad 13) 0) ((ad 15) 0) ib1 it1 is1) :: (yG c4 (ad 15) in1 io1 ik1 ii1 ir1) :: Ts) v 0 1) (va_cwS 3 hts gX7_keep_X7_isOut rfl rfl rfl (by decide +kernel) (rmv (Nat.le_of_ble_eq_true rfl) (Nat.le_of_ble_eq_true rfl) hRf hRl)) hK trivial hw rfl hl rfl (Nat.le_of_ble_eq_true rfl) ⟨Nat.zero_le _, Nat.zero_le _⟩ dX7_keep_3 (fun r_3 u_3 H locs hpq hw => ?_)
  obtain ⟨h0_3, h1_3, hz_3⟩ := hpq
  refine lv_if_eq (tgt := 12) hx hb dX7_keep_6 (by decide) (fun c_6 => ?_) (fun c_6 => ?_)
  · exact absurd (h0_3 c_6) hv
  · refine lv_ldc hx hb hown f_0 dX7_keep_9 ?_
    exact kr (-1000000001) (kp, in0, io0, ib0, it0, is0, ik0, ii0, ir0, in1, io1, ib1, it1, is1, ik1, ii1, ir1) _ _ _ _ hw (Or.inr (Or.inr ⟨hv, rfl, rfl, rfl, rfl⟩)) dX7_keep_11
set_option maxHeartbeats 4000000 in
set_option maxRecDepth 100000 in
theorem k_X7_keep (l : Launch) (D : va_G) (c4 : Nat → ClassId) (A : Nat → Prop) (Ts : List va_W) (ad : Nat → Nat → Nat) (fp : Int32) (bt : Int32) (nt : Int32) (sd : Int32) (n : Nat) (os : Int32) (kd : Nat → Int32) (ic : Nat → Int32) (br : Nat → Int32) (q : Nat → Yq) (ig : Nat → Option Nat) (kp : Nat → Int32) (in0 : Int32) (io0 : Int32) (ib0 : Int32) (it0 : Int32) (is0 : Int32) (ik0 : Nat → Int32) (ii0 : Nat → Int32) (ir0 : Nat → Int32) (in1 : Int32) (io1 : Int32) (ib1 : Int32) (it1 : Int32) (is1 : Int32) (ik1 : Nat → Int32) (ii1 : Nat → Int32) (ir1 : Nat → Int32) (v : Int32) (hn : n ≤ 12) (hY : yR q n os kd ic br) (him0 : ig 0 = some (ad 12 0)) (him1 : ig 1 = some (ad 13 0)) : Ci l yX7_keep wsX7_keep 2 43 [.ref ((ad 0) 0), .int v] D (tyA c4) A none ((iG ad fp) :: (wG ((ad 3) 0) ((ad 4) 0) bt nt sd) :: (yG c4 (ad 4) (nI n) os kd ic br) :: (gG c4 ((ad 5) 0) ig) :: (zG c4 ((ad 6) 0) 2 kp) :: (wG ((ad 12) 0) ((ad 14) 0) ib0 it0 is0) :: (yG c4 (ad 14) in0 io0 ik0 ii0 ir0) :: (wG ((ad 13) 0) ((ad 15) 0) ib1 it1 is1) :: (yG c4 (ad 15) in1 io1 ik1 ii1 ir1) :: Ts) (S := (Nat → Int32) × Int32 × Int32 × Int32 × Int32 × Int32 × (Nat → Int32) × (Nat → Int32) × (Nat → Int32) × Int32 × Int32 × Int32 × Int32 × Int32 × (Nat → Int32) × (Nat → Int32) × (Nat → Int32)) (fun (r : Int32) (u : (Nat → Int32) × Int32 × Int32 × Int32 × Int32 × Int32 × (Nat → Int32) × (Nat → Int32) × (Nat → Int32) × Int32 × Int32 × Int32 × Int32 × Int32 × (Nat → Int32) × (Nat → Int32) × (Nat → Int32)) => keepP n q bt nt sd v r kp u.1 (in0, io0, ib0, it0, is0, ik0, ii0, ir0) (in1, io1, ib1, it1, is1, ik1, ii1, ir1) (u.2.1, u.2.2.1, u.2.2.2.1, u.2.2.2.2.1, u.2.2.2.2.2.1, u.2.2.2.2.2.2.1, u.2.2.2.2.2.2.2.1, u.2.2.2.2.2.2.2.2.1) (u.2.2.2.2.2.2.2.2.2.1, u.2.2.2.2.2.2.2.2.2.2.1, u.2.2.2.2.2.2.2.2.2.2.2.1, u.2.2.2.2.2.2.2.2.2.2.2.2.1, u.2.2.2.2.2.2.2.2.2.2.2.2.2.1, u.2.2.2.2.2.2.2.2.2.2.2.2.2.2.1, u.2.2.2.2.2.2.2.2.2.2.2.2.2.2.2.1, u.2.2.2.2.2.2.2.2.2.2.2.2.2.2.2.2)) (fun u => ((iG ad fp) :: (wG ((ad 3) 0) ((ad 4) 0) bt nt sd) :: (yG c4 (ad 4) (nI n) os kd ic br) :: (gG c4 ((ad 5) 0) ig) :: (zG c4 ((ad 6) 0) 2 u.1) :: (wG ((ad 12) 0) ((ad 14) 0) u.2.2.2.1 u.2.2.2.2.1 u.2.2.2.2.2.1) :: (yG c4 (ad 14) u.2.1 u.2.2.1 u.2.2.2.2.2.2.1 u.2.2.2.2.2.2.2.1 u.2.2.2.2.2.2.2.2.1) :: (wG ((ad 13) 0) ((ad 15) 0) u.2.2.2.2.2.2.2.2.2.2.2.1 u.2.2.2.2.2.2.2.2.2.2.2.2.1 u.2.2.2.2.2.2.2.2.2.2.2.2.2.1) :: (yG c4 (ad 15) u.2.2.2.2.2.2.2.2.2.1 u.2.2.2.2.2.2.2.2.2.2.1 u.2.2.2.2.2.2.2.2.2.2.2.2.2.2.1 u.2.2.2.2.2.2.2.2.2.2.2.2.2.2.2.1 u.2.2.2.2.2.2.2.2.2.2.2.2.2.2.2.2) :: Ts)) := by
  by_cases hv : inR v 0 1
  · rcases in01 hv with e | e
    · subst e; exact k_X7_keep_0 l D c4 A Ts ad fp bt nt sd n os kd ic br q ig kp in0 io0 ib0 it0 is0 ik0 ii0 ir0 in1 io1 ib1 it1 is1 ik1 ii1 ir1 hn hY him0 him1
    · subst e; exact k_X7_keep_1 l D c4 A Ts ad fp bt nt sd n os kd ic br q ig kp in0 io0 ib0 it0 is0 ik0 ii0 ir0 in1 io1 ib1 it1 is1 ik1 ii1 ir1 hn hY him0 him1
  · exact k_X7_keep_2 l D c4 A Ts ad fp bt nt sd n os kd ic br q ig kp in0 io0 ib0 it0 is0 ik0 ii0 ir0 in1 io1 ib1 it1 is1 ik1 ii1 ir1 v hn hY him0 him1 hv
set_option maxHeartbeats 4000000 in
set_option maxRecDepth 100000 in
theorem k_X7_goBack_0 (l : Launch) (D : va_G) (c4 : Nat → ClassId) (A : Nat → Prop) (Ts : List va_W) (ad : Nat → Nat → Nat) (fp : Int32) (bt : Int32) (nt : Int32) (sd : Int32) (n : Nat) (os : Int32) (kd : Nat → Int32) (ic : Nat → Int32) (br : Nat → Int32) (q : Nat → Yq) (ig : Nat → Option Nat) (kp : Nat → Int32) (in0 : Int32) (io0 : Int32) (ib0 : Int32) (it0 : Int32) (is0 : Int32) (ik0 : Nat → Int32) (ii0 : Nat → Int32) (ir0 : Nat → Int32) (in1 : Int32) (io1 : Int32) (ib1 : Int32) (it1 : Int32) (is1 : Int32) (ik1 : Nat → Int32) (ii1 : Nat → Int32) (ir1 : Nat → Int32) (q0 : Nat → Yq) (q1 : Nat → Yq) (hn : n ≤ 12) (hY : yR q n os kd ic br) (him0 : ig 0 = some (ad 12 0)) (him1 : ig 1 = some (ad 13 0)) (hI0 : ¬ kp 0 = 0 → in0 = nI n ∧ yR q0 n io0 ik0 ii0 ir0) (hI1 : ¬ kp 1 = 0 → in1 = nI n ∧ yR q1 n io1 ik1 ii1 ir1) : Ci l yX7_goBack wsX7_goBack 2 43 [.ref ((ad 0) 0), .int 0] D (tyA c4) A none ((iG ad fp) :: (wG ((ad 3) 0) ((ad 4) 0) bt nt sd) :: (yG c4 (ad 4) (nI n) os kd ic br) :: (gG c4 ((ad 5) 0) ig) :: (zG c4 ((ad 6) 0) 2 kp) :: (wG ((ad 12) 0) ((ad 14) 0) ib0 it0 is0) :: (yG c4 (ad 14) in0 io0 ik0 ii0 ir0) :: (wG ((ad 13) 0) ((ad 15) 0) ib1 it1 is1) :: (yG c4 (ad 15) in1 io1 ik1 ii1 ir1) :: Ts) (S := Int32 × Int32 × Int32 × Int32 × (Nat → Int32) × (Nat → Int32) × (Nat → Int32)) (fun (r : Int32) (u : Int32 × Int32 × Int32 × Int32 × (Nat → Int32) × (Nat → Int32) × (Nat → Int32)) => backP n q q0 q1 bt nt sd ib0 it0 is0 ib1 it1 is1 0 r kp u.1 u.2.1 u.2.2.1 u.2.2.2.1 u.2.2.2.2.1 u.2.2.2.2.2.1 u.2.2.2.2.2.2) (fun u => ((iG ad fp) :: (wG ((ad 3) 0) ((ad 4) 0) u.1 u.2.1 u.2.2.1) :: (yG c4 (ad 4) (nI n) u.2.2.2.1 u.2.2.2.2.1 u.2.2.2.2.2.1 u.2.2.2.2.2.2) :: (gG c4 ((ad 5) 0) ig) :: (zG c4 ((ad 6) 0) 2 kp) :: (wG ((ad 12) 0) ((ad 14) 0) ib0 it0 is0) :: (yG c4 (ad 14) in0 io0 ik0 ii0 ir0) :: (wG ((ad 13) 0) ((ad 15) 0) ib1 it1 is1) :: (yG c4 (ad 15) in1 io1 ik1 ii1 ir1) :: Ts)) := by
  refine cOi (cc := cX7_goBack) (maxL := 2) (by decide) rfl (Nat.le_of_ble_eq_true rfl) rfl ?_
  rintro jp je js jm below meth jc ls args R Q H locs hRf hRl ⟨hx, hb, hml, hr, hts, hown, hlocks, hK, hX⟩ hw hl kr
  have hown : js.vm.findClass RX7 = some jm.cls := hown
  have f_0 := hts (.fieldLink RX7 34 "IceSway" "kept" "[Z") (by decide +kernel)
  have f_1 := hts (.fieldLink RX7 26 "IceSway" "now" "LIceSway$Winter;") (by decide +kernel)
  have f_2 := hts (.fieldLink RX7 30 "IceSway" "images" "[LIceSway$Winter;") (by decide +kernel)
  have f_3 := hts (.constant RX7 181 (-1000000003)) (by decide +kernel)
  have hi7 : ∀ w ∈ u_ws RX7 TX7 10, w ∈ wsX7_goBack := fun w h => List.mem_cons_of_mem _ (List.mem_append_left _ (List.mem_append_left _ (List.mem_append_right _ h)))
  refine lv_iload_n hx hb dX7_goBack_0 rfl (lv_at hl 1 rfl) ?_
  refine lv_iconst (v := 0) hx hb dX7_goBack_1 (by decide) ?_
  refine lv_iconst (v := 1) hx hb dX7_goBack_2 (by decide) ?_
  refine c_si (As := [.int 0, .int 0, .int 1]) (rest := []) ⟨hx, hb, hml, hown, hts⟩ (k_X7_isOut l D c4 A ((iG ad fp) :: (wG ((ad 3) 0) ((ad 4) 0) bt nt sd) :: (yG c4 (ad 4) (nI n) os kd ic br) :: (gG c4 ((ad 5) 0) ig) :: (zG c4 ((ad 6) 0) 2 kp) :: (wG ((ad 12) 0) ((ad 14) 0) ib0 it0 is0) :: (yG c4 (ad 14) in0 io0 ik0 ii0 ir0) :: (wG ((ad 13) 0) ((ad 15) 0) ib1 it1 is1) :: (yG c4 (ad 15) in1 io1 ik1 ii1 ir1) :: Ts) 0 0 1) (va_cwS 3 hts gX7_goBack_X7_isOut rfl rfl rfl (by decide +kernel) (rmv (Nat.le_of_ble_eq_true rfl) (Nat.le_of_ble_eq_true rfl) hRf hRl)) hK trivial hw rfl hl rfl (Nat.le_of_ble_eq_true rfl) ⟨Nat.zero_le _, Nat.zero_le _⟩ dX7_goBack_3 (fun r_3 u_3 H locs hpq hw => ?_)
  obtain ⟨h0_3, h1_3, hz_3⟩ := hpq
  refine lv_if_eq (tgt := 12) hx hb dX7_goBack_6 (by decide) (fun c_6 => ?_) (fun c_6 => ?_)
  · refine lv_aload_n hx hb dX7_goBack_12 rfl (lv_at hl 0 rfl) ?_
    refine r_get (T := TX7) (v := .ref ((ad 6) 0)) hx hb hts hi7 hown hK hw 0 rfl rfl 4 (by decide) f_0 rfl dX7_goBack_13 ?_
    refine lv_iload_n hx hb dX7_goBack_16 rfl (lv_at hl 1 rfl) ?_
    refine r_zald hx hb hK hw 7 1 rfl rfl 0 (by decide) (by decide) dX7_goBack_17 ?_
    refine lv_if_ne (tgt := 24) hx hb dX7_goBack_18 (by decide) (fun c_18 => ?_) (fun c_18 => ?_)
    · obtain ⟨ei, hYi⟩ := hI0 c_18
      subst ei
      refine lv_aload_n hx hb dX7_goBack_24 rfl (lv_at hl 0 rfl) ?_
      refine r_get (T := TX7) (v := .ref ((ad 3) 0)) hx hb hts hi7 hown hK hw 0 rfl rfl 2 (by decide) f_1 rfl dX7_goBack_25 ?_
      refine lv_aload_n hx hb dX7_goBack_28 rfl (lv_at hl 0 rfl) ?_
      refine r_get (T := TX7) (v := .ref ((ad 5) 0)) hx hb hts hi7 hown hK hw 0 rfl rfl 3 (by decide) f_2 rfl dX7_goBack_29 ?_
      refine lv_iload_n hx hb dX7_goBack_32 rfl (lv_at hl 1 rfl) ?_
      refine r_aald hx hb hK hw 6 2 rfl rfl 0 (by decide) (by decide) (b := ((ad 12) 0)) him0 dX7_goBack_33 ?_
      have hw := hw.m6
      have hw := hw.m6
      have hw := hw.m4
      have hw := hw.m4
      refine c_vv (As := [.ref ((ad 12) 0)]) (rest := []) ⟨hx, hb, hml, hown, hts⟩ (k_X5_copyFrom l D c4 A ((iG ad fp) :: (gG c4 ((ad 5) 0) ig) :: (zG c4 ((ad 6) 0) 2 kp) :: (wG ((ad 13) 0) ((ad 15) 0) ib1 it1 is1) :: (yG c4 (ad 15) in1 io1 ik1 ii1 ir1) :: Ts) ((ad 3) 0) bt nt sd (ad 4) (nI n) os kd ic br ((ad 12) 0) ib0 it0 is0 (ad 14) n io0 ik0 ii0 ir0 q0 hn hYi) (cwV 1 hts gX7_goBack_X5_copyFrom rfl rfl rfl (by decide +kernel) (rmv (Nat.le_of_ble_eq_true rfl) (Nat.le_of_ble_eq_true rfl) hRf hRl)) hK trivial hw rfl rfl rfl hl rfl (Nat.le_of_ble_eq_true rfl) ⟨Nat.zero_le _, Nat.zero_le _⟩ dX7_goBack_34 (fun u_34 H locs hpq hw => ?_)
      obtain ⟨kd2_34, ic2_34, br2_34⟩ := u_34
      have hw : gW D A js.heap ((wG ((ad 3) 0) ((ad 4) 0) ib0 it0 is0) :: (yG c4 (ad 4) (nI n) io0 kd2_34 ic2_34 br2_34) :: (wG ((ad 12) 0) ((ad 14) 0) ib0 it0 is0) :: (yG c4 (ad 14) (nI n) io0 ik0 ii0 ir0) :: (iG ad fp) :: (gG c4 ((ad 5) 0) ig) :: (zG c4 ((ad 6) 0) 2 kp) :: (wG ((ad 13) 0) ((ad 15) 0) ib1 it1 is1) :: (yG c4 (ad 15) in1 io1 ik1 ii1 ir1) :: Ts) H locs := hw
      have hY_34 := hpq
      have hY_34 : yR q0 n io0 kd2_34 ic2_34 br2_34 := hY_34
      refine lv_iconst (v := 1) hx hb dX7_goBack_37 (by decide) ?_
      have hw := hw.m8
      have hw := hw.m8
      have hw := hw.m5
      have hw := hw.m5
      have hw := hw.m8
      have hw := hw.m8
      have hw := hw.m7
      have hw := hw.m7
      have hw := hw.m8
      exact kr 1 (ib0, it0, is0, io0, kd2_34, ic2_34, br2_34) _ _ _ _ hw (Or.inl ⟨rfl, c_18, rfl, rfl, rfl, rfl, hY_34⟩) dX7_goBack_38
    · refine lv_ldc hx hb hown f_3 dX7_goBack_21 ?_
      exact kr (-1000000003) (bt, nt, sd, os, kd, ic, br) _ _ _ _ hw (Or.inr (Or.inr (Or.inl ⟨by decide, c_18, rfl, rfl, rfl, rfl, hY⟩))) dX7_goBack_23
  · exact absurd (h1_3 c_6) (by decide)
set_option maxHeartbeats 4000000 in
set_option maxRecDepth 100000 in
theorem k_X7_goBack_1 (l : Launch) (D : va_G) (c4 : Nat → ClassId) (A : Nat → Prop) (Ts : List va_W) (ad : Nat → Nat → Nat) (fp : Int32) (bt : Int32) (nt : Int32) (sd : Int32) (n : Nat) (os : Int32) (kd : Nat → Int32) (ic : Nat → Int32) (br : Nat → Int32) (q : Nat → Yq) (ig : Nat → Option Nat) (kp : Nat → Int32) (in0 : Int32) (io0 : Int32) (ib0 : Int32) (it0 : Int32) (is0 : Int32) (ik0 : Nat → Int32) (ii0 : Nat → Int32) (ir0 : Nat → Int32) (in1 : Int32) (io1 : Int32) (ib1 : Int32) (it1 : Int32) (is1 : Int32) (ik1 : Nat → Int32) (ii1 : Nat → Int32) (ir1 : Nat → Int32) (q0 : Nat → Yq) (q1 : Nat → Yq) (hn : n ≤ 12) (hY : yR q n os kd ic br) (him0 : ig 0 = some (ad 12 0)) (him1 : ig 1 = some (ad 13 0)) (hI0 : ¬ kp 0 = 0 → in0 = nI n ∧ yR q0 n io0 ik0 ii0 ir0) (hI1 : ¬ kp 1 = 0 → in1 = nI n ∧ yR q1 n io1 ik1 ii1 ir1) : Ci l yX7_goBack wsX7_goBack 2 43 [.ref ((ad 0) 0), .int 1] D (tyA c4) A none ((iG ad fp) :: (wG ((ad 3) 0) ((ad 4) 0) bt nt sd) :: (yG c4 (ad 4) (nI n) os kd ic br) :: (gG c4 ((ad 5) 0) ig) :: (zG c4 ((ad 6) 0) 2 kp) :: (wG ((ad 12) 0) ((ad 14) 0) ib0 it0 is0) :: (yG c4 (ad 14) in0 io0 ik0 ii0 ir0) :: (wG ((ad 13) 0) ((ad 15) 0) ib1 it1 is1) :: (yG c4 (ad 15) in1 io1 ik1 ii1 ir1) :: Ts) (S := Int32 × Int32 × Int32 × Int32 × (Nat → Int32) × (Nat → Int32) × (Nat → Int32)) (fun (r : Int32) (u : Int32 × Int32 × Int32 × Int32 × (Nat → Int32) × (Nat → Int32) × (Nat → Int32)) => backP n q q0 q1 bt nt sd ib0 it0 is0 ib1 it1 is1 1 r kp u.1 u.2.1 u.2.2.1 u.2.2.2.1 u.2.2.2.2.1 u.2.2.2.2.2.1 u.2.2.2.2.2.2) (fun u => ((iG ad fp) :: (wG ((ad 3) 0) ((ad 4) 0) u.1 u.2.1 u.2.2.1) :: (yG c4 (ad 4) (nI n) u.2.2.2.1 u.2.2.2.2.1 u.2.2.2.2.2.1 u.2.2.2.2.2.2) :: (gG c4 ((ad 5) 0) ig) :: (zG c4 ((ad 6) 0) 2 kp) :: (wG ((ad 12) 0) ((ad 14) 0) ib0 it0 is0) :: (yG c4 (ad 14) in0 io0 ik0 ii0 ir0) :: (wG ((ad 13) 0) ((ad 15) 0) ib1 it1 is1) :: (yG c4 (ad 15) in1 io1 ik1 ii1 ir1) :: Ts)) := by
  refine cOi (cc := cX7_goBack) (maxL := 2) (by decide) rfl (Nat.le_of_ble_eq_true rfl) rfl ?_
  rintro jp je js jm below meth jc ls args R Q H locs hRf hRl ⟨hx, hb, hml, hr, hts, hown, hlocks, hK, hX⟩ hw hl kr
  have hown : js.vm.findClass RX7 = some jm.cls := hown
  have f_0 := hts (.fieldLink RX7 34 "IceSway" "kept" "[Z") (by decide +kernel)
  have f_1 := hts (.fieldLink RX7 26 "IceSway" "now" "LIceSway$Winter;") (by decide +kernel)
  have f_2 := hts (.fieldLink RX7 30 "IceSway" "images" "[LIceSway$Winter;") (by decide +kernel)
  have f_3 := hts (.constant RX7 181 (-1000000003)) (by decide +kernel)
  have hi7 : ∀ w ∈ u_ws RX7 TX7 10, w ∈ wsX7_goBack := fun w h => List.mem_cons_of_mem _ (List.mem_append_left _ (List.mem_append_left _ (List.mem_append_right _ h)))
  refine lv_iload_n hx hb dX7_goBack_0 rfl (lv_at hl 1 rfl) ?_
  refine lv_iconst (v := 0) hx hb dX7_goBack_1 (by decide) ?_
  refine lv_iconst (v := 1) hx hb dX7_goBack_2 (by decide) ?_
  refine c_si (As := [.int 1, .int 0, .int 1]) (rest := []) ⟨hx, hb, hml, hown, hts⟩ (k_X7_isOut l D c4 A ((iG ad fp) :: (wG ((ad 3) 0) ((ad 4) 0) bt nt sd) :: (yG c4 (ad 4) (nI n) os kd ic br) :: (gG c4 ((ad 5) 0) ig) :: (zG c4 ((ad 6) 0) 2 kp) :: (wG ((ad 12) 0) ((ad 14) 0) ib0 it0 is0) :: (yG c4 (ad 14) in0 io0 ik0 ii0 ir0) :: (wG ((ad 13) 0) ((ad 15) 0) ib1 it1 is1) :: (yG c4 (ad 15) in1 io1 ik1 ii1 ir1) :: Ts) 1 0 1) (va_cwS 3 hts gX7_goBack_X7_isOut rfl rfl rfl (by decide +kernel) (rmv (Nat.le_of_ble_eq_true rfl) (Nat.le_of_ble_eq_true rfl) hRf hRl)) hK trivial hw rfl hl rfl (Nat.le_of_ble_eq_true rfl) ⟨Nat.zero_le _, Nat.zero_le _⟩ dX7_goBack_3 (fun r_3 u_3 H locs hpq hw => ?_)
  obtain ⟨h0_3, h1_3, hz_3⟩ := hpq
  refine lv_if_eq (tgt := 12) hx hb dX7_goBack_6 (by decide) (fun c_6 => ?_) (fun c_6 => ?_)
  · refine lv_aload_n hx hb dX7_goBack_12 rfl (lv_at hl 0 rfl) ?_
    refine r_get (T := TX7) (v := .ref ((ad 6) 0)) hx hb hts hi7 hown hK hw 0 rfl rfl 4 (by decide) f_0 rfl dX7_goBack_13 ?_
    refine lv_iload_n hx hb dX7_goBack_16 rfl (lv_at hl 1 rfl) ?_
    refine r_zald hx hb hK hw 7 1 rfl rfl 1 (by decide) (by decide) dX7_goBack_17 ?_
    refine lv_if_ne (tgt := 24) hx hb dX7_goBack_18 (by decide) (fun c_18 => ?_) (fun c_18 => ?_)
    · obtain ⟨ei, hYi⟩ := hI1 c_18
      subst ei
      refine lv_aload_n hx hb dX7_goBack_24 rfl (lv_at hl 0 rfl) ?_
      refine r_get (T := TX7) (v := .ref ((ad 3) 0)) hx hb hts hi7 hown hK hw 0 rfl rfl 2 (by decide) f_1 rfl dX7_goBack_25 ?_
      refine lv_aload_n hx hb dX7_goBack_28 rfl (lv_at hl 0 rfl) ?_
      refine r_get (T := TX7) (v := .ref ((ad 5) 0)) hx hb hts hi7 hown hK hw 0 rfl rfl 3 (by decide) f_2 rfl dX7_goBack_29 ?_
      refine lv_iload_n hx hb dX7_goBack_32 rfl (lv_at hl 1 rfl) ?_
      refine r_aald hx hb hK hw 6 2 rfl rfl 1 (by decide) (by decide) (b := ((ad 13) 0)) him1 dX7_goBack_33 ?_
      have hw := hw.m8
      have hw := hw.m8
      have hw := hw.m4
      have hw := hw.m4
      refine c_vv (As := [.ref ((ad 13) 0)]) (rest := []) ⟨hx, hb, hml, hown, hts⟩ (k_X5_copyFrom l D c4 A ((iG ad fp) :: (gG c4 ((ad 5) 0) ig) :: (zG c4 ((ad 6) 0) 2 kp) :: (wG ((ad 12) 0) ((ad 14) 0) ib0 it0 is0) :: (yG c4 (ad 14) in0 io0 ik0 ii0 ir0) :: Ts) ((ad 3) 0) bt nt sd (ad 4) (nI n) os kd ic br ((ad 13) 0) ib1 it1 is1 (ad 15) n io1 ik1 ii1 ir1 q1 hn hYi) (cwV 1 hts gX7_goBack_X5_copyFrom rfl rfl rfl (by decide +kernel) (rmv (Nat.le_of_ble_eq_true rfl) (Nat.le_of_ble_eq_true rfl) hRf hRl)) hK trivial hw rfl rfl rfl hl rfl (Nat.le_of_ble_eq_true rfl) ⟨Nat.zero_le _, Nat.zero_le _⟩ dX7_goBack_34 (fun u_34 H locs hpq hw => ?_)
      obtain ⟨kd2_34, ic2_34, br2_34⟩ := u_34
      have hw : gW D A js.heap ((wG ((ad 3) 0) ((ad 4) 0) ib1 it1 is1) :: (yG c4 (ad 4) (nI n) io1 kd2_34 ic2_34 br2_34) :: (wG ((ad 13) 0) ((ad 15) 0) ib1 it1 is1) :: (yG c4 (ad 15) (nI n) io1 ik1 ii1 ir1) :: (iG ad fp) :: (gG c4 ((ad 5) 0) ig) :: (zG c4 ((ad 6) 0) 2 kp) :: (wG ((ad 12) 0) ((ad 14) 0) ib0 it0 is0) :: (yG c4 (ad 14) in0 io0 ik0 ii0 ir0) :: Ts) H locs := hw
      have hY_34 := hpq
      have hY_34 : yR q1 n io1 kd2_34 ic2_34 br2_34 := hY_34
      refine lv_iconst (v := 1) hx hb dX7_goBack_37 (by decide) ?_
      have hw := hw.m3
      have hw := hw.m3
      have hw := hw.m8
      have hw := hw.m8
      have hw := hw.m8
      have hw := hw.m8
      have hw := hw.m7
      have hw := hw.m7
      have hw := hw.m8
      exact kr 1 (ib1, it1, is1, io1, kd2_34, ic2_34, br2_34) _ _ _ _ hw (Or.inr (Or.inl ⟨rfl, c_18, rfl, rfl, rfl, rfl, hY_34⟩)) dX7_goBack_38
    · refine lv_ldc hx hb hown f_3 dX7_goBack_21 ?_
      exact kr (-1000000003) (bt, nt, sd, os, kd, ic, br) _ _ _ _ hw (Or.inr (Or.inr (Or.inl ⟨by decide, c_18, rfl, rfl, rfl, rfl, hY⟩))) dX7_goBack_23
  · exact absurd (h1_3 c_6) (by decide)
set_option maxHeartbeats 4000000 in
set_option maxRecDepth 100000 in
theorem k_X7_goBack_2 (l : Launch) (D : va_G) (c4 : Nat → ClassId) (A : Nat → Prop) (Ts : List va_W) (ad : Nat → Nat → Nat) (fp : Int32) (bt : Int32) (nt : Int32) (sd : Int32) (n : Nat) (os : Int32) (kd : Nat → Int32) (ic : Nat → Int32) (br : Nat → Int32) (q : Nat → Yq) (ig : Nat → Option Nat) (kp : Nat → Int32) (in0 : Int32) (io0 : Int32) (ib0 : Int32) (it0 : Int32) (is0 : Int32) (ik0 : Nat → Int32) (ii0 : Nat → Int32) (ir0 : Nat → Int32) (in1 : Int32) (io1 : Int32) (ib1 : Int32) (it1 : Int32) (is1 : Int32) (ik1 : Nat → Int32) (ii1 : Nat → Int32) (ir1 : Nat → Int32) (q0 : Nat → Yq) (q1 : Nat → Yq) (v : Int32) (hn : n ≤ 12) (hY : yR q n os kd ic br) (him0 : ig 0 = some (ad 12 0)) (him1 : ig 1 = some (ad 13 0)) (hI0 : ¬ kp 0 = 0 → in0 = nI n ∧ yR q0 n io0 ik0 ii0 ir0) (hI1 : ¬ kp 1 = 0 → in1 = nI n ∧ yR q1 n io1 ik1 ii1 ir1) (hv : ¬ inR v 0 1) : Ci l yX7_goBack wsX7_goBack 2 43 [.ref ((ad 0) 0), .int v] D (tyA c4) A none ((iG ad fp) :: (wG ((ad 3) 0) ((ad 4) 0) bt nt sd) :: (yG c4 (ad 4) (nI n) os kd ic br) :: (gG c4 ((ad 5) 0) ig) :: (zG c4 ((ad 6) 0) 2 kp) :: (wG ((ad 12) 0) ((ad 14) 0) ib0 it0 is0) :: (yG c4 (ad 14) in0 io0 ik0 ii0 ir0) :: (wG ((ad 13) 0) ((ad 15) 0) ib1 it1 is1) :: (yG c4 (ad 15) in1 io1 ik1 ii1 ir1) :: Ts) (S := Int32 × Int32 × Int32 × Int32 × (Nat → Int32) × (Nat → Int32) × (Nat → Int32)) (fun (r : Int32) (u : Int32 × Int32 × Int32 × Int32 × (Nat → Int32) × (Nat → Int32) × (Nat → Int32)) => backP n q q0 q1 bt nt sd ib0 it0 is0 ib1 it1 is1 v r kp u.1 u.2.1 u.2.2.1 u.2.2.2.1 u.2.2.2.2.1 u.2.2.2.2.2.1 u.2.2.2.2.2.2) (fun u => ((iG ad fp) :: (wG ((ad 3) 0) ((ad 4) 0) u.1 u.2.1 u.2.2.1) :: (yG c4 (ad 4) (nI n) u.2.2.2.1 u.2.2.2.2.1 u.2.2.2.2.2.1 u.2.2.2.2.2.2) :: (gG c4 ((ad 5) 0) ig) :: (zG c4 ((ad 6) 0) 2 kp) :: (wG ((ad 12) 0) ((ad 14) 0) ib0 it0 is0) :: (yG c4 (ad 14) in0 io0 ik0 ii0 ir0) :: (wG ((ad 13) 0) ((ad 15) 0) ib1 it1 is1) :: (yG c4 (ad 15) in1 io1 ik1 ii1 ir1) :: Ts)) := by
  refine cOi (cc := cX7_goBack) (maxL := 2) (by decide) rfl (Nat.le_of_ble_eq_true rfl) rfl ?_
  rintro jp je js jm below meth jc ls args R Q H locs hRf hRl ⟨hx, hb, hml, hr, hts, hown, hlocks, hK, hX⟩ hw hl kr
  have hown : js.vm.findClass RX7 = some jm.cls := hown
  have f_0 := hts (.constant RX7 155 (-1000000001)) (by decide +kernel)
  refine lv_iload_n hx hb dX7_goBack_0 rfl (lv_at hl 1 rfl) ?_
  refine lv_iconst (v := 0) hx hb dX7_goBack_1 (by decide) ?_
  refine lv_iconst (v := 1) hx hb dX7_goBack_2 (by decide) ?_
  refine c_si (As := [.int v, .int 0, .int 1]) (rest := []) ⟨hx, hb, hml, hown, hts⟩ (k_X7_isOut l D c4 A ((iG ad fp) :: (wG ((ad 3) 0) ((ad 4) 0) bt nt sd) :: (yG c4 (ad 4) (nI n) os kd ic br) :: (gG c4 ((ad 5) 0) ig) :: (zG c4 ((ad 6) 0) 2 kp) :: (wG ((ad 12) 0) ((ad 14) 0) ib0 it0 is0) :: (yG c4 (ad 14) in0 io0 ik0 ii0 ir0) :: (wG ((ad 13) 0) ((ad 15) 0) ib1 it1 is1) :: (yG c4 (ad 15) in1 io1 ik1 ii1 ir1) :: Ts) v 0 1) (va_cwS 3 hts gX7_goBack_X7_isOut rfl rfl rfl (by decide +kernel) (rmv (Nat.le_of_ble_eq_true rfl) (Nat.le_of_ble_eq_true rfl) hRf hRl)) hK trivial hw rfl hl rfl (Nat.le_of_ble_eq_true rfl) ⟨Nat.zero_le _, Nat.zero_le _⟩ dX7_goBack_3 (fun r_3 u_3 H locs hpq hw => ?_)
  obtain ⟨h0_3, h1_3, hz_3⟩ := hpq
  refine lv_if_eq (tgt := 12) hx hb dX7_goBack_6 (by decide) (fun c_6 => ?_) (fun c_6 => ?_)
  · exact absurd (h0_3 c_6) hv
  · refine lv_ldc hx hb hown f_0 dX7_goBack_9 ?_
    exact kr (-1000000001) (bt, nt, sd, os, kd, ic, br) _ _ _ _ hw (Or.inr (Or.inr (Or.inr ⟨hv, rfl, rfl, rfl, rfl, hY⟩))) dX7_goBack_11
set_option maxHeartbeats 4000000 in
set_option maxRecDepth 100000 in
theorem k_X7_goBack (l : Launch) (D : va_G) (c4 : Nat → ClassId) (A : Nat → Prop) (Ts : List va_W) (ad : Nat → Nat → Nat) (fp : Int32) (bt : Int32) (nt : Int32) (sd : Int32) (n : Nat) (os : Int32) (kd : Nat → Int32) (ic : Nat → Int32) (br : Nat → Int32) (q : Nat → Yq) (ig : Nat → Option Nat) (kp : Nat → Int32) (in0 : Int32) (io0 : Int32) (ib0 : Int32) (it0 : Int32) (is0 : Int32) (ik0 : Nat → Int32) (ii0 : Nat → Int32) (ir0 : Nat → Int32) (in1 : Int32) (io1 : Int32) (ib1 : Int32) (it1 : Int32) (is1 : Int32) (ik1 : Nat → Int32) (ii1 : Nat → Int32) (ir1 : Nat → Int32) (q0 : Nat → Yq) (q1 : Nat → Yq) (v : Int32) (hn : n ≤ 12) (hY : yR q n os kd ic br) (him0 : ig 0 = some (ad 12 0)) (him1 : ig 1 = some (ad 13 0)) (hI0 : ¬ kp 0 = 0 → in0 = nI n ∧ yR q0 n io0 ik0 ii0 ir0) (hI1 : ¬ kp 1 = 0 → in1 = nI n ∧ yR q1 n io1 ik1 ii1 ir1) : Ci l yX7_goBack wsX7_goBack 2 43 [.ref ((ad 0) 0), .int v] D (tyA c4) A none ((iG ad fp) :: (wG ((ad 3) 0) ((ad 4) 0) bt nt sd) :: (yG c4 (ad 4) (nI n) os kd ic br) :: (gG c4 ((ad 5) 0) ig) :: (zG c4 ((ad 6) 0) 2 kp) :: (wG ((ad 12) 0) ((ad 14) 0) ib0 it0 is0) :: (yG c4 (ad 14) in0 io0 ik0 ii0 ir0) :: (wG ((ad 13) 0) ((ad 15) 0) ib1 it1 is1) :: (yG c4 (ad 15) in1 io1 ik1 ii1 ir1) :: Ts) (S := Int32 × Int32 × Int32 × Int32 × (Nat → Int32) × (Nat → Int32) × (Nat → Int32)) (fun (r : Int32) (u : Int32 × Int32 × Int32 × Int32 × (Nat → Int32) × (Nat → Int32) × (Nat → Int32)) => backP n q q0 q1 bt nt sd ib0 it0 is0 ib1 it1 is1 v r kp u.1 u.2.1 u.2.2.1 u.2.2.2.1 u.2.2.2.2.1 u.2.2.2.2.2.1 u.2.2.2.2.2.2) (fun u => ((iG ad fp) :: (wG ((ad 3) 0) ((ad 4) 0) u.1 u.2.1 u.2.2.1) :: (yG c4 (ad 4) (nI n) u.2.2.2.1 u.2.2.2.2.1 u.2.2.2.2.2.1 u.2.2.2.2.2.2) :: (gG c4 ((ad 5) 0) ig) :: (zG c4 ((ad 6) 0) 2 kp) :: (wG ((ad 12) 0) ((ad 14) 0) ib0 it0 is0) :: (yG c4 (ad 14) in0 io0 ik0 ii0 ir0) :: (wG ((ad 13) 0) ((ad 15) 0) ib1 it1 is1) :: (yG c4 (ad 15) in1 io1 ik1 ii1 ir1) :: Ts)) := by
  by_cases hv : inR v 0 1
  · rcases in01 hv with e | e
    · subst e; exact k_X7_goBack_0 l D c4 A Ts ad fp bt nt sd n os kd ic br q ig kp in0 io0 ib0 it0 is0 ik0 ii0 ir0 in1 io1 ib1 it1 is1 ik1 ii1 ir1 q0 q1 hn hY him0 him1 hI0 hI1
    · subst e; exact k_X7_goBack_1 l D c4 A Ts ad fp bt nt sd n os kd ic br q ig kp in0 io0 ib0 it0 is0 ik0 ii0 ir0 in1 io1 ib1 it1 is1 ik1 ii1 ir1 q0 q1 hn hY him0 him1 hI0 hI1
  · exact k_X7_goBack_2 l D c4 A Ts ad fp bt nt sd n os kd ic br q ig kp in0 io0 ib0 it0 is0 ik0 ii0 ir0 in1 io1 ib1 it1 is1 ik1 ii1 ir1 q0 q1 v hn hY him0 him1 hI0 hI1 hv
