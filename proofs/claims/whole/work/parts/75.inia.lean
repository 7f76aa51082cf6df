set_option maxHeartbeats 4000000 in
set_option maxRecDepth 100000 in
theorem k_X4_init (l : Launch) (D : va_G) (c4 : Nat → ClassId) (A : Nat → Prop) (Ts : List va_W) (b : Nat) : Cn l yX4_init wsX4_init 1 12 1 12 [.ref b] D (tyA c4) A none ([(b, .inr (4, [.int 0, .int 0, .int 0, .null]))] :: Ts) (S := (Nat → Nat)) (fun (u : (Nat → Nat)) => u 0 = b) (fun u => ((tG c4 u 0 0 0 (fun _ => 0)) :: Ts)) := by
  refine cOn (cc := cX4_init) (maxL := 1) (by decide) rfl rfl (Nat.le_of_ble_eq_true rfl) rfl ?_
  rintro jp je js jm below meth jc ls args R Q H locs hRf hRl hRc hRs ⟨hx, hb, hml, hr, hts, hown, hlocks, hK, hX⟩ hw hl hA hO hin kr
  have hown : js.vm.findClass RX4 = some jm.cls := hown
  have f_0 := hts (.methodLink RX4 3 objectInit) (by decide +kernel)
  have f_1 := hts (.instanceMethod objectInit) (by decide +kernel)
  have f_2 := hts (.code objectInit ⟨#[0xb1]⟩ 1 none) (by decide +kernel)
  have f_3 := hts (.arrayClass .int) (by decide +kernel)
  have f_4 := hts (.fieldLink RX4 11 "IceSway$Trip" "behindAt" "[I") (by decide +kernel)
  have hi4 : ∀ w ∈ u_ws RX4 TX4 4, w ∈ wsX4_init := fun w h => List.mem_cons_of_mem _ (List.mem_append_right _ h)
  refine lv_aload_n hx hb dX4_init_0 rfl (lv_at hl 0 rfl) ?_
  refine W.objInit hx hb hown f_0 f_1 f_2 rfl (by rw [hml]; exact hl.1) rfl dX4_init_1 (by rw [hRf]; exact Nat.le_of_ble_eq_true rfl) (by rw [hRl]; exact Nat.le_of_ble_eq_true rfl) ?_
  refine W.eq (g2 := F0 jm 4 ls []) rfl ?_
  refine lv_aload_n hx hb dX4_init_4 rfl (lv_at hl 0 rfl) ?_
  refine lv_bipush (v := 12) hx hb dX4_init_5 (by decide) ?_
  refine r_newI hx hb f_3 hK hw hA 12 (by decide) rfl (Nat.le_of_ble_eq_true rfl) (by rw [hRc]; exact Nat.le_of_ble_eq_true rfl) (by rw [hRs]; exact Nat.le_of_ble_eq_true rfl) dX4_init_7 (fun q_7 H hw => ?_)
  refine r_putR (T := TX4) (v := .ref q_7) (G' := ((aG c4 q_7 12 (fun _ => 0)) :: [(b, .inr (4, [.int 0, .int 0, .int 0, .ref q_7]))] :: Ts)) hx hb hts hi4 tyX4 tyX4_ok nmX4 hown hK hw 1 rfl rfl 3 (by decide) f_4 rfl hin rfl rfl rfl rfl (Nat.le_of_ble_eq_true rfl) rfl dX4_init_9 (fun H locs hw => ?_)
  have hw := gW.pkT [(aG c4 q_7 12 (fun _ => 0)), [(b, .inr (4, [.int 0, .int 0, .int 0, .ref q_7]))]] hw 2 rfl [1, 0] (by decide +kernel)
  have hw : gW D A js.heap ([(b, .inr (4, [.int 0, .int 0, .int 0, .ref q_7]))] :: (aG c4 q_7 12 (fun _ => 0)) :: Ts) H locs := hw
  exact kr ((fun k => ([b, q_7] : List Nat).getD k 0)) _ _ _ _ _ _ (Nat.le_of_ble_eq_true rfl) (Nat.le_of_ble_eq_true rfl) (hw.cast rfl) rfl dX4_init_12
set_option maxHeartbeats 4000000 in
set_option maxRecDepth 100000 in
theorem k_X6_init (l : Launch) (D : va_G) (c4 : Nat → ClassId) (A : Nat → Prop) (Ts : List va_W) (b : Nat) : Cn l yX6_init wsX6_init 1 12 3 36 [.ref b] D (tyA c4) A none ([(b, .inr (6, [.int 0, .int 0, .null, .null, .null]))] :: Ts) (S := (Nat → Nat)) (fun (u : (Nat → Nat)) => u 0 = b) (fun u => ((yG c4 u 0 0 (fun _ => 0) (fun _ => 0) (fun _ => 0)) :: Ts)) := by
  refine cOn (cc := cX6_init) (maxL := 1) (by decide) rfl rfl (Nat.le_of_ble_eq_true rfl) rfl ?_
  rintro jp je js jm below meth jc ls args R Q H locs hRf hRl hRc hRs ⟨hx, hb, hml, hr, hts, hown, hlocks, hK, hX⟩ hw hl hA hO hin kr
  have hown : js.vm.findClass RX6 = some jm.cls := hown
  have f_0 := hts (.methodLink RX6 3 objectInit) (by decide +kernel)
  have f_1 := hts (.instanceMethod objectInit) (by decide +kernel)
  have f_2 := hts (.code objectInit ⟨#[0xb1]⟩ 1 none) (by decide +kernel)
  have f_3 := hts (.arrayClass .int) (by decide +kernel)
  have f_4 := hts (.fieldLink RX6 11 "IceSway$Yards" "kind" "[I") (by decide +kernel)
  have f_5 := hts (.fieldLink RX6 15 "IceSway$Yards" "ice" "[I") (by decide +kernel)
  have f_6 := hts (.fieldLink RX6 18 "IceSway$Yards" "broken" "[I") (by decide +kernel)
  have hi6 : ∀ w ∈ u_ws RX6 TX6 5, w ∈ wsX6_init := fun w h => List.mem_cons_of_mem _ (List.mem_append_right _ h)
  refine lv_aload_n hx hb dX6_init_0 rfl (lv_at hl 0 rfl) ?_
  refine W.objInit hx hb hown f_0 f_1 f_2 rfl (by rw [hml]; exact hl.1) rfl dX6_init_1 (by rw [hRf]; exact Nat.le_of_ble_eq_true rfl) (by rw [hRl]; exact Nat.le_of_ble_eq_true rfl) ?_
  refine W.eq (g2 := F0 jm 4 ls []) rfl ?_
  refine lv_aload_n hx hb dX6_init_4 rfl (lv_at hl 0 rfl) ?_
  refine lv_bipush (v := 12) hx hb dX6_init_5 (by decide) ?_
  refine r_newI hx hb f_3 hK hw hA 12 (by decide) rfl (Nat.le_of_ble_eq_true rfl) (by rw [hRc]; exact Nat.le_of_ble_eq_true rfl) (by rw [hRs]; exact Nat.le_of_ble_eq_true rfl) dX6_init_7 (fun q_7 H hw => ?_)
  refine r_putR (T := TX6) (v := .ref q_7) (G' := ((aG c4 q_7 12 (fun _ => 0)) :: [(b, .inr (6, [.int 0, .int 0, .ref q_7, .null, .null]))] :: Ts)) hx hb hts hi6 tyX6 tyX6_ok nmX6 hown hK hw 1 rfl rfl 2 (by decide) f_4 rfl hin rfl rfl rfl rfl (Nat.le_of_ble_eq_true rfl) rfl dX6_init_9 (fun H locs hw => ?_)
  refine lv_aload_n hx hb dX6_init_12 rfl (lv_at hl 0 rfl) ?_
  refine lv_bipush (v := 12) hx hb dX6_init_13 (by decide) ?_
  refine r_newI hx hb f_3 hK hw hA 12 (by decide) rfl (Nat.le_of_ble_eq_true rfl) (by rw [hRc]; exact Nat.le_of_ble_eq_true rfl) (by rw [hRs]; exact Nat.le_of_ble_eq_true rfl) dX6_init_15 (fun q_15 H hw => ?_)
  refine r_putR (T := TX6) (v := .ref q_15) (G' := ((aG c4 q_15 12 (fun _ => 0)) :: (aG c4 q_7 12 (fun _ => 0)) :: [(b, .inr (6, [.int 0, .int 0, .ref q_7, .ref q_15, .null]))] :: Ts)) hx hb hts hi6 tyX6 tyX6_ok nmX6 hown hK hw 2 rfl rfl 3 (by decide) f_5 rfl hin rfl rfl rfl rfl (Nat.le_of_ble_eq_true rfl) rfl dX6_init_17 (fun H locs hw => ?_)
  refine lv_aload_n hx hb dX6_init_20 rfl (lv_at hl 0 rfl) ?_
  refine lv_bipush (v := 12) hx hb dX6_init_21 (by decide) ?_
  refine r_newI hx hb f_3 hK hw hA 12 (by decide) rfl (Nat.le_of_ble_eq_true rfl) (by rw [hRc]; exact Nat.le_of_ble_eq_true rfl) (by rw [hRs]; exact Nat.le_of_ble_eq_true rfl) dX6_init_23 (fun q_23 H hw => ?_)
  refine r_putR (T := TX6) (v := .ref q_23) (G' := ((aG c4 q_23 12 (fun _ => 0)) :: (aG c4 q_15 12 (fun _ => 0)) :: (aG c4 q_7 12 (fun _ => 0)) :: [(b, .inr (6, [.int 0, .int 0, .ref q_7, .ref q_15, .ref q_23]))] :: Ts)) hx hb hts hi6 tyX6 tyX6_ok nmX6 hown hK hw 3 rfl rfl 4 (by decide) f_6 rfl hin rfl rfl rfl rfl (Nat.le_of_ble_eq_true rfl) rfl dX6_init_25 (fun H locs hw => ?_)
  have hw := gW.pkT [(aG c4 q_23 12 (fun _ => 0)), (aG c4 q_15 12 (fun _ => 0)), (aG c4 q_7 12 (fun _ => 0)), [(b, .inr (6, [.int 0, .int 0, .ref q_7, .ref q_15, .ref q_23]))]] hw 4 rfl [3, 2, 1, 0] (by decide +kernel)
  have hw : gW D A js.heap ([(b, .inr (6, [.int 0, .int 0, .ref q_7, .ref q_15, .ref q_23]))] :: (aG c4 q_7 12 (fun _ => 0)) :: (aG c4 q_15 12 (fun _ => 0)) :: (aG c4 q_23 12 (fun _ => 0)) :: Ts) H locs := hw
  exact kr ((fun k => ([b, q_7, q_15, q_23] : List Nat).getD k 0)) _ _ _ _ _ _ (Nat.le_of_ble_eq_true rfl) (Nat.le_of_ble_eq_true rfl) (hw.cast rfl) rfl dX6_init_28
set_option maxHeartbeats 4000000 in
set_option maxRecDepth 100000 in
theorem k_X1_init (l : Launch) (D : va_G) (c4 : Nat → ClassId) (A : Nat → Prop) (Ts : List va_W) (b : Nat) : Cn l yX1_init wsX1_init 1 12 6 70 [.ref b] D (tyA c4) A none ([(b, .inr (1, [.int 0, .int 0, .null, .null, .null, .null, .null, .null]))] :: Ts) (S := (Nat → Nat)) (fun (u : (Nat → Nat)) => u 0 = b) (fun u => ((rG c4 u 0 0 (fun _ => 0) (fun _ => 0) (fun _ => 0) (fun _ => 0) (fun _ => 0) (fun _ => 0)) :: Ts)) := by
  refine cOn (cc := cX1_init) (maxL := 1) (by decide) rfl rfl (Nat.le_of_ble_eq_true rfl) rfl ?_
  rintro jp je js jm below meth jc ls args R Q H locs hRf hRl hRc hRs ⟨hx, hb, hml, hr, hts, hown, hlocks, hK, hX⟩ hw hl hA hO hin kr
  have hown : js.vm.findClass RX1 = some jm.cls := hown
  have f_0 := hts (.methodLink RX1 3 objectInit) (by decide +kernel)
  have f_1 := hts (.instanceMethod objectInit) (by decide +kernel)
  have f_2 := hts (.code objectInit ⟨#[0xb1]⟩ 1 none) (by decide +kernel)
  have f_3 := hts (.arrayClass .int) (by decide +kernel)
  have f_4 := hts (.fieldLink RX1 11 "IceSway$Records" "boredYard" "[I") (by decide +kernel)
  have f_5 := hts (.fieldLink RX1 15 "IceSway$Records" "boredNights" "[I") (by decide +kernel)
  have f_6 := hts (.fieldLink RX1 18 "IceSway$Records" "boredCold" "[I") (by decide +kernel)
  have f_7 := hts (.fieldLink RX1 21 "IceSway$Records" "boredIce" "[I") (by decide +kernel)
  have f_8 := hts (.fieldLink RX1 24 "IceSway$Records" "entryYard" "[I") (by decide +kernel)
  have f_9 := hts (.fieldLink RX1 27 "IceSway$Records" "entryIce" "[I") (by decide +kernel)
  have hi1 : ∀ w ∈ u_ws RX1 TX1 8, w ∈ wsX1_init := fun w h => List.mem_cons_of_mem _ (List.mem_append_right _ h)
  refine lv_aload_n hx hb dX1_init_0 rfl (lv_at hl 0 rfl) ?_
  refine W.objInit hx hb hown f_0 f_1 f_2 rfl (by rw [hml]; exact hl.1) rfl dX1_init_1 (by rw [hRf]; exact Nat.le_of_ble_eq_true rfl) (by rw [hRl]; exact Nat.le_of_ble_eq_true rfl) ?_
  refine W.eq (g2 := F0 jm 4 ls []) rfl ?_
  refine lv_aload_n hx hb dX1_init_4 rfl (lv_at hl 0 rfl) ?_
  refine lv_bipush (v := 10) hx hb dX1_init_5 (by decide) ?_
  refine r_newI hx hb f_3 hK hw hA 10 (by decide) rfl (Nat.le_of_ble_eq_true rfl) (by rw [hRc]; exact Nat.le_of_ble_eq_true rfl) (by rw [hRs]; exact Nat.le_of_ble_eq_true rfl) dX1_init_7 (fun q_7 H hw => ?_)
  refine r_putR (T := TX1) (v := .ref q_7) (G' := ((aG c4 q_7 10 (fun _ => 0)) :: [(b, .inr (1, [.int 0, .int 0, .ref q_7, .null, .null, .null, .null, .null]))] :: Ts)) hx hb hts hi1 tyX1 tyX1_ok nmX1 hown hK hw 1 rfl rfl 2 (by decide) f_4 rfl hin rfl rfl rfl rfl (Nat.le_of_ble_eq_true rfl) rfl dX1_init_9 (fun H locs hw => ?_)
  refine lv_aload_n hx hb dX1_init_12 rfl (lv_at hl 0 rfl) ?_
  refine lv_bipush (v := 10) hx hb dX1_init_13 (by decide) ?_
  refine r_newI hx hb f_3 hK hw hA 10 (by decide) rfl (Nat.le_of_ble_eq_true rfl) (by rw [hRc]; exact Nat.le_of_ble_eq_true rfl) (by rw [hRs]; exact Nat.le_of_ble_eq_true rfl) dX1_init_15 (fun q_15 H hw => ?_)
  refine r_putR (T := TX1) (v := .ref q_15) (G' := ((aG c4 q_15 10 (fun _ => 0)) :: (aG c4 q_7 10 (fun _ => 0)) :: [(b, .inr (1, [.int 0, .int 0, .ref q_7, .ref q_15, .null, .null, .null, .null]))] :: Ts)) hx hb hts hi1 tyX1 tyX1_ok nmX1 hown hK hw 2 rfl rfl 3 (by decide) f_5 rfl hin rfl rfl rfl rfl (Nat.le_of_ble_eq_true rfl) rfl dX1_init_17 (fun H locs hw => ?_)
  refine lv_aload_n hx hb dX1_init_20 rfl (lv_at hl 0 rfl) ?_
  refine lv_bipush (v := 10) hx hb dX1_init_21 (by decide) ?_
  refine r_newI hx hb f_3 hK hw hA 10 (by decide) rfl (Nat.le_of_ble_eq_true rfl) (by rw [hRc]; exact Nat.le_of_ble_eq_true rfl) (by rw [hRs]; exact Nat.le_of_ble_eq_true rfl) dX1_init_23 (fun q_23 H hw => ?_)
  refine r_putR (T := TX1) (v := .ref q_23) (G' := ((aG c4 q_23 10 (fun _ => 0)) :: (aG c4 q_15 10 (fun _ => 0)) :: (aG c4 q_7 10 (fun _ => 0)) :: [(b, .inr (1, [.int 0, .int 0, .ref q_7, .ref q_15, .ref q_23, .null, .null, .null]))] :: Ts)) hx hb hts hi1 tyX1 tyX1_ok nmX1 hown hK hw 3 rfl rfl 4 (by decide) f_6 rfl hin rfl rfl rfl rfl (Nat.le_of_ble_eq_true rfl) rfl dX1_init_25 (fun H locs hw => ?_)
  refine lv_aload_n hx hb dX1_init_28 rfl (lv_at hl 0 rfl) ?_
  refine lv_bipush (v := 10) hx hb dX1_init_29 (by decide) ?_
  refine r_newI hx hb f_3 hK hw hA 10 (by decide) rfl (Nat.le_of_ble_eq_true rfl) (by rw [hRc]; exact Nat.le_of_ble_eq_true rfl) (by rw [hRs]; exact Nat.le_of_ble_eq_true rfl) dX1_init_31 (fun q_31 H hw => ?_)
  refine r_putR (T := TX1) (v := .ref q_31) (G' := ((aG c4 q_31 10 (fun _ => 0)) :: (aG c4 q_23 10 (fun _ => 0)) :: (aG c4 q_15 10 (fun _ => 0)) :: (aG c4 q_7 10 (fun _ => 0)) :: [(b, .inr (1, [.int 0, .int 0, .ref q_7, .ref q_15, .ref q_23, .ref q_31, .null, .null]))] :: Ts)) hx hb hts hi1 tyX1 tyX1_ok nmX1 hown hK hw 4 rfl rfl 5 (by decide) f_7 rfl hin rfl rfl rfl rfl (Nat.le_of_ble_eq_true rfl) rfl dX1_init_33 (fun H locs hw => ?_)
  refine lv_aload_n hx hb dX1_init_36 rfl (lv_at hl 0 rfl) ?_
  refine lv_bipush (v := 15) hx hb dX1_init_37 (by decide) ?_
  refine r_newI hx hb f_3 hK hw hA 15 (by decide) rfl (Nat.le_of_ble_eq_true rfl) (by rw [hRc]; exact Nat.le_of_ble_eq_true rfl) (by rw [hRs]; exact Nat.le_of_ble_eq_true rfl) dX1_init_39 (fun q_39 H hw => ?_)
  refine r_putR (T := TX1) (v := .ref q_39) (G' := ((aG c4 q_39 15 (fun _ => 0)) :: (aG c4 q_31 10 (fun _ => 0)) :: (aG c4 q_23 10 (fun _ => 0)) :: (aG c4 q_15 10 (fun _ => 0)) :: (aG c4 q_7 10 (fun _ => 0)) :: [(b, .inr (1, [.int 0, .int 0, .ref q_7, .ref q_15, .ref q_23, .ref q_31, .ref q_39, .null]))] :: Ts)) hx hb hts hi1 tyX1 tyX1_ok nmX1 hown hK hw 5 rfl rfl 6 (by decide) f_8 rfl hin rfl rfl rfl rfl (Nat.le_of_ble_eq_true rfl) rfl dX1_init_41 (fun H locs hw => ?_)
  refine lv_aload_n hx hb dX1_init_44 rfl (lv_at hl 0 rfl) ?_
  refine lv_bipush (v := 15) hx hb dX1_init_45 (by decide) ?_
  refine r_newI hx hb f_3 hK hw hA 15 (by decide) rfl (Nat.le_of_ble_eq_true rfl) (by rw [hRc]; exact Nat.le_of_ble_eq_true rfl) (by rw [hRs]; exact Nat.le_of_ble_eq_true rfl) dX1_init_47 (fun q_47 H hw => ?_)
  refine r_putR (T := TX1) (v := .ref q_47) (G' := ((aG c4 q_47 15 (fun _ => 0)) :: (aG c4 q_39 15 (fun _ => 0)) :: (aG c4 q_31 10 (fun _ => 0)) :: (aG c4 q_23 10 (fun _ => 0)) :: (aG c4 q_15 10 (fun _ => 0)) :: (aG c4 q_7 10 (fun _ => 0)) :: [(b, .inr (1, [.int 0, .int 0, .ref q_7, .ref q_15, .ref q_23, .ref q_31, .ref q_39, .ref q_47]))] :: Ts)) hx hb hts hi1 tyX1 tyX1_ok nmX1 hown hK hw 6 rfl rfl 7 (by decide) f_9 rfl hin rfl rfl rfl rfl (Nat.le_of_ble_eq_true rfl) rfl dX1_init_49 (fun H locs hw => ?_)
  have hw := gW.pkT [(aG c4 q_47 15 (fun _ => 0)), (aG c4 q_39 15 (fun _ => 0)), (aG c4 q_31 10 (fun _ => 0)), (aG c4 q_23 10 (fun _ => 0)), (aG c4 q_15 10 (fun _ => 0)), (aG c4 q_7 10 (fun _ => 0)), [(b, .inr (1, [.int 0, .int 0, .ref q_7, .ref q_15, .ref q_23, .ref q_31, .ref q_39, .ref q_47]))]] hw 7 rfl [6, 5, 4, 3, 2, 1, 0] (by decide +kernel)
  have hw : gW D A js.heap ([(b, .inr (1, [.int 0, .int 0, .ref q_7, .ref q_15, .ref q_23, .ref q_31, .ref q_39, .ref q_47]))] :: (aG c4 q_7 10 (fun _ => 0)) :: (aG c4 q_15 10 (fun _ => 0)) :: (aG c4 q_23 10 (fun _ => 0)) :: (aG c4 q_31 10 (fun _ => 0)) :: (aG c4 q_39 15 (fun _ => 0)) :: (aG c4 q_47 15 (fun _ => 0)) :: Ts) H locs := hw
  exact kr ((fun k => ([b, q_7, q_15, q_23, q_31, q_39, q_47] : List Nat).getD k 0)) _ _ _ _ _ _ (Nat.le_of_ble_eq_true rfl) (Nat.le_of_ble_eq_true rfl) (hw.cast rfl) rfl dX1_init_52
set_option maxHeartbeats 4000000 in
set_option maxRecDepth 100000 in
theorem k_X3_init (l : Launch) (D : va_G) (c4 : Nat → ClassId) (A : Nat → Prop) (Ts : List va_W) (b : Nat) : Cn l yX3_init wsX3_init 1 12 4 263 [.ref b] D (tyA c4) A none ([(b, .inr (3, [.null, .int 0, .null, .null, .null, .int 0, .int 0, .int 0, .int 0, .int 0]))] :: Ts) (S := (Nat → Nat)) (fun (u : (Nat → Nat)) => u 0 = b) (fun u => ((xG c4 u 0 0 0 (-1) 0 0 (fun _ => 0) (fun _ => 0) (fun _ => 0) (fun _ => 0)) :: Ts)) := by
  refine cOn (cc := cX3_init) (maxL := 1) (by decide) rfl rfl (Nat.le_of_ble_eq_true rfl) rfl ?_
  rintro jp je js jm below meth jc ls args R Q H locs hRf hRl hRc hRs ⟨hx, hb, hml, hr, hts, hown, hlocks, hK, hX⟩ hw hl hA hO hin kr
  have hown : js.vm.findClass RX3 = some jm.cls := hown
  have f_0 := hts (.methodLink RX3 3 objectInit) (by decide +kernel)
  have f_1 := hts (.instanceMethod objectInit) (by decide +kernel)
  have f_2 := hts (.code objectInit ⟨#[0xb1]⟩ 1 none) (by decide +kernel)
  have f_3 := hts (.arrayClass .int) (by decide +kernel)
  have f_4 := hts (.fieldLink RX3 11 "IceSway$Text" "letters" "[I") (by decide +kernel)
  have f_5 := hts (.fieldLink RX3 17 "IceSway$Text" "numbers" "[I") (by decide +kernel)
  have f_6 := hts (.fieldLink RX3 22 "IceSway$Text" "yardKinds" "[I") (by decide +kernel)
  have f_7 := hts (.fieldLink RX3 25 "IceSway$Text" "yardIce" "[I") (by decide +kernel)
  have f_8 := hts (.fieldLink RX3 28 "IceSway$Text" "faultPlace" "I") (by decide +kernel)
  have hi3 : ∀ w ∈ u_ws RX3 TX3 10, w ∈ wsX3_init := fun w h => List.mem_cons_of_mem _ (List.mem_append_right _ h)
  refine lv_aload_n hx hb dX3_init_0 rfl (lv_at hl 0 rfl) ?_
  refine W.objInit hx hb hown f_0 f_1 f_2 rfl (by rw [hml]; exact hl.1) rfl dX3_init_1 (by rw [hRf]; exact Nat.le_of_ble_eq_true rfl) (by rw [hRl]; exact Nat.le_of_ble_eq_true rfl) ?_
  refine W.eq (g2 := F0 jm 4 ls []) rfl ?_
  refine lv_aload_n hx hb dX3_init_4 rfl (lv_at hl 0 rfl) ?_
  refine lv_sipush (v := 230) hx hb dX3_init_5 (by decide) ?_
  refine r_newI hx hb f_3 hK hw hA 230 (by decide) rfl (Nat.le_of_ble_eq_true rfl) (by rw [hRc]; exact Nat.le_of_ble_eq_true rfl) (by rw [hRs]; exact Nat.le_of_ble_eq_true rfl) dX3_init_8 (fun q_8 H hw => ?_)
  refine r_putR (T := TX3) (v := .ref q_8) (G' := ((aG c4 q_8 230 (fun _ => 0)) :: [(b, .inr (3, [.ref q_8, .int 0, .null, .null, .null, .int 0, .int 0, .int 0, .int 0, .int 0]))] :: Ts)) hx hb hts hi3 tyX3 tyX3_ok nmX3 hown hK hw 1 rfl rfl 0 (by decide) f_4 rfl hin rfl rfl rfl rfl (Nat.le_of_ble_eq_true rfl) rfl dX3_init_10 (fun H locs hw => ?_)
  refine lv_aload_n hx hb dX3_init_13 rfl (lv_at hl 0 rfl) ?_
  refine lv_bipush (v := 9) hx hb dX3_init_14 (by decide) ?_
  refine r_newI hx hb f_3 hK hw hA 9 (by decide) rfl (Nat.le_of_ble_eq_true rfl) (by rw [hRc]; exact Nat.le_of_ble_eq_true rfl) (by rw [hRs]; exact Nat.le_of_ble_eq_true rfl) dX3_init_16 (fun q_16 H hw => ?_)
  refine r_putR (T := TX3) (v := .ref q_16) (G' := ((aG c4 q_16 9 (fun _ => 0)) :: (aG c4 q_8 230 (fun _ => 0)) :: [(b, .inr (3, [.ref q_8, .int 0, .ref q_16, .null, .null, .int 0, .int 0, .int 0, .int 0, .int 0]))] :: Ts)) hx hb hts hi3 tyX3 tyX3_ok nmX3 hown hK hw 2 rfl rfl 2 (by decide) f_5 rfl hin rfl rfl rfl rfl (Nat.le_of_ble_eq_true rfl) rfl dX3_init_18 (fun H locs hw => ?_)
  refine lv_aload_n hx hb dX3_init_21 rfl (lv_at hl 0 rfl) ?_
  refine lv_bipush (v := 12) hx hb dX3_init_22 (by decide) ?_
  refine r_newI hx hb f_3 hK hw hA 12 (by decide) rfl (Nat.le_of_ble_eq_true rfl) (by rw [hRc]; exact Nat.le_of_ble_eq_true rfl) (by rw [hRs]; exact Nat.le_of_ble_eq_true rfl) dX3_init_24 (fun q_24 H hw => ?_)
  refine r_putR (T := TX3) (v := .ref q_24) (G' := ((aG c4 q_24 12 (fun _ => 0)) :: (aG c4 q_16 9 (fun _ => 0)) :: (aG c4 q_8 230 (fun _ => 0)) :: [(b, .inr (3, [.ref q_8, .int 0, .ref q_16, .ref q_24, .null, .int 0, .int 0, .int 0, .int 0, .int 0]))] :: Ts)) hx hb hts hi3 tyX3 tyX3_ok nmX3 hown hK hw 3 rfl rfl 3 (by decide) f_6 rfl hin rfl rfl rfl rfl (Nat.le_of_ble_eq_true rfl) rfl dX3_init_26 (fun H locs hw => ?_)
  refine lv_aload_n hx hb dX3_init_29 rfl (lv_at hl 0 rfl) ?_
  refine lv_bipush (v := 12) hx hb dX3_init_30 (by decide) ?_
  refine r_newI hx hb f_3 hK hw hA 12 (by decide) rfl (Nat.le_of_ble_eq_true rfl) (by rw [hRc]; exact Nat.le_of_ble_eq_true rfl) (by rw [hRs]; exact Nat.le_of_ble_eq_true rfl) dX3_init_32 (fun q_32 H hw => ?_)
  refine r_putR (T := TX3) (v := .ref q_32) (G' := ((aG c4 q_32 12 (fun _ => 0)) :: (aG c4 q_24 12 (fun _ => 0)) :: (aG c4 q_16 9 (fun _ => 0)) :: (aG c4 q_8 230 (fun _ => 0)) :: [(b, .inr (3, [.ref q_8, .int 0, .ref q_16, .ref q_24, .ref q_32, .int 0, .int 0, .int 0, .int 0, .int 0]))] :: Ts)) hx hb hts hi3 tyX3 tyX3_ok nmX3 hown hK hw 4 rfl rfl 4 (by decide) f_7 rfl hin rfl rfl rfl rfl (Nat.le_of_ble_eq_true rfl) rfl dX3_init_34 (fun H locs hw => ?_)
  refine lv_aload_n hx hb dX3_init_37 rfl (lv_at hl 0 rfl) ?_
  refine lv_iconst (v := (-1)) hx hb dX3_init_38 (by decide) ?_
  refine r_put (T := TX3) (G' := ((aG c4 q_32 12 (fun _ => 0)) :: (aG c4 q_24 12 (fun _ => 0)) :: (aG c4 q_16 9 (fun _ => 0)) :: (aG c4 q_8 230 (fun _ => 0)) :: [(b, .inr (3, [.ref q_8, .int 0, .ref q_16, .ref q_24, .ref q_32, .int 0, .int 0, .int (-1), .int 0, .int 0]))] :: Ts)) hx hb hts hi3 tyX3 tyX3_ok nmX3 hown hK hw 4 rfl rfl 7 (by decide) f_8 rfl rfl (Nat.le_of_ble_eq_true rfl) rfl dX3_init_39 (fun H locs hw => ?_)
  have hw := gW.pkT [(aG c4 q_32 12 (fun _ => 0)), (aG c4 q_24 12 (fun _ => 0)), (aG c4 q_16 9 (fun _ => 0)), (aG c4 q_8 230 (fun _ => 0)), [(b, .inr (3, [.ref q_8, .int 0, .ref q_16, .ref q_24, .ref q_32, .int 0, .int 0, .int (-1), .int 0, .int 0]))]] hw 5 rfl [4, 3, 2, 1, 0] (by decide +kernel)
  have hw : gW D A js.heap ([(b, .inr (3, [.ref q_8, .int 0, .ref q_16, .ref q_24, .ref q_32, .int 0, .int 0, .int (-1), .int 0, .int 0]))] :: (aG c4 q_8 230 (fun _ => 0)) :: (aG c4 q_16 9 (fun _ => 0)) :: (aG c4 q_24 12 (fun _ => 0)) :: (aG c4 q_32 12 (fun _ => 0)) :: Ts) H locs := hw
  exact kr ((fun k => ([b, q_8, q_16, q_24, q_32] : List Nat).getD k 0)) _ _ _ _ _ _ (Nat.le_of_ble_eq_true rfl) (Nat.le_of_ble_eq_true rfl) (hw.cast rfl) rfl dX3_init_42
set_option maxHeartbeats 4000000 in
set_option maxRecDepth 100000 in
theorem k_X0_init (l : Launch) (D : va_G) (c4 : Nat → ClassId) (A : Nat → Prop) (Ts : List va_W) (t : Nat → Nat) (b : Nat) : Cn l yX0_init wsX0_init 1 12 1 9 [.ref b] D (tyA c4) A (some t) ([(b, .inr (0, [.null]))] :: Ts) (S := (Nat → Nat) × (Nat → Int32)) (fun (u : (Nat → Nat) × (Nat → Int32)) => (u.1 0 = b) ∧ (∀ j, j < 9 → u.2 j = tbU.getD j 0)) (fun u => ((bG c4 u.1 u.2) :: Ts)) := by
  refine cOn (cc := cX0_init) (maxL := 2) (by decide) rfl rfl (Nat.le_of_ble_eq_true rfl) rfl ?_
  rintro jp je js jm below meth jc ls args R Q H locs hRf hRl hRc hRs ⟨hx, hb, hml, hr, hts, hown, hlocks, hK, hX⟩ hw hl hA hO hin kr
  have hown : js.vm.findClass RX0 = some jm.cls := hown
  have f_0 := hts (.methodLink RX0 1 objectInit) (by decide +kernel)
  have f_1 := hts (.instanceMethod objectInit) (by decide +kernel)
  have f_2 := hts (.code objectInit ⟨#[0xb1]⟩ 1 none) (by decide +kernel)
  have f_3 := hts (.arrayClass .int) (by decide +kernel)
  have f_4 := hts (.fieldLink RX0 9 "IceSway$Boat" "numbers" "[I") (by decide +kernel)
  have f_5 := hts (.fieldLink RX0 13 "IceSway$Boat" "UNTOLD" "[I") (by decide +kernel)
  have hi0 : ∀ w ∈ u_ws RX0 TX0 1, w ∈ wsX0_init := fun w h => List.mem_cons_of_mem _ (List.mem_append_right _ h)
  refine lv_aload_n hx hb dX0_init_0 rfl (lv_at hl 0 rfl) ?_
  refine W.objInit hx hb hown f_0 f_1 f_2 rfl (by rw [hml]; exact hl.1) rfl dX0_init_1 (by rw [hRf]; exact Nat.le_of_ble_eq_true rfl) (by rw [hRl]; exact Nat.le_of_ble_eq_true rfl) ?_
  refine W.eq (g2 := F0 jm 4 ls []) rfl ?_
  refine lv_aload_n hx hb dX0_init_4 rfl (lv_at hl 0 rfl) ?_
  refine lv_bipush (v := 9) hx hb dX0_init_5 (by decide) ?_
  refine r_newI hx hb f_3 hK hw hA 9 (by decide) rfl (Nat.le_of_ble_eq_true rfl) (by rw [hRc]; exact Nat.le_of_ble_eq_true rfl) (by rw [hRs]; exact Nat.le_of_ble_eq_true rfl) dX0_init_7 (fun q_7 H hw => ?_)
  refine r_putR (T := TX0) (v := .ref q_7) (G' := ((aG c4 q_7 9 (fun _ => 0)) :: [(b, .inr (0, [.ref q_7]))] :: Ts)) hx hb hts hi0 tyX0 tyX0_ok nmX0 hown hK hw 1 rfl rfl 0 (by decide) f_4 rfl hin rfl rfl rfl rfl (Nat.le_of_ble_eq_true rfl) rfl dX0_init_9 (fun H locs hw => ?_)
  refine lv_iconst (v := 0) hx hb dX0_init_12 (by decide) ?_
  refine lv_istore_n (lv' := [(1, .int 0), (0, .ref b)]) hx hb dX0_init_13 rfl hl (by decide) rfl (fun ls hl => ?_)
  refine lv_iload_n hx hb dX0_init_14 rfl (lv_at hl 0 rfl) ?_
  refine lv_bipush (v := 9) hx hb dX0_init_15 (by decide) ?_
  refine lv_icmp_ge (tgt := 37) hx hb dX0_init_17 (by decide) (fun c_17 => ?_) (fun c_17 => ?_)
  · exact absurd c_17 (by decide)
  · refine lv_aload_n hx hb dX0_init_20 rfl (lv_at hl 1 rfl) ?_
    refine r_get (T := TX0) (v := .ref q_7) hx hb hts hi0 hown hK hw 1 rfl rfl 0 (by decide) f_4 rfl dX0_init_21 ?_
    refine lv_iload_n hx hb dX0_init_24 rfl (lv_at hl 0 rfl) ?_
    refine r_gets (v := .ref (t 0)) hx hb hX.2.1.1 hw hown f_5 dX0_init_25 ?_
    refine lv_iload_n hx hb dX0_init_28 rfl (lv_at hl 0 rfl) ?_
    refine r_tab hx hb hX.2.1.2 hw 0 (by decide) (by decide) dX0_init_29 ?_
    refine r_iast (G' := ((aG c4 q_7 9 (upd (fun _ => 0) 0 (tbU.getD 0 0))) :: [(b, .inr (0, [.ref q_7]))] :: Ts)) hx hb hK hw 0 0 rfl rfl 0 (by decide) (by decide) rfl dX0_init_30 (fun H locs hw => ?_)
    refine lv_iinc (v := 1) (lv' := [(1, .int 1), (0, .ref b)]) hx hb dX0_init_31 hl (k := 0) rfl rfl (by decide) rfl (fun ls hl => ?_)
    refine lv_goto (tgt := 14) hx hb dX0_init_34 (by decide) ?_
    refine lv_iload_n hx hb dX0_init_14 rfl (lv_at hl 0 rfl) ?_
    refine lv_bipush (v := 9) hx hb dX0_init_15 (by decide) ?_
    refine lv_icmp_ge (tgt := 37) hx hb dX0_init_17 (by decide) (fun c_17 => ?_) (fun c_17 => ?_)
    · exact absurd c_17 (by decide)
    · refine lv_aload_n hx hb dX0_init_20 rfl (lv_at hl 1 rfl) ?_
      refine r_get (T := TX0) (v := .ref q_7) hx hb hts hi0 hown hK hw 1 rfl rfl 0 (by decide) f_4 rfl dX0_init_21 ?_
      refine lv_iload_n hx hb dX0_init_24 rfl (lv_at hl 0 rfl) ?_
      refine r_gets (v := .ref (t 0)) hx hb hX.2.1.1 hw hown f_5 dX0_init_25 ?_
      refine lv_iload_n hx hb dX0_init_28 rfl (lv_at hl 0 rfl) ?_
      refine r_tab hx hb hX.2.1.2 hw 1 (by decide) (by decide) dX0_init_29 ?_
      refine r_iast (G' := ((aG c4 q_7 9 (upd (upd (fun _ => 0) 0 (tbU.getD 0 0)) 1 (tbU.getD 1 0))) :: [(b, .inr (0, [.ref q_7]))] :: Ts)) hx hb hK hw 0 0 rfl rfl 1 (by decide) (by decide) rfl dX0_init_30 (fun H locs hw => ?_)
      refine lv_iinc (v := 2) (lv' := [(1, .int 2), (0, .ref b)]) hx hb dX0_init_31 hl (k := 0) rfl rfl (by decide) rfl (fun ls hl => ?_)
      refine lv_goto (tgt := 14) hx hb dX0_init_34 (by decide) ?_
      refine lv_iload_n hx hb dX0_init_14 rfl (lv_at hl 0 rfl) ?_
      refine lv_bipush (v := 9) hx hb dX0_init_15 (by decide) ?_
      refine lv_icmp_ge (tgt := 37) hx hb dX0_init_17 (by decide) (fun c_17 => ?_) (fun c_17 => ?_)
      · exact absurd c_17 (by decide)
      · refine lv_aload_n hx hb dX0_init_20 rfl (lv_at hl 1 rfl) ?_
        refine r_get (T := TX0) (v := .ref q_7) hx hb hts hi0 hown hK hw 1 rfl rfl 0 (by decide) f_4 rfl dX0_init_21 ?_
        refine lv_iload_n hx hb dX0_init_24 rfl (lv_at hl 0 rfl) ?_
        refine r_gets (v := .ref (t 0)) hx hb hX.2.1.1 hw hown f_5 dX0_init_25 ?_
        refine lv_iload_n hx hb dX0_init_28 rfl (lv_at hl 0 rfl) ?_
        refine r_tab hx hb hX.2.1.2 hw 2 (by decide) (by decide) dX0_init_29 ?_
        refine r_iast (G' := ((aG c4 q_7 9 (upd (upd (upd (fun _ => 0) 0 (tbU.getD 0 0)) 1 (tbU.getD 1 0)) 2 (tbU.getD 2 0))) :: [(b, .inr (0, [.ref q_7]))] :: Ts)) hx hb hK hw 0 0 rfl rfl 2 (by decide) (by decide) rfl dX0_init_30 (fun H locs hw => ?_)
        refine lv_iinc (v := 3) (lv' := [(1, .int 3), (0, .ref b)]) hx hb dX0_init_31 hl (k := 0) rfl rfl (by decide) rfl (fun ls hl => ?_)
        refine lv_goto (tgt := 14) hx hb dX0_init_34 (by decide) ?_
        refine lv_iload_n hx hb dX0_init_14 rfl (lv_at hl 0 rfl) ?_
        refine lv_bipush (v := 9) hx hb dX0_init_15 (by decide) ?_
        refine lv_icmp_ge (tgt := 37) hx hb dX0_init_17 (by decide) (fun c_17 => ?_) (fun c_17 => ?_)
        · exact absurd c_17 (by decide)
        · refine lv_aload_n hx hb dX0_init_20 rfl (lv_at hl 1 rfl) ?_
          refine r_get (T := TX0) (v := .ref q_7) hx hb hts hi0 hown hK hw 1 rfl rfl 0 (by decide) f_4 rfl dX0_init_21 ?_
          refine lv_iload_n hx hb dX0_init_24 rfl (lv_at hl 0 rfl) ?_
          refine r_gets (v := .ref (t 0)) hx hb hX.2.1.1 hw hown f_5 dX0_init_25 ?_
          refine lv_iload_n hx hb dX0_init_28 rfl (lv_at hl 0 rfl) ?_
          refine r_tab hx hb hX.2.1.2 hw 3 (by decide) (by decide) dX0_init_29 ?_
          refine r_iast (G' := ((aG c4 q_7 9 (upd (upd (upd (upd (fun _ => 0) 0 (tbU.getD 0 0)) 1 (tbU.getD 1 0)) 2 (tbU.getD 2 0)) 3 (tbU.getD 3 0))) :: [(b, .inr (0, [.ref q_7]))] :: Ts)) hx hb hK hw 0 0 rfl rfl 3 (by decide) (by decide) rfl dX0_init_30 (fun H locs hw => ?_)
          refine lv_iinc (v := 4) (lv' := [(1, .int 4), (0, .ref b)]) hx hb dX0_init_31 hl (k := 0) rfl rfl (by decide) rfl (fun ls hl => ?_)
          refine lv_goto (tgt := 14) hx hb dX0_init_34 (by decide) ?_
          refine lv_iload_n hx hb dX0_init_14 rfl (lv_at hl 0 rfl) ?_
          refine lv_bipush (v := 9) hx hb dX0_init_15 (by decide) ?_
          refine lv_icmp_ge (tgt := 37) hx hb dX0_init_17 (by decide) (fun c_17 => ?_) (fun c_17 => ?_)
          · exact absurd c_17 (by decide)
          · refine lv_aload_n hx hb dX0_init_20 rfl (lv_at hl 1 rfl) ?_
            refine r_get (T := TX0) (v := .ref q_7) hx hb hts hi0 hown hK hw 1 rfl rfl 0 (by decide) f_4 rfl dX0_init_21 ?_
            refine lv_iload_n hx hb dX0_init_24 rfl (lv_at hl 0 rfl) ?_
            refine r_gets (v := .ref (t 0)) hx hb hX.2.1.1 hw hown f_5 dX0_init_25 ?_
            refine lv_iload_n hx hb dX0_init_28 rfl (lv_at hl 0 rfl) ?_
            refine r_tab hx hb hX.2.1.2 hw 4 (by decide) (by decide) dX0_init_29 ?_
            refine r_iast (G' := ((aG c4 q_7 9 (upd (upd (upd (upd (upd (fun _ => 0) 0 (tbU.getD 0 0)) 1 (tbU.getD 1 0)) 2 (tbU.getD 2 0)) 3 (tbU.getD 3 0)) 4 (tbU.getD 4 0))) :: [(b, .inr (0, [.ref q_7]))] :: Ts)) hx hb hK hw 0 0 rfl rfl 4 (by decide) (by decide) rfl dX0_init_30 (fun H locs hw => ?_)
            refine lv_iinc (v := 5) (lv' := [(1, .int 5), (0, .ref b)]) hx hb dX0_init_31 hl (k := 0) rfl rfl (by decide) rfl (fun ls hl => ?_)
            refine lv_goto (tgt := 14) hx hb dX0_init_34 (by decide) ?_
            refine lv_iload_n hx hb dX0_init_14 rfl (lv_at hl 0 rfl) ?_
            refine lv_bipush (v := 9) hx hb dX0_init_15 (by decide) ?_
            refine lv_icmp_ge (tgt := 37) hx hb dX0_init_17 (by decide) (fun c_17 => ?_) (fun c_17 => ?_)
            · exact absurd c_17 (by decide)
            · refine lv_aload_n hx hb dX0_init_20 rfl (lv_at hl 1 rfl) ?_
              refine r_get (T := TX0) (v := .ref q_7) hx hb hts hi0 hown hK hw 1 rfl rfl 0 (by decide) f_4 rfl dX0_init_21 ?_
              refine lv_iload_n hx hb dX0_init_24 rfl (lv_at hl 0 rfl) ?_
              refine r_gets (v := .ref (t 0)) hx hb hX.2.1.1 hw hown f_5 dX0_init_25 ?_
              refine lv_iload_n hx hb dX0_init_28 rfl (lv_at hl 0 rfl) ?_
              refine r_tab hx hb hX.2.1.2 hw 5 (by decide) (by decide) dX0_init_29 ?_
              refine r_iast (G' := ((aG c4 q_7 9 (upd (upd (upd (upd (upd (upd (fun _ => 0) 0 (tbU.getD 0 0)) 1 (tbU.getD 1 0)) 2 (tbU.getD 2 0)) 3 (tbU.getD 3 0)) 4 (tbU.getD 4 0)) 5 (tbU.getD 5 0))) :: [(b, .inr (0, [.ref q_7]))] :: Ts)) hx hb hK hw 0 0 rfl rfl 5 (by decide) (by decide) rfl dX0_init_30 (fun H locs hw => ?_)
              refine lv_iinc (v := 6) (lv' := [(1, .int 6), (0, .ref b)]) hx hb dX0_init_31 hl (k := 0) rfl rfl (by decide) rfl (fun ls hl => ?_)
              refine lv_goto (tgt := 14) hx hb dX0_init_34 (by decide) ?_
              refine lv_iload_n hx hb dX0_init_14 rfl (lv_at hl 0 rfl) ?_
              refine lv_bipush (v := 9) hx hb dX0_init_15 (by decide) ?_
              refine lv_icmp_ge (tgt := 37) hx hb dX0_init_17 (by decide) (fun c_17 => ?_) (fun c_17 => ?_)
              · exact absurd c_17 (by decide)
              · refine lv_aload_n hx hb dX0_init_20 rfl (lv_at hl 1 rfl) ?_
                refine r_get (T := TX0) (v := .ref q_7) hx hb hts hi0 hown hK hw 1 rfl rfl 0 (by decide) f_4 rfl dX0_init_21 ?_
                refine lv_iload_n hx hb dX0_init_24 rfl (lv_at hl 0 rfl) ?_
                refine r_gets (v := .ref (t 0)) hx hb hX.2.1.1 hw hown f_5 dX0_init_25 ?_
                refine lv_iload_n hx hb dX0_init_28 rfl (lv_at hl 0 rfl) ?_
                refine r_tab hx hb hX.2.1.2 hw 6 (by decide) (by decide) dX0_init_29 ?_
                refine r_iast (G' := ((aG c4 q_7 9 (upd (upd (upd (upd (upd (upd (upd (fun _ => 0) 0 (tbU.getD 0 0)) 1 (tbU.getD 1 0)) 2 (tbU.getD 2 0)) 3 (tbU.getD 3 0)) 4 (tbU.getD 4 0)) 5 (tbU.getD 5 0)) 6 (tbU.getD 6 0))) :: [(b, .inr (0, [.ref q_7]))] :: Ts)) hx hb hK hw 0 0 rfl rfl 6 (by decide) (by decide) rfl dX0_init_30 (fun H locs hw => ?_)
                refine lv_iinc (v := 7) (lv' := [(1, .int 7), (0, .ref b)]) hx hb dX0_init_31 hl (k := 0) rfl rfl (by decide) rfl (fun ls hl => ?_)
                refine lv_goto (tgt := 14) hx hb dX0_init_34 (by decide) ?_
                refine lv_iload_n hx hb dX0_init_14 rfl (lv_at hl 0 rfl) ?_
                refine lv_bipush (v := 9) hx hb dX0_init_15 (by decide) ?_
                refine lv_icmp_ge (tgt := 37) hx hb dX0_init_17 (by decide) (fun c_17 => ?_) (fun c_17 => ?_)
                · exact absurd c_17 (by decide)
                · refine lv_aload_n hx hb dX0_init_20 rfl (lv_at hl 1 rfl) ?_
                  refine r_get (T := TX0) (v := .ref q_7) hx hb hts hi0 hown hK hw 1 rfl rfl 0 (by decide) f_4 rfl dX0_init_21 ?_
                  refine lv_iload_n hx hb dX0_init_24 rfl (lv_at hl 0 rfl) ?_
                  refine r_gets (v := .ref (t 0)) hx hb hX.2.1.1 hw hown f_5 dX0_init_25 ?_
                  refine lv_iload_n hx hb dX0_init_28 rfl (lv_at hl 0 rfl) ?_
                  refine r_tab hx hb hX.2.1.2 hw 7 (by decide) (by decide) dX0_init_29 ?_
                  refine r_iast (G' := ((aG c4 q_7 9 (upd (upd (upd (upd (upd (upd (upd (upd (fun _ => 0) 0 (tbU.getD 0 0)) 1 (tbU.getD 1 0)) 2 (tbU.getD 2 0)) 3 (tbU.getD 3 0)) 4 (tbU.getD 4 0)) 5 (tbU.getD 5 0)) 6 (tbU.getD 6 0)) 7 (tbU.getD 7 0))) :: [(b, .inr (0, [.ref q_7]))] :: Ts)) hx hb hK hw 0 0 rfl rfl 7 (by decide) (by decide) rfl dX0_init_30 (fun H locs hw => ?_)
                  refine lv_iinc (v := 8) (lv' := [(1, .int 8), (0, .ref b)]) hx hb dX0_init_31 hl (k := 0) rfl rfl (by decide) rfl (fun ls hl => ?_)
                  refine lv_goto (tgt := 14) hx hb dX0_init_34 (by decide) ?_
                  refine lv_iload_n hx hb dX0_init_14 rfl (lv_at hl 0 rfl) ?_
                  refine lv_bipush (v := 9) hx hb dX0_init_15 (by decide) ?_
                  refine lv_icmp_ge (tgt := 37) hx hb dX0_init_17 (by decide) (fun c_17 => ?_) (fun c_17 => ?_)
                  · exact absurd c_17 (by decide)
                  · refine lv_aload_n hx hb dX0_init_20 rfl (lv_at hl 1 rfl) ?_
                    refine r_get (T := TX0) (v := .ref q_7) hx hb hts hi0 hown hK hw 1 rfl rfl 0 (by decide) f_4 rfl dX0_init_21 ?_
                    refine lv_iload_n hx hb dX0_init_24 rfl (lv_at hl 0 rfl) ?_
                    refine r_gets (v := .ref (t 0)) hx hb hX.2.1.1 hw hown f_5 dX0_init_25 ?_
                    refine lv_iload_n hx hb dX0_init_28 rfl (lv_at hl 0 rfl) ?_
                    refine r_tab hx hb hX.2.1.2 hw 8 (by decide) (by decide) dX0_init_29 ?_
                    refine r_iast (G' := ((aG c4 q_7 9 (upd (upd (upd (upd (upd (upd (upd (upd (upd (fun _ => 0) 0 (tbU.getD 0 0)) 1 (tbU.getD 1 0)) 2 (tbU.getD 2 0)) 3 (tbU.getD 3 0)) 4 (tbU.getD 4 0)) 5 (tbU.getD 5 0)) 6 (tbU.getD 6 0)) 7 (tbU.getD 7 0)) 8 (tbU.getD 8 0))) :: [(b, .inr (0, [.ref q_7]))] :: Ts)) hx hb hK hw 0 0 rfl rfl 8 (by decide) (by decide) rfl dX0_init_30 (fun H locs hw => ?_)
                    refine lv_iinc (v := 9) (lv' := [(1, .int 9), (0, .ref b)]) hx hb dX0_init_31 hl (k := 0) rfl rfl (by decide) rfl (fun ls hl => ?_)
                    refine lv_goto (tgt := 14) hx hb dX0_init_34 (by decide) ?_
                    refine lv_iload_n hx hb dX0_init_14 rfl (lv_at hl 0 rfl) ?_
                    refine lv_bipush (v := 9) hx hb dX0_init_15 (by decide) ?_
                    refine lv_icmp_ge (tgt := 37) hx hb dX0_init_17 (by decide) (fun c_17 => ?_) (fun c_17 => ?_)
                    · have hw := gW.pkT [(aG c4 q_7 9 (upd (upd (upd (upd (upd (upd (upd (upd (upd (fun _ => 0) 0 (tbU.getD 0 0)) 1 (tbU.getD 1 0)) 2 (tbU.getD 2 0)) 3 (tbU.getD 3 0)) 4 (tbU.getD 4 0)) 5 (tbU.getD 5 0)) 6 (tbU.getD 6 0)) 7 (tbU.getD 7 0)) 8 (tbU.getD 8 0))), [(b, .inr (0, [.ref q_7]))]] hw 2 rfl [1, 0] (by decide +kernel)
                      have hw : gW D A js.heap ([(b, .inr (0, [.ref q_7]))] :: (aG c4 q_7 9 (upd (upd (upd (upd (upd (upd (upd (upd (upd (fun _ => 0) 0 (tbU.getD 0 0)) 1 (tbU.getD 1 0)) 2 (tbU.getD 2 0)) 3 (tbU.getD 3 0)) 4 (tbU.getD 4 0)) 5 (tbU.getD 5 0)) 6 (tbU.getD 6 0)) 7 (tbU.getD 7 0)) 8 (tbU.getD 8 0))) :: Ts) H locs := hw
                      exact kr ((fun k => ([b, q_7] : List Nat).getD k 0), upd (upd (upd (upd (upd (upd (upd (upd (upd (fun _ => 0) 0 (tbU.getD 0 0)) 1 (tbU.getD 1 0)) 2 (tbU.getD 2 0)) 3 (tbU.getD 3 0)) 4 (tbU.getD 4 0)) 5 (tbU.getD 5 0)) 6 (tbU.getD 6 0)) 7 (tbU.getD 7 0)) 8 (tbU.getD 8 0)) _ _ _ _ _ _ (Nat.le_of_ble_eq_true rfl) (Nat.le_of_ble_eq_true rfl) (hw.cast rfl) ⟨rfl, (fun j hj => by rcases (show j = 0 ∨ j = 1 ∨ j = 2 ∨ j = 3 ∨ j = 4 ∨ j = 5 ∨ j = 6 ∨ j = 7 ∨ j = 8 by omega) with z | z | z | z | z | z | z | z | z <;> subst z <;> rfl)⟩ dX0_init_37
                    · exact absurd c_17 (by decide)
set_option maxHeartbeats 4000000 in
set_option maxRecDepth 100000 in
theorem k_X5_init (l : Launch) (D : va_G) (c4 : Nat → ClassId) (A : Nat → Prop) (Ts : List va_W) (t : Nat → Nat) (b : Nat) : Cn l yX5_init wsX5_init 2 32 4 41 [.ref b] D (tyA c4) A (some t) ([(b, .inr (5, [.null, .int 0, .int 0, .int 0]))] :: Ts) (S := (Nat → Nat)) (fun (u : (Nat → Nat)) => True) (fun u => ((wG b (u 0) 4 0 0) :: (yG c4 u 0 0 (fun _ => 0) (fun _ => 0) (fun _ => 0)) :: Ts)) := by
  refine cOn (cc := cX5_init) (maxL := 1) (by decide) rfl rfl (Nat.le_of_ble_eq_true rfl) rfl ?_
  rintro jp je js jm below meth jc ls args R Q H locs hRf hRl hRc hRs ⟨hx, hb, hml, hr, hts, hown, hlocks, hK, hX⟩ hw hl hA hO hin kr
  have hown : js.vm.findClass RX5 = some jm.cls := hown
  have f_0 := hts (.methodLink RX5 1 objectInit) (by decide +kernel)
  have f_1 := hts (.instanceMethod objectInit) (by decide +kernel)
  have f_2 := hts (.code objectInit ⟨#[0xb1]⟩ 1 none) (by decide +kernel)
  have f_3 := hts (.classLink RX5 7 RX6) (by decide +kernel)
  have f_4 := hts (.instantiable RX6 5) (by decide +kernel)
  have f_5 := hts (.initialized RX6) (by decide +kernel)
  have f_6 := hts (.instanceMethod yX6_init) (by decide +kernel)
  have f_7 := hts (.fieldLink RX5 10 "IceSway$Winter" "yards" "LIceSway$Yards;") (by decide +kernel)
  have f_8 := hts (.fieldLink RX5 16 "IceSway$Winter" "beat" "I") (by decide +kernel)
  have hi6 : ∀ w ∈ u_ws RX6 TX6 5, w ∈ wsX5_init := fun w h => List.mem_cons_of_mem _ (List.mem_append_left _ (List.mem_append_right _ h))
  have hi5 : ∀ w ∈ u_ws RX5 TX5 4, w ∈ wsX5_init := fun w h => List.mem_cons_of_mem _ (List.mem_append_right _ h)
  refine lv_aload_n hx hb dX5_init_0 rfl (lv_at hl 0 rfl) ?_
  refine W.objInit hx hb hown f_0 f_1 f_2 rfl (by rw [hml]; exact hl.1) rfl dX5_init_1 (by rw [hRf]; exact Nat.le_of_ble_eq_true rfl) (by rw [hRl]; exact Nat.le_of_ble_eq_true rfl) ?_
  refine W.eq (g2 := F0 jm 4 ls []) rfl ?_
  refine lv_aload_n hx hb dX5_init_4 rfl (lv_at hl 0 rfl) ?_
  refine r_new (ci := 6) (fs := [.int 0, .int 0, .null, .null, .null]) (T := TX6) (N := 5) hx hb hts hi6 tyX6 tyX6_ok hown f_3 f_4 f_5 hK hw hA rfl dfX6 (by rw [hRc]; exact Nat.le_of_ble_eq_true rfl) (by rw [hRs]; exact Nat.le_of_ble_eq_true rfl) dX5_init_5 (fun q_5 H hw => ?_)
  refine lv_dup hx hb dX5_init_8 rfl ?_
  refine c_iniN (As := []) (rest := [.ref q_5, .ref b]) ⟨hx, hb, hml, hown, hts⟩ (k_X6_init l D c4 A ([(b, .inr (5, [.null, .int 0, .int 0, .int 0]))] :: Ts) q_5) (va_cnB 0 hts gX5_init_X6_init_n9 rfl rfl rfl hX.1.2.2.1 f_5 (by decide +kernel) (rmv (Nat.le_of_ble_eq_true rfl) (Nat.le_of_ble_eq_true rfl) hRf hRl)) rfl f_6 hK trivial hw hA hO rfl hl rfl (Nat.le_of_ble_eq_true rfl) ⟨(by rw [hRc]; exact Nat.le_of_ble_eq_true rfl), (by rw [hRs]; exact Nat.le_of_ble_eq_true rfl)⟩ dX5_init_9 (fun u_9 H locs hpq hw => ?_)
  obtain ⟨v_9, rfl⟩ : ∃ z, z = u_9 := ⟨_, rfl⟩
  have hw : gW D A js.heap ((yG c4 v_9 0 0 (fun _ => 0) (fun _ => 0) (fun _ => 0)) :: [(b, .inr (5, [.null, .int 0, .int 0, .int 0]))] :: Ts) H locs := hw
  have hb_9 := hpq
  have hb_9 : v_9 0 = q_5 := hb_9
  have hwN_9 := hw
  subst hb_9
  have hw : gW D A js.heap ((yG c4 v_9 0 0 (fun _ => 0) (fun _ => 0) (fun _ => 0)) :: [(b, .inr (5, [.null, .int 0, .int 0, .int 0]))] :: Ts) _ _ := hwN_9
  refine r_putR (T := TX5) (v := .ref (v_9 0)) (G' := ((yG c4 v_9 0 0 (fun _ => 0) (fun _ => 0) (fun _ => 0)) :: [(b, .inr (5, [.ref (v_9 0), .int 0, .int 0, .int 0]))] :: Ts)) hx hb hts hi5 tyX5 tyX5_ok nmX5 hown hK hw 4 rfl rfl 0 (by decide) f_7 rfl hin rfl rfl rfl rfl (Nat.le_of_ble_eq_true rfl) rfl dX5_init_12 (fun H locs hw => ?_)
  refine lv_aload_n hx hb dX5_init_15 rfl (lv_at hl 0 rfl) ?_
  refine lv_iconst (v := 4) hx hb dX5_init_16 (by decide) ?_
  refine r_put (T := TX5) (G' := ((yG c4 v_9 0 0 (fun _ => 0) (fun _ => 0) (fun _ => 0)) :: [(b, .inr (5, [.ref (v_9 0), .int 4, .int 0, .int 0]))] :: Ts)) hx hb hts hi5 tyX5 tyX5_ok nmX5 hown hK hw 4 rfl rfl 1 (by decide) f_8 rfl rfl (Nat.le_of_ble_eq_true rfl) rfl dX5_init_17 (fun H locs hw => ?_)
  have hw := gW.pkT [(yG c4 v_9 0 0 (fun _ => 0) (fun _ => 0) (fun _ => 0)), [(b, .inr (5, [.ref (v_9 0), .int 4, .int 0, .int 0]))]] hw 2 rfl [1, 0] (by decide +kernel)
  have hw : gW D A js.heap ([(b, .inr (5, [.ref (v_9 0), .int 4, .int 0, .int 0]))] :: (yG c4 v_9 0 0 (fun _ => 0) (fun _ => 0) (fun _ => 0)) :: Ts) H locs := hw
  exact kr (v_9) _ _ _ _ _ _ (Nat.le_of_ble_eq_true rfl) (Nat.le_of_ble_eq_true rfl) (hw.cast rfl) trivial dX5_init_20
