set_option maxHeartbeats 4000000 in
set_option maxRecDepth 100000 in
theorem k_X0_horsesTold (l : Launch) (D : va_G) (c4 : Nat → ClassId) (A : Nat → Prop) (Ts : List va_W) (a : Nat → Nat) (nb : Nat → Int32) : Ci l yX0_horsesTold wsX0_horsesTold 0 0 [.ref (a 0)] D (tyA c4) A none ((bG c4 a nb) :: Ts) (S := Unit) (fun (r : Int32) (u : Unit) => r = (nb 0)) (fun u => ((bG c4 a nb) :: Ts)) := by
  refine cOi (cc := cX0_horsesTold) (maxL := 1) (by decide) rfl (Nat.le_of_ble_eq_true rfl) rfl ?_
  rintro jp je js jm below meth jc ls args R Q H locs hRf hRl ⟨hx, hb, hml, hr, hts, hown, hlocks, hK, hX⟩ hw hl kr
  have hown : js.vm.findClass RX0 = some jm.cls := hown
  have f_0 := hts (.fieldLink RX0 9 "IceSway$Boat" "numbers" "[I") (by decide +kernel)
  have hi0 : ∀ w ∈ u_ws RX0 TX0 1, w ∈ wsX0_horsesTold := fun w h => List.mem_cons_of_mem _ (List.mem_append_right _ h)
  refine lv_aload_n hx hb dX0_horsesTold_0 rfl (lv_at hl 0 rfl) ?_
  refine r_get (T := TX0) (v := .ref (a 1)) hx hb hts hi0 hown hK hw 0 rfl rfl 0 (by decide) f_0 rfl dX0_horsesTold_1 ?_
  refine lv_iconst (v := 0) hx hb dX0_horsesTold_4 (by decide) ?_
  refine r_iald hx hb hK hw 1 0 rfl rfl 0 (by omega) (by decide) dX0_horsesTold_5 ?_
  exact kr (nb 0) () _ _ _ _ hw rfl dX0_horsesTold_6
set_option maxHeartbeats 4000000 in
set_option maxRecDepth 100000 in
theorem k_X0_laggardsTold (l : Launch) (D : va_G) (c4 : Nat → ClassId) (A : Nat → Prop) (Ts : List va_W) (a : Nat → Nat) (nb : Nat → Int32) : Ci l yX0_laggardsTold wsX0_laggardsTold 0 0 [.ref (a 0)] D (tyA c4) A none ((bG c4 a nb) :: Ts) (S := Unit) (fun (r : Int32) (u : Unit) => r = (nb 3)) (fun u => ((bG c4 a nb) :: Ts)) := by
  refine cOi (cc := cX0_laggardsTold) (maxL := 1) (by decide) rfl (Nat.le_of_ble_eq_true rfl) rfl ?_
  rintro jp je js jm below meth jc ls args R Q H locs hRf hRl ⟨hx, hb, hml, hr, hts, hown, hlocks, hK, hX⟩ hw hl kr
  have hown : js.vm.findClass RX0 = some jm.cls := hown
  have f_0 := hts (.fieldLink RX0 9 "IceSway$Boat" "numbers" "[I") (by decide +kernel)
  have hi0 : ∀ w ∈ u_ws RX0 TX0 1, w ∈ wsX0_laggardsTold := fun w h => List.mem_cons_of_mem _ (List.mem_append_right _ h)
  refine lv_aload_n hx hb dX0_laggardsTold_0 rfl (lv_at hl 0 rfl) ?_
  refine r_get (T := TX0) (v := .ref (a 1)) hx hb hts hi0 hown hK hw 0 rfl rfl 0 (by decide) f_0 rfl dX0_laggardsTold_1 ?_
  refine lv_iconst (v := 3) hx hb dX0_laggardsTold_4 (by decide) ?_
  refine r_iald hx hb hK hw 1 0 rfl rfl 3 (by omega) (by decide) dX0_laggardsTold_5 ?_
  exact kr (nb 3) () _ _ _ _ hw rfl dX0_laggardsTold_6
set_option maxHeartbeats 4000000 in
set_option maxRecDepth 100000 in
theorem k_X0_gapMinutes (l : Launch) (D : va_G) (c4 : Nat → ClassId) (A : Nat → Prop) (Ts : List va_W) (a : Nat → Nat) (nb : Nat → Int32) : Ci l yX0_gapMinutes wsX0_gapMinutes 0 0 [.ref (a 0)] D (tyA c4) A none ((bG c4 a nb) :: Ts) (S := Unit) (fun (r : Int32) (u : Unit) => r = (nb 4)) (fun u => ((bG c4 a nb) :: Ts)) := by
  refine cOi (cc := cX0_gapMinutes) (maxL := 1) (by decide) rfl (Nat.le_of_ble_eq_true rfl) rfl ?_
  rintro jp je js jm below meth jc ls args R Q H locs hRf hRl ⟨hx, hb, hml, hr, hts, hown, hlocks, hK, hX⟩ hw hl kr
  have hown : js.vm.findClass RX0 = some jm.cls := hown
  have f_0 := hts (.fieldLink RX0 9 "IceSway$Boat" "numbers" "[I") (by decide +kernel)
  have hi0 : ∀ w ∈ u_ws RX0 TX0 1, w ∈ wsX0_gapMinutes := fun w h => List.mem_cons_of_mem _ (List.mem_append_right _ h)
  refine lv_aload_n hx hb dX0_gapMinutes_0 rfl (lv_at hl 0 rfl) ?_
  refine r_get (T := TX0) (v := .ref (a 1)) hx hb hts hi0 hown hK hw 0 rfl rfl 0 (by decide) f_0 rfl dX0_gapMinutes_1 ?_
  refine lv_iconst (v := 4) hx hb dX0_gapMinutes_4 (by decide) ?_
  refine r_iald hx hb hK hw 1 0 rfl rfl 4 (by omega) (by decide) dX0_gapMinutes_5 ?_
  exact kr (nb 4) () _ _ _ _ hw rfl dX0_gapMinutes_6
set_option maxHeartbeats 4000000 in
set_option maxRecDepth 100000 in
theorem k_X0_axeMinutes (l : Launch) (D : va_G) (c4 : Nat → ClassId) (A : Nat → Prop) (Ts : List va_W) (a : Nat → Nat) (nb : Nat → Int32) : Ci l yX0_axeMinutes wsX0_axeMinutes 0 0 [.ref (a 0)] D (tyA c4) A none ((bG c4 a nb) :: Ts) (S := Unit) (fun (r : Int32) (u : Unit) => r = (nb 5)) (fun u => ((bG c4 a nb) :: Ts)) := by
  refine cOi (cc := cX0_axeMinutes) (maxL := 1) (by decide) rfl (Nat.le_of_ble_eq_true rfl) rfl ?_
  rintro jp je js jm below meth jc ls args R Q H locs hRf hRl ⟨hx, hb, hml, hr, hts, hown, hlocks, hK, hX⟩ hw hl kr
  have hown : js.vm.findClass RX0 = some jm.cls := hown
  have f_0 := hts (.fieldLink RX0 9 "IceSway$Boat" "numbers" "[I") (by decide +kernel)
  have hi0 : ∀ w ∈ u_ws RX0 TX0 1, w ∈ wsX0_axeMinutes := fun w h => List.mem_cons_of_mem _ (List.mem_append_right _ h)
  refine lv_aload_n hx hb dX0_axeMinutes_0 rfl (lv_at hl 0 rfl) ?_
  refine r_get (T := TX0) (v := .ref (a 1)) hx hb hts hi0 hown hK hw 0 rfl rfl 0 (by decide) f_0 rfl dX0_axeMinutes_1 ?_
  refine lv_iconst (v := 5) hx hb dX0_axeMinutes_4 (by decide) ?_
  refine r_iald hx hb hK hw 1 0 rfl rfl 5 (by omega) (by decide) dX0_axeMinutes_5 ?_
  exact kr (nb 5) () _ _ _ _ hw rfl dX0_axeMinutes_6
set_option maxHeartbeats 4000000 in
set_option maxRecDepth 100000 in
theorem k_X0_coalDays (l : Launch) (D : va_G) (c4 : Nat → ClassId) (A : Nat → Prop) (Ts : List va_W) (a : Nat → Nat) (nb : Nat → Int32) : Ci l yX0_coalDays wsX0_coalDays 0 0 [.ref (a 0)] D (tyA c4) A none ((bG c4 a nb) :: Ts) (S := Unit) (fun (r : Int32) (u : Unit) => r = (nb 6)) (fun u => ((bG c4 a nb) :: Ts)) := by
  refine cOi (cc := cX0_coalDays) (maxL := 1) (by decide) rfl (Nat.le_of_ble_eq_true rfl) rfl ?_
  rintro jp je js jm below meth jc ls args R Q H locs hRf hRl ⟨hx, hb, hml, hr, hts, hown, hlocks, hK, hX⟩ hw hl kr
  have hown : js.vm.findClass RX0 = some jm.cls := hown
  have f_0 := hts (.fieldLink RX0 9 "IceSway$Boat" "numbers" "[I") (by decide +kernel)
  have hi0 : ∀ w ∈ u_ws RX0 TX0 1, w ∈ wsX0_coalDays := fun w h => List.mem_cons_of_mem _ (List.mem_append_right _ h)
  refine lv_aload_n hx hb dX0_coalDays_0 rfl (lv_at hl 0 rfl) ?_
  refine r_get (T := TX0) (v := .ref (a 1)) hx hb hts hi0 hown hK hw 0 rfl rfl 0 (by decide) f_0 rfl dX0_coalDays_1 ?_
  refine lv_bipush (v := 6) hx hb dX0_coalDays_4 (by decide) ?_
  refine r_iald hx hb hK hw 1 0 rfl rfl 6 (by omega) (by decide) dX0_coalDays_6 ?_
  exact kr (nb 6) () _ _ _ _ hw rfl dX0_coalDays_7
set_option maxHeartbeats 4000000 in
set_option maxRecDepth 100000 in
theorem k_X0_dayCost (l : Launch) (D : va_G) (c4 : Nat → ClassId) (A : Nat → Prop) (Ts : List va_W) (a : Nat → Nat) (nb : Nat → Int32) : Ci l yX0_dayCost wsX0_dayCost 0 0 [.ref (a 0)] D (tyA c4) A none ((bG c4 a nb) :: Ts) (S := Unit) (fun (r : Int32) (u : Unit) => r = (nb 7)) (fun u => ((bG c4 a nb) :: Ts)) := by
  refine cOi (cc := cX0_dayCost) (maxL := 1) (by decide) rfl (Nat.le_of_ble_eq_true rfl) rfl ?_
  rintro jp je js jm below meth jc ls args R Q H locs hRf hRl ⟨hx, hb, hml, hr, hts, hown, hlocks, hK, hX⟩ hw hl kr
  have hown : js.vm.findClass RX0 = some jm.cls := hown
  have f_0 := hts (.fieldLink RX0 9 "IceSway$Boat" "numbers" "[I") (by decide +kernel)
  have hi0 : ∀ w ∈ u_ws RX0 TX0 1, w ∈ wsX0_dayCost := fun w h => List.mem_cons_of_mem _ (List.mem_append_right _ h)
  refine lv_aload_n hx hb dX0_dayCost_0 rfl (lv_at hl 0 rfl) ?_
  refine r_get (T := TX0) (v := .ref (a 1)) hx hb hts hi0 hown hK hw 0 rfl rfl 0 (by decide) f_0 rfl dX0_dayCost_1 ?_
  refine lv_bipush (v := 7) hx hb dX0_dayCost_4 (by decide) ?_
  refine r_iald hx hb hK hw 1 0 rfl rfl 7 (by omega) (by decide) dX0_dayCost_6 ?_
  exact kr (nb 7) () _ _ _ _ hw rfl dX0_dayCost_7
set_option maxHeartbeats 4000000 in
set_option maxRecDepth 100000 in
theorem k_X0_wantCost (l : Launch) (D : va_G) (c4 : Nat → ClassId) (A : Nat → Prop) (Ts : List va_W) (a : Nat → Nat) (nb : Nat → Int32) : Ci l yX0_wantCost wsX0_wantCost 0 0 [.ref (a 0)] D (tyA c4) A none ((bG c4 a nb) :: Ts) (S := Unit) (fun (r : Int32) (u : Unit) => r = (nb 8)) (fun u => ((bG c4 a nb) :: Ts)) := by
  refine cOi (cc := cX0_wantCost) (maxL := 1) (by decide) rfl (Nat.le_of_ble_eq_true rfl) rfl ?_
  rintro jp je js jm below meth jc ls args R Q H locs hRf hRl ⟨hx, hb, hml, hr, hts, hown, hlocks, hK, hX⟩ hw hl kr
  have hown : js.vm.findClass RX0 = some jm.cls := hown
  have f_0 := hts (.fieldLink RX0 9 "IceSway$Boat" "numbers" "[I") (by decide +kernel)
  have hi0 : ∀ w ∈ u_ws RX0 TX0 1, w ∈ wsX0_wantCost := fun w h => List.mem_cons_of_mem _ (List.mem_append_right _ h)
  refine lv_aload_n hx hb dX0_wantCost_0 rfl (lv_at hl 0 rfl) ?_
  refine r_get (T := TX0) (v := .ref (a 1)) hx hb hts hi0 hown hK hw 0 rfl rfl 0 (by decide) f_0 rfl dX0_wantCost_1 ?_
  refine lv_bipush (v := 8) hx hb dX0_wantCost_4 (by decide) ?_
  refine r_iald hx hb hK hw 1 0 rfl rfl 8 (by omega) (by decide) dX0_wantCost_6 ?_
  exact kr (nb 8) () _ _ _ _ hw rfl dX0_wantCost_7
set_option maxHeartbeats 4000000 in
set_option maxRecDepth 100000 in
theorem k_X0_swayBy (l : Launch) (D : va_G) (c4 : Nat → ClassId) (A : Nat → Prop) (Ts : List va_W) (a : Nat → Nat) (nb : Nat → Int32) (b : Int32) (l0 : Int32) : Ci l yX0_swayBy wsX0_swayBy 1 13 [.ref (a 0), .int b, .int l0] D (tyA c4) A none ((bG c4 a nb) :: Ts) (S := Unit) (fun (r : Int32) (u : Unit) => r = (pSway (nb 1) (nb 2) l0 b)) (fun u => ((bG c4 a nb) :: Ts)) := by
  refine cOi (cc := cX0_swayBy) (maxL := 6) (by decide) rfl (Nat.le_of_ble_eq_true rfl) rfl ?_
  rintro jp je js jm below meth jc ls args R Q H locs hRf hRl ⟨hx, hb, hml, hr, hts, hown, hlocks, hK, hX⟩ hw hl kr
  have hown : js.vm.findClass RX0 = some jm.cls := hown
  have f_0 := hts (.fieldLink RX0 9 "IceSway$Boat" "numbers" "[I") (by decide +kernel)
  have f_1 := hts (.methodLink RX0 16 Lib.Math.max.name) (by decide +kernel)
  have f_2 := hts (.static Lib.Math.max.name) (by decide +kernel)
  have f_3 := hts (.initialized "java/lang/Math") (by decide +kernel)
  have f_4 := hts (.code Lib.Math.max.name Lib.Math.max.code 2 (some .int)) (by decide +kernel)
  have f_5 := hts (.methodLink RX0 22 Lib.Math.abs.name) (by decide +kernel)
  have f_6 := hts (.static Lib.Math.abs.name) (by decide +kernel)
  have f_7 := hts (.code Lib.Math.abs.name Lib.Math.abs.code 1 (some .int)) (by decide +kernel)
  have hi0 : ∀ w ∈ u_ws RX0 TX0 1, w ∈ wsX0_swayBy := fun w h => List.mem_cons_of_mem _ (List.mem_append_right _ h)
  refine lv_iconst (v := 0) hx hb dX0_swayBy_0 (by decide) ?_
  refine lv_aload_n hx hb dX0_swayBy_1 rfl (lv_at hl 0 rfl) ?_
  refine r_get (T := TX0) (v := .ref (a 1)) hx hb hts hi0 hown hK hw 0 rfl rfl 0 (by decide) f_0 rfl dX0_swayBy_2 ?_
  refine lv_iconst (v := 1) hx hb dX0_swayBy_5 (by decide) ?_
  refine r_iald hx hb hK hw 1 0 rfl rfl 1 (by omega) (by decide) dX0_swayBy_6 ?_
  refine lv_iload_n hx hb dX0_swayBy_7 rfl (lv_at hl 2 rfl) ?_
  refine lv_isub hx hb dX0_swayBy_8 ?_
  refine va_mmax hx hb (hml.trans hl.1.symm) hown f_1 f_2 f_3 f_4 (by rw [hRf]; exact Nat.le_of_ble_eq_true rfl) (by rw [hRl]; exact Nat.le_of_ble_eq_true rfl) (Nat.zero_le _) (Nat.zero_le _) dX0_swayBy_9 ?_
  refine lv_istore_n (lv' := [(3, .int (if 0 < ((nb 1) - l0) then ((nb 1) - l0) else 0)), (0, .ref (a 0)), (1, .int b), (2, .int l0)]) hx hb dX0_swayBy_12 rfl hl (by decide) rfl (fun ls hl => ?_)
  refine lv_iload_n hx hb dX0_swayBy_13 rfl (lv_at hl 2 rfl) ?_
  refine lv_aload_n hx hb dX0_swayBy_14 rfl (lv_at hl 1 rfl) ?_
  refine r_get (T := TX0) (v := .ref (a 1)) hx hb hts hi0 hown hK hw 0 rfl rfl 0 (by decide) f_0 rfl dX0_swayBy_15 ?_
  refine lv_iconst (v := 2) hx hb dX0_swayBy_18 (by decide) ?_
  refine r_iald hx hb hK hw 1 0 rfl rfl 2 (by omega) (by decide) dX0_swayBy_19 ?_
  refine lv_isub hx hb dX0_swayBy_20 ?_
  refine va_mabs hx hb (hml.trans hl.1.symm) hown f_5 f_6 f_3 f_7 (by rw [hRf]; exact Nat.le_of_ble_eq_true rfl) (by rw [hRl]; exact Nat.le_of_ble_eq_true rfl) (Nat.zero_le _) (Nat.zero_le _) dX0_swayBy_21 ?_
  refine lv_istore (lv' := [(4, .int (if 0 ≤ (b - (nb 2)) then (b - (nb 2)) else 0 - (b - (nb 2)))), (3, .int (if 0 < ((nb 1) - l0) then ((nb 1) - l0) else 0)), (0, .ref (a 0)), (1, .int b), (2, .int l0)]) hx hb dX0_swayBy_24 hl (by decide) rfl (fun ls hl => ?_)
  refine lv_iload_n hx hb dX0_swayBy_26 rfl (lv_at hl 1 rfl) ?_
  refine lv_iconst (v := 3) hx hb dX0_swayBy_27 (by decide) ?_
  refine lv_idiv hx hb dX0_swayBy_28 (by decide) ?_
  refine lv_istore (lv' := [(5, .int ((if 0 < ((nb 1) - l0) then ((nb 1) - l0) else 0) / 3)), (4, .int (if 0 ≤ (b - (nb 2)) then (b - (nb 2)) else 0 - (b - (nb 2)))), (3, .int (if 0 < ((nb 1) - l0) then ((nb 1) - l0) else 0)), (0, .ref (a 0)), (1, .int b), (2, .int l0)]) hx hb dX0_swayBy_29 hl (by decide) rfl (fun ls hl => ?_)
  refine lv_iload hx hb dX0_swayBy_31 (lv_at hl 1 rfl) ?_
  have kj_33 : ∀ (w_1 : Int32) (ls : Array Slot), w_1 = (if (if 0 ≤ (b - (nb 2)) then (b - (nb 2)) else 0 - (b - (nb 2))) = 0 then (3 * (if 0 < ((nb 1) - l0) then ((nb 1) - l0) else 0)) else (if (if 0 ≤ (b - (nb 2)) then (b - (nb 2)) else 0 - (b - (nb 2))) = 1 then (if 0 < ((nb 1) - l0) then ((nb 1) - l0) else 0) else ((if 0 < ((nb 1) - l0) then ((nb 1) - l0) else 0) / 3))) → lv_has ls 6 [(5, .int w_1), (4, .int (if 0 ≤ (b - (nb 2)) then (b - (nb 2)) else 0 - (b - (nb 2)))), (3, .int (if 0 < ((nb 1) - l0) then ((nb 1) - l0) else 0)), (0, .ref (a 0)), (1, .int b), (2, .int l0)] → W jp l je R js jm args below meth jc H locs 0 0 Q (F0 jm 53 ls []) := by
    intro w_1 ls e_w_1 hl
    subst e_w_1
    refine lv_iconst (v := 0) hx hb dX0_swayBy_53 (by decide) ?_
    refine lv_iload hx hb dX0_swayBy_54 (lv_at hl 0 rfl) ?_
    refine lv_iconst (v := 2) hx hb dX0_swayBy_56 (by decide) ?_
    refine lv_iload_n hx hb dX0_swayBy_57 rfl (lv_at hl 5 rfl) ?_
    refine lv_imul hx hb dX0_swayBy_58 ?_
    refine lv_isub hx hb dX0_swayBy_59 ?_
    refine va_mmax hx hb (hml.trans hl.1.symm) hown f_1 f_2 f_3 f_4 (by rw [hRf]; exact Nat.le_of_ble_eq_true rfl) (by rw [hRl]; exact Nat.le_of_ble_eq_true rfl) (Nat.zero_le _) (Nat.zero_le _) dX0_swayBy_60 ?_
    exact kr (if 0 < ((if (if 0 ≤ (b - (nb 2)) then (b - (nb 2)) else 0 - (b - (nb 2))) = 0 then (3 * (if 0 < ((nb 1) - l0) then ((nb 1) - l0) else 0)) else (if (if 0 ≤ (b - (nb 2)) then (b - (nb 2)) else 0 - (b - (nb 2))) = 1 then (if 0 < ((nb 1) - l0) then ((nb 1) - l0) else 0) else ((if 0 < ((nb 1) - l0) then ((nb 1) - l0) else 0) / 3))) - (2 * l0)) then ((if (if 0 ≤ (b - (nb 2)) then (b - (nb 2)) else 0 - (b - (nb 2))) = 0 then (3 * (if 0 < ((nb 1) - l0) then ((nb 1) - l0) else 0)) else (if (if 0 ≤ (b - (nb 2)) then (b - (nb 2)) else 0 - (b - (nb 2))) = 1 then (if 0 < ((nb 1) - l0) then ((nb 1) - l0) else 0) else ((if 0 < ((nb 1) - l0) then ((nb 1) - l0) else 0) / 3))) - (2 * l0)) else 0) () _ _ _ _ hw rfl dX0_swayBy_63
  refine lv_if_ne (tgt := 44) hx hb dX0_swayBy_33 (by decide) (fun c_33 => ?_) (fun c_33 => ?_)
  · refine lv_iload hx hb dX0_swayBy_44 (lv_at hl 1 rfl) ?_
    refine lv_iconst (v := 1) hx hb dX0_swayBy_46 (by decide) ?_
    refine lv_icmp_ne (tgt := 53) hx hb dX0_swayBy_47 (by decide) (fun c_47 => ?_) (fun c_47 => ?_)
    · exact kj_33 _ ls (by first | rfl | (rw [if_neg c_33, if_neg c_47]; done) | (simp only [if_neg c_33, if_neg c_47]; done) | simp [c_33, c_47]) (lv_sub hl [0, 1, 2, 3, 4, 5] rfl)
    · refine lv_iload_n hx hb dX0_swayBy_50 rfl (lv_at hl 2 rfl) ?_
      refine lv_istore (lv' := [(5, .int (if 0 < ((nb 1) - l0) then ((nb 1) - l0) else 0)), (4, .int (if 0 ≤ (b - (nb 2)) then (b - (nb 2)) else 0 - (b - (nb 2)))), (3, .int (if 0 < ((nb 1) - l0) then ((nb 1) - l0) else 0)), (0, .ref (a 0)), (1, .int b), (2, .int l0)]) hx hb dX0_swayBy_51 hl (by decide) rfl (fun ls hl => ?_)
      exact kj_33 _ ls (by first | rfl | (rw [if_neg c_33, if_pos c_47]; done) | (simp only [if_neg c_33, if_pos c_47]; done) | simp [c_33, c_47]) (lv_sub hl [0, 1, 2, 3, 4, 5] rfl)
  · refine lv_iconst (v := 3) hx hb dX0_swayBy_36 (by decide) ?_
    refine lv_iload_n hx hb dX0_swayBy_37 rfl (lv_at hl 2 rfl) ?_
    refine lv_imul hx hb dX0_swayBy_38 ?_
    refine lv_istore (lv' := [(5, .int (3 * (if 0 < ((nb 1) - l0) then ((nb 1) - l0) else 0))), (4, .int (if 0 ≤ (b - (nb 2)) then (b - (nb 2)) else 0 - (b - (nb 2)))), (3, .int (if 0 < ((nb 1) - l0) then ((nb 1) - l0) else 0)), (0, .ref (a 0)), (1, .int b), (2, .int l0)]) hx hb dX0_swayBy_39 hl (by decide) rfl (fun ls hl => ?_)
    refine lv_goto (tgt := 53) hx hb dX0_swayBy_41 (by decide) ?_
    exact kj_33 _ ls (by first | rfl | (rw [if_pos c_33]; done) | (simp only [if_pos c_33]; done) | simp [c_33]) (lv_sub hl [0, 1, 2, 3, 4, 5] rfl)
set_option maxHeartbeats 4000000 in
set_option maxRecDepth 100000 in
theorem k_X0_forceOf (l : Launch) (D : va_G) (c4 : Nat → ClassId) (A : Nat → Prop) (Ts : List va_W) (h : Int32) (x : Int32) : Ci l yX0_forceOf wsX0_forceOf 0 0 [.int h, .int x] D (tyA c4) A none (Ts) (S := Unit) (fun (r : Int32) (u : Unit) => r = (4 * h + x)) (fun u => (Ts)) := by
  refine cOi (cc := cX0_forceOf) (maxL := 2) (by decide) rfl (Nat.le_of_ble_eq_true rfl) rfl ?_
  rintro jp je js jm below meth jc ls args R Q H locs hRf hRl ⟨hx, hb, hml, hr, hts, hown, hlocks, hK, hX⟩ hw hl kr
  have hown : js.vm.findClass RX0 = some jm.cls := hown
  refine lv_iconst (v := 4) hx hb dX0_forceOf_0 (by decide) ?_
  refine lv_iload_n hx hb dX0_forceOf_1 rfl (lv_at hl 0 rfl) ?_
  refine lv_imul hx hb dX0_forceOf_2 ?_
  refine lv_iload_n hx hb dX0_forceOf_3 rfl (lv_at hl 1 rfl) ?_
  refine lv_iadd hx hb dX0_forceOf_4 ?_
  exact kr ((4 * h) + x) () _ _ _ _ hw rfl dX0_forceOf_5
set_option maxHeartbeats 4000000 in
set_option maxRecDepth 100000 in
theorem k_X0_forceBy (l : Launch) (D : va_G) (c4 : Nat → ClassId) (A : Nat → Prop) (Ts : List va_W) (a : Nat → Nat) (nb : Nat → Int32) (b : Int32) : Ci l yX0_forceBy wsX0_forceBy 2 38 [.ref (a 0), .int b] D (tyA c4) A none ((bG c4 a nb) :: Ts) (S := Unit) (fun (r : Int32) (u : Unit) => r = (pForce nb b)) (fun u => ((bG c4 a nb) :: Ts)) := by
  refine cOi (cc := cX0_forceBy) (maxL := 2) (by decide) rfl (Nat.le_of_ble_eq_true rfl) rfl ?_
  rintro jp je js jm below meth jc ls args R Q H locs hRf hRl ⟨hx, hb, hml, hr, hts, hown, hlocks, hK, hX⟩ hw hl kr
  have hown : js.vm.findClass RX0 = some jm.cls := hown
  refine lv_aload_n hx hb dX0_forceBy_0 rfl (lv_at hl 0 rfl) ?_
  refine c_vi (As := []) (rest := []) ⟨hx, hb, hml, hown, hts⟩ (k_X0_horsesTold l D c4 A Ts a nb) (cwV 0 hts gX0_forceBy_X0_horsesTold rfl rfl rfl (by decide +kernel) (rmv (Nat.le_of_ble_eq_true rfl) (Nat.le_of_ble_eq_true rfl) hRf hRl)) hK trivial hw rfl rfl rfl hl rfl (Nat.le_of_ble_eq_true rfl) ⟨Nat.zero_le _, Nat.zero_le _⟩ dX0_forceBy_1 (fun r_1 u_1 H locs hpq hw => ?_)
  have er_1 := hpq
  subst er_1
  refine lv_aload_n hx hb dX0_forceBy_4 rfl (lv_at hl 0 rfl) ?_
  refine lv_iload_n hx hb dX0_forceBy_5 rfl (lv_at hl 1 rfl) ?_
  refine lv_aload_n hx hb dX0_forceBy_6 rfl (lv_at hl 0 rfl) ?_
  refine c_vi (As := []) (rest := [.int b, .ref (a 0), .int (nb 0)]) ⟨hx, hb, hml, hown, hts⟩ (k_X0_laggardsTold l D c4 A Ts a nb) (cwV 0 hts gX0_forceBy_X0_laggardsTold rfl rfl rfl (by decide +kernel) (rmv (Nat.le_of_ble_eq_true rfl) (Nat.le_of_ble_eq_true rfl) hRf hRl)) hK trivial hw rfl rfl rfl hl rfl (Nat.le_of_ble_eq_true rfl) ⟨Nat.zero_le _, Nat.zero_le _⟩ dX0_forceBy_7 (fun r_7 u_7 H locs hpq hw => ?_)
  have er_7 := hpq
  subst er_7
  refine c_vi (As := [.int b, .int (nb 3)]) (rest := [.int (nb 0)]) ⟨hx, hb, hml, hown, hts⟩ (k_X0_swayBy l D c4 A Ts a nb b (nb 3)) (cwV 2 hts gX0_forceBy_X0_swayBy rfl rfl rfl (by decide +kernel) (rmv (Nat.le_of_ble_eq_true rfl) (Nat.le_of_ble_eq_true rfl) hRf hRl)) hK trivial hw rfl rfl rfl hl rfl (Nat.le_of_ble_eq_true rfl) ⟨Nat.zero_le _, Nat.zero_le _⟩ dX0_forceBy_10 (fun r_10 u_10 H locs hpq hw => ?_)
  have er_10 := hpq
  subst er_10
  refine c_si (As := [.int (nb 0), .int (pSway (nb 1) (nb 2) (nb 3) b)]) (rest := []) ⟨hx, hb, hml, hown, hts⟩ (k_X0_forceOf l D c4 A ((bG c4 a nb) :: Ts) (nb 0) (pSway (nb 1) (nb 2) (nb 3) b)) (va_cwS 2 hts gX0_forceBy_X0_forceOf rfl rfl rfl (by decide +kernel) (rmv (Nat.le_of_ble_eq_true rfl) (Nat.le_of_ble_eq_true rfl) hRf hRl)) hK trivial hw rfl hl rfl (Nat.le_of_ble_eq_true rfl) ⟨Nat.zero_le _, Nat.zero_le _⟩ dX0_forceBy_13 (fun r_13 u_13 H locs hpq hw => ?_)
  have er_13 := hpq
  subst er_13
  exact kr (4 * (nb 0) + (pSway (nb 1) (nb 2) (nb 3) b)) () _ _ _ _ hw rfl dX0_forceBy_16
set_option maxHeartbeats 4000000 in
set_option maxRecDepth 100000 in
theorem k_X0_become (l : Launch) (D : va_G) (c4 : Nat → ClassId) (A : Nat → Prop) (Ts : List va_W) (a : Nat → Nat) (nb : Nat → Int32) (x : Nat → Nat) (ln : Int32) (yc : Int32) (fn : Int32) (fp : Int32) (pl : Int32) (cs : Int32) (lt : Nat → Int32) (nt : Nat → Int32) (yk : Nat → Int32) (yi : Nat → Int32) : Cv l yX0_become wsX0_become 0 0 [.ref (a 0), .ref (x 2)] D (tyA c4) A none ((bG c4 a nb) :: (xG c4 x ln yc fn fp pl cs lt nt yk yi) :: Ts) (S := (Nat → Int32)) (fun (u : (Nat → Int32)) => ∀ k, k < 9 → u k = nt k) (fun u => ((bG c4 a u) :: (xG c4 x ln yc fn fp pl cs lt nt yk yi) :: Ts)) := by
  refine cOv (cc := cX0_become) (maxL := 3) (by decide) rfl (Nat.le_of_ble_eq_true rfl) rfl ?_
  rintro jp je js jm below meth jc ls args R Q H locs hRf hRl ⟨hx, hb, hml, hr, hts, hown, hlocks, hK, hX⟩ hw hl kr
  have hown : js.vm.findClass RX0 = some jm.cls := hown
  have f_0 := hts (.fieldLink RX0 9 "IceSway$Boat" "numbers" "[I") (by decide +kernel)
  have hi0 : ∀ w ∈ u_ws RX0 TX0 1, w ∈ wsX0_become := fun w h => List.mem_cons_of_mem _ (List.mem_append_right _ h)
  refine lv_iconst (v := 0) hx hb dX0_become_0 (by decide) ?_
  refine lv_istore_n (lv' := [(2, .int 0), (0, .ref (a 0)), (1, .ref (x 2))]) hx hb dX0_become_1 rfl hl (by decide) rfl (fun ls hl => ?_)
  have loop_2 : ∀ (fuel : Nat) (i : Nat) (nb1 : Nat → Int32), (9 - i) < fuel → (i ≤ 9) → (∀ k, k < i → nb1 k = nt k) → ∀ (H : Heap) (locs : List Loc), gW D A js.heap ((bG c4 a nb1) :: (xG c4 x ln yc fn fp pl cs lt nt yk yi) :: Ts) H locs → ∀ (ls : Array Slot), lv_has ls 3 [(2, .int (nI i)), (0, .ref (a 0)), (1, .ref (x 2))] → W jp l je R js jm args below meth jc H locs 0 0 Q (F0 jm 2 ls []) := by
    intro fuel
    induction fuel with
    | zero => intro i nb1 hm; exact absurd hm (Nat.not_lt_zero _)
    | succ fuel ih_2 =>
      intro i nb1 hm_2 hi hE H locs hw ls hl
      refine lv_iload_n hx hb dX0_become_2 rfl (lv_at hl 0 rfl) ?_
      refine lv_bipush (v := 9) hx hb dX0_become_3 (by decide) ?_
      refine r_cge hx hb i 9 (by omega) (by omega) (tgt := 23) dX0_become_5 (by decide) (fun c_5 => ?_) (fun c_5 => ?_)
      · exact kr (nb1) _ _ _ _ hw (fun k hk => hE k (by omega)) dX0_become_23
      · refine lv_aload_n hx hb dX0_become_8 rfl (lv_at hl 1 rfl) ?_
        refine r_get (T := TX0) (v := .ref (a 1)) hx hb hts hi0 hown hK hw 0 rfl rfl 0 (by decide) f_0 rfl dX0_become_9 ?_
        refine lv_iload_n hx hb dX0_become_12 rfl (lv_at hl 0 rfl) ?_
        refine lv_aload_n hx hb dX0_become_13 rfl (lv_at hl 2 rfl) ?_
        refine lv_iload_n hx hb dX0_become_14 rfl (lv_at hl 0 rfl) ?_
        refine r_iald hx hb hK hw 4 0 rfl rfl i (by omega) (by decide) dX0_become_15 ?_
        refine r_iast (G' := ((bG c4 a (upd nb1 i (nt i))) :: (xG c4 x ln yc fn fp pl cs lt nt yk yi) :: Ts)) hx hb hK hw 1 0 rfl rfl i (by omega) (by decide) rfl dX0_become_16 (fun H locs hw => ?_)
        refine lv_iinc (v := (nI (i + 1))) (lv' := [(2, .int (nI (i + 1))), (0, .ref (a 0)), (1, .ref (x 2))]) hx hb dX0_become_17 hl (k := 0) rfl (nI_add _ _) (by decide) rfl (fun ls hl => ?_)
        refine lv_goto (tgt := 2) hx hb dX0_become_20 (by decide) ?_
        exact ih_2 (i + 1) (upd nb1 i (nt i)) (by omega) (by omega) (cp_one hE) _ _ hw ls (lv_sub hl [0, 1, 2] rfl)
  exact loop_2 ((9 - 0) + 1) 0 nb (Nat.lt_succ_self _) (by omega) (fun k h => absurd h (Nat.not_lt_zero k)) _ _ hw ls (lv_sub hl [0, 1, 2] rfl)
