set_option maxHeartbeats 4000000 in
set_option maxRecDepth 100000 in
theorem k_X8_swayOf (l : Launch) (D : va_G) (c4 : Nat → ClassId) (A : Nat → Prop) (Ts : List va_W) (a : Nat → Nat) (yn : Int32) (tx : Int32) (pl : Int32) (st : Int32) (va : Int32) (fy : Int32) (fa : Int32) (ry : Int32) (se : Int32) (bh : Int32) (mi : Int32) (fb : Int32) (bo : Int32) (bk : Int32) (told : Nat → Int32) (lg : Int32) (b : Int32) (hv1 : rng (told 1) 0 20) (hv2 : rng lg 0 20) (hv3 : rng (told 2) 2 9) (hv4 : rng b 0 9) : Ci l yX8_swayOf wsX8_swayOf 0 0 [.ref (a 0), .int lg, .int b] D (tyA c4) A none ((mG a yn tx pl st va fy fa ry se bh mi fb bo bk) :: (aG c4 (a 2) 18 told) :: Ts) (S := Unit) (fun (r : Int32) (u : Unit) => r = (pSway (told 1) (told 2) lg b)) (fun u => ((mG a yn tx pl st va fy fa ry se bh mi fb bo bk) :: (aG c4 (a 2) 18 told) :: Ts)) := by
  refine cOi (cc := cX8_swayOf) (maxL := 6) (by decide) rfl (Nat.le_of_ble_eq_true rfl) rfl ?_
  rintro jp je js jm below meth jc ls args R Q H locs hRf hRl ⟨hx, hb, hml, hr, hts, hown, hlocks, hK, hX⟩ hw hl kr
  have hown : js.vm.findClass RX8 = some jm.cls := hown
  have f_0 := hts (.fieldLink RX8 13 "IceSwayModel" "told" "[I") (by decide +kernel)
  have hi8 : ∀ w ∈ u_ws RX8 TX8 28, w ∈ wsX8_swayOf := fun w h => List.mem_cons_of_mem _ (List.mem_append_right _ h)
  refine lv_aload_n hx hb dX8_swayOf_0 rfl (lv_at hl 0 rfl) ?_
  refine r_get (T := TX8) (v := .ref (a 2)) hx hb hts hi8 hown hK hw 0 rfl rfl 1 (by decide) f_0 rfl dX8_swayOf_1 ?_
  refine lv_iconst (v := 1) hx hb dX8_swayOf_4 (by decide) ?_
  refine r_iald hx hb hK hw 1 0 rfl rfl 1 (by omega) (by decide) dX8_swayOf_5 ?_
  refine lv_iload_n hx hb dX8_swayOf_6 rfl (lv_at hl 1 rfl) ?_
  have kj_7 : ∀ (w_1 : Int32) (ls : Array Slot), w_1 = (if (told 1) ≤ lg then 0 else ((told 1) - lg)) → lv_has ls 6 [(0, .ref (a 0)), (1, .int lg), (2, .int b)] → W jp l je R js jm args below meth jc H locs 0 0 Q (F0 jm 22 ls [.int w_1]) := by
    intro w_1 ls e_w_1 hl
    subst e_w_1
    refine lv_istore_n (lv' := [(3, .int (if (told 1) ≤ lg then 0 else ((told 1) - lg))), (0, .ref (a 0)), (1, .int lg), (2, .int b)]) hx hb dX8_swayOf_22 rfl hl (by decide) rfl (fun ls hl => ?_)
    refine lv_iload_n hx hb dX8_swayOf_23 rfl (lv_at hl 3 rfl) ?_
    refine lv_aload_n hx hb dX8_swayOf_24 rfl (lv_at hl 1 rfl) ?_
    refine r_get (T := TX8) (v := .ref (a 2)) hx hb hts hi8 hown hK hw 0 rfl rfl 1 (by decide) f_0 rfl dX8_swayOf_25 ?_
    refine lv_iconst (v := 2) hx hb dX8_swayOf_28 (by decide) ?_
    refine r_iald hx hb hK hw 1 0 rfl rfl 2 (by omega) (by decide) dX8_swayOf_29 ?_
    have kj_30 : ∀ (w_2 : Int32) (ls : Array Slot), w_2 = (if b ≤ (told 2) then ((told 2) - b) else (b - (told 2))) → lv_has ls 6 [(3, .int (if (told 1) ≤ lg then 0 else ((told 1) - lg))), (0, .ref (a 0)), (1, .int lg), (2, .int b)] → W jp l je R js jm args below meth jc H locs 0 0 Q (F0 jm 52 ls [.int w_2]) := by
      intro w_2 ls e_w_2 hl
      subst e_w_2
      refine lv_istore (lv' := [(4, .int (if b ≤ (told 2) then ((told 2) - b) else (b - (told 2)))), (3, .int (if (told 1) ≤ lg then 0 else ((told 1) - lg))), (0, .ref (a 0)), (1, .int lg), (2, .int b)]) hx hb dX8_swayOf_52 hl (by decide) rfl (fun ls hl => ?_)
      refine lv_iload hx hb dX8_swayOf_54 (lv_at hl 0 rfl) ?_
      have kj_56 : ∀ (w_3 : Int32) (ls : Array Slot), w_3 = (if (if b ≤ (told 2) then ((told 2) - b) else (b - (told 2))) = 0 then (3 * (if (told 1) ≤ lg then 0 else ((told 1) - lg))) else (if (if b ≤ (told 2) then ((told 2) - b) else (b - (told 2))) = 1 then (if (told 1) ≤ lg then 0 else ((told 1) - lg)) else ((if (told 1) ≤ lg then 0 else ((told 1) - lg)) / 3))) → lv_has ls 6 [(4, .int (if b ≤ (told 2) then ((told 2) - b) else (b - (told 2)))), (3, .int (if (told 1) ≤ lg then 0 else ((told 1) - lg))), (0, .ref (a 0)), (1, .int lg), (2, .int b)] → W jp l je R js jm args below meth jc H locs 0 0 Q (F0 jm 78 ls [.int w_3]) := by
        intro w_3 ls e_w_3 hl
        subst e_w_3
        refine lv_iconst (v := 2) hx hb dX8_swayOf_78 (by decide) ?_
        refine lv_iload_n hx hb dX8_swayOf_79 rfl (lv_at hl 3 rfl) ?_
        refine lv_imul hx hb dX8_swayOf_80 ?_
        refine lv_isub hx hb dX8_swayOf_81 ?_
        refine lv_istore (lv' := [(5, .int ((if (if b ≤ (told 2) then ((told 2) - b) else (b - (told 2))) = 0 then (3 * (if (told 1) ≤ lg then 0 else ((told 1) - lg))) else (if (if b ≤ (told 2) then ((told 2) - b) else (b - (told 2))) = 1 then (if (told 1) ≤ lg then 0 else ((told 1) - lg)) else ((if (told 1) ≤ lg then 0 else ((told 1) - lg)) / 3))) - (2 * lg))), (4, .int (if b ≤ (told 2) then ((told 2) - b) else (b - (told 2)))), (3, .int (if (told 1) ≤ lg then 0 else ((told 1) - lg))), (0, .ref (a 0)), (1, .int lg), (2, .int b)]) hx hb dX8_swayOf_82 hl (by decide) rfl (fun ls hl => ?_)
        refine lv_iload hx hb dX8_swayOf_84 (lv_at hl 0 rfl) ?_
        refine lv_if_ge (tgt := 93) hx hb dX8_swayOf_86 (by decide) (fun c_86 => ?_) (fun c_86 => ?_)
        · refine lv_iload hx hb dX8_swayOf_93 (lv_at hl 0 rfl) ?_
          exact kr ((if (if b ≤ (told 2) then ((told 2) - b) else (b - (told 2))) = 0 then (3 * (if (told 1) ≤ lg then 0 else ((told 1) - lg))) else (if (if b ≤ (told 2) then ((told 2) - b) else (b - (told 2))) = 1 then (if (told 1) ≤ lg then 0 else ((told 1) - lg)) else ((if (told 1) ≤ lg then 0 else ((told 1) - lg)) / 3))) - (2 * lg)) () _ _ _ _ hw (msw_1 hv1 hv2 hv3 hv4 c_86) dX8_swayOf_95
        · refine lv_iconst (v := 0) hx hb dX8_swayOf_89 (by decide) ?_
          refine lv_goto (tgt := 95) hx hb dX8_swayOf_90 (by decide) ?_
          exact kr 0 () _ _ _ _ hw (msw_0 hv1 hv2 hv3 hv4 c_86) dX8_swayOf_95
      refine lv_if_ne (tgt := 65) hx hb dX8_swayOf_56 (by decide) (fun c_56 => ?_) (fun c_56 => ?_)
      · refine lv_iload hx hb dX8_swayOf_65 (lv_at hl 0 rfl) ?_
        refine lv_iconst (v := 1) hx hb dX8_swayOf_67 (by decide) ?_
        refine lv_icmp_ne (tgt := 75) hx hb dX8_swayOf_68 (by decide) (fun c_68 => ?_) (fun c_68 => ?_)
        · refine lv_iload_n hx hb dX8_swayOf_75 rfl (lv_at hl 1 rfl) ?_
          refine lv_iconst (v := 3) hx hb dX8_swayOf_76 (by decide) ?_
          refine lv_idiv hx hb dX8_swayOf_77 (by decide) ?_
          exact kj_56 _ ls (by first | (rw [if_neg c_56, if_neg c_68]; done) | (rw [if_neg c_56, if_neg c_68]) | simp [c_56, c_68]) (lv_sub hl [0, 1, 2, 3, 4] rfl)
        · refine lv_iload_n hx hb dX8_swayOf_71 rfl (lv_at hl 1 rfl) ?_
          refine lv_goto (tgt := 78) hx hb dX8_swayOf_72 (by decide) ?_
          exact kj_56 _ ls (by first | (rw [if_neg c_56, if_pos c_68]; done) | (rw [if_neg c_56, if_pos c_68]) | simp [c_56, c_68]) (lv_sub hl [0, 1, 2, 3, 4] rfl)
      · refine lv_iconst (v := 3) hx hb dX8_swayOf_59 (by decide) ?_
        refine lv_iload_n hx hb dX8_swayOf_60 rfl (lv_at hl 1 rfl) ?_
        refine lv_imul hx hb dX8_swayOf_61 ?_
        refine lv_goto (tgt := 78) hx hb dX8_swayOf_62 (by decide) ?_
        exact kj_56 _ ls (by first | (rw [if_pos c_56]; done) | (rw [if_pos c_56]) | simp [c_56]) (lv_sub hl [0, 1, 2, 3, 4] rfl)
    refine lv_icmp_le (tgt := 44) hx hb dX8_swayOf_30 (by decide) (fun c_30 => ?_) (fun c_30 => ?_)
    · refine lv_aload_n hx hb dX8_swayOf_44 rfl (lv_at hl 1 rfl) ?_
      refine r_get (T := TX8) (v := .ref (a 2)) hx hb hts hi8 hown hK hw 0 rfl rfl 1 (by decide) f_0 rfl dX8_swayOf_45 ?_
      refine lv_iconst (v := 2) hx hb dX8_swayOf_48 (by decide) ?_
      refine r_iald hx hb hK hw 1 0 rfl rfl 2 (by omega) (by decide) dX8_swayOf_49 ?_
      refine lv_iload_n hx hb dX8_swayOf_50 rfl (lv_at hl 3 rfl) ?_
      refine lv_isub hx hb dX8_swayOf_51 ?_
      exact kj_30 _ ls (by first | (rw [if_pos c_30]; done) | (rw [if_pos c_30]) | simp [c_30]) (lv_sub hl [0, 1, 2, 3] rfl)
    · refine lv_iload_n hx hb dX8_swayOf_33 rfl (lv_at hl 3 rfl) ?_
      refine lv_aload_n hx hb dX8_swayOf_34 rfl (lv_at hl 1 rfl) ?_
      refine r_get (T := TX8) (v := .ref (a 2)) hx hb hts hi8 hown hK hw 0 rfl rfl 1 (by decide) f_0 rfl dX8_swayOf_35 ?_
      refine lv_iconst (v := 2) hx hb dX8_swayOf_38 (by decide) ?_
      refine r_iald hx hb hK hw 1 0 rfl rfl 2 (by omega) (by decide) dX8_swayOf_39 ?_
      refine lv_isub hx hb dX8_swayOf_40 ?_
      refine lv_goto (tgt := 52) hx hb dX8_swayOf_41 (by decide) ?_
      exact kj_30 _ ls (by first | (rw [if_neg c_30]; done) | (rw [if_neg c_30]) | simp [c_30]) (lv_sub hl [0, 1, 2, 3] rfl)
  refine lv_icmp_le (tgt := 21) hx hb dX8_swayOf_7 (by decide) (fun c_7 => ?_) (fun c_7 => ?_)
  · refine lv_iconst (v := 0) hx hb dX8_swayOf_21 (by decide) ?_
    exact kj_7 _ ls (by first | (rw [if_pos c_7]; done) | (rw [if_pos c_7]) | simp [c_7]) (lv_sub hl [0, 1, 2] rfl)
  · refine lv_aload_n hx hb dX8_swayOf_10 rfl (lv_at hl 0 rfl) ?_
    refine r_get (T := TX8) (v := .ref (a 2)) hx hb hts hi8 hown hK hw 0 rfl rfl 1 (by decide) f_0 rfl dX8_swayOf_11 ?_
    refine lv_iconst (v := 1) hx hb dX8_swayOf_14 (by decide) ?_
    refine r_iald hx hb hK hw 1 0 rfl rfl 1 (by omega) (by decide) dX8_swayOf_15 ?_
    refine lv_iload_n hx hb dX8_swayOf_16 rfl (lv_at hl 1 rfl) ?_
    refine lv_isub hx hb dX8_swayOf_17 ?_
    refine lv_goto (tgt := 22) hx hb dX8_swayOf_18 (by decide) ?_
    exact kj_7 _ ls (by first | (rw [if_neg c_7]; done) | (rw [if_neg c_7]) | simp [c_7]) (lv_sub hl [0, 1, 2] rfl)
set_option maxHeartbeats 4000000 in
set_option maxRecDepth 100000 in
theorem k_X8_forceNow (l : Launch) (D : va_G) (c4 : Nat → ClassId) (A : Nat → Prop) (Ts : List va_W) (a : Nat → Nat) (yn : Int32) (tx : Int32) (pl : Int32) (st : Int32) (va : Int32) (fy : Int32) (fa : Int32) (ry : Int32) (se : Int32) (bh : Int32) (mi : Int32) (fb : Int32) (bo : Int32) (bk : Int32) (told : Nat → Int32) (w : Nat → Int32) (hT : tlOk told) (hbt : rng (w 48) 1 9) : Ci l yX8_forceNow wsX8_forceNow 1 25 [.ref (a 0)] D (tyA c4) A none ((mG a yn tx pl st va fy fa ry se bh mi fb bo bk) :: (aG c4 (a 2) 18 told) :: (aG c4 (a 1) 204 w) :: Ts) (S := Unit) (fun (r : Int32) (u : Unit) => r = (pForce told (w 48))) (fun u => ((mG a yn tx pl st va fy fa ry se bh mi fb bo bk) :: (aG c4 (a 2) 18 told) :: (aG c4 (a 1) 204 w) :: Ts)) := by
  refine cOi (cc := cX8_forceNow) (maxL := 1) (by decide) rfl (Nat.le_of_ble_eq_true rfl) rfl ?_
  rintro jp je js jm below meth jc ls args R Q H locs hRf hRl ⟨hx, hb, hml, hr, hts, hown, hlocks, hK, hX⟩ hw hl kr
  have hown : js.vm.findClass RX8 = some jm.cls := hown
  have f_0 := hts (.fieldLink RX8 13 "IceSwayModel" "told" "[I") (by decide +kernel)
  have f_1 := hts (.fieldLink RX8 7 "IceSwayModel" "w" "[I") (by decide +kernel)
  have hi8 : ∀ w ∈ u_ws RX8 TX8 28, w ∈ wsX8_forceNow := fun w h => List.mem_cons_of_mem _ (List.mem_append_right _ h)
  refine lv_iconst (v := 4) hx hb dX8_forceNow_0 (by decide) ?_
  refine lv_aload_n hx hb dX8_forceNow_1 rfl (lv_at hl 0 rfl) ?_
  refine r_get (T := TX8) (v := .ref (a 2)) hx hb hts hi8 hown hK hw 0 rfl rfl 1 (by decide) f_0 rfl dX8_forceNow_2 ?_
  refine lv_iconst (v := 0) hx hb dX8_forceNow_5 (by decide) ?_
  refine r_iald hx hb hK hw 1 0 rfl rfl 0 (by omega) (by decide) dX8_forceNow_6 ?_
  refine lv_imul hx hb dX8_forceNow_7 ?_
  refine lv_aload_n hx hb dX8_forceNow_8 rfl (lv_at hl 0 rfl) ?_
  refine lv_aload_n hx hb dX8_forceNow_9 rfl (lv_at hl 0 rfl) ?_
  refine r_get (T := TX8) (v := .ref (a 2)) hx hb hts hi8 hown hK hw 0 rfl rfl 1 (by decide) f_0 rfl dX8_forceNow_10 ?_
  refine lv_iconst (v := 3) hx hb dX8_forceNow_13 (by decide) ?_
  refine r_iald hx hb hK hw 1 0 rfl rfl 3 (by omega) (by decide) dX8_forceNow_14 ?_
  refine lv_aload_n hx hb dX8_forceNow_15 rfl (lv_at hl 0 rfl) ?_
  refine r_get (T := TX8) (v := .ref (a 1)) hx hb hts hi8 hown hK hw 0 rfl rfl 0 (by decide) f_1 rfl dX8_forceNow_16 ?_
  refine lv_bipush (v := 48) hx hb dX8_forceNow_19 (by decide) ?_
  refine r_iald hx hb hK hw 2 0 rfl rfl 48 (by omega) (by decide) dX8_forceNow_21 ?_
  have hw := hw.m1
  have hw := hw.m1
  refine c_vi (As := [.int (told 3), .int (w 48)]) (rest := [.int (4 * (told 0))]) ⟨hx, hb, hml, hown, hts⟩ (k_X8_swayOf l D c4 A ((aG c4 (a 1) 204 w) :: Ts) a yn tx pl st va fy fa ry se bh mi fb bo bk told (told 3) (w 48) hT.2.1 hT.2.2.2.1 hT.2.2.1 (hbt.w (by decide) (by decide))) (cwV 2 hts gX8_forceNow_X8_swayOf rfl rfl rfl (by decide +kernel) (rmv (Nat.le_of_ble_eq_true rfl) (Nat.le_of_ble_eq_true rfl) hRf hRl)) hK trivial hw rfl rfl rfl hl rfl (Nat.le_of_ble_eq_true rfl) ⟨Nat.zero_le _, Nat.zero_le _⟩ dX8_forceNow_22 (fun r_22 u_22 H locs hpq hw => ?_)
  have er_22 := hpq
  subst er_22
  refine lv_iadd hx hb dX8_forceNow_25 ?_
  exact kr ((4 * (told 0)) + (pSway (told 1) (told 2) (told 3) (w 48))) () _ _ _ _ hw rfl dX8_forceNow_26
set_option maxHeartbeats 4000000 in
set_option maxRecDepth 100000 in
theorem k_X8_growth (l : Launch) (D : va_G) (c4 : Nat → ClassId) (A : Nat → Prop) (Ts : List va_W) (k : Int32) (i : Int32) (c : Int32) (hi : iceOk i) : Ci l yX8_growth wsX8_growth 0 0 [.int k, .int i, .int c] D (tyA c4) A none (Ts) (S := Unit) (fun (r : Int32) (u : Unit) => r = (pGrow k i c)) (fun u => (Ts)) := by
  refine cOi (cc := cX8_growth) (maxL := 4) (by decide) rfl (Nat.le_of_ble_eq_true rfl) rfl ?_
  rintro jp je js jm below meth jc ls args R Q H locs hRf hRl ⟨hx, hb, hml, hr, hts, hown, hlocks, hK, hX⟩ hw hl kr
  have hown : js.vm.findClass RX8 = some jm.cls := hown
  refine lv_bipush (v := 20) hx hb dX8_growth_0 (by decide) ?_
  refine lv_iload_n hx hb dX8_growth_2 rfl (lv_at hl 2 rfl) ?_
  refine lv_imul hx hb dX8_growth_3 ?_
  refine lv_bipush (v := 10) hx hb dX8_growth_4 (by decide) ?_
  refine lv_iload_n hx hb dX8_growth_6 rfl (lv_at hl 1 rfl) ?_
  refine lv_iadd hx hb dX8_growth_7 ?_
  refine lv_idiv hx hb dX8_growth_8 (ice_nz hi) ?_
  refine lv_istore_n (lv' := [(3, .int ((20 * c) / (10 + i))), (0, .int k), (1, .int i), (2, .int c)]) hx hb dX8_growth_9 rfl hl (by decide) rfl (fun ls hl => ?_)
  refine lv_iload_n hx hb dX8_growth_10 rfl (lv_at hl 1 rfl) ?_
  refine lv_iconst (v := 1) hx hb dX8_growth_11 (by decide) ?_
  refine lv_icmp_ne (tgt := 23) hx hb dX8_growth_12 (by decide) (fun c_12 => ?_) (fun c_12 => ?_)
  · refine lv_iload_n hx hb dX8_growth_23 rfl (lv_at hl 1 rfl) ?_
    refine lv_iconst (v := 3) hx hb dX8_growth_24 (by decide) ?_
    refine lv_icmp_ne (tgt := 34) hx hb dX8_growth_25 (by decide) (fun c_25 => ?_) (fun c_25 => ?_)
    · refine lv_iload_n hx hb dX8_growth_34 rfl (lv_at hl 0 rfl) ?_
      exact kr ((20 * c) / (10 + i)) () _ _ _ _ hw (by unfold pGrow; rw [if_neg c_12, if_neg c_25]) dX8_growth_35
    · refine lv_iload_n hx hb dX8_growth_28 rfl (lv_at hl 0 rfl) ?_
      refine lv_iconst (v := 2) hx hb dX8_growth_29 (by decide) ?_
      refine lv_idiv hx hb dX8_growth_30 (by decide) ?_
      refine lv_goto (tgt := 35) hx hb dX8_growth_31 (by decide) ?_
      exact kr (((20 * c) / (10 + i)) / 2) () _ _ _ _ hw (by unfold pGrow; rw [if_neg c_12, if_pos c_25]) dX8_growth_35
  · refine lv_iload_n hx hb dX8_growth_15 rfl (lv_at hl 0 rfl) ?_
    refine lv_iload_n hx hb dX8_growth_16 rfl (lv_at hl 0 rfl) ?_
    refine lv_iconst (v := 2) hx hb dX8_growth_17 (by decide) ?_
    refine lv_idiv hx hb dX8_growth_18 (by decide) ?_
    refine lv_iadd hx hb dX8_growth_19 ?_
    refine lv_goto (tgt := 35) hx hb dX8_growth_20 (by decide) ?_
    exact kr (((20 * c) / (10 + i)) + (((20 * c) / (10 + i)) / 2)) () _ _ _ _ hw (by unfold pGrow; rw [if_pos c_12]) dX8_growth_35
set_option maxHeartbeats 4000000 in
set_option maxRecDepth 100000 in
theorem k_X8_openSet (l : Launch) (D : va_G) (c4 : Nat → ClassId) (A : Nat → Prop) (Ts : List va_W) (a : Nat → Nat) (n : Nat) (tx : Int32) (pl : Int32) (st : Int32) (va : Int32) (fy : Int32) (fa : Int32) (ry : Int32) (se : Int32) (bh : Int32) (mi : Int32) (fb : Int32) (bo : Int32) (bk : Int32) (w : Nat → Int32) (q : Nat → Yq) (hn : n ≤ 12) (hY : mY q n w 0) : Ci l yX8_openSet wsX8_openSet 0 0 [.ref (a 0)] D (tyA c4) A none ((mG a (nI n) tx pl st va fy fa ry se bh mi fb bo bk) :: (aG c4 (a 1) 204 w) :: Ts) (S := Unit) (fun (r : Int32) (u : Unit) => r = (nI (oset q n))) (fun u => ((mG a (nI n) tx pl st va fy fa ry se bh mi fb bo bk) :: (aG c4 (a 1) 204 w) :: Ts)) := by
  refine cOi (cc := cX8_openSet) (maxL := 3) (by decide) rfl (Nat.le_of_ble_eq_true rfl) rfl ?_
  rintro jp je js jm below meth jc ls args R Q H locs hRf hRl ⟨hx, hb, hml, hr, hts, hown, hlocks, hK, hX⟩ hw hl kr
  have hown : js.vm.findClass RX8 = some jm.cls := hown
  have f_0 := hts (.fieldLink RX8 60 "IceSwayModel" "yards" "I") (by decide +kernel)
  have f_1 := hts (.fieldLink RX8 7 "IceSwayModel" "w" "[I") (by decide +kernel)
  have hi8 : ∀ w ∈ u_ws RX8 TX8 28, w ∈ wsX8_openSet := fun w h => List.mem_cons_of_mem _ (List.mem_append_right _ h)
  refine lv_iconst (v := 0) hx hb dX8_openSet_0 (by decide) ?_
  refine lv_istore_n (lv' := [(1, .int 0), (0, .ref (a 0))]) hx hb dX8_openSet_1 rfl hl (by decide) rfl (fun ls hl => ?_)
  refine lv_iconst (v := 0) hx hb dX8_openSet_2 (by decide) ?_
  refine lv_istore_n (lv' := [(2, .int 0), (1, .int 0), (0, .ref (a 0))]) hx hb dX8_openSet_3 rfl hl (by decide) rfl (fun ls hl => ?_)
  have loop_4 : ∀ (fuel : Nat) (k : Nat), (n - k) < fuel → (k ≤ n) → ∀ (H : Heap) (locs : List Loc), gW D A js.heap ((mG a (nI n) tx pl st va fy fa ry se bh mi fb bo bk) :: (aG c4 (a 1) 204 w) :: Ts) H locs → ∀ (ls : Array Slot), lv_has ls 3 [(2, .int (nI k)), (1, .int (nI (oset q k))), (0, .ref (a 0))] → W jp l je R js jm args below meth jc H locs 0 0 Q (F0 jm 4 ls []) := by
    intro fuel
    induction fuel with
    | zero => intro k hm; exact absurd hm (Nat.not_lt_zero _)
    | succ fuel ih_4 =>
      intro k hm_4 hk H locs hw ls hl
      refine lv_iload_n hx hb dX8_openSet_4 rfl (lv_at hl 0 rfl) ?_
      refine lv_aload_n hx hb dX8_openSet_5 rfl (lv_at hl 2 rfl) ?_
      refine r_get (T := TX8) (v := .int (nI n)) hx hb hts hi8 hown hK hw 0 rfl rfl 2 (by decide) f_0 rfl dX8_openSet_6 ?_
      refine r_cge hx hb k n (by omega) (by omega) (tgt := 32) dX8_openSet_9 (by decide) (fun c_9 => ?_) (fun c_9 => ?_)
      · refine lv_iload_n hx hb dX8_openSet_32 rfl (lv_at hl 1 rfl) ?_
        exact kr (nI (oset q k)) () _ _ _ _ hw (by rw [show k = n by omega]) dX8_openSet_33
      · refine lv_iload_n hx hb dX8_openSet_12 rfl (lv_at hl 1 rfl) ?_
        refine lv_aload_n hx hb dX8_openSet_13 rfl (lv_at hl 2 rfl) ?_
        refine r_get (T := TX8) (v := .ref (a 1)) hx hb hts hi8 hown hK hw 0 rfl rfl 0 (by decide) f_1 rfl dX8_openSet_14 ?_
        refine lv_bipush (v := 36) hx hb dX8_openSet_17 (by decide) ?_
        refine lv_iload_n hx hb dX8_openSet_19 rfl (lv_at hl 0 rfl) ?_
        refine r_addN hx hb 36 k dX8_openSet_20 ?_
        refine r_iald hx hb hK hw 1 0 rfl rfl (36 + k) (by omega) (by decide) dX8_openSet_21 ?_
        refine lv_iload_n hx hb dX8_openSet_22 rfl (lv_at hl 0 rfl) ?_
        refine lv_ishl hx hb dX8_openSet_23 ?_
        refine lv_ior hx hb dX8_openSet_24 ?_
        refine r_top (y := nI (oset q (k + 1))) (by rw [(hY.a0 c_9).2.2.2]; exact op_bit hn c_9) ?_
        refine lv_istore_n (lv' := [(1, .int (nI (oset q (k + 1)))), (2, .int (nI k)), (0, .ref (a 0))]) hx hb dX8_openSet_25 rfl hl (by decide) rfl (fun ls hl => ?_)
        refine lv_iinc (v := (nI (k + 1))) (lv' := [(2, .int (nI (k + 1))), (1, .int (nI (oset q (k + 1)))), (0, .ref (a 0))]) hx hb dX8_openSet_26 hl (k := 1) rfl (nI_add _ _) (by decide) rfl (fun ls hl => ?_)
        refine lv_goto (tgt := 4) hx hb dX8_openSet_29 (by decide) ?_
        exact ih_4 (k + 1) (by omega) (by omega) _ _ hw ls (lv_sub hl [0, 1, 2] rfl)
  exact loop_4 ((n - 0) + 1) 0 (Nat.lt_succ_self _) (Nat.zero_le _) _ _ hw ls (lv_sub hl [0, 1, 2] rfl)
set_option maxHeartbeats 4000000 in
set_option maxRecDepth 100000 in
theorem k_X8_allIce (l : Launch) (D : va_G) (c4 : Nat → ClassId) (A : Nat → Prop) (Ts : List va_W) (a : Nat → Nat) (n : Nat) (tx : Int32) (pl : Int32) (st : Int32) (va : Int32) (fy : Int32) (fa : Int32) (ry : Int32) (se : Int32) (bh : Int32) (mi : Int32) (fb : Int32) (bo : Int32) (bk : Int32) (w : Nat → Int32) (q : Nat → Yq) (hn : n ≤ 12) (hY : mY q n w 0) : Ci l yX8_allIce wsX8_allIce 0 0 [.ref (a 0)] D (tyA c4) A none ((mG a (nI n) tx pl st va fy fa ry se bh mi fb bo bk) :: (aG c4 (a 1) 204 w) :: Ts) (S := Unit) (fun (r : Int32) (u : Unit) => r = (sumI q n)) (fun u => ((mG a (nI n) tx pl st va fy fa ry se bh mi fb bo bk) :: (aG c4 (a 1) 204 w) :: Ts)) := by
  refine cOi (cc := cX8_allIce) (maxL := 3) (by decide) rfl (Nat.le_of_ble_eq_true rfl) rfl ?_
  rintro jp je js jm below meth jc ls args R Q H locs hRf hRl ⟨hx, hb, hml, hr, hts, hown, hlocks, hK, hX⟩ hw hl kr
  have hown : js.vm.findClass RX8 = some jm.cls := hown
  have f_0 := hts (.fieldLink RX8 60 "IceSwayModel" "yards" "I") (by decide +kernel)
  have f_1 := hts (.fieldLink RX8 7 "IceSwayModel" "w" "[I") (by decide +kernel)
  have hi8 : ∀ w ∈ u_ws RX8 TX8 28, w ∈ wsX8_allIce := fun w h => List.mem_cons_of_mem _ (List.mem_append_right _ h)
  refine lv_iconst (v := 0) hx hb dX8_allIce_0 (by decide) ?_
  refine lv_istore_n (lv' := [(1, .int 0), (0, .ref (a 0))]) hx hb dX8_allIce_1 rfl hl (by decide) rfl (fun ls hl => ?_)
  refine lv_iconst (v := 0) hx hb dX8_allIce_2 (by decide) ?_
  refine lv_istore_n (lv' := [(2, .int 0), (1, .int 0), (0, .ref (a 0))]) hx hb dX8_allIce_3 rfl hl (by decide) rfl (fun ls hl => ?_)
  have loop_4 : ∀ (fuel : Nat) (k : Nat), (n - k) < fuel → (k ≤ n) → ∀ (H : Heap) (locs : List Loc), gW D A js.heap ((mG a (nI n) tx pl st va fy fa ry se bh mi fb bo bk) :: (aG c4 (a 1) 204 w) :: Ts) H locs → ∀ (ls : Array Slot), lv_has ls 3 [(2, .int (nI k)), (1, .int (sumI q k)), (0, .ref (a 0))] → W jp l je R js jm args below meth jc H locs 0 0 Q (F0 jm 4 ls []) := by
    intro fuel
    induction fuel with
    | zero => intro k hm; exact absurd hm (Nat.not_lt_zero _)
    | succ fuel ih_4 =>
      intro k hm_4 hk H locs hw ls hl
      refine lv_iload_n hx hb dX8_allIce_4 rfl (lv_at hl 0 rfl) ?_
      refine lv_aload_n hx hb dX8_allIce_5 rfl (lv_at hl 2 rfl) ?_
      refine r_get (T := TX8) (v := .int (nI n)) hx hb hts hi8 hown hK hw 0 rfl rfl 2 (by decide) f_0 rfl dX8_allIce_6 ?_
      refine r_cge hx hb k n (by omega) (by omega) (tgt := 29) dX8_allIce_9 (by decide) (fun c_9 => ?_) (fun c_9 => ?_)
      · refine lv_iload_n hx hb dX8_allIce_29 rfl (lv_at hl 1 rfl) ?_
        exact kr (sumI q k) () _ _ _ _ hw (by rw [show k = n by omega]) dX8_allIce_30
      · refine lv_iload_n hx hb dX8_allIce_12 rfl (lv_at hl 1 rfl) ?_
        refine lv_aload_n hx hb dX8_allIce_13 rfl (lv_at hl 2 rfl) ?_
        refine r_get (T := TX8) (v := .ref (a 1)) hx hb hts hi8 hown hK hw 0 rfl rfl 0 (by decide) f_1 rfl dX8_allIce_14 ?_
        refine lv_iconst (v := 0) hx hb dX8_allIce_17 (by decide) ?_
        refine lv_iload_n hx hb dX8_allIce_18 rfl (lv_at hl 0 rfl) ?_
        refine r_addN hx hb 0 k dX8_allIce_19 ?_
        refine r_iald hx hb hK hw 1 0 rfl rfl (0 + k) (by omega) (by decide) dX8_allIce_20 ?_
        refine lv_iadd hx hb dX8_allIce_21 ?_
        refine r_top (y := sumI q (k + 1)) (by rw [(hY.a0 c_9).1]; rfl) ?_
        refine lv_istore_n (lv' := [(1, .int (sumI q (k + 1))), (2, .int (nI k)), (0, .ref (a 0))]) hx hb dX8_allIce_22 rfl hl (by decide) rfl (fun ls hl => ?_)
        refine lv_iinc (v := (nI (k + 1))) (lv' := [(2, .int (nI (k + 1))), (1, .int (sumI q (k + 1))), (0, .ref (a 0))]) hx hb dX8_allIce_23 hl (k := 1) rfl (nI_add _ _) (by decide) rfl (fun ls hl => ?_)
        refine lv_goto (tgt := 4) hx hb dX8_allIce_26 (by decide) ?_
        exact ih_4 (k + 1) (by omega) (by omega) _ _ hw ls (lv_sub hl [0, 1, 2] rfl)
  exact loop_4 ((n - 0) + 1) 0 (Nat.lt_succ_self _) (Nat.zero_le _) _ _ hw ls (lv_sub hl [0, 1, 2] rfl)
set_option maxHeartbeats 4000000 in
set_option maxRecDepth 100000 in
theorem k_X8_yard (l : Launch) (D : va_G) (c4 : Nat → ClassId) (A : Nat → Prop) (Ts : List va_W) (a : Nat → Nat) (n : Nat) (tx : Int32) (pl : Int32) (st : Int32) (va : Int32) (fy : Int32) (fa : Int32) (ry : Int32) (se : Int32) (bh : Int32) (mi : Int32) (fb : Int32) (bo : Int32) (bk : Int32) (w : Nat → Int32) (q : Nat → Yq) (y : Int32) (v : Int32) (hn : n ≤ 12) (hY : mY q n w 0) : Ci l yX8_yard wsX8_yard 2 46 [.ref (a 0), .int y, .int v] D (tyA c4) A none ((mG a (nI n) tx pl st va fy fa ry se bh mi fb bo bk) :: (aG c4 (a 1) 204 w) :: Ts) (S := Unit) (fun (r : Int32) (u : Unit) => r = (yardF q n y v)) (fun u => ((mG a (nI n) tx pl st va fy fa ry se bh mi fb bo bk) :: (aG c4 (a 1) 204 w) :: Ts)) := by
  refine cOi (cc := cX8_yard) (maxL := 3) (by decide) rfl (Nat.le_of_ble_eq_true rfl) rfl ?_
  rintro jp je js jm below meth jc ls args R Q H locs hRf hRl ⟨hx, hb, hml, hr, hts, hown, hlocks, hK, hX⟩ hw hl kr
  have hown : js.vm.findClass RX8 = some jm.cls := hown
  have f_0 := hts (.constant RX8 83 (-1000000002)) (by decide +kernel)
  have f_1 := hts (.fieldLink RX8 7 "IceSwayModel" "w" "[I") (by decide +kernel)
  have f_2 := hts (.constant RX8 152 (-1000000001)) (by decide +kernel)
  have hi8 : ∀ w ∈ u_ws RX8 TX8 28, w ∈ wsX8_yard := fun w h => List.mem_cons_of_mem _ (List.mem_append_right _ h)
  refine lv_aload_n hx hb dX8_yard_0 rfl (lv_at hl 0 rfl) ?_
  refine lv_iload_n hx hb dX8_yard_1 rfl (lv_at hl 1 rfl) ?_
  refine c_vi (As := [.int y]) (rest := []) ⟨hx, hb, hml, hown, hts⟩ (k_X8_isYard l D c4 A ((aG c4 (a 1) 204 w) :: Ts) a n tx pl st va fy fa ry se bh mi fb bo bk y hn) (cwV 1 hts gX8_yard_X8_isYard rfl rfl rfl (by decide +kernel) (rmv (Nat.le_of_ble_eq_true rfl) (Nat.le_of_ble_eq_true rfl) hRf hRl)) hK trivial hw rfl rfl rfl hl rfl (Nat.le_of_ble_eq_true rfl) ⟨Nat.zero_le _, Nat.zero_le _⟩ dX8_yard_2 (fun r_2 u_2 H locs hpq hw => ?_)
  obtain ⟨h0_2, h1_2⟩ := hpq
  refine lv_if_ne (tgt := 11) hx hb dX8_yard_5 (by decide) (fun c_5 => ?_) (fun c_5 => ?_)
  · obtain ⟨k, hk, ek⟩ := h1_2 c_5
    refine lv_iload_n hx hb dX8_yard_11 rfl (lv_at hl 2 rfl) ?_
    refine lv_if_ne (tgt := 27) hx hb dX8_yard_12 (by decide) (fun c_12 => ?_) (fun c_12 => ?_)
    · refine lv_iload_n hx hb dX8_yard_27 rfl (lv_at hl 2 rfl) ?_
      refine lv_iconst (v := 1) hx hb dX8_yard_28 (by decide) ?_
      refine lv_icmp_ne (tgt := 43) hx hb dX8_yard_29 (by decide) (fun c_29 => ?_) (fun c_29 => ?_)
      · refine lv_iload_n hx hb dX8_yard_43 rfl (lv_at hl 2 rfl) ?_
        refine lv_iconst (v := 2) hx hb dX8_yard_44 (by decide) ?_
        refine lv_icmp_ne (tgt := 70) hx hb dX8_yard_45 (by decide) (fun c_45 => ?_) (fun c_45 => ?_)
        · refine lv_ldc hx hb hown f_0 dX8_yard_70 ?_
          exact kr (-1000000002) () _ _ _ _ hw (by rw [yd_at ek hk hn, if_neg c_12, if_neg c_29, if_neg c_45]) dX8_yard_72
        · refine lv_aload_n hx hb dX8_yard_48 rfl (lv_at hl 0 rfl) ?_
          refine r_get (T := TX8) (v := .ref (a 1)) hx hb hts hi8 hown hK hw 0 rfl rfl 0 (by decide) f_1 rfl dX8_yard_49 ?_
          refine lv_bipush (v := 36) hx hb dX8_yard_52 (by decide) ?_
          refine lv_iload_n hx hb dX8_yard_54 rfl (lv_at hl 1 rfl) ?_
          refine r_top (y := nI k) ek ?_
          refine r_addN hx hb 36 k dX8_yard_55 ?_
          refine r_iald hx hb hK hw 1 0 rfl rfl (36 + k) (by omega) (by decide) dX8_yard_56 ?_
          refine lv_aload_n hx hb dX8_yard_57 rfl (lv_at hl 0 rfl) ?_
          refine r_get (T := TX8) (v := .ref (a 1)) hx hb hts hi8 hown hK hw 0 rfl rfl 0 (by decide) f_1 rfl dX8_yard_58 ?_
          refine lv_bipush (v := 24) hx hb dX8_yard_61 (by decide) ?_
          refine lv_iload_n hx hb dX8_yard_63 rfl (lv_at hl 1 rfl) ?_
          refine r_top (y := nI k) ek ?_
          refine r_addN hx hb 24 k dX8_yard_64 ?_
          refine r_iald hx hb hK hw 1 0 rfl rfl (24 + k) (by omega) (by decide) dX8_yard_65 ?_
          refine lv_imul hx hb dX8_yard_66 ?_
          refine lv_goto (tgt := 72) hx hb dX8_yard_67 (by decide) ?_
          exact kr ((w (36 + k)) * (w (24 + k))) () _ _ _ _ hw (by rw [yd_at ek hk hn, if_neg c_12, if_neg c_29, if_pos c_45, (hY.a0 hk).2.2.1, (hY.a0 hk).2.2.2]; exact yb_mul (hY k hk).1) dX8_yard_72
      · refine lv_aload_n hx hb dX8_yard_32 rfl (lv_at hl 0 rfl) ?_
        refine r_get (T := TX8) (v := .ref (a 1)) hx hb hts hi8 hown hK hw 0 rfl rfl 0 (by decide) f_1 rfl dX8_yard_33 ?_
        refine lv_iconst (v := 0) hx hb dX8_yard_36 (by decide) ?_
        refine lv_iload_n hx hb dX8_yard_37 rfl (lv_at hl 1 rfl) ?_
        refine r_top (y := nI k) ek ?_
        refine r_addN hx hb 0 k dX8_yard_38 ?_
        refine r_iald hx hb hK hw 1 0 rfl rfl (0 + k) (by omega) (by decide) dX8_yard_39 ?_
        refine lv_goto (tgt := 72) hx hb dX8_yard_40 (by decide) ?_
        exact kr (w (0 + k)) () _ _ _ _ hw (by rw [yd_at ek hk hn, if_neg c_12, if_pos c_29]; exact (hY.a0 hk).1) dX8_yard_72
    · refine lv_aload_n hx hb dX8_yard_15 rfl (lv_at hl 0 rfl) ?_
      refine r_get (T := TX8) (v := .ref (a 1)) hx hb hts hi8 hown hK hw 0 rfl rfl 0 (by decide) f_1 rfl dX8_yard_16 ?_
      refine lv_bipush (v := 12) hx hb dX8_yard_19 (by decide) ?_
      refine lv_iload_n hx hb dX8_yard_21 rfl (lv_at hl 1 rfl) ?_
      refine r_top (y := nI k) ek ?_
      refine r_addN hx hb 12 k dX8_yard_22 ?_
      refine r_iald hx hb hK hw 1 0 rfl rfl (12 + k) (by omega) (by decide) dX8_yard_23 ?_
      refine lv_goto (tgt := 72) hx hb dX8_yard_24 (by decide) ?_
      exact kr (w (12 + k)) () _ _ _ _ hw (by rw [yd_at ek hk hn, if_pos c_12]; exact (hY.a0 hk).2.1) dX8_yard_72
  · refine lv_ldc hx hb hown f_2 dX8_yard_8 ?_
    exact kr (-1000000001) () _ _ _ _ hw (by unfold yardF; rw [if_neg (h0_2 c_5)]) dX8_yard_10
set_option maxHeartbeats 4000000 in
set_option maxRecDepth 100000 in
theorem k_X8_grows (l : Launch) (D : va_G) (c4 : Nat → ClassId) (A : Nat → Prop) (Ts : List va_W) (a : Nat → Nat) (n : Nat) (tx : Int32) (pl : Int32) (st : Int32) (va : Int32) (fy : Int32) (fa : Int32) (ry : Int32) (se : Int32) (bh : Int32) (mi : Int32) (fb : Int32) (bo : Int32) (bk : Int32) (w : Nat → Int32) (q : Nat → Yq) (y : Int32) (c : Int32) (hn : n ≤ 12) (hY : mY q n w 0) : Ci l yX8_grows wsX8_grows 2 46 [.ref (a 0), .int y, .int c] D (tyA c4) A none ((mG a (nI n) tx pl st va fy fa ry se bh mi fb bo bk) :: (aG c4 (a 1) 204 w) :: Ts) (S := Unit) (fun (r : Int32) (u : Unit) => r = (growF q n y c)) (fun u => ((mG a (nI n) tx pl st va fy fa ry se bh mi fb bo bk) :: (aG c4 (a 1) 204 w) :: Ts)) := by
  refine cOi (cc := cX8_grows) (maxL := 3) (by decide) rfl (Nat.le_of_ble_eq_true rfl) rfl ?_
  rintro jp je js jm below meth jc ls args R Q H locs hRf hRl ⟨hx, hb, hml, hr, hts, hown, hlocks, hK, hX⟩ hw hl kr
  have hown : js.vm.findClass RX8 = some jm.cls := hown
  have f_0 := hts (.constantLong RX8 153 (30)) (by decide +kernel)
  have f_1 := hts (.constant RX8 83 (-1000000002)) (by decide +kernel)
  have f_2 := hts (.fieldLink RX8 7 "IceSwayModel" "w" "[I") (by decide +kernel)
  have f_3 := hts (.constant RX8 152 (-1000000001)) (by decide +kernel)
  have hi8 : ∀ w ∈ u_ws RX8 TX8 28, w ∈ wsX8_grows := fun w h => List.mem_cons_of_mem _ (List.mem_append_right _ h)
  refine lv_aload_n hx hb dX8_grows_0 rfl (lv_at hl 0 rfl) ?_
  refine lv_iload_n hx hb dX8_grows_1 rfl (lv_at hl 1 rfl) ?_
  refine c_vi (As := [.int y]) (rest := []) ⟨hx, hb, hml, hown, hts⟩ (k_X8_isYard l D c4 A ((aG c4 (a 1) 204 w) :: Ts) a n tx pl st va fy fa ry se bh mi fb bo bk y hn) (cwV 1 hts gX8_grows_X8_isYard rfl rfl rfl (by decide +kernel) (rmv (Nat.le_of_ble_eq_true rfl) (Nat.le_of_ble_eq_true rfl) hRf hRl)) hK trivial hw rfl rfl rfl hl rfl (Nat.le_of_ble_eq_true rfl) ⟨Nat.zero_le _, Nat.zero_le _⟩ dX8_grows_2 (fun r_2 u_2 H locs hpq hw => ?_)
  obtain ⟨h0_2, h1_2⟩ := hpq
  refine lv_if_ne (tgt := 11) hx hb dX8_grows_5 (by decide) (fun c_5 => ?_) (fun c_5 => ?_)
  · obtain ⟨k, hk, ek⟩ := h1_2 c_5
    refine lv_iload_n hx hb dX8_grows_11 rfl (lv_at hl 2 rfl) ?_
    refine lv_i2l hx hb dX8_grows_12 rfl ?_
    refine lv_lconst (v := 0) hx hb dX8_grows_13 (by decide) ?_
    refine lv_ldc2 hx hb hown f_0 dX8_grows_14 ?_
    refine c_si (As := [.long c.toInt64, .long 0, .long 30]) (rest := []) ⟨hx, hb, hml, hown, hts⟩ (k_X8_in l D c4 A ((mG a (nI n) tx pl st va fy fa ry se bh mi fb bo bk) :: (aG c4 (a 1) 204 w) :: Ts) c.toInt64 0 30) (va_cwS 3 hts gX8_grows_X8_in rfl rfl rfl (by decide +kernel) (rmv (Nat.le_of_ble_eq_true rfl) (Nat.le_of_ble_eq_true rfl) hRf hRl)) hK trivial hw rfl hl rfl (Nat.le_of_ble_eq_true rfl) ⟨Nat.zero_le _, Nat.zero_le _⟩ dX8_grows_17 (fun r_17 u_17 H locs hpq hw => ?_)
    obtain ⟨h0_17, h1_17, hz_17⟩ := hpq
    refine lv_if_eq (tgt := 47) hx hb dX8_grows_20 (by decide) (fun c_20 => ?_) (fun c_20 => ?_)
    · refine lv_ldc hx hb hown f_1 dX8_grows_47 ?_
      exact kr (-1000000002) () _ _ _ _ hw (by rw [gr_at ek hk hn, if_neg (fun z => h0_17 c_20 ((inL (lo := 0) (hi := 30) rfl rfl).mpr z))]) dX8_grows_49
    · refine lv_aload_n hx hb dX8_grows_23 rfl (lv_at hl 0 rfl) ?_
      refine r_get (T := TX8) (v := .ref (a 1)) hx hb hts hi8 hown hK hw 0 rfl rfl 0 (by decide) f_2 rfl dX8_grows_24 ?_
      refine lv_bipush (v := 12) hx hb dX8_grows_27 (by decide) ?_
      refine lv_iload_n hx hb dX8_grows_29 rfl (lv_at hl 1 rfl) ?_
      refine r_top (y := nI k) ek ?_
      refine r_addN hx hb 12 k dX8_grows_30 ?_
      refine r_iald hx hb hK hw 1 0 rfl rfl (12 + k) (by omega) (by decide) dX8_grows_31 ?_
      refine lv_aload_n hx hb dX8_grows_32 rfl (lv_at hl 0 rfl) ?_
      refine r_get (T := TX8) (v := .ref (a 1)) hx hb hts hi8 hown hK hw 0 rfl rfl 0 (by decide) f_2 rfl dX8_grows_33 ?_
      refine lv_iconst (v := 0) hx hb dX8_grows_36 (by decide) ?_
      refine lv_iload_n hx hb dX8_grows_37 rfl (lv_at hl 1 rfl) ?_
      refine r_top (y := nI k) ek ?_
      refine r_addN hx hb 0 k dX8_grows_38 ?_
      refine r_iald hx hb hK hw 1 0 rfl rfl (0 + k) (by omega) (by decide) dX8_grows_39 ?_
      refine lv_iload_n hx hb dX8_grows_40 rfl (lv_at hl 2 rfl) ?_
      refine c_si (As := [.int (w (12 + k)), .int (w (0 + k)), .int c]) (rest := []) ⟨hx, hb, hml, hown, hts⟩ (k_X8_growth l D c4 A ((mG a (nI n) tx pl st va fy fa ry se bh mi fb bo bk) :: (aG c4 (a 1) 204 w) :: Ts) (w (12 + k)) (w (0 + k)) c (by rw [(hY.a0 hk).1]; exact (hY k hk).1.1)) (va_cwS 3 hts gX8_grows_X8_growth rfl rfl rfl (by decide +kernel) (rmv (Nat.le_of_ble_eq_true rfl) (Nat.le_of_ble_eq_true rfl) hRf hRl)) hK trivial hw rfl hl rfl (Nat.le_of_ble_eq_true rfl) ⟨Nat.zero_le _, Nat.zero_le _⟩ dX8_grows_41 (fun r_41 u_41 H locs hpq hw => ?_)
      have er_41 := hpq
      subst er_41
      refine lv_goto (tgt := 49) hx hb dX8_grows_44 (by decide) ?_
      exact kr (pGrow (w (12 + k)) (w (0 + k)) c) () _ _ _ _ hw (by rw [gr_at ek hk hn, if_pos ((inL (lo := 0) (hi := 30) rfl rfl).mp (h1_17 c_20)), (hY.a0 hk).1, (hY.a0 hk).2.1]) dX8_grows_49
  · refine lv_ldc hx hb hown f_3 dX8_grows_8 ?_
    exact kr (-1000000001) () _ _ _ _ hw (by unfold growF; rw [if_neg (h0_2 c_5)]) dX8_grows_10
set_option maxHeartbeats 4000000 in
set_option maxRecDepth 100000 in
theorem k_X8_beat (l : Launch) (D : va_G) (c4 : Nat → ClassId) (A : Nat → Prop) (Ts : List va_W) (a : Nat → Nat) (yn : Int32) (tx : Int32) (pl : Int32) (st : Int32) (va : Int32) (fy : Int32) (fa : Int32) (ry : Int32) (se : Int32) (bh : Int32) (mi : Int32) (fb : Int32) (bo : Int32) (bk : Int32) (told : Nat → Int32) (w : Nat → Int32) (b : Int32) (hT : tlOk told) (hbt : rng (w 48) 1 9) : Ci l yX8_beat wsX8_beat 2 45 [.ref (a 0), .int b] D (tyA c4) A none ((mG a yn tx pl st va fy fa ry se bh mi fb bo bk) :: (aG c4 (a 2) 18 told) :: (aG c4 (a 1) 204 w) :: Ts) (S := (Nat → Int32)) (fun (r : Int32) (u : (Nat → Int32)) => (beatF b (w 48) told = (r, u 48)) ∧ (∀ j, ¬ j = 48 → u j = w j)) (fun u => ((mG a yn tx pl st va fy fa ry se bh mi fb bo bk) :: (aG c4 (a 2) 18 told) :: (aG c4 (a 1) 204 u) :: Ts)) := by
  refine cOi (cc := cX8_beat) (maxL := 2) (by decide) rfl (Nat.le_of_ble_eq_true rfl) rfl ?_
  rintro jp je js jm below meth jc ls args R Q H locs hRf hRl ⟨hx, hb, hml, hr, hts, hown, hlocks, hK, hX⟩ hw hl kr
  have hown : js.vm.findClass RX8 = some jm.cls := hown
  have f_0 := hts (.constantLong RX8 147 (9)) (by decide +kernel)
  have f_1 := hts (.fieldLink RX8 7 "IceSwayModel" "w" "[I") (by decide +kernel)
  have f_2 := hts (.constant RX8 83 (-1000000002)) (by decide +kernel)
  have hi8 : ∀ w ∈ u_ws RX8 TX8 28, w ∈ wsX8_beat := fun w h => List.mem_cons_of_mem _ (List.mem_append_right _ h)
  refine lv_iload_n hx hb dX8_beat_0 rfl (lv_at hl 1 rfl) ?_
  refine lv_i2l hx hb dX8_beat_1 rfl ?_
  refine lv_lconst (v := 1) hx hb dX8_beat_2 (by decide) ?_
  refine lv_ldc2 hx hb hown f_0 dX8_beat_3 ?_
  refine c_si (As := [.long b.toInt64, .long 1, .long 9]) (rest := []) ⟨hx, hb, hml, hown, hts⟩ (k_X8_in l D c4 A ((mG a yn tx pl st va fy fa ry se bh mi fb bo bk) :: (aG c4 (a 2) 18 told) :: (aG c4 (a 1) 204 w) :: Ts) b.toInt64 1 9) (va_cwS 3 hts gX8_beat_X8_in rfl rfl rfl (by decide +kernel) (rmv (Nat.le_of_ble_eq_true rfl) (Nat.le_of_ble_eq_true rfl) hRf hRl)) hK trivial hw rfl hl rfl (Nat.le_of_ble_eq_true rfl) ⟨Nat.zero_le _, Nat.zero_le _⟩ dX8_beat_6 (fun r_6 u_6 H locs hpq hw => ?_)
  obtain ⟨h0_6, h1_6, hz_6⟩ := hpq
  refine lv_if_ne (tgt := 15) hx hb dX8_beat_9 (by decide) (fun c_9 => ?_) (fun c_9 => ?_)
  · have hin : inR b 1 9 := (inL (lo := 1) (hi := 9) rfl rfl).mp (h1_6 c_9)
    have hb9 : rng (upd w 48 b 48) 1 9 := by rw [pk_us']; exact hin.I
    refine lv_aload_n hx hb dX8_beat_15 rfl (lv_at hl 0 rfl) ?_
    refine r_get (T := TX8) (v := .ref (a 1)) hx hb hts hi8 hown hK hw 0 rfl rfl 0 (by decide) f_1 rfl dX8_beat_16 ?_
    refine lv_bipush (v := 48) hx hb dX8_beat_19 (by decide) ?_
    refine lv_iload_n hx hb dX8_beat_21 rfl (lv_at hl 1 rfl) ?_
    refine r_iast (G' := ((mG a yn tx pl st va fy fa ry se bh mi fb bo bk) :: (aG c4 (a 2) 18 told) :: (aG c4 (a 1) 204 (upd w 48 b)) :: Ts)) hx hb hK hw 2 0 rfl rfl 48 (by omega) (by decide) rfl dX8_beat_22 (fun H locs hw => ?_)
    refine lv_aload_n hx hb dX8_beat_23 rfl (lv_at hl 0 rfl) ?_
    have hw := hw.m2
    have hw := hw.m2
    have hw := hw.m2
    refine c_vi (As := []) (rest := []) ⟨hx, hb, hml, hown, hts⟩ (k_X8_forceNow l D c4 A Ts a yn tx pl st va fy fa ry se bh mi fb bo bk told (upd w 48 b) hT hb9) (cwV 0 hts gX8_beat_X8_forceNow rfl rfl rfl (by decide +kernel) (rmv (Nat.le_of_ble_eq_true rfl) (Nat.le_of_ble_eq_true rfl) hRf hRl)) hK trivial hw rfl rfl rfl hl rfl (Nat.le_of_ble_eq_true rfl) ⟨Nat.zero_le _, Nat.zero_le _⟩ dX8_beat_24 (fun r_24 u_24 H locs hpq hw => ?_)
    have er_24 := hpq
    subst er_24
    exact kr (pForce told ((upd w 48 b) 48)) ((upd w 48 b)) _ _ _ _ hw ⟨(by unfold beatF; rw [if_pos hin, pk_us']), (fun j hj => pk_un' _ _ hj)⟩ dX8_beat_27
  · refine lv_ldc hx hb hown f_2 dX8_beat_12 ?_
    exact kr (-1000000002) (w) _ _ _ _ hw ⟨(by unfold beatF; rw [if_neg (fun z => h0_6 c_9 ((inL (lo := 1) (hi := 9) rfl rfl).mpr z))]), (fun _ _ => rfl)⟩ dX8_beat_14
