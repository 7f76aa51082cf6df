set_option maxHeartbeats 4000000 in
set_option maxRecDepth 100000 in
theorem k_X8_drift (l : Launch) (D : va_G) (c4 : Nat → ClassId) (A : Nat → Prop) (Ts : List va_W) (a : Nat → Nat) (n : Nat) (tx : Int32) (pl : Int32) (st : Int32) (va : Int32) (fy : Int32) (fa : Int32) (ry : Int32) (se : Int32) (bh : Int32) (mi : Int32) (fb : Int32) (bo : Int32) (bk : Int32) (w : Nat → Int32) (q : Nat → Yq) (k : Int32) (hn : n ≤ 12) (hY : mY q n w 0) (hsd : sdOk (w 50)) : Ci l yX8_drift wsX8_drift 2 47 [.ref (a 0), .int k] D (tyA c4) A none ((mG a (nI n) tx pl st va fy fa ry se bh mi fb bo bk) :: (aG c4 (a 1) 204 w) :: Ts) (S := (Nat → Int32)) (fun (r : Int32) (u : (Nat → Int32)) => ∃ q2, driftF k (w 49) (w 50) q n = (r, u 49, u 50, q2) ∧ mY q2 n u 0 ∧ (∀ j, (j = 48 ∨ 51 ≤ j) → u j = w j)) (fun u => ((mG a (nI n) tx pl st va fy fa ry se bh mi fb bo bk) :: (aG c4 (a 1) 204 u) :: Ts)) := by
  refine cOi (cc := cX8_drift) (maxL := 3) (by decide) rfl (Nat.le_of_ble_eq_true rfl) rfl ?_
  rintro jp je js jm below meth jc ls args R Q H locs hRf hRl ⟨hx, hb, hml, hr, hts, hown, hlocks, hK, hX⟩ hw hl kr
  have hown : js.vm.findClass RX8 = some jm.cls := hown
  have f_0 := hts (.constantLong RX8 163 (99)) (by decide +kernel)
  have f_1 := hts (.fieldLink RX8 7 "IceSwayModel" "w" "[I") (by decide +kernel)
  have f_2 := hts (.constant RX8 87 (-1000000004)) (by decide +kernel)
  have f_3 := hts (.constant RX8 83 (-1000000002)) (by decide +kernel)
  have hi8 : ∀ w ∈ u_ws RX8 TX8 28, w ∈ wsX8_drift := fun w h => List.mem_cons_of_mem _ (List.mem_append_right _ h)
  refine lv_iload_n hx hb dX8_drift_0 rfl (lv_at hl 1 rfl) ?_
  refine lv_i2l hx hb dX8_drift_1 rfl ?_
  refine lv_lconst (v := 1) hx hb dX8_drift_2 (by decide) ?_
  refine lv_ldc2 hx hb hown f_0 dX8_drift_3 ?_
  refine c_si (As := [.long k.toInt64, .long 1, .long 99]) (rest := []) ⟨hx, hb, hml, hown, hts⟩ (k_X8_in l D c4 A ((mG a (nI n) tx pl st va fy fa ry se bh mi fb bo bk) :: (aG c4 (a 1) 204 w) :: Ts) k.toInt64 1 99) (va_cwS 3 hts gX8_drift_X8_in rfl rfl rfl (by decide +kernel) (rmv (Nat.le_of_ble_eq_true rfl) (Nat.le_of_ble_eq_true rfl) hRf hRl)) hK trivial hw rfl hl rfl (Nat.le_of_ble_eq_true rfl) ⟨Nat.zero_le _, Nat.zero_le _⟩ dX8_drift_6 (fun r_6 u_6 H locs hpq hw => ?_)
  obtain ⟨h0_6, h1_6, hz_6⟩ := hpq
  refine lv_if_ne (tgt := 15) hx hb dX8_drift_9 (by decide) (fun c_9 => ?_) (fun c_9 => ?_)
  · have hck : inR k 1 99 := ((inL (lo := 1) (hi := 99) rfl rfl).mp (h1_6 c_9))
    refine lv_aload_n hx hb dX8_drift_15 rfl (lv_at hl 0 rfl) ?_
    refine r_get (T := TX8) (v := .ref (a 1)) hx hb hts hi8 hown hK hw 0 rfl rfl 0 (by decide) f_1 rfl dX8_drift_16 ?_
    refine lv_bipush (v := 49) hx hb dX8_drift_19 (by decide) ?_
    refine r_iald hx hb hK hw 1 0 rfl rfl 49 (by omega) (by decide) dX8_drift_21 ?_
    refine lv_sipush (v := 9000) hx hb dX8_drift_22 (by decide) ?_
    refine lv_icmp_le (tgt := 31) hx hb dX8_drift_25 (by decide) (fun c_25 => ?_) (fun c_25 => ?_)
    · obtain ⟨j, hj1, hj9, ej⟩ := hck.nat (a := 1) (b := 99) rfl rfl
      refine lv_iconst (v := 0) hx hb dX8_drift_31 (by decide) ?_
      refine lv_istore_n (lv' := [(2, .int 0), (0, .ref (a 0)), (1, .int k)]) hx hb dX8_drift_32 rfl hl (by decide) rfl (fun ls hl => ?_)
      have loop_33 : ∀ (fuel : Nat) (i : Nat) (w1 : Nat → Int32), (j - i) < fuel → (i ≤ j) → (mY (fun y => drI (w 50) i (q y)) n w1 0) → (w1 49 = w 49 + nI i) → (w1 50 = sdI (w 50) i) → (∀ j, (j = 48 ∨ 51 ≤ j) → w1 j = w j) → ∀ (H : Heap) (locs : List Loc), gW D A js.heap ((mG a (nI n) tx pl st va fy fa ry se bh mi fb bo bk) :: (aG c4 (a 1) 204 w1) :: Ts) H locs → ∀ (ls : Array Slot), lv_has ls 3 [(2, .int (nI i)), (0, .ref (a 0)), (1, .int k)] → W jp l je R js jm args below meth jc H locs 0 0 Q (F0 jm 33 ls []) := by
        intro fuel
        induction fuel with
        | zero => intro i w1 hm; exact absurd hm (Nat.not_lt_zero _)
        | succ fuel ih_33 =>
          intro i w1 hm_33 hi hMi hNi hSi hOi H locs hw ls hl
          refine lv_iload_n hx hb dX8_drift_33 rfl (lv_at hl 0 rfl) ?_
          refine lv_iload_n hx hb dX8_drift_34 rfl (lv_at hl 2 rfl) ?_
          refine r_top (y := nI j) ej ?_
          refine r_cge hx hb i j (by omega) (by omega) (tgt := 77) dX8_drift_35 (by decide) (fun c_35 => ?_) (fun c_35 => ?_)
          · refine lv_aload_n hx hb dX8_drift_77 rfl (lv_at hl 1 rfl) ?_
            have hw := hw.m1
            have hw := hw.m1
            refine c_vi (As := []) (rest := []) ⟨hx, hb, hml, hown, hts⟩ (k_X8_allIce l D c4 A Ts a n tx pl st va fy fa ry se bh mi fb bo bk w1 (fun y => drI (w 50) i (q y)) hn hMi) (cwV 0 hts gX8_drift_X8_allIce rfl rfl rfl (by decide +kernel) (rmv (Nat.le_of_ble_eq_true rfl) (Nat.le_of_ble_eq_true rfl) hRf hRl)) hK trivial hw rfl rfl rfl hl rfl (Nat.le_of_ble_eq_true rfl) ⟨Nat.zero_le _, Nat.zero_le _⟩ dX8_drift_78 (fun r_78 u_78 H locs hpq hw => ?_)
            have er_78 := hpq
            subst er_78
            exact kr (sumI (fun y => drI (w 50) i (q y)) n) (w1) _ _ _ _ hw ⟨_, by rw [hNi, hSi]; exact df_ok hck c_25 ej hj9 (by omega), hMi, hOi⟩ dX8_drift_81
          · refine lv_aload_n hx hb dX8_drift_38 rfl (lv_at hl 1 rfl) ?_
            refine lv_iconst (v := 5) hx hb dX8_drift_39 (by decide) ?_
            have hw := hw.m1
            have hw := hw.m1
            refine c_vi (As := [.int 5]) (rest := []) ⟨hx, hb, hml, hown, hts⟩ (k_X8_draw l D c4 A Ts a (nI n) tx pl st va fy fa ry se bh mi fb bo bk w1 5 (by decide) (by rw [hSi]; exact sdI_ok hsd i)) (cwV 1 hts gX8_drift_X8_draw rfl rfl rfl (by decide +kernel) (rmv (Nat.le_of_ble_eq_true rfl) (Nat.le_of_ble_eq_true rfl) hRf hRl)) hK trivial hw rfl rfl rfl hl rfl (Nat.le_of_ble_eq_true rfl) ⟨Nat.zero_le _, Nat.zero_le _⟩ dX8_drift_40 (fun r_40 u_40 H locs hpq hw => ?_)
            have er_40 := hpq
            subst er_40
            refine r_top (y := drawV (sdI (w 50) i) 5) (by rw [hSi]) ?_
            refine lv_if_ne (tgt := 60) hx hb dX8_drift_43 (by decide) (fun c_43 => ?_) (fun c_43 => ?_)
            · refine lv_aload_n hx hb dX8_drift_60 rfl (lv_at hl 1 rfl) ?_
              refine lv_iconst (v := 0) hx hb dX8_drift_61 (by decide) ?_
              refine lv_aload_n hx hb dX8_drift_62 rfl (lv_at hl 1 rfl) ?_
              refine lv_bipush (v := 31) hx hb dX8_drift_63 (by decide) ?_
              have hw := hw.m1
              have hw := hw.m1
              refine c_vi (As := [.int 31]) (rest := [.int 0, .ref (a 0)]) ⟨hx, hb, hml, hown, hts⟩ (k_X8_draw l D c4 A Ts a (nI n) tx pl st va fy fa ry se bh mi fb bo bk (upd w1 50 (drawS (w1 50))) 31 (by decide) (by rw [pk_us']; exact sdOk.dr _)) (cwV 1 hts gX8_drift_X8_draw rfl rfl rfl (by decide +kernel) (rmv (Nat.le_of_ble_eq_true rfl) (Nat.le_of_ble_eq_true rfl) hRf hRl)) hK trivial hw rfl rfl rfl hl rfl (Nat.le_of_ble_eq_true rfl) ⟨Nat.zero_le _, Nat.zero_le _⟩ dX8_drift_65 (fun r_65 u_65 H locs hpq hw => ?_)
              have er_65 := hpq
              subst er_65
              refine r_top (y := drawV (drawS (sdI (w 50) i)) 31) (by rw [pk_us', hSi]) ?_
              have hw := hw.m1
              have hw := hw.m1
              refine c_vv (As := [.int 0, .int (drawV (drawS (sdI (w 50) i)) 31)]) (rest := []) ⟨hx, hb, hml, hown, hts⟩ (k_X8_nightOf l D c4 A Ts a n tx pl st va fy fa ry se bh mi fb bo bk (upd (upd w1 50 (drawS (w1 50))) 50 (drawS ((upd w1 50 (drawS (w1 50))) 50))) (fun y => drI (w 50) i (q y)) 0 (drawV (drawS (sdI (w 50) i)) 31) hn (hMi.out hn (fun j _ hj => by rw [pk_un' _ _ (by omega), pk_un' _ _ (by omega)])) (by decide) (draw31 _)) (cwV 2 hts gX8_drift_X8_nightOf rfl rfl rfl (by decide +kernel) (rmv (Nat.le_of_ble_eq_true rfl) (Nat.le_of_ble_eq_true rfl) hRf hRl)) hK trivial hw rfl rfl rfl hl rfl (Nat.le_of_ble_eq_true rfl) ⟨Nat.zero_le _, Nat.zero_le _⟩ dX8_drift_68 (fun u_68 H locs hpq hw => ?_)
              obtain ⟨w2_68, rfl⟩ : ∃ z, z = u_68 := ⟨_, rfl⟩
              have hw : gW D A js.heap ((mG a (nI n) tx pl st va fy fa ry se bh mi fb bo bk) :: (aG c4 (a 1) 204 w2_68) :: Ts) H locs := hw
              obtain ⟨hM_68, hN_68, hO_68⟩ := hpq
              have hM_68 : mY (fun y => nightQ (drawV (drawS (sdI (w 50) i)) 31) ((fun y => drI (w 50) i (q y)) y)) n w2_68 0 := hM_68
              have hN_68 : w2_68 (0 + 49) = (upd (upd w1 50 (drawS (w1 50))) 50 (drawS ((upd w1 50 (drawS (w1 50))) 50))) (0 + 49) + 1 := hN_68
              have hO_68 : wOt 0 (upd (upd w1 50 (drawS (w1 50))) 50 (drawS ((upd w1 50 (drawS (w1 50))) 50))) w2_68 := hO_68
              refine lv_iinc (v := (nI (i + 1))) (lv' := [(2, .int (nI (i + 1))), (0, .ref (a 0)), (1, .int k)]) hx hb dX8_drift_71 hl (k := 0) rfl (nI_add _ _) (by decide) rfl (fun ls hl => ?_)
              refine lv_goto (tgt := 33) hx hb dX8_drift_74 (by decide) ?_
              exact ih_33 (i + 1) w2_68 (by omega) (by omega) (hM_68.cong (fun y hy => by show driftQ _ _ = _; unfold driftQ; rw [if_neg c_43])) ((show w2_68 49 = upd (upd w1 50 _) 50 _ 49 + 1 from hN_68).trans (by rw [pk_un' _ _ (by omega), pk_un' _ _ (by omega), hNi]; exact int_add1 _ _)) ((hO_68 50 (by omega)).trans (by rw [pk_us', pk_us', hSi]; rfl)) (fun j hj => (hO_68 j (by omega)).trans (by rw [pk_un' _ _ (by omega), pk_un' _ _ (by omega)]; exact hOi j hj)) _ _ hw ls (lv_sub hl [0, 1, 2] rfl)
            · refine lv_aload_n hx hb dX8_drift_46 rfl (lv_at hl 1 rfl) ?_
              refine lv_iconst (v := 0) hx hb dX8_drift_47 (by decide) ?_
              refine lv_aload_n hx hb dX8_drift_48 rfl (lv_at hl 1 rfl) ?_
              refine lv_bipush (v := 40) hx hb dX8_drift_49 (by decide) ?_
              have hw := hw.m1
              have hw := hw.m1
              refine c_vi (As := [.int 40]) (rest := [.int 0, .ref (a 0)]) ⟨hx, hb, hml, hown, hts⟩ (k_X8_draw l D c4 A Ts a (nI n) tx pl st va fy fa ry se bh mi fb bo bk (upd w1 50 (drawS (w1 50))) 40 (by decide) (by rw [pk_us']; exact sdOk.dr _)) (cwV 1 hts gX8_drift_X8_draw rfl rfl rfl (by decide +kernel) (rmv (Nat.le_of_ble_eq_true rfl) (Nat.le_of_ble_eq_true rfl) hRf hRl)) hK trivial hw rfl rfl rfl hl rfl (Nat.le_of_ble_eq_true rfl) ⟨Nat.zero_le _, Nat.zero_le _⟩ dX8_drift_51 (fun r_51 u_51 H locs hpq hw => ?_)
              have er_51 := hpq
              subst er_51
              refine r_top (y := drawV (drawS (sdI (w 50) i)) 40) (by rw [pk_us', hSi]) ?_
              have hw := hw.m1
              have hw := hw.m1
              refine c_vv (As := [.int 0, .int (drawV (drawS (sdI (w 50) i)) 40)]) (rest := []) ⟨hx, hb, hml, hown, hts⟩ (k_X8_thawOf l D c4 A Ts a n tx pl st va fy fa ry se bh mi fb bo bk (upd (upd w1 50 (drawS (w1 50))) 50 (drawS ((upd w1 50 (drawS (w1 50))) 50))) (fun y => drI (w 50) i (q y)) 0 (drawV (drawS (sdI (w 50) i)) 40) hn (hMi.out hn (fun j _ hj => by rw [pk_un' _ _ (by omega), pk_un' _ _ (by omega)])) (by decide) (draw40 _)) (cwV 2 hts gX8_drift_X8_thawOf rfl rfl rfl (by decide +kernel) (rmv (Nat.le_of_ble_eq_true rfl) (Nat.le_of_ble_eq_true rfl) hRf hRl)) hK trivial hw rfl rfl rfl hl rfl (Nat.le_of_ble_eq_true rfl) ⟨Nat.zero_le _, Nat.zero_le _⟩ dX8_drift_54 (fun u_54 H locs hpq hw => ?_)
              obtain ⟨w2_54, rfl⟩ : ∃ z, z = u_54 := ⟨_, rfl⟩
              have hw : gW D A js.heap ((mG a (nI n) tx pl st va fy fa ry se bh mi fb bo bk) :: (aG c4 (a 1) 204 w2_54) :: Ts) H locs := hw
              obtain ⟨hM_54, hN_54, hO_54⟩ := hpq
              have hM_54 : mY (fun y => thawQ (drawV (drawS (sdI (w 50) i)) 40) ((fun y => drI (w 50) i (q y)) y)) n w2_54 0 := hM_54
              have hN_54 : w2_54 (0 + 49) = (upd (upd w1 50 (drawS (w1 50))) 50 (drawS ((upd w1 50 (drawS (w1 50))) 50))) (0 + 49) + 1 := hN_54
              have hO_54 : wOt 0 (upd (upd w1 50 (drawS (w1 50))) 50 (drawS ((upd w1 50 (drawS (w1 50))) 50))) w2_54 := hO_54
              refine lv_goto (tgt := 71) hx hb dX8_drift_57 (by decide) ?_
              refine lv_iinc (v := (nI (i + 1))) (lv' := [(2, .int (nI (i + 1))), (0, .ref (a 0)), (1, .int k)]) hx hb dX8_drift_71 hl (k := 0) rfl (nI_add _ _) (by decide) rfl (fun ls hl => ?_)
              refine lv_goto (tgt := 33) hx hb dX8_drift_74 (by decide) ?_
              exact ih_33 (i + 1) w2_54 (by omega) (by omega) (hM_54.cong (fun y hy => by show driftQ _ _ = _; unfold driftQ; rw [if_pos c_43])) ((show w2_54 49 = upd (upd w1 50 _) 50 _ 49 + 1 from hN_54).trans (by rw [pk_un' _ _ (by omega), pk_un' _ _ (by omega), hNi]; exact int_add1 _ _)) ((hO_54 50 (by omega)).trans (by rw [pk_us', pk_us', hSi]; rfl)) (fun j hj => (hO_54 j (by omega)).trans (by rw [pk_un' _ _ (by omega), pk_un' _ _ (by omega)]; exact hOi j hj)) _ _ hw ls (lv_sub hl [0, 1, 2] rfl)
      exact loop_33 ((j - 0) + 1) 0 w (Nat.lt_succ_self _) (Nat.zero_le _) hY (add_n0 _) rfl (fun _ _ => rfl) _ _ hw ls (lv_sub hl [0, 1, 2] rfl)
    · refine lv_ldc hx hb hown f_2 dX8_drift_28 ?_
      exact kr (-1000000004) (w) _ _ _ _ hw ⟨q, by unfold driftF; rw [if_pos hck, if_neg c_25], hY, fun _ _ => rfl⟩ dX8_drift_30
  · refine lv_ldc hx hb hown f_3 dX8_drift_12 ?_
    exact kr (-1000000002) (w) _ _ _ _ hw ⟨q, by unfold driftF; rw [if_neg (fun z => h0_6 c_9 ((inL (lo := 1) (hi := 99) rfl rfl).mpr z))], hY, fun _ _ => rfl⟩ dX8_drift_14
