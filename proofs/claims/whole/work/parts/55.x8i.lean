set_option maxHeartbeats 4000000 in
set_option maxRecDepth 100000 in
theorem k_X8_bestBeat (l : Launch) (D : va_G) (c4 : Nat → ClassId) (A : Nat → Prop) (Ts : List va_W) (a : Nat → Nat) (yn : Int32) (tx : Int32) (pl : Int32) (st : Int32) (va : Int32) (fy : Int32) (fa : Int32) (ry : Int32) (se : Int32) (bh : Int32) (mi : Int32) (fb : Int32) (bo : Int32) (bk : Int32) (told : Nat → Int32) (hT : tlOk told) : Ci l yX8_bestBeat wsX8_bestBeat 1 25 [.ref (a 0)] D (tyA c4) A none ((mG a yn tx pl st va fy fa ry se bh mi fb bo bk) :: (aG c4 (a 2) 18 told) :: Ts) (S := Unit) (fun (r : Int32) (u : Unit) => r = (bbF (pForce told) 8)) (fun u => ((mG a yn tx pl st va fy fa ry se bh mi fb bo bk) :: (aG c4 (a 2) 18 told) :: Ts)) := by
  refine cOi (cc := cX8_bestBeat) (maxL := 3) (by decide) rfl (Nat.le_of_ble_eq_true rfl) rfl ?_
  rintro jp je js jm below meth jc ls args R Q H locs hRf hRl ⟨hx, hb, hml, hr, hts, hown, hlocks, hK, hX⟩ hw hl kr
  have hown : js.vm.findClass RX8 = some jm.cls := hown
  have f_0 := hts (.fieldLink RX8 13 "IceSwayModel" "told" "[I") (by decide +kernel)
  have hi8 : ∀ w ∈ u_ws RX8 TX8 28, w ∈ wsX8_bestBeat := fun w h => List.mem_cons_of_mem _ (List.mem_append_right _ h)
  refine lv_iconst (v := 1) hx hb dX8_bestBeat_0 (by decide) ?_
  refine lv_istore_n (lv' := [(1, .int 1), (0, .ref (a 0))]) hx hb dX8_bestBeat_1 rfl hl (by decide) rfl (fun ls hl => ?_)
  refine lv_iconst (v := 2) hx hb dX8_bestBeat_2 (by decide) ?_
  refine lv_istore_n (lv' := [(2, .int 2), (1, .int 1), (0, .ref (a 0))]) hx hb dX8_bestBeat_3 rfl hl (by decide) rfl (fun ls hl => ?_)
  have loop_4 : ∀ (fuel : Nat) (k : Nat) (b1 : Int32), (8 - k) < fuel → (k ≤ 8) → (b1 = bbF (pForce told) k) → ∀ (H : Heap) (locs : List Loc), gW D A js.heap ((mG a yn tx pl st va fy fa ry se bh mi fb bo bk) :: (aG c4 (a 2) 18 told) :: Ts) H locs → ∀ (ls : Array Slot), lv_has ls 3 [(2, .int (nI (k + 2))), (1, .int b1), (0, .ref (a 0))] → W jp l je R js jm args below meth jc H locs 0 0 Q (F0 jm 4 ls []) := by
    intro fuel
    induction fuel with
    | zero => intro k b1 hm; exact absurd hm (Nat.not_lt_zero _)
    | succ fuel ih_4 =>
      intro k b1 hm_4 hk hb1 H locs hw ls hl
      refine lv_iload_n hx hb dX8_bestBeat_4 rfl (lv_at hl 0 rfl) ?_
      refine lv_bipush (v := 10) hx hb dX8_bestBeat_5 (by decide) ?_
      refine r_cge hx hb (k + 2) 10 (by omega) (by omega) (tgt := 47) dX8_bestBeat_7 (by decide) (fun c_7 => ?_) (fun c_7 => ?_)
      · refine lv_iload_n hx hb dX8_bestBeat_47 rfl (lv_at hl 1 rfl) ?_
        exact kr b1 () _ _ _ _ hw (by rw [hb1, show k = 8 by omega]) dX8_bestBeat_48
      · refine lv_aload_n hx hb dX8_bestBeat_10 rfl (lv_at hl 2 rfl) ?_
        refine lv_aload_n hx hb dX8_bestBeat_11 rfl (lv_at hl 2 rfl) ?_
        refine r_get (T := TX8) (v := .ref (a 2)) hx hb hts hi8 hown hK hw 0 rfl rfl 1 (by decide) f_0 rfl dX8_bestBeat_12 ?_
        refine lv_iconst (v := 3) hx hb dX8_bestBeat_15 (by decide) ?_
        refine r_iald hx hb hK hw 1 0 rfl rfl 3 (by omega) (by decide) dX8_bestBeat_16 ?_
        refine lv_iload_n hx hb dX8_bestBeat_17 rfl (lv_at hl 0 rfl) ?_
        have hw := hw.m1
        have hw := hw.m1
        refine c_vi (As := [.int (told 3), .int (nI (k + 2))]) (rest := []) ⟨hx, hb, hml, hown, hts⟩ (k_X8_swayOf l D c4 A Ts a yn tx pl st va fy fa ry se bh mi fb bo bk told (told 3) (nI (k + 2)) hT.2.1 hT.2.2.2.1 hT.2.2.1 (rngN (by omega))) (cwV 2 hts gX8_bestBeat_X8_swayOf rfl rfl rfl (by decide +kernel) (rmv (Nat.le_of_ble_eq_true rfl) (Nat.le_of_ble_eq_true rfl) hRf hRl)) hK trivial hw rfl rfl rfl hl rfl (Nat.le_of_ble_eq_true rfl) ⟨Nat.zero_le _, Nat.zero_le _⟩ dX8_bestBeat_18 (fun r_18 u_18 H locs hpq hw => ?_)
        have er_18 := hpq
        subst er_18
        refine lv_aload_n hx hb dX8_bestBeat_21 rfl (lv_at hl 2 rfl) ?_
        refine lv_aload_n hx hb dX8_bestBeat_22 rfl (lv_at hl 2 rfl) ?_
        refine r_get (T := TX8) (v := .ref (a 2)) hx hb hts hi8 hown hK hw 0 rfl rfl 1 (by decide) f_0 rfl dX8_bestBeat_23 ?_
        refine lv_iconst (v := 3) hx hb dX8_bestBeat_26 (by decide) ?_
        refine r_iald hx hb hK hw 1 0 rfl rfl 3 (by omega) (by decide) dX8_bestBeat_27 ?_
        refine lv_iload_n hx hb dX8_bestBeat_28 rfl (lv_at hl 1 rfl) ?_
        have hw := hw.m1
        have hw := hw.m1
        refine c_vi (As := [.int (told 3), .int b1]) (rest := [.int (pSway (told 1) (told 2) (told 3) (nI (k + 2)))]) ⟨hx, hb, hml, hown, hts⟩ (k_X8_swayOf l D c4 A Ts a yn tx pl st va fy fa ry se bh mi fb bo bk told (told 3) b1 hT.2.1 hT.2.2.2.1 hT.2.2.1 (by rw [hb1]; exact bb_rng _ _ hk)) (cwV 2 hts gX8_bestBeat_X8_swayOf rfl rfl rfl (by decide +kernel) (rmv (Nat.le_of_ble_eq_true rfl) (Nat.le_of_ble_eq_true rfl) hRf hRl)) hK trivial hw rfl rfl rfl hl rfl (Nat.le_of_ble_eq_true rfl) ⟨Nat.zero_le _, Nat.zero_le _⟩ dX8_bestBeat_29 (fun r_29 u_29 H locs hpq hw => ?_)
        have er_29 := hpq
        subst er_29
        refine lv_icmp_le (tgt := 39) hx hb dX8_bestBeat_32 (by decide) (fun c_32 => ?_) (fun c_32 => ?_)
        · refine lv_iload_n hx hb dX8_bestBeat_39 rfl (lv_at hl 1 rfl) ?_
          refine lv_istore_n (lv' := [(1, .int b1), (2, .int (nI (k + 2))), (0, .ref (a 0))]) hx hb dX8_bestBeat_40 rfl hl (by decide) rfl (fun ls hl => ?_)
          refine lv_iinc (v := (nI (k + 2 + 1))) (lv' := [(2, .int (nI (k + 2 + 1))), (1, .int b1), (0, .ref (a 0))]) hx hb dX8_bestBeat_41 hl (k := 1) rfl (nI_add _ _) (by decide) rfl (fun ls hl => ?_)
          refine lv_goto (tgt := 4) hx hb dX8_bestBeat_44 (by decide) ?_
          exact ih_4 (k + 1) b1 (by omega) (by omega) (by unfold bbF; rw [← hb1, if_pos ((pf_le hT _ _).mpr c_32)]) _ _ hw ls (lv_sub hl [0, 1, 2] rfl)
        · refine lv_iload_n hx hb dX8_bestBeat_35 rfl (lv_at hl 0 rfl) ?_
          refine lv_goto (tgt := 40) hx hb dX8_bestBeat_36 (by decide) ?_
          refine lv_istore_n (lv' := [(1, .int (nI (k + 2))), (2, .int (nI (k + 2))), (0, .ref (a 0))]) hx hb dX8_bestBeat_40 rfl hl (by decide) rfl (fun ls hl => ?_)
          refine lv_iinc (v := (nI (k + 2 + 1))) (lv' := [(2, .int (nI (k + 2 + 1))), (1, .int (nI (k + 2))), (0, .ref (a 0))]) hx hb dX8_bestBeat_41 hl (k := 1) rfl (nI_add _ _) (by decide) rfl (fun ls hl => ?_)
          refine lv_goto (tgt := 4) hx hb dX8_bestBeat_44 (by decide) ?_
          exact ih_4 (k + 1) (nI (k + 2)) (by omega) (by omega) (by unfold bbF; rw [← hb1, if_neg (fun z => c_32 ((pf_le hT _ _).mp z))]) _ _ hw ls (lv_sub hl [0, 1, 2] rfl)
  exact loop_4 ((8 - 0) + 1) 0 1 (Nat.lt_succ_self _) (by omega) rfl _ _ hw ls (lv_sub hl [0, 1, 2] rfl)
