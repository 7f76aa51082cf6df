set_option maxHeartbeats 4000000 in
set_option maxRecDepth 100000 in
theorem k_X8_laggards (l : Launch) (D : va_G) (c4 : Nat → ClassId) (A : Nat → Prop) (Ts : List va_W) (a : Nat → Nat) (n : Nat) (tx : Int32) (pl : Int32) (st : Int32) (va : Int32) (fy : Int32) (fa : Int32) (ry : Int32) (se : Int32) (bh : Int32) (mi : Int32) (fb : Int32) (bo : Int32) (bk : Int32) (told : Nat → Int32) (w : Nat → Int32) (ba : Nat → Int32) (q : Nat → Yq) (t : Int32) (hn : n ≤ 12) (hY : mY q n w 0) (hT : tlOk told) (hbt : rng (w 48) 1 9) : Ci l yX8_laggards wsX8_laggards 2 49 [.ref (a 0), .int t] D (tyA c4) A none ((mG a (nI n) tx pl st va fy fa ry se bh mi fb bo bk) :: (aG c4 (a 2) 18 told) :: (aG c4 (a 1) 204 w) :: (aG c4 (a 7) 12 ba) :: Ts) (S := Int32 × Int32 × Int32 × (Nat → Int32) × (Nat → Int32)) (fun (r : Int32) (u : Int32 × Int32 × Int32 × (Nat → Int32) × (Nat → Int32)) => (laggP t told (w 48) q n r) ∧ (wNow w u.2.2.2.1)) (fun u => ((mG a (nI n) tx pl st va fy fa ry se u.1 u.2.1 u.2.2.1 bo bk) :: (aG c4 (a 2) 18 told) :: (aG c4 (a 1) 204 u.2.2.2.1) :: (aG c4 (a 7) 12 u.2.2.2.2) :: Ts)) := by
  refine cOi (cc := cX8_laggards) (maxL := 3) (by decide) rfl (Nat.le_of_ble_eq_true rfl) rfl ?_
  rintro jp je js jm below meth jc ls args R Q H locs hRf hRl ⟨hx, hb, hml, hr, hts, hown, hlocks, hK, hX⟩ hw hl kr
  have hown : js.vm.findClass RX8 = some jm.cls := hown
  have f_0 := hts (.fieldLink RX8 13 "IceSwayModel" "told" "[I") (by decide +kernel)
  have f_1 := hts (.fieldLink RX8 7 "IceSwayModel" "w" "[I") (by decide +kernel)
  have f_2 := hts (.fieldLink RX8 177 "IceSwayModel" "behind" "I") (by decide +kernel)
  have f_3 := hts (.fieldLink RX8 60 "IceSwayModel" "yards" "I") (by decide +kernel)
  have f_4 := hts (.constant RX8 83 (-1000000002)) (by decide +kernel)
  have hi8 : ∀ w ∈ u_ws RX8 TX8 28, w ∈ wsX8_laggards := fun w h => List.mem_cons_of_mem _ (List.mem_append_right _ h)
  refine lv_iload_n hx hb dX8_laggards_0 rfl (lv_at hl 1 rfl) ?_
  refine c_si (As := [.int t]) (rest := []) ⟨hx, hb, hml, hown, hts⟩ (k_X8_isTime l D c4 A ((mG a (nI n) tx pl st va fy fa ry se bh mi fb bo bk) :: (aG c4 (a 2) 18 told) :: (aG c4 (a 1) 204 w) :: (aG c4 (a 7) 12 ba) :: Ts) t) (va_cwS 1 hts gX8_laggards_X8_isTime rfl rfl rfl (by decide +kernel) (rmv (Nat.le_of_ble_eq_true rfl) (Nat.le_of_ble_eq_true rfl) hRf hRl)) hK trivial hw rfl hl rfl (Nat.le_of_ble_eq_true rfl) ⟨Nat.zero_le _, Nat.zero_le _⟩ dX8_laggards_1 (fun r_1 u_1 H locs hpq hw => ?_)
  obtain ⟨h0_1, h1_1⟩ := hpq
  refine lv_if_ne (tgt := 10) hx hb dX8_laggards_4 (by decide) (fun c_4 => ?_) (fun c_4 => ?_)
  · refine lv_iconst (v := 0) hx hb dX8_laggards_10 (by decide) ?_
    refine lv_istore_n (lv' := [(2, .int 0), (0, .ref (a 0)), (1, .int t)]) hx hb dX8_laggards_11 rfl hl (by decide) rfl (fun ls hl => ?_)
    have loop_12 : ∀ (fuel : Nat) (l0 : Nat) (bh1 : Int32) (mi1 : Int32) (fb1 : Int32) (w1 : Nat → Int32) (ba1 : Nat → Int32), (21 - l0) < fuel → (l0 ≤ 21) → (∀ j, j < l0 → ¬ ¬ psQ (4 * told 0 + pSway (told 1) (told 2) (nI j) (w 48)) (told 5) t q n) → (wNow w w1) → ∀ (H : Heap) (locs : List Loc), gW D A js.heap ((mG a (nI n) tx pl st va fy fa ry se bh1 mi1 fb1 bo bk) :: (aG c4 (a 2) 18 told) :: (aG c4 (a 1) 204 w1) :: (aG c4 (a 7) 12 ba1) :: Ts) H locs → ∀ (ls : Array Slot), lv_has ls 3 [(2, .int (nI l0)), (0, .ref (a 0)), (1, .int t)] → W jp l je R js jm args below meth jc H locs 0 0 Q (F0 jm 12 ls []) := by
      intro fuel
      induction fuel with
      | zero => intro l0 bh1 mi1 fb1 w1 ba1 hm; exact absurd hm (Nat.not_lt_zero _)
      | succ fuel ih_12 =>
        intro l0 bh1 mi1 fb1 w1 ba1 hm_12 hl0 hN hW1 H locs hw ls hl
        refine lv_iload_n hx hb dX8_laggards_12 rfl (lv_at hl 0 rfl) ?_
        refine lv_bipush (v := 20) hx hb dX8_laggards_13 (by decide) ?_
        refine r_cgt hx hb l0 20 (by omega) (by omega) (tgt := 63) dX8_laggards_15 (by decide) (fun c_15 => ?_) (fun c_15 => ?_)
        · refine lv_iconst (v := (-1)) hx hb dX8_laggards_63 (by decide) ?_
          exact kr (-1) (bh1, mi1, fb1, w1, ba1) _ _ _ _ hw ⟨⟨fun _ => Or.inr ⟨fun j hj => hN j (by omega), rfl⟩, fun z => absurd (h1_1 c_4) z⟩, hW1⟩ dX8_laggards_64
        · refine lv_aload_n hx hb dX8_laggards_18 rfl (lv_at hl 1 rfl) ?_
          refine lv_iload_n hx hb dX8_laggards_19 rfl (lv_at hl 2 rfl) ?_
          refine lv_iconst (v := 4) hx hb dX8_laggards_20 (by decide) ?_
          refine lv_aload_n hx hb dX8_laggards_21 rfl (lv_at hl 1 rfl) ?_
          refine r_get (T := TX8) (v := .ref (a 2)) hx hb hts hi8 hown hK hw 0 rfl rfl 1 (by decide) f_0 rfl dX8_laggards_22 ?_
          refine lv_iconst (v := 0) hx hb dX8_laggards_25 (by decide) ?_
          refine r_iald hx hb hK hw 1 0 rfl rfl 0 (by omega) (by decide) dX8_laggards_26 ?_
          refine lv_imul hx hb dX8_laggards_27 ?_
          refine lv_aload_n hx hb dX8_laggards_28 rfl (lv_at hl 1 rfl) ?_
          refine lv_iload_n hx hb dX8_laggards_29 rfl (lv_at hl 0 rfl) ?_
          refine lv_aload_n hx hb dX8_laggards_30 rfl (lv_at hl 1 rfl) ?_
          refine r_get (T := TX8) (v := .ref (a 1)) hx hb hts hi8 hown hK hw 0 rfl rfl 0 (by decide) f_1 rfl dX8_laggards_31 ?_
          refine lv_bipush (v := 48) hx hb dX8_laggards_34 (by decide) ?_
          refine r_iald hx hb hK hw 2 0 rfl rfl 48 (by omega) (by decide) dX8_laggards_36 ?_
          refine r_top (y := w 48) (hW1 48 (by omega)) ?_
          have hw := hw.m1
          have hw := hw.m1
          refine c_vi (As := [.int (nI l0), .int (w 48)]) (rest := [.int (4 * (told 0)), .int t, .ref (a 0)]) ⟨hx, hb, hml, hown, hts⟩ (k_X8_swayOf l D c4 A ((aG c4 (a 1) 204 w1) :: (aG c4 (a 7) 12 ba1) :: Ts) a (nI n) tx pl st va fy fa ry se bh1 mi1 fb1 bo bk told (nI l0) (w 48) hT.2.1 (rng_nI (a := 0) (b := 20) (Nat.zero_le _) (by omega) (by decide)) hT.2.2.1 (hbt.w (by decide) (by decide))) (cwV 2 hts gX8_laggards_X8_swayOf rfl rfl rfl (by decide +kernel) (rmv (Nat.le_of_ble_eq_true rfl) (Nat.le_of_ble_eq_true rfl) hRf hRl)) hK trivial hw rfl rfl rfl hl rfl (Nat.le_of_ble_eq_true rfl) ⟨Nat.zero_le _, Nat.zero_le _⟩ dX8_laggards_37 (fun r_37 u_37 H locs hpq hw => ?_)
          have er_37 := hpq
          subst er_37
          refine lv_iadd hx hb dX8_laggards_40 ?_
          have hw := hw.m3
          have hw := hw.m3
          have hw := hw.m3
          have hw := hw.m3
          refine c_vv (As := [.int t, .int ((4 * (told 0)) + (pSway (told 1) (told 2) (nI l0) (w 48)))]) (rest := []) ⟨hx, hb, hml, hown, hts⟩ (k_X8_tries l D c4 A Ts a n tx pl st va fy fa ry se bh1 mi1 fb1 bo bk told w1 ba1 q t ((4 * (told 0)) + (pSway (told 1) (told 2) (nI l0) (w 48))) hn (hY.now hn hW1) (force_of hT.1 (sway_rng hT.2.1 (rng_nI (a := 0) (b := 20) (Nat.zero_le _) (by omega) (by decide))))) (cwV 2 hts gX8_laggards_X8_tries rfl rfl rfl (by decide +kernel) (rmv (Nat.le_of_ble_eq_true rfl) (Nat.le_of_ble_eq_true rfl) hRf hRl)) hK trivial hw rfl rfl rfl hl rfl (Nat.le_of_ble_eq_true rfl) ⟨Nat.zero_le _, Nat.zero_le _⟩ dX8_laggards_41 (fun u_41 H locs hpq hw => ?_)
          obtain ⟨b2_41, w2_41, ba2_41⟩ := u_41
          have hw : gW D A js.heap ((mG a (nI n) tx pl st va fy fa ry se (nI b2_41) (cumQ ((4 * (told 0)) + (pSway (told 1) (told 2) (nI l0) (w 48))) (told 5) q b2_41) (fbQ q b2_41) bo bk) :: (aG c4 (a 2) 18 told) :: (aG c4 (a 1) 204 w2_41) :: (aG c4 (a 7) 12 ba2_41) :: Ts) H locs := hw
          obtain ⟨hb2_41, hba_41, hW_41⟩ := hpq
          have hb2_41 : b2_41 = bhQ ((4 * (told 0)) + (pSway (told 1) (told 2) (nI l0) (w 48))) (told 5) t q n := hb2_41
          have hba_41 : ∀ k, k < b2_41 → ba2_41 k = cumQ ((4 * (told 0)) + (pSway (told 1) (told 2) (nI l0) (w 48))) (told 5) q (k + 1) := hba_41
          have hW_41 : wNow w1 w2_41 := hW_41
          have hle : b2_41 ≤ n := by rw [hb2_41]; exact bh_le _ _ _ _ _
          refine lv_aload_n hx hb dX8_laggards_44 rfl (lv_at hl 1 rfl) ?_
          refine r_get (T := TX8) (v := .int (nI b2_41)) hx hb hts hi8 hown hK hw 0 rfl rfl 16 (by decide) f_2 rfl dX8_laggards_45 ?_
          refine lv_aload_n hx hb dX8_laggards_48 rfl (lv_at hl 1 rfl) ?_
          refine r_get (T := TX8) (v := .int (nI n)) hx hb hts hi8 hown hK hw 0 rfl rfl 2 (by decide) f_3 rfl dX8_laggards_49 ?_
          refine r_cge hx hb b2_41 n (by omega) (by omega) (tgt := 57) dX8_laggards_52 (by decide) (fun c_52 => ?_) (fun c_52 => ?_)
          · refine lv_iinc (v := (nI (l0 + 1))) (lv' := [(2, .int (nI (l0 + 1))), (0, .ref (a 0)), (1, .int t)]) hx hb dX8_laggards_57 hl (k := 0) rfl (nI_add _ _) (by decide) rfl (fun ls hl => ?_)
            refine lv_goto (tgt := 12) hx hb dX8_laggards_60 (by decide) ?_
            exact ih_12 (l0 + 1) (nI b2_41) (cumQ ((4 * (told 0)) + (pSway (told 1) (told 2) (nI l0) (w 48))) (told 5) q b2_41) (fbQ q b2_41) w2_41 ba2_41 (by omega) (by omega) (lt_s hN (fun z => z (hb2_41.symm.trans (by omega)))) (hW1.tr hW_41) _ _ hw ls (lv_sub hl [0, 1, 2] rfl)
          · refine lv_iload_n hx hb dX8_laggards_55 rfl (lv_at hl 0 rfl) ?_
            exact kr (nI l0) ((nI b2_41), (cumQ ((4 * (told 0)) + (pSway (told 1) (told 2) (nI l0) (w 48))) (told 5) q b2_41), (fbQ q b2_41), w2_41, ba2_41) _ _ _ _ hw ⟨⟨fun _ => Or.inl ⟨l0, by omega, fun z => absurd (hb2_41.trans z) (by omega), hN, rfl⟩, fun z => absurd (h1_1 c_4) z⟩, (hW1.tr hW_41)⟩ dX8_laggards_56
    exact loop_12 ((21 - 0) + 1) 0 bh mi fb w ba (Nat.lt_succ_self _) (Nat.zero_le _) (fun j h => absurd h (Nat.not_lt_zero j)) (wNow.rf _) _ _ hw ls (lv_sub hl [0, 1, 2] rfl)
  · refine lv_ldc hx hb hown f_4 dX8_laggards_7 ?_
    exact kr (-1000000002) (bh, mi, fb, w, ba) _ _ _ _ hw ⟨⟨fun z => absurd z (h0_1 c_4), fun _ => rfl⟩, (wNow.rf _)⟩ dX8_laggards_9
set_option maxHeartbeats 4000000 in
set_option maxRecDepth 100000 in
theorem k_X8_horses (l : Launch) (D : va_G) (c4 : Nat → ClassId) (A : Nat → Prop) (Ts : List va_W) (a : Nat → Nat) (n : Nat) (tx : Int32) (pl : Int32) (st : Int32) (va : Int32) (fy : Int32) (fa : Int32) (ry : Int32) (se : Int32) (bh : Int32) (mi : Int32) (fb : Int32) (bo : Int32) (bk : Int32) (told : Nat → Int32) (w : Nat → Int32) (ba : Nat → Int32) (q : Nat → Yq) (t : Int32) (hn : n ≤ 12) (hY : mY q n w 0) (hT : tlOk told) (hbt : rng (w 48) 1 9) : Ci l yX8_horses wsX8_horses 2 49 [.ref (a 0), .int t] D (tyA c4) A none ((mG a (nI n) tx pl st va fy fa ry se bh mi fb bo bk) :: (aG c4 (a 2) 18 told) :: (aG c4 (a 1) 204 w) :: (aG c4 (a 7) 12 ba) :: Ts) (S := Int32 × Int32 × Int32 × (Nat → Int32) × (Nat → Int32)) (fun (r : Int32) (u : Int32 × Int32 × Int32 × (Nat → Int32) × (Nat → Int32)) => (horsP t told (w 48) q n r) ∧ (wNow w u.2.2.2.1)) (fun u => ((mG a (nI n) tx pl st va fy fa ry se u.1 u.2.1 u.2.2.1 bo bk) :: (aG c4 (a 2) 18 told) :: (aG c4 (a 1) 204 u.2.2.2.1) :: (aG c4 (a 7) 12 u.2.2.2.2) :: Ts)) := by
  refine cOi (cc := cX8_horses) (maxL := 3) (by decide) rfl (Nat.le_of_ble_eq_true rfl) rfl ?_
  rintro jp je js jm below meth jc ls args R Q H locs hRf hRl ⟨hx, hb, hml, hr, hts, hown, hlocks, hK, hX⟩ hw hl kr
  have hown : js.vm.findClass RX8 = some jm.cls := hown
  have f_0 := hts (.fieldLink RX8 13 "IceSwayModel" "told" "[I") (by decide +kernel)
  have f_1 := hts (.fieldLink RX8 7 "IceSwayModel" "w" "[I") (by decide +kernel)
  have f_2 := hts (.fieldLink RX8 177 "IceSwayModel" "behind" "I") (by decide +kernel)
  have f_3 := hts (.fieldLink RX8 60 "IceSwayModel" "yards" "I") (by decide +kernel)
  have f_4 := hts (.constant RX8 83 (-1000000002)) (by decide +kernel)
  have hi8 : ∀ w ∈ u_ws RX8 TX8 28, w ∈ wsX8_horses := fun w h => List.mem_cons_of_mem _ (List.mem_append_right _ h)
  refine lv_iload_n hx hb dX8_horses_0 rfl (lv_at hl 1 rfl) ?_
  refine c_si (As := [.int t]) (rest := []) ⟨hx, hb, hml, hown, hts⟩ (k_X8_isTime l D c4 A ((mG a (nI n) tx pl st va fy fa ry se bh mi fb bo bk) :: (aG c4 (a 2) 18 told) :: (aG c4 (a 1) 204 w) :: (aG c4 (a 7) 12 ba) :: Ts) t) (va_cwS 1 hts gX8_horses_X8_isTime rfl rfl rfl (by decide +kernel) (rmv (Nat.le_of_ble_eq_true rfl) (Nat.le_of_ble_eq_true rfl) hRf hRl)) hK trivial hw rfl hl rfl (Nat.le_of_ble_eq_true rfl) ⟨Nat.zero_le _, Nat.zero_le _⟩ dX8_horses_1 (fun r_1 u_1 H locs hpq hw => ?_)
  obtain ⟨h0_1, h1_1⟩ := hpq
  refine lv_if_ne (tgt := 10) hx hb dX8_horses_4 (by decide) (fun c_4 => ?_) (fun c_4 => ?_)
  · refine lv_iconst (v := 1) hx hb dX8_horses_10 (by decide) ?_
    refine lv_istore_n (lv' := [(2, .int 1), (0, .ref (a 0)), (1, .int t)]) hx hb dX8_horses_11 rfl hl (by decide) rfl (fun ls hl => ?_)
    have loop_12 : ∀ (fuel : Nat) (s0 : Nat) (bh1 : Int32) (mi1 : Int32) (fb1 : Int32) (w1 : Nat → Int32) (ba1 : Nat → Int32), (13 - s0) < fuel → (1 ≤ s0) → (s0 ≤ 13) → (∀ j, j < s0 → ¬ (1 ≤ j ∧ psQ (4 * nI j + pSway (told 1) (told 2) (told 3) (w 48)) (told 5) t q n)) → (wNow w w1) → ∀ (H : Heap) (locs : List Loc), gW D A js.heap ((mG a (nI n) tx pl st va fy fa ry se bh1 mi1 fb1 bo bk) :: (aG c4 (a 2) 18 told) :: (aG c4 (a 1) 204 w1) :: (aG c4 (a 7) 12 ba1) :: Ts) H locs → ∀ (ls : Array Slot), lv_has ls 3 [(2, .int (nI s0)), (0, .ref (a 0)), (1, .int t)] → W jp l je R js jm args below meth jc H locs 0 0 Q (F0 jm 12 ls []) := by
      intro fuel
      induction fuel with
      | zero => intro s0 bh1 mi1 fb1 w1 ba1 hm; exact absurd hm (Nat.not_lt_zero _)
      | succ fuel ih_12 =>
        intro s0 bh1 mi1 fb1 w1 ba1 hm_12 hh1 hh hN hW1 H locs hw ls hl
        refine lv_iload_n hx hb dX8_horses_12 rfl (lv_at hl 0 rfl) ?_
        refine lv_bipush (v := 12) hx hb dX8_horses_13 (by decide) ?_
        refine r_cgt hx hb s0 12 (by omega) (by omega) (tgt := 63) dX8_horses_15 (by decide) (fun c_15 => ?_) (fun c_15 => ?_)
        · refine lv_iconst (v := (-1)) hx hb dX8_horses_63 (by decide) ?_
          exact kr (-1) (bh1, mi1, fb1, w1, ba1) _ _ _ _ hw ⟨⟨fun _ => Or.inr ⟨fun j hj => hN j (by omega), rfl⟩, fun z => absurd (h1_1 c_4) z⟩, hW1⟩ dX8_horses_64
        · refine lv_aload_n hx hb dX8_horses_18 rfl (lv_at hl 1 rfl) ?_
          refine lv_iload_n hx hb dX8_horses_19 rfl (lv_at hl 2 rfl) ?_
          refine lv_iconst (v := 4) hx hb dX8_horses_20 (by decide) ?_
          refine lv_iload_n hx hb dX8_horses_21 rfl (lv_at hl 0 rfl) ?_
          refine lv_imul hx hb dX8_horses_22 ?_
          refine lv_aload_n hx hb dX8_horses_23 rfl (lv_at hl 1 rfl) ?_
          refine lv_aload_n hx hb dX8_horses_24 rfl (lv_at hl 1 rfl) ?_
          refine r_get (T := TX8) (v := .ref (a 2)) hx hb hts hi8 hown hK hw 0 rfl rfl 1 (by decide) f_0 rfl dX8_horses_25 ?_
          refine lv_iconst (v := 3) hx hb dX8_horses_28 (by decide) ?_
          refine r_iald hx hb hK hw 1 0 rfl rfl 3 (by omega) (by decide) dX8_horses_29 ?_
          refine lv_aload_n hx hb dX8_horses_30 rfl (lv_at hl 1 rfl) ?_
          refine r_get (T := TX8) (v := .ref (a 1)) hx hb hts hi8 hown hK hw 0 rfl rfl 0 (by decide) f_1 rfl dX8_horses_31 ?_
          refine lv_bipush (v := 48) hx hb dX8_horses_34 (by decide) ?_
          refine r_iald hx hb hK hw 2 0 rfl rfl 48 (by omega) (by decide) dX8_horses_36 ?_
          refine r_top (y := w 48) (hW1 48 (by omega)) ?_
          have hw := hw.m1
          have hw := hw.m1
          refine c_vi (As := [.int (told 3), .int (w 48)]) (rest := [.int (4 * (nI s0)), .int t, .ref (a 0)]) ⟨hx, hb, hml, hown, hts⟩ (k_X8_swayOf l D c4 A ((aG c4 (a 1) 204 w1) :: (aG c4 (a 7) 12 ba1) :: Ts) a (nI n) tx pl st va fy fa ry se bh1 mi1 fb1 bo bk told (told 3) (w 48) hT.2.1 hT.2.2.2.1 hT.2.2.1 (hbt.w (by decide) (by decide))) (cwV 2 hts gX8_horses_X8_swayOf rfl rfl rfl (by decide +kernel) (rmv (Nat.le_of_ble_eq_true rfl) (Nat.le_of_ble_eq_true rfl) hRf hRl)) hK trivial hw rfl rfl rfl hl rfl (Nat.le_of_ble_eq_true rfl) ⟨Nat.zero_le _, Nat.zero_le _⟩ dX8_horses_37 (fun r_37 u_37 H locs hpq hw => ?_)
          have er_37 := hpq
          subst er_37
          refine lv_iadd hx hb dX8_horses_40 ?_
          have hw := hw.m3
          have hw := hw.m3
          have hw := hw.m3
          have hw := hw.m3
          refine c_vv (As := [.int t, .int ((4 * (nI s0)) + (pSway (told 1) (told 2) (told 3) (w 48)))]) (rest := []) ⟨hx, hb, hml, hown, hts⟩ (k_X8_tries l D c4 A Ts a n tx pl st va fy fa ry se bh1 mi1 fb1 bo bk told w1 ba1 q t ((4 * (nI s0)) + (pSway (told 1) (told 2) (told 3) (w 48))) hn (hY.now hn hW1) (force_of (rng_nI (a := 1) (b := 12) (by omega) (by omega) (by decide)) (sway_rng hT.2.1 hT.2.2.2.1))) (cwV 2 hts gX8_horses_X8_tries rfl rfl rfl (by decide +kernel) (rmv (Nat.le_of_ble_eq_true rfl) (Nat.le_of_ble_eq_true rfl) hRf hRl)) hK trivial hw rfl rfl rfl hl rfl (Nat.le_of_ble_eq_true rfl) ⟨Nat.zero_le _, Nat.zero_le _⟩ dX8_horses_41 (fun u_41 H locs hpq hw => ?_)
          obtain ⟨b2_41, w2_41, ba2_41⟩ := u_41
          have hw : gW D A js.heap ((mG a (nI n) tx pl st va fy fa ry se (nI b2_41) (cumQ ((4 * (nI s0)) + (pSway (told 1) (told 2) (told 3) (w 48))) (told 5) q b2_41) (fbQ q b2_41) bo bk) :: (aG c4 (a 2) 18 told) :: (aG c4 (a 1) 204 w2_41) :: (aG c4 (a 7) 12 ba2_41) :: Ts) H locs := hw
          obtain ⟨hb2_41, hba_41, hW_41⟩ := hpq
          have hb2_41 : b2_41 = bhQ ((4 * (nI s0)) + (pSway (told 1) (told 2) (told 3) (w 48))) (told 5) t q n := hb2_41
          have hba_41 : ∀ k, k < b2_41 → ba2_41 k = cumQ ((4 * (nI s0)) + (pSway (told 1) (told 2) (told 3) (w 48))) (told 5) q (k + 1) := hba_41
          have hW_41 : wNow w1 w2_41 := hW_41
          have hle : b2_41 ≤ n := by rw [hb2_41]; exact bh_le _ _ _ _ _
          refine lv_aload_n hx hb dX8_horses_44 rfl (lv_at hl 1 rfl) ?_
          refine r_get (T := TX8) (v := .int (nI b2_41)) hx hb hts hi8 hown hK hw 0 rfl rfl 16 (by decide) f_2 rfl dX8_horses_45 ?_
          refine lv_aload_n hx hb dX8_horses_48 rfl (lv_at hl 1 rfl) ?_
          refine r_get (T := TX8) (v := .int (nI n)) hx hb hts hi8 hown hK hw 0 rfl rfl 2 (by decide) f_3 rfl dX8_horses_49 ?_
          refine r_cne hx hb b2_41 n (by omega) (by omega) (tgt := 57) dX8_horses_52 (by decide) (fun c_52 => ?_) (fun c_52 => ?_)
          · refine lv_iinc (v := (nI (s0 + 1))) (lv' := [(2, .int (nI (s0 + 1))), (0, .ref (a 0)), (1, .int t)]) hx hb dX8_horses_57 hl (k := 0) rfl (nI_add _ _) (by decide) rfl (fun ls hl => ?_)
            refine lv_goto (tgt := 12) hx hb dX8_horses_60 (by decide) ?_
            exact ih_12 (s0 + 1) (nI b2_41) (cumQ ((4 * (nI s0)) + (pSway (told 1) (told 2) (told 3) (w 48))) (told 5) q b2_41) (fbQ q b2_41) w2_41 ba2_41 (by omega) (by omega) (by omega) (lt_s hN (fun z => c_52 (hb2_41.trans z.2))) (hW1.tr hW_41) _ _ hw ls (lv_sub hl [0, 1, 2] rfl)
          · refine lv_iload_n hx hb dX8_horses_55 rfl (lv_at hl 0 rfl) ?_
            exact kr (nI s0) ((nI b2_41), (cumQ ((4 * (nI s0)) + (pSway (told 1) (told 2) (told 3) (w 48))) (told 5) q b2_41), (fbQ q b2_41), w2_41, ba2_41) _ _ _ _ hw ⟨⟨fun _ => Or.inl ⟨s0, by omega, ⟨hh1, hb2_41.symm.trans c_52⟩, hN, rfl⟩, fun z => absurd (h1_1 c_4) z⟩, (hW1.tr hW_41)⟩ dX8_horses_56
    exact loop_12 ((13 - 1) + 1) 1 bh mi fb w ba (Nat.lt_succ_self _) (Nat.le_refl 1) (by omega) (fun j h z => by omega) (wNow.rf _) _ _ hw ls (lv_sub hl [0, 1, 2] rfl)
  · refine lv_ldc hx hb hown f_4 dX8_horses_7 ?_
    exact kr (-1000000002) (bh, mi, fb, w, ba) _ _ _ _ hw ⟨⟨fun z => absurd z (h0_1 c_4), fun _ => rfl⟩, (wNow.rf _)⟩ dX8_horses_9
set_option maxHeartbeats 4000000 in
set_option maxRecDepth 100000 in
theorem k_X8_string (l : Launch) (D : va_G) (c4 : Nat → ClassId) (A : Nat → Prop) (Ts : List va_W) (a : Nat → Nat) (n : Nat) (tx : Int32) (pl : Int32) (st : Int32) (va : Int32) (fy : Int32) (fa : Int32) (ry : Int32) (se : Int32) (bh : Int32) (mi : Int32) (fb : Int32) (bo : Int32) (bk : Int32) (told : Nat → Int32) (w : Nat → Int32) (ba : Nat → Int32) (q : Nat → Yq) (t : Int32) (g : Int32) (hn : n ≤ 12) (hY : mY q n w 0) (hT : tlOk told) (hbt : rng (w 48) 1 9) : Ci l yX8_string wsX8_string 2 49 [.ref (a 0), .int t, .int g] D (tyA c4) A none ((mG a (nI n) tx pl st va fy fa ry se bh mi fb bo bk) :: (aG c4 (a 2) 18 told) :: (aG c4 (a 1) 204 w) :: (aG c4 (a 7) 12 ba) :: Ts) (S := Int32 × Int32 × Int32 × (Nat → Int32) × (Nat → Int32)) (fun (r : Int32) (u : Int32 × Int32 × Int32 × (Nat → Int32) × (Nat → Int32)) => (r = (strF t g (pForce told (w 48)) (told 5) (told 4) q n)) ∧ (wNow w u.2.2.2.1)) (fun u => ((mG a (nI n) tx pl st va fy fa ry se u.1 u.2.1 u.2.2.1 bo bk) :: (aG c4 (a 2) 18 told) :: (aG c4 (a 1) 204 u.2.2.2.1) :: (aG c4 (a 7) 12 u.2.2.2.2) :: Ts)) := by
  refine cOi (cc := cX8_string) (maxL := 3) (by decide) rfl (Nat.le_of_ble_eq_true rfl) rfl ?_
  rintro jp je js jm below meth jc ls args R Q H locs hRf hRl ⟨hx, hb, hml, hr, hts, hown, hlocks, hK, hX⟩ hw hl kr
  have hown : js.vm.findClass RX8 = some jm.cls := hown
  have f_0 := hts (.constant RX8 83 (-1000000002)) (by decide +kernel)
  have f_1 := hts (.constantLong RX8 163 (99)) (by decide +kernel)
  have f_2 := hts (.fieldLink RX8 183 "IceSwayModel" "firstBroken" "I") (by decide +kernel)
  have f_3 := hts (.fieldLink RX8 13 "IceSwayModel" "told" "[I") (by decide +kernel)
  have hi8 : ∀ w ∈ u_ws RX8 TX8 28, w ∈ wsX8_string := fun w h => List.mem_cons_of_mem _ (List.mem_append_right _ h)
  refine lv_iload_n hx hb dX8_string_0 rfl (lv_at hl 1 rfl) ?_
  refine c_si (As := [.int t]) (rest := []) ⟨hx, hb, hml, hown, hts⟩ (k_X8_isTime l D c4 A ((mG a (nI n) tx pl st va fy fa ry se bh mi fb bo bk) :: (aG c4 (a 2) 18 told) :: (aG c4 (a 1) 204 w) :: (aG c4 (a 7) 12 ba) :: Ts) t) (va_cwS 1 hts gX8_string_X8_isTime rfl rfl rfl (by decide +kernel) (rmv (Nat.le_of_ble_eq_true rfl) (Nat.le_of_ble_eq_true rfl) hRf hRl)) hK trivial hw rfl hl rfl (Nat.le_of_ble_eq_true rfl) ⟨Nat.zero_le _, Nat.zero_le _⟩ dX8_string_1 (fun r_1 u_1 H locs hpq hw => ?_)
  obtain ⟨h0_1, h1_1⟩ := hpq
  refine lv_if_eq (tgt := 19) hx hb dX8_string_4 (by decide) (fun c_4 => ?_) (fun c_4 => ?_)
  · refine lv_ldc hx hb hown f_0 dX8_string_19 ?_
    exact kr (-1000000002) (bh, mi, fb, w, ba) _ _ _ _ hw ⟨(by unfold strF; rw [if_neg (h0_1 c_4)]), (wNow.rf _)⟩ dX8_string_21
  · refine lv_iload_n hx hb dX8_string_7 rfl (lv_at hl 2 rfl) ?_
    refine lv_i2l hx hb dX8_string_8 rfl ?_
    refine lv_lconst (v := 1) hx hb dX8_string_9 (by decide) ?_
    refine lv_ldc2 hx hb hown f_1 dX8_string_10 ?_
    refine c_si (As := [.long g.toInt64, .long 1, .long 99]) (rest := []) ⟨hx, hb, hml, hown, hts⟩ (k_X8_in l D c4 A ((mG a (nI n) tx pl st va fy fa ry se bh mi fb bo bk) :: (aG c4 (a 2) 18 told) :: (aG c4 (a 1) 204 w) :: (aG c4 (a 7) 12 ba) :: Ts) g.toInt64 1 99) (va_cwS 3 hts gX8_string_X8_in rfl rfl rfl (by decide +kernel) (rmv (Nat.le_of_ble_eq_true rfl) (Nat.le_of_ble_eq_true rfl) hRf hRl)) hK trivial hw rfl hl rfl (Nat.le_of_ble_eq_true rfl) ⟨Nat.zero_le _, Nat.zero_le _⟩ dX8_string_13 (fun r_13 u_13 H locs hpq hw => ?_)
    obtain ⟨h0_13, h1_13, hz_13⟩ := hpq
    refine lv_if_ne (tgt := 22) hx hb dX8_string_16 (by decide) (fun c_16 => ?_) (fun c_16 => ?_)
    · have hgi : inR g 1 99 := ((inL (lo := 1) (hi := 99) rfl rfl).mp (h1_13 c_16))
      refine lv_aload_n hx hb dX8_string_22 rfl (lv_at hl 0 rfl) ?_
      refine lv_iload_n hx hb dX8_string_23 rfl (lv_at hl 1 rfl) ?_
      refine lv_aload_n hx hb dX8_string_24 rfl (lv_at hl 0 rfl) ?_
      have hw := hw.m2
      have hw := hw.m2
      have hw := hw.m2
      refine c_vi (As := []) (rest := [.int t, .ref (a 0)]) ⟨hx, hb, hml, hown, hts⟩ (k_X8_forceNow l D c4 A ((aG c4 (a 7) 12 ba) :: Ts) a (nI n) tx pl st va fy fa ry se bh mi fb bo bk told w hT hbt) (cwV 0 hts gX8_string_X8_forceNow rfl rfl rfl (by decide +kernel) (rmv (Nat.le_of_ble_eq_true rfl) (Nat.le_of_ble_eq_true rfl) hRf hRl)) hK trivial hw rfl rfl rfl hl rfl (Nat.le_of_ble_eq_true rfl) ⟨Nat.zero_le _, Nat.zero_le _⟩ dX8_string_25 (fun r_25 u_25 H locs hpq hw => ?_)
      have er_25 := hpq
      subst er_25
      have hw := hw.m3
      have hw := hw.m3
      have hw := hw.m3
      have hw := hw.m3
      refine c_vv (As := [.int t, .int (pForce told (w 48))]) (rest := []) ⟨hx, hb, hml, hown, hts⟩ (k_X8_tries l D c4 A Ts a n tx pl st va fy fa ry se bh mi fb bo bk told w ba q t (pForce told (w 48)) hn hY (force_rng hT _)) (cwV 2 hts gX8_string_X8_tries rfl rfl rfl (by decide +kernel) (rmv (Nat.le_of_ble_eq_true rfl) (Nat.le_of_ble_eq_true rfl) hRf hRl)) hK trivial hw rfl rfl rfl hl rfl (Nat.le_of_ble_eq_true rfl) ⟨Nat.zero_le _, Nat.zero_le _⟩ dX8_string_28 (fun u_28 H locs hpq hw => ?_)
      obtain ⟨b2_28, w2_28, ba2_28⟩ := u_28
      have hw : gW D A js.heap ((mG a (nI n) tx pl st va fy fa ry se (nI b2_28) (cumQ (pForce told (w 48)) (told 5) q b2_28) (fbQ q b2_28) bo bk) :: (aG c4 (a 2) 18 told) :: (aG c4 (a 1) 204 w2_28) :: (aG c4 (a 7) 12 ba2_28) :: Ts) H locs := hw
      obtain ⟨hb2_28, hba_28, hW_28⟩ := hpq
      have hb2_28 : b2_28 = bhQ (pForce told (w 48)) (told 5) t q n := hb2_28
      have hba_28 : ∀ k, k < b2_28 → ba2_28 k = cumQ (pForce told (w 48)) (told 5) q (k + 1) := hba_28
      have hW_28 : wNow w w2_28 := hW_28
      refine lv_aload_n hx hb dX8_string_31 rfl (lv_at hl 0 rfl) ?_
      refine r_get (T := TX8) (v := .int (fbQ q b2_28)) hx hb hts hi8 hown hK hw 0 rfl rfl 18 (by decide) f_2 rfl dX8_string_32 ?_
      refine lv_iconst (v := (-1)) hx hb dX8_string_35 (by decide) ?_
      refine lv_icmp_ne (tgt := 43) hx hb dX8_string_36 (by decide) (fun c_36 => ?_) (fun c_36 => ?_)
      · refine lv_aload_n hx hb dX8_string_43 rfl (lv_at hl 0 rfl) ?_
        refine r_get (T := TX8) (v := .ref (a 2)) hx hb hts hi8 hown hK hw 0 rfl rfl 1 (by decide) f_3 rfl dX8_string_44 ?_
        refine lv_iconst (v := 4) hx hb dX8_string_47 (by decide) ?_
        refine r_iald hx hb hK hw 1 0 rfl rfl 4 (by omega) (by decide) dX8_string_48 ?_
        refine lv_iconst (v := 1) hx hb dX8_string_49 (by decide) ?_
        refine lv_isub hx hb dX8_string_50 ?_
        refine lv_iload_n hx hb dX8_string_51 rfl (lv_at hl 2 rfl) ?_
        refine lv_idiv hx hb dX8_string_52 (fun z => hgi.1 (by rw [z]; decide)) ?_
        exact kr (((told 4) - 1) / g) ((nI b2_28), (cumQ (pForce told (w 48)) (told 5) q b2_28), (fbQ q b2_28), w2_28, ba2_28) _ _ _ _ hw ⟨(by unfold strF; rw [if_pos (h1_1 c_4), if_pos hgi, ← hb2_28, if_neg c_36]), hW_28⟩ dX8_string_53
      · refine lv_iconst (v := (-1)) hx hb dX8_string_39 (by decide) ?_
        refine lv_goto (tgt := 53) hx hb dX8_string_40 (by decide) ?_
        exact kr (-1) ((nI b2_28), (cumQ (pForce told (w 48)) (told 5) q b2_28), (fbQ q b2_28), w2_28, ba2_28) _ _ _ _ hw ⟨(by unfold strF; rw [if_pos (h1_1 c_4), if_pos hgi, ← hb2_28, if_pos c_36]), hW_28⟩ dX8_string_53
    · refine lv_ldc hx hb hown f_0 dX8_string_19 ?_
      exact kr (-1000000002) (bh, mi, fb, w, ba) _ _ _ _ hw ⟨(by unfold strF; rw [if_pos (h1_1 c_4), if_neg (fun z => h0_13 c_16 ((inL (lo := 1) (hi := 99) rfl rfl).mpr z))]), (wNow.rf _)⟩ dX8_string_21
