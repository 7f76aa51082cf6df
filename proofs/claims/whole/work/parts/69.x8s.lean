set_option maxHeartbeats 4000000 in
set_option maxRecDepth 100000 in
theorem k_X8_odds (l : Launch) (D : va_G) (c4 : Nat → ClassId) (A : Nat → Prop) (Ts : List va_W) (a : Nat → Nat) (n : Nat) (tx : Int32) (pl : Int32) (st : Int32) (va : Int32) (fy : Int32) (fa : Int32) (ry : Int32) (se : Int32) (bh : Int32) (mi : Int32) (fb : Int32) (bo : Int32) (bk : Int32) (told : Nat → Int32) (w : Nat → Int32) (ba : Nat → Int32) (q : Nat → Yq) (k : Int32) (c : Int32) (d : Int32) (w0 : Int32) (t : Int32) (hn : n ≤ 12) (hY : mY q n w 0) (hT : tlOk told) (hbt : rng (w 48) 1 9) : Ci l yX8_odds wsX8_odds 2 47 [.ref (a 0), .int k, .int c, .int d, .int w0, .int t] D (tyA c4) A none ((mG a (nI n) tx pl st va fy fa ry se bh mi fb bo bk) :: (aG c4 (a 2) 18 told) :: (aG c4 (a 1) 204 w) :: (aG c4 (a 7) 12 ba) :: Ts) (S := Int32 × Int32 × Int32 × (Nat → Int32) × (Nat → Int32)) (fun (r : Int32) (u : Int32 × Int32 × Int32 × (Nat → Int32) × (Nat → Int32)) => (r = (oddsF k c d w0 t (pForce told (w 48)) (told 5) q n)) ∧ (wNow w u.2.2.2.1)) (fun u => ((mG a (nI n) tx pl st va fy fa ry se u.1 u.2.1 u.2.2.1 bo bk) :: (aG c4 (a 2) 18 told) :: (aG c4 (a 1) 204 u.2.2.2.1) :: (aG c4 (a 7) 12 u.2.2.2.2) :: Ts)) := by
  refine cOi (cc := cX8_odds) (maxL := 15) (by decide) rfl (Nat.le_of_ble_eq_true rfl) rfl ?_
  rintro jp je js jm below meth jc ls args R Q H locs hRf hRl ⟨hx, hb, hml, hr, hts, hown, hlocks, hK, hX⟩ hw hl kr
  have hown : js.vm.findClass RX8 = some jm.cls := hown
  have f_0 := hts (.constantLong RX8 210 (8)) (by decide +kernel)
  have f_1 := hts (.constant RX8 83 (-1000000002)) (by decide +kernel)
  have f_2 := hts (.constantLong RX8 153 (30)) (by decide +kernel)
  have f_3 := hts (.constantLong RX8 172 (60)) (by decide +kernel)
  have f_4 := hts (.constantLong RX8 217 (100)) (by decide +kernel)
  have f_5 := hts (.constantLong RX8 219 (1000000000)) (by decide +kernel)
  have f_6 := hts (.fieldLink RX8 177 "IceSwayModel" "behind" "I") (by decide +kernel)
  have f_7 := hts (.fieldLink RX8 60 "IceSwayModel" "yards" "I") (by decide +kernel)
  have hi8 : ∀ w ∈ u_ws RX8 TX8 28, w ∈ wsX8_odds := fun w h => List.mem_cons_of_mem _ (List.mem_append_right _ h)
  refine lv_iload_n hx hb dX8_odds_0 rfl (lv_at hl 1 rfl) ?_
  refine lv_i2l hx hb dX8_odds_1 rfl ?_
  refine lv_lconst (v := 1) hx hb dX8_odds_2 (by decide) ?_
  refine lv_ldc2 hx hb hown f_0 dX8_odds_3 ?_
  refine c_si (As := [.long k.toInt64, .long 1, .long 8]) (rest := []) ⟨hx, hb, hml, hown, hts⟩ (k_X8_in l D c4 A ((mG a (nI n) tx pl st va fy fa ry se bh mi fb bo bk) :: (aG c4 (a 2) 18 told) :: (aG c4 (a 1) 204 w) :: (aG c4 (a 7) 12 ba) :: Ts) k.toInt64 1 8) (va_cwS 3 hts gX8_odds_X8_in rfl rfl rfl (by decide +kernel) (rmv (Nat.le_of_ble_eq_true rfl) (Nat.le_of_ble_eq_true rfl) hRf hRl)) hK trivial hw rfl hl rfl (Nat.le_of_ble_eq_true rfl) ⟨Nat.zero_le _, Nat.zero_le _⟩ dX8_odds_6 (fun r_6 u_6 H locs hpq hw => ?_)
  obtain ⟨h0_6, h1_6, hz_6⟩ := hpq
  refine lv_if_eq (tgt := 57) hx hb dX8_odds_9 (by decide) (fun c_9 => ?_) (fun c_9 => ?_)
  · refine lv_ldc hx hb hown f_1 dX8_odds_57 ?_
    exact kr (-1000000002) (bh, mi, fb, w, ba) _ _ _ _ hw ⟨(by unfold oddsF; rw [if_neg (fun z => h0_6 c_9 ((inL (lo := 1) (hi := 8) rfl rfl).mpr z))]), (wNow.rf _)⟩ dX8_odds_59
  · refine lv_iload_n hx hb dX8_odds_12 rfl (lv_at hl 2 rfl) ?_
    refine lv_i2l hx hb dX8_odds_13 rfl ?_
    refine lv_lconst (v := 0) hx hb dX8_odds_14 (by decide) ?_
    refine lv_ldc2 hx hb hown f_2 dX8_odds_15 ?_
    refine c_si (As := [.long c.toInt64, .long 0, .long 30]) (rest := []) ⟨hx, hb, hml, hown, hts⟩ (k_X8_in l D c4 A ((mG a (nI n) tx pl st va fy fa ry se bh mi fb bo bk) :: (aG c4 (a 2) 18 told) :: (aG c4 (a 1) 204 w) :: (aG c4 (a 7) 12 ba) :: Ts) c.toInt64 0 30) (va_cwS 3 hts gX8_odds_X8_in rfl rfl rfl (by decide +kernel) (rmv (Nat.le_of_ble_eq_true rfl) (Nat.le_of_ble_eq_true rfl) hRf hRl)) hK trivial hw rfl hl rfl (Nat.le_of_ble_eq_true rfl) ⟨Nat.zero_le _, Nat.zero_le _⟩ dX8_odds_18 (fun r_18 u_18 H locs hpq hw => ?_)
    obtain ⟨h0_18, h1_18, hz_18⟩ := hpq
    refine lv_if_eq (tgt := 57) hx hb dX8_odds_21 (by decide) (fun c_21 => ?_) (fun c_21 => ?_)
    · refine lv_ldc hx hb hown f_1 dX8_odds_57 ?_
      exact kr (-1000000002) (bh, mi, fb, w, ba) _ _ _ _ hw ⟨(by unfold oddsF; rw [if_pos ((inL (lo := 1) (hi := 8) rfl rfl).mp (h1_6 c_9)), if_neg (fun z => h0_18 c_21 ((inL (lo := 0) (hi := 30) rfl rfl).mpr z))]), (wNow.rf _)⟩ dX8_odds_59
    · refine lv_iload_n hx hb dX8_odds_24 rfl (lv_at hl 3 rfl) ?_
      refine lv_i2l hx hb dX8_odds_25 rfl ?_
      refine lv_lconst (v := 0) hx hb dX8_odds_26 (by decide) ?_
      refine lv_ldc2 hx hb hown f_3 dX8_odds_27 ?_
      refine c_si (As := [.long d.toInt64, .long 0, .long 60]) (rest := []) ⟨hx, hb, hml, hown, hts⟩ (k_X8_in l D c4 A ((mG a (nI n) tx pl st va fy fa ry se bh mi fb bo bk) :: (aG c4 (a 2) 18 told) :: (aG c4 (a 1) 204 w) :: (aG c4 (a 7) 12 ba) :: Ts) d.toInt64 0 60) (va_cwS 3 hts gX8_odds_X8_in rfl rfl rfl (by decide +kernel) (rmv (Nat.le_of_ble_eq_true rfl) (Nat.le_of_ble_eq_true rfl) hRf hRl)) hK trivial hw rfl hl rfl (Nat.le_of_ble_eq_true rfl) ⟨Nat.zero_le _, Nat.zero_le _⟩ dX8_odds_30 (fun r_30 u_30 H locs hpq hw => ?_)
      obtain ⟨h0_30, h1_30, hz_30⟩ := hpq
      refine lv_if_eq (tgt := 57) hx hb dX8_odds_33 (by decide) (fun c_33 => ?_) (fun c_33 => ?_)
      · refine lv_ldc hx hb hown f_1 dX8_odds_57 ?_
        exact kr (-1000000002) (bh, mi, fb, w, ba) _ _ _ _ hw ⟨(by unfold oddsF; rw [if_pos ((inL (lo := 1) (hi := 8) rfl rfl).mp (h1_6 c_9)), if_pos ((inL (lo := 0) (hi := 30) rfl rfl).mp (h1_18 c_21)), if_neg (fun z => h0_30 c_33 ((inL (lo := 0) (hi := 60) rfl rfl).mpr z))]), (wNow.rf _)⟩ dX8_odds_59
      · refine lv_iload hx hb dX8_odds_36 (lv_at hl 4 rfl) ?_
        refine lv_i2l hx hb dX8_odds_38 rfl ?_
        refine lv_lconst (v := 0) hx hb dX8_odds_39 (by decide) ?_
        refine lv_ldc2 hx hb hown f_4 dX8_odds_40 ?_
        refine c_si (As := [.long w0.toInt64, .long 0, .long 100]) (rest := []) ⟨hx, hb, hml, hown, hts⟩ (k_X8_in l D c4 A ((mG a (nI n) tx pl st va fy fa ry se bh mi fb bo bk) :: (aG c4 (a 2) 18 told) :: (aG c4 (a 1) 204 w) :: (aG c4 (a 7) 12 ba) :: Ts) w0.toInt64 0 100) (va_cwS 3 hts gX8_odds_X8_in rfl rfl rfl (by decide +kernel) (rmv (Nat.le_of_ble_eq_true rfl) (Nat.le_of_ble_eq_true rfl) hRf hRl)) hK trivial hw rfl hl rfl (Nat.le_of_ble_eq_true rfl) ⟨Nat.zero_le _, Nat.zero_le _⟩ dX8_odds_43 (fun r_43 u_43 H locs hpq hw => ?_)
        obtain ⟨h0_43, h1_43, hz_43⟩ := hpq
        refine lv_if_eq (tgt := 57) hx hb dX8_odds_46 (by decide) (fun c_46 => ?_) (fun c_46 => ?_)
        · refine lv_ldc hx hb hown f_1 dX8_odds_57 ?_
          exact kr (-1000000002) (bh, mi, fb, w, ba) _ _ _ _ hw ⟨(by unfold oddsF; rw [if_pos ((inL (lo := 1) (hi := 8) rfl rfl).mp (h1_6 c_9)), if_pos ((inL (lo := 0) (hi := 30) rfl rfl).mp (h1_18 c_21)), if_pos ((inL (lo := 0) (hi := 60) rfl rfl).mp (h1_30 c_33)), if_neg (fun z => h0_43 c_46 ((inL (lo := 0) (hi := 100) rfl rfl).mpr z))]), (wNow.rf _)⟩ dX8_odds_59
        · refine lv_iload hx hb dX8_odds_49 (lv_at hl 5 rfl) ?_
          refine c_si (As := [.int t]) (rest := []) ⟨hx, hb, hml, hown, hts⟩ (k_X8_isTime l D c4 A ((mG a (nI n) tx pl st va fy fa ry se bh mi fb bo bk) :: (aG c4 (a 2) 18 told) :: (aG c4 (a 1) 204 w) :: (aG c4 (a 7) 12 ba) :: Ts) t) (va_cwS 1 hts gX8_odds_X8_isTime rfl rfl rfl (by decide +kernel) (rmv (Nat.le_of_ble_eq_true rfl) (Nat.le_of_ble_eq_true rfl) hRf hRl)) hK trivial hw rfl hl rfl (Nat.le_of_ble_eq_true rfl) ⟨Nat.zero_le _, Nat.zero_le _⟩ dX8_odds_51 (fun r_51 u_51 H locs hpq hw => ?_)
          obtain ⟨h0_51, h1_51⟩ := hpq
          refine lv_if_ne (tgt := 60) hx hb dX8_odds_54 (by decide) (fun c_54 => ?_) (fun c_54 => ?_)
          · obtain ⟨j, hj1, hj8, ej⟩ := (show inR k 1 8 from ((inL (lo := 1) (hi := 8) rfl rfl).mp (h1_6 c_9))).nat (a := 1) (b := 8) rfl rfl
            have h2j : 2 ^ j ≤ 256 := Nat.pow_le_pow_right (by decide) hj8
            refine lv_aload_n hx hb dX8_odds_60 rfl (lv_at hl 0 rfl) ?_
            have hw := hw.m2
            have hw := hw.m2
            have hw := hw.m2
            refine c_vi (As := []) (rest := []) ⟨hx, hb, hml, hown, hts⟩ (k_X8_forceNow l D c4 A ((aG c4 (a 7) 12 ba) :: Ts) a (nI n) tx pl st va fy fa ry se bh mi fb bo bk told w hT hbt) (cwV 0 hts gX8_odds_X8_forceNow rfl rfl rfl (by decide +kernel) (rmv (Nat.le_of_ble_eq_true rfl) (Nat.le_of_ble_eq_true rfl) hRf hRl)) hK trivial hw rfl rfl rfl hl rfl (Nat.le_of_ble_eq_true rfl) ⟨Nat.zero_le _, Nat.zero_le _⟩ dX8_odds_61 (fun r_61 u_61 H locs hpq hw => ?_)
            have er_61 := hpq
            subst er_61
            refine lv_istore (lv' := [(6, .int (pForce told (w 48))), (0, .ref (a 0)), (1, .int k), (2, .int c), (3, .int d), (4, .int w0), (5, .int t)]) hx hb dX8_odds_64 hl (by decide) rfl (fun ls hl => ?_)
            refine lv_lconst (v := 0) hx hb dX8_odds_66 (by decide) ?_
            refine lv_lstore (lv' := [(7, .long 0), (6, .int (pForce told (w 48))), (0, .ref (a 0)), (1, .int k), (2, .int c), (3, .int d), (4, .int w0), (5, .int t)]) hx hb dX8_odds_67 hl (by decide) rfl (fun ls hl => ?_)
            refine lv_iconst (v := 0) hx hb dX8_odds_69 (by decide) ?_
            refine lv_istore (lv' := [(9, .int 0), (7, .long 0), (6, .int (pForce told (w 48))), (0, .ref (a 0)), (1, .int k), (2, .int c), (3, .int d), (4, .int w0), (5, .int t)]) hx hb dX8_odds_70 hl (by decide) rfl (fun ls hl => ?_)
            have loop_72 : ∀ (fuel : Nat) (s : Nat) (sm : Int64) (bh1 : Int32) (mi1 : Int32) (fb1 : Int32) (w1 : Nat → Int32) (ba1 : Nat → Int32), (2 ^ j - s) < fuel → (s ≤ 2 ^ j) → (sm = oddS n (pForce told (w 48)) (told 5) t c d w0 j q 1000000000 s) → (wNow w w1) → ∀ (H : Heap) (locs : List Loc), gW D A js.heap ((mG a (nI n) tx pl st va fy fa ry se bh1 mi1 fb1 bo bk) :: (aG c4 (a 2) 18 told) :: (aG c4 (a 1) 204 w1) :: (aG c4 (a 7) 12 ba1) :: Ts) H locs → ∀ (ls : Array Slot), lv_has ls 15 [(9, .int (nI s)), (7, .long sm), (6, .int (pForce told (w 48))), (0, .ref (a 0)), (1, .int k), (2, .int c), (3, .int d), (4, .int w0), (5, .int t)] → W jp l je R js jm args below meth jc H locs 0 0 Q (F0 jm 72 ls []) := by
              intro fuel
              induction fuel with
              | zero => intro s sm bh1 mi1 fb1 w1 ba1 hm; exact absurd hm (Nat.not_lt_zero _)
              | succ fuel ih_72 =>
                intro s sm bh1 mi1 fb1 w1 ba1 hm_72 hs hS hW1 H locs hw ls hl
                refine lv_iload hx hb dX8_odds_72 (lv_at hl 0 rfl) ?_
                refine lv_iconst (v := 1) hx hb dX8_odds_74 (by decide) ?_
                refine lv_iload_n hx hb dX8_odds_75 rfl (lv_at hl 4 rfl) ?_
                refine r_top (y := nI j) ej ?_
                refine lv_ishl hx hb dX8_odds_76 ?_
                refine r_top (y := nI (2 ^ j)) (shl_one (by omega)) ?_
                refine r_cge hx hb s (2 ^ j) (by omega) (by omega) (tgt := 196) dX8_odds_77 (by decide) (fun c_77 => ?_) (fun c_77 => ?_)
                · refine lv_lload hx hb dX8_odds_196 (lv_at hl 1 rfl) ?_
                  refine lv_l2i hx hb dX8_odds_198 rfl ?_
                  exact kr sm.toInt32 (bh1, mi1, fb1, w1, ba1) _ _ _ _ hw ⟨(by unfold oddsF; rw [if_pos ((inL (lo := 1) (hi := 8) rfl rfl).mp (h1_6 c_9)), if_pos ((inL (lo := 0) (hi := 30) rfl rfl).mp (h1_18 c_21)), if_pos ((inL (lo := 0) (hi := 60) rfl rfl).mp (h1_30 c_33)), if_pos ((inL (lo := 0) (hi := 100) rfl rfl).mp (h1_43 c_46)), if_pos (h1_51 c_54), ej, nI_clamp (by omega), hS, show s = 2 ^ j by omega, odd_sum]), hW1⟩ dX8_odds_199
                · refine lv_aload_n hx hb dX8_odds_80 rfl (lv_at hl 3 rfl) ?_
                  refine lv_iconst (v := 0) hx hb dX8_odds_81 (by decide) ?_
                  refine lv_bipush (v := 51) hx hb dX8_odds_82 (by decide) ?_
                  have hw := hw.m2
                  have hw := hw.m1
                  refine c_vv (As := [.int 0, .int 51]) (rest := []) ⟨hx, hb, hml, hown, hts⟩ (k_X8_copy l D c4 A ((aG c4 (a 2) 18 told) :: (aG c4 (a 7) 12 ba1) :: Ts) a (nI n) tx pl st va fy fa ry se bh1 mi1 fb1 bo bk w1 0 51 (by decide) (by decide) (Or.inl (by decide))) (cwV 2 hts gX8_odds_X8_copy rfl rfl rfl (by decide +kernel) (rmv (Nat.le_of_ble_eq_true rfl) (Nat.le_of_ble_eq_true rfl) hRf hRl)) hK trivial hw rfl rfl rfl hl rfl (Nat.le_of_ble_eq_true rfl) ⟨Nat.zero_le _, Nat.zero_le _⟩ dX8_odds_84 (fun u_84 H locs hpq hw => ?_)
                  refine lv_ldc2 hx hb hown f_5 dX8_odds_87 ?_
                  refine lv_lstore (lv' := [(10, .long 1000000000), (9, .int (nI s)), (7, .long sm), (6, .int (pForce told (w 48))), (0, .ref (a 0)), (1, .int k), (2, .int c), (3, .int d), (4, .int w0), (5, .int t)]) hx hb dX8_odds_90 hl (by decide) rfl (fun ls hl => ?_)
                  refine lv_iconst (v := 0) hx hb dX8_odds_92 (by decide) ?_
                  refine lv_istore (lv' := [(12, .int 0), (10, .long 1000000000), (9, .int (nI s)), (7, .long sm), (6, .int (pForce told (w 48))), (0, .ref (a 0)), (1, .int k), (2, .int c), (3, .int d), (4, .int w0), (5, .int t)]) hx hb dX8_odds_93 hl (by decide) rfl (fun ls hl => ?_)
                  have loop_95 : ∀ (fuel : Nat) (u : Nat) (p : Int64) (qd : Nat → Yq) (w3 : Nat → Int32), (j - u) < fuel → (u ≤ j) → (mY qd n w3 51) → (wNow w w3) → (oddL n (pForce told (w 48)) (told 5) t c d w0 (j - u) (s / 2 ^ u) qd p = oddL n (pForce told (w 48)) (told 5) t c d w0 j s q 1000000000) → ∀ (H : Heap) (locs : List Loc), gW D A js.heap ((mG a (nI n) tx pl st va fy fa ry se bh1 mi1 fb1 bo bk) :: (aG c4 (a 1) 204 w3) :: (aG c4 (a 2) 18 told) :: (aG c4 (a 7) 12 ba1) :: Ts) H locs → ∀ (ls : Array Slot), lv_has ls 15 [(12, .int (nI u)), (10, .long p), (9, .int (nI s)), (7, .long sm), (6, .int (pForce told (w 48))), (0, .ref (a 0)), (1, .int k), (2, .int c), (3, .int d), (4, .int w0), (5, .int t)] → W jp l je R js jm args below meth jc H locs 0 0 Q (F0 jm 95 ls []) := by
                    intro fuel
                    induction fuel with
                    | zero => intro u p qd w3 hm; exact absurd hm (Nat.not_lt_zero _)
                    | succ fuel ih_95 =>
                      intro u p qd w3 hm_95 hu hM hW3 hE H locs hw ls hl
                      refine lv_iload hx hb dX8_odds_95 (lv_at hl 0 rfl) ?_
                      refine lv_iload_n hx hb dX8_odds_97 rfl (lv_at hl 6 rfl) ?_
                      refine r_top (y := nI j) ej ?_
                      refine r_cge hx hb u j (by omega) (by omega) (tgt := 158) dX8_odds_98 (by decide) (fun c_98 => ?_) (fun c_98 => ?_)
                      · refine lv_aload_n hx hb dX8_odds_158 rfl (lv_at hl 5 rfl) ?_
                        refine lv_bipush (v := 51) hx hb dX8_odds_159 (by decide) ?_
                        refine lv_iload hx hb dX8_odds_161 (lv_at hl 10 rfl) ?_
                        refine lv_iload hx hb dX8_odds_163 (lv_at hl 4 rfl) ?_
                        have hw := hw.m3
                        have hw := hw.m2
                        have hw := hw.m3
                        have hw := hw.m3
                        refine c_vv (As := [.int 51, .int t, .int (pForce told (w 48))]) (rest := []) ⟨hx, hb, hml, hown, hts⟩ (k_X8_goes l D c4 A Ts a n tx pl st va fy fa ry se bh1 mi1 fb1 bo bk told w3 ba1 qd 51 t (pForce told (w 48)) hn hM (by decide) (force_rng hT _)) (cwV 3 hts gX8_odds_X8_goes rfl rfl rfl (by decide +kernel) (rmv (Nat.le_of_ble_eq_true rfl) (Nat.le_of_ble_eq_true rfl) hRf hRl)) hK trivial hw rfl rfl rfl hl rfl (Nat.le_of_ble_eq_true rfl) ⟨Nat.zero_le _, Nat.zero_le _⟩ dX8_odds_165 (fun u_165 H locs hpq hw => ?_)
                        obtain ⟨b2_165, w2_165, ba2_165⟩ := u_165
                        have hw : gW D A js.heap ((mG a (nI n) tx pl st va fy fa ry se (nI b2_165) (cumQ (pForce told (w 48)) (told 5) qd b2_165) (fbQ qd b2_165) bo bk) :: (aG c4 (a 2) 18 told) :: (aG c4 (a 1) 204 w2_165) :: (aG c4 (a 7) 12 ba2_165) :: Ts) H locs := hw
                        obtain ⟨hb2_165, hba_165, hM_165, hO_165⟩ := hpq
                        have hb2_165 : b2_165 = bhQ (pForce told (w 48)) (told 5) t qd n := hb2_165
                        have hba_165 : ∀ k, k < b2_165 → ba2_165 k = cumQ (pForce told (w 48)) (told 5) qd (k + 1) := hba_165
                        have hM_165 : mY (mixQ openQ qd b2_165) n w2_165 51 := hM_165
                        have hO_165 : wOut 51 w3 w2_165 := hO_165
                        have hle : b2_165 ≤ n := by rw [hb2_165]; exact bh_le _ _ _ _ _
                        refine lv_lload hx hb dX8_odds_168 (lv_at hl 3 rfl) ?_
                        refine lv_aload_n hx hb dX8_odds_170 rfl (lv_at hl 5 rfl) ?_
                        refine r_get (T := TX8) (v := .int (nI b2_165)) hx hb hts hi8 hown hK hw 0 rfl rfl 16 (by decide) f_6 rfl dX8_odds_171 ?_
                        refine lv_aload_n hx hb dX8_odds_174 rfl (lv_at hl 5 rfl) ?_
                        refine r_get (T := TX8) (v := .int (nI n)) hx hb hts hi8 hown hK hw 0 rfl rfl 2 (by decide) f_7 rfl dX8_odds_175 ?_
                        have kj_178 : ∀ (w_1 : Int64) (ls : Array Slot), w_1 = (if b2_165 = n then p else 0) → lv_has ls 15 [(12, .int (nI u)), (10, .long p), (9, .int (nI s)), (7, .long sm), (6, .int (pForce told (w 48))), (0, .ref (a 0)), (1, .int k), (2, .int c), (3, .int d), (4, .int w0), (5, .int t)] → W jp l je R js jm args below meth jc H locs 0 0 Q (F0 jm 187 ls [.long w_1, .long sm]) := by
                          intro w_1 ls e_w_1 hl
                          subst e_w_1
                          refine lv_ladd hx hb dX8_odds_187 ?_
                          refine lv_lstore (lv' := [(7, .long (sm + (if b2_165 = n then p else 0))), (12, .int (nI u)), (10, .long p), (9, .int (nI s)), (6, .int (pForce told (w 48))), (0, .ref (a 0)), (1, .int k), (2, .int c), (3, .int d), (4, .int w0), (5, .int t)]) hx hb dX8_odds_188 hl (by decide) rfl (fun ls hl => ?_)
                          refine lv_iinc (v := (nI (s + 1))) (lv' := [(9, .int (nI (s + 1))), (7, .long (sm + (if b2_165 = n then p else 0))), (12, .int (nI u)), (10, .long p), (6, .int (pForce told (w 48))), (0, .ref (a 0)), (1, .int k), (2, .int c), (3, .int d), (4, .int w0), (5, .int t)]) hx hb dX8_odds_190 hl (k := 3) rfl (nI_add _ _) (by decide) rfl (fun ls hl => ?_)
                          refine lv_goto (tgt := 72) hx hb dX8_odds_193 (by decide) ?_
                          exact ih_72 (s + 1) (sm + (if b2_165 = n then p else 0)) (nI b2_165) (cumQ (pForce told (w 48)) (told 5) qd b2_165) (fbQ qd b2_165) w2_165 ba2_165 (by omega) (by omega) (by rw [hS, ol_end (by omega) hb2_165 hE]; rfl) (hW3.o hO_165) _ _ hw ls (lv_sub hl [0, 1, 4, 5, 6, 7, 8, 9, 10] rfl)
                        refine r_cne hx hb b2_165 n (by omega) (by omega) (tgt := 186) dX8_odds_178 (by decide) (fun c_178 => ?_) (fun c_178 => ?_)
                        · refine lv_lconst (v := 0) hx hb dX8_odds_186 (by decide) ?_
                          exact kj_178 _ ls (by first | rfl | (rw [if_neg c_178]; done) | (simp only [if_neg c_178]; done) | simp [c_178]) (lv_sub hl [0, 1, 2, 3, 4, 5, 6, 7, 8, 9, 10] rfl)
                        · refine lv_lload hx hb dX8_odds_181 (lv_at hl 1 rfl) ?_
                          refine lv_goto (tgt := 187) hx hb dX8_odds_183 (by decide) ?_
                          exact kj_178 _ ls (by first | rfl | (rw [if_pos c_178]; done) | (simp only [if_pos c_178]; done) | simp [c_178]) (lv_sub hl [0, 1, 2, 3, 4, 5, 6, 7, 8, 9, 10] rfl)
                      · refine lv_lload hx hb dX8_odds_101 (lv_at hl 1 rfl) ?_
                        refine lv_iload hx hb dX8_odds_103 (lv_at hl 9 rfl) ?_
                        refine lv_i2l hx hb dX8_odds_105 rfl ?_
                        refine lv_lmul hx hb dX8_odds_106 ?_
                        refine lv_ldc2 hx hb hown f_4 dX8_odds_107 ?_
                        refine lv_ldiv hx hb dX8_odds_110 (by decide) ?_
                        refine lv_lstore (lv' := [(13, .long ((p * w0.toInt64) / 100)), (12, .int (nI u)), (10, .long p), (9, .int (nI s)), (7, .long sm), (6, .int (pForce told (w 48))), (0, .ref (a 0)), (1, .int k), (2, .int c), (3, .int d), (4, .int w0), (5, .int t)]) hx hb dX8_odds_111 hl (by decide) rfl (fun ls hl => ?_)
                        refine lv_iload hx hb dX8_odds_113 (lv_at hl 3 rfl) ?_
                        refine lv_iload hx hb dX8_odds_115 (lv_at hl 1 rfl) ?_
                        refine lv_ishr hx hb dX8_odds_117 ?_
                        refine lv_iconst (v := 1) hx hb dX8_odds_118 (by decide) ?_
                        refine lv_iand hx hb dX8_odds_119 ?_
                        refine lv_iconst (v := 1) hx hb dX8_odds_120 (by decide) ?_
                        refine lv_icmp_ne (tgt := 138) hx hb dX8_odds_121 (by decide) (fun c_121 => ?_) (fun c_121 => ?_)
                        · refine lv_lload hx hb dX8_odds_138 (lv_at hl 2 rfl) ?_
                          refine lv_lload hx hb dX8_odds_140 (lv_at hl 0 rfl) ?_
                          refine lv_lsub hx hb dX8_odds_142 ?_
                          refine lv_lstore (lv' := [(10, .long (p - ((p * w0.toInt64) / 100))), (13, .long ((p * w0.toInt64) / 100)), (12, .int (nI u)), (9, .int (nI s)), (7, .long sm), (6, .int (pForce told (w 48))), (0, .ref (a 0)), (1, .int k), (2, .int c), (3, .int d), (4, .int w0), (5, .int t)]) hx hb dX8_odds_143 hl (by decide) rfl (fun ls hl => ?_)
                          refine lv_aload_n hx hb dX8_odds_145 rfl (lv_at hl 6 rfl) ?_
                          refine lv_bipush (v := 51) hx hb dX8_odds_146 (by decide) ?_
                          refine lv_iload_n hx hb dX8_odds_148 rfl (lv_at hl 8 rfl) ?_
                          have hw := hw.m1
                          have hw := hw.m1
                          refine c_vv (As := [.int 51, .int c]) (rest := []) ⟨hx, hb, hml, hown, hts⟩ (k_X8_nightOf l D c4 A ((aG c4 (a 2) 18 told) :: (aG c4 (a 7) 12 ba1) :: Ts) a n tx pl st va fy fa ry se bh1 mi1 fb1 bo bk w3 qd 51 c hn hM (by decide) (coldI ((inL (lo := 0) (hi := 30) rfl rfl).mp (h1_18 c_21)))) (cwV 2 hts gX8_odds_X8_nightOf rfl rfl rfl (by decide +kernel) (rmv (Nat.le_of_ble_eq_true rfl) (Nat.le_of_ble_eq_true rfl) hRf hRl)) hK trivial hw rfl rfl rfl hl rfl (Nat.le_of_ble_eq_true rfl) ⟨Nat.zero_le _, Nat.zero_le _⟩ dX8_odds_149 (fun u_149 H locs hpq hw => ?_)
                          obtain ⟨w2_149, rfl⟩ : ∃ z, z = u_149 := ⟨_, rfl⟩
                          have hw : gW D A js.heap ((mG a (nI n) tx pl st va fy fa ry se bh1 mi1 fb1 bo bk) :: (aG c4 (a 1) 204 w2_149) :: (aG c4 (a 2) 18 told) :: (aG c4 (a 7) 12 ba1) :: Ts) H locs := hw
                          obtain ⟨hM_149, hN_149, hO_149⟩ := hpq
                          have hM_149 : mY (fun y => nightQ c (qd y)) n w2_149 51 := hM_149
                          have hN_149 : w2_149 (51 + 49) = w3 (51 + 49) + 1 := hN_149
                          have hO_149 : wOt 51 w3 w2_149 := hO_149
                          refine lv_iinc (v := (nI (u + 1))) (lv' := [(12, .int (nI (u + 1))), (10, .long (p - ((p * w0.toInt64) / 100))), (13, .long ((p * w0.toInt64) / 100)), (9, .int (nI s)), (7, .long sm), (6, .int (pForce told (w 48))), (0, .ref (a 0)), (1, .int k), (2, .int c), (3, .int d), (4, .int w0), (5, .int t)]) hx hb dX8_odds_152 hl (k := 2) rfl (nI_add _ _) (by decide) rfl (fun ls hl => ?_)
                          refine lv_goto (tgt := 95) hx hb dX8_odds_155 (by decide) ?_
                          exact ih_95 (u + 1) (p - ((p * w0.toInt64) / 100)) (fun y => nightQ c (qd y)) w2_149 (by omega) (by omega) hM_149 (hW3.t hO_149) (ol_no (by omega) c_98 hj8 c_121 hE) _ _ hw ls (lv_sub hl [0, 1, 3, 4, 5, 6, 7, 8, 9, 10, 11] rfl)
                        · refine lv_lload hx hb dX8_odds_124 (lv_at hl 0 rfl) ?_
                          refine lv_lstore (lv' := [(10, .long ((p * w0.toInt64) / 100)), (13, .long ((p * w0.toInt64) / 100)), (12, .int (nI u)), (9, .int (nI s)), (7, .long sm), (6, .int (pForce told (w 48))), (0, .ref (a 0)), (1, .int k), (2, .int c), (3, .int d), (4, .int w0), (5, .int t)]) hx hb dX8_odds_126 hl (by decide) rfl (fun ls hl => ?_)
                          refine lv_aload_n hx hb dX8_odds_128 rfl (lv_at hl 6 rfl) ?_
                          refine lv_bipush (v := 51) hx hb dX8_odds_129 (by decide) ?_
                          refine lv_iload_n hx hb dX8_odds_131 rfl (lv_at hl 9 rfl) ?_
                          have hw := hw.m1
                          have hw := hw.m1
                          refine c_vv (As := [.int 51, .int d]) (rest := []) ⟨hx, hb, hml, hown, hts⟩ (k_X8_thawOf l D c4 A ((aG c4 (a 2) 18 told) :: (aG c4 (a 7) 12 ba1) :: Ts) a n tx pl st va fy fa ry se bh1 mi1 fb1 bo bk w3 qd 51 d hn hM (by decide) (thawI ((inL (lo := 0) (hi := 60) rfl rfl).mp (h1_30 c_33)))) (cwV 2 hts gX8_odds_X8_thawOf rfl rfl rfl (by decide +kernel) (rmv (Nat.le_of_ble_eq_true rfl) (Nat.le_of_ble_eq_true rfl) hRf hRl)) hK trivial hw rfl rfl rfl hl rfl (Nat.le_of_ble_eq_true rfl) ⟨Nat.zero_le _, Nat.zero_le _⟩ dX8_odds_132 (fun u_132 H locs hpq hw => ?_)
                          obtain ⟨w2_132, rfl⟩ : ∃ z, z = u_132 := ⟨_, rfl⟩
                          have hw : gW D A js.heap ((mG a (nI n) tx pl st va fy fa ry se bh1 mi1 fb1 bo bk) :: (aG c4 (a 1) 204 w2_132) :: (aG c4 (a 2) 18 told) :: (aG c4 (a 7) 12 ba1) :: Ts) H locs := hw
                          obtain ⟨hM_132, hN_132, hO_132⟩ := hpq
                          have hM_132 : mY (fun y => thawQ d (qd y)) n w2_132 51 := hM_132
                          have hN_132 : w2_132 (51 + 49) = w3 (51 + 49) + 1 := hN_132
                          have hO_132 : wOt 51 w3 w2_132 := hO_132
                          refine lv_goto (tgt := 152) hx hb dX8_odds_135 (by decide) ?_
                          refine lv_iinc (v := (nI (u + 1))) (lv' := [(12, .int (nI (u + 1))), (10, .long ((p * w0.toInt64) / 100)), (13, .long ((p * w0.toInt64) / 100)), (9, .int (nI s)), (7, .long sm), (6, .int (pForce told (w 48))), (0, .ref (a 0)), (1, .int k), (2, .int c), (3, .int d), (4, .int w0), (5, .int t)]) hx hb dX8_odds_152 hl (k := 2) rfl (nI_add _ _) (by decide) rfl (fun ls hl => ?_)
                          refine lv_goto (tgt := 95) hx hb dX8_odds_155 (by decide) ?_
                          exact ih_95 (u + 1) ((p * w0.toInt64) / 100) (fun y => thawQ d (qd y)) w2_132 (by omega) (by omega) hM_132 (hW3.t hO_132) (ol_yes (by omega) c_98 hj8 c_121 hE) _ _ hw ls (lv_sub hl [0, 1, 3, 4, 5, 6, 7, 8, 9, 10, 11] rfl)
                  exact loop_95 ((j - 0) + 1) 0 1000000000 q (fb_put w1 (fun k => w1 (0 + k)) 51 51) (Nat.lt_succ_self _) (Nat.zero_le _) (cp_mY hn (hY.now hn hW1)) (fun j hj => (wNow.c j hj).trans (hW1 j hj)) ol_init _ _ hw ls (lv_sub hl [0, 1, 2, 3, 4, 5, 6, 7, 8, 9, 10] rfl)
            exact loop_72 ((2 ^ j - 0) + 1) 0 0 bh mi fb w ba (Nat.lt_succ_self _) (Nat.zero_le _) rfl (wNow.rf _) _ _ hw ls (lv_sub hl [0, 1, 2, 3, 4, 5, 6, 7, 8] rfl)
          · refine lv_ldc hx hb hown f_1 dX8_odds_57 ?_
            exact kr (-1000000002) (bh, mi, fb, w, ba) _ _ _ _ hw ⟨(by unfold oddsF; rw [if_pos ((inL (lo := 1) (hi := 8) rfl rfl).mp (h1_6 c_9)), if_pos ((inL (lo := 0) (hi := 30) rfl rfl).mp (h1_18 c_21)), if_pos ((inL (lo := 0) (hi := 60) rfl rfl).mp (h1_30 c_33)), if_pos ((inL (lo := 0) (hi := 100) rfl rfl).mp (h1_43 c_46)), if_neg (h0_51 c_54)]), (wNow.rf _)⟩ dX8_odds_59
