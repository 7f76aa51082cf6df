set_option maxHeartbeats 4000000 in
set_option maxRecDepth 100000 in
theorem k_X8_lost (l : Launch) (D : va_G) (c4 : Nat → ClassId) (A : Nat → Prop) (Ts : List va_W) (a : Nat → Nat) (n : Nat) (tx : Int32) (pl : Int32) (st : Int32) (va : Int32) (fy : Int32) (fa : Int32) (ry : Int32) (se : Int32) (bh : Int32) (mi : Int32) (fb : Int32) (bo : Int32) (bk : Int32) (told : Nat → Int32) (w : Nat → Int32) (ba : Nat → Int32) (q : Nat → Yq) (hd : Nat → Int32) (c : Int32) (t : Int32) (hn : n ≤ 12) (hY : mY q n w 0) (hT : tlOk told) (hbt : rng (w 48) 1 9) : Ci l yX8_lost wsX8_lost 2 47 [.ref (a 0), .int c, .int t] D (tyA c4) A none ((mG a (nI n) tx pl st va fy fa ry se bh mi fb bo bk) :: (aG c4 (a 2) 18 told) :: (aG c4 (a 1) 204 w) :: (aG c4 (a 7) 12 ba) :: (aG c4 (a 8) 51 hd) :: Ts) (S := Int32 × Int32 × Int32 × (Nat → Int32) × (Nat → Int32) × (Nat → Int32)) (fun (r : Int32) (u : Int32 × Int32 × Int32 × (Nat → Int32) × (Nat → Int32) × (Nat → Int32)) => (lostP c t (pForce told (w 48)) (told 5) q n r) ∧ (wNow w u.2.2.2.1)) (fun u => ((mG a (nI n) tx pl st va fy fa ry se u.1 u.2.1 u.2.2.1 bo bk) :: (aG c4 (a 2) 18 told) :: (aG c4 (a 1) 204 u.2.2.2.1) :: (aG c4 (a 7) 12 u.2.2.2.2.1) :: (aG c4 (a 8) 51 u.2.2.2.2.2) :: Ts)) := by
  refine cOi (cc := cX8_lost) (maxL := 6) (by decide) rfl (Nat.le_of_ble_eq_true rfl) rfl ?_
  rintro jp je js jm below meth jc ls args R Q H locs hRf hRl ⟨hx, hb, hml, hr, hts, hown, hlocks, hK, hX⟩ hw hl kr
  have hown : js.vm.findClass RX8 = some jm.cls := hown
  have f_0 := hts (.constantLong RX8 153 (30)) (by decide +kernel)
  have f_1 := hts (.constant RX8 83 (-1000000002)) (by decide +kernel)
  have f_2 := hts (.fieldLink RX8 177 "IceSwayModel" "behind" "I") (by decide +kernel)
  have f_3 := hts (.fieldLink RX8 60 "IceSwayModel" "yards" "I") (by decide +kernel)
  have f_4 := hts (.fieldLink RX8 7 "IceSwayModel" "w" "[I") (by decide +kernel)
  have f_5 := hts (.fieldLink RX8 36 "IceSwayModel" "held" "[I") (by decide +kernel)
  have hi8 : ∀ w ∈ u_ws RX8 TX8 28, w ∈ wsX8_lost := fun w h => List.mem_cons_of_mem _ (List.mem_append_right _ h)
  refine lv_iload_n hx hb dX8_lost_0 rfl (lv_at hl 1 rfl) ?_
  refine lv_i2l hx hb dX8_lost_1 rfl ?_
  refine lv_lconst (v := 0) hx hb dX8_lost_2 (by decide) ?_
  refine lv_ldc2 hx hb hown f_0 dX8_lost_3 ?_
  refine c_si (As := [.long c.toInt64, .long 0, .long 30]) (rest := []) ⟨hx, hb, hml, hown, hts⟩ (k_X8_in l D c4 A ((mG a (nI n) tx pl st va fy fa ry se bh mi fb bo bk) :: (aG c4 (a 2) 18 told) :: (aG c4 (a 1) 204 w) :: (aG c4 (a 7) 12 ba) :: (aG c4 (a 8) 51 hd) :: Ts) c.toInt64 0 30) (va_cwS 3 hts gX8_lost_X8_in rfl rfl rfl (by decide +kernel) (rmv (Nat.le_of_ble_eq_true rfl) (Nat.le_of_ble_eq_true rfl) hRf hRl)) hK trivial hw rfl hl rfl (Nat.le_of_ble_eq_true rfl) ⟨Nat.zero_le _, Nat.zero_le _⟩ dX8_lost_6 (fun r_6 u_6 H locs hpq hw => ?_)
  obtain ⟨h0_6, h1_6, hz_6⟩ := hpq
  refine lv_if_eq (tgt := 19) hx hb dX8_lost_9 (by decide) (fun c_9 => ?_) (fun c_9 => ?_)
  · refine lv_ldc hx hb hown f_1 dX8_lost_19 ?_
    exact kr (-1000000002) (bh, mi, fb, w, ba, hd) _ _ _ _ hw ⟨⟨fun z => absurd z (fun z => h0_6 c_9 ((inL (lo := 0) (hi := 30) rfl rfl).mpr z)), fun _ => rfl⟩, (wNow.rf _)⟩ dX8_lost_21
  · refine lv_iload_n hx hb dX8_lost_12 rfl (lv_at hl 2 rfl) ?_
    refine c_si (As := [.int t]) (rest := []) ⟨hx, hb, hml, hown, hts⟩ (k_X8_isTime l D c4 A ((mG a (nI n) tx pl st va fy fa ry se bh mi fb bo bk) :: (aG c4 (a 2) 18 told) :: (aG c4 (a 1) 204 w) :: (aG c4 (a 7) 12 ba) :: (aG c4 (a 8) 51 hd) :: Ts) t) (va_cwS 1 hts gX8_lost_X8_isTime rfl rfl rfl (by decide +kernel) (rmv (Nat.le_of_ble_eq_true rfl) (Nat.le_of_ble_eq_true rfl) hRf hRl)) hK trivial hw rfl hl rfl (Nat.le_of_ble_eq_true rfl) ⟨Nat.zero_le _, Nat.zero_le _⟩ dX8_lost_13 (fun r_13 u_13 H locs hpq hw => ?_)
    obtain ⟨h0_13, h1_13⟩ := hpq
    refine lv_if_ne (tgt := 22) hx hb dX8_lost_16 (by decide) (fun c_16 => ?_) (fun c_16 => ?_)
    · refine lv_aload_n hx hb dX8_lost_22 rfl (lv_at hl 0 rfl) ?_
      have hw := hw.m2
      have hw := hw.m2
      have hw := hw.m2
      refine c_vi (As := []) (rest := []) ⟨hx, hb, hml, hown, hts⟩ (k_X8_forceNow l D c4 A ((aG c4 (a 7) 12 ba) :: (aG c4 (a 8) 51 hd) :: Ts) a (nI n) tx pl st va fy fa ry se bh mi fb bo bk told w hT hbt) (cwV 0 hts gX8_lost_X8_forceNow rfl rfl rfl (by decide +kernel) (rmv (Nat.le_of_ble_eq_true rfl) (Nat.le_of_ble_eq_true rfl) hRf hRl)) hK trivial hw rfl rfl rfl hl rfl (Nat.le_of_ble_eq_true rfl) ⟨Nat.zero_le _, Nat.zero_le _⟩ dX8_lost_23 (fun r_23 u_23 H locs hpq hw => ?_)
      have er_23 := hpq
      subst er_23
      refine lv_istore_n (lv' := [(3, .int (pForce told (w 48))), (0, .ref (a 0)), (1, .int c), (2, .int t)]) hx hb dX8_lost_26 rfl hl (by decide) rfl (fun ls hl => ?_)
      refine lv_aload_n hx hb dX8_lost_27 rfl (lv_at hl 1 rfl) ?_
      refine lv_iconst (v := 0) hx hb dX8_lost_28 (by decide) ?_
      refine lv_bipush (v := 51) hx hb dX8_lost_29 (by decide) ?_
      have hw := hw.m2
      have hw := hw.m1
      refine c_vv (As := [.int 0, .int 51]) (rest := []) ⟨hx, hb, hml, hown, hts⟩ (k_X8_copy l D c4 A ((aG c4 (a 2) 18 told) :: (aG c4 (a 7) 12 ba) :: (aG c4 (a 8) 51 hd) :: Ts) a (nI n) tx pl st va fy fa ry se bh mi fb bo bk w 0 51 (by decide) (by decide) (Or.inl (by decide))) (cwV 2 hts gX8_lost_X8_copy rfl rfl rfl (by decide +kernel) (rmv (Nat.le_of_ble_eq_true rfl) (Nat.le_of_ble_eq_true rfl) hRf hRl)) hK trivial hw rfl rfl rfl hl rfl (Nat.le_of_ble_eq_true rfl) ⟨Nat.zero_le _, Nat.zero_le _⟩ dX8_lost_31 (fun u_31 H locs hpq hw => ?_)
      refine lv_iconst (v := 0) hx hb dX8_lost_34 (by decide) ?_
      refine lv_istore (lv' := [(4, .int 0), (3, .int (pForce told (w 48))), (0, .ref (a 0)), (1, .int c), (2, .int t)]) hx hb dX8_lost_35 hl (by decide) rfl (fun ls hl => ?_)
      have loop_37 : ∀ (fuel : Nat) (d : Nat) (bh1 : Int32) (mi1 : Int32) (fb1 : Int32) (w1 : Nat → Int32) (ba1 : Nat → Int32) (hd1 : Nat → Int32), (61 - d) < fuel → (d ≤ 61) → (mY (fun y => itQ (nightQ c) d (q y)) n w1 51) → (wNow w w1) → (∀ j, j < d → ¬ ¬ psQ (pForce told (w 48)) (told 5) t (fun y => itQ (nightQ c) j (q y)) n) → ∀ (H : Heap) (locs : List Loc), gW D A js.heap ((mG a (nI n) tx pl st va fy fa ry se bh1 mi1 fb1 bo bk) :: (aG c4 (a 1) 204 w1) :: (aG c4 (a 2) 18 told) :: (aG c4 (a 7) 12 ba1) :: (aG c4 (a 8) 51 hd1) :: Ts) H locs → ∀ (ls : Array Slot), lv_has ls 6 [(4, .int (nI d)), (3, .int (pForce told (w 48))), (0, .ref (a 0)), (1, .int c), (2, .int t)] → W jp l je R js jm args below meth jc H locs 0 0 Q (F0 jm 37 ls []) := by
        intro fuel
        induction fuel with
        | zero => intro d bh1 mi1 fb1 w1 ba1 hd1 hm; exact absurd hm (Nat.not_lt_zero _)
        | succ fuel ih_37 =>
          intro d bh1 mi1 fb1 w1 ba1 hd1 hm_37 hd0 hM hW1 hN H locs hw ls hl
          refine lv_iload hx hb dX8_lost_37 (lv_at hl 0 rfl) ?_
          refine lv_bipush (v := 60) hx hb dX8_lost_39 (by decide) ?_
          refine r_cgt hx hb d 60 (by omega) (by omega) (tgt := 145) dX8_lost_41 (by decide) (fun c_41 => ?_) (fun c_41 => ?_)
          · refine lv_iconst (v := (-1)) hx hb dX8_lost_145 (by decide) ?_
            have hw := hw.m4
            have hw := hw.m4
            have hw := hw.m3
            have hw := hw.m4
            have hw := hw.m4
            exact kr (-1) (bh1, mi1, fb1, w1, ba1, hd1) _ _ _ _ hw ⟨⟨fun _ _ => Or.inr ⟨fun j hj => hN j (by omega), rfl⟩, fun z => absurd ⟨((inL (lo := 0) (hi := 30) rfl rfl).mp (h1_6 c_9)), h1_13 c_16⟩ z⟩, hW1⟩ dX8_lost_146
          · refine lv_iconst (v := 0) hx hb dX8_lost_44 (by decide) ?_
            refine lv_istore (lv' := [(5, .int 0), (4, .int (nI d)), (3, .int (pForce told (w 48))), (0, .ref (a 0)), (1, .int c), (2, .int t)]) hx hb dX8_lost_45 hl (by decide) rfl (fun ls hl => ?_)
            have loop_47 : ∀ (fuel : Nat) (i : Nat) (hd3 : Nat → Int32), (51 - i) < fuel → (i ≤ 51) → (∀ j, j < i → hd3 j = w1 (51 + j)) → ∀ (H : Heap) (locs : List Loc), gW D A js.heap ((mG a (nI n) tx pl st va fy fa ry se bh1 mi1 fb1 bo bk) :: (aG c4 (a 1) 204 w1) :: (aG c4 (a 2) 18 told) :: (aG c4 (a 7) 12 ba1) :: (aG c4 (a 8) 51 hd3) :: Ts) H locs → ∀ (ls : Array Slot), lv_has ls 6 [(5, .int (nI i)), (4, .int (nI d)), (3, .int (pForce told (w 48))), (0, .ref (a 0)), (1, .int c), (2, .int t)] → W jp l je R js jm args below meth jc H locs 0 0 Q (F0 jm 47 ls []) := by
              intro fuel
              induction fuel with
              | zero => intro i hd3 hm; exact absurd hm (Nat.not_lt_zero _)
              | succ fuel ih_47 =>
                intro i hd3 hm_47 hi hH H locs hw ls hl
                refine lv_iload hx hb dX8_lost_47 (lv_at hl 0 rfl) ?_
                refine lv_bipush (v := 51) hx hb dX8_lost_49 (by decide) ?_
                refine r_cge hx hb i 51 (by omega) (by omega) (tgt := 77) dX8_lost_51 (by decide) (fun c_51 => ?_) (fun c_51 => ?_)
                · refine lv_aload_n hx hb dX8_lost_77 rfl (lv_at hl 3 rfl) ?_
                  refine lv_bipush (v := 51) hx hb dX8_lost_78 (by decide) ?_
                  refine lv_iload_n hx hb dX8_lost_80 rfl (lv_at hl 5 rfl) ?_
                  refine lv_iload_n hx hb dX8_lost_81 rfl (lv_at hl 2 rfl) ?_
                  have hw := hw.m3
                  have hw := hw.m2
                  have hw := hw.m3
                  have hw := hw.m3
                  refine c_vv (As := [.int 51, .int t, .int (pForce told (w 48))]) (rest := []) ⟨hx, hb, hml, hown, hts⟩ (k_X8_goes l D c4 A ((aG c4 (a 8) 51 hd3) :: Ts) a n tx pl st va fy fa ry se bh1 mi1 fb1 bo bk told w1 ba1 (fun y => itQ (nightQ c) d (q y)) 51 t (pForce told (w 48)) hn hM (by decide) (force_rng hT _)) (cwV 3 hts gX8_lost_X8_goes rfl rfl rfl (by decide +kernel) (rmv (Nat.le_of_ble_eq_true rfl) (Nat.le_of_ble_eq_true rfl) hRf hRl)) hK trivial hw rfl rfl rfl hl rfl (Nat.le_of_ble_eq_true rfl) ⟨Nat.zero_le _, Nat.zero_le _⟩ dX8_lost_82 (fun u_82 H locs hpq hw => ?_)
                  obtain ⟨b2_82, w2_82, ba2_82⟩ := u_82
                  have hw : gW D A js.heap ((mG a (nI n) tx pl st va fy fa ry se (nI b2_82) (cumQ (pForce told (w 48)) (told 5) (fun y => itQ (nightQ c) d (q y)) b2_82) (fbQ (fun y => itQ (nightQ c) d (q y)) b2_82) bo bk) :: (aG c4 (a 2) 18 told) :: (aG c4 (a 1) 204 w2_82) :: (aG c4 (a 7) 12 ba2_82) :: (aG c4 (a 8) 51 hd3) :: Ts) H locs := hw
                  obtain ⟨hb2_82, hba_82, hM_82, hO_82⟩ := hpq
                  have hb2_82 : b2_82 = bhQ (pForce told (w 48)) (told 5) t (fun y => itQ (nightQ c) d (q y)) n := hb2_82
                  have hba_82 : ∀ k, k < b2_82 → ba2_82 k = cumQ (pForce told (w 48)) (told 5) (fun y => itQ (nightQ c) d (q y)) (k + 1) := hba_82
                  have hM_82 : mY (mixQ openQ (fun y => itQ (nightQ c) d (q y)) b2_82) n w2_82 51 := hM_82
                  have hO_82 : wOut 51 w1 w2_82 := hO_82
                  have hle : b2_82 ≤ n := by rw [hb2_82]; exact bh_le _ _ _ _ _
                  refine lv_aload_n hx hb dX8_lost_85 rfl (lv_at hl 3 rfl) ?_
                  refine r_get (T := TX8) (v := .int (nI b2_82)) hx hb hts hi8 hown hK hw 0 rfl rfl 16 (by decide) f_2 rfl dX8_lost_86 ?_
                  refine lv_aload_n hx hb dX8_lost_89 rfl (lv_at hl 3 rfl) ?_
                  refine r_get (T := TX8) (v := .int (nI n)) hx hb hts hi8 hown hK hw 0 rfl rfl 2 (by decide) f_3 rfl dX8_lost_90 ?_
                  refine r_cge hx hb b2_82 n (by omega) (by omega) (tgt := 99) dX8_lost_93 (by decide) (fun c_93 => ?_) (fun c_93 => ?_)
                  · refine lv_iconst (v := 0) hx hb dX8_lost_99 (by decide) ?_
                    refine lv_istore (lv' := [(5, .int 0), (4, .int (nI d)), (3, .int (pForce told (w 48))), (0, .ref (a 0)), (1, .int c), (2, .int t)]) hx hb dX8_lost_100 hl (by decide) rfl (fun ls hl => ?_)
                    have loop_102 : ∀ (fuel : Nat) (i2 : Nat) (w3 : Nat → Int32), (51 - i2) < fuel → (i2 ≤ 51) → (bkW i2 w1 w3) → ∀ (H : Heap) (locs : List Loc), gW D A js.heap ((mG a (nI n) tx pl st va fy fa ry se (nI b2_82) (cumQ (pForce told (w 48)) (told 5) (fun y => itQ (nightQ c) d (q y)) b2_82) (fbQ (fun y => itQ (nightQ c) d (q y)) b2_82) bo bk) :: (aG c4 (a 2) 18 told) :: (aG c4 (a 1) 204 w3) :: (aG c4 (a 7) 12 ba2_82) :: (aG c4 (a 8) 51 hd3) :: Ts) H locs → ∀ (ls : Array Slot), lv_has ls 6 [(5, .int (nI i2)), (4, .int (nI d)), (3, .int (pForce told (w 48))), (0, .ref (a 0)), (1, .int c), (2, .int t)] → W jp l je R js jm args below meth jc H locs 0 0 Q (F0 jm 102 ls []) := by
                      intro fuel
                      induction fuel with
                      | zero => intro i2 w3 hm; exact absurd hm (Nat.not_lt_zero _)
                      | succ fuel ih_102 =>
                        intro i2 w3 hm_102 hi2 hB H locs hw ls hl
                        refine lv_iload hx hb dX8_lost_102 (lv_at hl 0 rfl) ?_
                        refine lv_bipush (v := 51) hx hb dX8_lost_104 (by decide) ?_
                        refine r_cge hx hb i2 51 (by omega) (by omega) (tgt := 132) dX8_lost_106 (by decide) (fun c_106 => ?_) (fun c_106 => ?_)
                        · refine lv_aload_n hx hb dX8_lost_132 rfl (lv_at hl 3 rfl) ?_
                          refine lv_bipush (v := 51) hx hb dX8_lost_133 (by decide) ?_
                          refine lv_iload_n hx hb dX8_lost_135 rfl (lv_at hl 4 rfl) ?_
                          have hw := hw.m2
                          have hw := hw.m1
                          refine c_vv (As := [.int 51, .int c]) (rest := []) ⟨hx, hb, hml, hown, hts⟩ (k_X8_nightOf l D c4 A ((aG c4 (a 2) 18 told) :: (aG c4 (a 7) 12 ba2_82) :: (aG c4 (a 8) 51 hd3) :: Ts) a n tx pl st va fy fa ry se (nI b2_82) (cumQ (pForce told (w 48)) (told 5) (fun y => itQ (nightQ c) d (q y)) b2_82) (fbQ (fun y => itQ (nightQ c) d (q y)) b2_82) bo bk w3 (fun y => itQ (nightQ c) d (q y)) 51 c hn (hM.out hn (fun j _ _ => bkW_e (by omega) hB j)) (by decide) (coldI ((inL (lo := 0) (hi := 30) rfl rfl).mp (h1_6 c_9)))) (cwV 2 hts gX8_lost_X8_nightOf rfl rfl rfl (by decide +kernel) (rmv (Nat.le_of_ble_eq_true rfl) (Nat.le_of_ble_eq_true rfl) hRf hRl)) hK trivial hw rfl rfl rfl hl rfl (Nat.le_of_ble_eq_true rfl) ⟨Nat.zero_le _, Nat.zero_le _⟩ dX8_lost_136 (fun u_136 H locs hpq hw => ?_)
                          obtain ⟨w2_136, rfl⟩ : ∃ z, z = u_136 := ⟨_, rfl⟩
                          have hw : gW D A js.heap ((mG a (nI n) tx pl st va fy fa ry se (nI b2_82) (cumQ (pForce told (w 48)) (told 5) (fun y => itQ (nightQ c) d (q y)) b2_82) (fbQ (fun y => itQ (nightQ c) d (q y)) b2_82) bo bk) :: (aG c4 (a 1) 204 w2_136) :: (aG c4 (a 2) 18 told) :: (aG c4 (a 7) 12 ba2_82) :: (aG c4 (a 8) 51 hd3) :: Ts) H locs := hw
                          obtain ⟨hM_136, hN_136, hO_136⟩ := hpq
                          have hM_136 : mY (fun y => nightQ c ((fun y => itQ (nightQ c) d (q y)) y)) n w2_136 51 := hM_136
                          have hN_136 : w2_136 (51 + 49) = w3 (51 + 49) + 1 := hN_136
                          have hO_136 : wOt 51 w3 w2_136 := hO_136
                          refine lv_iinc (v := (nI (d + 1))) (lv' := [(4, .int (nI (d + 1))), (5, .int (nI i2)), (3, .int (pForce told (w 48))), (0, .ref (a 0)), (1, .int c), (2, .int t)]) hx hb dX8_lost_139 hl (k := 1) rfl (nI_add _ _) (by decide) rfl (fun ls hl => ?_)
                          refine lv_goto (tgt := 37) hx hb dX8_lost_142 (by decide) ?_
                          exact ih_37 (d + 1) (nI b2_82) (cumQ (pForce told (w 48)) (told 5) (fun y => itQ (nightQ c) d (q y)) b2_82) (fbQ (fun y => itQ (nightQ c) d (q y)) b2_82) w2_136 ba2_82 hd3 (by omega) (by omega) hM_136 (wNow.t (fun j hj => (hB.2 j hj).trans (hW1 j hj)) hO_136) (lt_s hN (fun z => z (hb2_82.symm.trans (by omega)))) _ _ hw ls (lv_sub hl [0, 2, 3, 4, 5] rfl)
                        · refine lv_aload_n hx hb dX8_lost_109 rfl (lv_at hl 3 rfl) ?_
                          refine r_get (T := TX8) (v := .ref (a 1)) hx hb hts hi8 hown hK hw 0 rfl rfl 0 (by decide) f_4 rfl dX8_lost_110 ?_
                          refine lv_bipush (v := 51) hx hb dX8_lost_113 (by decide) ?_
                          refine lv_iload hx hb dX8_lost_115 (lv_at hl 0 rfl) ?_
                          refine r_addN hx hb 51 i2 dX8_lost_117 ?_
                          refine lv_aload_n hx hb dX8_lost_118 rfl (lv_at hl 3 rfl) ?_
                          refine r_get (T := TX8) (v := .ref (a 8)) hx hb hts hi8 hown hK hw 0 rfl rfl 19 (by decide) f_5 rfl dX8_lost_119 ?_
                          refine lv_iload hx hb dX8_lost_122 (lv_at hl 0 rfl) ?_
                          refine r_iald hx hb hK hw 4 0 rfl rfl i2 (by omega) (by decide) dX8_lost_124 ?_
                          refine r_iast (G' := ((mG a (nI n) tx pl st va fy fa ry se (nI b2_82) (cumQ (pForce told (w 48)) (told 5) (fun y => itQ (nightQ c) d (q y)) b2_82) (fbQ (fun y => itQ (nightQ c) d (q y)) b2_82) bo bk) :: (aG c4 (a 2) 18 told) :: (aG c4 (a 1) 204 (upd w3 (51 + i2) (hd3 i2))) :: (aG c4 (a 7) 12 ba2_82) :: (aG c4 (a 8) 51 hd3) :: Ts)) hx hb hK hw 2 0 rfl rfl (51 + i2) (by omega) (by decide) rfl dX8_lost_125 (fun H locs hw => ?_)
                          refine lv_iinc (v := (nI (i2 + 1))) (lv' := [(5, .int (nI (i2 + 1))), (4, .int (nI d)), (3, .int (pForce told (w 48))), (0, .ref (a 0)), (1, .int c), (2, .int t)]) hx hb dX8_lost_126 hl (k := 0) rfl (nI_add _ _) (by decide) rfl (fun ls hl => ?_)
                          refine lv_goto (tgt := 102) hx hb dX8_lost_129 (by decide) ?_
                          exact ih_102 (i2 + 1) (upd w3 (51 + i2) (hd3 i2)) (by omega) (by omega) (bkW_s (by omega) (hH _ (by omega)) hB) _ _ hw ls (lv_sub hl [0, 1, 2, 3, 4, 5] rfl)
                    exact loop_102 ((51 - 0) + 1) 0 w2_82 (Nat.lt_succ_self _) (Nat.zero_le _) (bkW_0 hO_82) _ _ hw ls (lv_sub hl [0, 1, 2, 3, 4, 5] rfl)
                  · refine lv_iload hx hb dX8_lost_96 (lv_at hl 1 rfl) ?_
                    exact kr (nI d) ((nI b2_82), (cumQ (pForce told (w 48)) (told 5) (fun y => itQ (nightQ c) d (q y)) b2_82), (fbQ (fun y => itQ (nightQ c) d (q y)) b2_82), w2_82, ba2_82, hd3) _ _ _ _ hw ⟨⟨fun _ _ => Or.inl ⟨d, by omega, fun z => absurd (hb2_82.trans z) (by omega), hN, rfl⟩, fun z => absurd ⟨((inL (lo := 0) (hi := 30) rfl rfl).mp (h1_6 c_9)), h1_13 c_16⟩ z⟩, (hW1.o hO_82)⟩ dX8_lost_98
                · refine lv_aload_n hx hb dX8_lost_54 rfl (lv_at hl 3 rfl) ?_
                  refine r_get (T := TX8) (v := .ref (a 8)) hx hb hts hi8 hown hK hw 0 rfl rfl 19 (by decide) f_5 rfl dX8_lost_55 ?_
                  refine lv_iload hx hb dX8_lost_58 (lv_at hl 0 rfl) ?_
                  refine lv_aload_n hx hb dX8_lost_60 rfl (lv_at hl 3 rfl) ?_
                  refine r_get (T := TX8) (v := .ref (a 1)) hx hb hts hi8 hown hK hw 0 rfl rfl 0 (by decide) f_4 rfl dX8_lost_61 ?_
                  refine lv_bipush (v := 51) hx hb dX8_lost_64 (by decide) ?_
                  refine lv_iload hx hb dX8_lost_66 (lv_at hl 0 rfl) ?_
                  refine r_addN hx hb 51 i dX8_lost_68 ?_
                  refine r_iald hx hb hK hw 1 0 rfl rfl (51 + i) (by omega) (by decide) dX8_lost_69 ?_
                  refine r_iast (G' := ((mG a (nI n) tx pl st va fy fa ry se bh1 mi1 fb1 bo bk) :: (aG c4 (a 1) 204 w1) :: (aG c4 (a 2) 18 told) :: (aG c4 (a 7) 12 ba1) :: (aG c4 (a 8) 51 (upd hd3 i (w1 (51 + i)))) :: Ts)) hx hb hK hw 4 0 rfl rfl i (by omega) (by decide) rfl dX8_lost_70 (fun H locs hw => ?_)
                  refine lv_iinc (v := (nI (i + 1))) (lv' := [(5, .int (nI (i + 1))), (4, .int (nI d)), (3, .int (pForce told (w 48))), (0, .ref (a 0)), (1, .int c), (2, .int t)]) hx hb dX8_lost_71 hl (k := 0) rfl (nI_add _ _) (by decide) rfl (fun ls hl => ?_)
                  refine lv_goto (tgt := 47) hx hb dX8_lost_74 (by decide) ?_
                  exact ih_47 (i + 1) (upd hd3 i (w1 (51 + i))) (by omega) (by omega) (hd_s hH) _ _ hw ls (lv_sub hl [0, 1, 2, 3, 4, 5] rfl)
            exact loop_47 ((51 - 0) + 1) 0 hd1 (Nat.lt_succ_self _) (Nat.zero_le _) (fun j h => absurd h (Nat.not_lt_zero j)) _ _ hw ls (lv_sub hl [0, 1, 2, 3, 4, 5] rfl)
      exact loop_37 ((61 - 0) + 1) 0 bh mi fb (fb_put w (fun k => w (0 + k)) 51 51) ba hd (Nat.lt_succ_self _) (Nat.zero_le _) (cp_mY hn hY) wNow.c (fun j h => absurd h (Nat.not_lt_zero j)) _ _ hw ls (lv_sub hl [0, 1, 2, 3, 4] rfl)
    · refine lv_ldc hx hb hown f_1 dX8_lost_19 ?_
      exact kr (-1000000002) (bh, mi, fb, w, ba, hd) _ _ _ _ hw ⟨⟨fun _ z => absurd z (h0_13 c_16), fun _ => rfl⟩, (wNow.rf _)⟩ dX8_lost_21
