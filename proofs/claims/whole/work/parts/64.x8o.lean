set_option maxHeartbeats 4000000 in
set_option maxRecDepth 100000 in
theorem k_X8_turn (l : Launch) (D : va_G) (c4 : Nat → ClassId) (A : Nat → Prop) (Ts : List va_W) (a : Nat → Nat) (n : Nat) (tx : Int32) (pl : Int32) (st : Int32) (va : Int32) (fy : Int32) (fa : Int32) (ry : Int32) (se : Int32) (bh : Int32) (mi : Int32) (fb : Int32) (bo : Int32) (bk : Int32) (told : Nat → Int32) (w : Nat → Int32) (ba : Nat → Int32) (q : Nat → Yq) (t : Int32) (hn : n ≤ 12) (hY : mY q n w 0) (hT : tlOk told) (hbt : rng (w 48) 1 9) : Ci l yX8_turn wsX8_turn 2 49 [.ref (a 0), .int t] D (tyA c4) A none ((mG a (nI n) tx pl st va fy fa ry se bh mi fb bo bk) :: (aG c4 (a 2) 18 told) :: (aG c4 (a 1) 204 w) :: (aG c4 (a 7) 12 ba) :: Ts) (S := Int32 × Int32 × Int32 × (Nat → Int32) × (Nat → Int32)) (fun (r : Int32) (u : Int32 × Int32 × Int32 × (Nat → Int32) × (Nat → Int32)) => (turnP t (pForce told (w 48)) (told 5) (told 4) q n r) ∧ (wNow w u.2.2.2.1)) (fun u => ((mG a (nI n) tx pl st va fy fa ry se u.1 u.2.1 u.2.2.1 bo bk) :: (aG c4 (a 2) 18 told) :: (aG c4 (a 1) 204 u.2.2.2.1) :: (aG c4 (a 7) 12 u.2.2.2.2) :: Ts)) := by
  refine cOi (cc := cX8_turn) (maxL := 7) (by decide) rfl (Nat.le_of_ble_eq_true rfl) rfl ?_
  rintro jp je js jm below meth jc ls args R Q H locs hRf hRl ⟨hx, hb, hml, hr, hts, hown, hlocks, hK, hX⟩ hw hl kr
  have hown : js.vm.findClass RX8 = some jm.cls := hown
  have f_0 := hts (.fieldLink RX8 177 "IceSwayModel" "behind" "I") (by decide +kernel)
  have f_1 := hts (.fieldLink RX8 33 "IceSwayModel" "behindAt" "[I") (by decide +kernel)
  have f_2 := hts (.fieldLink RX8 183 "IceSwayModel" "firstBroken" "I") (by decide +kernel)
  have f_3 := hts (.fieldLink RX8 13 "IceSwayModel" "told" "[I") (by decide +kernel)
  have f_4 := hts (.constant RX8 83 (-1000000002)) (by decide +kernel)
  have hi8 : ∀ w ∈ u_ws RX8 TX8 28, w ∈ wsX8_turn := fun w h => List.mem_cons_of_mem _ (List.mem_append_right _ h)
  refine lv_iload_n hx hb dX8_turn_0 rfl (lv_at hl 1 rfl) ?_
  refine c_si (As := [.int t]) (rest := []) ⟨hx, hb, hml, hown, hts⟩ (k_X8_isTime l D c4 A ((mG a (nI n) tx pl st va fy fa ry se bh mi fb bo bk) :: (aG c4 (a 2) 18 told) :: (aG c4 (a 1) 204 w) :: (aG c4 (a 7) 12 ba) :: Ts) t) (va_cwS 1 hts gX8_turn_X8_isTime rfl rfl rfl (by decide +kernel) (rmv (Nat.le_of_ble_eq_true rfl) (Nat.le_of_ble_eq_true rfl) hRf hRl)) hK trivial hw rfl hl rfl (Nat.le_of_ble_eq_true rfl) ⟨Nat.zero_le _, Nat.zero_le _⟩ dX8_turn_1 (fun r_1 u_1 H locs hpq hw => ?_)
  obtain ⟨h0_1, h1_1⟩ := hpq
  refine lv_if_ne (tgt := 10) hx hb dX8_turn_4 (by decide) (fun c_4 => ?_) (fun c_4 => ?_)
  · refine lv_aload_n hx hb dX8_turn_10 rfl (lv_at hl 0 rfl) ?_
    refine lv_iload_n hx hb dX8_turn_11 rfl (lv_at hl 1 rfl) ?_
    refine lv_aload_n hx hb dX8_turn_12 rfl (lv_at hl 0 rfl) ?_
    have hw := hw.m2
    have hw := hw.m2
    have hw := hw.m2
    refine c_vi (As := []) (rest := [.int t, .ref (a 0)]) ⟨hx, hb, hml, hown, hts⟩ (k_X8_forceNow l D c4 A ((aG c4 (a 7) 12 ba) :: Ts) a (nI n) tx pl st va fy fa ry se bh mi fb bo bk told w hT hbt) (cwV 0 hts gX8_turn_X8_forceNow rfl rfl rfl (by decide +kernel) (rmv (Nat.le_of_ble_eq_true rfl) (Nat.le_of_ble_eq_true rfl) hRf hRl)) hK trivial hw rfl rfl rfl hl rfl (Nat.le_of_ble_eq_true rfl) ⟨Nat.zero_le _, Nat.zero_le _⟩ dX8_turn_13 (fun r_13 u_13 H locs hpq hw => ?_)
    have er_13 := hpq
    subst er_13
    have hw := hw.m3
    have hw := hw.m3
    have hw := hw.m3
    have hw := hw.m3
    refine c_vv (As := [.int t, .int (pForce told (w 48))]) (rest := []) ⟨hx, hb, hml, hown, hts⟩ (k_X8_tries l D c4 A Ts a n tx pl st va fy fa ry se bh mi fb bo bk told w ba q t (pForce told (w 48)) hn hY (force_rng hT _)) (cwV 2 hts gX8_turn_X8_tries rfl rfl rfl (by decide +kernel) (rmv (Nat.le_of_ble_eq_true rfl) (Nat.le_of_ble_eq_true rfl) hRf hRl)) hK trivial hw rfl rfl rfl hl rfl (Nat.le_of_ble_eq_true rfl) ⟨Nat.zero_le _, Nat.zero_le _⟩ dX8_turn_16 (fun u_16 H locs hpq hw => ?_)
    obtain ⟨b2_16, w2_16, ba2_16⟩ := u_16
    have hw : gW D A js.heap ((mG a (nI n) tx pl st va fy fa ry se (nI b2_16) (cumQ (pForce told (w 48)) (told 5) q b2_16) (fbQ q b2_16) bo bk) :: (aG c4 (a 2) 18 told) :: (aG c4 (a 1) 204 w2_16) :: (aG c4 (a 7) 12 ba2_16) :: Ts) H locs := hw
    obtain ⟨hb2_16, hba_16, hW_16⟩ := hpq
    have hb2_16 : b2_16 = bhQ (pForce told (w 48)) (told 5) t q n := hb2_16
    have hba_16 : ∀ k, k < b2_16 → ba2_16 k = cumQ (pForce told (w 48)) (told 5) q (k + 1) := hba_16
    have hW_16 : wNow w w2_16 := hW_16
    have hle : b2_16 ≤ n := by rw [hb2_16]; exact bh_le _ _ _ _ _
    refine lv_iconst (v := 0) hx hb dX8_turn_19 (by decide) ?_
    refine lv_istore_n (lv' := [(2, .int 0), (0, .ref (a 0)), (1, .int t)]) hx hb dX8_turn_20 rfl hl (by decide) rfl (fun ls hl => ?_)
    refine lv_iconst (v := 1) hx hb dX8_turn_21 (by decide) ?_
    refine lv_istore_n (lv' := [(3, .int 1), (2, .int 0), (0, .ref (a 0)), (1, .int t)]) hx hb dX8_turn_22 rfl hl (by decide) rfl (fun ls hl => ?_)
    have loop_23 : ∀ (fuel : Nat) (m : Nat) (mo : Nat), (b2_16 + 1 - m) < fuel → (1 ≤ m) → (m ≤ b2_16 + 1) → (isLast (tnOk ba2_16 (fbQ q b2_16) t (told 4)) (m - 1) mo) → ∀ (H : Heap) (locs : List Loc), gW D A js.heap ((mG a (nI n) tx pl st va fy fa ry se (nI b2_16) (cumQ (pForce told (w 48)) (told 5) q b2_16) (fbQ q b2_16) bo bk) :: (aG c4 (a 2) 18 told) :: (aG c4 (a 1) 204 w2_16) :: (aG c4 (a 7) 12 ba2_16) :: Ts) H locs → ∀ (ls : Array Slot), lv_has ls 7 [(3, .int (nI m)), (2, .int (nI mo)), (0, .ref (a 0)), (1, .int t)] → W jp l je R js jm args below meth jc H locs 0 0 Q (F0 jm 23 ls []) := by
      intro fuel
      induction fuel with
      | zero => intro m mo hm; exact absurd hm (Nat.not_lt_zero _)
      | succ fuel ih_23 =>
        intro m mo hm_23 hm1 hm2 hL H locs hw ls hl
        refine lv_iload_n hx hb dX8_turn_23 rfl (lv_at hl 0 rfl) ?_
        refine lv_aload_n hx hb dX8_turn_24 rfl (lv_at hl 2 rfl) ?_
        refine r_get (T := TX8) (v := .int (nI b2_16)) hx hb hts hi8 hown hK hw 0 rfl rfl 16 (by decide) f_0 rfl dX8_turn_25 ?_
        refine r_cgt hx hb m b2_16 (by omega) (by omega) (tgt := 129) dX8_turn_28 (by decide) (fun c_28 => ?_) (fun c_28 => ?_)
        · refine lv_iload_n hx hb dX8_turn_129 rfl (lv_at hl 1 rfl) ?_
          exact kr (nI mo) ((nI b2_16), (cumQ (pForce told (w 48)) (told 5) q b2_16), (fbQ q b2_16), w2_16, ba2_16) _ _ _ _ hw ⟨⟨fun _ => by rw [← hb2_16]; exact ⟨mo, rfl, (il_to hL (show m - 1 = b2_16 by omega)).congr (tn_congr (by omega) hba_16 (fb_is q b2_16))⟩, fun z => absurd (h1_1 c_4) z⟩, hW_16⟩ dX8_turn_130
        · refine lv_aload_n hx hb dX8_turn_31 rfl (lv_at hl 2 rfl) ?_
          refine r_get (T := TX8) (v := .ref (a 7)) hx hb hts hi8 hown hK hw 0 rfl rfl 15 (by decide) f_1 rfl dX8_turn_32 ?_
          refine lv_iload_n hx hb dX8_turn_35 rfl (lv_at hl 0 rfl) ?_
          refine lv_iconst (v := 1) hx hb dX8_turn_36 (by decide) ?_
          refine r_subN hx hb m 1 (by omega) dX8_turn_37 ?_
          refine r_iald hx hb hK hw 3 0 rfl rfl (m - 1) (by omega) (by decide) dX8_turn_38 ?_
          refine lv_istore (lv' := [(4, .int (ba2_16 (m - 1))), (3, .int (nI m)), (2, .int (nI mo)), (0, .ref (a 0)), (1, .int t)]) hx hb dX8_turn_39 hl (by decide) rfl (fun ls hl => ?_)
          refine lv_aload_n hx hb dX8_turn_41 rfl (lv_at hl 3 rfl) ?_
          refine r_get (T := TX8) (v := .int (fbQ q b2_16)) hx hb hts hi8 hown hK hw 0 rfl rfl 18 (by decide) f_2 rfl dX8_turn_42 ?_
          refine lv_iconst (v := (-1)) hx hb dX8_turn_45 (by decide) ?_
          refine lv_icmp_eq (tgt := 61) hx hb dX8_turn_46 (by decide) (fun c_46 => ?_) (fun c_46 => ?_)
          · refine lv_iconst (v := 0) hx hb dX8_turn_61 (by decide) ?_
            refine lv_istore (lv' := [(5, .int 0), (4, .int (ba2_16 (m - 1))), (3, .int (nI m)), (2, .int (nI mo)), (0, .ref (a 0)), (1, .int t)]) hx hb dX8_turn_62 hl (by decide) rfl (fun ls hl => ?_)
            refine lv_iload hx hb dX8_turn_64 (lv_at hl 0 rfl) ?_
            refine lv_if_eq (tgt := 97) hx hb dX8_turn_66 (by decide) (fun c_66 => ?_) (fun c_66 => ?_)
            · refine lv_iconst (v := 1) hx hb dX8_turn_97 (by decide) ?_
              refine lv_goto (tgt := 102) hx hb dX8_turn_98 (by decide) ?_
              refine lv_istore (lv' := [(6, .int 1), (5, .int 0), (4, .int (ba2_16 (m - 1))), (3, .int (nI m)), (2, .int (nI mo)), (0, .ref (a 0)), (1, .int t)]) hx hb dX8_turn_102 hl (by decide) rfl (fun ls hl => ?_)
              refine lv_iload hx hb dX8_turn_104 (lv_at hl 0 rfl) ?_
              refine lv_if_eq (tgt := 121) hx hb dX8_turn_106 (by decide) (fun c_106 => ?_) (fun c_106 => ?_)
              · exact absurd c_106 (by decide)
              · refine lv_iload hx hb dX8_turn_109 (lv_at hl 2 rfl) ?_
                refine lv_iload_n hx hb dX8_turn_111 rfl (lv_at hl 3 rfl) ?_
                refine lv_iadd hx hb dX8_turn_112 ?_
                refine lv_iload_n hx hb dX8_turn_113 rfl (lv_at hl 6 rfl) ?_
                refine lv_icmp_gt (tgt := 121) hx hb dX8_turn_114 (by decide) (fun c_114 => ?_) (fun c_114 => ?_)
                · refine lv_iload_n hx hb dX8_turn_121 rfl (lv_at hl 4 rfl) ?_
                  refine lv_istore_n (lv' := [(2, .int (nI mo)), (6, .int 1), (5, .int 0), (4, .int (ba2_16 (m - 1))), (3, .int (nI m)), (0, .ref (a 0)), (1, .int t)]) hx hb dX8_turn_122 rfl hl (by decide) rfl (fun ls hl => ?_)
                  refine lv_iinc (v := (nI (m + 1))) (lv' := [(3, .int (nI (m + 1))), (2, .int (nI mo)), (6, .int 1), (5, .int 0), (4, .int (ba2_16 (m - 1))), (0, .ref (a 0)), (1, .int t)]) hx hb dX8_turn_123 hl (k := 4) rfl (nI_add _ _) (by decide) rfl (fun ls hl => ?_)
                  refine lv_goto (tgt := 23) hx hb dX8_turn_126 (by decide) ?_
                  exact ih_23 (m + 1) mo (by omega) (by omega) (by omega) (by first | exact il_y hm1 hL ⟨fa_le_of_nlt c_114, (by first | exact Or.inl c_46 | exact Or.inr (Or.inl (fun z => nlt_le c_54 z)) | exact bk_yes ej (by omega) (fa_of_nle c_94))⟩ | exact il_n hm1 hL (fun z => nlt_le z.1 c_114) | exact il_n hm1 hL (fun z => bk_no ej (by omega) c_46 (fa_of_nle c_54) c_94 z.2)) _ _ hw ls (lv_sub hl [0, 1, 5, 6] rfl)
                · refine lv_iload_n hx hb dX8_turn_117 rfl (lv_at hl 3 rfl) ?_
                  refine lv_goto (tgt := 122) hx hb dX8_turn_118 (by decide) ?_
                  refine lv_istore_n (lv' := [(2, .int (nI m)), (6, .int 1), (5, .int 0), (4, .int (ba2_16 (m - 1))), (3, .int (nI m)), (0, .ref (a 0)), (1, .int t)]) hx hb dX8_turn_122 rfl hl (by decide) rfl (fun ls hl => ?_)
                  refine lv_iinc (v := (nI (m + 1))) (lv' := [(3, .int (nI (m + 1))), (2, .int (nI m)), (6, .int 1), (5, .int 0), (4, .int (ba2_16 (m - 1))), (0, .ref (a 0)), (1, .int t)]) hx hb dX8_turn_123 hl (k := 4) rfl (nI_add _ _) (by decide) rfl (fun ls hl => ?_)
                  refine lv_goto (tgt := 23) hx hb dX8_turn_126 (by decide) ?_
                  exact ih_23 (m + 1) m (by omega) (by omega) (by omega) (by first | exact il_y hm1 hL ⟨fa_le_of_nlt c_114, (by first | exact Or.inl c_46 | exact Or.inr (Or.inl (fun z => nlt_le c_54 z)) | exact bk_yes ej (by omega) (fa_of_nle c_94))⟩ | exact il_n hm1 hL (fun z => nlt_le z.1 c_114) | exact il_n hm1 hL (fun z => bk_no ej (by omega) c_46 (fa_of_nle c_54) c_94 z.2)) _ _ hw ls (lv_sub hl [0, 1, 5, 6] rfl)
            · exact absurd c_66 (by decide)
          · refine lv_aload_n hx hb dX8_turn_49 rfl (lv_at hl 3 rfl) ?_
            refine r_get (T := TX8) (v := .int (fbQ q b2_16)) hx hb hts hi8 hown hK hw 0 rfl rfl 18 (by decide) f_2 rfl dX8_turn_50 ?_
            refine lv_iload_n hx hb dX8_turn_53 rfl (lv_at hl 1 rfl) ?_
            refine lv_icmp_ge (tgt := 61) hx hb dX8_turn_54 (by decide) (fun c_54 => ?_) (fun c_54 => ?_)
            · refine lv_iconst (v := 0) hx hb dX8_turn_61 (by decide) ?_
              refine lv_istore (lv' := [(5, .int 0), (4, .int (ba2_16 (m - 1))), (3, .int (nI m)), (2, .int (nI mo)), (0, .ref (a 0)), (1, .int t)]) hx hb dX8_turn_62 hl (by decide) rfl (fun ls hl => ?_)
              refine lv_iload hx hb dX8_turn_64 (lv_at hl 0 rfl) ?_
              refine lv_if_eq (tgt := 97) hx hb dX8_turn_66 (by decide) (fun c_66 => ?_) (fun c_66 => ?_)
              · refine lv_iconst (v := 1) hx hb dX8_turn_97 (by decide) ?_
                refine lv_goto (tgt := 102) hx hb dX8_turn_98 (by decide) ?_
                refine lv_istore (lv' := [(6, .int 1), (5, .int 0), (4, .int (ba2_16 (m - 1))), (3, .int (nI m)), (2, .int (nI mo)), (0, .ref (a 0)), (1, .int t)]) hx hb dX8_turn_102 hl (by decide) rfl (fun ls hl => ?_)
                refine lv_iload hx hb dX8_turn_104 (lv_at hl 0 rfl) ?_
                refine lv_if_eq (tgt := 121) hx hb dX8_turn_106 (by decide) (fun c_106 => ?_) (fun c_106 => ?_)
                · exact absurd c_106 (by decide)
                · refine lv_iload hx hb dX8_turn_109 (lv_at hl 2 rfl) ?_
                  refine lv_iload_n hx hb dX8_turn_111 rfl (lv_at hl 3 rfl) ?_
                  refine lv_iadd hx hb dX8_turn_112 ?_
                  refine lv_iload_n hx hb dX8_turn_113 rfl (lv_at hl 6 rfl) ?_
                  refine lv_icmp_gt (tgt := 121) hx hb dX8_turn_114 (by decide) (fun c_114 => ?_) (fun c_114 => ?_)
                  · refine lv_iload_n hx hb dX8_turn_121 rfl (lv_at hl 4 rfl) ?_
                    refine lv_istore_n (lv' := [(2, .int (nI mo)), (6, .int 1), (5, .int 0), (4, .int (ba2_16 (m - 1))), (3, .int (nI m)), (0, .ref (a 0)), (1, .int t)]) hx hb dX8_turn_122 rfl hl (by decide) rfl (fun ls hl => ?_)
                    refine lv_iinc (v := (nI (m + 1))) (lv' := [(3, .int (nI (m + 1))), (2, .int (nI mo)), (6, .int 1), (5, .int 0), (4, .int (ba2_16 (m - 1))), (0, .ref (a 0)), (1, .int t)]) hx hb dX8_turn_123 hl (k := 4) rfl (nI_add _ _) (by decide) rfl (fun ls hl => ?_)
                    refine lv_goto (tgt := 23) hx hb dX8_turn_126 (by decide) ?_
                    exact ih_23 (m + 1) mo (by omega) (by omega) (by omega) (by first | exact il_y hm1 hL ⟨fa_le_of_nlt c_114, (by first | exact Or.inl c_46 | exact Or.inr (Or.inl (fun z => nlt_le c_54 z)) | exact bk_yes ej (by omega) (fa_of_nle c_94))⟩ | exact il_n hm1 hL (fun z => nlt_le z.1 c_114) | exact il_n hm1 hL (fun z => bk_no ej (by omega) c_46 (fa_of_nle c_54) c_94 z.2)) _ _ hw ls (lv_sub hl [0, 1, 5, 6] rfl)
                  · refine lv_iload_n hx hb dX8_turn_117 rfl (lv_at hl 3 rfl) ?_
                    refine lv_goto (tgt := 122) hx hb dX8_turn_118 (by decide) ?_
                    refine lv_istore_n (lv' := [(2, .int (nI m)), (6, .int 1), (5, .int 0), (4, .int (ba2_16 (m - 1))), (3, .int (nI m)), (0, .ref (a 0)), (1, .int t)]) hx hb dX8_turn_122 rfl hl (by decide) rfl (fun ls hl => ?_)
                    refine lv_iinc (v := (nI (m + 1))) (lv' := [(3, .int (nI (m + 1))), (2, .int (nI m)), (6, .int 1), (5, .int 0), (4, .int (ba2_16 (m - 1))), (0, .ref (a 0)), (1, .int t)]) hx hb dX8_turn_123 hl (k := 4) rfl (nI_add _ _) (by decide) rfl (fun ls hl => ?_)
                    refine lv_goto (tgt := 23) hx hb dX8_turn_126 (by decide) ?_
                    exact ih_23 (m + 1) m (by omega) (by omega) (by omega) (by first | exact il_y hm1 hL ⟨fa_le_of_nlt c_114, (by first | exact Or.inl c_46 | exact Or.inr (Or.inl (fun z => nlt_le c_54 z)) | exact bk_yes ej (by omega) (fa_of_nle c_94))⟩ | exact il_n hm1 hL (fun z => nlt_le z.1 c_114) | exact il_n hm1 hL (fun z => bk_no ej (by omega) c_46 (fa_of_nle c_54) c_94 z.2)) _ _ hw ls (lv_sub hl [0, 1, 5, 6] rfl)
              · exact absurd c_66 (by decide)
            · obtain ⟨j, hj, ej⟩ := (fb_is q b2_16).resolve_left c_46
              refine lv_iconst (v := 1) hx hb dX8_turn_57 (by decide) ?_
              refine lv_goto (tgt := 62) hx hb dX8_turn_58 (by decide) ?_
              refine lv_istore (lv' := [(5, .int 1), (4, .int (ba2_16 (m - 1))), (3, .int (nI m)), (2, .int (nI mo)), (0, .ref (a 0)), (1, .int t)]) hx hb dX8_turn_62 hl (by decide) rfl (fun ls hl => ?_)
              refine lv_iload hx hb dX8_turn_64 (lv_at hl 0 rfl) ?_
              refine lv_if_eq (tgt := 97) hx hb dX8_turn_66 (by decide) (fun c_66 => ?_) (fun c_66 => ?_)
              · exact absurd c_66 (by decide)
              · refine lv_iload hx hb dX8_turn_69 (lv_at hl 1 rfl) ?_
                refine lv_iload_n hx hb dX8_turn_71 rfl (lv_at hl 2 rfl) ?_
                refine lv_iadd hx hb dX8_turn_72 ?_
                refine lv_aload_n hx hb dX8_turn_73 rfl (lv_at hl 4 rfl) ?_
                refine r_get (T := TX8) (v := .int (fbQ q b2_16)) hx hb hts hi8 hown hK hw 0 rfl rfl 18 (by decide) f_2 rfl dX8_turn_74 ?_
                refine lv_isub hx hb dX8_turn_77 ?_
                refine lv_aload_n hx hb dX8_turn_78 rfl (lv_at hl 4 rfl) ?_
                refine r_get (T := TX8) (v := .ref (a 7)) hx hb hts hi8 hown hK hw 0 rfl rfl 15 (by decide) f_1 rfl dX8_turn_79 ?_
                refine lv_aload_n hx hb dX8_turn_82 rfl (lv_at hl 4 rfl) ?_
                refine r_get (T := TX8) (v := .int (fbQ q b2_16)) hx hb hts hi8 hown hK hw 0 rfl rfl 18 (by decide) f_2 rfl dX8_turn_83 ?_
                refine r_top (y := nI j) ej ?_
                refine r_iald hx hb hK hw 3 0 rfl rfl j (by omega) (by decide) dX8_turn_86 ?_
                refine lv_isub hx hb dX8_turn_87 ?_
                refine lv_aload_n hx hb dX8_turn_88 rfl (lv_at hl 4 rfl) ?_
                refine r_get (T := TX8) (v := .ref (a 2)) hx hb hts hi8 hown hK hw 0 rfl rfl 1 (by decide) f_3 rfl dX8_turn_89 ?_
                refine lv_iconst (v := 4) hx hb dX8_turn_92 (by decide) ?_
                refine r_iald hx hb hK hw 1 0 rfl rfl 4 (by omega) (by decide) dX8_turn_93 ?_
                refine lv_icmp_ge (tgt := 101) hx hb dX8_turn_94 (by decide) (fun c_94 => ?_) (fun c_94 => ?_)
                · refine lv_iconst (v := 0) hx hb dX8_turn_101 (by decide) ?_
                  refine lv_istore (lv' := [(6, .int 0), (5, .int 1), (4, .int (ba2_16 (m - 1))), (3, .int (nI m)), (2, .int (nI mo)), (0, .ref (a 0)), (1, .int t)]) hx hb dX8_turn_102 hl (by decide) rfl (fun ls hl => ?_)
                  refine lv_iload hx hb dX8_turn_104 (lv_at hl 0 rfl) ?_
                  refine lv_if_eq (tgt := 121) hx hb dX8_turn_106 (by decide) (fun c_106 => ?_) (fun c_106 => ?_)
                  · refine lv_iload_n hx hb dX8_turn_121 rfl (lv_at hl 4 rfl) ?_
                    refine lv_istore_n (lv' := [(2, .int (nI mo)), (6, .int 0), (5, .int 1), (4, .int (ba2_16 (m - 1))), (3, .int (nI m)), (0, .ref (a 0)), (1, .int t)]) hx hb dX8_turn_122 rfl hl (by decide) rfl (fun ls hl => ?_)
                    refine lv_iinc (v := (nI (m + 1))) (lv' := [(3, .int (nI (m + 1))), (2, .int (nI mo)), (6, .int 0), (5, .int 1), (4, .int (ba2_16 (m - 1))), (0, .ref (a 0)), (1, .int t)]) hx hb dX8_turn_123 hl (k := 4) rfl (nI_add _ _) (by decide) rfl (fun ls hl => ?_)
                    refine lv_goto (tgt := 23) hx hb dX8_turn_126 (by decide) ?_
                    exact ih_23 (m + 1) mo (by omega) (by omega) (by omega) (by first | exact il_y hm1 hL ⟨fa_le_of_nlt c_114, (by first | exact Or.inl c_46 | exact Or.inr (Or.inl (fun z => nlt_le c_54 z)) | exact bk_yes ej (by omega) (fa_of_nle c_94))⟩ | exact il_n hm1 hL (fun z => nlt_le z.1 c_114) | exact il_n hm1 hL (fun z => bk_no ej (by omega) c_46 (fa_of_nle c_54) c_94 z.2)) _ _ hw ls (lv_sub hl [0, 1, 5, 6] rfl)
                  · exact absurd c_106 (by decide)
                · refine lv_iconst (v := 1) hx hb dX8_turn_97 (by decide) ?_
                  refine lv_goto (tgt := 102) hx hb dX8_turn_98 (by decide) ?_
                  refine lv_istore (lv' := [(6, .int 1), (5, .int 1), (4, .int (ba2_16 (m - 1))), (3, .int (nI m)), (2, .int (nI mo)), (0, .ref (a 0)), (1, .int t)]) hx hb dX8_turn_102 hl (by decide) rfl (fun ls hl => ?_)
                  refine lv_iload hx hb dX8_turn_104 (lv_at hl 0 rfl) ?_
                  refine lv_if_eq (tgt := 121) hx hb dX8_turn_106 (by decide) (fun c_106 => ?_) (fun c_106 => ?_)
                  · exact absurd c_106 (by decide)
                  · refine lv_iload hx hb dX8_turn_109 (lv_at hl 2 rfl) ?_
                    refine lv_iload_n hx hb dX8_turn_111 rfl (lv_at hl 3 rfl) ?_
                    refine lv_iadd hx hb dX8_turn_112 ?_
                    refine lv_iload_n hx hb dX8_turn_113 rfl (lv_at hl 6 rfl) ?_
                    refine lv_icmp_gt (tgt := 121) hx hb dX8_turn_114 (by decide) (fun c_114 => ?_) (fun c_114 => ?_)
                    · refine lv_iload_n hx hb dX8_turn_121 rfl (lv_at hl 4 rfl) ?_
                      refine lv_istore_n (lv' := [(2, .int (nI mo)), (6, .int 1), (5, .int 1), (4, .int (ba2_16 (m - 1))), (3, .int (nI m)), (0, .ref (a 0)), (1, .int t)]) hx hb dX8_turn_122 rfl hl (by decide) rfl (fun ls hl => ?_)
                      refine lv_iinc (v := (nI (m + 1))) (lv' := [(3, .int (nI (m + 1))), (2, .int (nI mo)), (6, .int 1), (5, .int 1), (4, .int (ba2_16 (m - 1))), (0, .ref (a 0)), (1, .int t)]) hx hb dX8_turn_123 hl (k := 4) rfl (nI_add _ _) (by decide) rfl (fun ls hl => ?_)
                      refine lv_goto (tgt := 23) hx hb dX8_turn_126 (by decide) ?_
                      exact ih_23 (m + 1) mo (by omega) (by omega) (by omega) (by first | exact il_y hm1 hL ⟨fa_le_of_nlt c_114, (by first | exact Or.inl c_46 | exact Or.inr (Or.inl (fun z => nlt_le c_54 z)) | exact bk_yes ej (by omega) (fa_of_nle c_94))⟩ | exact il_n hm1 hL (fun z => nlt_le z.1 c_114) | exact il_n hm1 hL (fun z => bk_no ej (by omega) c_46 (fa_of_nle c_54) c_94 z.2)) _ _ hw ls (lv_sub hl [0, 1, 5, 6] rfl)
                    · refine lv_iload_n hx hb dX8_turn_117 rfl (lv_at hl 3 rfl) ?_
                      refine lv_goto (tgt := 122) hx hb dX8_turn_118 (by decide) ?_
                      refine lv_istore_n (lv' := [(2, .int (nI m)), (6, .int 1), (5, .int 1), (4, .int (ba2_16 (m - 1))), (3, .int (nI m)), (0, .ref (a 0)), (1, .int t)]) hx hb dX8_turn_122 rfl hl (by decide) rfl (fun ls hl => ?_)
                      refine lv_iinc (v := (nI (m + 1))) (lv' := [(3, .int (nI (m + 1))), (2, .int (nI m)), (6, .int 1), (5, .int 1), (4, .int (ba2_16 (m - 1))), (0, .ref (a 0)), (1, .int t)]) hx hb dX8_turn_123 hl (k := 4) rfl (nI_add _ _) (by decide) rfl (fun ls hl => ?_)
                      refine lv_goto (tgt := 23) hx hb dX8_turn_126 (by decide) ?_
                      exact ih_23 (m + 1) m (by omega) (by omega) (by omega) (by first | exact il_y hm1 hL ⟨fa_le_of_nlt c_114, (by first | exact Or.inl c_46 | exact Or.inr (Or.inl (fun z => nlt_le c_54 z)) | exact bk_yes ej (by omega) (fa_of_nle c_94))⟩ | exact il_n hm1 hL (fun z => nlt_le z.1 c_114) | exact il_n hm1 hL (fun z => bk_no ej (by omega) c_46 (fa_of_nle c_54) c_94 z.2)) _ _ hw ls (lv_sub hl [0, 1, 5, 6] rfl)
    exact loop_23 ((b2_16 + 1 - 1) + 1) 1 0 (Nat.lt_succ_self _) (Nat.le_refl 1) (by omega) (il_0 _) _ _ hw ls (lv_sub hl [0, 1, 2, 3] rfl)
  · refine lv_ldc hx hb hown f_4 dX8_turn_7 ?_
    exact kr (-1000000002) (bh, mi, fb, w, ba) _ _ _ _ hw ⟨⟨fun z => absurd z (h0_1 c_4), fun _ => rfl⟩, (wNow.rf _)⟩ dX8_turn_9
