set_option maxHeartbeats 4000000 in
set_option maxRecDepth 100000 in
theorem k_X8_kinds (l : Launch) (D : va_G) (c4 : Nat → ClassId) (A : Nat → Prop) (Ts : List va_W) (a : Nat → Nat) (n : Nat) (tx : Int32) (pl : Int32) (st : Int32) (va : Int32) (fy : Int32) (fa : Int32) (ry : Int32) (se : Int32) (bh : Int32) (mi : Int32) (fb : Int32) (bc : Nat) (bk : Int32) (w : Nat → Int32) (q : Nat → Yq) (by0 : Nat → Int32) (bn : Nat → Int32) (bd : Nat → Int32) (bi : Nat → Int32) (y : Int32) (hn : n ≤ 12) (hY : mY q n w 0) (hbc : bc ≤ 10) (hbo : boOk bc bn bd) : Ci l yX8_kinds wsX8_kinds 2 47 [.ref (a 0), .int y] D (tyA c4) A none ((mG a (nI n) tx pl st va fy fa ry se bh mi fb (nI bc) bk) :: (aG c4 (a 1) 204 w) :: (aG c4 (a 9) 10 by0) :: (aG c4 (a 10) 10 bn) :: (aG c4 (a 11) 10 bd) :: (aG c4 (a 12) 10 bi) :: Ts) (S := (Nat → Int32)) (fun (r : Int32) (u : (Nat → Int32)) => (kindP q n bc y by0 bn bd bi r) ∧ (wNow w u)) (fun u => ((mG a (nI n) tx pl st va fy fa ry se bh mi fb (nI bc) bk) :: (aG c4 (a 1) 204 u) :: (aG c4 (a 9) 10 by0) :: (aG c4 (a 10) 10 bn) :: (aG c4 (a 11) 10 bd) :: (aG c4 (a 12) 10 bi) :: Ts)) := by
  refine cOi (cc := cX8_kinds) (maxL := 7) (by decide) rfl (Nat.le_of_ble_eq_true rfl) rfl ?_
  rintro jp je js jm below meth jc ls args R Q H locs hRf hRl ⟨hx, hb, hml, hr, hts, hown, hlocks, hK, hX⟩ hw hl kr
  have hown : js.vm.findClass RX8 = some jm.cls := hown
  have f_0 := hts (.fieldLink RX8 131 "IceSwayModel" "bored" "I") (by decide +kernel)
  have f_1 := hts (.fieldLink RX8 39 "IceSwayModel" "boredYard" "[I") (by decide +kernel)
  have f_2 := hts (.fieldLink RX8 7 "IceSwayModel" "w" "[I") (by decide +kernel)
  have f_3 := hts (.fieldLink RX8 42 "IceSwayModel" "boredNights" "[I") (by decide +kernel)
  have f_4 := hts (.fieldLink RX8 48 "IceSwayModel" "boredIce" "[I") (by decide +kernel)
  have f_5 := hts (.fieldLink RX8 45 "IceSwayModel" "boredCold" "[I") (by decide +kernel)
  have f_6 := hts (.constant RX8 152 (-1000000001)) (by decide +kernel)
  have hi8 : ∀ w ∈ u_ws RX8 TX8 28, w ∈ wsX8_kinds := fun w h => List.mem_cons_of_mem _ (List.mem_append_right _ h)
  refine lv_aload_n hx hb dX8_kinds_0 rfl (lv_at hl 0 rfl) ?_
  refine lv_iload_n hx hb dX8_kinds_1 rfl (lv_at hl 1 rfl) ?_
  refine c_vi (As := [.int y]) (rest := []) ⟨hx, hb, hml, hown, hts⟩ (k_X8_isYard l D c4 A ((aG c4 (a 1) 204 w) :: (aG c4 (a 9) 10 by0) :: (aG c4 (a 10) 10 bn) :: (aG c4 (a 11) 10 bd) :: (aG c4 (a 12) 10 bi) :: Ts) a n tx pl st va fy fa ry se bh mi fb (nI bc) bk y hn) (cwV 1 hts gX8_kinds_X8_isYard rfl rfl rfl (by decide +kernel) (rmv (Nat.le_of_ble_eq_true rfl) (Nat.le_of_ble_eq_true rfl) hRf hRl)) hK trivial hw rfl rfl rfl hl rfl (Nat.le_of_ble_eq_true rfl) ⟨Nat.zero_le _, Nat.zero_le _⟩ dX8_kinds_2 (fun r_2 u_2 H locs hpq hw => ?_)
  obtain ⟨h0_2, h1_2⟩ := hpq
  refine lv_if_ne (tgt := 11) hx hb dX8_kinds_5 (by decide) (fun c_5 => ?_) (fun c_5 => ?_)
  · obtain ⟨ky, hky, eky⟩ := h1_2 c_5
    refine lv_iconst (v := 0) hx hb dX8_kinds_11 (by decide) ?_
    refine lv_istore_n (lv' := [(2, .int 0), (0, .ref (a 0)), (1, .int y)]) hx hb dX8_kinds_12 rfl hl (by decide) rfl (fun ls hl => ?_)
    refine lv_iconst (v := 0) hx hb dX8_kinds_13 (by decide) ?_
    refine lv_istore_n (lv' := [(3, .int 0), (2, .int 0), (0, .ref (a 0)), (1, .int y)]) hx hb dX8_kinds_14 rfl hl (by decide) rfl (fun ls hl => ?_)
    have loop_15 : ∀ (fuel : Nat) (kn : Nat) (sv : Int32) (w1 : Nat → Int32), (4 - kn) < fuel → (kn ≤ 4) → (kdS (q ky) ky bc by0 bn bd bi kn sv) → (wNow w w1) → ∀ (H : Heap) (locs : List Loc), gW D A js.heap ((mG a (nI n) tx pl st va fy fa ry se bh mi fb (nI bc) bk) :: (aG c4 (a 1) 204 w1) :: (aG c4 (a 9) 10 by0) :: (aG c4 (a 10) 10 bn) :: (aG c4 (a 11) 10 bd) :: (aG c4 (a 12) 10 bi) :: Ts) H locs → ∀ (ls : Array Slot), lv_has ls 7 [(3, .int (nI kn)), (2, .int sv), (0, .ref (a 0)), (1, .int y)] → W jp l je R js jm args below meth jc H locs 0 0 Q (F0 jm 15 ls []) := by
      intro fuel
      induction fuel with
      | zero => intro kn sv w1 hm; exact absurd hm (Nat.not_lt_zero _)
      | succ fuel ih_15 =>
        intro kn sv w1 hm_15 hkn hS hW1 H locs hw ls hl
        refine lv_iload_n hx hb dX8_kinds_15 rfl (lv_at hl 0 rfl) ?_
        refine lv_iconst (v := 3) hx hb dX8_kinds_16 (by decide) ?_
        refine r_cgt hx hb kn 3 (by omega) (by omega) (tgt := 155) dX8_kinds_17 (by decide) (fun c_17 => ?_) (fun c_17 => ?_)
        · refine lv_iload_n hx hb dX8_kinds_155 rfl (lv_at hl 1 rfl) ?_
          exact kr sv (w1) _ _ _ _ hw ⟨(kd_end eky hky hn (by omega) hS), hW1⟩ dX8_kinds_156
        · refine lv_iconst (v := 1) hx hb dX8_kinds_20 (by decide) ?_
          refine lv_istore (lv' := [(4, .int 1), (3, .int (nI kn)), (2, .int sv), (0, .ref (a 0)), (1, .int y)]) hx hb dX8_kinds_21 hl (by decide) rfl (fun ls hl => ?_)
          refine lv_iconst (v := 0) hx hb dX8_kinds_23 (by decide) ?_
          refine lv_istore (lv' := [(5, .int 0), (4, .int 1), (3, .int (nI kn)), (2, .int sv), (0, .ref (a 0)), (1, .int y)]) hx hb dX8_kinds_24 hl (by decide) rfl (fun ls hl => ?_)
          have loop_26 : ∀ (fuel : Nat) (e : Nat) (g1 : Int32) (w2 : Nat → Int32), (bc - e) < fuel → (e ≤ bc) → (¬ g1 = 0 → ∀ j, j < e → fitAt (q ky) ky (nI kn) by0 bn bd bi j) → (g1 = 0 → ∃ j, j < bc ∧ ¬ fitAt (q ky) ky (nI kn) by0 bn bd bi j) → (wNow w w2) → ∀ (H : Heap) (locs : List Loc), gW D A js.heap ((mG a (nI n) tx pl st va fy fa ry se bh mi fb (nI bc) bk) :: (aG c4 (a 1) 204 w2) :: (aG c4 (a 9) 10 by0) :: (aG c4 (a 10) 10 bn) :: (aG c4 (a 11) 10 bd) :: (aG c4 (a 12) 10 bi) :: Ts) H locs → ∀ (ls : Array Slot), lv_has ls 7 [(5, .int (nI e)), (4, .int g1), (3, .int (nI kn)), (2, .int sv), (0, .ref (a 0)), (1, .int y)] → W jp l je R js jm args below meth jc H locs 0 0 Q (F0 jm 26 ls []) := by
            intro fuel
            induction fuel with
            | zero => intro e g1 w2 hm; exact absurd hm (Nat.not_lt_zero _)
            | succ fuel ih_26 =>
              intro e g1 w2 hm_26 he hT1 hF1 hW2 H locs hw ls hl
              refine lv_iload hx hb dX8_kinds_26 (lv_at hl 0 rfl) ?_
              refine lv_aload_n hx hb dX8_kinds_28 rfl (lv_at hl 4 rfl) ?_
              refine r_get (T := TX8) (v := .int (nI bc)) hx hb hts hi8 hown hK hw 0 rfl rfl 20 (by decide) f_0 rfl dX8_kinds_29 ?_
              refine r_cge hx hb e bc (by omega) (by omega) (tgt := 134) dX8_kinds_32 (by decide) (fun c_32 => ?_) (fun c_32 => ?_)
              · refine lv_iload_n hx hb dX8_kinds_134 rfl (lv_at hl 3 rfl) ?_
                refine lv_iload hx hb dX8_kinds_135 (lv_at hl 1 rfl) ?_
                refine lv_if_eq (tgt := 146) hx hb dX8_kinds_137 (by decide) (fun c_137 => ?_) (fun c_137 => ?_)
                · refine lv_iconst (v := 0) hx hb dX8_kinds_146 (by decide) ?_
                  refine lv_ior hx hb dX8_kinds_147 ?_
                  refine lv_istore_n (lv' := [(2, .int (sv ||| (0 : Int32))), (5, .int (nI e)), (4, .int g1), (3, .int (nI kn)), (0, .ref (a 0)), (1, .int y)]) hx hb dX8_kinds_148 rfl hl (by decide) rfl (fun ls hl => ?_)
                  refine lv_iinc (v := (nI (kn + 1))) (lv' := [(3, .int (nI (kn + 1))), (2, .int (sv ||| (0 : Int32))), (5, .int (nI e)), (4, .int g1), (0, .ref (a 0)), (1, .int y)]) hx hb dX8_kinds_149 hl (k := 3) rfl (nI_add _ _) (by decide) rfl (fun ls hl => ?_)
                  refine lv_goto (tgt := 15) hx hb dX8_kinds_152 (by decide) ?_
                  exact ih_15 (kn + 1) (sv ||| (0 : Int32)) w2 (by omega) (by omega) (by first | exact kdS_y hS (fun j hj => hT1 c_137 j (by omega)) | exact (by rw [or_0]; exact kdS_n hS (fun z => by obtain ⟨j, hj, g⟩ := hF1 c_137; exact g (z j hj))) | exact absurd c_37 c_137) hW2 _ _ hw ls (lv_sub hl [0, 1, 4, 5] rfl)
                · refine lv_iconst (v := 1) hx hb dX8_kinds_140 (by decide) ?_
                  refine lv_iload_n hx hb dX8_kinds_141 rfl (lv_at hl 2 rfl) ?_
                  refine lv_ishl hx hb dX8_kinds_142 ?_
                  refine lv_goto (tgt := 147) hx hb dX8_kinds_143 (by decide) ?_
                  refine lv_ior hx hb dX8_kinds_147 ?_
                  refine lv_istore_n (lv' := [(2, .int (sv ||| ((1 : Int32) <<< ((nI kn) &&& 31)))), (5, .int (nI e)), (4, .int g1), (3, .int (nI kn)), (0, .ref (a 0)), (1, .int y)]) hx hb dX8_kinds_148 rfl hl (by decide) rfl (fun ls hl => ?_)
                  refine lv_iinc (v := (nI (kn + 1))) (lv' := [(3, .int (nI (kn + 1))), (2, .int (sv ||| ((1 : Int32) <<< ((nI kn) &&& 31)))), (5, .int (nI e)), (4, .int g1), (0, .ref (a 0)), (1, .int y)]) hx hb dX8_kinds_149 hl (k := 3) rfl (nI_add _ _) (by decide) rfl (fun ls hl => ?_)
                  refine lv_goto (tgt := 15) hx hb dX8_kinds_152 (by decide) ?_
                  exact ih_15 (kn + 1) (sv ||| ((1 : Int32) <<< ((nI kn) &&& 31))) w2 (by omega) (by omega) (by first | exact kdS_y hS (fun j hj => hT1 c_137 j (by omega)) | exact (by rw [or_0]; exact kdS_n hS (fun z => by obtain ⟨j, hj, g⟩ := hF1 c_137; exact g (z j hj))) | exact absurd c_37 c_137) hW2 _ _ hw ls (lv_sub hl [0, 1, 4, 5] rfl)
              · refine lv_iload hx hb dX8_kinds_35 (lv_at hl 1 rfl) ?_
                refine lv_if_eq (tgt := 134) hx hb dX8_kinds_37 (by decide) (fun c_37 => ?_) (fun c_37 => ?_)
                · refine lv_iload_n hx hb dX8_kinds_134 rfl (lv_at hl 3 rfl) ?_
                  refine lv_iload hx hb dX8_kinds_135 (lv_at hl 1 rfl) ?_
                  refine lv_if_eq (tgt := 146) hx hb dX8_kinds_137 (by decide) (fun c_137 => ?_) (fun c_137 => ?_)
                  · refine lv_iconst (v := 0) hx hb dX8_kinds_146 (by decide) ?_
                    refine lv_ior hx hb dX8_kinds_147 ?_
                    refine lv_istore_n (lv' := [(2, .int (sv ||| (0 : Int32))), (5, .int (nI e)), (4, .int g1), (3, .int (nI kn)), (0, .ref (a 0)), (1, .int y)]) hx hb dX8_kinds_148 rfl hl (by decide) rfl (fun ls hl => ?_)
                    refine lv_iinc (v := (nI (kn + 1))) (lv' := [(3, .int (nI (kn + 1))), (2, .int (sv ||| (0 : Int32))), (5, .int (nI e)), (4, .int g1), (0, .ref (a 0)), (1, .int y)]) hx hb dX8_kinds_149 hl (k := 3) rfl (nI_add _ _) (by decide) rfl (fun ls hl => ?_)
                    refine lv_goto (tgt := 15) hx hb dX8_kinds_152 (by decide) ?_
                    exact ih_15 (kn + 1) (sv ||| (0 : Int32)) w2 (by omega) (by omega) (by first | exact kdS_y hS (fun j hj => hT1 c_137 j (by omega)) | exact (by rw [or_0]; exact kdS_n hS (fun z => by obtain ⟨j, hj, g⟩ := hF1 c_137; exact g (z j hj))) | exact absurd c_37 c_137) hW2 _ _ hw ls (lv_sub hl [0, 1, 4, 5] rfl)
                  · refine lv_iconst (v := 1) hx hb dX8_kinds_140 (by decide) ?_
                    refine lv_iload_n hx hb dX8_kinds_141 rfl (lv_at hl 2 rfl) ?_
                    refine lv_ishl hx hb dX8_kinds_142 ?_
                    refine lv_goto (tgt := 147) hx hb dX8_kinds_143 (by decide) ?_
                    refine lv_ior hx hb dX8_kinds_147 ?_
                    refine lv_istore_n (lv' := [(2, .int (sv ||| ((1 : Int32) <<< ((nI kn) &&& 31)))), (5, .int (nI e)), (4, .int g1), (3, .int (nI kn)), (0, .ref (a 0)), (1, .int y)]) hx hb dX8_kinds_148 rfl hl (by decide) rfl (fun ls hl => ?_)
                    refine lv_iinc (v := (nI (kn + 1))) (lv' := [(3, .int (nI (kn + 1))), (2, .int (sv ||| ((1 : Int32) <<< ((nI kn) &&& 31)))), (5, .int (nI e)), (4, .int g1), (0, .ref (a 0)), (1, .int y)]) hx hb dX8_kinds_149 hl (k := 3) rfl (nI_add _ _) (by decide) rfl (fun ls hl => ?_)
                    refine lv_goto (tgt := 15) hx hb dX8_kinds_152 (by decide) ?_
                    exact ih_15 (kn + 1) (sv ||| ((1 : Int32) <<< ((nI kn) &&& 31))) w2 (by omega) (by omega) (by first | exact kdS_y hS (fun j hj => hT1 c_137 j (by omega)) | exact (by rw [or_0]; exact kdS_n hS (fun z => by obtain ⟨j, hj, g⟩ := hF1 c_137; exact g (z j hj))) | exact absurd c_37 c_137) hW2 _ _ hw ls (lv_sub hl [0, 1, 4, 5] rfl)
                · refine lv_aload_n hx hb dX8_kinds_40 rfl (lv_at hl 4 rfl) ?_
                  refine r_get (T := TX8) (v := .ref (a 9)) hx hb hts hi8 hown hK hw 0 rfl rfl 21 (by decide) f_1 rfl dX8_kinds_41 ?_
                  refine lv_iload hx hb dX8_kinds_44 (lv_at hl 0 rfl) ?_
                  refine r_iald hx hb hK hw 2 0 rfl rfl e (by omega) (by decide) dX8_kinds_46 ?_
                  refine lv_iload_n hx hb dX8_kinds_47 rfl (lv_at hl 5 rfl) ?_
                  refine lv_icmp_ne (tgt := 128) hx hb dX8_kinds_48 (by decide) (fun c_48 => ?_) (fun c_48 => ?_)
                  · refine lv_iinc (v := (nI (e + 1))) (lv' := [(5, .int (nI (e + 1))), (4, .int g1), (3, .int (nI kn)), (2, .int sv), (0, .ref (a 0)), (1, .int y)]) hx hb dX8_kinds_128 hl (k := 0) rfl (nI_add _ _) (by decide) rfl (fun ls hl => ?_)
                    refine lv_goto (tgt := 26) hx hb dX8_kinds_131 (by decide) ?_
                    exact ih_26 (e + 1) g1 w2 (by omega) (by omega) (by first | exact (fun z => absurd rfl z) | exact (fun z => all_s (hT1 c_37) (ft_one enk hnk hv c_118)) | exact (fun z => all_s (hT1 z) (fun h => absurd (h.trans eky.symm) c_48))) (by first | exact (fun z => absurd z (by decide)) | exact (fun _ => ⟨e, c_32, ft_not hyy enk hnk hv c_118⟩) | exact hF1) (by first | exact hW3 | exact hW2) _ _ hw ls (lv_sub hl [0, 1, 2, 3, 4, 5] rfl)
                  · obtain ⟨⟨nk, hnk, enk⟩, hcd⟩ := hbo e c_32
                    refine lv_aload_n hx hb dX8_kinds_51 rfl (lv_at hl 4 rfl) ?_
                    refine lv_iconst (v := 0) hx hb dX8_kinds_52 (by decide) ?_
                    refine lv_bipush (v := 51) hx hb dX8_kinds_53 (by decide) ?_
                    have hw := hw.m1
                    have hw := hw.m1
                    refine c_vv (As := [.int 0, .int 51]) (rest := []) ⟨hx, hb, hml, hown, hts⟩ (k_X8_copy l D c4 A ((aG c4 (a 9) 10 by0) :: (aG c4 (a 10) 10 bn) :: (aG c4 (a 11) 10 bd) :: (aG c4 (a 12) 10 bi) :: Ts) a (nI n) tx pl st va fy fa ry se bh mi fb (nI bc) bk w2 0 51 (by decide) (by decide) (Or.inl (by decide))) (cwV 2 hts gX8_kinds_X8_copy rfl rfl rfl (by decide +kernel) (rmv (Nat.le_of_ble_eq_true rfl) (Nat.le_of_ble_eq_true rfl) hRf hRl)) hK trivial hw rfl rfl rfl hl rfl (Nat.le_of_ble_eq_true rfl) ⟨Nat.zero_le _, Nat.zero_le _⟩ dX8_kinds_55 (fun u_55 H locs hpq hw => ?_)
                    refine lv_aload_n hx hb dX8_kinds_58 rfl (lv_at hl 4 rfl) ?_
                    refine r_get (T := TX8) (v := .ref (a 1)) hx hb hts hi8 hown hK hw 0 rfl rfl 0 (by decide) f_2 rfl dX8_kinds_59 ?_
                    refine lv_bipush (v := 63) hx hb dX8_kinds_62 (by decide) ?_
                    refine lv_iload_n hx hb dX8_kinds_64 rfl (lv_at hl 5 rfl) ?_
                    refine r_top (y := nI ky) eky ?_
                    refine r_addN hx hb 63 ky dX8_kinds_65 ?_
                    refine lv_iload_n hx hb dX8_kinds_66 rfl (lv_at hl 2 rfl) ?_
                    refine r_iast (G' := ((mG a (nI n) tx pl st va fy fa ry se bh mi fb (nI bc) bk) :: (aG c4 (a 1) 204 (upd (fb_put w2 (fun k => w2 (0 + k)) 51 51) (63 + ky) (nI kn))) :: (aG c4 (a 9) 10 by0) :: (aG c4 (a 10) 10 bn) :: (aG c4 (a 11) 10 bd) :: (aG c4 (a 12) 10 bi) :: Ts)) hx hb hK hw 1 0 rfl rfl (63 + ky) (by omega) (by decide) rfl dX8_kinds_67 (fun H locs hw => ?_)
                    refine lv_iconst (v := 0) hx hb dX8_kinds_68 (by decide) ?_
                    refine lv_istore (lv' := [(6, .int 0), (5, .int (nI e)), (4, .int g1), (3, .int (nI kn)), (2, .int sv), (0, .ref (a 0)), (1, .int y)]) hx hb dX8_kinds_69 hl (by decide) rfl (fun ls hl => ?_)
                    have loop_71 : ∀ (fuel : Nat) (i : Nat) (w3 : Nat → Int32), (nk - i) < fuel → (i ≤ nk) → (mY (fun y => itQ (nightQ (bd e)) i (kdQ kn ky q y)) n w3 51) → (wNow w w3) → ∀ (H : Heap) (locs : List Loc), gW D A js.heap ((mG a (nI n) tx pl st va fy fa ry se bh mi fb (nI bc) bk) :: (aG c4 (a 1) 204 w3) :: (aG c4 (a 9) 10 by0) :: (aG c4 (a 10) 10 bn) :: (aG c4 (a 11) 10 bd) :: (aG c4 (a 12) 10 bi) :: Ts) H locs → ∀ (ls : Array Slot), lv_has ls 7 [(6, .int (nI i)), (5, .int (nI e)), (4, .int g1), (3, .int (nI kn)), (2, .int sv), (0, .ref (a 0)), (1, .int y)] → W jp l je R js jm args below meth jc H locs 0 0 Q (F0 jm 71 ls []) := by
                      intro fuel
                      induction fuel with
                      | zero => intro i w3 hm; exact absurd hm (Nat.not_lt_zero _)
                      | succ fuel ih_71 =>
                        intro i w3 hm_71 hi hM3 hW3 H locs hw ls hl
                        refine lv_iload hx hb dX8_kinds_71 (lv_at hl 0 rfl) ?_
                        refine lv_aload_n hx hb dX8_kinds_73 rfl (lv_at hl 5 rfl) ?_
                        refine r_get (T := TX8) (v := .ref (a 10)) hx hb hts hi8 hown hK hw 0 rfl rfl 22 (by decide) f_3 rfl dX8_kinds_74 ?_
                        refine lv_iload hx hb dX8_kinds_77 (lv_at hl 1 rfl) ?_
                        refine r_iald hx hb hK hw 3 0 rfl rfl e (by omega) (by decide) dX8_kinds_79 ?_
                        refine r_top (y := nI nk) enk ?_
                        refine r_cge hx hb i nk (by omega) (by omega) (tgt := 102) dX8_kinds_80 (by decide) (fun c_80 => ?_) (fun c_80 => ?_)
                        · have hv : w3 (51 + ky) = qI (itQ (nightQ (bd e)) nk (setK (nI kn) (q ky))) := by rw [(hM3 ky hky).2.1, show i = nk by omega]; show qI (itQ (nightQ (bd e)) nk (kdQ kn ky q ky)) = _; rw [kdQ_at]
                          have hyy : by0 e = nI ky := c_48.trans eky
                          refine lv_aload_n hx hb dX8_kinds_102 rfl (lv_at hl 5 rfl) ?_
                          refine r_get (T := TX8) (v := .ref (a 1)) hx hb hts hi8 hown hK hw 0 rfl rfl 0 (by decide) f_2 rfl dX8_kinds_103 ?_
                          refine lv_bipush (v := 51) hx hb dX8_kinds_106 (by decide) ?_
                          refine lv_iload_n hx hb dX8_kinds_108 rfl (lv_at hl 6 rfl) ?_
                          refine r_top (y := nI ky) eky ?_
                          refine r_addN hx hb 51 ky dX8_kinds_109 ?_
                          refine r_iald hx hb hK hw 1 0 rfl rfl (51 + ky) (by omega) (by decide) dX8_kinds_110 ?_
                          refine lv_aload_n hx hb dX8_kinds_111 rfl (lv_at hl 5 rfl) ?_
                          refine r_get (T := TX8) (v := .ref (a 12)) hx hb hts hi8 hown hK hw 0 rfl rfl 24 (by decide) f_4 rfl dX8_kinds_112 ?_
                          refine lv_iload hx hb dX8_kinds_115 (lv_at hl 1 rfl) ?_
                          refine r_iald hx hb hK hw 5 0 rfl rfl e (by omega) (by decide) dX8_kinds_117 ?_
                          refine lv_icmp_ne (tgt := 125) hx hb dX8_kinds_118 (by decide) (fun c_118 => ?_) (fun c_118 => ?_)
                          · refine lv_iconst (v := 0) hx hb dX8_kinds_125 (by decide) ?_
                            refine lv_istore (lv' := [(4, .int 0), (6, .int (nI i)), (5, .int (nI e)), (3, .int (nI kn)), (2, .int sv), (0, .ref (a 0)), (1, .int y)]) hx hb dX8_kinds_126 hl (by decide) rfl (fun ls hl => ?_)
                            refine lv_iinc (v := (nI (e + 1))) (lv' := [(5, .int (nI (e + 1))), (4, .int 0), (6, .int (nI i)), (3, .int (nI kn)), (2, .int sv), (0, .ref (a 0)), (1, .int y)]) hx hb dX8_kinds_128 hl (k := 2) rfl (nI_add _ _) (by decide) rfl (fun ls hl => ?_)
                            refine lv_goto (tgt := 26) hx hb dX8_kinds_131 (by decide) ?_
                            exact ih_26 (e + 1) 0 w3 (by omega) (by omega) (by first | exact (fun z => absurd rfl z) | exact (fun z => all_s (hT1 c_37) (ft_one enk hnk hv c_118)) | exact (fun z => all_s (hT1 z) (fun h => absurd (h.trans eky.symm) c_48))) (by first | exact (fun z => absurd z (by decide)) | exact (fun _ => ⟨e, c_32, ft_not hyy enk hnk hv c_118⟩) | exact hF1) (by first | exact hW3 | exact hW2) _ _ hw ls (lv_sub hl [0, 1, 3, 4, 5, 6] rfl)
                          · refine lv_iconst (v := 1) hx hb dX8_kinds_121 (by decide) ?_
                            refine lv_goto (tgt := 126) hx hb dX8_kinds_122 (by decide) ?_
                            refine lv_istore (lv' := [(4, .int 1), (6, .int (nI i)), (5, .int (nI e)), (3, .int (nI kn)), (2, .int sv), (0, .ref (a 0)), (1, .int y)]) hx hb dX8_kinds_126 hl (by decide) rfl (fun ls hl => ?_)
                            refine lv_iinc (v := (nI (e + 1))) (lv' := [(5, .int (nI (e + 1))), (4, .int 1), (6, .int (nI i)), (3, .int (nI kn)), (2, .int sv), (0, .ref (a 0)), (1, .int y)]) hx hb dX8_kinds_128 hl (k := 2) rfl (nI_add _ _) (by decide) rfl (fun ls hl => ?_)
                            refine lv_goto (tgt := 26) hx hb dX8_kinds_131 (by decide) ?_
                            exact ih_26 (e + 1) 1 w3 (by omega) (by omega) (by first | exact (fun z => absurd rfl z) | exact (fun z => all_s (hT1 c_37) (ft_one enk hnk hv c_118)) | exact (fun z => all_s (hT1 z) (fun h => absurd (h.trans eky.symm) c_48))) (by first | exact (fun z => absurd z (by decide)) | exact (fun _ => ⟨e, c_32, ft_not hyy enk hnk hv c_118⟩) | exact hF1) (by first | exact hW3 | exact hW2) _ _ hw ls (lv_sub hl [0, 1, 3, 4, 5, 6] rfl)
                        · refine lv_aload_n hx hb dX8_kinds_83 rfl (lv_at hl 5 rfl) ?_
                          refine lv_bipush (v := 51) hx hb dX8_kinds_84 (by decide) ?_
                          refine lv_aload_n hx hb dX8_kinds_86 rfl (lv_at hl 5 rfl) ?_
                          refine r_get (T := TX8) (v := .ref (a 11)) hx hb hts hi8 hown hK hw 0 rfl rfl 23 (by decide) f_5 rfl dX8_kinds_87 ?_
                          refine lv_iload hx hb dX8_kinds_90 (lv_at hl 1 rfl) ?_
                          refine r_iald hx hb hK hw 4 0 rfl rfl e (by omega) (by decide) dX8_kinds_92 ?_
                          have hw := hw.m1
                          have hw := hw.m1
                          refine c_vv (As := [.int 51, .int (bd e)]) (rest := []) ⟨hx, hb, hml, hown, hts⟩ (k_X8_nightOf l D c4 A ((aG c4 (a 9) 10 by0) :: (aG c4 (a 10) 10 bn) :: (aG c4 (a 11) 10 bd) :: (aG c4 (a 12) 10 bi) :: Ts) a n tx pl st va fy fa ry se bh mi fb (nI bc) bk w3 (fun y => itQ (nightQ (bd e)) i (kdQ kn ky q y)) 51 (bd e) hn hM3 (by decide) hcd) (cwV 2 hts gX8_kinds_X8_nightOf rfl rfl rfl (by decide +kernel) (rmv (Nat.le_of_ble_eq_true rfl) (Nat.le_of_ble_eq_true rfl) hRf hRl)) hK trivial hw rfl rfl rfl hl rfl (Nat.le_of_ble_eq_true rfl) ⟨Nat.zero_le _, Nat.zero_le _⟩ dX8_kinds_93 (fun u_93 H locs hpq hw => ?_)
                          obtain ⟨w2_93, rfl⟩ : ∃ z, z = u_93 := ⟨_, rfl⟩
                          have hw : gW D A js.heap ((mG a (nI n) tx pl st va fy fa ry se bh mi fb (nI bc) bk) :: (aG c4 (a 1) 204 w2_93) :: (aG c4 (a 9) 10 by0) :: (aG c4 (a 10) 10 bn) :: (aG c4 (a 11) 10 bd) :: (aG c4 (a 12) 10 bi) :: Ts) H locs := hw
                          obtain ⟨hM_93, hN_93, hO_93⟩ := hpq
                          have hM_93 : mY (fun y => nightQ (bd e) ((fun y => itQ (nightQ (bd e)) i (kdQ kn ky q y)) y)) n w2_93 51 := hM_93
                          have hN_93 : w2_93 (51 + 49) = w3 (51 + 49) + 1 := hN_93
                          have hO_93 : wOt 51 w3 w2_93 := hO_93
                          refine lv_iinc (v := (nI (i + 1))) (lv' := [(6, .int (nI (i + 1))), (5, .int (nI e)), (4, .int g1), (3, .int (nI kn)), (2, .int sv), (0, .ref (a 0)), (1, .int y)]) hx hb dX8_kinds_96 hl (k := 0) rfl (nI_add _ _) (by decide) rfl (fun ls hl => ?_)
                          refine lv_goto (tgt := 71) hx hb dX8_kinds_99 (by decide) ?_
                          exact ih_71 (i + 1) w2_93 (by omega) (by omega) hM_93 (hW3.t hO_93) _ _ hw ls (lv_sub hl [0, 1, 2, 3, 4, 5, 6] rfl)
                    exact loop_71 ((nk - 0) + 1) 0 (upd (fb_put w2 (fun k => w2 (0 + k)) 51 51) (63 + ky) (nI kn)) (Nat.lt_succ_self _) (Nat.zero_le _) (kd_mY hn hky (by omega) (cp_mY hn (hY.now hn hW2))) (fun j hj => (pk_un' _ _ (by omega)).trans (wNow.c j hj |>.trans (hW2 j hj))) _ _ hw ls (lv_sub hl [0, 1, 2, 3, 4, 5, 6] rfl)
          exact loop_26 ((bc - 0) + 1) 0 1 w1 (Nat.lt_succ_self _) (Nat.zero_le _) (fun _ j h => absurd h (Nat.not_lt_zero j)) (fun z => absurd z (by decide)) hW1 _ _ hw ls (lv_sub hl [0, 1, 2, 3, 4, 5] rfl)
    exact loop_15 ((4 - 0) + 1) 0 0 w (Nat.lt_succ_self _) (Nat.zero_le _) kdS_0 (wNow.rf _) _ _ hw ls (lv_sub hl [0, 1, 2, 3] rfl)
  · refine lv_ldc hx hb hown f_6 dX8_kinds_8 ?_
    exact kr (-1000000001) (w) _ _ _ _ hw ⟨⟨fun z => absurd z (h0_2 c_5), fun _ => rfl⟩, (wNow.rf _)⟩ dX8_kinds_10
