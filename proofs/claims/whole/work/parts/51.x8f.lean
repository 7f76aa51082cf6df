set_option maxHeartbeats 4000000 in
set_option maxRecDepth 100000 in
theorem k_X8_goes (l : Launch) (D : va_G) (c4 : Nat → ClassId) (A : Nat → Prop) (Ts : List va_W) (a : Nat → Nat) (n : Nat) (tx : Int32) (pl : Int32) (st : Int32) (va : Int32) (fy : Int32) (fa : Int32) (ry : Int32) (se : Int32) (bh : Int32) (mi : Int32) (fb : Int32) (bo : Int32) (bk : Int32) (told : Nat → Int32) (w : Nat → Int32) (ba : Nat → Int32) (q : Nat → Yq) (h : Nat) (t : Int32) (f : Int32) (hn : n ≤ 12) (hY : mY q n w h) (hh : h + 51 ≤ 204) (hf : rng f 4 108) : Cv l yX8_goes wsX8_goes 0 0 [.ref (a 0), .int (nI h), .int t, .int f] D (tyA c4) A none ((mG a (nI n) tx pl st va fy fa ry se bh mi fb bo bk) :: (aG c4 (a 2) 18 told) :: (aG c4 (a 1) 204 w) :: (aG c4 (a 7) 12 ba) :: Ts) (S := Nat × (Nat → Int32) × (Nat → Int32)) (fun (u : Nat × (Nat → Int32) × (Nat → Int32)) => (u.1 = bhQ f (told 5) t q n) ∧ (∀ k, k < u.1 → u.2.2 k = cumQ f (told 5) q (k + 1)) ∧ (mY (mixQ openQ q u.1) n u.2.1 h) ∧ (wOut h w u.2.1)) (fun u => ((mG a (nI n) tx pl st va fy fa ry se (nI u.1) (cumQ f (told 5) q u.1) (fbQ q u.1) bo bk) :: (aG c4 (a 2) 18 told) :: (aG c4 (a 1) 204 u.2.1) :: (aG c4 (a 7) 12 u.2.2) :: Ts)) := by
  refine cOv (cc := cX8_goes) (maxL := 8) (by decide) rfl (Nat.le_of_ble_eq_true rfl) rfl ?_
  rintro jp je js jm below meth jc ls args R Q H locs hRf hRl ⟨hx, hb, hml, hr, hts, hown, hlocks, hK, hX⟩ hw hl kr
  have hown : js.vm.findClass RX8 = some jm.cls := hown
  have f_0 := hts (.fieldLink RX8 177 "IceSwayModel" "behind" "I") (by decide +kernel)
  have f_1 := hts (.fieldLink RX8 180 "IceSwayModel" "minutes" "I") (by decide +kernel)
  have f_2 := hts (.fieldLink RX8 183 "IceSwayModel" "firstBroken" "I") (by decide +kernel)
  have f_3 := hts (.fieldLink RX8 60 "IceSwayModel" "yards" "I") (by decide +kernel)
  have f_4 := hts (.fieldLink RX8 7 "IceSwayModel" "w" "[I") (by decide +kernel)
  have f_5 := hts (.fieldLink RX8 13 "IceSwayModel" "told" "[I") (by decide +kernel)
  have f_6 := hts (.fieldLink RX8 33 "IceSwayModel" "behindAt" "[I") (by decide +kernel)
  have hi8 : ∀ w ∈ u_ws RX8 TX8 28, w ∈ wsX8_goes := fun w h => List.mem_cons_of_mem _ (List.mem_append_right _ h)
  refine lv_aload_n hx hb dX8_goes_0 rfl (lv_at hl 0 rfl) ?_
  refine lv_iconst (v := 0) hx hb dX8_goes_1 (by decide) ?_
  refine r_put (T := TX8) (G' := ((mG a (nI n) tx pl st va fy fa ry se 0 mi fb bo bk) :: (aG c4 (a 2) 18 told) :: (aG c4 (a 1) 204 w) :: (aG c4 (a 7) 12 ba) :: Ts)) hx hb hts hi8 tyX8 tyX8_ok nmX8 hown hK hw 0 rfl rfl 16 (by decide) f_0 rfl rfl (Nat.le_of_ble_eq_true rfl) rfl dX8_goes_2 (fun H locs hw => ?_)
  refine lv_aload_n hx hb dX8_goes_5 rfl (lv_at hl 0 rfl) ?_
  refine lv_iconst (v := 0) hx hb dX8_goes_6 (by decide) ?_
  refine r_put (T := TX8) (G' := ((mG a (nI n) tx pl st va fy fa ry se 0 0 fb bo bk) :: (aG c4 (a 2) 18 told) :: (aG c4 (a 1) 204 w) :: (aG c4 (a 7) 12 ba) :: Ts)) hx hb hts hi8 tyX8 tyX8_ok nmX8 hown hK hw 0 rfl rfl 17 (by decide) f_1 rfl rfl (Nat.le_of_ble_eq_true rfl) rfl dX8_goes_7 (fun H locs hw => ?_)
  refine lv_aload_n hx hb dX8_goes_10 rfl (lv_at hl 0 rfl) ?_
  refine lv_iconst (v := (-1)) hx hb dX8_goes_11 (by decide) ?_
  refine r_put (T := TX8) (G' := ((mG a (nI n) tx pl st va fy fa ry se 0 0 (-1) bo bk) :: (aG c4 (a 2) 18 told) :: (aG c4 (a 1) 204 w) :: (aG c4 (a 7) 12 ba) :: Ts)) hx hb hts hi8 tyX8 tyX8_ok nmX8 hown hK hw 0 rfl rfl 18 (by decide) f_2 rfl rfl (Nat.le_of_ble_eq_true rfl) rfl dX8_goes_12 (fun H locs hw => ?_)
  refine lv_iconst (v := 1) hx hb dX8_goes_15 (by decide) ?_
  refine lv_istore (lv' := [(4, .int 1), (0, .ref (a 0)), (1, .int (nI h)), (2, .int t), (3, .int f)]) hx hb dX8_goes_16 hl (by decide) rfl (fun ls hl => ?_)
  refine lv_iconst (v := 0) hx hb dX8_goes_18 (by decide) ?_
  refine lv_istore (lv' := [(5, .int 0), (4, .int 1), (0, .ref (a 0)), (1, .int (nI h)), (2, .int t), (3, .int f)]) hx hb dX8_goes_19 hl (by decide) rfl (fun ls hl => ?_)
  have loop_21 : ∀ (fuel : Nat) (g1 : Int32) (k : Nat) (bb : Nat) (w1 : Nat → Int32) (ba1 : Nat → Int32), (n - k) < fuel → (k ≤ n) → (g1 = 1 ∨ g1 = 0) → (¬ g1 = 0 → k = bb ∧ bhQ f (told 5) t q k = k) → (g1 = 0 → bb = bhQ f (told 5) t q n) → (mY (mixQ openQ q bb) n w1 h) → (wOut h w w1) → (∀ j, j < bb → ba1 j = cumQ f (told 5) q (j + 1)) → ∀ (H : Heap) (locs : List Loc), gW D A js.heap ((mG a (nI n) tx pl st va fy fa ry se (nI bb) (cumQ f (told 5) q bb) (fbQ q bb) bo bk) :: (aG c4 (a 2) 18 told) :: (aG c4 (a 1) 204 w1) :: (aG c4 (a 7) 12 ba1) :: Ts) H locs → ∀ (ls : Array Slot), lv_has ls 8 [(5, .int (nI k)), (4, .int g1), (0, .ref (a 0)), (1, .int (nI h)), (2, .int t), (3, .int f)] → W jp l je R js jm args below meth jc H locs 0 0 Q (F0 jm 21 ls []) := by
    intro fuel
    induction fuel with
    | zero => intro g1 k bb w1 ba1 hm; exact absurd hm (Nat.not_lt_zero _)
    | succ fuel ih_21 =>
      intro g1 k bb w1 ba1 hm_21 hk hg hT hF hM hO hba H locs hw ls hl
      refine lv_iload hx hb dX8_goes_21 (lv_at hl 0 rfl) ?_
      refine lv_aload_n hx hb dX8_goes_23 rfl (lv_at hl 2 rfl) ?_
      refine r_get (T := TX8) (v := .int (nI n)) hx hb hts hi8 hown hK hw 0 rfl rfl 2 (by decide) f_3 rfl dX8_goes_24 ?_
      refine r_cge hx hb k n (by omega) (by omega) (tgt := 255) dX8_goes_27 (by decide) (fun c_27 => ?_) (fun c_27 => ?_)
      · exact kr (bb, w1, ba1) _ _ _ _ hw ⟨(by by_cases c : g1 = 0; { exact hF c }; { have z := hT c; rw [show n = k by omega, z.2]; exact z.1.symm }), hba, hM, hO⟩ dX8_goes_255
      · refine lv_iload hx hb dX8_goes_30 (lv_at hl 1 rfl) ?_
        refine lv_if_eq (tgt := 255) hx hb dX8_goes_32 (by decide) (fun c_32 => ?_) (fun c_32 => ?_)
        · exact kr (bb, w1, ba1) _ _ _ _ hw ⟨(hF c_32), hba, hM, hO⟩ dX8_goes_255
        · obtain ⟨hbk, hbq⟩ := hT c_32
          subst hbk
          have hr := hM.am c_27
          refine lv_aload_n hx hb dX8_goes_35 rfl (lv_at hl 2 rfl) ?_
          refine r_get (T := TX8) (v := .ref (a 1)) hx hb hts hi8 hown hK hw 0 rfl rfl 0 (by decide) f_4 rfl dX8_goes_36 ?_
          refine lv_iload_n hx hb dX8_goes_39 rfl (lv_at hl 3 rfl) ?_
          refine lv_iconst (v := 0) hx hb dX8_goes_40 (by decide) ?_
          refine r_addN hx hb h 0 dX8_goes_41 ?_
          refine lv_iload hx hb dX8_goes_42 (lv_at hl 0 rfl) ?_
          refine r_addN hx hb (h + 0) k dX8_goes_44 ?_
          refine r_iald hx hb hK hw 2 0 rfl rfl (h + 0 + k) (by omega) (by decide) dX8_goes_45 ?_
          refine r_top (y := qI (q k)) hr.1 ?_
          refine lv_istore (lv' := [(6, .int (qI (q k))), (5, .int (nI k)), (4, .int g1), (0, .ref (a 0)), (1, .int (nI h)), (2, .int t), (3, .int f)]) hx hb dX8_goes_46 hl (by decide) rfl (fun ls hl => ?_)
          refine lv_iload hx hb dX8_goes_48 (lv_at hl 0 rfl) ?_
          have kj_50 : ∀ (w_1 : Int32) (ls : Array Slot), w_1 = (if (qI (q k)) = 0 then 1 else (1 + ((10 * (qI (q k))) / f))) → lv_has ls 8 [(6, .int (qI (q k))), (5, .int (nI k)), (4, .int g1), (0, .ref (a 0)), (1, .int (nI h)), (2, .int t), (3, .int f)] → W jp l je R js jm args below meth jc H locs 0 0 Q (F0 jm 66 ls [.int w_1]) := by
            intro w_1 ls e_w_1 hl
            subst e_w_1
            refine lv_istore (lv' := [(7, .int (if (qI (q k)) = 0 then 1 else (1 + ((10 * (qI (q k))) / f)))), (6, .int (qI (q k))), (5, .int (nI k)), (4, .int g1), (0, .ref (a 0)), (1, .int (nI h)), (2, .int t), (3, .int f)]) hx hb dX8_goes_66 hl (by decide) rfl (fun ls hl => ?_)
            refine lv_iload hx hb dX8_goes_68 (lv_at hl 1 rfl) ?_
            refine lv_iload_n hx hb dX8_goes_70 rfl (lv_at hl 7 rfl) ?_
            have kj_71 : ∀ (w_2 : Int32) (ls : Array Slot), w_2 = (if (qI (q k)) ≤ f then (if (qI (q k)) = 0 then 1 else (1 + ((10 * (qI (q k))) / f))) else (2 * (if (qI (q k)) = 0 then 1 else (1 + ((10 * (qI (q k))) / f))))) → lv_has ls 8 [(7, .int (if (qI (q k)) = 0 then 1 else (1 + ((10 * (qI (q k))) / f)))), (6, .int (qI (q k))), (5, .int (nI k)), (4, .int g1), (0, .ref (a 0)), (1, .int (nI h)), (2, .int t), (3, .int f)] → W jp l je R js jm args below meth jc H locs 0 0 Q (F0 jm 83 ls [.int w_2]) := by
              intro w_2 ls e_w_2 hl
              subst e_w_2
              refine lv_istore (lv' := [(7, .int (if (qI (q k)) ≤ f then (if (qI (q k)) = 0 then 1 else (1 + ((10 * (qI (q k))) / f))) else (2 * (if (qI (q k)) = 0 then 1 else (1 + ((10 * (qI (q k))) / f)))))), (6, .int (qI (q k))), (5, .int (nI k)), (4, .int g1), (0, .ref (a 0)), (1, .int (nI h)), (2, .int t), (3, .int f)]) hx hb dX8_goes_83 hl (by decide) rfl (fun ls hl => ?_)
              refine lv_iload hx hb dX8_goes_85 (lv_at hl 0 rfl) ?_
              refine lv_iload hx hb dX8_goes_87 (lv_at hl 1 rfl) ?_
              have kj_89 : ∀ (w_3 : Int32) (ls : Array Slot), w_3 = (if (qI (q k)) ≤ 0 then 0 else (if (w1 (h + 12 + k)) = 2 then (told 5) else 0)) → lv_has ls 8 [(7, .int (if (qI (q k)) ≤ f then (if (qI (q k)) = 0 then 1 else (1 + ((10 * (qI (q k))) / f))) else (2 * (if (qI (q k)) = 0 then 1 else (1 + ((10 * (qI (q k))) / f)))))), (6, .int (qI (q k))), (5, .int (nI k)), (4, .int g1), (0, .ref (a 0)), (1, .int (nI h)), (2, .int t), (3, .int f)] → W jp l je R js jm args below meth jc H locs 0 0 Q (F0 jm 118 ls [.int w_3, .int (if (qI (q k)) ≤ f then (if (qI (q k)) = 0 then 1 else (1 + ((10 * (qI (q k))) / f))) else (2 * (if (qI (q k)) = 0 then 1 else (1 + ((10 * (qI (q k))) / f)))))]) := by
                intro w_3 ls e_w_3 hl
                subst e_w_3
                refine lv_iadd hx hb dX8_goes_118 ?_
                refine r_top (y := tkQ f (told 5) (q k)) (by rw [hr.2]; exact mtk_eq (hY k c_27).1.1 hf) ?_
                refine lv_istore (lv' := [(7, .int (tkQ f (told 5) (q k))), (6, .int (qI (q k))), (5, .int (nI k)), (4, .int g1), (0, .ref (a 0)), (1, .int (nI h)), (2, .int t), (3, .int f)]) hx hb dX8_goes_119 hl (by decide) rfl (fun ls hl => ?_)
                refine lv_iload hx hb dX8_goes_121 (lv_at hl 1 rfl) ?_
                refine lv_iconst (v := 2) hx hb dX8_goes_123 (by decide) ?_
                refine lv_iload_n hx hb dX8_goes_124 rfl (lv_at hl 7 rfl) ?_
                refine lv_imul hx hb dX8_goes_125 ?_
                refine lv_icmp_gt (tgt := 144) hx hb dX8_goes_126 (by decide) (fun c_126 => ?_) (fun c_126 => ?_)
                · refine lv_iconst (v := 0) hx hb dX8_goes_144 (by decide) ?_
                  refine lv_istore (lv' := [(4, .int 0), (7, .int (tkQ f (told 5) (q k))), (6, .int (qI (q k))), (5, .int (nI k)), (0, .ref (a 0)), (1, .int (nI h)), (2, .int t), (3, .int f)]) hx hb dX8_goes_145 hl (by decide) rfl (fun ls hl => ?_)
                  refine lv_iload hx hb dX8_goes_147 (lv_at hl 0 rfl) ?_
                  refine lv_if_eq (tgt := 249) hx hb dX8_goes_149 (by decide) (fun c_149 => ?_) (fun c_149 => ?_)
                  · refine lv_iinc (v := (nI (k + 1))) (lv' := [(5, .int (nI (k + 1))), (4, .int 0), (7, .int (tkQ f (told 5) (q k))), (6, .int (qI (q k))), (0, .ref (a 0)), (1, .int (nI h)), (2, .int t), (3, .int f)]) hx hb dX8_goes_249 hl (k := 3) rfl (nI_add _ _) (by decide) rfl (fun ls hl => ?_)
                    refine lv_goto (tgt := 21) hx hb dX8_goes_252 (by decide) ?_
                    exact ih_21 0 (k + 1) k w1 ba1 (by omega) (by omega) (Or.inr rfl) (fun z => absurd rfl z) (fun _ => bh_stop' hbq (fun z => z.1 c_126) c_27) hM hO hba _ _ hw ls (lv_sub hl [0, 1, 4, 5, 6, 7] rfl)
                  · exact absurd c_149 (by decide)
                · refine lv_aload_n hx hb dX8_goes_129 rfl (lv_at hl 4 rfl) ?_
                  refine r_get (T := TX8) (v := .int (cumQ f (told 5) q k)) hx hb hts hi8 hown hK hw 0 rfl rfl 17 (by decide) f_1 rfl dX8_goes_130 ?_
                  refine lv_iload hx hb dX8_goes_133 (lv_at hl 0 rfl) ?_
                  refine lv_iadd hx hb dX8_goes_135 ?_
                  refine lv_iload_n hx hb dX8_goes_136 rfl (lv_at hl 6 rfl) ?_
                  refine lv_icmp_gt (tgt := 144) hx hb dX8_goes_137 (by decide) (fun c_137 => ?_) (fun c_137 => ?_)
                  · refine lv_iconst (v := 0) hx hb dX8_goes_144 (by decide) ?_
                    refine lv_istore (lv' := [(4, .int 0), (7, .int (tkQ f (told 5) (q k))), (6, .int (qI (q k))), (5, .int (nI k)), (0, .ref (a 0)), (1, .int (nI h)), (2, .int t), (3, .int f)]) hx hb dX8_goes_145 hl (by decide) rfl (fun ls hl => ?_)
                    refine lv_iload hx hb dX8_goes_147 (lv_at hl 0 rfl) ?_
                    refine lv_if_eq (tgt := 249) hx hb dX8_goes_149 (by decide) (fun c_149 => ?_) (fun c_149 => ?_)
                    · refine lv_iinc (v := (nI (k + 1))) (lv' := [(5, .int (nI (k + 1))), (4, .int 0), (7, .int (tkQ f (told 5) (q k))), (6, .int (qI (q k))), (0, .ref (a 0)), (1, .int (nI h)), (2, .int t), (3, .int f)]) hx hb dX8_goes_249 hl (k := 3) rfl (nI_add _ _) (by decide) rfl (fun ls hl => ?_)
                      refine lv_goto (tgt := 21) hx hb dX8_goes_252 (by decide) ?_
                      exact ih_21 0 (k + 1) k w1 ba1 (by omega) (by omega) (Or.inr rfl) (fun z => absurd rfl z) (fun _ => bh_stop' hbq (fun z => z.2 c_137) c_27) hM hO hba _ _ hw ls (lv_sub hl [0, 1, 4, 5, 6, 7] rfl)
                    · exact absurd c_149 (by decide)
                  · refine lv_iconst (v := 1) hx hb dX8_goes_140 (by decide) ?_
                    refine lv_goto (tgt := 145) hx hb dX8_goes_141 (by decide) ?_
                    refine lv_istore (lv' := [(4, .int 1), (7, .int (tkQ f (told 5) (q k))), (6, .int (qI (q k))), (5, .int (nI k)), (0, .ref (a 0)), (1, .int (nI h)), (2, .int t), (3, .int f)]) hx hb dX8_goes_145 hl (by decide) rfl (fun ls hl => ?_)
                    refine lv_iload hx hb dX8_goes_147 (lv_at hl 0 rfl) ?_
                    refine lv_if_eq (tgt := 249) hx hb dX8_goes_149 (by decide) (fun c_149 => ?_) (fun c_149 => ?_)
                    · exact absurd c_149 (by decide)
                    · refine lv_aload_n hx hb dX8_goes_152 rfl (lv_at hl 4 rfl) ?_
                      refine lv_dup hx hb dX8_goes_153 rfl ?_
                      refine r_get (T := TX8) (v := .int (cumQ f (told 5) q k)) hx hb hts hi8 hown hK hw 0 rfl rfl 17 (by decide) f_1 rfl dX8_goes_154 ?_
                      refine lv_iload hx hb dX8_goes_157 (lv_at hl 1 rfl) ?_
                      refine lv_iadd hx hb dX8_goes_159 ?_
                      refine r_top (y := cumQ f (told 5) q (k + 1)) rfl ?_
                      refine r_put (T := TX8) (G' := ((mG a (nI n) tx pl st va fy fa ry se (nI k) (cumQ f (told 5) q (k + 1)) (fbQ q k) bo bk) :: (aG c4 (a 2) 18 told) :: (aG c4 (a 1) 204 w1) :: (aG c4 (a 7) 12 ba1) :: Ts)) hx hb hts hi8 tyX8 tyX8_ok nmX8 hown hK hw 0 rfl rfl 17 (by decide) f_1 rfl rfl (Nat.le_of_ble_eq_true rfl) rfl dX8_goes_160 (fun H locs hw => ?_)
                      refine lv_aload_n hx hb dX8_goes_163 rfl (lv_at hl 4 rfl) ?_
                      refine r_get (T := TX8) (v := .ref (a 7)) hx hb hts hi8 hown hK hw 0 rfl rfl 15 (by decide) f_6 rfl dX8_goes_164 ?_
                      refine lv_iload hx hb dX8_goes_167 (lv_at hl 3 rfl) ?_
                      refine lv_aload_n hx hb dX8_goes_169 rfl (lv_at hl 4 rfl) ?_
                      refine r_get (T := TX8) (v := .int (cumQ f (told 5) q (k + 1))) hx hb hts hi8 hown hK hw 0 rfl rfl 17 (by decide) f_1 rfl dX8_goes_170 ?_
                      refine r_iast (G' := ((mG a (nI n) tx pl st va fy fa ry se (nI k) (cumQ f (told 5) q (k + 1)) (fbQ q k) bo bk) :: (aG c4 (a 2) 18 told) :: (aG c4 (a 1) 204 w1) :: (aG c4 (a 7) 12 (upd ba1 k (cumQ f (told 5) q (k + 1)))) :: Ts)) hx hb hK hw 3 0 rfl rfl k (by omega) (by decide) rfl dX8_goes_173 (fun H locs hw => ?_)
                      refine lv_aload_n hx hb dX8_goes_174 rfl (lv_at hl 4 rfl) ?_
                      refine lv_dup hx hb dX8_goes_175 rfl ?_
                      refine r_get (T := TX8) (v := .int (nI k)) hx hb hts hi8 hown hK hw 0 rfl rfl 16 (by decide) f_0 rfl dX8_goes_176 ?_
                      refine lv_iconst (v := 1) hx hb dX8_goes_179 (by decide) ?_
                      refine r_addN hx hb k 1 dX8_goes_180 ?_
                      refine r_put (T := TX8) (G' := ((mG a (nI n) tx pl st va fy fa ry se (nI (k + 1)) (cumQ f (told 5) q (k + 1)) (fbQ q k) bo bk) :: (aG c4 (a 2) 18 told) :: (aG c4 (a 1) 204 w1) :: (aG c4 (a 7) 12 (upd ba1 k (cumQ f (told 5) q (k + 1)))) :: Ts)) hx hb hts hi8 tyX8 tyX8_ok nmX8 hown hK hw 0 rfl rfl 16 (by decide) f_0 rfl rfl (Nat.le_of_ble_eq_true rfl) rfl dX8_goes_181 (fun H locs hw => ?_)
                      refine lv_iload hx hb dX8_goes_184 (lv_at hl 2 rfl) ?_
                      refine lv_if_le (tgt := 249) hx hb dX8_goes_186 (by decide) (fun c_186 => ?_) (fun c_186 => ?_)
                      · refine lv_iinc (v := (nI (k + 1))) (lv' := [(5, .int (nI (k + 1))), (4, .int 1), (7, .int (tkQ f (told 5) (q k))), (6, .int (qI (q k))), (0, .ref (a 0)), (1, .int (nI h)), (2, .int t), (3, .int f)]) hx hb dX8_goes_249 hl (k := 3) rfl (nI_add _ _) (by decide) rfl (fun ls hl => ?_)
                        refine lv_goto (tgt := 21) hx hb dX8_goes_252 (by decide) ?_
                        rw [show (fbQ q k) = (fbQ q (k + 1)) from (fb_b rfl c_186)] at hw
                        exact ih_21 1 (k + 1) (k + 1) w1 (upd ba1 k (cumQ f (told 5) q (k + 1))) (by omega) (by omega) (Or.inl rfl) (fun _ => ⟨rfl, bh_go hbq ⟨c_126, c_137⟩⟩) (fun z => absurd z (by decide)) (mo_no hM c_186) hO (mba_step hba) _ _ hw ls (lv_sub hl [0, 1, 4, 5, 6, 7] rfl)
                      · refine lv_aload_n hx hb dX8_goes_189 rfl (lv_at hl 4 rfl) ?_
                        refine lv_aload_n hx hb dX8_goes_190 rfl (lv_at hl 4 rfl) ?_
                        refine r_get (T := TX8) (v := .int (fbQ q k)) hx hb hts hi8 hown hK hw 0 rfl rfl 18 (by decide) f_2 rfl dX8_goes_191 ?_
                        refine lv_iconst (v := (-1)) hx hb dX8_goes_194 (by decide) ?_
                        refine lv_icmp_ne (tgt := 203) hx hb dX8_goes_195 (by decide) (fun c_195 => ?_) (fun c_195 => ?_)
                        · refine lv_aload_n hx hb dX8_goes_203 rfl (lv_at hl 4 rfl) ?_
                          refine r_get (T := TX8) (v := .int (fbQ q k)) hx hb hts hi8 hown hK hw 0 rfl rfl 18 (by decide) f_2 rfl dX8_goes_204 ?_
                          refine r_put (T := TX8) (G' := ((mG a (nI n) tx pl st va fy fa ry se (nI (k + 1)) (cumQ f (told 5) q (k + 1)) (fbQ q k) bo bk) :: (aG c4 (a 2) 18 told) :: (aG c4 (a 1) 204 w1) :: (aG c4 (a 7) 12 (upd ba1 k (cumQ f (told 5) q (k + 1)))) :: Ts)) hx hb hts hi8 tyX8 tyX8_ok nmX8 hown hK hw 0 rfl rfl 18 (by decide) f_2 rfl rfl (Nat.le_of_ble_eq_true rfl) rfl dX8_goes_207 (fun H locs hw => ?_)
                          refine lv_aload_n hx hb dX8_goes_210 rfl (lv_at hl 4 rfl) ?_
                          refine r_get (T := TX8) (v := .ref (a 1)) hx hb hts hi8 hown hK hw 0 rfl rfl 0 (by decide) f_4 rfl dX8_goes_211 ?_
                          refine lv_iload_n hx hb dX8_goes_214 rfl (lv_at hl 5 rfl) ?_
                          refine lv_bipush (v := 24) hx hb dX8_goes_215 (by decide) ?_
                          refine r_addN hx hb h 24 dX8_goes_217 ?_
                          refine lv_iload hx hb dX8_goes_218 (lv_at hl 3 rfl) ?_
                          refine r_addN hx hb (h + 24) k dX8_goes_220 ?_
                          refine lv_iload hx hb dX8_goes_221 (lv_at hl 2 rfl) ?_
                          refine r_iast (G' := ((mG a (nI n) tx pl st va fy fa ry se (nI (k + 1)) (cumQ f (told 5) q (k + 1)) (fbQ q k) bo bk) :: (aG c4 (a 2) 18 told) :: (aG c4 (a 1) 204 (upd w1 (h + 24 + k) (qI (q k)))) :: (aG c4 (a 7) 12 (upd ba1 k (cumQ f (told 5) q (k + 1)))) :: Ts)) hx hb hK hw 2 0 rfl rfl (h + 24 + k) (by omega) (by decide) rfl dX8_goes_223 (fun H locs hw => ?_)
                          refine lv_aload_n hx hb dX8_goes_224 rfl (lv_at hl 4 rfl) ?_
                          refine r_get (T := TX8) (v := .ref (a 1)) hx hb hts hi8 hown hK hw 0 rfl rfl 0 (by decide) f_4 rfl dX8_goes_225 ?_
                          refine lv_iload_n hx hb dX8_goes_228 rfl (lv_at hl 5 rfl) ?_
                          refine lv_iconst (v := 0) hx hb dX8_goes_229 (by decide) ?_
                          refine r_addN hx hb h 0 dX8_goes_230 ?_
                          refine lv_iload hx hb dX8_goes_231 (lv_at hl 3 rfl) ?_
                          refine r_addN hx hb (h + 0) k dX8_goes_233 ?_
                          refine lv_iconst (v := 0) hx hb dX8_goes_234 (by decide) ?_
                          refine r_iast (G' := ((mG a (nI n) tx pl st va fy fa ry se (nI (k + 1)) (cumQ f (told 5) q (k + 1)) (fbQ q k) bo bk) :: (aG c4 (a 2) 18 told) :: (aG c4 (a 1) 204 (upd (upd w1 (h + 24 + k) (qI (q k))) (h + 0 + k) 0)) :: (aG c4 (a 7) 12 (upd ba1 k (cumQ f (told 5) q (k + 1)))) :: Ts)) hx hb hK hw 2 0 rfl rfl (h + 0 + k) (by omega) (by decide) rfl dX8_goes_235 (fun H locs hw => ?_)
                          refine lv_aload_n hx hb dX8_goes_236 rfl (lv_at hl 4 rfl) ?_
                          refine r_get (T := TX8) (v := .ref (a 1)) hx hb hts hi8 hown hK hw 0 rfl rfl 0 (by decide) f_4 rfl dX8_goes_237 ?_
                          refine lv_iload_n hx hb dX8_goes_240 rfl (lv_at hl 5 rfl) ?_
                          refine lv_bipush (v := 36) hx hb dX8_goes_241 (by decide) ?_
                          refine r_addN hx hb h 36 dX8_goes_243 ?_
                          refine lv_iload hx hb dX8_goes_244 (lv_at hl 3 rfl) ?_
                          refine r_addN hx hb (h + 36) k dX8_goes_246 ?_
                          refine lv_iconst (v := 1) hx hb dX8_goes_247 (by decide) ?_
                          refine r_iast (G' := ((mG a (nI n) tx pl st va fy fa ry se (nI (k + 1)) (cumQ f (told 5) q (k + 1)) (fbQ q k) bo bk) :: (aG c4 (a 2) 18 told) :: (aG c4 (a 1) 204 (upd (upd (upd w1 (h + 24 + k) (qI (q k))) (h + 0 + k) 0) (h + 36 + k) 1)) :: (aG c4 (a 7) 12 (upd ba1 k (cumQ f (told 5) q (k + 1)))) :: Ts)) hx hb hK hw 2 0 rfl rfl (h + 36 + k) (by omega) (by decide) rfl dX8_goes_248 (fun H locs hw => ?_)
                          refine lv_iinc (v := (nI (k + 1))) (lv' := [(5, .int (nI (k + 1))), (4, .int 1), (7, .int (tkQ f (told 5) (q k))), (6, .int (qI (q k))), (0, .ref (a 0)), (1, .int (nI h)), (2, .int t), (3, .int f)]) hx hb dX8_goes_249 hl (k := 3) rfl (nI_add _ _) (by decide) rfl (fun ls hl => ?_)
                          refine lv_goto (tgt := 21) hx hb dX8_goes_252 (by decide) ?_
                          rw [show (fbQ q k) = (fbQ q (k + 1)) from (fb_a c_195)] at hw
                          exact ih_21 1 (k + 1) (k + 1) (upd (upd (upd w1 (h + 24 + k) (qI (q k))) (h + 0 + k) 0) (h + 36 + k) 1) (upd ba1 k (cumQ f (told 5) q (k + 1))) (by omega) (by omega) (Or.inl rfl) (fun _ => ⟨rfl, bh_go hbq ⟨c_126, c_137⟩⟩) (fun z => absurd z (by decide)) (mo_yes hn c_27 hM c_186) (((hO.up (by omega) (by omega)).up (by omega) (by omega)).up (by omega) (by omega)) (mba_step hba) _ _ hw ls (lv_sub hl [0, 1, 4, 5, 6, 7] rfl)
                        · refine lv_iload hx hb dX8_goes_198 (lv_at hl 3 rfl) ?_
                          refine lv_goto (tgt := 207) hx hb dX8_goes_200 (by decide) ?_
                          refine r_put (T := TX8) (G' := ((mG a (nI n) tx pl st va fy fa ry se (nI (k + 1)) (cumQ f (told 5) q (k + 1)) (nI k) bo bk) :: (aG c4 (a 2) 18 told) :: (aG c4 (a 1) 204 w1) :: (aG c4 (a 7) 12 (upd ba1 k (cumQ f (told 5) q (k + 1)))) :: Ts)) hx hb hts hi8 tyX8 tyX8_ok nmX8 hown hK hw 0 rfl rfl 18 (by decide) f_2 rfl rfl (Nat.le_of_ble_eq_true rfl) rfl dX8_goes_207 (fun H locs hw => ?_)
                          refine lv_aload_n hx hb dX8_goes_210 rfl (lv_at hl 4 rfl) ?_
                          refine r_get (T := TX8) (v := .ref (a 1)) hx hb hts hi8 hown hK hw 0 rfl rfl 0 (by decide) f_4 rfl dX8_goes_211 ?_
                          refine lv_iload_n hx hb dX8_goes_214 rfl (lv_at hl 5 rfl) ?_
                          refine lv_bipush (v := 24) hx hb dX8_goes_215 (by decide) ?_
                          refine r_addN hx hb h 24 dX8_goes_217 ?_
                          refine lv_iload hx hb dX8_goes_218 (lv_at hl 3 rfl) ?_
                          refine r_addN hx hb (h + 24) k dX8_goes_220 ?_
                          refine lv_iload hx hb dX8_goes_221 (lv_at hl 2 rfl) ?_
                          refine r_iast (G' := ((mG a (nI n) tx pl st va fy fa ry se (nI (k + 1)) (cumQ f (told 5) q (k + 1)) (nI k) bo bk) :: (aG c4 (a 2) 18 told) :: (aG c4 (a 1) 204 (upd w1 (h + 24 + k) (qI (q k)))) :: (aG c4 (a 7) 12 (upd ba1 k (cumQ f (told 5) q (k + 1)))) :: Ts)) hx hb hK hw 2 0 rfl rfl (h + 24 + k) (by omega) (by decide) rfl dX8_goes_223 (fun H locs hw => ?_)
                          refine lv_aload_n hx hb dX8_goes_224 rfl (lv_at hl 4 rfl) ?_
                          refine r_get (T := TX8) (v := .ref (a 1)) hx hb hts hi8 hown hK hw 0 rfl rfl 0 (by decide) f_4 rfl dX8_goes_225 ?_
                          refine lv_iload_n hx hb dX8_goes_228 rfl (lv_at hl 5 rfl) ?_
                          refine lv_iconst (v := 0) hx hb dX8_goes_229 (by decide) ?_
                          refine r_addN hx hb h 0 dX8_goes_230 ?_
                          refine lv_iload hx hb dX8_goes_231 (lv_at hl 3 rfl) ?_
                          refine r_addN hx hb (h + 0) k dX8_goes_233 ?_
                          refine lv_iconst (v := 0) hx hb dX8_goes_234 (by decide) ?_
                          refine r_iast (G' := ((mG a (nI n) tx pl st va fy fa ry se (nI (k + 1)) (cumQ f (told 5) q (k + 1)) (nI k) bo bk) :: (aG c4 (a 2) 18 told) :: (aG c4 (a 1) 204 (upd (upd w1 (h + 24 + k) (qI (q k))) (h + 0 + k) 0)) :: (aG c4 (a 7) 12 (upd ba1 k (cumQ f (told 5) q (k + 1)))) :: Ts)) hx hb hK hw 2 0 rfl rfl (h + 0 + k) (by omega) (by decide) rfl dX8_goes_235 (fun H locs hw => ?_)
                          refine lv_aload_n hx hb dX8_goes_236 rfl (lv_at hl 4 rfl) ?_
                          refine r_get (T := TX8) (v := .ref (a 1)) hx hb hts hi8 hown hK hw 0 rfl rfl 0 (by decide) f_4 rfl dX8_goes_237 ?_
                          refine lv_iload_n hx hb dX8_goes_240 rfl (lv_at hl 5 rfl) ?_
                          refine lv_bipush (v := 36) hx hb dX8_goes_241 (by decide) ?_
                          refine r_addN hx hb h 36 dX8_goes_243 ?_
                          refine lv_iload hx hb dX8_goes_244 (lv_at hl 3 rfl) ?_
                          refine r_addN hx hb (h + 36) k dX8_goes_246 ?_
                          refine lv_iconst (v := 1) hx hb dX8_goes_247 (by decide) ?_
                          refine r_iast (G' := ((mG a (nI n) tx pl st va fy fa ry se (nI (k + 1)) (cumQ f (told 5) q (k + 1)) (nI k) bo bk) :: (aG c4 (a 2) 18 told) :: (aG c4 (a 1) 204 (upd (upd (upd w1 (h + 24 + k) (qI (q k))) (h + 0 + k) 0) (h + 36 + k) 1)) :: (aG c4 (a 7) 12 (upd ba1 k (cumQ f (told 5) q (k + 1)))) :: Ts)) hx hb hK hw 2 0 rfl rfl (h + 36 + k) (by omega) (by decide) rfl dX8_goes_248 (fun H locs hw => ?_)
                          refine lv_iinc (v := (nI (k + 1))) (lv' := [(5, .int (nI (k + 1))), (4, .int 1), (7, .int (tkQ f (told 5) (q k))), (6, .int (qI (q k))), (0, .ref (a 0)), (1, .int (nI h)), (2, .int t), (3, .int f)]) hx hb dX8_goes_249 hl (k := 3) rfl (nI_add _ _) (by decide) rfl (fun ls hl => ?_)
                          refine lv_goto (tgt := 21) hx hb dX8_goes_252 (by decide) ?_
                          rw [show (nI k) = (fbQ q (k + 1)) from (fb_c rfl c_195 c_186)] at hw
                          exact ih_21 1 (k + 1) (k + 1) (upd (upd (upd w1 (h + 24 + k) (qI (q k))) (h + 0 + k) 0) (h + 36 + k) 1) (upd ba1 k (cumQ f (told 5) q (k + 1))) (by omega) (by omega) (Or.inl rfl) (fun _ => ⟨rfl, bh_go hbq ⟨c_126, c_137⟩⟩) (fun z => absurd z (by decide)) (mo_yes hn c_27 hM c_186) (((hO.up (by omega) (by omega)).up (by omega) (by omega)).up (by omega) (by omega)) (mba_step hba) _ _ hw ls (lv_sub hl [0, 1, 4, 5, 6, 7] rfl)
              refine lv_if_le (tgt := 117) hx hb dX8_goes_89 (by decide) (fun c_89 => ?_) (fun c_89 => ?_)
              · refine lv_iconst (v := 0) hx hb dX8_goes_117 (by decide) ?_
                exact kj_89 _ ls (by first | (rw [if_pos c_89]; done) | (rw [if_pos c_89]) | simp [c_89]) (lv_sub hl [0, 1, 2, 3, 4, 5, 6, 7] rfl)
              · refine lv_aload_n hx hb dX8_goes_92 rfl (lv_at hl 4 rfl) ?_
                refine r_get (T := TX8) (v := .ref (a 1)) hx hb hts hi8 hown hK hw 0 rfl rfl 0 (by decide) f_4 rfl dX8_goes_93 ?_
                refine lv_iload_n hx hb dX8_goes_96 rfl (lv_at hl 5 rfl) ?_
                refine lv_bipush (v := 12) hx hb dX8_goes_97 (by decide) ?_
                refine r_addN hx hb h 12 dX8_goes_99 ?_
                refine lv_iload hx hb dX8_goes_100 (lv_at hl 2 rfl) ?_
                refine r_addN hx hb (h + 12) k dX8_goes_102 ?_
                refine r_iald hx hb hK hw 2 0 rfl rfl (h + 12 + k) (by omega) (by decide) dX8_goes_103 ?_
                refine lv_iconst (v := 2) hx hb dX8_goes_104 (by decide) ?_
                refine lv_icmp_ne (tgt := 117) hx hb dX8_goes_105 (by decide) (fun c_105 => ?_) (fun c_105 => ?_)
                · refine lv_iconst (v := 0) hx hb dX8_goes_117 (by decide) ?_
                  exact kj_89 _ ls (by first | (rw [if_neg c_89, if_neg c_105]; done) | (rw [if_neg c_89, if_neg c_105]) | simp [c_89, c_105]) (lv_sub hl [0, 1, 2, 3, 4, 5, 6, 7] rfl)
                · refine lv_aload_n hx hb dX8_goes_108 rfl (lv_at hl 4 rfl) ?_
                  refine r_get (T := TX8) (v := .ref (a 2)) hx hb hts hi8 hown hK hw 0 rfl rfl 1 (by decide) f_5 rfl dX8_goes_109 ?_
                  refine lv_iconst (v := 5) hx hb dX8_goes_112 (by decide) ?_
                  refine r_iald hx hb hK hw 1 0 rfl rfl 5 (by omega) (by decide) dX8_goes_113 ?_
                  refine lv_goto (tgt := 118) hx hb dX8_goes_114 (by decide) ?_
                  exact kj_89 _ ls (by first | (rw [if_neg c_89, if_pos c_105]; done) | (rw [if_neg c_89, if_pos c_105]) | simp [c_89, c_105]) (lv_sub hl [0, 1, 2, 3, 4, 5, 6, 7] rfl)
            refine lv_icmp_le (tgt := 81) hx hb dX8_goes_71 (by decide) (fun c_71 => ?_) (fun c_71 => ?_)
            · refine lv_iload hx hb dX8_goes_81 (lv_at hl 0 rfl) ?_
              exact kj_71 _ ls (by first | (rw [if_pos c_71]; done) | (rw [if_pos c_71]) | simp [c_71]) (lv_sub hl [0, 1, 2, 3, 4, 5, 6, 7] rfl)
            · refine lv_iconst (v := 2) hx hb dX8_goes_74 (by decide) ?_
              refine lv_iload hx hb dX8_goes_75 (lv_at hl 0 rfl) ?_
              refine lv_imul hx hb dX8_goes_77 ?_
              refine lv_goto (tgt := 83) hx hb dX8_goes_78 (by decide) ?_
              exact kj_71 _ ls (by first | (rw [if_neg c_71]; done) | (rw [if_neg c_71]) | simp [c_71]) (lv_sub hl [0, 1, 2, 3, 4, 5, 6, 7] rfl)
          refine lv_if_ne (tgt := 57) hx hb dX8_goes_50 (by decide) (fun c_50 => ?_) (fun c_50 => ?_)
          · refine lv_iconst (v := 1) hx hb dX8_goes_57 (by decide) ?_
            refine lv_bipush (v := 10) hx hb dX8_goes_58 (by decide) ?_
            refine lv_iload hx hb dX8_goes_60 (lv_at hl 0 rfl) ?_
            refine lv_imul hx hb dX8_goes_62 ?_
            refine lv_iload_n hx hb dX8_goes_63 rfl (lv_at hl 6 rfl) ?_
            refine lv_idiv hx hb dX8_goes_64 (f_nz hf) ?_
            refine lv_iadd hx hb dX8_goes_65 ?_
            exact kj_50 _ ls (by first | (rw [if_neg c_50]; done) | (rw [if_neg c_50]) | simp [c_50]) (lv_sub hl [0, 1, 2, 3, 4, 5, 6] rfl)
          · refine lv_iconst (v := 1) hx hb dX8_goes_53 (by decide) ?_
            refine lv_goto (tgt := 66) hx hb dX8_goes_54 (by decide) ?_
            exact kj_50 _ ls (by first | (rw [if_pos c_50]; done) | (rw [if_pos c_50]) | simp [c_50]) (lv_sub hl [0, 1, 2, 3, 4, 5, 6] rfl)
  exact loop_21 ((n - 0) + 1) 1 0 0 w ba (Nat.lt_succ_self _) (Nat.zero_le _) (Or.inl rfl) (fun _ => ⟨rfl, rfl⟩) (fun z => absurd z (by decide)) (by rw [mixQ_0]; exact hY) (wOut.rf _ _) (fun j h => absurd h (Nat.not_lt_zero j)) _ _ hw ls (lv_sub hl [0, 1, 2, 3, 4, 5] rfl)
