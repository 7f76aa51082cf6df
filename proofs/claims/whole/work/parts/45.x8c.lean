set_option maxHeartbeats 4000000 in
set_option maxRecDepth 100000 in
theorem k_X8_cut (l : Launch) (D : va_G) (c4 : Nat → ClassId) (A : Nat → Prop) (Ts : List va_W) (a : Nat → Nat) (yn : Int32) (ln : Nat) (pl : Int32) (st : Int32) (va : Int32) (fy : Int32) (fa : Int32) (ry : Int32) (se : Int32) (bh : Int32) (mi : Int32) (fb : Int32) (bo : Int32) (bk : Int32) (lt : Nat → Int32) (told : Nat → Int32) (rk : Nat → Int32) (ri : Nat → Int32) (w : Nat → Int32) (kp : Nat → Int32) (hln : ln ≤ 230) (hL : ∀ i, i < ln → ¬ lt i = -1) : Ci l yX8_cut wsX8_cut 6 127 [.ref (a 0)] D (tyA c4) A none ((mG a yn (nI ln) pl st va fy fa ry se bh mi fb bo bk) :: (aG c4 (a 4) 230 lt) :: (aG c4 (a 2) 18 told) :: (aG c4 (a 5) 12 rk) :: (aG c4 (a 6) 12 ri) :: (aG c4 (a 1) 204 w) :: (zG c4 (a 3) 2 kp) :: Ts) (S := Int32 × Int32 × Int32 × Int32 × Int32 × Int32 × Int32 × Int32 × Int32 × Int32 × (Nat → Int32) × (Nat → Int32) × (Nat → Int32) × (Nat → Int32) × (Nat → Int32)) (fun (r : Int32) (u : Int32 × Int32 × Int32 × Int32 × Int32 × Int32 × Int32 × Int32 × Int32 × Int32 × (Nat → Int32) × (Nat → Int32) × (Nat → Int32) × (Nat → Int32) × (Nat → Int32)) => mcuP lt ln w told kp u.2.2.2.2.2.2.2.2.2.2.2.2.2.1 u.2.2.2.2.2.2.2.2.2.2.1 u.2.2.2.2.2.2.2.2.2.2.2.2.2.2 yn bo bk r u.1 u.2.2.2.2.2.2.2.2.1 u.2.2.2.2.2.2.2.2.2.1 u.2.2.2.2.2.1) (fun u => ((mG a u.1 0 u.2.1 u.2.2.1 u.2.2.2.1 u.2.2.2.2.1 u.2.2.2.2.2.1 u.2.2.2.2.2.2.1 u.2.2.2.2.2.2.2.1 bh mi fb u.2.2.2.2.2.2.2.2.1 u.2.2.2.2.2.2.2.2.2.1) :: (aG c4 (a 4) 230 lt) :: (aG c4 (a 2) 18 u.2.2.2.2.2.2.2.2.2.2.1) :: (aG c4 (a 5) 12 u.2.2.2.2.2.2.2.2.2.2.2.1) :: (aG c4 (a 6) 12 u.2.2.2.2.2.2.2.2.2.2.2.2.1) :: (aG c4 (a 1) 204 u.2.2.2.2.2.2.2.2.2.2.2.2.2.1) :: (zG c4 (a 3) 2 u.2.2.2.2.2.2.2.2.2.2.2.2.2.2) :: Ts)) := by
  refine cOi (cc := cX8_cut) (maxL := 4) (by decide) rfl (Nat.le_of_ble_eq_true rfl) rfl ?_
  rintro jp je js jm below meth jc ls args R Q H locs hRf hRl ⟨hx, hb, hml, hr, hts, hown, hlocks, hK, hX⟩ hw hl kr
  have hown : js.vm.findClass RX8 = some jm.cls := hown
  have f_0 := hts (.fieldLink RX8 84 "IceSwayModel" "texted" "I") (by decide +kernel)
  have f_1 := hts (.fieldLink RX8 7 "IceSwayModel" "w" "[I") (by decide +kernel)
  have f_2 := hts (.fieldLink RX8 69 "IceSwayModel" "readYards" "I") (by decide +kernel)
  have f_3 := hts (.fieldLink RX8 60 "IceSwayModel" "yards" "I") (by decide +kernel)
  have f_4 := hts (.fieldLink RX8 27 "IceSwayModel" "readKind" "[I") (by decide +kernel)
  have f_5 := hts (.fieldLink RX8 13 "IceSwayModel" "told" "[I") (by decide +kernel)
  have f_6 := hts (.fieldLink RX8 16 "IceSwayModel" "isKept" "[Z") (by decide +kernel)
  have f_7 := hts (.fieldLink RX8 131 "IceSwayModel" "bored" "I") (by decide +kernel)
  have f_8 := hts (.fieldLink RX8 134 "IceSwayModel" "booked" "I") (by decide +kernel)
  have f_9 := hts (.fieldLink RX8 30 "IceSwayModel" "readIce" "[I") (by decide +kernel)
  have f_10 := hts (.fieldLink RX8 78 "IceSwayModel" "faulty" "I") (by decide +kernel)
  have hi8 : ∀ w ∈ u_ws RX8 TX8 28, w ∈ wsX8_cut := fun w h => List.mem_cons_of_mem _ (List.mem_append_right _ h)
  refine lv_aload_n hx hb dX8_cut_0 rfl (lv_at hl 0 rfl) ?_
  have hw := hw.m2
  have hw := hw.m1
  refine c_vv (As := []) (rest := []) ⟨hx, hb, hml, hown, hts⟩ (k_X8_reads l D c4 A ((aG c4 (a 4) 230 lt) :: (aG c4 (a 5) 12 rk) :: (aG c4 (a 6) 12 ri) :: (aG c4 (a 1) 204 w) :: (zG c4 (a 3) 2 kp) :: Ts) a yn (nI ln) pl st va fy fa ry se bh mi fb bo bk told) (cwV 0 hts gX8_cut_X8_reads rfl rfl rfl (by decide +kernel) (rmv (Nat.le_of_ble_eq_true rfl) (Nat.le_of_ble_eq_true rfl) hRf hRl)) hK trivial hw rfl rfl rfl hl rfl (Nat.le_of_ble_eq_true rfl) ⟨Nat.zero_le _, Nat.zero_le _⟩ dX8_cut_1 (fun u_1 H locs hpq hw => ?_)
  obtain ⟨t2_1, rfl⟩ : ∃ z, z = u_1 := ⟨_, rfl⟩
  have hw : gW D A js.heap ((mG a yn (nI ln) 0 st va 0 (-1) 0 0 bh mi fb bo bk) :: (aG c4 (a 2) 18 t2_1) :: (aG c4 (a 4) 230 lt) :: (aG c4 (a 5) 12 rk) :: (aG c4 (a 6) 12 ri) :: (aG c4 (a 1) 204 w) :: (zG c4 (a 3) 2 kp) :: Ts) H locs := hw
  have hT_1 := hpq
  have hT_1 : toR t2_1 nb0 ∧ loSame told t2_1 := hT_1
  refine lv_iconst (v := 1) hx hb dX8_cut_4 (by decide) ?_
  refine lv_istore_n (lv' := [(1, .int 1), (0, .ref (a 0))]) hx hb dX8_cut_5 rfl hl (by decide) rfl (fun ls hl => ?_)
  have loop_6 : ∀ (fuel : Nat) (g1 : Int32) (p1 : Nat) (st1 : Int32) (va1 : Int32) (fy1 : Int32) (fa1 : Int32) (ry1 : Int32) (sn1 : Int32) (rk1 : Nat → Int32) (ri1 : Nat → Int32) (t1 : Nat → Int32), (if g1 = 0 then 0 else ln - p1 + 1) < fuel → (loSame told t1) → (¬ g1 = 0 → ∃ ys np K, cuG lt ln p1 sn1 ry1 rk1 ri1 t1 ys np K ∧ fa1 = -1) → (g1 = 0 → bad (parse lt ln) fy1 fa1) → ∀ (H : Heap) (locs : List Loc), gW D A js.heap ((mG a yn (nI ln) (nI p1) st1 va1 fy1 fa1 ry1 sn1 bh mi fb bo bk) :: (aG c4 (a 2) 18 t1) :: (aG c4 (a 4) 230 lt) :: (aG c4 (a 5) 12 rk1) :: (aG c4 (a 6) 12 ri1) :: (aG c4 (a 1) 204 w) :: (zG c4 (a 3) 2 kp) :: Ts) H locs → ∀ (ls : Array Slot), lv_has ls 4 [(1, .int g1), (0, .ref (a 0))] → W jp l je R js jm args below meth jc H locs 0 0 Q (F0 jm 6 ls []) := by
    intro fuel
    induction fuel with
    | zero => intro g1 p1 st1 va1 fy1 fa1 ry1 sn1 rk1 ri1 t1 hm; exact absurd hm (Nat.not_lt_zero _)
    | succ fuel ih_6 =>
      intro g1 p1 st1 va1 fy1 fa1 ry1 sn1 rk1 ri1 t1 hm_6 hlo hT hF H locs hw ls hl
      refine lv_iload_n hx hb dX8_cut_6 rfl (lv_at hl 0 rfl) ?_
      have kj_7 : ∀ (p3 : Nat) (st3 : Int32), (¬ g1 = 0 → cuA lt ln ry1 rk1 ri1 t1 fa1) → ∀ (H : Heap) (locs : List Loc), gW D A js.heap ((mG a yn (nI ln) (nI p3) st3 va1 fy1 fa1 ry1 sn1 bh mi fb bo bk) :: (aG c4 (a 2) 18 t1) :: (aG c4 (a 4) 230 lt) :: (aG c4 (a 5) 12 rk1) :: (aG c4 (a 6) 12 ri1) :: (aG c4 (a 1) 204 w) :: (zG c4 (a 3) 2 kp) :: Ts) H locs → ∀ (ls : Array Slot), lv_has ls 4 [(1, .int g1), (0, .ref (a 0))] → W jp l je R js jm args below meth jc H locs 0 0 Q (F0 jm 26 ls []) := by
        intro p3 st3 hA H locs hw ls hl
        refine lv_aload_n hx hb dX8_cut_26 rfl (lv_at hl 1 rfl) ?_
        refine lv_iconst (v := 0) hx hb dX8_cut_27 (by decide) ?_
        refine r_put (T := TX8) (G' := ((mG a yn 0 (nI p3) st3 va1 fy1 fa1 ry1 sn1 bh mi fb bo bk) :: (aG c4 (a 2) 18 t1) :: (aG c4 (a 4) 230 lt) :: (aG c4 (a 5) 12 rk1) :: (aG c4 (a 6) 12 ri1) :: (aG c4 (a 1) 204 w) :: (zG c4 (a 3) 2 kp) :: Ts)) hx hb hts hi8 tyX8 tyX8_ok nmX8 hown hK hw 0 rfl rfl 5 (by decide) f_0 rfl rfl (Nat.le_of_ble_eq_true rfl) rfl dX8_cut_28 (fun H locs hw => ?_)
        refine lv_iload_n hx hb dX8_cut_31 rfl (lv_at hl 0 rfl) ?_
        refine lv_if_ne (tgt := 43) hx hb dX8_cut_32 (by decide) (fun c_32 => ?_) (fun c_32 => ?_)
        · obtain ⟨ys, np, hP1, ery, hrow, ht, hpo, hfa⟩ := hA c_32
          subst ery
          have hn := hpo.2.1
          refine lv_aload_n hx hb dX8_cut_43 rfl (lv_at hl 1 rfl) ?_
          refine r_get (T := TX8) (v := .ref (a 1)) hx hb hts hi8 hown hK hw 0 rfl rfl 0 (by decide) f_1 rfl dX8_cut_44 ?_
          refine lv_bipush (v := 50) hx hb dX8_cut_47 (by decide) ?_
          refine r_iald hx hb hK hw 5 0 rfl rfl 50 (by omega) (by decide) dX8_cut_49 ?_
          refine lv_istore_n (lv' := [(2, .int (w 50)), (1, .int g1), (0, .ref (a 0))]) hx hb dX8_cut_50 rfl hl (by decide) rfl (fun ls hl => ?_)
          refine lv_iconst (v := 0) hx hb dX8_cut_51 (by decide) ?_
          refine lv_istore_n (lv' := [(3, .int 0), (2, .int (w 50)), (1, .int g1), (0, .ref (a 0))]) hx hb dX8_cut_52 rfl hl (by decide) rfl (fun ls hl => ?_)
          have loop_53 : ∀ (fuel : Nat) (i : Nat) (w1 : Nat → Int32), (51 - i) < fuel → (i ≤ 51) → (∀ j, j < i → w1 j = 0) → ∀ (H : Heap) (locs : List Loc), gW D A js.heap ((mG a yn 0 (nI p3) st3 va1 fy1 fa1 (nI ys.length) sn1 bh mi fb bo bk) :: (aG c4 (a 2) 18 t1) :: (aG c4 (a 4) 230 lt) :: (aG c4 (a 5) 12 rk1) :: (aG c4 (a 6) 12 ri1) :: (aG c4 (a 1) 204 w1) :: (zG c4 (a 3) 2 kp) :: Ts) H locs → ∀ (ls : Array Slot), lv_has ls 4 [(3, .int (nI i)), (2, .int (w 50)), (1, .int g1), (0, .ref (a 0))] → W jp l je R js jm args below meth jc H locs 0 0 Q (F0 jm 53 ls []) := by
            intro fuel
            induction fuel with
            | zero => intro i w1 hm; exact absurd hm (Nat.not_lt_zero _)
            | succ fuel ih_53 =>
              intro i w1 hm_53 hi hZ H locs hw ls hl
              refine lv_iload_n hx hb dX8_cut_53 rfl (lv_at hl 0 rfl) ?_
              refine lv_bipush (v := 51) hx hb dX8_cut_54 (by decide) ?_
              refine r_cge hx hb i 51 (by omega) (by omega) (tgt := 72) dX8_cut_56 (by decide) (fun c_56 => ?_) (fun c_56 => ?_)
              · refine lv_aload_n hx hb dX8_cut_72 rfl (lv_at hl 3 rfl) ?_
                refine r_get (T := TX8) (v := .ref (a 1)) hx hb hts hi8 hown hK hw 0 rfl rfl 0 (by decide) f_1 rfl dX8_cut_73 ?_
                refine lv_bipush (v := 50) hx hb dX8_cut_76 (by decide) ?_
                refine lv_iload_n hx hb dX8_cut_78 rfl (lv_at hl 1 rfl) ?_
                refine r_iast (G' := ((mG a yn 0 (nI p3) st3 va1 fy1 fa1 (nI ys.length) sn1 bh mi fb bo bk) :: (aG c4 (a 2) 18 t1) :: (aG c4 (a 4) 230 lt) :: (aG c4 (a 5) 12 rk1) :: (aG c4 (a 6) 12 ri1) :: (aG c4 (a 1) 204 (upd w1 50 (w 50))) :: (zG c4 (a 3) 2 kp) :: Ts)) hx hb hK hw 5 0 rfl rfl 50 (by omega) (by decide) rfl dX8_cut_79 (fun H locs hw => ?_)
                refine lv_aload_n hx hb dX8_cut_80 rfl (lv_at hl 3 rfl) ?_
                refine r_get (T := TX8) (v := .ref (a 1)) hx hb hts hi8 hown hK hw 0 rfl rfl 0 (by decide) f_1 rfl dX8_cut_81 ?_
                refine lv_bipush (v := 48) hx hb dX8_cut_84 (by decide) ?_
                refine lv_iconst (v := 4) hx hb dX8_cut_86 (by decide) ?_
                refine r_iast (G' := ((mG a yn 0 (nI p3) st3 va1 fy1 fa1 (nI ys.length) sn1 bh mi fb bo bk) :: (aG c4 (a 2) 18 t1) :: (aG c4 (a 4) 230 lt) :: (aG c4 (a 5) 12 rk1) :: (aG c4 (a 6) 12 ri1) :: (aG c4 (a 1) 204 (upd (upd w1 50 (w 50)) 48 4)) :: (zG c4 (a 3) 2 kp) :: Ts)) hx hb hK hw 5 0 rfl rfl 48 (by omega) (by decide) rfl dX8_cut_87 (fun H locs hw => ?_)
                refine lv_aload_n hx hb dX8_cut_88 rfl (lv_at hl 3 rfl) ?_
                refine lv_aload_n hx hb dX8_cut_89 rfl (lv_at hl 3 rfl) ?_
                refine r_get (T := TX8) (v := .int (nI ys.length)) hx hb hts hi8 hown hK hw 0 rfl rfl 11 (by decide) f_2 rfl dX8_cut_90 ?_
                refine r_put (T := TX8) (G' := ((mG a (nI ys.length) 0 (nI p3) st3 va1 fy1 fa1 (nI ys.length) sn1 bh mi fb bo bk) :: (aG c4 (a 2) 18 t1) :: (aG c4 (a 4) 230 lt) :: (aG c4 (a 5) 12 rk1) :: (aG c4 (a 6) 12 ri1) :: (aG c4 (a 1) 204 (upd (upd w1 50 (w 50)) 48 4)) :: (zG c4 (a 3) 2 kp) :: Ts)) hx hb hts hi8 tyX8 tyX8_ok nmX8 hown hK hw 0 rfl rfl 2 (by decide) f_3 rfl rfl (Nat.le_of_ble_eq_true rfl) rfl dX8_cut_93 (fun H locs hw => ?_)
                refine lv_iconst (v := 0) hx hb dX8_cut_96 (by decide) ?_
                refine lv_istore_n (lv' := [(3, .int 0), (2, .int (w 50)), (1, .int g1), (0, .ref (a 0))]) hx hb dX8_cut_97 rfl hl (by decide) rfl (fun ls hl => ?_)
                have loop_98 : ∀ (fuel : Nat) (k : Nat) (w3 : Nat → Int32), (ys.length - k) < fuel → (k ≤ ys.length) → (cuI k (w 50) rk1 ri1 w3) → ∀ (H : Heap) (locs : List Loc), gW D A js.heap ((mG a (nI ys.length) 0 (nI p3) st3 va1 fy1 fa1 (nI ys.length) sn1 bh mi fb bo bk) :: (aG c4 (a 2) 18 t1) :: (aG c4 (a 4) 230 lt) :: (aG c4 (a 5) 12 rk1) :: (aG c4 (a 6) 12 ri1) :: (aG c4 (a 1) 204 w3) :: (zG c4 (a 3) 2 kp) :: Ts) H locs → ∀ (ls : Array Slot), lv_has ls 4 [(3, .int (nI k)), (2, .int (w 50)), (1, .int g1), (0, .ref (a 0))] → W jp l je R js jm args below meth jc H locs 0 0 Q (F0 jm 98 ls []) := by
                  intro fuel
                  induction fuel with
                  | zero => intro k w3 hm; exact absurd hm (Nat.not_lt_zero _)
                  | succ fuel ih_98 =>
                    intro k w3 hm_98 hk hI H locs hw ls hl
                    refine lv_iload_n hx hb dX8_cut_98 rfl (lv_at hl 0 rfl) ?_
                    refine lv_aload_n hx hb dX8_cut_99 rfl (lv_at hl 3 rfl) ?_
                    refine r_get (T := TX8) (v := .int (nI ys.length)) hx hb hts hi8 hown hK hw 0 rfl rfl 2 (by decide) f_3 rfl dX8_cut_100 ?_
                    refine r_cge hx hb k ys.length (by omega) (by omega) (tgt := 141) dX8_cut_103 (by decide) (fun c_103 => ?_) (fun c_103 => ?_)
                    · refine lv_iconst (v := 0) hx hb dX8_cut_141 (by decide) ?_
                      refine lv_istore_n (lv' := [(3, .int 0), (2, .int (w 50)), (1, .int g1), (0, .ref (a 0))]) hx hb dX8_cut_142 rfl hl (by decide) rfl (fun ls hl => ?_)
                      have loop_143 : ∀ (fuel : Nat) (m : Nat) (t3 : Nat → Int32), (9 - m) < fuel → (m ≤ 9) → (cuT m t1 t3) → ∀ (H : Heap) (locs : List Loc), gW D A js.heap ((mG a (nI ys.length) 0 (nI p3) st3 va1 fy1 fa1 (nI ys.length) sn1 bh mi fb bo bk) :: (aG c4 (a 2) 18 t3) :: (aG c4 (a 4) 230 lt) :: (aG c4 (a 5) 12 rk1) :: (aG c4 (a 6) 12 ri1) :: (aG c4 (a 1) 204 w3) :: (zG c4 (a 3) 2 kp) :: Ts) H locs → ∀ (ls : Array Slot), lv_has ls 4 [(3, .int (nI m)), (2, .int (w 50)), (1, .int g1), (0, .ref (a 0))] → W jp l je R js jm args below meth jc H locs 0 0 Q (F0 jm 143 ls []) := by
                        intro fuel
                        induction fuel with
                        | zero => intro m t3 hm; exact absurd hm (Nat.not_lt_zero _)
                        | succ fuel ih_143 =>
                          intro m t3 hm_143 hm hU H locs hw ls hl
                          refine lv_iload_n hx hb dX8_cut_143 rfl (lv_at hl 0 rfl) ?_
                          refine lv_bipush (v := 9) hx hb dX8_cut_144 (by decide) ?_
                          refine r_cge hx hb m 9 (by omega) (by omega) (tgt := 170) dX8_cut_146 (by decide) (fun c_146 => ?_) (fun c_146 => ?_)
                          · refine lv_aload_n hx hb dX8_cut_170 rfl (lv_at hl 3 rfl) ?_
                            refine r_get (T := TX8) (v := .ref (a 3)) hx hb hts hi8 hown hK hw 0 rfl rfl 3 (by decide) f_6 rfl dX8_cut_171 ?_
                            refine lv_iconst (v := 0) hx hb dX8_cut_174 (by decide) ?_
                            refine lv_iconst (v := 0) hx hb dX8_cut_175 (by decide) ?_
                            refine r_zast (G' := ((mG a (nI ys.length) 0 (nI p3) st3 va1 fy1 fa1 (nI ys.length) sn1 bh mi fb bo bk) :: (aG c4 (a 2) 18 t3) :: (aG c4 (a 4) 230 lt) :: (aG c4 (a 5) 12 rk1) :: (aG c4 (a 6) 12 ri1) :: (aG c4 (a 1) 204 w3) :: (zG c4 (a 3) 2 (upd kp 0 0)) :: Ts)) hx hb hK hw 6 1 rfl rfl 0 rfl (by omega) (by decide) rfl dX8_cut_176 (fun H locs hw => ?_)
                            refine lv_aload_n hx hb dX8_cut_177 rfl (lv_at hl 3 rfl) ?_
                            refine r_get (T := TX8) (v := .ref (a 3)) hx hb hts hi8 hown hK hw 0 rfl rfl 3 (by decide) f_6 rfl dX8_cut_178 ?_
                            refine lv_iconst (v := 1) hx hb dX8_cut_181 (by decide) ?_
                            refine lv_iconst (v := 0) hx hb dX8_cut_182 (by decide) ?_
                            refine r_zast (G' := ((mG a (nI ys.length) 0 (nI p3) st3 va1 fy1 fa1 (nI ys.length) sn1 bh mi fb bo bk) :: (aG c4 (a 2) 18 t3) :: (aG c4 (a 4) 230 lt) :: (aG c4 (a 5) 12 rk1) :: (aG c4 (a 6) 12 ri1) :: (aG c4 (a 1) 204 w3) :: (zG c4 (a 3) 2 (upd (upd kp 0 0) 1 0)) :: Ts)) hx hb hK hw 6 1 rfl rfl 1 rfl (by omega) (by decide) rfl dX8_cut_183 (fun H locs hw => ?_)
                            refine lv_aload_n hx hb dX8_cut_184 rfl (lv_at hl 3 rfl) ?_
                            refine lv_iconst (v := 0) hx hb dX8_cut_185 (by decide) ?_
                            refine r_put (T := TX8) (G' := ((mG a (nI ys.length) 0 (nI p3) st3 va1 fy1 fa1 (nI ys.length) sn1 bh mi fb 0 bk) :: (aG c4 (a 2) 18 t3) :: (aG c4 (a 4) 230 lt) :: (aG c4 (a 5) 12 rk1) :: (aG c4 (a 6) 12 ri1) :: (aG c4 (a 1) 204 w3) :: (zG c4 (a 3) 2 (upd (upd kp 0 0) 1 0)) :: Ts)) hx hb hts hi8 tyX8 tyX8_ok nmX8 hown hK hw 0 rfl rfl 20 (by decide) f_7 rfl rfl (Nat.le_of_ble_eq_true rfl) rfl dX8_cut_186 (fun H locs hw => ?_)
                            refine lv_aload_n hx hb dX8_cut_189 rfl (lv_at hl 3 rfl) ?_
                            refine lv_iconst (v := 0) hx hb dX8_cut_190 (by decide) ?_
                            refine r_put (T := TX8) (G' := ((mG a (nI ys.length) 0 (nI p3) st3 va1 fy1 fa1 (nI ys.length) sn1 bh mi fb 0 0) :: (aG c4 (a 2) 18 t3) :: (aG c4 (a 4) 230 lt) :: (aG c4 (a 5) 12 rk1) :: (aG c4 (a 6) 12 ri1) :: (aG c4 (a 1) 204 w3) :: (zG c4 (a 3) 2 (upd (upd kp 0 0) 1 0)) :: Ts)) hx hb hts hi8 tyX8 tyX8_ok nmX8 hown hK hw 0 rfl rfl 25 (by decide) f_8 rfl rfl (Nat.le_of_ble_eq_true rfl) rfl dX8_cut_191 (fun H locs hw => ?_)
                            refine lv_aload_n hx hb dX8_cut_194 rfl (lv_at hl 3 rfl) ?_
                            refine r_get (T := TX8) (v := .int (nI ys.length)) hx hb hts hi8 hown hK hw 0 rfl rfl 2 (by decide) f_3 rfl dX8_cut_195 ?_
                            have hw := hw.m6
                            have hw := hw.m6
                            have hw := hw.m6
                            have hw := hw.m6
                            have hw := hw.m5
                            have hw := hw.m6
                            have hw := hw.m6
                            exact kr (nI ys.length) ((nI ys.length), (nI p3), st3, va1, fy1, fa1, (nI ys.length), sn1, 0, 0, t3, rk1, ri1, w3, upd (upd kp 0 0) 1 0) _ _ _ _ hw (Or.inl ⟨ys, np, hP1, rfl, hfa, rfl, cuI_mY hn hpo.1 hrow (by rw [show ys.length = k by omega]; exact hI), fun j hj => (hU.1 j (by omega)).trans (ht j hj), hI.2.2.1, hI.2.2.2.1, hI.2.2.2.2, rfl, rfl, rfl, rfl⟩) dX8_cut_198
                          · refine lv_aload_n hx hb dX8_cut_149 rfl (lv_at hl 3 rfl) ?_
                            refine r_get (T := TX8) (v := .ref (a 2)) hx hb hts hi8 hown hK hw 0 rfl rfl 1 (by decide) f_5 rfl dX8_cut_150 ?_
                            refine lv_iload_n hx hb dX8_cut_153 rfl (lv_at hl 0 rfl) ?_
                            refine lv_aload_n hx hb dX8_cut_154 rfl (lv_at hl 3 rfl) ?_
                            refine r_get (T := TX8) (v := .ref (a 2)) hx hb hts hi8 hown hK hw 0 rfl rfl 1 (by decide) f_5 rfl dX8_cut_155 ?_
                            refine lv_bipush (v := 9) hx hb dX8_cut_158 (by decide) ?_
                            refine lv_iload_n hx hb dX8_cut_160 rfl (lv_at hl 0 rfl) ?_
                            refine r_addN hx hb 9 m dX8_cut_161 ?_
                            refine r_iald hx hb hK hw 1 0 rfl rfl (9 + m) (by omega) (by decide) dX8_cut_162 ?_
                            refine r_iast (G' := ((mG a (nI ys.length) 0 (nI p3) st3 va1 fy1 fa1 (nI ys.length) sn1 bh mi fb bo bk) :: (aG c4 (a 2) 18 (upd t3 m (t3 (9 + m)))) :: (aG c4 (a 4) 230 lt) :: (aG c4 (a 5) 12 rk1) :: (aG c4 (a 6) 12 ri1) :: (aG c4 (a 1) 204 w3) :: (zG c4 (a 3) 2 kp) :: Ts)) hx hb hK hw 1 0 rfl rfl m (by omega) (by decide) rfl dX8_cut_163 (fun H locs hw => ?_)
                            refine lv_iinc (v := (nI (m + 1))) (lv' := [(3, .int (nI (m + 1))), (2, .int (w 50)), (1, .int g1), (0, .ref (a 0))]) hx hb dX8_cut_164 hl (k := 0) rfl (nI_add _ _) (by decide) rfl (fun ls hl => ?_)
                            refine lv_goto (tgt := 143) hx hb dX8_cut_167 (by decide) ?_
                            exact ih_143 (m + 1) (upd t3 m (t3 (9 + m))) (by omega) (by omega) (cuT_s (by omega) hU) _ _ hw ls (lv_sub hl [0, 1, 2, 3] rfl)
                      exact loop_143 ((9 - 0) + 1) 0 t1 (Nat.lt_succ_self _) (Nat.zero_le _) (cuT_0 _) _ _ hw ls (lv_sub hl [0, 1, 2, 3] rfl)
                    · refine lv_aload_n hx hb dX8_cut_106 rfl (lv_at hl 3 rfl) ?_
                      refine r_get (T := TX8) (v := .ref (a 1)) hx hb hts hi8 hown hK hw 0 rfl rfl 0 (by decide) f_1 rfl dX8_cut_107 ?_
                      refine lv_bipush (v := 12) hx hb dX8_cut_110 (by decide) ?_
                      refine lv_iload_n hx hb dX8_cut_112 rfl (lv_at hl 0 rfl) ?_
                      refine r_addN hx hb 12 k dX8_cut_113 ?_
                      refine lv_aload_n hx hb dX8_cut_114 rfl (lv_at hl 3 rfl) ?_
                      refine r_get (T := TX8) (v := .ref (a 5)) hx hb hts hi8 hown hK hw 0 rfl rfl 13 (by decide) f_4 rfl dX8_cut_115 ?_
                      refine lv_iload_n hx hb dX8_cut_118 rfl (lv_at hl 0 rfl) ?_
                      refine r_iald hx hb hK hw 3 0 rfl rfl k (by omega) (by decide) dX8_cut_119 ?_
                      refine r_iast (G' := ((mG a (nI ys.length) 0 (nI p3) st3 va1 fy1 fa1 (nI ys.length) sn1 bh mi fb bo bk) :: (aG c4 (a 2) 18 t1) :: (aG c4 (a 4) 230 lt) :: (aG c4 (a 5) 12 rk1) :: (aG c4 (a 6) 12 ri1) :: (aG c4 (a 1) 204 (upd w3 (12 + k) (rk1 k))) :: (zG c4 (a 3) 2 kp) :: Ts)) hx hb hK hw 5 0 rfl rfl (12 + k) (by omega) (by decide) rfl dX8_cut_120 (fun H locs hw => ?_)
                      refine lv_aload_n hx hb dX8_cut_121 rfl (lv_at hl 3 rfl) ?_
                      refine r_get (T := TX8) (v := .ref (a 1)) hx hb hts hi8 hown hK hw 0 rfl rfl 0 (by decide) f_1 rfl dX8_cut_122 ?_
                      refine lv_iconst (v := 0) hx hb dX8_cut_125 (by decide) ?_
                      refine lv_iload_n hx hb dX8_cut_126 rfl (lv_at hl 0 rfl) ?_
                      refine r_addN hx hb 0 k dX8_cut_127 ?_
                      refine lv_aload_n hx hb dX8_cut_128 rfl (lv_at hl 3 rfl) ?_
                      refine r_get (T := TX8) (v := .ref (a 6)) hx hb hts hi8 hown hK hw 0 rfl rfl 14 (by decide) f_9 rfl dX8_cut_129 ?_
                      refine lv_iload_n hx hb dX8_cut_132 rfl (lv_at hl 0 rfl) ?_
                      refine r_iald hx hb hK hw 4 0 rfl rfl k (by omega) (by decide) dX8_cut_133 ?_
                      refine r_iast (G' := ((mG a (nI ys.length) 0 (nI p3) st3 va1 fy1 fa1 (nI ys.length) sn1 bh mi fb bo bk) :: (aG c4 (a 2) 18 t1) :: (aG c4 (a 4) 230 lt) :: (aG c4 (a 5) 12 rk1) :: (aG c4 (a 6) 12 ri1) :: (aG c4 (a 1) 204 (upd (upd w3 (12 + k) (rk1 k)) (0 + k) (ri1 k))) :: (zG c4 (a 3) 2 kp) :: Ts)) hx hb hK hw 5 0 rfl rfl (0 + k) (by omega) (by decide) rfl dX8_cut_134 (fun H locs hw => ?_)
                      refine lv_iinc (v := (nI (k + 1))) (lv' := [(3, .int (nI (k + 1))), (2, .int (w 50)), (1, .int g1), (0, .ref (a 0))]) hx hb dX8_cut_135 hl (k := 0) rfl (nI_add _ _) (by decide) rfl (fun ls hl => ?_)
                      refine lv_goto (tgt := 98) hx hb dX8_cut_138 (by decide) ?_
                      exact ih_98 (k + 1) (upd (upd w3 (12 + k) (rk1 k)) (0 + k) (ri1 k)) (by omega) (by omega) (by rw [Nat.zero_add]; exact cuI_s (by omega) hI) _ _ hw ls (lv_sub hl [0, 1, 2, 3] rfl)
                exact loop_98 ((ys.length - 0) + 1) 0 (upd (upd w1 50 (w 50)) 48 4) (Nat.lt_succ_self _) (Nat.zero_le _) (cuI_0 (fun j hj => hZ j (by omega))) _ _ hw ls (lv_sub hl [0, 1, 2, 3] rfl)
              · refine lv_aload_n hx hb dX8_cut_59 rfl (lv_at hl 3 rfl) ?_
                refine r_get (T := TX8) (v := .ref (a 1)) hx hb hts hi8 hown hK hw 0 rfl rfl 0 (by decide) f_1 rfl dX8_cut_60 ?_
                refine lv_iload_n hx hb dX8_cut_63 rfl (lv_at hl 0 rfl) ?_
                refine lv_iconst (v := 0) hx hb dX8_cut_64 (by decide) ?_
                refine r_iast (G' := ((mG a yn 0 (nI p3) st3 va1 fy1 fa1 (nI ys.length) sn1 bh mi fb bo bk) :: (aG c4 (a 2) 18 t1) :: (aG c4 (a 4) 230 lt) :: (aG c4 (a 5) 12 rk1) :: (aG c4 (a 6) 12 ri1) :: (aG c4 (a 1) 204 (upd w1 i 0)) :: (zG c4 (a 3) 2 kp) :: Ts)) hx hb hK hw 5 0 rfl rfl i (by omega) (by decide) rfl dX8_cut_65 (fun H locs hw => ?_)
                refine lv_iinc (v := (nI (i + 1))) (lv' := [(3, .int (nI (i + 1))), (2, .int (w 50)), (1, .int g1), (0, .ref (a 0))]) hx hb dX8_cut_66 hl (k := 0) rfl (nI_add _ _) (by decide) rfl (fun ls hl => ?_)
                refine lv_goto (tgt := 53) hx hb dX8_cut_69 (by decide) ?_
                exact ih_53 (i + 1) (upd w1 i 0) (by omega) (by omega) (kz_step hZ) _ _ hw ls (lv_sub hl [0, 1, 2, 3] rfl)
          exact loop_53 ((51 - 0) + 1) 0 w (Nat.lt_succ_self _) (Nat.zero_le _) (fun j h => absurd h (Nat.not_lt_zero j)) _ _ hw ls (lv_sub hl [0, 1, 2, 3] rfl)
        · obtain ⟨wh, kh, hb1, hb2, hb3⟩ := hF c_32
          refine lv_bipush (v := (-10)) hx hb dX8_cut_35 (by decide) ?_
          refine lv_aload_n hx hb dX8_cut_37 rfl (lv_at hl 1 rfl) ?_
          refine r_get (T := TX8) (v := .int fy1) hx hb hts hi8 hown hK hw 0 rfl rfl 9 (by decide) f_10 rfl dX8_cut_38 ?_
          refine lv_isub hx hb dX8_cut_41 ?_
          have hw := hw.m6
          have hw := hw.m6
          have hw := hw.m6
          have hw := hw.m6
          have hw := hw.m5
          have hw := hw.m6
          have hw := hw.m6
          exact kr ((-10) - fy1) (yn, (nI p3), st3, va1, fy1, fa1, ry1, sn1, bo, bk, t1, rk1, ri1, w, kp) _ _ _ _ hw (Or.inr ⟨wh, kh, hb1, by rw [hb2], hb3, rfl, rfl, hlo, rfl, rfl, rfl⟩) dX8_cut_42
      refine lv_if_eq (tgt := 26) hx hb dX8_cut_7 (by decide) (fun c_7 => ?_) (fun c_7 => ?_)
      · exact kj_7 p1 st1 (fun z => absurd c_7 z) _ _ hw ls (lv_sub hl [0, 1] rfl)
      · obtain ⟨ys, np, K, hG, hfa⟩ := hT c_7
        have hG2 := hG
        obtain ⟨hsn, hye, ery, hrow, ht, hpo, hp1, hKK, hR⟩ := hG2
        subst ery
        refine lv_aload_n hx hb dX8_cut_10 rfl (lv_at hl 1 rfl) ?_
        have hw := hw.m2
        have hw := hw.m1
        refine c_vi (As := []) (rest := []) ⟨hx, hb, hml, hown, hts⟩ (k_X8_here l D c4 A ((aG c4 (a 2) 18 t1) :: (aG c4 (a 5) 12 rk1) :: (aG c4 (a 6) 12 ri1) :: (aG c4 (a 1) 204 w) :: (zG c4 (a 3) 2 kp) :: Ts) a yn ln p1 st1 va1 fy1 fa1 (nI ys.length) sn1 bh mi fb bo bk lt hln hp1) (cwV 0 hts gX8_cut_X8_here rfl rfl rfl (by decide +kernel) (rmv (Nat.le_of_ble_eq_true rfl) (Nat.le_of_ble_eq_true rfl) hRf hRl)) hK trivial hw rfl rfl rfl hl rfl (Nat.le_of_ble_eq_true rfl) ⟨Nat.zero_le _, Nat.zero_le _⟩ dX8_cut_11 (fun r_11 u_11 H locs hpq hw => ?_)
        have er_11 := hpq
        subst er_11
        have hs2 := skp_le (lt := lt) hp1
        refine lv_iconst (v := (-1)) hx hb dX8_cut_14 (by decide) ?_
        refine lv_icmp_eq (tgt := 26) hx hb dX8_cut_15 (by decide) (fun c_15 => ?_) (fun c_15 => ?_)
        · have hw := hw.m6
          have hw := hw.m6
          have hw := hw.m6
          have hw := hw.m6
          have hw := hw.m5
          have hw := hw.m6
          have hw := hw.m6
          exact kj_7 (skp lt ln p1) (nI (skp lt ln p1)) (fun _ => ⟨ys, np, hR.symm.trans (ra_end (Nat.le_of_not_lt fun z => hL _ z ((ltA_in z).symm.trans c_15))), rfl, hrow, ht, hpo, hfa⟩) _ _ hw ls (lv_sub hl [0, 1] rfl)
        · have hlt : skp lt ln p1 < ln := Nat.lt_of_not_le fun z => c_15 (ltA_out z)
          have hii := skp_idem lt ln p1
          refine lv_aload_n hx hb dX8_cut_18 rfl (lv_at hl 1 rfl) ?_
          have hw := hw.m4
          have hw := hw.m4
          have hw := hw.m4
          have hw := hw.m4
          have hw := hw.m4
          refine c_vi (As := []) (rest := []) ⟨hx, hb, hml, hown, hts⟩ (k_X8_takesClause l D c4 A ((aG c4 (a 1) 204 w) :: (zG c4 (a 3) 2 kp) :: Ts) a yn ln (skp lt ln p1) (nI (skp lt ln p1)) va1 fy1 fa1 sn1 bh mi fb bo bk lt t1 rk1 ri1 ys np hln hs2 (by rw [hii]; exact hlt) hsn hye hrow ht) (cwV 0 hts gX8_cut_X8_takesClause rfl rfl rfl (by decide +kernel) (rmv (Nat.le_of_ble_eq_true rfl) (Nat.le_of_ble_eq_true rfl) hRf hRl)) hK trivial hw rfl rfl rfl hl rfl (Nat.le_of_ble_eq_true rfl) ⟨Nat.zero_le _, Nat.zero_le _⟩ dX8_cut_19 (fun r_19 u_19 H locs hpq hw => ?_)
          obtain ⟨pl2_19, st2_19, va2_19, fy2_19, fa2_19, ry2_19, rk2_19, ri2_19, sn2_19, t2_19⟩ := u_19
          have hw : gW D A js.heap ((mG a yn (nI ln) (nI pl2_19) st2_19 va2_19 fy2_19 fa2_19 ry2_19 sn2_19 bh mi fb bo bk) :: (aG c4 (a 4) 230 lt) :: (aG c4 (a 2) 18 t2_19) :: (aG c4 (a 5) 12 rk2_19) :: (aG c4 (a 6) 12 ri2_19) :: (aG c4 (a 1) 204 w) :: (zG c4 (a 3) 2 kp) :: Ts) H locs := hw
          have hC_19 := hpq
          have hC_19 : mcP lt ln (skp lt ln (skp lt ln p1)) pl2_19 sn1 sn2_19 ys np t1 t2_19 ry2_19 rk2_19 ri2_19 r_19 fy1 fa1 fy2_19 fa2_19 := hC_19
          rw [hii] at hC_19
          refine lv_istore_n (lv' := [(1, .int r_19), (0, .ref (a 0))]) hx hb dX8_cut_22 rfl hl (by decide) rfl (fun ls hl => ?_)
          refine lv_goto (tgt := 6) hx hb dX8_cut_23 (by decide) ?_
          have hw := hw.m6
          have hw := hw.m6
          have hw := hw.m6
          have hw := hw.m6
          have hw := hw.m5
          have hw := hw.m6
          have hw := hw.m6
          exact ih_6 r_19 pl2_19 st2_19 va2_19 fy2_19 fa2_19 ry2_19 sn2_19 rk2_19 ri2_19 t2_19 (by rw [if_neg c_7] at hm_6; by_cases c : r_19 = 0; { rw [if_pos c]; omega }; { rw [if_neg c]; have := (cu_step hG hlt hC_19 c hfa).2; have := skp_ge lt ln p1; omega }) (hlo.tr hC_19.1) (fun c => (cu_step hG hlt hC_19 c hfa).1) (fun c => cu_bad hG hlt hC_19 c) _ _ hw ls (lv_sub hl [0, 1] rfl)
  exact loop_6 ((if 1 = 0 then 0 else ln - 0 + 1) + 1) 1 0 st va 0 (-1) 0 0 rk ri t2_1 (Nat.lt_succ_self _) hT_1.2 (fun _ => cu_init hln hT_1.1) (fun z => absurd z (by decide)) _ _ hw ls (lv_sub hl [0, 1] rfl)
