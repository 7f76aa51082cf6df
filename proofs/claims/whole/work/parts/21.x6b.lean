set_option maxHeartbeats 4000000 in
set_option maxRecDepth 100000 in
theorem k_X6_shutOpen (l : Launch) (D : va_G) (c4 : Nat → ClassId) (A : Nat → Prop) (Ts : List va_W) (a : Nat → Nat) (n : Nat) (os : Int32) (kd : Nat → Int32) (ic : Nat → Int32) (br : Nat → Int32) (q : Nat → Yq) (hn : n ≤ 12) (hY : yR q n os kd ic br) : Cv l yX6_shutOpen wsX6_shutOpen 1 21 [.ref (a 0)] D (tyA c4) A none ((yG c4 a (nI n) os kd ic br) :: Ts) (S := Int32 × (Nat → Int32) × (Nat → Int32) × (Nat → Int32)) (fun (u : Int32 × (Nat → Int32) × (Nat → Int32) × (Nat → Int32)) => yR (fun y => shutQ (q y)) n u.1 u.2.1 u.2.2.1 u.2.2.2) (fun u => ((yG c4 a (nI n) u.1 u.2.1 u.2.2.1 u.2.2.2) :: Ts)) := by
  refine cOv (cc := cX6_shutOpen) (maxL := 2) (by decide) rfl (Nat.le_of_ble_eq_true rfl) rfl ?_
  rintro jp je js jm below meth jc ls args R Q H locs hRf hRl ⟨hx, hb, hml, hr, hts, hown, hlocks, hK, hX⟩ hw hl kr
  have hown : js.vm.findClass RX6 = some jm.cls := hown
  have f_0 := hts (.fieldLink RX6 25 "IceSway$Yards" "openSet" "I") (by decide +kernel)
  have f_1 := hts (.fieldLink RX6 21 "IceSway$Yards" "count" "I") (by decide +kernel)
  have f_2 := hts (.fieldLink RX6 15 "IceSway$Yards" "ice" "[I") (by decide +kernel)
  have f_3 := hts (.fieldLink RX6 18 "IceSway$Yards" "broken" "[I") (by decide +kernel)
  have f_4 := hts (.fieldLink RX6 11 "IceSway$Yards" "kind" "[I") (by decide +kernel)
  have hi6 : ∀ w ∈ u_ws RX6 TX6 5, w ∈ wsX6_shutOpen := fun w h => List.mem_cons_of_mem _ (List.mem_append_right _ h)
  refine lv_aload_n hx hb dX6_shutOpen_0 rfl (lv_at hl 0 rfl) ?_
  refine r_get (T := TX6) (v := .int os) hx hb hts hi6 hown hK hw 0 rfl rfl 1 (by decide) f_0 rfl dX6_shutOpen_1 ?_
  refine lv_if_ne (tgt := 8) hx hb dX6_shutOpen_4 (by decide) (fun c_4 => ?_) (fun c_4 => ?_)
  · refine lv_iconst (v := 0) hx hb dX6_shutOpen_8 (by decide) ?_
    refine lv_istore_n (lv' := [(1, .int 0), (0, .ref (a 0))]) hx hb dX6_shutOpen_9 rfl hl (by decide) rfl (fun ls hl => ?_)
    have loop_10 : ∀ (fuel : Nat) (i : Nat) (kd1 : Nat → Int32) (ic1 : Nat → Int32) (br1 : Nat → Int32), (n - i) < fuel → (i ≤ n) → (yA (mixQ shutQ q i) n kd1 ic1 br1) → ∀ (H : Heap) (locs : List Loc), gW D A js.heap ((yG c4 a (nI n) os kd1 ic1 br1) :: Ts) H locs → ∀ (ls : Array Slot), lv_has ls 2 [(1, .int (nI i)), (0, .ref (a 0))] → W jp l je R js jm args below meth jc H locs 0 0 Q (F0 jm 10 ls []) := by
      intro fuel
      induction fuel with
      | zero => intro i kd1 ic1 br1 hm; exact absurd hm (Nat.not_lt_zero _)
      | succ fuel ih_10 =>
        intro i kd1 ic1 br1 hm_10 hi hA H locs hw ls hl
        refine lv_iload_n hx hb dX6_shutOpen_10 rfl (lv_at hl 0 rfl) ?_
        refine lv_aload_n hx hb dX6_shutOpen_11 rfl (lv_at hl 1 rfl) ?_
        refine r_get (T := TX6) (v := .int (nI n)) hx hb hts hi6 hown hK hw 0 rfl rfl 0 (by decide) f_1 rfl dX6_shutOpen_12 ?_
        refine r_cge hx hb i n (by omega) (by omega) (tgt := 68) dX6_shutOpen_15 (by decide) (fun c_15 => ?_) (fun c_15 => ?_)
        · refine lv_aload_n hx hb dX6_shutOpen_68 rfl (lv_at hl 1 rfl) ?_
          refine lv_iconst (v := 0) hx hb dX6_shutOpen_69 (by decide) ?_
          refine r_put (T := TX6) (G' := ((yG c4 a (nI n) 0 kd1 ic1 br1) :: Ts)) hx hb hts hi6 tyX6 tyX6_ok nmX6 hown hK hw 0 rfl rfl 1 (by decide) f_0 rfl rfl (Nat.le_of_ble_eq_true rfl) rfl dX6_shutOpen_70 (fun H locs hw => ?_)
          exact kr (0, kd1, ic1, br1) _ _ _ _ hw (sh_end hY (hA.fin (by omega))) dX6_shutOpen_73
        · refine lv_aload_n hx hb dX6_shutOpen_18 rfl (lv_at hl 1 rfl) ?_
          refine lv_iload_n hx hb dX6_shutOpen_19 rfl (lv_at hl 0 rfl) ?_
          refine c_vi (As := [.int (nI i)]) (rest := []) ⟨hx, hb, hml, hown, hts⟩ (k_X6_isOpen l D c4 A Ts a n os kd1 ic1 br1 i q hn c_15 hY.2) (cwV 1 hts gX6_shutOpen_X6_isOpen rfl rfl rfl (by decide +kernel) (rmv (Nat.le_of_ble_eq_true rfl) (Nat.le_of_ble_eq_true rfl) hRf hRl)) hK trivial hw rfl rfl rfl hl rfl (Nat.le_of_ble_eq_true rfl) ⟨Nat.zero_le _, Nat.zero_le _⟩ dX6_shutOpen_20 (fun r_20 u_20 H locs hpq hw => ?_)
          obtain ⟨h0_20, h1_20⟩ := hpq
          refine lv_if_eq (tgt := 62) hx hb dX6_shutOpen_23 (by decide) (fun c_23 => ?_) (fun c_23 => ?_)
          · refine lv_iinc (v := (nI (i + 1))) (lv' := [(1, .int (nI (i + 1))), (0, .ref (a 0))]) hx hb dX6_shutOpen_62 hl (k := 0) rfl (nI_add _ _) (by decide) rfl (fun ls hl => ?_)
            refine lv_goto (tgt := 10) hx hb dX6_shutOpen_65 (by decide) ?_
            exact ih_10 (i + 1) kd1 ic1 br1 (by omega) (by omega) (by first | exact sh_no hA (by omega) (h0_20 c_23) | exact sh_yes hA (by omega) (h1_20 c_23)) _ _ hw ls (lv_sub hl [0, 1] rfl)
          · refine lv_aload_n hx hb dX6_shutOpen_26 rfl (lv_at hl 1 rfl) ?_
            refine r_get (T := TX6) (v := .ref (a 2)) hx hb hts hi6 hown hK hw 0 rfl rfl 3 (by decide) f_2 rfl dX6_shutOpen_27 ?_
            refine lv_iload_n hx hb dX6_shutOpen_30 rfl (lv_at hl 0 rfl) ?_
            refine lv_aload_n hx hb dX6_shutOpen_31 rfl (lv_at hl 1 rfl) ?_
            refine r_get (T := TX6) (v := .ref (a 3)) hx hb hts hi6 hown hK hw 0 rfl rfl 4 (by decide) f_3 rfl dX6_shutOpen_32 ?_
            refine lv_iload_n hx hb dX6_shutOpen_35 rfl (lv_at hl 0 rfl) ?_
            refine r_iald hx hb hK hw 3 0 rfl rfl i (by omega) (by decide) dX6_shutOpen_36 ?_
            refine lv_iconst (v := 3) hx hb dX6_shutOpen_37 (by decide) ?_
            refine lv_idiv hx hb dX6_shutOpen_38 (by decide) ?_
            refine r_iast (G' := ((yG c4 a (nI n) os kd1 (upd ic1 i ((br1 i) / 3)) br1) :: Ts)) hx hb hK hw 2 0 rfl rfl i (by omega) (by decide) rfl dX6_shutOpen_39 (fun H locs hw => ?_)
            refine lv_aload_n hx hb dX6_shutOpen_40 rfl (lv_at hl 1 rfl) ?_
            refine r_get (T := TX6) (v := .ref (a 1)) hx hb hts hi6 hown hK hw 0 rfl rfl 2 (by decide) f_4 rfl dX6_shutOpen_41 ?_
            refine lv_iload_n hx hb dX6_shutOpen_44 rfl (lv_at hl 0 rfl) ?_
            refine lv_aload_n hx hb dX6_shutOpen_45 rfl (lv_at hl 1 rfl) ?_
            refine r_get (T := TX6) (v := .ref (a 1)) hx hb hts hi6 hown hK hw 0 rfl rfl 2 (by decide) f_4 rfl dX6_shutOpen_46 ?_
            refine lv_iload_n hx hb dX6_shutOpen_49 rfl (lv_at hl 0 rfl) ?_
            refine r_iald hx hb hK hw 1 0 rfl rfl i (by omega) (by decide) dX6_shutOpen_50 ?_
            refine c_si (As := [.int (kd1 i)]) (rest := [.int (nI i), .ref (a 1)]) ⟨hx, hb, hml, hown, hts⟩ (k_X6_kindOnceShut l D c4 A ((yG c4 a (nI n) os kd1 (upd ic1 i ((br1 i) / 3)) br1) :: Ts) (kd1 i)) (va_cwS 1 hts gX6_shutOpen_X6_kindOnceShut rfl rfl rfl (by decide +kernel) (rmv (Nat.le_of_ble_eq_true rfl) (Nat.le_of_ble_eq_true rfl) hRf hRl)) hK trivial hw rfl hl rfl (Nat.le_of_ble_eq_true rfl) ⟨Nat.zero_le _, Nat.zero_le _⟩ dX6_shutOpen_51 (fun r_51 u_51 H locs hpq hw => ?_)
            have er_51 := hpq
            subst er_51
            refine r_iast (G' := ((yG c4 a (nI n) os (upd kd1 i (pShut (kd1 i))) (upd ic1 i ((br1 i) / 3)) br1) :: Ts)) hx hb hK hw 1 0 rfl rfl i (by omega) (by decide) rfl dX6_shutOpen_54 (fun H locs hw => ?_)
            refine lv_aload_n hx hb dX6_shutOpen_55 rfl (lv_at hl 1 rfl) ?_
            refine r_get (T := TX6) (v := .ref (a 3)) hx hb hts hi6 hown hK hw 0 rfl rfl 4 (by decide) f_3 rfl dX6_shutOpen_56 ?_
            refine lv_iload_n hx hb dX6_shutOpen_59 rfl (lv_at hl 0 rfl) ?_
            refine lv_iconst (v := 0) hx hb dX6_shutOpen_60 (by decide) ?_
            refine r_iast (G' := ((yG c4 a (nI n) os (upd kd1 i (pShut (kd1 i))) (upd ic1 i ((br1 i) / 3)) (upd br1 i 0)) :: Ts)) hx hb hK hw 3 0 rfl rfl i (by omega) (by decide) rfl dX6_shutOpen_61 (fun H locs hw => ?_)
            refine lv_iinc (v := (nI (i + 1))) (lv' := [(1, .int (nI (i + 1))), (0, .ref (a 0))]) hx hb dX6_shutOpen_62 hl (k := 0) rfl (nI_add _ _) (by decide) rfl (fun ls hl => ?_)
            refine lv_goto (tgt := 10) hx hb dX6_shutOpen_65 (by decide) ?_
            exact ih_10 (i + 1) (upd kd1 i (pShut (kd1 i))) (upd ic1 i ((br1 i) / 3)) (upd br1 i 0) (by omega) (by omega) (by first | exact sh_no hA (by omega) (h0_20 c_23) | exact sh_yes hA (by omega) (h1_20 c_23)) _ _ hw ls (lv_sub hl [0, 1] rfl)
    exact loop_10 ((n - 0) + 1) 0 kd ic br (Nat.lt_succ_self _) (Nat.zero_le _) (by rw [mixQ_0]; exact hY.rows) _ _ hw ls (lv_sub hl [0, 1] rfl)
  · exact kr (os, kd, ic, br) _ _ _ _ hw (sh_none hn hY c_4) dX6_shutOpen_7
set_option maxHeartbeats 4000000 in
set_option maxRecDepth 100000 in
theorem k_X6_freeze (l : Launch) (D : va_G) (c4 : Nat → ClassId) (A : Nat → Prop) (Ts : List va_W) (a : Nat → Nat) (n : Nat) (os : Int32) (kd : Nat → Int32) (ic : Nat → Int32) (br : Nat → Int32) (q : Nat → Yq) (c : Int32) (hn : n ≤ 12) (hY : yR q n os kd ic br) (hc : 0 ≤ c.toInt ∧ c.toInt ≤ 30) : Cv l yX6_freeze wsX6_freeze 2 46 [.ref (a 0), .int c] D (tyA c4) A none ((yG c4 a (nI n) os kd ic br) :: Ts) (S := Int32 × (Nat → Int32) × (Nat → Int32) × (Nat → Int32)) (fun (u : Int32 × (Nat → Int32) × (Nat → Int32) × (Nat → Int32)) => yR (fun y => nightQ c (q y)) n u.1 u.2.1 u.2.2.1 u.2.2.2) (fun u => ((yG c4 a (nI n) u.1 u.2.1 u.2.2.1 u.2.2.2) :: Ts)) := by
  refine cOv (cc := cX6_freeze) (maxL := 3) (by decide) rfl (Nat.le_of_ble_eq_true rfl) rfl ?_
  rintro jp je js jm below meth jc ls args R Q H locs hRf hRl ⟨hx, hb, hml, hr, hts, hown, hlocks, hK, hX⟩ hw hl kr
  have hown : js.vm.findClass RX6 = some jm.cls := hown
  have f_0 := hts (.fieldLink RX6 21 "IceSway$Yards" "count" "I") (by decide +kernel)
  have f_1 := hts (.fieldLink RX6 15 "IceSway$Yards" "ice" "[I") (by decide +kernel)
  have f_2 := hts (.fieldLink RX6 11 "IceSway$Yards" "kind" "[I") (by decide +kernel)
  have hi6 : ∀ w ∈ u_ws RX6 TX6 5, w ∈ wsX6_freeze := fun w h => List.mem_cons_of_mem _ (List.mem_append_right _ h)
  refine lv_aload_n hx hb dX6_freeze_0 rfl (lv_at hl 0 rfl) ?_
  refine c_vv (As := []) (rest := []) ⟨hx, hb, hml, hown, hts⟩ (k_X6_shutOpen l D c4 A Ts a n os kd ic br q hn hY) (cwV 0 hts gX6_freeze_X6_shutOpen rfl rfl rfl (by decide +kernel) (rmv (Nat.le_of_ble_eq_true rfl) (Nat.le_of_ble_eq_true rfl) hRf hRl)) hK trivial hw rfl rfl rfl hl rfl (Nat.le_of_ble_eq_true rfl) ⟨Nat.zero_le _, Nat.zero_le _⟩ dX6_freeze_1 (fun u_1 H locs hpq hw => ?_)
  obtain ⟨os2_1, kd2_1, ic2_1, br2_1⟩ := u_1
  have hw : gW D A js.heap ((yG c4 a (nI n) os2_1 kd2_1 ic2_1 br2_1) :: Ts) H locs := hw
  have hY_1 := hpq
  have hY_1 : yR (fun y => shutQ (q y)) n os2_1 kd2_1 ic2_1 br2_1 := hY_1
  refine lv_iconst (v := 0) hx hb dX6_freeze_4 (by decide) ?_
  refine lv_istore_n (lv' := [(2, .int 0), (0, .ref (a 0)), (1, .int c)]) hx hb dX6_freeze_5 rfl hl (by decide) rfl (fun ls hl => ?_)
  have loop_6 : ∀ (fuel : Nat) (i : Nat) (ic1 : Nat → Int32), (n - i) < fuel → (i ≤ n) → (yA (mixQ (nfQ c) (fun y => shutQ (q y)) i) n kd2_1 ic1 br2_1) → ∀ (H : Heap) (locs : List Loc), gW D A js.heap ((yG c4 a (nI n) os2_1 kd2_1 ic1 br2_1) :: Ts) H locs → ∀ (ls : Array Slot), lv_has ls 3 [(2, .int (nI i)), (0, .ref (a 0)), (1, .int c)] → W jp l je R js jm args below meth jc H locs 0 0 Q (F0 jm 6 ls []) := by
    intro fuel
    induction fuel with
    | zero => intro i ic1 hm; exact absurd hm (Nat.not_lt_zero _)
    | succ fuel ih_6 =>
      intro i ic1 hm_6 hi hA H locs hw ls hl
      refine lv_iload_n hx hb dX6_freeze_6 rfl (lv_at hl 0 rfl) ?_
      refine lv_aload_n hx hb dX6_freeze_7 rfl (lv_at hl 1 rfl) ?_
      refine r_get (T := TX6) (v := .int (nI n)) hx hb hts hi6 hown hK hw 0 rfl rfl 0 (by decide) f_0 rfl dX6_freeze_8 ?_
      refine r_cge hx hb i n (by omega) (by omega) (tgt := 42) dX6_freeze_11 (by decide) (fun c_11 => ?_) (fun c_11 => ?_)
      · exact kr (os2_1, kd2_1, ic1, br2_1) _ _ _ _ hw (fr_end hc hY_1 (fun y hy => hY.ok hy) (hA.fin (by omega))) dX6_freeze_42
      · refine lv_aload_n hx hb dX6_freeze_14 rfl (lv_at hl 1 rfl) ?_
        refine r_get (T := TX6) (v := .ref (a 2)) hx hb hts hi6 hown hK hw 0 rfl rfl 3 (by decide) f_1 rfl dX6_freeze_15 ?_
        refine lv_iload_n hx hb dX6_freeze_18 rfl (lv_at hl 0 rfl) ?_
        refine lv_aload_n hx hb dX6_freeze_19 rfl (lv_at hl 1 rfl) ?_
        refine r_get (T := TX6) (v := .ref (a 1)) hx hb hts hi6 hown hK hw 0 rfl rfl 2 (by decide) f_2 rfl dX6_freeze_20 ?_
        refine lv_iload_n hx hb dX6_freeze_23 rfl (lv_at hl 0 rfl) ?_
        refine r_iald hx hb hK hw 1 0 rfl rfl i (by omega) (by decide) dX6_freeze_24 ?_
        refine lv_aload_n hx hb dX6_freeze_25 rfl (lv_at hl 1 rfl) ?_
        refine r_get (T := TX6) (v := .ref (a 2)) hx hb hts hi6 hown hK hw 0 rfl rfl 3 (by decide) f_1 rfl dX6_freeze_26 ?_
        refine lv_iload_n hx hb dX6_freeze_29 rfl (lv_at hl 0 rfl) ?_
        refine r_iald hx hb hK hw 2 0 rfl rfl i (by omega) (by decide) dX6_freeze_30 ?_
        refine lv_iload_n hx hb dX6_freeze_31 rfl (lv_at hl 2 rfl) ?_
        refine c_si (As := [.int (kd2_1 i), .int (ic1 i), .int c]) (rest := [.int (nI i), .ref (a 2)]) ⟨hx, hb, hml, hown, hts⟩ (k_X6_thicker l D c4 A ((yG c4 a (nI n) os2_1 kd2_1 ic1 br2_1) :: Ts) (kd2_1 i) (ic1 i) c (hA.ice hY_1 (by omega))) (va_cwS 3 hts gX6_freeze_X6_thicker rfl rfl rfl (by decide +kernel) (rmv (Nat.le_of_ble_eq_true rfl) (Nat.le_of_ble_eq_true rfl) hRf hRl)) hK trivial hw rfl hl rfl (Nat.le_of_ble_eq_true rfl) ⟨Nat.zero_le _, Nat.zero_le _⟩ dX6_freeze_32 (fun r_32 u_32 H locs hpq hw => ?_)
        have er_32 := hpq
        subst er_32
        refine r_iast (G' := ((yG c4 a (nI n) os2_1 kd2_1 (upd ic1 i (pThick (kd2_1 i) (ic1 i) c)) br2_1) :: Ts)) hx hb hK hw 2 0 rfl rfl i (by omega) (by decide) rfl dX6_freeze_35 (fun H locs hw => ?_)
        refine lv_iinc (v := (nI (i + 1))) (lv' := [(2, .int (nI (i + 1))), (0, .ref (a 0)), (1, .int c)]) hx hb dX6_freeze_36 hl (k := 0) rfl (nI_add _ _) (by decide) rfl (fun ls hl => ?_)
        refine lv_goto (tgt := 6) hx hb dX6_freeze_39 (by decide) ?_
        exact ih_6 (i + 1) (upd ic1 i (pThick (kd2_1 i) (ic1 i) c)) (by omega) (by omega) (fr_step hA (by omega)) _ _ hw ls (lv_sub hl [0, 1, 2] rfl)
  exact loop_6 ((n - 0) + 1) 0 ic2_1 (Nat.lt_succ_self _) (Nat.zero_le _) (by rw [mixQ_0]; exact hY_1.rows) _ _ hw ls (lv_sub hl [0, 1, 2] rfl)
set_option maxHeartbeats 4000000 in
set_option maxRecDepth 100000 in
theorem k_X6_melt (l : Launch) (D : va_G) (c4 : Nat → ClassId) (A : Nat → Prop) (Ts : List va_W) (a : Nat → Nat) (n : Nat) (os : Int32) (kd : Nat → Int32) (ic : Nat → Int32) (br : Nat → Int32) (q : Nat → Yq) (d : Int32) (hn : n ≤ 12) (hY : yR q n os kd ic br) (hd : 0 ≤ d.toInt ∧ d.toInt ≤ 60) : Cv l yX6_melt wsX6_melt 2 42 [.ref (a 0), .int d] D (tyA c4) A none ((yG c4 a (nI n) os kd ic br) :: Ts) (S := Int32 × (Nat → Int32) × (Nat → Int32) × (Nat → Int32)) (fun (u : Int32 × (Nat → Int32) × (Nat → Int32) × (Nat → Int32)) => yR (fun y => thawQ d (q y)) n u.1 u.2.1 u.2.2.1 u.2.2.2) (fun u => ((yG c4 a (nI n) u.1 u.2.1 u.2.2.1 u.2.2.2) :: Ts)) := by
  refine cOv (cc := cX6_melt) (maxL := 3) (by decide) rfl (Nat.le_of_ble_eq_true rfl) rfl ?_
  rintro jp je js jm below meth jc ls args R Q H locs hRf hRl ⟨hx, hb, hml, hr, hts, hown, hlocks, hK, hX⟩ hw hl kr
  have hown : js.vm.findClass RX6 = some jm.cls := hown
  have f_0 := hts (.fieldLink RX6 21 "IceSway$Yards" "count" "I") (by decide +kernel)
  have f_1 := hts (.fieldLink RX6 15 "IceSway$Yards" "ice" "[I") (by decide +kernel)
  have f_2 := hts (.methodLink RX6 44 Lib.Math.max.name) (by decide +kernel)
  have f_3 := hts (.static Lib.Math.max.name) (by decide +kernel)
  have f_4 := hts (.initialized "java/lang/Math") (by decide +kernel)
  have f_5 := hts (.code Lib.Math.max.name Lib.Math.max.code 2 (some .int)) (by decide +kernel)
  have hi6 : ∀ w ∈ u_ws RX6 TX6 5, w ∈ wsX6_melt := fun w h => List.mem_cons_of_mem _ (List.mem_append_right _ h)
  refine lv_aload_n hx hb dX6_melt_0 rfl (lv_at hl 0 rfl) ?_
  refine c_vv (As := []) (rest := []) ⟨hx, hb, hml, hown, hts⟩ (k_X6_shutOpen l D c4 A Ts a n os kd ic br q hn hY) (cwV 0 hts gX6_melt_X6_shutOpen rfl rfl rfl (by decide +kernel) (rmv (Nat.le_of_ble_eq_true rfl) (Nat.le_of_ble_eq_true rfl) hRf hRl)) hK trivial hw rfl rfl rfl hl rfl (Nat.le_of_ble_eq_true rfl) ⟨Nat.zero_le _, Nat.zero_le _⟩ dX6_melt_1 (fun u_1 H locs hpq hw => ?_)
  obtain ⟨os2_1, kd2_1, ic2_1, br2_1⟩ := u_1
  have hw : gW D A js.heap ((yG c4 a (nI n) os2_1 kd2_1 ic2_1 br2_1) :: Ts) H locs := hw
  have hY_1 := hpq
  have hY_1 : yR (fun y => shutQ (q y)) n os2_1 kd2_1 ic2_1 br2_1 := hY_1
  refine lv_iconst (v := 0) hx hb dX6_melt_4 (by decide) ?_
  refine lv_istore_n (lv' := [(2, .int 0), (0, .ref (a 0)), (1, .int d)]) hx hb dX6_melt_5 rfl hl (by decide) rfl (fun ls hl => ?_)
  have loop_6 : ∀ (fuel : Nat) (i : Nat) (ic1 : Nat → Int32), (n - i) < fuel → (i ≤ n) → (yA (mixQ (tfQ d) (fun y => shutQ (q y)) i) n kd2_1 ic1 br2_1) → ∀ (H : Heap) (locs : List Loc), gW D A js.heap ((yG c4 a (nI n) os2_1 kd2_1 ic1 br2_1) :: Ts) H locs → ∀ (ls : Array Slot), lv_has ls 3 [(2, .int (nI i)), (0, .ref (a 0)), (1, .int d)] → W jp l je R js jm args below meth jc H locs 0 0 Q (F0 jm 6 ls []) := by
    intro fuel
    induction fuel with
    | zero => intro i ic1 hm; exact absurd hm (Nat.not_lt_zero _)
    | succ fuel ih_6 =>
      intro i ic1 hm_6 hi hA H locs hw ls hl
      refine lv_iload_n hx hb dX6_melt_6 rfl (lv_at hl 0 rfl) ?_
      refine lv_aload_n hx hb dX6_melt_7 rfl (lv_at hl 1 rfl) ?_
      refine r_get (T := TX6) (v := .int (nI n)) hx hb hts hi6 hown hK hw 0 rfl rfl 0 (by decide) f_0 rfl dX6_melt_8 ?_
      refine r_cge hx hb i n (by omega) (by omega) (tgt := 38) dX6_melt_11 (by decide) (fun c_11 => ?_) (fun c_11 => ?_)
      · exact kr (os2_1, kd2_1, ic1, br2_1) _ _ _ _ hw (th_end hd hY_1 (fun y hy => hY.ok hy) (hA.fin (by omega))) dX6_melt_38
      · refine lv_aload_n hx hb dX6_melt_14 rfl (lv_at hl 1 rfl) ?_
        refine r_get (T := TX6) (v := .ref (a 2)) hx hb hts hi6 hown hK hw 0 rfl rfl 3 (by decide) f_1 rfl dX6_melt_15 ?_
        refine lv_iload_n hx hb dX6_melt_18 rfl (lv_at hl 0 rfl) ?_
        refine lv_iconst (v := 0) hx hb dX6_melt_19 (by decide) ?_
        refine lv_aload_n hx hb dX6_melt_20 rfl (lv_at hl 1 rfl) ?_
        refine r_get (T := TX6) (v := .ref (a 2)) hx hb hts hi6 hown hK hw 0 rfl rfl 3 (by decide) f_1 rfl dX6_melt_21 ?_
        refine lv_iload_n hx hb dX6_melt_24 rfl (lv_at hl 0 rfl) ?_
        refine r_iald hx hb hK hw 2 0 rfl rfl i (by omega) (by decide) dX6_melt_25 ?_
        refine lv_iload_n hx hb dX6_melt_26 rfl (lv_at hl 2 rfl) ?_
        refine lv_isub hx hb dX6_melt_27 ?_
        refine va_mmax hx hb (hml.trans hl.1.symm) hown f_2 f_3 f_4 f_5 (by rw [hRf]; exact Nat.le_of_ble_eq_true rfl) (by rw [hRl]; exact Nat.le_of_ble_eq_true rfl) (Nat.zero_le _) (Nat.zero_le _) dX6_melt_28 ?_
        refine r_iast (G' := ((yG c4 a (nI n) os2_1 kd2_1 (upd ic1 i (if 0 < ((ic1 i) - d) then ((ic1 i) - d) else 0)) br2_1) :: Ts)) hx hb hK hw 2 0 rfl rfl i (by omega) (by decide) rfl dX6_melt_31 (fun H locs hw => ?_)
        refine lv_iinc (v := (nI (i + 1))) (lv' := [(2, .int (nI (i + 1))), (0, .ref (a 0)), (1, .int d)]) hx hb dX6_melt_32 hl (k := 0) rfl (nI_add _ _) (by decide) rfl (fun ls hl => ?_)
        refine lv_goto (tgt := 6) hx hb dX6_melt_35 (by decide) ?_
        exact ih_6 (i + 1) (upd ic1 i (if 0 < ((ic1 i) - d) then ((ic1 i) - d) else 0)) (by omega) (by omega) (th_step hA (by omega)) _ _ hw ls (lv_sub hl [0, 1, 2] rfl)
  exact loop_6 ((n - 0) + 1) 0 ic2_1 (Nat.lt_succ_self _) (Nat.zero_le _) (by rw [mixQ_0]; exact hY_1.rows) _ _ hw ls (lv_sub hl [0, 1, 2] rfl)
set_option maxHeartbeats 4000000 in
set_option maxRecDepth 100000 in
theorem k_X6_openFirst (l : Launch) (D : va_G) (c4 : Nat → ClassId) (A : Nat → Prop) (Ts : List va_W) (a : Nat → Nat) (n : Nat) (os : Int32) (kd : Nat → Int32) (ic : Nat → Int32) (br : Nat → Int32) (q : Nat → Yq) (b : Nat) (hn : n ≤ 12) (hY : yR q n os kd ic br) (hbn : b ≤ n) : Cv l yX6_openFirst wsX6_openFirst 0 0 [.ref (a 0), .int (nI b)] D (tyA c4) A none ((yG c4 a (nI n) os kd ic br) :: Ts) (S := Int32 × (Nat → Int32) × (Nat → Int32)) (fun (u : Int32 × (Nat → Int32) × (Nat → Int32)) => yR (mixQ openQ q b) n u.1 kd u.2.1 u.2.2) (fun u => ((yG c4 a (nI n) u.1 kd u.2.1 u.2.2) :: Ts)) := by
  refine cOv (cc := cX6_openFirst) (maxL := 3) (by decide) rfl (Nat.le_of_ble_eq_true rfl) rfl ?_
  rintro jp je js jm below meth jc ls args R Q H locs hRf hRl ⟨hx, hb, hml, hr, hts, hown, hlocks, hK, hX⟩ hw hl kr
  have hown : js.vm.findClass RX6 = some jm.cls := hown
  have f_0 := hts (.fieldLink RX6 21 "IceSway$Yards" "count" "I") (by decide +kernel)
  have f_1 := hts (.fieldLink RX6 15 "IceSway$Yards" "ice" "[I") (by decide +kernel)
  have f_2 := hts (.fieldLink RX6 25 "IceSway$Yards" "openSet" "I") (by decide +kernel)
  have f_3 := hts (.fieldLink RX6 18 "IceSway$Yards" "broken" "[I") (by decide +kernel)
  have hi6 : ∀ w ∈ u_ws RX6 TX6 5, w ∈ wsX6_openFirst := fun w h => List.mem_cons_of_mem _ (List.mem_append_right _ h)
  refine lv_iconst (v := 0) hx hb dX6_openFirst_0 (by decide) ?_
  refine lv_istore_n (lv' := [(2, .int 0), (0, .ref (a 0)), (1, .int (nI b))]) hx hb dX6_openFirst_1 rfl hl (by decide) rfl (fun ls hl => ?_)
  have loop_2 : ∀ (fuel : Nat) (i : Nat) (os1 : Int32) (ic1 : Nat → Int32) (br1 : Nat → Int32), (b - i) < fuel → (i ≤ b) → (yA (mixQ openQ q i) n kd ic1 br1) → (os1 = nI (oset (mixQ openQ q i) n)) → ∀ (H : Heap) (locs : List Loc), gW D A js.heap ((yG c4 a (nI n) os1 kd ic1 br1) :: Ts) H locs → ∀ (ls : Array Slot), lv_has ls 3 [(2, .int (nI i)), (0, .ref (a 0)), (1, .int (nI b))] → W jp l je R js jm args below meth jc H locs 0 0 Q (F0 jm 2 ls []) := by
    intro fuel
    induction fuel with
    | zero => intro i os1 ic1 br1 hm; exact absurd hm (Nat.not_lt_zero _)
    | succ fuel ih_2 =>
      intro i os1 ic1 br1 hm_2 hi hA hO H locs hw ls hl
      refine lv_iload_n hx hb dX6_openFirst_2 rfl (lv_at hl 0 rfl) ?_
      refine lv_iload_n hx hb dX6_openFirst_3 rfl (lv_at hl 2 rfl) ?_
      refine r_cge hx hb i b (by omega) (by omega) (tgt := 61) dX6_openFirst_4 (by decide) (fun c_4 => ?_) (fun c_4 => ?_)
      · exact kr (os1, ic1, br1) _ _ _ _ hw (by rw [show b = i from by omega]; exact yR.of (mix_ok (fun _ h => open_ok h) (fun y hy => hY.ok hy)) hA hO) dX6_openFirst_61
      · refine lv_iload_n hx hb dX6_openFirst_7 rfl (lv_at hl 0 rfl) ?_
        refine lv_aload_n hx hb dX6_openFirst_8 rfl (lv_at hl 1 rfl) ?_
        refine r_get (T := TX6) (v := .int (nI n)) hx hb hts hi6 hown hK hw 0 rfl rfl 0 (by decide) f_0 rfl dX6_openFirst_9 ?_
        refine r_cge hx hb i n (by omega) (by omega) (tgt := 61) dX6_openFirst_12 (by decide) (fun c_12 => ?_) (fun c_12 => ?_)
        · exact absurd c_12 (by omega)
        · refine lv_aload_n hx hb dX6_openFirst_15 rfl (lv_at hl 1 rfl) ?_
          refine r_get (T := TX6) (v := .ref (a 2)) hx hb hts hi6 hown hK hw 0 rfl rfl 3 (by decide) f_1 rfl dX6_openFirst_16 ?_
          refine lv_iload_n hx hb dX6_openFirst_19 rfl (lv_at hl 0 rfl) ?_
          refine r_iald hx hb hK hw 2 0 rfl rfl i (by omega) (by decide) dX6_openFirst_20 ?_
          refine lv_if_le (tgt := 55) hx hb dX6_openFirst_21 (by decide) (fun c_21 => ?_) (fun c_21 => ?_)
          · refine lv_iinc (v := (nI (i + 1))) (lv' := [(2, .int (nI (i + 1))), (0, .ref (a 0)), (1, .int (nI b))]) hx hb dX6_openFirst_55 hl (k := 0) rfl (nI_add _ _) (by decide) rfl (fun ls hl => ?_)
            refine lv_goto (tgt := 2) hx hb dX6_openFirst_58 (by decide) ?_
            exact ih_2 (i + 1) os1 ic1 br1 (by omega) (by omega) (by first | exact (op_no hA (by omega) c_21).1 | exact (op_yes hn hA (by omega) c_21).1) (by first | (rw [hO]; exact (op_yes hn hA (by omega) c_21).2) | (rw [hO, (op_no hA (by omega) c_21).2])) _ _ hw ls (lv_sub hl [0, 1, 2] rfl)
          · refine lv_aload_n hx hb dX6_openFirst_24 rfl (lv_at hl 1 rfl) ?_
            refine lv_dup hx hb dX6_openFirst_25 rfl ?_
            refine r_get (T := TX6) (v := .int os1) hx hb hts hi6 hown hK hw 0 rfl rfl 1 (by decide) f_2 rfl dX6_openFirst_26 ?_
            refine lv_iconst (v := 1) hx hb dX6_openFirst_29 (by decide) ?_
            refine lv_iload_n hx hb dX6_openFirst_30 rfl (lv_at hl 0 rfl) ?_
            refine lv_ishl hx hb dX6_openFirst_31 ?_
            refine lv_ior hx hb dX6_openFirst_32 ?_
            refine r_put (T := TX6) (G' := ((yG c4 a (nI n) (os1 ||| ((1 : Int32) <<< ((nI i) &&& 31))) kd ic1 br1) :: Ts)) hx hb hts hi6 tyX6 tyX6_ok nmX6 hown hK hw 0 rfl rfl 1 (by decide) f_2 rfl rfl (Nat.le_of_ble_eq_true rfl) rfl dX6_openFirst_33 (fun H locs hw => ?_)
            refine lv_aload_n hx hb dX6_openFirst_36 rfl (lv_at hl 1 rfl) ?_
            refine r_get (T := TX6) (v := .ref (a 3)) hx hb hts hi6 hown hK hw 0 rfl rfl 4 (by decide) f_3 rfl dX6_openFirst_37 ?_
            refine lv_iload_n hx hb dX6_openFirst_40 rfl (lv_at hl 0 rfl) ?_
            refine lv_aload_n hx hb dX6_openFirst_41 rfl (lv_at hl 1 rfl) ?_
            refine r_get (T := TX6) (v := .ref (a 2)) hx hb hts hi6 hown hK hw 0 rfl rfl 3 (by decide) f_1 rfl dX6_openFirst_42 ?_
            refine lv_iload_n hx hb dX6_openFirst_45 rfl (lv_at hl 0 rfl) ?_
            refine r_iald hx hb hK hw 2 0 rfl rfl i (by omega) (by decide) dX6_openFirst_46 ?_
            refine r_iast (G' := ((yG c4 a (nI n) (os1 ||| ((1 : Int32) <<< ((nI i) &&& 31))) kd ic1 (upd br1 i (ic1 i))) :: Ts)) hx hb hK hw 3 0 rfl rfl i (by omega) (by decide) rfl dX6_openFirst_47 (fun H locs hw => ?_)
            refine lv_aload_n hx hb dX6_openFirst_48 rfl (lv_at hl 1 rfl) ?_
            refine r_get (T := TX6) (v := .ref (a 2)) hx hb hts hi6 hown hK hw 0 rfl rfl 3 (by decide) f_1 rfl dX6_openFirst_49 ?_
            refine lv_iload_n hx hb dX6_openFirst_52 rfl (lv_at hl 0 rfl) ?_
            refine lv_iconst (v := 0) hx hb dX6_openFirst_53 (by decide) ?_
            refine r_iast (G' := ((yG c4 a (nI n) (os1 ||| ((1 : Int32) <<< ((nI i) &&& 31))) kd (upd ic1 i 0) (upd br1 i (ic1 i))) :: Ts)) hx hb hK hw 2 0 rfl rfl i (by omega) (by decide) rfl dX6_openFirst_54 (fun H locs hw => ?_)
            refine lv_iinc (v := (nI (i + 1))) (lv' := [(2, .int (nI (i + 1))), (0, .ref (a 0)), (1, .int (nI b))]) hx hb dX6_openFirst_55 hl (k := 0) rfl (nI_add _ _) (by decide) rfl (fun ls hl => ?_)
            refine lv_goto (tgt := 2) hx hb dX6_openFirst_58 (by decide) ?_
            exact ih_2 (i + 1) (os1 ||| ((1 : Int32) <<< ((nI i) &&& 31))) (upd ic1 i 0) (upd br1 i (ic1 i)) (by omega) (by omega) (by first | exact (op_no hA (by omega) c_21).1 | exact (op_yes hn hA (by omega) c_21).1) (by first | (rw [hO]; exact (op_yes hn hA (by omega) c_21).2) | (rw [hO, (op_no hA (by omega) c_21).2])) _ _ hw ls (lv_sub hl [0, 1, 2] rfl)
  exact loop_2 ((b - 0) + 1) 0 os ic br (Nat.lt_succ_self _) (Nat.zero_le _) (by rw [mixQ_0]; exact hY.rows) (by rw [mixQ_0]; exact hY.2) _ _ hw ls (lv_sub hl [0, 1, 2] rfl)
set_option maxHeartbeats 4000000 in
set_option maxRecDepth 100000 in
theorem k_X6_copyFrom (l : Launch) (D : va_G) (c4 : Nat → ClassId) (A : Nat → Prop) (Ts : List va_W) (a : Nat → Nat) (n0 : Int32) (os0 : Int32) (kd0 : Nat → Int32) (ic0 : Nat → Int32) (br0 : Nat → Int32) (b : Nat → Nat) (n : Nat) (os : Int32) (kd : Nat → Int32) (ic : Nat → Int32) (br : Nat → Int32) (q : Nat → Yq) (hn : n ≤ 12) (hY : yR q n os kd ic br) : Cv l yX6_copyFrom wsX6_copyFrom 0 0 [.ref (a 0), .ref (b 0)] D (tyA c4) A none ((yG c4 a n0 os0 kd0 ic0 br0) :: (yG c4 b (nI n) os kd ic br) :: Ts) (S := (Nat → Int32) × (Nat → Int32) × (Nat → Int32)) (fun (u : (Nat → Int32) × (Nat → Int32) × (Nat → Int32)) => yR q n os u.1 u.2.1 u.2.2) (fun u => ((yG c4 a (nI n) os u.1 u.2.1 u.2.2) :: (yG c4 b (nI n) os kd ic br) :: Ts)) := by
  refine cOv (cc := cX6_copyFrom) (maxL := 3) (by decide) rfl (Nat.le_of_ble_eq_true rfl) rfl ?_
  rintro jp je js jm below meth jc ls args R Q H locs hRf hRl ⟨hx, hb, hml, hr, hts, hown, hlocks, hK, hX⟩ hw hl kr
  have hown : js.vm.findClass RX6 = some jm.cls := hown
  have f_0 := hts (.fieldLink RX6 21 "IceSway$Yards" "count" "I") (by decide +kernel)
  have f_1 := hts (.fieldLink RX6 25 "IceSway$Yards" "openSet" "I") (by decide +kernel)
  have f_2 := hts (.fieldLink RX6 11 "IceSway$Yards" "kind" "[I") (by decide +kernel)
  have f_3 := hts (.fieldLink RX6 15 "IceSway$Yards" "ice" "[I") (by decide +kernel)
  have f_4 := hts (.fieldLink RX6 18 "IceSway$Yards" "broken" "[I") (by decide +kernel)
  have hi6 : ∀ w ∈ u_ws RX6 TX6 5, w ∈ wsX6_copyFrom := fun w h => List.mem_cons_of_mem _ (List.mem_append_right _ h)
  refine lv_aload_n hx hb dX6_copyFrom_0 rfl (lv_at hl 0 rfl) ?_
  refine lv_aload_n hx hb dX6_copyFrom_1 rfl (lv_at hl 1 rfl) ?_
  refine r_get (T := TX6) (v := .int (nI n)) hx hb hts hi6 hown hK hw 4 rfl rfl 0 (by decide) f_0 rfl dX6_copyFrom_2 ?_
  refine r_put (T := TX6) (G' := ((yG c4 a (nI n) os0 kd0 ic0 br0) :: (yG c4 b (nI n) os kd ic br) :: Ts)) hx hb hts hi6 tyX6 tyX6_ok nmX6 hown hK hw 0 rfl rfl 0 (by decide) f_0 rfl rfl (Nat.le_of_ble_eq_true rfl) rfl dX6_copyFrom_5 (fun H locs hw => ?_)
  refine lv_aload_n hx hb dX6_copyFrom_8 rfl (lv_at hl 0 rfl) ?_
  refine lv_aload_n hx hb dX6_copyFrom_9 rfl (lv_at hl 1 rfl) ?_
  refine r_get (T := TX6) (v := .int os) hx hb hts hi6 hown hK hw 4 rfl rfl 1 (by decide) f_1 rfl dX6_copyFrom_10 ?_
  refine r_put (T := TX6) (G' := ((yG c4 a (nI n) os kd0 ic0 br0) :: (yG c4 b (nI n) os kd ic br) :: Ts)) hx hb hts hi6 tyX6 tyX6_ok nmX6 hown hK hw 0 rfl rfl 1 (by decide) f_1 rfl rfl (Nat.le_of_ble_eq_true rfl) rfl dX6_copyFrom_13 (fun H locs hw => ?_)
  refine lv_iconst (v := 0) hx hb dX6_copyFrom_16 (by decide) ?_
  refine lv_istore_n (lv' := [(2, .int 0), (0, .ref (a 0)), (1, .ref (b 0))]) hx hb dX6_copyFrom_17 rfl hl (by decide) rfl (fun ls hl => ?_)
  have loop_18 : ∀ (fuel : Nat) (i : Nat) (kd1 : Nat → Int32) (ic1 : Nat → Int32) (br1 : Nat → Int32), (n - i) < fuel → (i ≤ n) → (cpR i kd ic br kd1 ic1 br1) → ∀ (H : Heap) (locs : List Loc), gW D A js.heap ((yG c4 a (nI n) os kd1 ic1 br1) :: (yG c4 b (nI n) os kd ic br) :: Ts) H locs → ∀ (ls : Array Slot), lv_has ls 3 [(2, .int (nI i)), (0, .ref (a 0)), (1, .ref (b 0))] → W jp l je R js jm args below meth jc H locs 0 0 Q (F0 jm 18 ls []) := by
    intro fuel
    induction fuel with
    | zero => intro i kd1 ic1 br1 hm; exact absurd hm (Nat.not_lt_zero _)
    | succ fuel ih_18 =>
      intro i kd1 ic1 br1 hm_18 hi hA H locs hw ls hl
      refine lv_iload_n hx hb dX6_copyFrom_18 rfl (lv_at hl 0 rfl) ?_
      refine lv_aload_n hx hb dX6_copyFrom_19 rfl (lv_at hl 1 rfl) ?_
      refine r_get (T := TX6) (v := .int (nI n)) hx hb hts hi6 hown hK hw 0 rfl rfl 0 (by decide) f_0 rfl dX6_copyFrom_20 ?_
      refine r_cge hx hb i n (by omega) (by omega) (tgt := 68) dX6_copyFrom_23 (by decide) (fun c_23 => ?_) (fun c_23 => ?_)
      · exact kr (kd1, ic1, br1) _ _ _ _ hw (cp_end hY (fun y hy => hA y (by omega))) dX6_copyFrom_68
      · refine lv_aload_n hx hb dX6_copyFrom_26 rfl (lv_at hl 1 rfl) ?_
        refine r_get (T := TX6) (v := .ref (a 1)) hx hb hts hi6 hown hK hw 0 rfl rfl 2 (by decide) f_2 rfl dX6_copyFrom_27 ?_
        refine lv_iload_n hx hb dX6_copyFrom_30 rfl (lv_at hl 0 rfl) ?_
        refine lv_aload_n hx hb dX6_copyFrom_31 rfl (lv_at hl 2 rfl) ?_
        refine r_get (T := TX6) (v := .ref (b 1)) hx hb hts hi6 hown hK hw 4 rfl rfl 2 (by decide) f_2 rfl dX6_copyFrom_32 ?_
        refine lv_iload_n hx hb dX6_copyFrom_35 rfl (lv_at hl 0 rfl) ?_
        refine r_iald hx hb hK hw 5 0 rfl rfl i (by omega) (by decide) dX6_copyFrom_36 ?_
        refine r_iast (G' := ((yG c4 a (nI n) os (upd kd1 i (kd i)) ic1 br1) :: (yG c4 b (nI n) os kd ic br) :: Ts)) hx hb hK hw 1 0 rfl rfl i (by omega) (by decide) rfl dX6_copyFrom_37 (fun H locs hw => ?_)
        refine lv_aload_n hx hb dX6_copyFrom_38 rfl (lv_at hl 1 rfl) ?_
        refine r_get (T := TX6) (v := .ref (a 2)) hx hb hts hi6 hown hK hw 0 rfl rfl 3 (by decide) f_3 rfl dX6_copyFrom_39 ?_
        refine lv_iload_n hx hb dX6_copyFrom_42 rfl (lv_at hl 0 rfl) ?_
        refine lv_aload_n hx hb dX6_copyFrom_43 rfl (lv_at hl 2 rfl) ?_
        refine r_get (T := TX6) (v := .ref (b 2)) hx hb hts hi6 hown hK hw 4 rfl rfl 3 (by decide) f_3 rfl dX6_copyFrom_44 ?_
        refine lv_iload_n hx hb dX6_copyFrom_47 rfl (lv_at hl 0 rfl) ?_
        refine r_iald hx hb hK hw 6 0 rfl rfl i (by omega) (by decide) dX6_copyFrom_48 ?_
        refine r_iast (G' := ((yG c4 a (nI n) os (upd kd1 i (kd i)) (upd ic1 i (ic i)) br1) :: (yG c4 b (nI n) os kd ic br) :: Ts)) hx hb hK hw 2 0 rfl rfl i (by omega) (by decide) rfl dX6_copyFrom_49 (fun H locs hw => ?_)
        refine lv_aload_n hx hb dX6_copyFrom_50 rfl (lv_at hl 1 rfl) ?_
        refine r_get (T := TX6) (v := .ref (a 3)) hx hb hts hi6 hown hK hw 0 rfl rfl 4 (by decide) f_4 rfl dX6_copyFrom_51 ?_
        refine lv_iload_n hx hb dX6_copyFrom_54 rfl (lv_at hl 0 rfl) ?_
        refine lv_aload_n hx hb dX6_copyFrom_55 rfl (lv_at hl 2 rfl) ?_
        refine r_get (T := TX6) (v := .ref (b 3)) hx hb hts hi6 hown hK hw 4 rfl rfl 4 (by decide) f_4 rfl dX6_copyFrom_56 ?_
        refine lv_iload_n hx hb dX6_copyFrom_59 rfl (lv_at hl 0 rfl) ?_
        refine r_iald hx hb hK hw 7 0 rfl rfl i (by omega) (by decide) dX6_copyFrom_60 ?_
        refine r_iast (G' := ((yG c4 a (nI n) os (upd kd1 i (kd i)) (upd ic1 i (ic i)) (upd br1 i (br i))) :: (yG c4 b (nI n) os kd ic br) :: Ts)) hx hb hK hw 3 0 rfl rfl i (by omega) (by decide) rfl dX6_copyFrom_61 (fun H locs hw => ?_)
        refine lv_iinc (v := (nI (i + 1))) (lv' := [(2, .int (nI (i + 1))), (0, .ref (a 0)), (1, .ref (b 0))]) hx hb dX6_copyFrom_62 hl (k := 0) rfl (nI_add _ _) (by decide) rfl (fun ls hl => ?_)
        refine lv_goto (tgt := 18) hx hb dX6_copyFrom_65 (by decide) ?_
        exact ih_18 (i + 1) (upd kd1 i (kd i)) (upd ic1 i (ic i)) (upd br1 i (br i)) (by omega) (by omega) hA.step _ _ hw ls (lv_sub hl [0, 1, 2] rfl)
  exact loop_18 ((n - 0) + 1) 0 kd0 ic0 br0 (Nat.lt_succ_self _) (Nat.zero_le _) (fun y h => absurd h (Nat.not_lt_zero y)) _ _ hw ls (lv_sub hl [0, 1, 2] rfl)
set_option maxHeartbeats 4000000 in
set_option maxRecDepth 100000 in
theorem k_X6_begin (l : Launch) (D : va_G) (c4 : Nat → ClassId) (A : Nat → Prop) (Ts : List va_W) (a : Nat → Nat) (n0 : Int32) (os0 : Int32) (kd0 : Nat → Int32) (ic0 : Nat → Int32) (br0 : Nat → Int32) (x : Nat → Nat) (ln : Int32) (yc : Int32) (fn : Int32) (fp : Int32) (pl : Int32) (cs : Int32) (lt : Nat → Int32) (nb : Nat → Int32) (yk : Nat → Int32) (yi : Nat → Int32) (n : Nat) (hn : n ≤ 12) (hT : newOk n yk yi) : Cv l yX6_begin wsX6_begin 1 14 [.ref (a 0), .int (nI n), .ref (x 3), .ref (x 4)] D (tyA c4) A none ((yG c4 a n0 os0 kd0 ic0 br0) :: (xG c4 x ln yc fn fp pl cs lt nb yk yi) :: Ts) (S := (Nat → Int32) × (Nat → Int32) × (Nat → Int32)) (fun (u : (Nat → Int32) × (Nat → Int32) × (Nat → Int32)) => yR (newQ yk yi) n 0 u.1 u.2.1 u.2.2) (fun u => ((yG c4 a (nI n) 0 u.1 u.2.1 u.2.2) :: (xG c4 x ln yc fn fp pl cs lt nb yk yi) :: Ts)) := by
  refine cOv (cc := cX6_begin) (maxL := 5) (by decide) rfl (Nat.le_of_ble_eq_true rfl) rfl ?_
  rintro jp je js jm below meth jc ls args R Q H locs hRf hRl ⟨hx, hb, hml, hr, hts, hown, hlocks, hK, hX⟩ hw hl kr
  have hown : js.vm.findClass RX6 = some jm.cls := hown
  have f_0 := hts (.methodLink RX6 28 Lib.Math.min.name) (by decide +kernel)
  have f_1 := hts (.static Lib.Math.min.name) (by decide +kernel)
  have f_2 := hts (.initialized "java/lang/Math") (by decide +kernel)
  have f_3 := hts (.code Lib.Math.min.name Lib.Math.min.code 2 (some .int)) (by decide +kernel)
  have f_4 := hts (.fieldLink RX6 21 "IceSway$Yards" "count" "I") (by decide +kernel)
  have f_5 := hts (.fieldLink RX6 25 "IceSway$Yards" "openSet" "I") (by decide +kernel)
  have f_6 := hts (.fieldLink RX6 11 "IceSway$Yards" "kind" "[I") (by decide +kernel)
  have f_7 := hts (.fieldLink RX6 15 "IceSway$Yards" "ice" "[I") (by decide +kernel)
  have f_8 := hts (.fieldLink RX6 18 "IceSway$Yards" "broken" "[I") (by decide +kernel)
  have hi6 : ∀ w ∈ u_ws RX6 TX6 5, w ∈ wsX6_begin := fun w h => List.mem_cons_of_mem _ (List.mem_append_right _ h)
  refine lv_aload_n hx hb dX6_begin_0 rfl (lv_at hl 0 rfl) ?_
  refine lv_bipush (v := 12) hx hb dX6_begin_1 (by decide) ?_
  refine lv_iload_n hx hb dX6_begin_3 rfl (lv_at hl 1 rfl) ?_
  refine va_mmin hx hb (hml.trans hl.1.symm) hown f_0 f_1 f_2 f_3 (by rw [hRf]; exact Nat.le_of_ble_eq_true rfl) (by rw [hRl]; exact Nat.le_of_ble_eq_true rfl) (Nat.zero_le _) (Nat.zero_le _) dX6_begin_4 ?_
  refine r_top (y := nI n) (min12 hn) ?_
  refine r_put (T := TX6) (G' := ((yG c4 a (nI n) os0 kd0 ic0 br0) :: (xG c4 x ln yc fn fp pl cs lt nb yk yi) :: Ts)) hx hb hts hi6 tyX6 tyX6_ok nmX6 hown hK hw 0 rfl rfl 0 (by decide) f_4 rfl rfl (Nat.le_of_ble_eq_true rfl) rfl dX6_begin_7 (fun H locs hw => ?_)
  refine lv_aload_n hx hb dX6_begin_10 rfl (lv_at hl 0 rfl) ?_
  refine lv_iconst (v := 0) hx hb dX6_begin_11 (by decide) ?_
  refine r_put (T := TX6) (G' := ((yG c4 a (nI n) 0 kd0 ic0 br0) :: (xG c4 x ln yc fn fp pl cs lt nb yk yi) :: Ts)) hx hb hts hi6 tyX6 tyX6_ok nmX6 hown hK hw 0 rfl rfl 1 (by decide) f_5 rfl rfl (Nat.le_of_ble_eq_true rfl) rfl dX6_begin_12 (fun H locs hw => ?_)
  refine lv_iconst (v := 0) hx hb dX6_begin_15 (by decide) ?_
  refine lv_istore (lv' := [(4, .int 0), (0, .ref (a 0)), (1, .int (nI n)), (2, .ref (x 3)), (3, .ref (x 4))]) hx hb dX6_begin_16 hl (by decide) rfl (fun ls hl => ?_)
  have loop_18 : ∀ (fuel : Nat) (i : Nat) (kd1 : Nat → Int32) (ic1 : Nat → Int32) (br1 : Nat → Int32), (n - i) < fuel → (i ≤ n) → (cpR i yk yi (fun _ => 0) kd1 ic1 br1) → ∀ (H : Heap) (locs : List Loc), gW D A js.heap ((yG c4 a (nI n) 0 kd1 ic1 br1) :: (xG c4 x ln yc fn fp pl cs lt nb yk yi) :: Ts) H locs → ∀ (ls : Array Slot), lv_has ls 5 [(4, .int (nI i)), (0, .ref (a 0)), (1, .int (nI n)), (2, .ref (x 3)), (3, .ref (x 4))] → W jp l je R js jm args below meth jc H locs 0 0 Q (F0 jm 18 ls []) := by
    intro fuel
    induction fuel with
    | zero => intro i kd1 ic1 br1 hm; exact absurd hm (Nat.not_lt_zero _)
    | succ fuel ih_18 =>
      intro i kd1 ic1 br1 hm_18 hi hA H locs hw ls hl
      refine lv_iload hx hb dX6_begin_18 (lv_at hl 0 rfl) ?_
      refine lv_aload_n hx hb dX6_begin_20 rfl (lv_at hl 1 rfl) ?_
      refine r_get (T := TX6) (v := .int (nI n)) hx hb hts hi6 hown hK hw 0 rfl rfl 0 (by decide) f_4 rfl dX6_begin_21 ?_
      refine r_cge hx hb i n (by omega) (by omega) (tgt := 63) dX6_begin_24 (by decide) (fun c_24 => ?_) (fun c_24 => ?_)
      · exact kr (kd1, ic1, br1) _ _ _ _ hw (bg_end hT (fun y hy => hA y (by omega))) dX6_begin_63
      · refine lv_aload_n hx hb dX6_begin_27 rfl (lv_at hl 1 rfl) ?_
        refine r_get (T := TX6) (v := .ref (a 1)) hx hb hts hi6 hown hK hw 0 rfl rfl 2 (by decide) f_6 rfl dX6_begin_28 ?_
        refine lv_iload hx hb dX6_begin_31 (lv_at hl 0 rfl) ?_
        refine lv_aload_n hx hb dX6_begin_33 rfl (lv_at hl 3 rfl) ?_
        refine lv_iload hx hb dX6_begin_34 (lv_at hl 0 rfl) ?_
        refine r_iald hx hb hK hw 7 0 rfl rfl i (by omega) (by decide) dX6_begin_36 ?_
        refine r_iast (G' := ((yG c4 a (nI n) 0 (upd kd1 i (yk i)) ic1 br1) :: (xG c4 x ln yc fn fp pl cs lt nb yk yi) :: Ts)) hx hb hK hw 1 0 rfl rfl i (by omega) (by decide) rfl dX6_begin_37 (fun H locs hw => ?_)
        refine lv_aload_n hx hb dX6_begin_38 rfl (lv_at hl 1 rfl) ?_
        refine r_get (T := TX6) (v := .ref (a 2)) hx hb hts hi6 hown hK hw 0 rfl rfl 3 (by decide) f_7 rfl dX6_begin_39 ?_
        refine lv_iload hx hb dX6_begin_42 (lv_at hl 0 rfl) ?_
        refine lv_aload_n hx hb dX6_begin_44 rfl (lv_at hl 4 rfl) ?_
        refine lv_iload hx hb dX6_begin_45 (lv_at hl 0 rfl) ?_
        refine r_iald hx hb hK hw 8 0 rfl rfl i (by omega) (by decide) dX6_begin_47 ?_
        refine r_iast (G' := ((yG c4 a (nI n) 0 (upd kd1 i (yk i)) (upd ic1 i (yi i)) br1) :: (xG c4 x ln yc fn fp pl cs lt nb yk yi) :: Ts)) hx hb hK hw 2 0 rfl rfl i (by omega) (by decide) rfl dX6_begin_48 (fun H locs hw => ?_)
        refine lv_aload_n hx hb dX6_begin_49 rfl (lv_at hl 1 rfl) ?_
        refine r_get (T := TX6) (v := .ref (a 3)) hx hb hts hi6 hown hK hw 0 rfl rfl 4 (by decide) f_8 rfl dX6_begin_50 ?_
        refine lv_iload hx hb dX6_begin_53 (lv_at hl 0 rfl) ?_
        refine lv_iconst (v := 0) hx hb dX6_begin_55 (by decide) ?_
        refine r_iast (G' := ((yG c4 a (nI n) 0 (upd kd1 i (yk i)) (upd ic1 i (yi i)) (upd br1 i 0)) :: (xG c4 x ln yc fn fp pl cs lt nb yk yi) :: Ts)) hx hb hK hw 3 0 rfl rfl i (by omega) (by decide) rfl dX6_begin_56 (fun H locs hw => ?_)
        refine lv_iinc (v := (nI (i + 1))) (lv' := [(4, .int (nI (i + 1))), (0, .ref (a 0)), (1, .int (nI n)), (2, .ref (x 3)), (3, .ref (x 4))]) hx hb dX6_begin_57 hl (k := 0) rfl (nI_add _ _) (by decide) rfl (fun ls hl => ?_)
        refine lv_goto (tgt := 18) hx hb dX6_begin_60 (by decide) ?_
        exact ih_18 (i + 1) (upd kd1 i (yk i)) (upd ic1 i (yi i)) (upd br1 i 0) (by omega) (by omega) hA.step _ _ hw ls (lv_sub hl [0, 1, 2, 3, 4] rfl)
  exact loop_18 ((n - 0) + 1) 0 kd0 ic0 br0 (Nat.lt_succ_self _) (Nat.zero_le _) (fun y h => absurd h (Nat.not_lt_zero y)) _ _ hw ls (lv_sub hl [0, 1, 2, 3, 4] rfl)
set_option maxHeartbeats 4000000 in
set_option maxRecDepth 100000 in
theorem k_X6_iceTogether (l : Launch) (D : va_G) (c4 : Nat → ClassId) (A : Nat → Prop) (Ts : List va_W) (a : Nat → Nat) (n : Nat) (os : Int32) (kd : Nat → Int32) (ic : Nat → Int32) (br : Nat → Int32) (q : Nat → Yq) (hn : n ≤ 12) (hY : yR q n os kd ic br) : Ci l yX6_iceTogether wsX6_iceTogether 0 0 [.ref (a 0)] D (tyA c4) A none ((yG c4 a (nI n) os kd ic br) :: Ts) (S := Unit) (fun (r : Int32) (u : Unit) => r = (sumI q n)) (fun u => ((yG c4 a (nI n) os kd ic br) :: Ts)) := by
  refine cOi (cc := cX6_iceTogether) (maxL := 3) (by decide) rfl (Nat.le_of_ble_eq_true rfl) rfl ?_
  rintro jp je js jm below meth jc ls args R Q H locs hRf hRl ⟨hx, hb, hml, hr, hts, hown, hlocks, hK, hX⟩ hw hl kr
  have hown : js.vm.findClass RX6 = some jm.cls := hown
  have f_0 := hts (.fieldLink RX6 21 "IceSway$Yards" "count" "I") (by decide +kernel)
  have f_1 := hts (.fieldLink RX6 15 "IceSway$Yards" "ice" "[I") (by decide +kernel)
  have hi6 : ∀ w ∈ u_ws RX6 TX6 5, w ∈ wsX6_iceTogether := fun w h => List.mem_cons_of_mem _ (List.mem_append_right _ h)
  refine lv_iconst (v := 0) hx hb dX6_iceTogether_0 (by decide) ?_
  refine lv_istore_n (lv' := [(1, .int 0), (0, .ref (a 0))]) hx hb dX6_iceTogether_1 rfl hl (by decide) rfl (fun ls hl => ?_)
  refine lv_iconst (v := 0) hx hb dX6_iceTogether_2 (by decide) ?_
  refine lv_istore_n (lv' := [(2, .int 0), (1, .int 0), (0, .ref (a 0))]) hx hb dX6_iceTogether_3 rfl hl (by decide) rfl (fun ls hl => ?_)
  have loop_4 : ∀ (fuel : Nat) (i : Nat), (n - i) < fuel → (i ≤ n) → ∀ (H : Heap) (locs : List Loc), gW D A js.heap ((yG c4 a (nI n) os kd ic br) :: Ts) H locs → ∀ (ls : Array Slot), lv_has ls 3 [(2, .int (nI i)), (1, .int (sumI q i)), (0, .ref (a 0))] → W jp l je R js jm args below meth jc H locs 0 0 Q (F0 jm 4 ls []) := by
    intro fuel
    induction fuel with
    | zero => intro i hm; exact absurd hm (Nat.not_lt_zero _)
    | succ fuel ih_4 =>
      intro i hm_4 hi H locs hw ls hl
      refine lv_iload_n hx hb dX6_iceTogether_4 rfl (lv_at hl 0 rfl) ?_
      refine lv_aload_n hx hb dX6_iceTogether_5 rfl (lv_at hl 2 rfl) ?_
      refine r_get (T := TX6) (v := .int (nI n)) hx hb hts hi6 hown hK hw 0 rfl rfl 0 (by decide) f_0 rfl dX6_iceTogether_6 ?_
      refine r_cge hx hb i n (by omega) (by omega) (tgt := 27) dX6_iceTogether_9 (by decide) (fun c_9 => ?_) (fun c_9 => ?_)
      · refine lv_iload_n hx hb dX6_iceTogether_27 rfl (lv_at hl 1 rfl) ?_
        exact kr (sumI q i) () _ _ _ _ hw (by rw [show n = i from by omega]) dX6_iceTogether_28
      · refine lv_iload_n hx hb dX6_iceTogether_12 rfl (lv_at hl 1 rfl) ?_
        refine lv_aload_n hx hb dX6_iceTogether_13 rfl (lv_at hl 2 rfl) ?_
        refine r_get (T := TX6) (v := .ref (a 2)) hx hb hts hi6 hown hK hw 0 rfl rfl 3 (by decide) f_1 rfl dX6_iceTogether_14 ?_
        refine lv_iload_n hx hb dX6_iceTogether_17 rfl (lv_at hl 0 rfl) ?_
        refine r_iald hx hb hK hw 2 0 rfl rfl i (by omega) (by decide) dX6_iceTogether_18 ?_
        refine lv_iadd hx hb dX6_iceTogether_19 ?_
        refine lv_istore_n (lv' := [(1, .int ((sumI q i) + (ic i))), (2, .int (nI i)), (0, .ref (a 0))]) hx hb dX6_iceTogether_20 rfl hl (by decide) rfl (fun ls hl => ?_)
        refine lv_iinc (v := (nI (i + 1))) (lv' := [(2, .int (nI (i + 1))), (1, .int ((sumI q i) + (ic i))), (0, .ref (a 0))]) hx hb dX6_iceTogether_21 hl (k := 1) rfl (nI_add _ _) (by decide) rfl (fun ls hl => ?_)
        refine lv_goto (tgt := 4) hx hb dX6_iceTogether_24 (by decide) ?_
        have hl : lv_has ls 3 [(2, .int (nI (i + 1))), (1, .int (sumI q (i + 1))), (0, .ref (a 0))] := (show sumI q i + ic i = sumI q (i + 1) by rw [(hY.rows i (by omega)).1]; rfl) ▸ hl
        exact ih_4 (i + 1) (by omega) (by omega) _ _ hw ls (lv_sub hl [0, 1, 2] rfl)
  exact loop_4 ((n - 0) + 1) 0 (Nat.lt_succ_self _) (Nat.zero_le _) _ _ hw ls (lv_sub hl [0, 1, 2] rfl)
set_option maxHeartbeats 4000000 in
set_option maxRecDepth 100000 in
theorem k_X6_iceIfOf (l : Launch) (D : va_G) (c4 : Nat → ClassId) (A : Nat → Prop) (Ts : List va_W) (a : Nat → Nat) (n : Nat) (os : Int32) (kd : Nat → Int32) (ic : Nat → Int32) (br : Nat → Int32) (q : Nat → Yq) (kn : Int32) (y : Nat) (k : Nat) (c : Int32) (hn : n ≤ 12) (hY : yR q n os kd ic br) (hy : y < n) (hk : k ≤ 9) (hc : 0 ≤ c.toInt ∧ c.toInt ≤ 30) (hz : okQ (setK kn (q y))) : Ci l yX6_iceIfOf wsX6_iceIfOf 2 46 [.ref (a 0), .int kn, .int (nI y), .int (nI k), .int c] D (tyA c4) A none ((yG c4 a (nI n) os kd ic br) :: Ts) (S := Unit) (fun (r : Int32) (u : Unit) => r = (qI (itQ (nightQ c) k (setK kn (q y))))) (fun u => ((yG c4 a (nI n) os kd ic br) :: Ts)) := by
  refine cOi (cc := cX6_iceIfOf) (maxL := 8) (by decide) rfl (Nat.le_of_ble_eq_true rfl) rfl ?_
  rintro jp je js jm below meth jc ls args R Q H locs hRf hRl ⟨hx, hb, hml, hr, hts, hown, hlocks, hK, hX⟩ hw hl kr
  have hown : js.vm.findClass RX6 = some jm.cls := hown
  have f_0 := hts (.fieldLink RX6 15 "IceSway$Yards" "ice" "[I") (by decide +kernel)
  have f_1 := hts (.fieldLink RX6 18 "IceSway$Yards" "broken" "[I") (by decide +kernel)
  have hi6 : ∀ w ∈ u_ws RX6 TX6 5, w ∈ wsX6_iceIfOf := fun w h => List.mem_cons_of_mem _ (List.mem_append_right _ h)
  refine lv_iload_n hx hb dX6_iceIfOf_0 rfl (lv_at hl 1 rfl) ?_
  refine lv_istore (lv' := [(5, .int kn), (0, .ref (a 0)), (1, .int kn), (2, .int (nI y)), (3, .int (nI k)), (4, .int c)]) hx hb dX6_iceIfOf_1 hl (by decide) rfl (fun ls hl => ?_)
  refine lv_aload_n hx hb dX6_iceIfOf_3 rfl (lv_at hl 1 rfl) ?_
  refine r_get (T := TX6) (v := .ref (a 2)) hx hb hts hi6 hown hK hw 0 rfl rfl 3 (by decide) f_0 rfl dX6_iceIfOf_4 ?_
  refine lv_iload_n hx hb dX6_iceIfOf_7 rfl (lv_at hl 3 rfl) ?_
  refine r_iald hx hb hK hw 2 0 rfl rfl y (by omega) (by decide) dX6_iceIfOf_8 ?_
  refine lv_istore (lv' := [(6, .int (ic y)), (5, .int kn), (0, .ref (a 0)), (1, .int kn), (2, .int (nI y)), (3, .int (nI k)), (4, .int c)]) hx hb dX6_iceIfOf_9 hl (by decide) rfl (fun ls hl => ?_)
  refine lv_iload_n hx hb dX6_iceIfOf_11 rfl (lv_at hl 5 rfl) ?_
  have kj_12 : ∀ (g : Int32) (th : Int32), (ifJ c kn k 0 (q y) g th) → ∀ (H : Heap) (locs : List Loc), gW D A js.heap ((yG c4 a (nI n) os kd ic br) :: Ts) H locs → ∀ (ls : Array Slot), lv_has ls 8 [(6, .int th), (5, .int g), (0, .ref (a 0)), (1, .int kn), (2, .int (nI y)), (3, .int (nI k)), (4, .int c)] → W jp l je R js jm args below meth jc H locs 0 0 Q (F0 jm 39 ls []) := by
    intro g th hJ H locs hw ls hl
    refine lv_iconst (v := 0) hx hb dX6_iceIfOf_39 (by decide) ?_
    refine lv_istore (lv' := [(7, .int 0), (6, .int th), (5, .int g), (0, .ref (a 0)), (1, .int kn), (2, .int (nI y)), (3, .int (nI k)), (4, .int c)]) hx hb dX6_iceIfOf_40 hl (by decide) rfl (fun ls hl => ?_)
    have loop_42 : ∀ (fuel : Nat) (i : Nat) (th1 : Int32), (k - i) < fuel → (i ≤ k) → (ifJ c kn k i (q y) g th1) → ∀ (H : Heap) (locs : List Loc), gW D A js.heap ((yG c4 a (nI n) os kd ic br) :: Ts) H locs → ∀ (ls : Array Slot), lv_has ls 8 [(7, .int (nI i)), (6, .int th1), (5, .int g), (0, .ref (a 0)), (1, .int kn), (2, .int (nI y)), (3, .int (nI k)), (4, .int c)] → W jp l je R js jm args below meth jc H locs 0 0 Q (F0 jm 42 ls []) := by
      intro fuel
      induction fuel with
      | zero => intro i th1 hm; exact absurd hm (Nat.not_lt_zero _)
      | succ fuel ih_42 =>
        intro i th1 hm_42 hi hL H locs hw ls hl
        refine lv_iload hx hb dX6_iceIfOf_42 (lv_at hl 0 rfl) ?_
        refine lv_iload_n hx hb dX6_iceIfOf_44 rfl (lv_at hl 6 rfl) ?_
        refine r_cge hx hb i k (by omega) (by omega) (tgt := 65) dX6_iceIfOf_45 (by decide) (fun c_45 => ?_) (fun c_45 => ?_)
        · refine lv_iload hx hb dX6_iceIfOf_65 (lv_at hl 1 rfl) ?_
          exact kr th1 () _ _ _ _ hw (if_end hL hz (by omega)) dX6_iceIfOf_67
        · refine lv_iload hx hb dX6_iceIfOf_48 (lv_at hl 2 rfl) ?_
          refine lv_iload hx hb dX6_iceIfOf_50 (lv_at hl 1 rfl) ?_
          refine lv_iload hx hb dX6_iceIfOf_52 (lv_at hl 7 rfl) ?_
          refine c_si (As := [.int g, .int th1, .int c]) (rest := []) ⟨hx, hb, hml, hown, hts⟩ (k_X6_thicker l D c4 A ((yG c4 a (nI n) os kd ic br) :: Ts) g th1 c hL.1) (va_cwS 3 hts gX6_iceIfOf_X6_thicker rfl rfl rfl (by decide +kernel) (rmv (Nat.le_of_ble_eq_true rfl) (Nat.le_of_ble_eq_true rfl) hRf hRl)) hK trivial hw rfl hl rfl (Nat.le_of_ble_eq_true rfl) ⟨Nat.zero_le _, Nat.zero_le _⟩ dX6_iceIfOf_54 (fun r_54 u_54 H locs hpq hw => ?_)
          have er_54 := hpq
          subst er_54
          refine lv_istore (lv' := [(6, .int (pThick g th1 c)), (7, .int (nI i)), (5, .int g), (0, .ref (a 0)), (1, .int kn), (2, .int (nI y)), (3, .int (nI k)), (4, .int c)]) hx hb dX6_iceIfOf_57 hl (by decide) rfl (fun ls hl => ?_)
          refine lv_iinc (v := (nI (i + 1))) (lv' := [(7, .int (nI (i + 1))), (6, .int (pThick g th1 c)), (5, .int g), (0, .ref (a 0)), (1, .int kn), (2, .int (nI y)), (3, .int (nI k)), (4, .int c)]) hx hb dX6_iceIfOf_59 hl (k := 1) rfl (nI_add _ _) (by decide) rfl (fun ls hl => ?_)
          refine lv_goto (tgt := 42) hx hb dX6_iceIfOf_62 (by decide) ?_
          exact ih_42 (i + 1) (pThick g th1 c) (by omega) (by omega) (if_step hL hc (by omega)) _ _ hw ls (lv_sub hl [0, 1, 2, 3, 4, 5, 6, 7] rfl)
    exact loop_42 ((k - 0) + 1) 0 th (Nat.lt_succ_self _) (Nat.zero_le _) hJ _ _ hw ls (lv_sub hl [0, 1, 2, 3, 4, 5, 6, 7] rfl)
  refine r_zle hx hb k (by omega) (tgt := 39) dX6_iceIfOf_12 (by decide) (fun c_12 => ?_) (fun c_12 => ?_)
  · exact kj_12 kn (ic y) (if_a (hY.ok hy) c_12 (hY.rows y hy).1) _ _ hw ls (lv_sub hl [0, 1, 2, 3, 4, 5, 6] rfl)
  · refine lv_aload_n hx hb dX6_iceIfOf_15 rfl (lv_at hl 2 rfl) ?_
    refine lv_iload_n hx hb dX6_iceIfOf_16 rfl (lv_at hl 4 rfl) ?_
    refine c_vi (As := [.int (nI y)]) (rest := []) ⟨hx, hb, hml, hown, hts⟩ (k_X6_isOpen l D c4 A Ts a n os kd ic br y q hn hy hY.2) (cwV 1 hts gX6_iceIfOf_X6_isOpen rfl rfl rfl (by decide +kernel) (rmv (Nat.le_of_ble_eq_true rfl) (Nat.le_of_ble_eq_true rfl) hRf hRl)) hK trivial hw rfl rfl rfl hl rfl (Nat.le_of_ble_eq_true rfl) ⟨Nat.zero_le _, Nat.zero_le _⟩ dX6_iceIfOf_17 (fun r_17 u_17 H locs hpq hw => ?_)
    obtain ⟨h0_17, h1_17⟩ := hpq
    refine lv_if_eq (tgt := 39) hx hb dX6_iceIfOf_20 (by decide) (fun c_20 => ?_) (fun c_20 => ?_)
    · exact kj_12 kn (ic y) (if_b (hY.ok hy) (h0_17 c_20) (hY.rows y hy).1) _ _ hw ls (lv_sub hl [0, 1, 2, 3, 4, 5, 6] rfl)
    · refine lv_iload_n hx hb dX6_iceIfOf_23 rfl (lv_at hl 3 rfl) ?_
      refine c_si (As := [.int kn]) (rest := []) ⟨hx, hb, hml, hown, hts⟩ (k_X6_kindOnceShut l D c4 A ((yG c4 a (nI n) os kd ic br) :: Ts) kn) (va_cwS 1 hts gX6_iceIfOf_X6_kindOnceShut rfl rfl rfl (by decide +kernel) (rmv (Nat.le_of_ble_eq_true rfl) (Nat.le_of_ble_eq_true rfl) hRf hRl)) hK trivial hw rfl hl rfl (Nat.le_of_ble_eq_true rfl) ⟨Nat.zero_le _, Nat.zero_le _⟩ dX6_iceIfOf_24 (fun r_24 u_24 H locs hpq hw => ?_)
      have er_24 := hpq
      subst er_24
      refine lv_istore (lv' := [(5, .int (pShut kn)), (6, .int (ic y)), (0, .ref (a 0)), (1, .int kn), (2, .int (nI y)), (3, .int (nI k)), (4, .int c)]) hx hb dX6_iceIfOf_27 hl (by decide) rfl (fun ls hl => ?_)
      refine lv_aload_n hx hb dX6_iceIfOf_29 rfl (lv_at hl 2 rfl) ?_
      refine r_get (T := TX6) (v := .ref (a 3)) hx hb hts hi6 hown hK hw 0 rfl rfl 4 (by decide) f_1 rfl dX6_iceIfOf_30 ?_
      refine lv_iload_n hx hb dX6_iceIfOf_33 rfl (lv_at hl 4 rfl) ?_
      refine r_iald hx hb hK hw 3 0 rfl rfl y (by omega) (by decide) dX6_iceIfOf_34 ?_
      refine lv_iconst (v := 3) hx hb dX6_iceIfOf_35 (by decide) ?_
      refine lv_idiv hx hb dX6_iceIfOf_36 (by decide) ?_
      refine lv_istore (lv' := [(6, .int ((br y) / 3)), (5, .int (pShut kn)), (0, .ref (a 0)), (1, .int kn), (2, .int (nI y)), (3, .int (nI k)), (4, .int c)]) hx hb dX6_iceIfOf_37 hl (by decide) rfl (fun ls hl => ?_)
      exact kj_12 (pShut kn) ((br y) / 3) (if_c (hY.ok hy) c_12 (h1_17 c_20) (hY.rows y hy).2.2) _ _ hw ls (lv_sub hl [0, 1, 2, 3, 4, 5, 6] rfl)
