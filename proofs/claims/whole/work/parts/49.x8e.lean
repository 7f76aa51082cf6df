set_option maxHeartbeats 4000000 in
set_option maxRecDepth 100000 in
theorem k_X8_shuts (l : Launch) (D : va_G) (c4 : Nat → ClassId) (A : Nat → Prop) (Ts : List va_W) (a : Nat → Nat) (n : Nat) (tx : Int32) (pl : Int32) (st : Int32) (va : Int32) (fy : Int32) (fa : Int32) (ry : Int32) (se : Int32) (bh : Int32) (mi : Int32) (fb : Int32) (bo : Int32) (bk : Int32) (w : Nat → Int32) (q : Nat → Yq) (h : Nat) (hn : n ≤ 12) (hY : mY q n w h) (hh : h + 51 ≤ 204) : Cv l yX8_shuts wsX8_shuts 0 0 [.ref (a 0), .int (nI h)] D (tyA c4) A none ((mG a (nI n) tx pl st va fy fa ry se bh mi fb bo bk) :: (aG c4 (a 1) 204 w) :: Ts) (S := (Nat → Int32)) (fun (u : (Nat → Int32)) => (mY (fun y => shutQ (q y)) n u h) ∧ (u (h + 49) = w (h + 49) + 1) ∧ (wOt h w u)) (fun u => ((mG a (nI n) tx pl st va fy fa ry se bh mi fb bo bk) :: (aG c4 (a 1) 204 u) :: Ts)) := by
  refine cOv (cc := cX8_shuts) (maxL := 3) (by decide) rfl (Nat.le_of_ble_eq_true rfl) rfl ?_
  rintro jp je js jm below meth jc ls args R Q H locs hRf hRl ⟨hx, hb, hml, hr, hts, hown, hlocks, hK, hX⟩ hw hl kr
  have hown : js.vm.findClass RX8 = some jm.cls := hown
  have f_0 := hts (.fieldLink RX8 60 "IceSwayModel" "yards" "I") (by decide +kernel)
  have f_1 := hts (.fieldLink RX8 7 "IceSwayModel" "w" "[I") (by decide +kernel)
  have hi8 : ∀ w ∈ u_ws RX8 TX8 28, w ∈ wsX8_shuts := fun w h => List.mem_cons_of_mem _ (List.mem_append_right _ h)
  refine lv_iconst (v := 0) hx hb dX8_shuts_0 (by decide) ?_
  refine lv_istore_n (lv' := [(2, .int 0), (0, .ref (a 0)), (1, .int (nI h))]) hx hb dX8_shuts_1 rfl hl (by decide) rfl (fun ls hl => ?_)
  have loop_2 : ∀ (fuel : Nat) (k : Nat) (w1 : Nat → Int32), (n - k) < fuel → (k ≤ n) → (mY (mixQ shutQ q k) n w1 h) → (wOut h w w1) → ∀ (H : Heap) (locs : List Loc), gW D A js.heap ((mG a (nI n) tx pl st va fy fa ry se bh mi fb bo bk) :: (aG c4 (a 1) 204 w1) :: Ts) H locs → ∀ (ls : Array Slot), lv_has ls 3 [(2, .int (nI k)), (0, .ref (a 0)), (1, .int (nI h))] → W jp l je R js jm args below meth jc H locs 0 0 Q (F0 jm 2 ls []) := by
    intro fuel
    induction fuel with
    | zero => intro k w1 hm; exact absurd hm (Nat.not_lt_zero _)
    | succ fuel ih_2 =>
      intro k w1 hm_2 hk hM hO H locs hw ls hl
      refine lv_iload_n hx hb dX8_shuts_2 rfl (lv_at hl 0 rfl) ?_
      refine lv_aload_n hx hb dX8_shuts_3 rfl (lv_at hl 1 rfl) ?_
      refine r_get (T := TX8) (v := .int (nI n)) hx hb hts hi8 hown hK hw 0 rfl rfl 2 (by decide) f_0 rfl dX8_shuts_4 ?_
      refine r_cge hx hb k n (by omega) (by omega) (tgt := 118) dX8_shuts_7 (by decide) (fun c_7 => ?_) (fun c_7 => ?_)
      · refine lv_aload_n hx hb dX8_shuts_118 rfl (lv_at hl 1 rfl) ?_
        refine r_get (T := TX8) (v := .ref (a 1)) hx hb hts hi8 hown hK hw 0 rfl rfl 0 (by decide) f_1 rfl dX8_shuts_119 ?_
        refine lv_iload_n hx hb dX8_shuts_122 rfl (lv_at hl 2 rfl) ?_
        refine lv_bipush (v := 49) hx hb dX8_shuts_123 (by decide) ?_
        refine r_addN hx hb h 49 dX8_shuts_125 ?_
        refine lv_dup2_11 hx hb dX8_shuts_126 rfl rfl ?_
        refine r_iald hx hb hK hw 1 0 rfl rfl (h + 49) (by omega) (by decide) dX8_shuts_127 ?_
        refine lv_iconst (v := 1) hx hb dX8_shuts_128 (by decide) ?_
        refine lv_iadd hx hb dX8_shuts_129 ?_
        refine r_iast (G' := ((mG a (nI n) tx pl st va fy fa ry se bh mi fb bo bk) :: (aG c4 (a 1) 204 (upd w1 (h + 49) ((w1 (h + 49)) + 1))) :: Ts)) hx hb hK hw 1 0 rfl rfl (h + 49) (by omega) (by decide) rfl dX8_shuts_130 (fun H locs hw => ?_)
        exact kr (upd w1 (h + 49) ((w1 (h + 49)) + 1)) _ _ _ _ hw ⟨((hM.fin (by omega)).out hn (fun j a b => pk_un' _ _ (by omega))), (by rw [pk_us', hO _ (by omega)]), (fun j hj => by rw [pk_un' _ _ (by omega)]; exact hO j (by omega))⟩ dX8_shuts_131
      · refine lv_aload_n hx hb dX8_shuts_10 rfl (lv_at hl 1 rfl) ?_
        refine r_get (T := TX8) (v := .ref (a 1)) hx hb hts hi8 hown hK hw 0 rfl rfl 0 (by decide) f_1 rfl dX8_shuts_11 ?_
        refine lv_iload_n hx hb dX8_shuts_14 rfl (lv_at hl 2 rfl) ?_
        refine lv_bipush (v := 36) hx hb dX8_shuts_15 (by decide) ?_
        refine r_addN hx hb h 36 dX8_shuts_17 ?_
        refine lv_iload_n hx hb dX8_shuts_18 rfl (lv_at hl 0 rfl) ?_
        refine r_addN hx hb (h + 36) k dX8_shuts_19 ?_
        refine r_iald hx hb hK hw 1 0 rfl rfl (h + 36 + k) (by omega) (by decide) dX8_shuts_20 ?_
        refine lv_iconst (v := 1) hx hb dX8_shuts_21 (by decide) ?_
        refine lv_icmp_ne (tgt := 112) hx hb dX8_shuts_22 (by decide) (fun c_22 => ?_) (fun c_22 => ?_)
        · refine lv_iinc (v := (nI (k + 1))) (lv' := [(2, .int (nI (k + 1))), (0, .ref (a 0)), (1, .int (nI h))]) hx hb dX8_shuts_112 hl (k := 0) rfl (nI_add _ _) (by decide) rfl (fun ls hl => ?_)
          refine lv_goto (tgt := 2) hx hb dX8_shuts_115 (by decide) ?_
          exact ih_2 (k + 1) w1 (by omega) (by omega) (ms_no c_7 hM c_22) hO _ _ hw ls (lv_sub hl [0, 1, 2] rfl)
        · refine lv_aload_n hx hb dX8_shuts_25 rfl (lv_at hl 1 rfl) ?_
          refine r_get (T := TX8) (v := .ref (a 1)) hx hb hts hi8 hown hK hw 0 rfl rfl 0 (by decide) f_1 rfl dX8_shuts_26 ?_
          refine lv_iload_n hx hb dX8_shuts_29 rfl (lv_at hl 2 rfl) ?_
          refine lv_bipush (v := 36) hx hb dX8_shuts_30 (by decide) ?_
          refine r_addN hx hb h 36 dX8_shuts_32 ?_
          refine lv_iload_n hx hb dX8_shuts_33 rfl (lv_at hl 0 rfl) ?_
          refine r_addN hx hb (h + 36) k dX8_shuts_34 ?_
          refine lv_iconst (v := 0) hx hb dX8_shuts_35 (by decide) ?_
          refine r_iast (G' := ((mG a (nI n) tx pl st va fy fa ry se bh mi fb bo bk) :: (aG c4 (a 1) 204 (upd w1 (h + 36 + k) 0)) :: Ts)) hx hb hK hw 1 0 rfl rfl (h + 36 + k) (by omega) (by decide) rfl dX8_shuts_36 (fun H locs hw => ?_)
          refine lv_aload_n hx hb dX8_shuts_37 rfl (lv_at hl 1 rfl) ?_
          refine r_get (T := TX8) (v := .ref (a 1)) hx hb hts hi8 hown hK hw 0 rfl rfl 0 (by decide) f_1 rfl dX8_shuts_38 ?_
          refine lv_iload_n hx hb dX8_shuts_41 rfl (lv_at hl 2 rfl) ?_
          refine lv_iconst (v := 0) hx hb dX8_shuts_42 (by decide) ?_
          refine r_addN hx hb h 0 dX8_shuts_43 ?_
          refine lv_iload_n hx hb dX8_shuts_44 rfl (lv_at hl 0 rfl) ?_
          refine r_addN hx hb (h + 0) k dX8_shuts_45 ?_
          refine lv_aload_n hx hb dX8_shuts_46 rfl (lv_at hl 1 rfl) ?_
          refine r_get (T := TX8) (v := .ref (a 1)) hx hb hts hi8 hown hK hw 0 rfl rfl 0 (by decide) f_1 rfl dX8_shuts_47 ?_
          refine lv_iload_n hx hb dX8_shuts_50 rfl (lv_at hl 2 rfl) ?_
          refine lv_bipush (v := 24) hx hb dX8_shuts_51 (by decide) ?_
          refine r_addN hx hb h 24 dX8_shuts_53 ?_
          refine lv_iload_n hx hb dX8_shuts_54 rfl (lv_at hl 0 rfl) ?_
          refine r_addN hx hb (h + 24) k dX8_shuts_55 ?_
          refine r_iald hx hb hK hw 1 0 rfl rfl (h + 24 + k) (by omega) (by decide) dX8_shuts_56 ?_
          refine r_top (y := w1 (h + 24 + k)) (pk_un' _ _ (by omega)) ?_
          refine lv_iconst (v := 3) hx hb dX8_shuts_57 (by decide) ?_
          refine lv_idiv hx hb dX8_shuts_58 (by decide) ?_
          refine r_iast (G' := ((mG a (nI n) tx pl st va fy fa ry se bh mi fb bo bk) :: (aG c4 (a 1) 204 (upd (upd w1 (h + 36 + k) 0) (h + 0 + k) ((w1 (h + 24 + k)) / 3))) :: Ts)) hx hb hK hw 1 0 rfl rfl (h + 0 + k) (by omega) (by decide) rfl dX8_shuts_59 (fun H locs hw => ?_)
          refine lv_aload_n hx hb dX8_shuts_60 rfl (lv_at hl 1 rfl) ?_
          refine r_get (T := TX8) (v := .ref (a 1)) hx hb hts hi8 hown hK hw 0 rfl rfl 0 (by decide) f_1 rfl dX8_shuts_61 ?_
          refine lv_iload_n hx hb dX8_shuts_64 rfl (lv_at hl 2 rfl) ?_
          refine lv_bipush (v := 24) hx hb dX8_shuts_65 (by decide) ?_
          refine r_addN hx hb h 24 dX8_shuts_67 ?_
          refine lv_iload_n hx hb dX8_shuts_68 rfl (lv_at hl 0 rfl) ?_
          refine r_addN hx hb (h + 24) k dX8_shuts_69 ?_
          refine lv_iconst (v := 0) hx hb dX8_shuts_70 (by decide) ?_
          refine r_iast (G' := ((mG a (nI n) tx pl st va fy fa ry se bh mi fb bo bk) :: (aG c4 (a 1) 204 (upd (upd (upd w1 (h + 36 + k) 0) (h + 0 + k) ((w1 (h + 24 + k)) / 3)) (h + 24 + k) 0)) :: Ts)) hx hb hK hw 1 0 rfl rfl (h + 24 + k) (by omega) (by decide) rfl dX8_shuts_71 (fun H locs hw => ?_)
          refine lv_aload_n hx hb dX8_shuts_72 rfl (lv_at hl 1 rfl) ?_
          refine r_get (T := TX8) (v := .ref (a 1)) hx hb hts hi8 hown hK hw 0 rfl rfl 0 (by decide) f_1 rfl dX8_shuts_73 ?_
          refine lv_iload_n hx hb dX8_shuts_76 rfl (lv_at hl 2 rfl) ?_
          refine lv_bipush (v := 12) hx hb dX8_shuts_77 (by decide) ?_
          refine r_addN hx hb h 12 dX8_shuts_79 ?_
          refine lv_iload_n hx hb dX8_shuts_80 rfl (lv_at hl 0 rfl) ?_
          refine r_addN hx hb (h + 12) k dX8_shuts_81 ?_
          refine lv_aload_n hx hb dX8_shuts_82 rfl (lv_at hl 1 rfl) ?_
          refine r_get (T := TX8) (v := .ref (a 1)) hx hb hts hi8 hown hK hw 0 rfl rfl 0 (by decide) f_1 rfl dX8_shuts_83 ?_
          refine lv_iload_n hx hb dX8_shuts_86 rfl (lv_at hl 2 rfl) ?_
          refine lv_bipush (v := 12) hx hb dX8_shuts_87 (by decide) ?_
          refine r_addN hx hb h 12 dX8_shuts_89 ?_
          refine lv_iload_n hx hb dX8_shuts_90 rfl (lv_at hl 0 rfl) ?_
          refine r_addN hx hb (h + 12) k dX8_shuts_91 ?_
          refine r_iald hx hb hK hw 1 0 rfl rfl (h + 12 + k) (by omega) (by decide) dX8_shuts_92 ?_
          refine r_top (y := w1 (h + 12 + k)) (by rw [pk_un' _ _ (by omega), pk_un' _ _ (by omega), pk_un' _ _ (by omega)]) ?_
          refine lv_if_ne (tgt := 100) hx hb dX8_shuts_93 (by decide) (fun c_93 => ?_) (fun c_93 => ?_)
          · refine lv_aload_n hx hb dX8_shuts_100 rfl (lv_at hl 1 rfl) ?_
            refine r_get (T := TX8) (v := .ref (a 1)) hx hb hts hi8 hown hK hw 0 rfl rfl 0 (by decide) f_1 rfl dX8_shuts_101 ?_
            refine lv_iload_n hx hb dX8_shuts_104 rfl (lv_at hl 2 rfl) ?_
            refine lv_bipush (v := 12) hx hb dX8_shuts_105 (by decide) ?_
            refine r_addN hx hb h 12 dX8_shuts_107 ?_
            refine lv_iload_n hx hb dX8_shuts_108 rfl (lv_at hl 0 rfl) ?_
            refine r_addN hx hb (h + 12) k dX8_shuts_109 ?_
            refine r_iald hx hb hK hw 1 0 rfl rfl (h + 12 + k) (by omega) (by decide) dX8_shuts_110 ?_
            refine r_top (y := w1 (h + 12 + k)) (by rw [pk_un' _ _ (by omega), pk_un' _ _ (by omega), pk_un' _ _ (by omega)]) ?_
            refine r_iast (G' := ((mG a (nI n) tx pl st va fy fa ry se bh mi fb bo bk) :: (aG c4 (a 1) 204 (upd (upd (upd (upd w1 (h + 36 + k) 0) (h + 0 + k) ((w1 (h + 24 + k)) / 3)) (h + 24 + k) 0) (h + 12 + k) (w1 (h + 12 + k)))) :: Ts)) hx hb hK hw 1 0 rfl rfl (h + 12 + k) (by omega) (by decide) rfl dX8_shuts_111 (fun H locs hw => ?_)
            refine lv_iinc (v := (nI (k + 1))) (lv' := [(2, .int (nI (k + 1))), (0, .ref (a 0)), (1, .int (nI h))]) hx hb dX8_shuts_112 hl (k := 0) rfl (nI_add _ _) (by decide) rfl (fun ls hl => ?_)
            refine lv_goto (tgt := 2) hx hb dX8_shuts_115 (by decide) ?_
            exact ih_2 (k + 1) (upd (upd (upd (upd w1 (h + 36 + k) 0) (h + 0 + k) ((w1 (h + 24 + k)) / 3)) (h + 24 + k) 0) (h + 12 + k) (w1 (h + 12 + k))) (by omega) (by omega) (ms_yes hn c_7 hM c_22 rfl (by unfold pShut; rw [if_neg c_93]) rfl) ((((hO.up (by omega) (by omega)).up (by omega) (by omega)).up (by omega) (by omega)).up (by omega) (by omega)) _ _ hw ls (lv_sub hl [0, 1, 2] rfl)
          · refine lv_iconst (v := 1) hx hb dX8_shuts_96 (by decide) ?_
            refine lv_goto (tgt := 111) hx hb dX8_shuts_97 (by decide) ?_
            refine r_iast (G' := ((mG a (nI n) tx pl st va fy fa ry se bh mi fb bo bk) :: (aG c4 (a 1) 204 (upd (upd (upd (upd w1 (h + 36 + k) 0) (h + 0 + k) ((w1 (h + 24 + k)) / 3)) (h + 24 + k) 0) (h + 12 + k) 1)) :: Ts)) hx hb hK hw 1 0 rfl rfl (h + 12 + k) (by omega) (by decide) rfl dX8_shuts_111 (fun H locs hw => ?_)
            refine lv_iinc (v := (nI (k + 1))) (lv' := [(2, .int (nI (k + 1))), (0, .ref (a 0)), (1, .int (nI h))]) hx hb dX8_shuts_112 hl (k := 0) rfl (nI_add _ _) (by decide) rfl (fun ls hl => ?_)
            refine lv_goto (tgt := 2) hx hb dX8_shuts_115 (by decide) ?_
            exact ih_2 (k + 1) (upd (upd (upd (upd w1 (h + 36 + k) 0) (h + 0 + k) ((w1 (h + 24 + k)) / 3)) (h + 24 + k) 0) (h + 12 + k) 1) (by omega) (by omega) (ms_yes hn c_7 hM c_22 rfl (by unfold pShut; rw [if_pos c_93]) rfl) ((((hO.up (by omega) (by omega)).up (by omega) (by omega)).up (by omega) (by omega)).up (by omega) (by omega)) _ _ hw ls (lv_sub hl [0, 1, 2] rfl)
  exact loop_2 ((n - 0) + 1) 0 w (Nat.lt_succ_self _) (Nat.zero_le _) (by rw [mixQ_0]; exact hY) (wOut.rf _ _) _ _ hw ls (lv_sub hl [0, 1, 2] rfl)
set_option maxHeartbeats 4000000 in
set_option maxRecDepth 100000 in
theorem k_X8_nightOf (l : Launch) (D : va_G) (c4 : Nat → ClassId) (A : Nat → Prop) (Ts : List va_W) (a : Nat → Nat) (n : Nat) (tx : Int32) (pl : Int32) (st : Int32) (va : Int32) (fy : Int32) (fa : Int32) (ry : Int32) (se : Int32) (bh : Int32) (mi : Int32) (fb : Int32) (bo : Int32) (bk : Int32) (w : Nat → Int32) (q : Nat → Yq) (h : Nat) (c : Int32) (hn : n ≤ 12) (hY : mY q n w h) (hh : h + 51 ≤ 204) (hc : 0 ≤ c.toInt ∧ c.toInt ≤ 30) : Cv l yX8_nightOf wsX8_nightOf 1 23 [.ref (a 0), .int (nI h), .int c] D (tyA c4) A none ((mG a (nI n) tx pl st va fy fa ry se bh mi fb bo bk) :: (aG c4 (a 1) 204 w) :: Ts) (S := (Nat → Int32)) (fun (u : (Nat → Int32)) => (mY (fun y => nightQ c (q y)) n u h) ∧ (u (h + 49) = w (h + 49) + 1) ∧ (wOt h w u)) (fun u => ((mG a (nI n) tx pl st va fy fa ry se bh mi fb bo bk) :: (aG c4 (a 1) 204 u) :: Ts)) := by
  refine cOv (cc := cX8_nightOf) (maxL := 5) (by decide) rfl (Nat.le_of_ble_eq_true rfl) rfl ?_
  rintro jp je js jm below meth jc ls args R Q H locs hRf hRl ⟨hx, hb, hml, hr, hts, hown, hlocks, hK, hX⟩ hw hl kr
  have hown : js.vm.findClass RX8 = some jm.cls := hown
  have f_0 := hts (.fieldLink RX8 60 "IceSwayModel" "yards" "I") (by decide +kernel)
  have f_1 := hts (.fieldLink RX8 7 "IceSwayModel" "w" "[I") (by decide +kernel)
  have hi8 : ∀ w ∈ u_ws RX8 TX8 28, w ∈ wsX8_nightOf := fun w h => List.mem_cons_of_mem _ (List.mem_append_right _ h)
  refine lv_aload_n hx hb dX8_nightOf_0 rfl (lv_at hl 0 rfl) ?_
  refine lv_iload_n hx hb dX8_nightOf_1 rfl (lv_at hl 1 rfl) ?_
  have hw := hw.m1
  have hw := hw.m1
  refine c_vv (As := [.int (nI h)]) (rest := []) ⟨hx, hb, hml, hown, hts⟩ (k_X8_shuts l D c4 A Ts a n tx pl st va fy fa ry se bh mi fb bo bk w q h hn hY hh) (cwV 1 hts gX8_nightOf_X8_shuts rfl rfl rfl (by decide +kernel) (rmv (Nat.le_of_ble_eq_true rfl) (Nat.le_of_ble_eq_true rfl) hRf hRl)) hK trivial hw rfl rfl rfl hl rfl (Nat.le_of_ble_eq_true rfl) ⟨Nat.zero_le _, Nat.zero_le _⟩ dX8_nightOf_2 (fun u_2 H locs hpq hw => ?_)
  obtain ⟨w2_2, rfl⟩ : ∃ z, z = u_2 := ⟨_, rfl⟩
  have hw : gW D A js.heap ((mG a (nI n) tx pl st va fy fa ry se bh mi fb bo bk) :: (aG c4 (a 1) 204 w2_2) :: Ts) H locs := hw
  obtain ⟨hM_2, hN_2, hO_2⟩ := hpq
  have hM_2 : mY (fun y => shutQ (q y)) n w2_2 h := hM_2
  have hN_2 : w2_2 (h + 49) = w (h + 49) + 1 := hN_2
  have hO_2 : wOt h w w2_2 := hO_2
  refine lv_iconst (v := 0) hx hb dX8_nightOf_5 (by decide) ?_
  refine lv_istore_n (lv' := [(3, .int 0), (0, .ref (a 0)), (1, .int (nI h)), (2, .int c)]) hx hb dX8_nightOf_6 rfl hl (by decide) rfl (fun ls hl => ?_)
  have loop_7 : ∀ (fuel : Nat) (k : Nat) (w3 : Nat → Int32), (n - k) < fuel → (k ≤ n) → (mY (mixQ (nfQ c) (fun y => shutQ (q y)) k) n w3 h) → (wOut h w2_2 w3) → ∀ (H : Heap) (locs : List Loc), gW D A js.heap ((mG a (nI n) tx pl st va fy fa ry se bh mi fb bo bk) :: (aG c4 (a 1) 204 w3) :: Ts) H locs → ∀ (ls : Array Slot), lv_has ls 5 [(3, .int (nI k)), (0, .ref (a 0)), (1, .int (nI h)), (2, .int c)] → W jp l je R js jm args below meth jc H locs 0 0 Q (F0 jm 7 ls []) := by
    intro fuel
    induction fuel with
    | zero => intro k w3 hm; exact absurd hm (Nat.not_lt_zero _)
    | succ fuel ih_7 =>
      intro k w3 hm_7 hk hM3 hO3 H locs hw ls hl
      refine lv_iload_n hx hb dX8_nightOf_7 rfl (lv_at hl 0 rfl) ?_
      refine lv_aload_n hx hb dX8_nightOf_8 rfl (lv_at hl 1 rfl) ?_
      refine r_get (T := TX8) (v := .int (nI n)) hx hb hts hi8 hown hK hw 0 rfl rfl 2 (by decide) f_0 rfl dX8_nightOf_9 ?_
      refine r_cge hx hb k n (by omega) (by omega) (tgt := 85) dX8_nightOf_12 (by decide) (fun c_12 => ?_) (fun c_12 => ?_)
      · exact kr (w3) _ _ _ _ hw ⟨(hM3.fin (by omega)), ((hO3 _ (by omega)).trans hN_2), (fun j hj => (hO3 j (by omega)).trans (hO_2 j hj))⟩ dX8_nightOf_85
      · have hr := hM3.am c_12
        refine lv_aload_n hx hb dX8_nightOf_15 rfl (lv_at hl 1 rfl) ?_
        refine r_get (T := TX8) (v := .ref (a 1)) hx hb hts hi8 hown hK hw 0 rfl rfl 0 (by decide) f_1 rfl dX8_nightOf_16 ?_
        refine lv_iload_n hx hb dX8_nightOf_19 rfl (lv_at hl 2 rfl) ?_
        refine lv_iconst (v := 0) hx hb dX8_nightOf_20 (by decide) ?_
        refine r_addN hx hb h 0 dX8_nightOf_21 ?_
        refine lv_iload_n hx hb dX8_nightOf_22 rfl (lv_at hl 0 rfl) ?_
        refine r_addN hx hb (h + 0) k dX8_nightOf_23 ?_
        refine r_iald hx hb hK hw 1 0 rfl rfl (h + 0 + k) (by omega) (by decide) dX8_nightOf_24 ?_
        refine r_top (y := qI (shutQ (q k))) hr.1 ?_
        refine lv_aload_n hx hb dX8_nightOf_25 rfl (lv_at hl 1 rfl) ?_
        refine r_get (T := TX8) (v := .ref (a 1)) hx hb hts hi8 hown hK hw 0 rfl rfl 0 (by decide) f_1 rfl dX8_nightOf_26 ?_
        refine lv_iload_n hx hb dX8_nightOf_29 rfl (lv_at hl 2 rfl) ?_
        refine lv_bipush (v := 12) hx hb dX8_nightOf_30 (by decide) ?_
        refine r_addN hx hb h 12 dX8_nightOf_32 ?_
        refine lv_iload_n hx hb dX8_nightOf_33 rfl (lv_at hl 0 rfl) ?_
        refine r_addN hx hb (h + 12) k dX8_nightOf_34 ?_
        refine r_iald hx hb hK hw 1 0 rfl rfl (h + 12 + k) (by omega) (by decide) dX8_nightOf_35 ?_
        refine r_top (y := qK (shutQ (q k))) hr.2 ?_
        refine lv_aload_n hx hb dX8_nightOf_36 rfl (lv_at hl 1 rfl) ?_
        refine r_get (T := TX8) (v := .ref (a 1)) hx hb hts hi8 hown hK hw 0 rfl rfl 0 (by decide) f_1 rfl dX8_nightOf_37 ?_
        refine lv_iload_n hx hb dX8_nightOf_40 rfl (lv_at hl 2 rfl) ?_
        refine lv_iconst (v := 0) hx hb dX8_nightOf_41 (by decide) ?_
        refine r_addN hx hb h 0 dX8_nightOf_42 ?_
        refine lv_iload_n hx hb dX8_nightOf_43 rfl (lv_at hl 0 rfl) ?_
        refine r_addN hx hb (h + 0) k dX8_nightOf_44 ?_
        refine r_iald hx hb hK hw 1 0 rfl rfl (h + 0 + k) (by omega) (by decide) dX8_nightOf_45 ?_
        refine r_top (y := qI (shutQ (q k))) hr.1 ?_
        refine lv_iload_n hx hb dX8_nightOf_46 rfl (lv_at hl 3 rfl) ?_
        refine c_si (As := [.int (qK (shutQ (q k))), .int (qI (shutQ (q k))), .int c]) (rest := [.int (qI (shutQ (q k)))]) ⟨hx, hb, hml, hown, hts⟩ (k_X8_growth l D c4 A ((mG a (nI n) tx pl st va fy fa ry se bh mi fb bo bk) :: (aG c4 (a 1) 204 w3) :: Ts) (qK (shutQ (q k))) (qI (shutQ (q k))) c (shut_ok (hY k c_12).1).1) (va_cwS 3 hts gX8_nightOf_X8_growth rfl rfl rfl (by decide +kernel) (rmv (Nat.le_of_ble_eq_true rfl) (Nat.le_of_ble_eq_true rfl) hRf hRl)) hK trivial hw rfl hl rfl (Nat.le_of_ble_eq_true rfl) ⟨Nat.zero_le _, Nat.zero_le _⟩ dX8_nightOf_47 (fun r_47 u_47 H locs hpq hw => ?_)
        have er_47 := hpq
        subst er_47
        refine lv_iadd hx hb dX8_nightOf_50 ?_
        refine lv_istore (lv' := [(4, .int ((qI (shutQ (q k))) + (pGrow (qK (shutQ (q k))) (qI (shutQ (q k))) c))), (3, .int (nI k)), (0, .ref (a 0)), (1, .int (nI h)), (2, .int c)]) hx hb dX8_nightOf_51 hl (by decide) rfl (fun ls hl => ?_)
        refine lv_aload_n hx hb dX8_nightOf_53 rfl (lv_at hl 2 rfl) ?_
        refine r_get (T := TX8) (v := .ref (a 1)) hx hb hts hi8 hown hK hw 0 rfl rfl 0 (by decide) f_1 rfl dX8_nightOf_54 ?_
        refine lv_iload_n hx hb dX8_nightOf_57 rfl (lv_at hl 3 rfl) ?_
        refine lv_iconst (v := 0) hx hb dX8_nightOf_58 (by decide) ?_
        refine r_addN hx hb h 0 dX8_nightOf_59 ?_
        refine lv_iload_n hx hb dX8_nightOf_60 rfl (lv_at hl 1 rfl) ?_
        refine r_addN hx hb (h + 0) k dX8_nightOf_61 ?_
        refine lv_iload hx hb dX8_nightOf_62 (lv_at hl 0 rfl) ?_
        refine lv_sipush (v := 300) hx hb dX8_nightOf_64 (by decide) ?_
        have kj_67 : ∀ (w_1 : Int32) (ls : Array Slot), w_1 = (if ((qI (shutQ (q k))) + (pGrow (qK (shutQ (q k))) (qI (shutQ (q k))) c)) ≤ 300 then ((qI (shutQ (q k))) + (pGrow (qK (shutQ (q k))) (qI (shutQ (q k))) c)) else 300) → lv_has ls 5 [(4, .int ((qI (shutQ (q k))) + (pGrow (qK (shutQ (q k))) (qI (shutQ (q k))) c))), (3, .int (nI k)), (0, .ref (a 0)), (1, .int (nI h)), (2, .int c)] → W jp l je R js jm args below meth jc H locs 0 0 Q (F0 jm 78 ls [.int w_1, .int (nI (h + 0 + k)), .ref (a 1)]) := by
          intro w_1 ls e_w_1 hl
          subst e_w_1
          refine r_iast (G' := ((mG a (nI n) tx pl st va fy fa ry se bh mi fb bo bk) :: (aG c4 (a 1) 204 (upd w3 (h + 0 + k) (if ((qI (shutQ (q k))) + (pGrow (qK (shutQ (q k))) (qI (shutQ (q k))) c)) ≤ 300 then ((qI (shutQ (q k))) + (pGrow (qK (shutQ (q k))) (qI (shutQ (q k))) c)) else 300))) :: Ts)) hx hb hK hw 1 0 rfl rfl (h + 0 + k) (by omega) (by decide) rfl dX8_nightOf_78 (fun H locs hw => ?_)
          refine lv_iinc (v := (nI (k + 1))) (lv' := [(3, .int (nI (k + 1))), (4, .int ((qI (shutQ (q k))) + (pGrow (qK (shutQ (q k))) (qI (shutQ (q k))) c))), (0, .ref (a 0)), (1, .int (nI h)), (2, .int c)]) hx hb dX8_nightOf_79 hl (k := 1) rfl (nI_add _ _) (by decide) rfl (fun ls hl => ?_)
          refine lv_goto (tgt := 7) hx hb dX8_nightOf_82 (by decide) ?_
          exact ih_7 (k + 1) (upd w3 (h + 0 + k) (if ((qI (shutQ (q k))) + (pGrow (qK (shutQ (q k))) (qI (shutQ (q k))) c)) ≤ 300 then ((qI (shutQ (q k))) + (pGrow (qK (shutQ (q k))) (qI (shutQ (q k))) c)) else 300)) (by omega) (by omega) (mi_set hn c_12 hM3 (night_ok (hY k c_12).1 hc) mth_eq rfl) (hO3.up (by omega) (by omega)) _ _ hw ls (lv_sub hl [0, 2, 3, 4] rfl)
        refine lv_icmp_le (tgt := 76) hx hb dX8_nightOf_67 (by decide) (fun c_67 => ?_) (fun c_67 => ?_)
        · refine lv_iload hx hb dX8_nightOf_76 (lv_at hl 0 rfl) ?_
          exact kj_67 _ ls (by first | rfl | (rw [if_pos c_67]; done) | (simp only [if_pos c_67]; done) | simp [c_67]) (lv_sub hl [0, 1, 2, 3, 4] rfl)
        · refine lv_sipush (v := 300) hx hb dX8_nightOf_70 (by decide) ?_
          refine lv_goto (tgt := 78) hx hb dX8_nightOf_73 (by decide) ?_
          exact kj_67 _ ls (by first | rfl | (rw [if_neg c_67]; done) | (simp only [if_neg c_67]; done) | simp [c_67]) (lv_sub hl [0, 1, 2, 3, 4] rfl)
  exact loop_7 ((n - 0) + 1) 0 w2_2 (Nat.lt_succ_self _) (Nat.zero_le _) (by rw [mixQ_0]; exact hM_2) (wOut.rf _ _) _ _ hw ls (lv_sub hl [0, 1, 2, 3] rfl)
set_option maxHeartbeats 4000000 in
set_option maxRecDepth 100000 in
theorem k_X8_thawOf (l : Launch) (D : va_G) (c4 : Nat → ClassId) (A : Nat → Prop) (Ts : List va_W) (a : Nat → Nat) (n : Nat) (tx : Int32) (pl : Int32) (st : Int32) (va : Int32) (fy : Int32) (fa : Int32) (ry : Int32) (se : Int32) (bh : Int32) (mi : Int32) (fb : Int32) (bo : Int32) (bk : Int32) (w : Nat → Int32) (q : Nat → Yq) (h : Nat) (d : Int32) (hn : n ≤ 12) (hY : mY q n w h) (hh : h + 51 ≤ 204) (hd : 0 ≤ d.toInt ∧ d.toInt ≤ 60) : Cv l yX8_thawOf wsX8_thawOf 1 22 [.ref (a 0), .int (nI h), .int d] D (tyA c4) A none ((mG a (nI n) tx pl st va fy fa ry se bh mi fb bo bk) :: (aG c4 (a 1) 204 w) :: Ts) (S := (Nat → Int32)) (fun (u : (Nat → Int32)) => (mY (fun y => thawQ d (q y)) n u h) ∧ (u (h + 49) = w (h + 49) + 1) ∧ (wOt h w u)) (fun u => ((mG a (nI n) tx pl st va fy fa ry se bh mi fb bo bk) :: (aG c4 (a 1) 204 u) :: Ts)) := by
  refine cOv (cc := cX8_thawOf) (maxL := 5) (by decide) rfl (Nat.le_of_ble_eq_true rfl) rfl ?_
  rintro jp je js jm below meth jc ls args R Q H locs hRf hRl ⟨hx, hb, hml, hr, hts, hown, hlocks, hK, hX⟩ hw hl kr
  have hown : js.vm.findClass RX8 = some jm.cls := hown
  have f_0 := hts (.fieldLink RX8 60 "IceSwayModel" "yards" "I") (by decide +kernel)
  have f_1 := hts (.fieldLink RX8 7 "IceSwayModel" "w" "[I") (by decide +kernel)
  have hi8 : ∀ w ∈ u_ws RX8 TX8 28, w ∈ wsX8_thawOf := fun w h => List.mem_cons_of_mem _ (List.mem_append_right _ h)
  refine lv_aload_n hx hb dX8_thawOf_0 rfl (lv_at hl 0 rfl) ?_
  refine lv_iload_n hx hb dX8_thawOf_1 rfl (lv_at hl 1 rfl) ?_
  have hw := hw.m1
  have hw := hw.m1
  refine c_vv (As := [.int (nI h)]) (rest := []) ⟨hx, hb, hml, hown, hts⟩ (k_X8_shuts l D c4 A Ts a n tx pl st va fy fa ry se bh mi fb bo bk w q h hn hY hh) (cwV 1 hts gX8_thawOf_X8_shuts rfl rfl rfl (by decide +kernel) (rmv (Nat.le_of_ble_eq_true rfl) (Nat.le_of_ble_eq_true rfl) hRf hRl)) hK trivial hw rfl rfl rfl hl rfl (Nat.le_of_ble_eq_true rfl) ⟨Nat.zero_le _, Nat.zero_le _⟩ dX8_thawOf_2 (fun u_2 H locs hpq hw => ?_)
  obtain ⟨w2_2, rfl⟩ : ∃ z, z = u_2 := ⟨_, rfl⟩
  have hw : gW D A js.heap ((mG a (nI n) tx pl st va fy fa ry se bh mi fb bo bk) :: (aG c4 (a 1) 204 w2_2) :: Ts) H locs := hw
  obtain ⟨hM_2, hN_2, hO_2⟩ := hpq
  have hM_2 : mY (fun y => shutQ (q y)) n w2_2 h := hM_2
  have hN_2 : w2_2 (h + 49) = w (h + 49) + 1 := hN_2
  have hO_2 : wOt h w w2_2 := hO_2
  refine lv_iconst (v := 0) hx hb dX8_thawOf_5 (by decide) ?_
  refine lv_istore_n (lv' := [(3, .int 0), (0, .ref (a 0)), (1, .int (nI h)), (2, .int d)]) hx hb dX8_thawOf_6 rfl hl (by decide) rfl (fun ls hl => ?_)
  have loop_7 : ∀ (fuel : Nat) (k : Nat) (w3 : Nat → Int32), (n - k) < fuel → (k ≤ n) → (mY (mixQ (tfQ d) (fun y => shutQ (q y)) k) n w3 h) → (wOut h w2_2 w3) → ∀ (H : Heap) (locs : List Loc), gW D A js.heap ((mG a (nI n) tx pl st va fy fa ry se bh mi fb bo bk) :: (aG c4 (a 1) 204 w3) :: Ts) H locs → ∀ (ls : Array Slot), lv_has ls 5 [(3, .int (nI k)), (0, .ref (a 0)), (1, .int (nI h)), (2, .int d)] → W jp l je R js jm args below meth jc H locs 0 0 Q (F0 jm 7 ls []) := by
    intro fuel
    induction fuel with
    | zero => intro k w3 hm; exact absurd hm (Nat.not_lt_zero _)
    | succ fuel ih_7 =>
      intro k w3 hm_7 hk hM3 hO3 H locs hw ls hl
      refine lv_iload_n hx hb dX8_thawOf_7 rfl (lv_at hl 0 rfl) ?_
      refine lv_aload_n hx hb dX8_thawOf_8 rfl (lv_at hl 1 rfl) ?_
      refine r_get (T := TX8) (v := .int (nI n)) hx hb hts hi8 hown hK hw 0 rfl rfl 2 (by decide) f_0 rfl dX8_thawOf_9 ?_
      refine r_cge hx hb k n (by omega) (by omega) (tgt := 56) dX8_thawOf_12 (by decide) (fun c_12 => ?_) (fun c_12 => ?_)
      · exact kr (w3) _ _ _ _ hw ⟨(hM3.fin (by omega)), ((hO3 _ (by omega)).trans hN_2), (fun j hj => (hO3 j (by omega)).trans (hO_2 j hj))⟩ dX8_thawOf_56
      · have hr := hM3.am c_12
        refine lv_aload_n hx hb dX8_thawOf_15 rfl (lv_at hl 1 rfl) ?_
        refine r_get (T := TX8) (v := .ref (a 1)) hx hb hts hi8 hown hK hw 0 rfl rfl 0 (by decide) f_1 rfl dX8_thawOf_16 ?_
        refine lv_iload_n hx hb dX8_thawOf_19 rfl (lv_at hl 2 rfl) ?_
        refine lv_iconst (v := 0) hx hb dX8_thawOf_20 (by decide) ?_
        refine r_addN hx hb h 0 dX8_thawOf_21 ?_
        refine lv_iload_n hx hb dX8_thawOf_22 rfl (lv_at hl 0 rfl) ?_
        refine r_addN hx hb (h + 0) k dX8_thawOf_23 ?_
        refine r_iald hx hb hK hw 1 0 rfl rfl (h + 0 + k) (by omega) (by decide) dX8_thawOf_24 ?_
        refine r_top (y := qI (shutQ (q k))) hr.1 ?_
        refine lv_iload_n hx hb dX8_thawOf_25 rfl (lv_at hl 3 rfl) ?_
        refine lv_isub hx hb dX8_thawOf_26 ?_
        refine lv_istore (lv' := [(4, .int ((qI (shutQ (q k))) - d)), (3, .int (nI k)), (0, .ref (a 0)), (1, .int (nI h)), (2, .int d)]) hx hb dX8_thawOf_27 hl (by decide) rfl (fun ls hl => ?_)
        refine lv_aload_n hx hb dX8_thawOf_29 rfl (lv_at hl 2 rfl) ?_
        refine r_get (T := TX8) (v := .ref (a 1)) hx hb hts hi8 hown hK hw 0 rfl rfl 0 (by decide) f_1 rfl dX8_thawOf_30 ?_
        refine lv_iload_n hx hb dX8_thawOf_33 rfl (lv_at hl 3 rfl) ?_
        refine lv_iconst (v := 0) hx hb dX8_thawOf_34 (by decide) ?_
        refine r_addN hx hb h 0 dX8_thawOf_35 ?_
        refine lv_iload_n hx hb dX8_thawOf_36 rfl (lv_at hl 1 rfl) ?_
        refine r_addN hx hb (h + 0) k dX8_thawOf_37 ?_
        refine lv_iload hx hb dX8_thawOf_38 (lv_at hl 0 rfl) ?_
        have kj_40 : ∀ (w_1 : Int32) (ls : Array Slot), w_1 = (if 0 ≤ ((qI (shutQ (q k))) - d) then ((qI (shutQ (q k))) - d) else 0) → lv_has ls 5 [(4, .int ((qI (shutQ (q k))) - d)), (3, .int (nI k)), (0, .ref (a 0)), (1, .int (nI h)), (2, .int d)] → W jp l je R js jm args below meth jc H locs 0 0 Q (F0 jm 49 ls [.int w_1, .int (nI (h + 0 + k)), .ref (a 1)]) := by
          intro w_1 ls e_w_1 hl
          subst e_w_1
          refine r_iast (G' := ((mG a (nI n) tx pl st va fy fa ry se bh mi fb bo bk) :: (aG c4 (a 1) 204 (upd w3 (h + 0 + k) (if 0 ≤ ((qI (shutQ (q k))) - d) then ((qI (shutQ (q k))) - d) else 0))) :: Ts)) hx hb hK hw 1 0 rfl rfl (h + 0 + k) (by omega) (by decide) rfl dX8_thawOf_49 (fun H locs hw => ?_)
          refine lv_iinc (v := (nI (k + 1))) (lv' := [(3, .int (nI (k + 1))), (4, .int ((qI (shutQ (q k))) - d)), (0, .ref (a 0)), (1, .int (nI h)), (2, .int d)]) hx hb dX8_thawOf_50 hl (k := 1) rfl (nI_add _ _) (by decide) rfl (fun ls hl => ?_)
          refine lv_goto (tgt := 7) hx hb dX8_thawOf_53 (by decide) ?_
          exact ih_7 (k + 1) (upd w3 (h + 0 + k) (if 0 ≤ ((qI (shutQ (q k))) - d) then ((qI (shutQ (q k))) - d) else 0)) (by omega) (by omega) (mi_set hn c_12 hM3 (thaw_ok (hY k c_12).1 hd) mle_eq rfl) (hO3.up (by omega) (by omega)) _ _ hw ls (lv_sub hl [0, 2, 3, 4] rfl)
        refine lv_if_ge (tgt := 47) hx hb dX8_thawOf_40 (by decide) (fun c_40 => ?_) (fun c_40 => ?_)
        · refine lv_iload hx hb dX8_thawOf_47 (lv_at hl 0 rfl) ?_
          exact kj_40 _ ls (by first | rfl | (rw [if_pos c_40]; done) | (simp only [if_pos c_40]; done) | simp [c_40]) (lv_sub hl [0, 1, 2, 3, 4] rfl)
        · refine lv_iconst (v := 0) hx hb dX8_thawOf_43 (by decide) ?_
          refine lv_goto (tgt := 49) hx hb dX8_thawOf_44 (by decide) ?_
          exact kj_40 _ ls (by first | rfl | (rw [if_neg c_40]; done) | (simp only [if_neg c_40]; done) | simp [c_40]) (lv_sub hl [0, 1, 2, 3, 4] rfl)
  exact loop_7 ((n - 0) + 1) 0 w2_2 (Nat.lt_succ_self _) (Nat.zero_le _) (by rw [mixQ_0]; exact hM_2) (wOut.rf _ _) _ _ hw ls (lv_sub hl [0, 1, 2, 3] rfl)
set_option maxHeartbeats 4000000 in
set_option maxRecDepth 100000 in
theorem k_X8_night (l : Launch) (D : va_G) (c4 : Nat → ClassId) (A : Nat → Prop) (Ts : List va_W) (a : Nat → Nat) (n : Nat) (tx : Int32) (pl : Int32) (st : Int32) (va : Int32) (fy : Int32) (fa : Int32) (ry : Int32) (se : Int32) (bh : Int32) (mi : Int32) (fb : Int32) (bo : Int32) (bk : Int32) (w : Nat → Int32) (q : Nat → Yq) (c : Int32) (k : Int32) (hn : n ≤ 12) (hY : mY q n w 0) : Ci l yX8_night wsX8_night 2 47 [.ref (a 0), .int c, .int k] D (tyA c4) A none ((mG a (nI n) tx pl st va fy fa ry se bh mi fb bo bk) :: (aG c4 (a 1) 204 w) :: Ts) (S := (Nat → Int32)) (fun (r : Int32) (u : (Nat → Int32)) => ∃ q2, nightF c k (w 49) q n = (r, u 49, q2) ∧ mY q2 n u 0 ∧ wOt 0 w u) (fun u => ((mG a (nI n) tx pl st va fy fa ry se bh mi fb bo bk) :: (aG c4 (a 1) 204 u) :: Ts)) := by
  refine cOi (cc := cX8_night) (maxL := 4) (by decide) rfl (Nat.le_of_ble_eq_true rfl) rfl ?_
  rintro jp je js jm below meth jc ls args R Q H locs hRf hRl ⟨hx, hb, hml, hr, hts, hown, hlocks, hK, hX⟩ hw hl kr
  have hown : js.vm.findClass RX8 = some jm.cls := hown
  have f_0 := hts (.constantLong RX8 153 (30)) (by decide +kernel)
  have f_1 := hts (.constant RX8 83 (-1000000002)) (by decide +kernel)
  have f_2 := hts (.constantLong RX8 163 (99)) (by decide +kernel)
  have f_3 := hts (.fieldLink RX8 7 "IceSwayModel" "w" "[I") (by decide +kernel)
  have f_4 := hts (.constant RX8 87 (-1000000004)) (by decide +kernel)
  have hi8 : ∀ w ∈ u_ws RX8 TX8 28, w ∈ wsX8_night := fun w h => List.mem_cons_of_mem _ (List.mem_append_right _ h)
  refine lv_iload_n hx hb dX8_night_0 rfl (lv_at hl 1 rfl) ?_
  refine lv_i2l hx hb dX8_night_1 rfl ?_
  refine lv_lconst (v := 0) hx hb dX8_night_2 (by decide) ?_
  refine lv_ldc2 hx hb hown f_0 dX8_night_3 ?_
  refine c_si (As := [.long c.toInt64, .long 0, .long 30]) (rest := []) ⟨hx, hb, hml, hown, hts⟩ (k_X8_in l D c4 A ((mG a (nI n) tx pl st va fy fa ry se bh mi fb bo bk) :: (aG c4 (a 1) 204 w) :: Ts) c.toInt64 0 30) (va_cwS 3 hts gX8_night_X8_in rfl rfl rfl (by decide +kernel) (rmv (Nat.le_of_ble_eq_true rfl) (Nat.le_of_ble_eq_true rfl) hRf hRl)) hK trivial hw rfl hl rfl (Nat.le_of_ble_eq_true rfl) ⟨Nat.zero_le _, Nat.zero_le _⟩ dX8_night_6 (fun r_6 u_6 H locs hpq hw => ?_)
  obtain ⟨h0_6, h1_6, hz_6⟩ := hpq
  refine lv_if_eq (tgt := 24) hx hb dX8_night_9 (by decide) (fun c_9 => ?_) (fun c_9 => ?_)
  · refine lv_ldc hx hb hown f_1 dX8_night_24 ?_
    exact kr (-1000000002) (w) _ _ _ _ hw ⟨q, by unfold nightF; rw [if_neg (fun z => h0_6 c_9 ((inL (lo := 0) (hi := 30) rfl rfl).mpr z))], hY, wOt.rf _ _⟩ dX8_night_26
  · refine lv_iload_n hx hb dX8_night_12 rfl (lv_at hl 2 rfl) ?_
    refine lv_i2l hx hb dX8_night_13 rfl ?_
    refine lv_lconst (v := 1) hx hb dX8_night_14 (by decide) ?_
    refine lv_ldc2 hx hb hown f_2 dX8_night_15 ?_
    refine c_si (As := [.long k.toInt64, .long 1, .long 99]) (rest := []) ⟨hx, hb, hml, hown, hts⟩ (k_X8_in l D c4 A ((mG a (nI n) tx pl st va fy fa ry se bh mi fb bo bk) :: (aG c4 (a 1) 204 w) :: Ts) k.toInt64 1 99) (va_cwS 3 hts gX8_night_X8_in rfl rfl rfl (by decide +kernel) (rmv (Nat.le_of_ble_eq_true rfl) (Nat.le_of_ble_eq_true rfl) hRf hRl)) hK trivial hw rfl hl rfl (Nat.le_of_ble_eq_true rfl) ⟨Nat.zero_le _, Nat.zero_le _⟩ dX8_night_18 (fun r_18 u_18 H locs hpq hw => ?_)
    obtain ⟨h0_18, h1_18, hz_18⟩ := hpq
    refine lv_if_ne (tgt := 27) hx hb dX8_night_21 (by decide) (fun c_21 => ?_) (fun c_21 => ?_)
    · have hck : inR k 1 99 := ((inL (lo := 1) (hi := 99) rfl rfl).mp (h1_18 c_21))
      refine lv_aload_n hx hb dX8_night_27 rfl (lv_at hl 0 rfl) ?_
      refine r_get (T := TX8) (v := .ref (a 1)) hx hb hts hi8 hown hK hw 0 rfl rfl 0 (by decide) f_3 rfl dX8_night_28 ?_
      refine lv_bipush (v := 49) hx hb dX8_night_31 (by decide) ?_
      refine r_iald hx hb hK hw 1 0 rfl rfl 49 (by omega) (by decide) dX8_night_33 ?_
      refine lv_sipush (v := 9000) hx hb dX8_night_34 (by decide) ?_
      refine lv_icmp_le (tgt := 43) hx hb dX8_night_37 (by decide) (fun c_37 => ?_) (fun c_37 => ?_)
      · obtain ⟨j, hj1, hj9, ej⟩ := hck.nat (a := 1) (b := 99) rfl rfl
        refine lv_iconst (v := 0) hx hb dX8_night_43 (by decide) ?_
        refine lv_istore_n (lv' := [(3, .int 0), (0, .ref (a 0)), (1, .int c), (2, .int k)]) hx hb dX8_night_44 rfl hl (by decide) rfl (fun ls hl => ?_)
        have loop_45 : ∀ (fuel : Nat) (i : Nat) (w1 : Nat → Int32), (j - i) < fuel → (i ≤ j) → (mY (fun y => itQ (nightQ c) i (q y)) n w1 0) → (w1 49 = w 49 + nI i) → (wOt 0 w w1) → ∀ (H : Heap) (locs : List Loc), gW D A js.heap ((mG a (nI n) tx pl st va fy fa ry se bh mi fb bo bk) :: (aG c4 (a 1) 204 w1) :: Ts) H locs → ∀ (ls : Array Slot), lv_has ls 4 [(3, .int (nI i)), (0, .ref (a 0)), (1, .int c), (2, .int k)] → W jp l je R js jm args below meth jc H locs 0 0 Q (F0 jm 45 ls []) := by
          intro fuel
          induction fuel with
          | zero => intro i w1 hm; exact absurd hm (Nat.not_lt_zero _)
          | succ fuel ih_45 =>
            intro i w1 hm_45 hi hMi hNi hOi H locs hw ls hl
            refine lv_iload_n hx hb dX8_night_45 rfl (lv_at hl 0 rfl) ?_
            refine lv_iload_n hx hb dX8_night_46 rfl (lv_at hl 3 rfl) ?_
            refine r_top (y := nI j) ej ?_
            refine r_cge hx hb i j (by omega) (by omega) (tgt := 62) dX8_night_47 (by decide) (fun c_47 => ?_) (fun c_47 => ?_)
            · refine lv_aload_n hx hb dX8_night_62 rfl (lv_at hl 1 rfl) ?_
              have hw := hw.m1
              have hw := hw.m1
              refine c_vi (As := []) (rest := []) ⟨hx, hb, hml, hown, hts⟩ (k_X8_allIce l D c4 A Ts a n tx pl st va fy fa ry se bh mi fb bo bk w1 (fun y => itQ (nightQ c) i (q y)) hn hMi) (cwV 0 hts gX8_night_X8_allIce rfl rfl rfl (by decide +kernel) (rmv (Nat.le_of_ble_eq_true rfl) (Nat.le_of_ble_eq_true rfl) hRf hRl)) hK trivial hw rfl rfl rfl hl rfl (Nat.le_of_ble_eq_true rfl) ⟨Nat.zero_le _, Nat.zero_le _⟩ dX8_night_63 (fun r_63 u_63 H locs hpq hw => ?_)
              have er_63 := hpq
              subst er_63
              exact kr (sumI (fun y => itQ (nightQ c) i (q y)) n) (w1) _ _ _ _ hw ⟨_, by rw [hNi]; exact ntF_ok ((inL (lo := 0) (hi := 30) rfl rfl).mp (h1_6 c_9)) hck c_37 ej hj9 (by omega), hMi, hOi⟩ dX8_night_66
            · refine lv_aload_n hx hb dX8_night_50 rfl (lv_at hl 1 rfl) ?_
              refine lv_iconst (v := 0) hx hb dX8_night_51 (by decide) ?_
              refine lv_iload_n hx hb dX8_night_52 rfl (lv_at hl 2 rfl) ?_
              have hw := hw.m1
              have hw := hw.m1
              refine c_vv (As := [.int 0, .int c]) (rest := []) ⟨hx, hb, hml, hown, hts⟩ (k_X8_nightOf l D c4 A Ts a n tx pl st va fy fa ry se bh mi fb bo bk w1 (fun y => itQ (nightQ c) i (q y)) 0 c hn hMi (by decide) (coldI ((inL (lo := 0) (hi := 30) rfl rfl).mp (h1_6 c_9)))) (cwV 2 hts gX8_night_X8_nightOf rfl rfl rfl (by decide +kernel) (rmv (Nat.le_of_ble_eq_true rfl) (Nat.le_of_ble_eq_true rfl) hRf hRl)) hK trivial hw rfl rfl rfl hl rfl (Nat.le_of_ble_eq_true rfl) ⟨Nat.zero_le _, Nat.zero_le _⟩ dX8_night_53 (fun u_53 H locs hpq hw => ?_)
              obtain ⟨w2_53, rfl⟩ : ∃ z, z = u_53 := ⟨_, rfl⟩
              have hw : gW D A js.heap ((mG a (nI n) tx pl st va fy fa ry se bh mi fb bo bk) :: (aG c4 (a 1) 204 w2_53) :: Ts) H locs := hw
              obtain ⟨hM_53, hN_53, hO_53⟩ := hpq
              have hM_53 : mY (fun y => nightQ c ((fun y => itQ (nightQ c) i (q y)) y)) n w2_53 0 := hM_53
              have hN_53 : w2_53 (0 + 49) = w1 (0 + 49) + 1 := hN_53
              have hO_53 : wOt 0 w1 w2_53 := hO_53
              refine lv_iinc (v := (nI (i + 1))) (lv' := [(3, .int (nI (i + 1))), (0, .ref (a 0)), (1, .int c), (2, .int k)]) hx hb dX8_night_56 hl (k := 0) rfl (nI_add _ _) (by decide) rfl (fun ls hl => ?_)
              refine lv_goto (tgt := 45) hx hb dX8_night_59 (by decide) ?_
              exact ih_45 (i + 1) w2_53 (by omega) (by omega) hM_53 ((show w2_53 49 = w1 49 + 1 from hN_53).trans (by rw [hNi]; exact int_add1 _ _)) (hOi.tr hO_53) _ _ hw ls (lv_sub hl [0, 1, 2, 3] rfl)
        exact loop_45 ((j - 0) + 1) 0 w (Nat.lt_succ_self _) (Nat.zero_le _) hY (add_n0 _) (wOt.rf _ _) _ _ hw ls (lv_sub hl [0, 1, 2, 3] rfl)
      · refine lv_ldc hx hb hown f_4 dX8_night_40 ?_
        exact kr (-1000000004) (w) _ _ _ _ hw ⟨q, by unfold nightF; rw [if_pos ((inL (lo := 0) (hi := 30) rfl rfl).mp (h1_6 c_9)), if_pos hck, if_neg c_37], hY, wOt.rf _ _⟩ dX8_night_42
    · refine lv_ldc hx hb hown f_1 dX8_night_24 ?_
      exact kr (-1000000002) (w) _ _ _ _ hw ⟨q, by unfold nightF; rw [if_pos ((inL (lo := 0) (hi := 30) rfl rfl).mp (h1_6 c_9)), if_neg (fun z => h0_18 c_21 ((inL (lo := 1) (hi := 99) rfl rfl).mpr z))], hY, wOt.rf _ _⟩ dX8_night_26
set_option maxHeartbeats 4000000 in
set_option maxRecDepth 100000 in
theorem k_X8_thaw (l : Launch) (D : va_G) (c4 : Nat → ClassId) (A : Nat → Prop) (Ts : List va_W) (a : Nat → Nat) (n : Nat) (tx : Int32) (pl : Int32) (st : Int32) (va : Int32) (fy : Int32) (fa : Int32) (ry : Int32) (se : Int32) (bh : Int32) (mi : Int32) (fb : Int32) (bo : Int32) (bk : Int32) (w : Nat → Int32) (q : Nat → Yq) (d : Int32) (hn : n ≤ 12) (hY : mY q n w 0) : Ci l yX8_thaw wsX8_thaw 2 46 [.ref (a 0), .int d] D (tyA c4) A none ((mG a (nI n) tx pl st va fy fa ry se bh mi fb bo bk) :: (aG c4 (a 1) 204 w) :: Ts) (S := (Nat → Int32)) (fun (r : Int32) (u : (Nat → Int32)) => ∃ q2, thawF d (w 49) q n = (r, u 49, q2) ∧ mY q2 n u 0 ∧ wOt 0 w u) (fun u => ((mG a (nI n) tx pl st va fy fa ry se bh mi fb bo bk) :: (aG c4 (a 1) 204 u) :: Ts)) := by
  refine cOi (cc := cX8_thaw) (maxL := 2) (by decide) rfl (Nat.le_of_ble_eq_true rfl) rfl ?_
  rintro jp je js jm below meth jc ls args R Q H locs hRf hRl ⟨hx, hb, hml, hr, hts, hown, hlocks, hK, hX⟩ hw hl kr
  have hown : js.vm.findClass RX8 = some jm.cls := hown
  have f_0 := hts (.constantLong RX8 172 (60)) (by decide +kernel)
  have f_1 := hts (.fieldLink RX8 7 "IceSwayModel" "w" "[I") (by decide +kernel)
  have f_2 := hts (.constant RX8 87 (-1000000004)) (by decide +kernel)
  have f_3 := hts (.constant RX8 83 (-1000000002)) (by decide +kernel)
  have hi8 : ∀ w ∈ u_ws RX8 TX8 28, w ∈ wsX8_thaw := fun w h => List.mem_cons_of_mem _ (List.mem_append_right _ h)
  refine lv_iload_n hx hb dX8_thaw_0 rfl (lv_at hl 1 rfl) ?_
  refine lv_i2l hx hb dX8_thaw_1 rfl ?_
  refine lv_lconst (v := 0) hx hb dX8_thaw_2 (by decide) ?_
  refine lv_ldc2 hx hb hown f_0 dX8_thaw_3 ?_
  refine c_si (As := [.long d.toInt64, .long 0, .long 60]) (rest := []) ⟨hx, hb, hml, hown, hts⟩ (k_X8_in l D c4 A ((mG a (nI n) tx pl st va fy fa ry se bh mi fb bo bk) :: (aG c4 (a 1) 204 w) :: Ts) d.toInt64 0 60) (va_cwS 3 hts gX8_thaw_X8_in rfl rfl rfl (by decide +kernel) (rmv (Nat.le_of_ble_eq_true rfl) (Nat.le_of_ble_eq_true rfl) hRf hRl)) hK trivial hw rfl hl rfl (Nat.le_of_ble_eq_true rfl) ⟨Nat.zero_le _, Nat.zero_le _⟩ dX8_thaw_6 (fun r_6 u_6 H locs hpq hw => ?_)
  obtain ⟨h0_6, h1_6, hz_6⟩ := hpq
  refine lv_if_ne (tgt := 15) hx hb dX8_thaw_9 (by decide) (fun c_9 => ?_) (fun c_9 => ?_)
  · refine lv_aload_n hx hb dX8_thaw_15 rfl (lv_at hl 0 rfl) ?_
    refine r_get (T := TX8) (v := .ref (a 1)) hx hb hts hi8 hown hK hw 0 rfl rfl 0 (by decide) f_1 rfl dX8_thaw_16 ?_
    refine lv_bipush (v := 49) hx hb dX8_thaw_19 (by decide) ?_
    refine r_iald hx hb hK hw 1 0 rfl rfl 49 (by omega) (by decide) dX8_thaw_21 ?_
    refine lv_sipush (v := 9000) hx hb dX8_thaw_22 (by decide) ?_
    refine lv_icmp_le (tgt := 31) hx hb dX8_thaw_25 (by decide) (fun c_25 => ?_) (fun c_25 => ?_)
    · refine lv_aload_n hx hb dX8_thaw_31 rfl (lv_at hl 0 rfl) ?_
      refine lv_iconst (v := 0) hx hb dX8_thaw_32 (by decide) ?_
      refine lv_iload_n hx hb dX8_thaw_33 rfl (lv_at hl 1 rfl) ?_
      have hw := hw.m1
      have hw := hw.m1
      refine c_vv (As := [.int 0, .int d]) (rest := []) ⟨hx, hb, hml, hown, hts⟩ (k_X8_thawOf l D c4 A Ts a n tx pl st va fy fa ry se bh mi fb bo bk w q 0 d hn hY (by decide) (thawI ((inL (lo := 0) (hi := 60) rfl rfl).mp (h1_6 c_9)))) (cwV 2 hts gX8_thaw_X8_thawOf rfl rfl rfl (by decide +kernel) (rmv (Nat.le_of_ble_eq_true rfl) (Nat.le_of_ble_eq_true rfl) hRf hRl)) hK trivial hw rfl rfl rfl hl rfl (Nat.le_of_ble_eq_true rfl) ⟨Nat.zero_le _, Nat.zero_le _⟩ dX8_thaw_34 (fun u_34 H locs hpq hw => ?_)
      obtain ⟨w2_34, rfl⟩ : ∃ z, z = u_34 := ⟨_, rfl⟩
      have hw : gW D A js.heap ((mG a (nI n) tx pl st va fy fa ry se bh mi fb bo bk) :: (aG c4 (a 1) 204 w2_34) :: Ts) H locs := hw
      obtain ⟨hM_34, hN_34, hO_34⟩ := hpq
      have hM_34 : mY (fun y => thawQ d (q y)) n w2_34 0 := hM_34
      have hN_34 : w2_34 (0 + 49) = w (0 + 49) + 1 := hN_34
      have hO_34 : wOt 0 w w2_34 := hO_34
      refine lv_aload_n hx hb dX8_thaw_37 rfl (lv_at hl 0 rfl) ?_
      have hw := hw.m1
      have hw := hw.m1
      refine c_vi (As := []) (rest := []) ⟨hx, hb, hml, hown, hts⟩ (k_X8_allIce l D c4 A Ts a n tx pl st va fy fa ry se bh mi fb bo bk w2_34 (fun y => thawQ d (q y)) hn hM_34) (cwV 0 hts gX8_thaw_X8_allIce rfl rfl rfl (by decide +kernel) (rmv (Nat.le_of_ble_eq_true rfl) (Nat.le_of_ble_eq_true rfl) hRf hRl)) hK trivial hw rfl rfl rfl hl rfl (Nat.le_of_ble_eq_true rfl) ⟨Nat.zero_le _, Nat.zero_le _⟩ dX8_thaw_38 (fun r_38 u_38 H locs hpq hw => ?_)
      have er_38 := hpq
      subst er_38
      exact kr (sumI (fun y => thawQ d (q y)) n) (w2_34) _ _ _ _ hw ⟨_, by unfold thawF; rw [if_pos ((inL (lo := 0) (hi := 60) rfl rfl).mp (h1_6 c_9)), if_pos c_25, show w2_34 49 = w 49 + 1 from hN_34], hM_34, hO_34⟩ dX8_thaw_41
    · refine lv_ldc hx hb hown f_2 dX8_thaw_28 ?_
      exact kr (-1000000004) (w) _ _ _ _ hw ⟨q, by unfold thawF; rw [if_pos ((inL (lo := 0) (hi := 60) rfl rfl).mp (h1_6 c_9)), if_neg c_25], hY, wOt.rf _ _⟩ dX8_thaw_30
  · refine lv_ldc hx hb hown f_3 dX8_thaw_12 ?_
    exact kr (-1000000002) (w) _ _ _ _ hw ⟨q, by unfold thawF; rw [if_neg (fun z => h0_6 c_9 ((inL (lo := 0) (hi := 60) rfl rfl).mpr z))], hY, wOt.rf _ _⟩ dX8_thaw_14
