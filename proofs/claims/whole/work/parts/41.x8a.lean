set_option maxHeartbeats 4000000 in
set_option maxRecDepth 100000 in
theorem k_X8_in (l : Launch) (D : va_G) (c4 : Nat → ClassId) (A : Nat → Prop) (Ts : List va_W) (v : Int64) (lo : Int64) (hi : Int64) : Ci l yX8_in wsX8_in 0 0 [.long v, .long lo, .long hi] D (tyA c4) A none (Ts) (S := Unit) (fun (r : Int32) (u : Unit) => (r = 0 → ¬ (¬ v < lo ∧ ¬ hi < v)) ∧ (¬ r = 0 → (¬ v < lo ∧ ¬ hi < v)) ∧ (r = 1 ∨ r = 0)) (fun u => (Ts)) := by
  refine cOz (cc := cX8_in) (maxL := 6) (by decide) rfl (Nat.le_of_ble_eq_true rfl) rfl ?_
  rintro jp je js jm below meth jc ls args R Q H locs hRf hRl ⟨hx, hb, hml, hr, hts, hown, hlocks, hK, hX⟩ hw hl kr
  have hown : js.vm.findClass RX8 = some jm.cls := hown
  refine lv_lload_n hx hb dX8_in_0 rfl (lv_at hl 0 rfl) ?_
  refine lv_lload_n hx hb dX8_in_1 rfl (lv_at hl 1 rfl) ?_
  refine W.lcmp hx hb dX8_in_2 ?_
  refine lv_if_lt (tgt := 17) hx hb dX8_in_3 (by decide) (fun c_3 => ?_) (fun c_3 => ?_)
  · refine lv_iconst (v := 0) hx hb dX8_in_17 (by decide) ?_
    exact kr 0 () _ _ _ _ hw rfl ⟨(fun _ z => z.1 ((lgc_lt _ _).mp c_3)), (fun h => absurd rfl h), (Or.inr rfl)⟩ dX8_in_18
  · refine lv_lload_n hx hb dX8_in_6 rfl (lv_at hl 0 rfl) ?_
    refine lv_lload hx hb dX8_in_7 (lv_at hl 2 rfl) ?_
    refine W.lcmp hx hb dX8_in_9 ?_
    refine lv_if_gt (tgt := 17) hx hb dX8_in_10 (by decide) (fun c_10 => ?_) (fun c_10 => ?_)
    · refine lv_iconst (v := 0) hx hb dX8_in_17 (by decide) ?_
      exact kr 0 () _ _ _ _ hw rfl ⟨(fun _ z => z.2 ((lgc_gt _ _).mp c_10)), (fun h => absurd rfl h), (Or.inr rfl)⟩ dX8_in_18
    · refine lv_iconst (v := 1) hx hb dX8_in_13 (by decide) ?_
      refine lv_goto (tgt := 18) hx hb dX8_in_14 (by decide) ?_
      exact kr 1 () _ _ _ _ hw rfl ⟨(fun h => absurd h (by decide)), (fun _ => ⟨fun z => c_3 ((lgc_lt _ _).mpr z), fun z => c_10 ((lgc_gt _ _).mpr z)⟩), (Or.inl rfl)⟩ dX8_in_18
set_option maxHeartbeats 4000000 in
set_option maxRecDepth 100000 in
theorem k_X8_isYard (l : Launch) (D : va_G) (c4 : Nat → ClassId) (A : Nat → Prop) (Ts : List va_W) (a : Nat → Nat) (n : Nat) (tx : Int32) (pl : Int32) (st : Int32) (va : Int32) (fy : Int32) (fa : Int32) (ry : Int32) (se : Int32) (bh : Int32) (mi : Int32) (fb : Int32) (bo : Int32) (bk : Int32) (y : Int32) (hn : n ≤ 12) : Ci l yX8_isYard wsX8_isYard 1 25 [.ref (a 0), .int y] D (tyA c4) A none ((mG a (nI n) tx pl st va fy fa ry se bh mi fb bo bk) :: Ts) (S := Unit) (fun (r : Int32) (u : Unit) => (r = 0 → ¬ isY n y) ∧ (¬ r = 0 → ∃ k, k < n ∧ y = nI k)) (fun u => ((mG a (nI n) tx pl st va fy fa ry se bh mi fb bo bk) :: Ts)) := by
  refine cOz (cc := cX8_isYard) (maxL := 2) (by decide) rfl (Nat.le_of_ble_eq_true rfl) rfl ?_
  rintro jp je js jm below meth jc ls args R Q H locs hRf hRl ⟨hx, hb, hml, hr, hts, hown, hlocks, hK, hX⟩ hw hl kr
  have hown : js.vm.findClass RX8 = some jm.cls := hown
  have f_0 := hts (.fieldLink RX8 60 "IceSwayModel" "yards" "I") (by decide +kernel)
  have hi8 : ∀ w ∈ u_ws RX8 TX8 28, w ∈ wsX8_isYard := fun w h => List.mem_cons_of_mem _ (List.mem_append_right _ h)
  refine lv_iload_n hx hb dX8_isYard_0 rfl (lv_at hl 1 rfl) ?_
  refine lv_i2l hx hb dX8_isYard_1 rfl ?_
  refine lv_lconst (v := 0) hx hb dX8_isYard_2 (by decide) ?_
  refine lv_aload_n hx hb dX8_isYard_3 rfl (lv_at hl 0 rfl) ?_
  refine r_get (T := TX8) (v := .int (nI n)) hx hb hts hi8 hown hK hw 0 rfl rfl 2 (by decide) f_0 rfl dX8_isYard_4 ?_
  refine lv_iconst (v := 1) hx hb dX8_isYard_7 (by decide) ?_
  refine lv_isub hx hb dX8_isYard_8 ?_
  refine lv_i2l hx hb dX8_isYard_9 rfl ?_
  refine c_si (As := [.long y.toInt64, .long 0, .long (((nI n) - 1).toInt64)]) (rest := []) ⟨hx, hb, hml, hown, hts⟩ (k_X8_in l D c4 A ((mG a (nI n) tx pl st va fy fa ry se bh mi fb bo bk) :: Ts) y.toInt64 0 (((nI n) - 1).toInt64)) (va_cwS 3 hts gX8_isYard_X8_in rfl rfl rfl (by decide +kernel) (rmv (Nat.le_of_ble_eq_true rfl) (Nat.le_of_ble_eq_true rfl) hRf hRl)) hK trivial hw rfl hl rfl (Nat.le_of_ble_eq_true rfl) ⟨Nat.zero_le _, Nat.zero_le _⟩ dX8_isYard_10 (fun r_10 u_10 H locs hpq hw => ?_)
  obtain ⟨h0_10, h1_10, hz_10⟩ := hpq
  exact kr r_10 () _ _ _ _ hw (z01 hz_10) ⟨(fun z h => h0_10 z ((isY_L hn).mpr h)), (fun z => isY_k ((isY_L hn).mp (h1_10 z)))⟩ dX8_isYard_13
set_option maxHeartbeats 4000000 in
set_option maxRecDepth 100000 in
theorem k_X8_isTime (l : Launch) (D : va_G) (c4 : Nat → ClassId) (A : Nat → Prop) (Ts : List va_W) (v : Int32) : Ci l yX8_isTime wsX8_isTime 1 25 [.int v] D (tyA c4) A none (Ts) (S := Unit) (fun (r : Int32) (u : Unit) => (r = 0 → ¬ inR v 1 999) ∧ (¬ r = 0 → inR v 1 999)) (fun u => (Ts)) := by
  refine cOz (cc := cX8_isTime) (maxL := 1) (by decide) rfl (Nat.le_of_ble_eq_true rfl) rfl ?_
  rintro jp je js jm below meth jc ls args R Q H locs hRf hRl ⟨hx, hb, hml, hr, hts, hown, hlocks, hK, hX⟩ hw hl kr
  have hown : js.vm.findClass RX8 = some jm.cls := hown
  have f_0 := hts (.constantLong RX8 67 (999)) (by decide +kernel)
  refine lv_iload_n hx hb dX8_isTime_0 rfl (lv_at hl 0 rfl) ?_
  refine lv_i2l hx hb dX8_isTime_1 rfl ?_
  refine lv_lconst (v := 1) hx hb dX8_isTime_2 (by decide) ?_
  refine lv_ldc2 hx hb hown f_0 dX8_isTime_3 ?_
  refine c_si (As := [.long v.toInt64, .long 1, .long 999]) (rest := []) ⟨hx, hb, hml, hown, hts⟩ (k_X8_in l D c4 A Ts v.toInt64 1 999) (va_cwS 3 hts gX8_isTime_X8_in rfl rfl rfl (by decide +kernel) (rmv (Nat.le_of_ble_eq_true rfl) (Nat.le_of_ble_eq_true rfl) hRf hRl)) hK trivial hw rfl hl rfl (Nat.le_of_ble_eq_true rfl) ⟨Nat.zero_le _, Nat.zero_le _⟩ dX8_isTime_6 (fun r_6 u_6 H locs hpq hw => ?_)
  obtain ⟨h0_6, h1_6, hz_6⟩ := hpq
  exact kr r_6 () _ _ _ _ hw (z01 hz_6) ⟨(fun z h => h0_6 z ((inL (lo := 1) (hi := 999) rfl rfl).mpr h)), (fun z => (inL (lo := 1) (hi := 999) rfl rfl).mp (h1_6 z))⟩ dX8_isTime_9
set_option maxHeartbeats 4000000 in
set_option maxRecDepth 100000 in
theorem k_X8_copy (l : Launch) (D : va_G) (c4 : Nat → ClassId) (A : Nat → Prop) (Ts : List va_W) (a : Nat → Nat) (yn : Int32) (tx : Int32) (pl : Int32) (st : Int32) (va : Int32) (fy : Int32) (fa : Int32) (ry : Int32) (se : Int32) (bh : Int32) (mi : Int32) (fb : Int32) (bo : Int32) (bk : Int32) (w : Nat → Int32) (f : Nat) (g : Nat) (hf : f + 51 ≤ 204) (hg : g + 51 ≤ 204) (hfg : f + 51 ≤ g ∨ g + 51 ≤ f) : Cv l yX8_copy wsX8_copy 0 0 [.ref (a 0), .int (nI f), .int (nI g)] D (tyA c4) A none ((mG a yn tx pl st va fy fa ry se bh mi fb bo bk) :: (aG c4 (a 1) 204 w) :: Ts) (S := Unit) (fun (u : Unit) => True) (fun u => ((mG a yn tx pl st va fy fa ry se bh mi fb bo bk) :: (aG c4 (a 1) 204 (fb_put w (fun k => w (f + k)) g 51)) :: Ts)) := by
  refine cOv (cc := cX8_copy) (maxL := 4) (by decide) rfl (Nat.le_of_ble_eq_true rfl) rfl ?_
  rintro jp je js jm below meth jc ls args R Q H locs hRf hRl ⟨hx, hb, hml, hr, hts, hown, hlocks, hK, hX⟩ hw hl kr
  have hown : js.vm.findClass RX8 = some jm.cls := hown
  have f_0 := hts (.fieldLink RX8 7 "IceSwayModel" "w" "[I") (by decide +kernel)
  have hi8 : ∀ w ∈ u_ws RX8 TX8 28, w ∈ wsX8_copy := fun w h => List.mem_cons_of_mem _ (List.mem_append_right _ h)
  refine lv_iconst (v := 0) hx hb dX8_copy_0 (by decide) ?_
  refine lv_istore_n (lv' := [(3, .int 0), (0, .ref (a 0)), (1, .int (nI f)), (2, .int (nI g))]) hx hb dX8_copy_1 rfl hl (by decide) rfl (fun ls hl => ?_)
  have loop_2 : ∀ (fuel : Nat) (i : Nat), (51 - i) < fuel → (i ≤ 51) → ∀ (H : Heap) (locs : List Loc), gW D A js.heap ((mG a yn tx pl st va fy fa ry se bh mi fb bo bk) :: (aG c4 (a 1) 204 (fb_put w (fun k => w (f + k)) g i)) :: Ts) H locs → ∀ (ls : Array Slot), lv_has ls 4 [(3, .int (nI i)), (0, .ref (a 0)), (1, .int (nI f)), (2, .int (nI g))] → W jp l je R js jm args below meth jc H locs 0 0 Q (F0 jm 2 ls []) := by
    intro fuel
    induction fuel with
    | zero => intro i hm; exact absurd hm (Nat.not_lt_zero _)
    | succ fuel ih_2 =>
      intro i hm_2 hi H locs hw ls hl
      refine lv_iload_n hx hb dX8_copy_2 rfl (lv_at hl 0 rfl) ?_
      refine lv_bipush (v := 51) hx hb dX8_copy_3 (by decide) ?_
      refine r_cge hx hb i 51 (by omega) (by omega) (tgt := 30) dX8_copy_5 (by decide) (fun c_5 => ?_) (fun c_5 => ?_)
      · rw [show fb_put w (fun k => w (f + k)) g i = fb_put w (fun k => w (f + k)) g 51 from (by rw [show i = 51 by omega])] at hw
        exact kr () _ _ _ _ hw trivial dX8_copy_30
      · refine lv_aload_n hx hb dX8_copy_8 rfl (lv_at hl 1 rfl) ?_
        refine r_get (T := TX8) (v := .ref (a 1)) hx hb hts hi8 hown hK hw 0 rfl rfl 0 (by decide) f_0 rfl dX8_copy_9 ?_
        refine lv_iload_n hx hb dX8_copy_12 rfl (lv_at hl 3 rfl) ?_
        refine lv_iload_n hx hb dX8_copy_13 rfl (lv_at hl 0 rfl) ?_
        refine r_addN hx hb g i dX8_copy_14 ?_
        refine lv_aload_n hx hb dX8_copy_15 rfl (lv_at hl 1 rfl) ?_
        refine r_get (T := TX8) (v := .ref (a 1)) hx hb hts hi8 hown hK hw 0 rfl rfl 0 (by decide) f_0 rfl dX8_copy_16 ?_
        refine lv_iload_n hx hb dX8_copy_19 rfl (lv_at hl 2 rfl) ?_
        refine lv_iload_n hx hb dX8_copy_20 rfl (lv_at hl 0 rfl) ?_
        refine r_addN hx hb f i dX8_copy_21 ?_
        refine r_iald hx hb hK hw 1 0 rfl rfl (f + i) (by omega) (by decide) dX8_copy_22 ?_
        refine r_iast (G' := ((mG a yn tx pl st va fy fa ry se bh mi fb bo bk) :: (aG c4 (a 1) 204 (upd (fb_put w (fun k => w (f + k)) g i) (g + i) ((fb_put w (fun k => w (f + k)) g i) (f + i)))) :: Ts)) hx hb hK hw 1 0 rfl rfl (g + i) (by omega) (by decide) rfl dX8_copy_23 (fun H locs hw => ?_)
        refine lv_iinc (v := (nI (i + 1))) (lv' := [(3, .int (nI (i + 1))), (0, .ref (a 0)), (1, .int (nI f)), (2, .int (nI g))]) hx hb dX8_copy_24 hl (k := 0) rfl (nI_add _ _) (by decide) rfl (fun ls hl => ?_)
        refine lv_goto (tgt := 2) hx hb dX8_copy_27 (by decide) ?_
        rw [show upd (fb_put w (fun k => w (f + k)) g i) (g + i) ((fb_put w (fun k => w (f + k)) g i) (f + i)) = fb_put w (fun k => w (f + k)) g (i + 1) from (by rw [fb_put_out (by omega)]; exact fb_put_succ _ _ _ _)] at hw
        exact ih_2 (i + 1) (by omega) (by omega) _ _ hw ls (lv_sub hl [0, 1, 2, 3] rfl)
  rw [show w = fb_put w (fun k => w (f + k)) g 0 from (fb_put_0 _ _ _).symm] at hw
  exact loop_2 ((51 - 0) + 1) 0 (Nat.lt_succ_self _) (Nat.zero_le _) _ _ hw ls (lv_sub hl [0, 1, 2, 3] rfl)
set_option maxHeartbeats 4000000 in
set_option maxRecDepth 100000 in
theorem k_X8_reads (l : Launch) (D : va_G) (c4 : Nat → ClassId) (A : Nat → Prop) (Ts : List va_W) (a : Nat → Nat) (yn : Int32) (tx : Int32) (pl : Int32) (st : Int32) (va : Int32) (fy : Int32) (fa : Int32) (ry : Int32) (se : Int32) (bh : Int32) (mi : Int32) (fb : Int32) (bo : Int32) (bk : Int32) (told : Nat → Int32) : Cv l yX8_reads wsX8_reads 0 0 [.ref (a 0)] D (tyA c4) A none ((mG a yn tx pl st va fy fa ry se bh mi fb bo bk) :: (aG c4 (a 2) 18 told) :: Ts) (S := (Nat → Int32)) (fun (u : (Nat → Int32)) => toR u nb0 ∧ loSame told u) (fun u => ((mG a yn tx 0 st va 0 (-1) 0 0 bh mi fb bo bk) :: (aG c4 (a 2) 18 u) :: Ts)) := by
  refine cOv (cc := cX8_reads) (maxL := 1) (by decide) rfl (Nat.le_of_ble_eq_true rfl) rfl ?_
  rintro jp je js jm below meth jc ls args R Q H locs hRf hRl ⟨hx, hb, hml, hr, hts, hown, hlocks, hK, hX⟩ hw hl kr
  have hown : js.vm.findClass RX8 = some jm.cls := hown
  have f_0 := hts (.fieldLink RX8 13 "IceSwayModel" "told" "[I") (by decide +kernel)
  have f_1 := hts (.fieldLink RX8 69 "IceSwayModel" "readYards" "I") (by decide +kernel)
  have f_2 := hts (.fieldLink RX8 72 "IceSwayModel" "seen" "I") (by decide +kernel)
  have f_3 := hts (.fieldLink RX8 75 "IceSwayModel" "at" "I") (by decide +kernel)
  have f_4 := hts (.fieldLink RX8 78 "IceSwayModel" "faulty" "I") (by decide +kernel)
  have f_5 := hts (.fieldLink RX8 23 "IceSwayModel" "faultAt" "I") (by decide +kernel)
  have hi8 : ∀ w ∈ u_ws RX8 TX8 28, w ∈ wsX8_reads := fun w h => List.mem_cons_of_mem _ (List.mem_append_right _ h)
  refine lv_aload_n hx hb dX8_reads_0 rfl (lv_at hl 0 rfl) ?_
  refine r_get (T := TX8) (v := .ref (a 2)) hx hb hts hi8 hown hK hw 0 rfl rfl 1 (by decide) f_0 rfl dX8_reads_1 ?_
  refine lv_bipush (v := 9) hx hb dX8_reads_4 (by decide) ?_
  refine lv_iconst (v := 4) hx hb dX8_reads_6 (by decide) ?_
  refine r_iast (G' := ((mG a yn tx pl st va fy fa ry se bh mi fb bo bk) :: (aG c4 (a 2) 18 (upd told 9 4)) :: Ts)) hx hb hK hw 1 0 rfl rfl 9 (by decide) (by decide) rfl dX8_reads_7 (fun H locs hw => ?_)
  refine lv_aload_n hx hb dX8_reads_8 rfl (lv_at hl 0 rfl) ?_
  refine r_get (T := TX8) (v := .ref (a 2)) hx hb hts hi8 hown hK hw 0 rfl rfl 1 (by decide) f_0 rfl dX8_reads_9 ?_
  refine lv_bipush (v := 10) hx hb dX8_reads_12 (by decide) ?_
  refine lv_bipush (v := 10) hx hb dX8_reads_14 (by decide) ?_
  refine r_iast (G' := ((mG a yn tx pl st va fy fa ry se bh mi fb bo bk) :: (aG c4 (a 2) 18 (upd (upd told 9 4) 10 10)) :: Ts)) hx hb hK hw 1 0 rfl rfl 10 (by decide) (by decide) rfl dX8_reads_16 (fun H locs hw => ?_)
  refine lv_aload_n hx hb dX8_reads_17 rfl (lv_at hl 0 rfl) ?_
  refine r_get (T := TX8) (v := .ref (a 2)) hx hb hts hi8 hown hK hw 0 rfl rfl 1 (by decide) f_0 rfl dX8_reads_18 ?_
  refine lv_bipush (v := 11) hx hb dX8_reads_21 (by decide) ?_
  refine lv_iconst (v := 4) hx hb dX8_reads_23 (by decide) ?_
  refine r_iast (G' := ((mG a yn tx pl st va fy fa ry se bh mi fb bo bk) :: (aG c4 (a 2) 18 (upd (upd (upd told 9 4) 10 10) 11 4)) :: Ts)) hx hb hK hw 1 0 rfl rfl 11 (by decide) (by decide) rfl dX8_reads_24 (fun H locs hw => ?_)
  refine lv_aload_n hx hb dX8_reads_25 rfl (lv_at hl 0 rfl) ?_
  refine r_get (T := TX8) (v := .ref (a 2)) hx hb hts hi8 hown hK hw 0 rfl rfl 1 (by decide) f_0 rfl dX8_reads_26 ?_
  refine lv_bipush (v := 12) hx hb dX8_reads_29 (by decide) ?_
  refine lv_iconst (v := 0) hx hb dX8_reads_31 (by decide) ?_
  refine r_iast (G' := ((mG a yn tx pl st va fy fa ry se bh mi fb bo bk) :: (aG c4 (a 2) 18 (upd (upd (upd (upd told 9 4) 10 10) 11 4) 12 0)) :: Ts)) hx hb hK hw 1 0 rfl rfl 12 (by decide) (by decide) rfl dX8_reads_32 (fun H locs hw => ?_)
  refine lv_aload_n hx hb dX8_reads_33 rfl (lv_at hl 0 rfl) ?_
  refine r_get (T := TX8) (v := .ref (a 2)) hx hb hts hi8 hown hK hw 0 rfl rfl 1 (by decide) f_0 rfl dX8_reads_34 ?_
  refine lv_bipush (v := 13) hx hb dX8_reads_37 (by decide) ?_
  refine lv_bipush (v := 60) hx hb dX8_reads_39 (by decide) ?_
  refine r_iast (G' := ((mG a yn tx pl st va fy fa ry se bh mi fb bo bk) :: (aG c4 (a 2) 18 (upd (upd (upd (upd (upd told 9 4) 10 10) 11 4) 12 0) 13 60)) :: Ts)) hx hb hK hw 1 0 rfl rfl 13 (by decide) (by decide) rfl dX8_reads_41 (fun H locs hw => ?_)
  refine lv_aload_n hx hb dX8_reads_42 rfl (lv_at hl 0 rfl) ?_
  refine r_get (T := TX8) (v := .ref (a 2)) hx hb hts hi8 hown hK hw 0 rfl rfl 1 (by decide) f_0 rfl dX8_reads_43 ?_
  refine lv_bipush (v := 14) hx hb dX8_reads_46 (by decide) ?_
  refine lv_bipush (v := 20) hx hb dX8_reads_48 (by decide) ?_
  refine r_iast (G' := ((mG a yn tx pl st va fy fa ry se bh mi fb bo bk) :: (aG c4 (a 2) 18 (upd (upd (upd (upd (upd (upd told 9 4) 10 10) 11 4) 12 0) 13 60) 14 20)) :: Ts)) hx hb hK hw 1 0 rfl rfl 14 (by decide) (by decide) rfl dX8_reads_50 (fun H locs hw => ?_)
  refine lv_aload_n hx hb dX8_reads_51 rfl (lv_at hl 0 rfl) ?_
  refine r_get (T := TX8) (v := .ref (a 2)) hx hb hts hi8 hown hK hw 0 rfl rfl 1 (by decide) f_0 rfl dX8_reads_52 ?_
  refine lv_bipush (v := 15) hx hb dX8_reads_55 (by decide) ?_
  refine lv_iconst (v := 3) hx hb dX8_reads_57 (by decide) ?_
  refine r_iast (G' := ((mG a yn tx pl st va fy fa ry se bh mi fb bo bk) :: (aG c4 (a 2) 18 (upd (upd (upd (upd (upd (upd (upd told 9 4) 10 10) 11 4) 12 0) 13 60) 14 20) 15 3)) :: Ts)) hx hb hK hw 1 0 rfl rfl 15 (by decide) (by decide) rfl dX8_reads_58 (fun H locs hw => ?_)
  refine lv_aload_n hx hb dX8_reads_59 rfl (lv_at hl 0 rfl) ?_
  refine r_get (T := TX8) (v := .ref (a 2)) hx hb hts hi8 hown hK hw 0 rfl rfl 1 (by decide) f_0 rfl dX8_reads_60 ?_
  refine lv_bipush (v := 16) hx hb dX8_reads_63 (by decide) ?_
  refine lv_bipush (v := 10) hx hb dX8_reads_65 (by decide) ?_
  refine r_iast (G' := ((mG a yn tx pl st va fy fa ry se bh mi fb bo bk) :: (aG c4 (a 2) 18 (upd (upd (upd (upd (upd (upd (upd (upd told 9 4) 10 10) 11 4) 12 0) 13 60) 14 20) 15 3) 16 10)) :: Ts)) hx hb hK hw 1 0 rfl rfl 16 (by decide) (by decide) rfl dX8_reads_67 (fun H locs hw => ?_)
  refine lv_aload_n hx hb dX8_reads_68 rfl (lv_at hl 0 rfl) ?_
  refine r_get (T := TX8) (v := .ref (a 2)) hx hb hts hi8 hown hK hw 0 rfl rfl 1 (by decide) f_0 rfl dX8_reads_69 ?_
  refine lv_bipush (v := 17) hx hb dX8_reads_72 (by decide) ?_
  refine lv_bipush (v := 50) hx hb dX8_reads_74 (by decide) ?_
  refine r_iast (G' := ((mG a yn tx pl st va fy fa ry se bh mi fb bo bk) :: (aG c4 (a 2) 18 (upd (upd (upd (upd (upd (upd (upd (upd (upd told 9 4) 10 10) 11 4) 12 0) 13 60) 14 20) 15 3) 16 10) 17 50)) :: Ts)) hx hb hK hw 1 0 rfl rfl 17 (by decide) (by decide) rfl dX8_reads_76 (fun H locs hw => ?_)
  refine lv_aload_n hx hb dX8_reads_77 rfl (lv_at hl 0 rfl) ?_
  refine lv_iconst (v := 0) hx hb dX8_reads_78 (by decide) ?_
  refine r_put (T := TX8) (G' := ((mG a yn tx pl st va fy fa 0 se bh mi fb bo bk) :: (aG c4 (a 2) 18 (upd (upd (upd (upd (upd (upd (upd (upd (upd told 9 4) 10 10) 11 4) 12 0) 13 60) 14 20) 15 3) 16 10) 17 50)) :: Ts)) hx hb hts hi8 tyX8 tyX8_ok nmX8 hown hK hw 0 rfl rfl 11 (by decide) f_1 rfl rfl (Nat.le_of_ble_eq_true rfl) rfl dX8_reads_79 (fun H locs hw => ?_)
  refine lv_aload_n hx hb dX8_reads_82 rfl (lv_at hl 0 rfl) ?_
  refine lv_iconst (v := 0) hx hb dX8_reads_83 (by decide) ?_
  refine r_put (T := TX8) (G' := ((mG a yn tx pl st va fy fa 0 0 bh mi fb bo bk) :: (aG c4 (a 2) 18 (upd (upd (upd (upd (upd (upd (upd (upd (upd told 9 4) 10 10) 11 4) 12 0) 13 60) 14 20) 15 3) 16 10) 17 50)) :: Ts)) hx hb hts hi8 tyX8 tyX8_ok nmX8 hown hK hw 0 rfl rfl 12 (by decide) f_2 rfl rfl (Nat.le_of_ble_eq_true rfl) rfl dX8_reads_84 (fun H locs hw => ?_)
  refine lv_aload_n hx hb dX8_reads_87 rfl (lv_at hl 0 rfl) ?_
  refine lv_iconst (v := 0) hx hb dX8_reads_88 (by decide) ?_
  refine r_put (T := TX8) (G' := ((mG a yn tx 0 st va fy fa 0 0 bh mi fb bo bk) :: (aG c4 (a 2) 18 (upd (upd (upd (upd (upd (upd (upd (upd (upd told 9 4) 10 10) 11 4) 12 0) 13 60) 14 20) 15 3) 16 10) 17 50)) :: Ts)) hx hb hts hi8 tyX8 tyX8_ok nmX8 hown hK hw 0 rfl rfl 6 (by decide) f_3 rfl rfl (Nat.le_of_ble_eq_true rfl) rfl dX8_reads_89 (fun H locs hw => ?_)
  refine lv_aload_n hx hb dX8_reads_92 rfl (lv_at hl 0 rfl) ?_
  refine lv_iconst (v := 0) hx hb dX8_reads_93 (by decide) ?_
  refine r_put (T := TX8) (G' := ((mG a yn tx 0 st va 0 fa 0 0 bh mi fb bo bk) :: (aG c4 (a 2) 18 (upd (upd (upd (upd (upd (upd (upd (upd (upd told 9 4) 10 10) 11 4) 12 0) 13 60) 14 20) 15 3) 16 10) 17 50)) :: Ts)) hx hb hts hi8 tyX8 tyX8_ok nmX8 hown hK hw 0 rfl rfl 9 (by decide) f_4 rfl rfl (Nat.le_of_ble_eq_true rfl) rfl dX8_reads_94 (fun H locs hw => ?_)
  refine lv_aload_n hx hb dX8_reads_97 rfl (lv_at hl 0 rfl) ?_
  refine lv_iconst (v := (-1)) hx hb dX8_reads_98 (by decide) ?_
  refine r_put (T := TX8) (G' := ((mG a yn tx 0 st va 0 (-1) 0 0 bh mi fb bo bk) :: (aG c4 (a 2) 18 (upd (upd (upd (upd (upd (upd (upd (upd (upd told 9 4) 10 10) 11 4) 12 0) 13 60) 14 20) 15 3) 16 10) 17 50)) :: Ts)) hx hb hts hi8 tyX8 tyX8_ok nmX8 hown hK hw 0 rfl rfl 10 (by decide) f_5 rfl rfl (Nat.le_of_ble_eq_true rfl) rfl dX8_reads_99 (fun H locs hw => ?_)
  exact kr (upd (upd (upd (upd (upd (upd (upd (upd (upd told 9 4) 10 10) 11 4) 12 0) 13 60) 14 20) 15 3) 16 10) 17 50) _ _ _ _ hw (rd_told told) dX8_reads_102
set_option maxHeartbeats 4000000 in
set_option maxRecDepth 100000 in
theorem k_X8_feed (l : Launch) (D : va_G) (c4 : Nat → ClassId) (A : Nat → Prop) (Ts : List va_W) (a : Nat → Nat) (yn : Int32) (ln : Nat) (pl : Int32) (st : Int32) (va : Int32) (fy : Int32) (fa : Int32) (ry : Int32) (se : Int32) (bh : Int32) (mi : Int32) (fb : Int32) (bo : Int32) (bk : Int32) (lt : Nat → Int32) (v : Int32) (hln : ln ≤ 230) : Ci l yX8_feed wsX8_feed 1 25 [.ref (a 0), .int v] D (tyA c4) A none ((mG a yn (nI ln) pl st va fy fa ry se bh mi fb bo bk) :: (aG c4 (a 4) 230 lt) :: Ts) (S := Nat × (Nat → Int32)) (fun (r : Int32) (u : Nat × (Nat → Int32)) => ((r, u.1) = fdF v ln) ∧ (u.2 = fdL v ln lt)) (fun u => ((mG a yn (nI u.1) pl st va fy fa ry se bh mi fb bo bk) :: (aG c4 (a 4) 230 u.2) :: Ts)) := by
  refine cOi (cc := cX8_feed) (maxL := 2) (by decide) rfl (Nat.le_of_ble_eq_true rfl) rfl ?_
  rintro jp je js jm below meth jc ls args R Q H locs hRf hRl ⟨hx, hb, hml, hr, hts, hown, hlocks, hK, hX⟩ hw hl kr
  have hown : js.vm.findClass RX8 = some jm.cls := hown
  have f_0 := hts (.constantLong RX8 81 (255)) (by decide +kernel)
  have f_1 := hts (.fieldLink RX8 84 "IceSwayModel" "texted" "I") (by decide +kernel)
  have f_2 := hts (.fieldLink RX8 20 "IceSwayModel" "text" "[I") (by decide +kernel)
  have f_3 := hts (.constant RX8 87 (-1000000004)) (by decide +kernel)
  have f_4 := hts (.constant RX8 83 (-1000000002)) (by decide +kernel)
  have hi8 : ∀ w ∈ u_ws RX8 TX8 28, w ∈ wsX8_feed := fun w h => List.mem_cons_of_mem _ (List.mem_append_right _ h)
  refine lv_iload_n hx hb dX8_feed_0 rfl (lv_at hl 1 rfl) ?_
  refine lv_i2l hx hb dX8_feed_1 rfl ?_
  refine lv_lconst (v := 0) hx hb dX8_feed_2 (by decide) ?_
  refine lv_ldc2 hx hb hown f_0 dX8_feed_3 ?_
  refine c_si (As := [.long v.toInt64, .long 0, .long 255]) (rest := []) ⟨hx, hb, hml, hown, hts⟩ (k_X8_in l D c4 A ((mG a yn (nI ln) pl st va fy fa ry se bh mi fb bo bk) :: (aG c4 (a 4) 230 lt) :: Ts) v.toInt64 0 255) (va_cwS 3 hts gX8_feed_X8_in rfl rfl rfl (by decide +kernel) (rmv (Nat.le_of_ble_eq_true rfl) (Nat.le_of_ble_eq_true rfl) hRf hRl)) hK trivial hw rfl hl rfl (Nat.le_of_ble_eq_true rfl) ⟨Nat.zero_le _, Nat.zero_le _⟩ dX8_feed_6 (fun r_6 u_6 H locs hpq hw => ?_)
  obtain ⟨h0_6, h1_6, hz_6⟩ := hpq
  refine lv_if_ne (tgt := 15) hx hb dX8_feed_9 (by decide) (fun c_9 => ?_) (fun c_9 => ?_)
  · have hin : inR v 0 255 := (inL (lo := 0) (hi := 255) rfl rfl).mp (h1_6 c_9)
    refine lv_aload_n hx hb dX8_feed_15 rfl (lv_at hl 0 rfl) ?_
    refine r_get (T := TX8) (v := .int (nI ln)) hx hb hts hi8 hown hK hw 0 rfl rfl 5 (by decide) f_1 rfl dX8_feed_16 ?_
    refine lv_sipush (v := 230) hx hb dX8_feed_19 (by decide) ?_
    refine r_cne hx hb ln 230 (by omega) (by omega) (tgt := 28) dX8_feed_22 (by decide) (fun c_22 => ?_) (fun c_22 => ?_)
    · refine lv_aload_n hx hb dX8_feed_28 rfl (lv_at hl 0 rfl) ?_
      refine r_get (T := TX8) (v := .ref (a 4)) hx hb hts hi8 hown hK hw 0 rfl rfl 4 (by decide) f_2 rfl dX8_feed_29 ?_
      refine lv_aload_n hx hb dX8_feed_32 rfl (lv_at hl 0 rfl) ?_
      refine r_get (T := TX8) (v := .int (nI ln)) hx hb hts hi8 hown hK hw 0 rfl rfl 5 (by decide) f_1 rfl dX8_feed_33 ?_
      refine lv_iload_n hx hb dX8_feed_36 rfl (lv_at hl 1 rfl) ?_
      refine r_iast (G' := ((mG a yn (nI ln) pl st va fy fa ry se bh mi fb bo bk) :: (aG c4 (a 4) 230 (upd lt ln v)) :: Ts)) hx hb hK hw 1 0 rfl rfl ln (by omega) (by decide) rfl dX8_feed_37 (fun H locs hw => ?_)
      refine lv_aload_n hx hb dX8_feed_38 rfl (lv_at hl 0 rfl) ?_
      refine lv_dup hx hb dX8_feed_39 rfl ?_
      refine r_get (T := TX8) (v := .int (nI ln)) hx hb hts hi8 hown hK hw 0 rfl rfl 5 (by decide) f_1 rfl dX8_feed_40 ?_
      refine lv_iconst (v := 1) hx hb dX8_feed_43 (by decide) ?_
      refine r_addN hx hb ln 1 dX8_feed_44 ?_
      refine r_put (T := TX8) (G' := ((mG a yn (nI (ln + 1)) pl st va fy fa ry se bh mi fb bo bk) :: (aG c4 (a 4) 230 (upd lt ln v)) :: Ts)) hx hb hts hi8 tyX8 tyX8_ok nmX8 hown hK hw 0 rfl rfl 5 (by decide) f_1 rfl rfl (Nat.le_of_ble_eq_true rfl) rfl dX8_feed_45 (fun H locs hw => ?_)
      refine lv_aload_n hx hb dX8_feed_48 rfl (lv_at hl 0 rfl) ?_
      refine r_get (T := TX8) (v := .int (nI (ln + 1))) hx hb hts hi8 hown hK hw 0 rfl rfl 5 (by decide) f_1 rfl dX8_feed_49 ?_
      exact kr (nI (ln + 1)) (ln + 1, upd lt ln v) _ _ _ _ hw ⟨(by unfold fdF; rw [if_pos hin, if_pos (by omega)]), (by unfold fdL; rw [if_pos hin, if_pos (by omega)])⟩ dX8_feed_52
    · refine lv_ldc hx hb hown f_3 dX8_feed_25 ?_
      exact kr (-1000000004) (ln, lt) _ _ _ _ hw ⟨(by unfold fdF; rw [if_pos hin, if_neg (by omega)]), (by unfold fdL; rw [if_pos hin, if_neg (by omega)])⟩ dX8_feed_27
  · have hin : ¬ inR v 0 255 := fun z => h0_6 c_9 ((inL (lo := 0) (hi := 255) rfl rfl).mpr z)
    refine lv_ldc hx hb hown f_4 dX8_feed_12 ?_
    exact kr (-1000000002) (ln, lt) _ _ _ _ hw ⟨(by unfold fdF; rw [if_neg hin]), (by unfold fdL; rw [if_neg hin])⟩ dX8_feed_14
set_option maxHeartbeats 4000000 in
set_option maxRecDepth 100000 in
theorem k_X8_letterAt (l : Launch) (D : va_G) (c4 : Nat → ClassId) (A : Nat → Prop) (Ts : List va_W) (a : Nat → Nat) (yn : Int32) (ln : Nat) (pl : Int32) (st : Int32) (va : Int32) (fy : Int32) (fa : Int32) (ry : Int32) (se : Int32) (bh : Int32) (mi : Int32) (fb : Int32) (bo : Int32) (bk : Int32) (lt : Nat → Int32) (k : Nat) (hln : ln ≤ 230) (hk : k ≤ ln) : Ci l yX8_letterAt wsX8_letterAt 0 0 [.ref (a 0), .int (nI k)] D (tyA c4) A none ((mG a yn (nI ln) pl st va fy fa ry se bh mi fb bo bk) :: (aG c4 (a 4) 230 lt) :: Ts) (S := Unit) (fun (r : Int32) (u : Unit) => r = (ltA lt ln k)) (fun u => ((mG a yn (nI ln) pl st va fy fa ry se bh mi fb bo bk) :: (aG c4 (a 4) 230 lt) :: Ts)) := by
  refine cOi (cc := cX8_letterAt) (maxL := 2) (by decide) rfl (Nat.le_of_ble_eq_true rfl) rfl ?_
  rintro jp je js jm below meth jc ls args R Q H locs hRf hRl ⟨hx, hb, hml, hr, hts, hown, hlocks, hK, hX⟩ hw hl kr
  have hown : js.vm.findClass RX8 = some jm.cls := hown
  have f_0 := hts (.fieldLink RX8 84 "IceSwayModel" "texted" "I") (by decide +kernel)
  have f_1 := hts (.fieldLink RX8 20 "IceSwayModel" "text" "[I") (by decide +kernel)
  have hi8 : ∀ w ∈ u_ws RX8 TX8 28, w ∈ wsX8_letterAt := fun w h => List.mem_cons_of_mem _ (List.mem_append_right _ h)
  refine lv_iload_n hx hb dX8_letterAt_0 rfl (lv_at hl 1 rfl) ?_
  refine lv_aload_n hx hb dX8_letterAt_1 rfl (lv_at hl 0 rfl) ?_
  refine r_get (T := TX8) (v := .int (nI ln)) hx hb hts hi8 hown hK hw 0 rfl rfl 5 (by decide) f_0 rfl dX8_letterAt_2 ?_
  refine r_cge hx hb k ln (by omega) (by omega) (tgt := 17) dX8_letterAt_5 (by decide) (fun c_5 => ?_) (fun c_5 => ?_)
  · refine lv_iconst (v := (-1)) hx hb dX8_letterAt_17 (by decide) ?_
    exact kr (-1) () _ _ _ _ hw (ltA_out c_5).symm dX8_letterAt_18
  · refine lv_aload_n hx hb dX8_letterAt_8 rfl (lv_at hl 0 rfl) ?_
    refine r_get (T := TX8) (v := .ref (a 4)) hx hb hts hi8 hown hK hw 0 rfl rfl 4 (by decide) f_1 rfl dX8_letterAt_9 ?_
    refine lv_iload_n hx hb dX8_letterAt_12 rfl (lv_at hl 1 rfl) ?_
    refine r_iald hx hb hK hw 1 0 rfl rfl k (by omega) (by decide) dX8_letterAt_13 ?_
    refine lv_goto (tgt := 18) hx hb dX8_letterAt_14 (by decide) ?_
    exact kr (lt k) () _ _ _ _ hw (ltA_in c_5).symm dX8_letterAt_18
set_option maxHeartbeats 4000000 in
set_option maxRecDepth 100000 in
theorem k_X8_here (l : Launch) (D : va_G) (c4 : Nat → ClassId) (A : Nat → Prop) (Ts : List va_W) (a : Nat → Nat) (yn : Int32) (ln : Nat) (p : Nat) (st : Int32) (va : Int32) (fy : Int32) (fa : Int32) (ry : Int32) (se : Int32) (bh : Int32) (mi : Int32) (fb : Int32) (bo : Int32) (bk : Int32) (lt : Nat → Int32) (hln : ln ≤ 230) (hp : p ≤ ln) : Ci l yX8_here wsX8_here 1 21 [.ref (a 0)] D (tyA c4) A none ((mG a yn (nI ln) (nI p) st va fy fa ry se bh mi fb bo bk) :: (aG c4 (a 4) 230 lt) :: Ts) (S := Unit) (fun (r : Int32) (u : Unit) => r = (ltA lt ln (skp lt ln p))) (fun u => ((mG a yn (nI ln) (nI (skp lt ln p)) (nI (skp lt ln p)) va fy fa ry se bh mi fb bo bk) :: (aG c4 (a 4) 230 lt) :: Ts)) := by
  refine cOi (cc := cX8_here) (maxL := 1) (by decide) rfl (Nat.le_of_ble_eq_true rfl) rfl ?_
  rintro jp je js jm below meth jc ls args R Q H locs hRf hRl ⟨hx, hb, hml, hr, hts, hown, hlocks, hK, hX⟩ hw hl kr
  have hown : js.vm.findClass RX8 = some jm.cls := hown
  have f_0 := hts (.fieldLink RX8 75 "IceSwayModel" "at" "I") (by decide +kernel)
  have f_1 := hts (.fieldLink RX8 92 "IceSwayModel" "start" "I") (by decide +kernel)
  have hi8 : ∀ w ∈ u_ws RX8 TX8 28, w ∈ wsX8_here := fun w h => List.mem_cons_of_mem _ (List.mem_append_right _ h)
  have loop_0 : ∀ (fuel : Nat) (p1 : Nat), (ln - p1) < fuel → (p1 ≤ ln) → (skp lt ln p1 = skp lt ln p) → ∀ (H : Heap) (locs : List Loc), gW D A js.heap ((mG a yn (nI ln) (nI p1) st va fy fa ry se bh mi fb bo bk) :: (aG c4 (a 4) 230 lt) :: Ts) H locs → ∀ (ls : Array Slot), lv_has ls 1 [(0, .ref (a 0))] → W jp l je R js jm args below meth jc H locs 0 0 Q (F0 jm 0 ls []) := by
    intro fuel
    induction fuel with
    | zero => intro p1 hm; exact absurd hm (Nat.not_lt_zero _)
    | succ fuel ih_0 =>
      intro p1 hm_0 hq hS H locs hw ls hl
      refine lv_aload_n hx hb dX8_here_0 rfl (lv_at hl 0 rfl) ?_
      refine lv_aload_n hx hb dX8_here_1 rfl (lv_at hl 0 rfl) ?_
      refine r_get (T := TX8) (v := .int (nI p1)) hx hb hts hi8 hown hK hw 0 rfl rfl 6 (by decide) f_0 rfl dX8_here_2 ?_
      have hw := hw.m1
      have hw := hw.m1
      refine c_vi (As := [.int (nI p1)]) (rest := []) ⟨hx, hb, hml, hown, hts⟩ (k_X8_letterAt l D c4 A Ts a yn ln (nI p1) st va fy fa ry se bh mi fb bo bk lt p1 hln hq) (cwV 1 hts gX8_here_X8_letterAt rfl rfl rfl (by decide +kernel) (rmv (Nat.le_of_ble_eq_true rfl) (Nat.le_of_ble_eq_true rfl) hRf hRl)) hK trivial hw rfl rfl rfl hl rfl (Nat.le_of_ble_eq_true rfl) ⟨Nat.zero_le _, Nat.zero_le _⟩ dX8_here_5 (fun r_5 u_5 H locs hpq hw => ?_)
      have er_5 := hpq
      subst er_5
      refine lv_bipush (v := 32) hx hb dX8_here_8 (by decide) ?_
      refine lv_icmp_ne (tgt := 26) hx hb dX8_here_10 (by decide) (fun c_10 => ?_) (fun c_10 => ?_)
      · have hsk : p1 = skp lt ln p := (skp_no (fun z => c_10 (by rw [ltA_in z.1]; exact z.2))).trans hS
        rw [hsk] at hw hq
        refine lv_aload_n hx hb dX8_here_26 rfl (lv_at hl 0 rfl) ?_
        refine lv_aload_n hx hb dX8_here_27 rfl (lv_at hl 0 rfl) ?_
        refine r_get (T := TX8) (v := .int (nI (skp lt ln p))) hx hb hts hi8 hown hK hw 0 rfl rfl 6 (by decide) f_0 rfl dX8_here_28 ?_
        refine r_put (T := TX8) (G' := ((mG a yn (nI ln) (nI (skp lt ln p)) (nI (skp lt ln p)) va fy fa ry se bh mi fb bo bk) :: (aG c4 (a 4) 230 lt) :: Ts)) hx hb hts hi8 tyX8 tyX8_ok nmX8 hown hK hw 0 rfl rfl 7 (by decide) f_1 rfl rfl (Nat.le_of_ble_eq_true rfl) rfl dX8_here_31 (fun H locs hw => ?_)
        refine lv_aload_n hx hb dX8_here_34 rfl (lv_at hl 0 rfl) ?_
        refine lv_aload_n hx hb dX8_here_35 rfl (lv_at hl 0 rfl) ?_
        refine r_get (T := TX8) (v := .int (nI (skp lt ln p))) hx hb hts hi8 hown hK hw 0 rfl rfl 6 (by decide) f_0 rfl dX8_here_36 ?_
        have hw := hw.m1
        have hw := hw.m1
        refine c_vi (As := [.int (nI (skp lt ln p))]) (rest := []) ⟨hx, hb, hml, hown, hts⟩ (k_X8_letterAt l D c4 A Ts a yn ln (nI (skp lt ln p)) (nI (skp lt ln p)) va fy fa ry se bh mi fb bo bk lt (skp lt ln p) hln (by first | omega | decide)) (cwV 1 hts gX8_here_X8_letterAt rfl rfl rfl (by decide +kernel) (rmv (Nat.le_of_ble_eq_true rfl) (Nat.le_of_ble_eq_true rfl) hRf hRl)) hK trivial hw rfl rfl rfl hl rfl (Nat.le_of_ble_eq_true rfl) ⟨Nat.zero_le _, Nat.zero_le _⟩ dX8_here_39 (fun r_39 u_39 H locs hpq hw => ?_)
        have er_39 := hpq
        subst er_39
        exact kr (ltA lt ln (skp lt ln p)) () _ _ _ _ hw rfl dX8_here_42
      · refine lv_aload_n hx hb dX8_here_13 rfl (lv_at hl 0 rfl) ?_
        refine lv_dup hx hb dX8_here_14 rfl ?_
        refine r_get (T := TX8) (v := .int (nI p1)) hx hb hts hi8 hown hK hw 0 rfl rfl 6 (by decide) f_0 rfl dX8_here_15 ?_
        refine lv_iconst (v := 1) hx hb dX8_here_18 (by decide) ?_
        refine r_addN hx hb p1 1 dX8_here_19 ?_
        refine r_put (T := TX8) (G' := ((mG a yn (nI ln) (nI (p1 + 1)) st va fy fa ry se bh mi fb bo bk) :: (aG c4 (a 4) 230 lt) :: Ts)) hx hb hts hi8 tyX8 tyX8_ok nmX8 hown hK hw 0 rfl rfl 6 (by decide) f_0 rfl rfl (Nat.le_of_ble_eq_true rfl) rfl dX8_here_20 (fun H locs hw => ?_)
        refine lv_goto (tgt := 0) hx hb dX8_here_23 (by decide) ?_
        exact ih_0 (p1 + 1) (by have := (ltA_eq c_10 (by decide)).1; omega) (by have := (ltA_eq c_10 (by decide)).1; omega) ((skp_go (ltA_eq c_10 (by decide)).1 (ltA_eq c_10 (by decide)).2).trans hS) _ _ hw ls (lv_sub hl [0] rfl)
  exact loop_0 ((ln - p) + 1) p (Nat.lt_succ_self _) hp rfl _ _ hw ls (lv_sub hl [0] rfl)
set_option maxHeartbeats 4000000 in
set_option maxRecDepth 100000 in
theorem k_X8_fails (l : Launch) (D : va_G) (c4 : Nat → ClassId) (A : Nat → Prop) (Ts : List va_W) (a : Nat → Nat) (yn : Int32) (tx : Int32) (pl : Int32) (st : Int32) (va : Int32) (fy : Int32) (fa : Int32) (ry : Int32) (se : Int32) (bh : Int32) (mi : Int32) (fb : Int32) (bo : Int32) (bk : Int32) (k : Int32) (w : Int32) : Ci l yX8_fails wsX8_fails 0 0 [.ref (a 0), .int k, .int w] D (tyA c4) A none ((mG a yn tx pl st va fy fa ry se bh mi fb bo bk) :: Ts) (S := Unit) (fun (r : Int32) (u : Unit) => r = 0) (fun u => ((mG a yn tx pl st va k w ry se bh mi fb bo bk) :: Ts)) := by
  refine cOz (cc := cX8_fails) (maxL := 3) (by decide) rfl (Nat.le_of_ble_eq_true rfl) rfl ?_
  rintro jp je js jm below meth jc ls args R Q H locs hRf hRl ⟨hx, hb, hml, hr, hts, hown, hlocks, hK, hX⟩ hw hl kr
  have hown : js.vm.findClass RX8 = some jm.cls := hown
  have f_0 := hts (.fieldLink RX8 78 "IceSwayModel" "faulty" "I") (by decide +kernel)
  have f_1 := hts (.fieldLink RX8 23 "IceSwayModel" "faultAt" "I") (by decide +kernel)
  have hi8 : ∀ w ∈ u_ws RX8 TX8 28, w ∈ wsX8_fails := fun w h => List.mem_cons_of_mem _ (List.mem_append_right _ h)
  refine lv_aload_n hx hb dX8_fails_0 rfl (lv_at hl 0 rfl) ?_
  refine lv_iload_n hx hb dX8_fails_1 rfl (lv_at hl 1 rfl) ?_
  refine r_put (T := TX8) (G' := ((mG a yn tx pl st va k fa ry se bh mi fb bo bk) :: Ts)) hx hb hts hi8 tyX8 tyX8_ok nmX8 hown hK hw 0 rfl rfl 9 (by decide) f_0 rfl rfl (Nat.le_of_ble_eq_true rfl) rfl dX8_fails_2 (fun H locs hw => ?_)
  refine lv_aload_n hx hb dX8_fails_5 rfl (lv_at hl 0 rfl) ?_
  refine lv_iload_n hx hb dX8_fails_6 rfl (lv_at hl 2 rfl) ?_
  refine r_put (T := TX8) (G' := ((mG a yn tx pl st va k w ry se bh mi fb bo bk) :: Ts)) hx hb hts hi8 tyX8 tyX8_ok nmX8 hown hK hw 0 rfl rfl 10 (by decide) f_1 rfl rfl (Nat.le_of_ble_eq_true rfl) rfl dX8_fails_7 (fun H locs hw => ?_)
  refine lv_iconst (v := 0) hx hb dX8_fails_10 (by decide) ?_
  exact kr 0 () _ _ _ _ hw rfl rfl dX8_fails_11
set_option maxHeartbeats 4000000 in
set_option maxRecDepth 100000 in
theorem k_X8_takes (l : Launch) (D : va_G) (c4 : Nat → ClassId) (A : Nat → Prop) (Ts : List va_W) (a : Nat → Nat) (yn : Int32) (ln : Nat) (p : Nat) (st : Int32) (va : Int32) (fy : Int32) (fa : Int32) (ry : Int32) (se : Int32) (bh : Int32) (mi : Int32) (fb : Int32) (bo : Int32) (bk : Int32) (lt : Nat → Int32) (hln : ln ≤ 230) (hp : p ≤ ln) : Ci l yX8_takes wsX8_takes 2 41 [.ref (a 0), .int 59] D (tyA c4) A none ((mG a yn (nI ln) (nI p) st va fy fa ry se bh mi fb bo bk) :: (aG c4 (a 4) 230 lt) :: Ts) (S := Nat × Int32 × Int32 × Int32) (fun (r : Int32) (u : Nat × Int32 × Int32 × Int32) => reP lt ln p u.1 r fy fa u.2.2.1 u.2.2.2) (fun u => ((mG a yn (nI ln) (nI u.1) u.2.1 va u.2.2.1 u.2.2.2 ry se bh mi fb bo bk) :: (aG c4 (a 4) 230 lt) :: Ts)) := by
  refine cOz (cc := cX8_takes) (maxL := 2) (by decide) rfl (Nat.le_of_ble_eq_true rfl) rfl ?_
  rintro jp je js jm below meth jc ls args R Q H locs hRf hRl ⟨hx, hb, hml, hr, hts, hown, hlocks, hK, hX⟩ hw hl kr
  have hown : js.vm.findClass RX8 = some jm.cls := hown
  have f_0 := hts (.fieldLink RX8 75 "IceSwayModel" "at" "I") (by decide +kernel)
  have f_1 := hts (.fieldLink RX8 92 "IceSwayModel" "start" "I") (by decide +kernel)
  have hi8 : ∀ w ∈ u_ws RX8 TX8 28, w ∈ wsX8_takes := fun w h => List.mem_cons_of_mem _ (List.mem_append_right _ h)
  refine lv_aload_n hx hb dX8_takes_0 rfl (lv_at hl 0 rfl) ?_
  have hw := hw.m1
  have hw := hw.m1
  refine c_vi (As := []) (rest := []) ⟨hx, hb, hml, hown, hts⟩ (k_X8_here l D c4 A Ts a yn ln p st va fy fa ry se bh mi fb bo bk lt hln hp) (cwV 0 hts gX8_takes_X8_here rfl rfl rfl (by decide +kernel) (rmv (Nat.le_of_ble_eq_true rfl) (Nat.le_of_ble_eq_true rfl) hRf hRl)) hK trivial hw rfl rfl rfl hl rfl (Nat.le_of_ble_eq_true rfl) ⟨Nat.zero_le _, Nat.zero_le _⟩ dX8_takes_1 (fun r_1 u_1 H locs hpq hw => ?_)
  have er_1 := hpq
  subst er_1
  refine lv_iload_n hx hb dX8_takes_4 rfl (lv_at hl 1 rfl) ?_
  refine lv_icmp_eq (tgt := 18) hx hb dX8_takes_5 (by decide) (fun c_5 => ?_) (fun c_5 => ?_)
  · refine lv_aload_n hx hb dX8_takes_18 rfl (lv_at hl 0 rfl) ?_
    refine lv_dup hx hb dX8_takes_19 rfl ?_
    refine r_get (T := TX8) (v := .int (nI (skp lt ln p))) hx hb hts hi8 hown hK hw 0 rfl rfl 6 (by decide) f_0 rfl dX8_takes_20 ?_
    refine lv_iconst (v := 1) hx hb dX8_takes_23 (by decide) ?_
    refine r_addN hx hb (skp lt ln p) 1 dX8_takes_24 ?_
    refine r_put (T := TX8) (G' := ((mG a yn (nI ln) (nI (skp lt ln p + 1)) (nI (skp lt ln p)) va fy fa ry se bh mi fb bo bk) :: (aG c4 (a 4) 230 lt) :: Ts)) hx hb hts hi8 tyX8 tyX8_ok nmX8 hown hK hw 0 rfl rfl 6 (by decide) f_0 rfl rfl (Nat.le_of_ble_eq_true rfl) rfl dX8_takes_25 (fun H locs hw => ?_)
    refine lv_iconst (v := 1) hx hb dX8_takes_28 (by decide) ?_
    exact kr 1 (skp lt ln p + 1, (nI (skp lt ln p)), fy, fa) _ _ _ _ hw rfl (Or.inl ⟨by unfold rdEnd; rw [if_pos (ltA_eq c_5 (by decide))], rfl, rfl, rfl⟩) dX8_takes_29
  · refine lv_aload_n hx hb dX8_takes_8 rfl (lv_at hl 0 rfl) ?_
    refine lv_iconst (v := 1) hx hb dX8_takes_9 (by decide) ?_
    refine lv_aload_n hx hb dX8_takes_10 rfl (lv_at hl 0 rfl) ?_
    refine r_get (T := TX8) (v := .int (nI (skp lt ln p))) hx hb hts hi8 hown hK hw 0 rfl rfl 7 (by decide) f_1 rfl dX8_takes_11 ?_
    refine c_vi (As := [.int 1, .int (nI (skp lt ln p))]) (rest := []) ⟨hx, hb, hml, hown, hts⟩ (k_X8_fails l D c4 A ((aG c4 (a 4) 230 lt) :: Ts) a yn (nI ln) (nI (skp lt ln p)) (nI (skp lt ln p)) va fy fa ry se bh mi fb bo bk 1 (nI (skp lt ln p))) (cwV 2 hts gX8_takes_X8_fails rfl rfl rfl (by decide +kernel) (rmv (Nat.le_of_ble_eq_true rfl) (Nat.le_of_ble_eq_true rfl) hRf hRl)) hK trivial hw rfl rfl rfl hl rfl (Nat.le_of_ble_eq_true rfl) ⟨Nat.zero_le _, Nat.zero_le _⟩ dX8_takes_14 (fun r_14 u_14 H locs hpq hw => ?_)
    have er_14 := hpq
    subst er_14
    exact kr 0 (skp lt ln p, (nI (skp lt ln p)), 1, (nI (skp lt ln p))) _ _ _ _ hw rfl (Or.inr ⟨⟨skp lt ln p, 1, (by unfold rdEnd; rw [if_neg (fun z => c_5 (by rw [ltA_in z.1]; exact z.2))]), rfl, rfl⟩, rfl⟩) dX8_takes_17
set_option maxHeartbeats 4000000 in
set_option maxRecDepth 100000 in
theorem k_X8_takesNumber (l : Launch) (D : va_G) (c4 : Nat → ClassId) (A : Nat → Prop) (Ts : List va_W) (a : Nat → Nat) (yn : Int32) (ln : Nat) (p : Nat) (st : Int32) (va : Int32) (fy : Int32) (fa : Int32) (ry : Int32) (se : Int32) (bh : Int32) (mi : Int32) (fb : Int32) (bo : Int32) (bk : Int32) (lt : Nat → Int32) (lo : Int32) (hi : Int32) (hln : ln ≤ 230) (hp : p ≤ ln) : Ci l yX8_takesNumber wsX8_takesNumber 2 41 [.ref (a 0), .int lo, .int hi] D (tyA c4) A none ((mG a yn (nI ln) (nI p) st va fy fa ry se bh mi fb bo bk) :: (aG c4 (a 4) 230 lt) :: Ts) (S := Nat × Int32 × Int32 × Int32 × Int32) (fun (r : Int32) (u : Nat × Int32 × Int32 × Int32 × Int32) => tmP lt ln lo hi p u.1 u.2.2.1 r fy fa u.2.2.2.1 u.2.2.2.2) (fun u => ((mG a yn (nI ln) (nI u.1) u.2.1 u.2.2.1 u.2.2.2.1 u.2.2.2.2 ry se bh mi fb bo bk) :: (aG c4 (a 4) 230 lt) :: Ts)) := by
  refine cOz (cc := cX8_takesNumber) (maxL := 3) (by decide) rfl (Nat.le_of_ble_eq_true rfl) rfl ?_
  rintro jp je js jm below meth jc ls args R Q H locs hRf hRl ⟨hx, hb, hml, hr, hts, hown, hlocks, hK, hX⟩ hw hl kr
  have hown : js.vm.findClass RX8 = some jm.cls := hown
  have f_0 := hts (.constantLong RX8 103 (48)) (by decide +kernel)
  have f_1 := hts (.constantLong RX8 105 (57)) (by decide +kernel)
  have f_2 := hts (.fieldLink RX8 107 "IceSwayModel" "value" "I") (by decide +kernel)
  have f_3 := hts (.fieldLink RX8 75 "IceSwayModel" "at" "I") (by decide +kernel)
  have f_4 := hts (.fieldLink RX8 92 "IceSwayModel" "start" "I") (by decide +kernel)
  have hi8 : ∀ w ∈ u_ws RX8 TX8 28, w ∈ wsX8_takesNumber := fun w h => List.mem_cons_of_mem _ (List.mem_append_right _ h)
  refine lv_aload_n hx hb dX8_takesNumber_0 rfl (lv_at hl 0 rfl) ?_
  have hw := hw.m1
  have hw := hw.m1
  refine c_vi (As := []) (rest := []) ⟨hx, hb, hml, hown, hts⟩ (k_X8_here l D c4 A Ts a yn ln p st va fy fa ry se bh mi fb bo bk lt hln hp) (cwV 0 hts gX8_takesNumber_X8_here rfl rfl rfl (by decide +kernel) (rmv (Nat.le_of_ble_eq_true rfl) (Nat.le_of_ble_eq_true rfl) hRf hRl)) hK trivial hw rfl rfl rfl hl rfl (Nat.le_of_ble_eq_true rfl) ⟨Nat.zero_le _, Nat.zero_le _⟩ dX8_takesNumber_1 (fun r_1 u_1 H locs hpq hw => ?_)
  have er_1 := hpq
  subst er_1
  have hs1 := skp_ge lt ln p
  have hs2 := skp_le (lt := lt) hp
  refine lv_i2l hx hb dX8_takesNumber_4 rfl ?_
  refine lv_ldc2 hx hb hown f_0 dX8_takesNumber_5 ?_
  refine lv_ldc2 hx hb hown f_1 dX8_takesNumber_8 ?_
  refine c_si (As := [.long ((ltA lt ln (skp lt ln p)).toInt64), .long 48, .long 57]) (rest := []) ⟨hx, hb, hml, hown, hts⟩ (k_X8_in l D c4 A ((mG a yn (nI ln) (nI (skp lt ln p)) (nI (skp lt ln p)) va fy fa ry se bh mi fb bo bk) :: (aG c4 (a 4) 230 lt) :: Ts) ((ltA lt ln (skp lt ln p)).toInt64) 48 57) (va_cwS 3 hts gX8_takesNumber_X8_in rfl rfl rfl (by decide +kernel) (rmv (Nat.le_of_ble_eq_true rfl) (Nat.le_of_ble_eq_true rfl) hRf hRl)) hK trivial hw rfl hl rfl (Nat.le_of_ble_eq_true rfl) ⟨Nat.zero_le _, Nat.zero_le _⟩ dX8_takesNumber_11 (fun r_11 u_11 H locs hpq hw => ?_)
  obtain ⟨h0_11, h1_11, hz_11⟩ := hpq
  refine lv_if_ne (tgt := 27) hx hb dX8_takesNumber_14 (by decide) (fun c_14 => ?_) (fun c_14 => ?_)
  · refine lv_aload_n hx hb dX8_takesNumber_27 rfl (lv_at hl 0 rfl) ?_
    refine lv_iconst (v := 0) hx hb dX8_takesNumber_28 (by decide) ?_
    refine r_put (T := TX8) (G' := ((mG a yn (nI ln) (nI (skp lt ln p)) (nI (skp lt ln p)) 0 fy fa ry se bh mi fb bo bk) :: (aG c4 (a 4) 230 lt) :: Ts)) hx hb hts hi8 tyX8 tyX8_ok nmX8 hown hK hw 0 rfl rfl 8 (by decide) f_2 rfl rfl (Nat.le_of_ble_eq_true rfl) rfl dX8_takesNumber_29 (fun H locs hw => ?_)
    have loop_32 : ∀ (fuel : Nat) (p1 : Nat) (v1 : Int32), (ln - p1) < fuel → (skp lt ln p ≤ p1) → (p1 ≤ ln) → (nmW lt ln (skp lt ln p) p1 v1 = nmW lt ln (skp lt ln p) (skp lt ln p) 0) → ∀ (H : Heap) (locs : List Loc), gW D A js.heap ((mG a yn (nI ln) (nI p1) (nI (skp lt ln p)) v1 fy fa ry se bh mi fb bo bk) :: (aG c4 (a 4) 230 lt) :: Ts) H locs → ∀ (ls : Array Slot), lv_has ls 3 [(0, .ref (a 0)), (1, .int lo), (2, .int hi)] → W jp l je R js jm args below meth jc H locs 0 0 Q (F0 jm 32 ls []) := by
      intro fuel
      induction fuel with
      | zero => intro p1 v1 hm; exact absurd hm (Nat.not_lt_zero _)
      | succ fuel ih_32 =>
        intro p1 v1 hm_32 hq hq2 hV H locs hw ls hl
        refine lv_aload_n hx hb dX8_takesNumber_32 rfl (lv_at hl 0 rfl) ?_
        refine lv_aload_n hx hb dX8_takesNumber_33 rfl (lv_at hl 0 rfl) ?_
        refine r_get (T := TX8) (v := .int (nI p1)) hx hb hts hi8 hown hK hw 0 rfl rfl 6 (by decide) f_3 rfl dX8_takesNumber_34 ?_
        have hw := hw.m1
        have hw := hw.m1
        refine c_vi (As := [.int (nI p1)]) (rest := []) ⟨hx, hb, hml, hown, hts⟩ (k_X8_letterAt l D c4 A Ts a yn ln (nI p1) (nI (skp lt ln p)) v1 fy fa ry se bh mi fb bo bk lt p1 hln hq2) (cwV 1 hts gX8_takesNumber_X8_letterAt rfl rfl rfl (by decide +kernel) (rmv (Nat.le_of_ble_eq_true rfl) (Nat.le_of_ble_eq_true rfl) hRf hRl)) hK trivial hw rfl rfl rfl hl rfl (Nat.le_of_ble_eq_true rfl) ⟨Nat.zero_le _, Nat.zero_le _⟩ dX8_takesNumber_37 (fun r_37 u_37 H locs hpq hw => ?_)
        have er_37 := hpq
        subst er_37
        refine lv_i2l hx hb dX8_takesNumber_40 rfl ?_
        refine lv_ldc2 hx hb hown f_0 dX8_takesNumber_41 ?_
        refine lv_ldc2 hx hb hown f_1 dX8_takesNumber_44 ?_
        refine c_si (As := [.long ((ltA lt ln p1).toInt64), .long 48, .long 57]) (rest := []) ⟨hx, hb, hml, hown, hts⟩ (k_X8_in l D c4 A ((mG a yn (nI ln) (nI p1) (nI (skp lt ln p)) v1 fy fa ry se bh mi fb bo bk) :: (aG c4 (a 4) 230 lt) :: Ts) ((ltA lt ln p1).toInt64) 48 57) (va_cwS 3 hts gX8_takesNumber_X8_in rfl rfl rfl (by decide +kernel) (rmv (Nat.le_of_ble_eq_true rfl) (Nat.le_of_ble_eq_true rfl) hRf hRl)) hK trivial hw rfl hl rfl (Nat.le_of_ble_eq_true rfl) ⟨Nat.zero_le _, Nat.zero_le _⟩ dX8_takesNumber_47 (fun r_47 u_47 H locs hpq hw => ?_)
        obtain ⟨h0_47, h1_47, hz_47⟩ := hpq
        refine lv_if_eq (tgt := 109) hx hb dX8_takesNumber_50 (by decide) (fun c_50 => ?_) (fun c_50 => ?_)
        · have hW := (nm_no (s := skp lt ln p) (v := v1) (ltA_nf (fun z => h0_47 c_50 (fgL.mpr z)))).trans hV
          have hne : ¬ p1 = skp lt ln p := fun z => h0_47 c_50 (by rw [z]; exact h1_11 c_14)
          refine lv_aload_n hx hb dX8_takesNumber_109 rfl (lv_at hl 0 rfl) ?_
          refine r_get (T := TX8) (v := .int (nI p1)) hx hb hts hi8 hown hK hw 0 rfl rfl 6 (by decide) f_3 rfl dX8_takesNumber_110 ?_
          refine lv_aload_n hx hb dX8_takesNumber_113 rfl (lv_at hl 0 rfl) ?_
          refine r_get (T := TX8) (v := .int (nI (skp lt ln p))) hx hb hts hi8 hown hK hw 0 rfl rfl 7 (by decide) f_4 rfl dX8_takesNumber_114 ?_
          refine r_subN hx hb p1 (skp lt ln p) (by omega) dX8_takesNumber_117 ?_
          refine lv_iconst (v := 4) hx hb dX8_takesNumber_118 (by decide) ?_
          refine r_cge hx hb (p1 - (skp lt ln p)) 4 (by omega) (by omega) (tgt := 137) dX8_takesNumber_119 (by decide) (fun c_119 => ?_) (fun c_119 => ?_)
          · refine lv_aload_n hx hb dX8_takesNumber_137 rfl (lv_at hl 0 rfl) ?_
            refine lv_iconst (v := 2) hx hb dX8_takesNumber_138 (by decide) ?_
            refine lv_aload_n hx hb dX8_takesNumber_139 rfl (lv_at hl 0 rfl) ?_
            refine r_get (T := TX8) (v := .int (nI (skp lt ln p))) hx hb hts hi8 hown hK hw 0 rfl rfl 7 (by decide) f_4 rfl dX8_takesNumber_140 ?_
            refine c_vi (As := [.int 2, .int (nI (skp lt ln p))]) (rest := []) ⟨hx, hb, hml, hown, hts⟩ (k_X8_fails l D c4 A ((aG c4 (a 4) 230 lt) :: Ts) a yn (nI ln) (nI p1) (nI (skp lt ln p)) v1 fy fa ry se bh mi fb bo bk 2 (nI (skp lt ln p))) (cwV 2 hts gX8_takesNumber_X8_fails rfl rfl rfl (by decide +kernel) (rmv (Nat.le_of_ble_eq_true rfl) (Nat.le_of_ble_eq_true rfl) hRf hRl)) hK trivial hw rfl rfl rfl hl rfl (Nat.le_of_ble_eq_true rfl) ⟨Nat.zero_le _, Nat.zero_le _⟩ dX8_takesNumber_143 (fun r_143 u_143 H locs hpq hw => ?_)
            have er_143 := hpq
            subst er_143
            refine lv_if_eq (tgt := 153) hx hb dX8_takesNumber_146 (by decide) (fun c_146 => ?_) (fun c_146 => ?_)
            · refine lv_iconst (v := 0) hx hb dX8_takesNumber_153 (by decide) ?_
              exact kr 0 (p1, (nI (skp lt ln p)), v1, 2, (nI (skp lt ln p))) _ _ _ _ hw rfl (Or.inr ⟨⟨skp lt ln p, 2, rn_2 hW.symm hne (Or.inl (by omega)), rfl, rfl⟩, rfl⟩) dX8_takesNumber_154
            · exact absurd c_146 (by decide)
          · refine lv_aload_n hx hb dX8_takesNumber_122 rfl (lv_at hl 0 rfl) ?_
            refine r_get (T := TX8) (v := .int v1) hx hb hts hi8 hown hK hw 0 rfl rfl 8 (by decide) f_2 rfl dX8_takesNumber_123 ?_
            refine lv_i2l hx hb dX8_takesNumber_126 rfl ?_
            refine lv_iload_n hx hb dX8_takesNumber_127 rfl (lv_at hl 1 rfl) ?_
            refine lv_i2l hx hb dX8_takesNumber_128 rfl ?_
            refine lv_iload_n hx hb dX8_takesNumber_129 rfl (lv_at hl 2 rfl) ?_
            refine lv_i2l hx hb dX8_takesNumber_130 rfl ?_
            refine c_si (As := [.long v1.toInt64, .long lo.toInt64, .long hi.toInt64]) (rest := []) ⟨hx, hb, hml, hown, hts⟩ (k_X8_in l D c4 A ((mG a yn (nI ln) (nI p1) (nI (skp lt ln p)) v1 fy fa ry se bh mi fb bo bk) :: (aG c4 (a 4) 230 lt) :: Ts) v1.toInt64 lo.toInt64 hi.toInt64) (va_cwS 3 hts gX8_takesNumber_X8_in rfl rfl rfl (by decide +kernel) (rmv (Nat.le_of_ble_eq_true rfl) (Nat.le_of_ble_eq_true rfl) hRf hRl)) hK trivial hw rfl hl rfl (Nat.le_of_ble_eq_true rfl) ⟨Nat.zero_le _, Nat.zero_le _⟩ dX8_takesNumber_131 (fun r_131 u_131 H locs hpq hw => ?_)
            obtain ⟨h0_131, h1_131, hz_131⟩ := hpq
            refine lv_if_ne (tgt := 149) hx hb dX8_takesNumber_134 (by decide) (fun c_134 => ?_) (fun c_134 => ?_)
            · refine lv_iconst (v := 1) hx hb dX8_takesNumber_149 (by decide) ?_
              refine lv_goto (tgt := 154) hx hb dX8_takesNumber_150 (by decide) ?_
              exact kr 1 (p1, (nI (skp lt ln p)), v1, fy, fa) _ _ _ _ hw rfl (Or.inl ⟨rn_3 hW.symm hne (fun z => by rcases z with z | z; { omega }; { exact notR z ((inL rfl rfl).mp (h1_131 c_134)) }), rfl, rfl, rfl⟩) dX8_takesNumber_154
            · refine lv_aload_n hx hb dX8_takesNumber_137 rfl (lv_at hl 0 rfl) ?_
              refine lv_iconst (v := 2) hx hb dX8_takesNumber_138 (by decide) ?_
              refine lv_aload_n hx hb dX8_takesNumber_139 rfl (lv_at hl 0 rfl) ?_
              refine r_get (T := TX8) (v := .int (nI (skp lt ln p))) hx hb hts hi8 hown hK hw 0 rfl rfl 7 (by decide) f_4 rfl dX8_takesNumber_140 ?_
              refine c_vi (As := [.int 2, .int (nI (skp lt ln p))]) (rest := []) ⟨hx, hb, hml, hown, hts⟩ (k_X8_fails l D c4 A ((aG c4 (a 4) 230 lt) :: Ts) a yn (nI ln) (nI p1) (nI (skp lt ln p)) v1 fy fa ry se bh mi fb bo bk 2 (nI (skp lt ln p))) (cwV 2 hts gX8_takesNumber_X8_fails rfl rfl rfl (by decide +kernel) (rmv (Nat.le_of_ble_eq_true rfl) (Nat.le_of_ble_eq_true rfl) hRf hRl)) hK trivial hw rfl rfl rfl hl rfl (Nat.le_of_ble_eq_true rfl) ⟨Nat.zero_le _, Nat.zero_le _⟩ dX8_takesNumber_143 (fun r_143 u_143 H locs hpq hw => ?_)
              have er_143 := hpq
              subst er_143
              refine lv_if_eq (tgt := 153) hx hb dX8_takesNumber_146 (by decide) (fun c_146 => ?_) (fun c_146 => ?_)
              · refine lv_iconst (v := 0) hx hb dX8_takesNumber_153 (by decide) ?_
                exact kr 0 (p1, (nI (skp lt ln p)), v1, 2, (nI (skp lt ln p))) _ _ _ _ hw rfl (Or.inr ⟨⟨skp lt ln p, 2, rn_2 hW.symm hne (Or.inr (nin (fun z => h0_131 c_134 ((inL rfl rfl).mpr z)))), rfl, rfl⟩, rfl⟩) dX8_takesNumber_154
              · exact absurd c_146 (by decide)
        · have hfg := ltA_fg (fgL.mp (h1_47 c_50))
          have hlt1 := hfg.1
          refine lv_aload_n hx hb dX8_takesNumber_53 rfl (lv_at hl 0 rfl) ?_
          refine lv_aload_n hx hb dX8_takesNumber_54 rfl (lv_at hl 0 rfl) ?_
          refine r_get (T := TX8) (v := .int (nI p1)) hx hb hts hi8 hown hK hw 0 rfl rfl 6 (by decide) f_3 rfl dX8_takesNumber_55 ?_
          refine lv_aload_n hx hb dX8_takesNumber_58 rfl (lv_at hl 0 rfl) ?_
          refine r_get (T := TX8) (v := .int (nI (skp lt ln p))) hx hb hts hi8 hown hK hw 0 rfl rfl 7 (by decide) f_4 rfl dX8_takesNumber_59 ?_
          refine r_subN hx hb p1 (skp lt ln p) (by omega) dX8_takesNumber_62 ?_
          refine lv_iconst (v := 3) hx hb dX8_takesNumber_63 (by decide) ?_
          have kj_64 : ∀ (v3 : Int32), (v3 = if 3 ≤ p1 - skp lt ln p then v1 else 10 * v1 + lt p1 - 48) → ∀ (H : Heap) (locs : List Loc), gW D A js.heap ((mG a yn (nI ln) (nI p1) (nI (skp lt ln p)) v1 fy fa ry se bh mi fb bo bk) :: (aG c4 (a 4) 230 lt) :: Ts) H locs → ∀ (ls : Array Slot), lv_has ls 3 [(0, .ref (a 0)), (1, .int lo), (2, .int hi)] → W jp l je R js jm args below meth jc H locs 0 0 Q (F0 jm 93 ls [.int v3, .ref (a 0)]) := by
            intro v3 hv3 H locs hw ls hl
            refine r_put (T := TX8) (G' := ((mG a yn (nI ln) (nI p1) (nI (skp lt ln p)) v3 fy fa ry se bh mi fb bo bk) :: (aG c4 (a 4) 230 lt) :: Ts)) hx hb hts hi8 tyX8 tyX8_ok nmX8 hown hK hw 0 rfl rfl 8 (by decide) f_2 rfl rfl (Nat.le_of_ble_eq_true rfl) rfl dX8_takesNumber_93 (fun H locs hw => ?_)
            refine lv_aload_n hx hb dX8_takesNumber_96 rfl (lv_at hl 0 rfl) ?_
            refine lv_dup hx hb dX8_takesNumber_97 rfl ?_
            refine r_get (T := TX8) (v := .int (nI p1)) hx hb hts hi8 hown hK hw 0 rfl rfl 6 (by decide) f_3 rfl dX8_takesNumber_98 ?_
            refine lv_iconst (v := 1) hx hb dX8_takesNumber_101 (by decide) ?_
            refine r_addN hx hb p1 1 dX8_takesNumber_102 ?_
            refine r_put (T := TX8) (G' := ((mG a yn (nI ln) (nI (p1 + 1)) (nI (skp lt ln p)) v3 fy fa ry se bh mi fb bo bk) :: (aG c4 (a 4) 230 lt) :: Ts)) hx hb hts hi8 tyX8 tyX8_ok nmX8 hown hK hw 0 rfl rfl 6 (by decide) f_3 rfl rfl (Nat.le_of_ble_eq_true rfl) rfl dX8_takesNumber_103 (fun H locs hw => ?_)
            refine lv_goto (tgt := 32) hx hb dX8_takesNumber_106 (by decide) ?_
            exact ih_32 (p1 + 1) v3 (by omega) (by omega) (by omega) (by rw [hv3]; exact (nm_go2 hfg.1 hfg.2).trans hV) _ _ hw ls (lv_sub hl [0, 1, 2] rfl)
          refine r_cge hx hb (p1 - (skp lt ln p)) 3 (by omega) (by omega) (tgt := 89) dX8_takesNumber_64 (by decide) (fun c_64 => ?_) (fun c_64 => ?_)
          · refine lv_aload_n hx hb dX8_takesNumber_89 rfl (lv_at hl 0 rfl) ?_
            refine r_get (T := TX8) (v := .int v1) hx hb hts hi8 hown hK hw 0 rfl rfl 8 (by decide) f_2 rfl dX8_takesNumber_90 ?_
            exact kj_64 v1 (by rw [if_pos c_64]) _ _ hw ls (lv_sub hl [0, 1, 2] rfl)
          · refine lv_bipush (v := 10) hx hb dX8_takesNumber_67 (by decide) ?_
            refine lv_aload_n hx hb dX8_takesNumber_69 rfl (lv_at hl 0 rfl) ?_
            refine r_get (T := TX8) (v := .int v1) hx hb hts hi8 hown hK hw 0 rfl rfl 8 (by decide) f_2 rfl dX8_takesNumber_70 ?_
            refine lv_imul hx hb dX8_takesNumber_73 ?_
            refine lv_aload_n hx hb dX8_takesNumber_74 rfl (lv_at hl 0 rfl) ?_
            refine lv_aload_n hx hb dX8_takesNumber_75 rfl (lv_at hl 0 rfl) ?_
            refine r_get (T := TX8) (v := .int (nI p1)) hx hb hts hi8 hown hK hw 0 rfl rfl 6 (by decide) f_3 rfl dX8_takesNumber_76 ?_
            have hw := hw.m1
            have hw := hw.m1
            refine c_vi (As := [.int (nI p1)]) (rest := [.int (10 * v1), .ref (a 0)]) ⟨hx, hb, hml, hown, hts⟩ (k_X8_letterAt l D c4 A Ts a yn ln (nI p1) (nI (skp lt ln p)) v1 fy fa ry se bh mi fb bo bk lt p1 hln hq2) (cwV 1 hts gX8_takesNumber_X8_letterAt rfl rfl rfl (by decide +kernel) (rmv (Nat.le_of_ble_eq_true rfl) (Nat.le_of_ble_eq_true rfl) hRf hRl)) hK trivial hw rfl rfl rfl hl rfl (Nat.le_of_ble_eq_true rfl) ⟨Nat.zero_le _, Nat.zero_le _⟩ dX8_takesNumber_79 (fun r_79 u_79 H locs hpq hw => ?_)
            have er_79 := hpq
            subst er_79
            refine lv_iadd hx hb dX8_takesNumber_82 ?_
            refine lv_bipush (v := 48) hx hb dX8_takesNumber_83 (by decide) ?_
            refine lv_isub hx hb dX8_takesNumber_85 ?_
            refine lv_goto (tgt := 93) hx hb dX8_takesNumber_86 (by decide) ?_
            exact kj_64 (((10 * v1) + (ltA lt ln p1)) - 48) (by rw [if_neg (show ¬ 3 ≤ p1 - skp lt ln p by omega), ltA_in hfg.1]) _ _ hw ls (lv_sub hl [0, 1, 2] rfl)
    exact loop_32 ((ln - (skp lt ln p)) + 1) (skp lt ln p) 0 (Nat.lt_succ_self _) (Nat.le_refl _) hs2 rfl _ _ hw ls (lv_sub hl [0, 1, 2] rfl)
  · have hnf : ¬ isFg (ltA lt ln (skp lt ln p)) := fun z => h0_11 c_14 (fgL.mpr z)
    refine lv_aload_n hx hb dX8_takesNumber_17 rfl (lv_at hl 0 rfl) ?_
    refine lv_iconst (v := 1) hx hb dX8_takesNumber_18 (by decide) ?_
    refine lv_aload_n hx hb dX8_takesNumber_19 rfl (lv_at hl 0 rfl) ?_
    refine r_get (T := TX8) (v := .int (nI (skp lt ln p))) hx hb hts hi8 hown hK hw 0 rfl rfl 7 (by decide) f_4 rfl dX8_takesNumber_20 ?_
    refine c_vi (As := [.int 1, .int (nI (skp lt ln p))]) (rest := []) ⟨hx, hb, hml, hown, hts⟩ (k_X8_fails l D c4 A ((aG c4 (a 4) 230 lt) :: Ts) a yn (nI ln) (nI (skp lt ln p)) (nI (skp lt ln p)) va fy fa ry se bh mi fb bo bk 1 (nI (skp lt ln p))) (cwV 2 hts gX8_takesNumber_X8_fails rfl rfl rfl (by decide +kernel) (rmv (Nat.le_of_ble_eq_true rfl) (Nat.le_of_ble_eq_true rfl) hRf hRl)) hK trivial hw rfl rfl rfl hl rfl (Nat.le_of_ble_eq_true rfl) ⟨Nat.zero_le _, Nat.zero_le _⟩ dX8_takesNumber_23 (fun r_23 u_23 H locs hpq hw => ?_)
    have er_23 := hpq
    subst er_23
    exact kr 0 (skp lt ln p, (nI (skp lt ln p)), va, 1, (nI (skp lt ln p))) _ _ _ _ hw rfl (Or.inr ⟨⟨skp lt ln p, 1, rn_1 (v := 0) (nm_no (ltA_nf hnf)).symm, rfl, rfl⟩, rfl⟩) dX8_takesNumber_26
set_option maxHeartbeats 4000000 in
set_option maxRecDepth 100000 in
theorem k_X8_tells (l : Launch) (D : va_G) (c4 : Nat → ClassId) (A : Nat → Prop) (Ts : List va_W) (a : Nat → Nat) (yn : Int32) (ln : Nat) (p : Nat) (st : Int32) (va : Int32) (fy : Int32) (fa : Int32) (ry : Int32) (se : Int32) (bh : Int32) (mi : Int32) (fb : Int32) (bo : Int32) (bk : Int32) (lt : Nat → Int32) (told : Nat → Int32) (k : Nat) (lo : Int32) (hi : Int32) (hln : ln ≤ 230) (hp : p ≤ ln) (hk : k < 9) : Ci l yX8_tells wsX8_tells 3 63 [.ref (a 0), .int (nI k), .int lo, .int hi] D (tyA c4) A none ((mG a yn (nI ln) (nI p) st va fy fa ry se bh mi fb bo bk) :: (aG c4 (a 4) 230 lt) :: (aG c4 (a 2) 18 told) :: Ts) (S := Nat × Int32 × Int32 × Int32 × Int32 × (Nat → Int32)) (fun (r : Int32) (u : Nat × Int32 × Int32 × Int32 × Int32 × (Nat → Int32)) => tlP lt ln lo hi p u.1 k told u.2.2.2.2.2 r fy fa u.2.2.2.1 u.2.2.2.2.1) (fun u => ((mG a yn (nI ln) (nI u.1) u.2.1 u.2.2.1 u.2.2.2.1 u.2.2.2.2.1 ry se bh mi fb bo bk) :: (aG c4 (a 4) 230 lt) :: (aG c4 (a 2) 18 u.2.2.2.2.2) :: Ts)) := by
  refine cOz (cc := cX8_tells) (maxL := 5) (by decide) rfl (Nat.le_of_ble_eq_true rfl) rfl ?_
  rintro jp je js jm below meth jc ls args R Q H locs hRf hRl ⟨hx, hb, hml, hr, hts, hown, hlocks, hK, hX⟩ hw hl kr
  have hown : js.vm.findClass RX8 = some jm.cls := hown
  have f_0 := hts (.fieldLink RX8 13 "IceSwayModel" "told" "[I") (by decide +kernel)
  have f_1 := hts (.fieldLink RX8 107 "IceSwayModel" "value" "I") (by decide +kernel)
  have hi8 : ∀ w ∈ u_ws RX8 TX8 28, w ∈ wsX8_tells := fun w h => List.mem_cons_of_mem _ (List.mem_append_right _ h)
  refine lv_aload_n hx hb dX8_tells_0 rfl (lv_at hl 0 rfl) ?_
  refine lv_iload_n hx hb dX8_tells_1 rfl (lv_at hl 2 rfl) ?_
  refine lv_iload_n hx hb dX8_tells_2 rfl (lv_at hl 3 rfl) ?_
  have hw := hw.m1
  have hw := hw.m1
  refine c_vi (As := [.int lo, .int hi]) (rest := []) ⟨hx, hb, hml, hown, hts⟩ (k_X8_takesNumber l D c4 A ((aG c4 (a 2) 18 told) :: Ts) a yn ln p st va fy fa ry se bh mi fb bo bk lt lo hi hln hp) (cwV 2 hts gX8_tells_X8_takesNumber rfl rfl rfl (by decide +kernel) (rmv (Nat.le_of_ble_eq_true rfl) (Nat.le_of_ble_eq_true rfl) hRf hRl)) hK trivial hw rfl rfl rfl hl rfl (Nat.le_of_ble_eq_true rfl) ⟨Nat.zero_le _, Nat.zero_le _⟩ dX8_tells_3 (fun r_3 u_3 H locs hpq hw => ?_)
  obtain ⟨pl2_3, st2_3, va2_3, fy2_3, fa2_3⟩ := u_3
  have hw : gW D A js.heap ((mG a yn (nI ln) (nI pl2_3) st2_3 va2_3 fy2_3 fa2_3 ry se bh mi fb bo bk) :: (aG c4 (a 4) 230 lt) :: (aG c4 (a 2) 18 told) :: Ts) H locs := hw
  have hN_3 := hpq
  have hN_3 : tmP lt ln lo hi p pl2_3 va2_3 r_3 fy fa fy2_3 fa2_3 := hN_3
  refine lv_istore (lv' := [(4, .int r_3), (0, .ref (a 0)), (1, .int (nI k)), (2, .int lo), (3, .int hi)]) hx hb dX8_tells_6 hl (by decide) rfl (fun ls hl => ?_)
  refine lv_aload_n hx hb dX8_tells_8 rfl (lv_at hl 1 rfl) ?_
  refine r_get (T := TX8) (v := .ref (a 2)) hx hb hts hi8 hown hK hw 0 rfl rfl 1 (by decide) f_0 rfl dX8_tells_9 ?_
  refine lv_bipush (v := 9) hx hb dX8_tells_12 (by decide) ?_
  refine lv_iload_n hx hb dX8_tells_14 rfl (lv_at hl 2 rfl) ?_
  refine r_addN hx hb 9 k dX8_tells_15 ?_
  refine lv_iload hx hb dX8_tells_16 (lv_at hl 0 rfl) ?_
  have kj_18 : ∀ (w_1 : Int32) (ls : Array Slot), w_1 = (if r_3 = 0 then (told (9 + k)) else va2_3) → lv_has ls 5 [(4, .int r_3), (0, .ref (a 0)), (1, .int (nI k)), (2, .int lo), (3, .int hi)] → W jp l je R js jm args below meth jc H locs 0 0 Q (F0 jm 37 ls [.int w_1, .int (nI (9 + k)), .ref (a 2)]) := by
    intro w_1 ls e_w_1 hl
    subst e_w_1
    refine r_iast (G' := ((mG a yn (nI ln) (nI pl2_3) st2_3 va2_3 fy2_3 fa2_3 ry se bh mi fb bo bk) :: (aG c4 (a 4) 230 lt) :: (aG c4 (a 2) 18 (upd told (9 + k) (if r_3 = 0 then (told (9 + k)) else va2_3))) :: Ts)) hx hb hK hw 2 0 rfl rfl (9 + k) (by omega) (by decide) rfl dX8_tells_37 (fun H locs hw => ?_)
    refine lv_iload hx hb dX8_tells_38 (lv_at hl 0 rfl) ?_
    exact kr r_3 (pl2_3, st2_3, va2_3, fy2_3, fa2_3, upd told (9 + k) (if r_3 = 0 then (told (9 + k)) else va2_3)) _ _ _ _ hw (z01 hN_3.z) (tl_fin hN_3) dX8_tells_40
  refine lv_if_eq (tgt := 28) hx hb dX8_tells_18 (by decide) (fun c_18 => ?_) (fun c_18 => ?_)
  · refine lv_aload_n hx hb dX8_tells_28 rfl (lv_at hl 1 rfl) ?_
    refine r_get (T := TX8) (v := .ref (a 2)) hx hb hts hi8 hown hK hw 0 rfl rfl 1 (by decide) f_0 rfl dX8_tells_29 ?_
    refine lv_bipush (v := 9) hx hb dX8_tells_32 (by decide) ?_
    refine lv_iload_n hx hb dX8_tells_34 rfl (lv_at hl 2 rfl) ?_
    refine r_addN hx hb 9 k dX8_tells_35 ?_
    refine r_iald hx hb hK hw 2 0 rfl rfl (9 + k) (by omega) (by decide) dX8_tells_36 ?_
    exact kj_18 _ ls (by first | rfl | (rw [if_pos c_18]; done) | (simp only [if_pos c_18]; done) | simp [c_18]) (lv_sub hl [0, 1, 2, 3, 4] rfl)
  · refine lv_aload_n hx hb dX8_tells_21 rfl (lv_at hl 1 rfl) ?_
    refine r_get (T := TX8) (v := .int va2_3) hx hb hts hi8 hown hK hw 0 rfl rfl 8 (by decide) f_1 rfl dX8_tells_22 ?_
    refine lv_goto (tgt := 37) hx hb dX8_tells_25 (by decide) ?_
    exact kj_18 _ ls (by first | rfl | (rw [if_neg c_18]; done) | (simp only [if_neg c_18]; done) | simp [c_18]) (lv_sub hl [0, 1, 2, 3, 4] rfl)
set_option maxHeartbeats 4000000 in
set_option maxRecDepth 100000 in
theorem k_X8_takesYard (l : Launch) (D : va_G) (c4 : Nat → ClassId) (A : Nat → Prop) (Ts : List va_W) (a : Nat → Nat) (yn : Int32) (ln : Nat) (p : Nat) (st : Int32) (va : Int32) (fy : Int32) (fa : Int32) (y : Nat) (se : Int32) (bh : Int32) (mi : Int32) (fb : Int32) (bo : Int32) (bk : Int32) (lt : Nat → Int32) (rk : Nat → Int32) (ri : Nat → Int32) (hln : ln ≤ 230) (hp : p ≤ ln) (hy : y < 12) : Ci l yX8_takesYard wsX8_takesYard 3 63 [.ref (a 0)] D (tyA c4) A none ((mG a yn (nI ln) (nI p) st va fy fa (nI y) se bh mi fb bo bk) :: (aG c4 (a 4) 230 lt) :: (aG c4 (a 5) 12 rk) :: (aG c4 (a 6) 12 ri) :: Ts) (S := Nat × Int32 × Int32 × Int32 × Int32 × Int32 × (Nat → Int32) × (Nat → Int32)) (fun (r : Int32) (u : Nat × Int32 × Int32 × Int32 × Int32 × Int32 × (Nat → Int32) × (Nat → Int32)) => tyP lt ln p y u.1 u.2.2.2.2.2.1 rk ri u.2.2.2.2.2.2.1 u.2.2.2.2.2.2.2 r fy fa u.2.2.2.1 u.2.2.2.2.1) (fun u => ((mG a yn (nI ln) (nI u.1) u.2.1 u.2.2.1 u.2.2.2.1 u.2.2.2.2.1 u.2.2.2.2.2.1 se bh mi fb bo bk) :: (aG c4 (a 4) 230 lt) :: (aG c4 (a 5) 12 u.2.2.2.2.2.2.1) :: (aG c4 (a 6) 12 u.2.2.2.2.2.2.2) :: Ts)) := by
  refine cOz (cc := cX8_takesYard) (maxL := 1) (by decide) rfl (Nat.le_of_ble_eq_true rfl) rfl ?_
  rintro jp je js jm below meth jc ls args R Q H locs hRf hRl ⟨hx, hb, hml, hr, hts, hown, hlocks, hK, hX⟩ hw hl kr
  have hown : js.vm.findClass RX8 = some jm.cls := hown
  have f_0 := hts (.fieldLink RX8 27 "IceSwayModel" "readKind" "[I") (by decide +kernel)
  have f_1 := hts (.fieldLink RX8 69 "IceSwayModel" "readYards" "I") (by decide +kernel)
  have f_2 := hts (.fieldLink RX8 107 "IceSwayModel" "value" "I") (by decide +kernel)
  have f_3 := hts (.fieldLink RX8 30 "IceSwayModel" "readIce" "[I") (by decide +kernel)
  have hi8 : ∀ w ∈ u_ws RX8 TX8 28, w ∈ wsX8_takesYard := fun w h => List.mem_cons_of_mem _ (List.mem_append_right _ h)
  refine lv_aload_n hx hb dX8_takesYard_0 rfl (lv_at hl 0 rfl) ?_
  refine lv_iconst (v := 0) hx hb dX8_takesYard_1 (by decide) ?_
  refine lv_iconst (v := 3) hx hb dX8_takesYard_2 (by decide) ?_
  have hw := hw.m1
  have hw := hw.m1
  refine c_vi (As := [.int 0, .int 3]) (rest := []) ⟨hx, hb, hml, hown, hts⟩ (k_X8_takesNumber l D c4 A ((aG c4 (a 5) 12 rk) :: (aG c4 (a 6) 12 ri) :: Ts) a yn ln p st va fy fa (nI y) se bh mi fb bo bk lt 0 3 hln hp) (cwV 2 hts gX8_takesYard_X8_takesNumber rfl rfl rfl (by decide +kernel) (rmv (Nat.le_of_ble_eq_true rfl) (Nat.le_of_ble_eq_true rfl) hRf hRl)) hK trivial hw rfl rfl rfl hl rfl (Nat.le_of_ble_eq_true rfl) ⟨Nat.zero_le _, Nat.zero_le _⟩ dX8_takesYard_3 (fun r_3 u_3 H locs hpq hw => ?_)
  obtain ⟨pl2_3, st2_3, va2_3, fy2_3, fa2_3⟩ := u_3
  have hw : gW D A js.heap ((mG a yn (nI ln) (nI pl2_3) st2_3 va2_3 fy2_3 fa2_3 (nI y) se bh mi fb bo bk) :: (aG c4 (a 4) 230 lt) :: (aG c4 (a 5) 12 rk) :: (aG c4 (a 6) 12 ri) :: Ts) H locs := hw
  have hN_3 := hpq
  have hN_3 : tmP lt ln 0 3 p pl2_3 va2_3 r_3 fy fa fy2_3 fa2_3 := hN_3
  refine lv_if_ne (tgt := 11) hx hb dX8_takesYard_6 (by decide) (fun c_6 => ?_) (fun c_6 => ?_)
  · obtain ⟨hs_3, hs1_3, hs2_3⟩ := hN_3.ok c_6
    have hp_3 : pl2_3 ≤ ln := (rn_inl hs_3).2.1 hp
    refine lv_aload_n hx hb dX8_takesYard_11 rfl (lv_at hl 0 rfl) ?_
    refine r_get (T := TX8) (v := .ref (a 5)) hx hb hts hi8 hown hK hw 0 rfl rfl 13 (by decide) f_0 rfl dX8_takesYard_12 ?_
    refine lv_aload_n hx hb dX8_takesYard_15 rfl (lv_at hl 0 rfl) ?_
    refine r_get (T := TX8) (v := .int (nI y)) hx hb hts hi8 hown hK hw 0 rfl rfl 11 (by decide) f_1 rfl dX8_takesYard_16 ?_
    refine lv_aload_n hx hb dX8_takesYard_19 rfl (lv_at hl 0 rfl) ?_
    refine r_get (T := TX8) (v := .int va2_3) hx hb hts hi8 hown hK hw 0 rfl rfl 8 (by decide) f_2 rfl dX8_takesYard_20 ?_
    refine r_iast (G' := ((mG a yn (nI ln) (nI pl2_3) st2_3 va2_3 fy2_3 fa2_3 (nI y) se bh mi fb bo bk) :: (aG c4 (a 4) 230 lt) :: (aG c4 (a 5) 12 (upd rk y va2_3)) :: (aG c4 (a 6) 12 ri) :: Ts)) hx hb hK hw 2 0 rfl rfl y (by omega) (by decide) rfl dX8_takesYard_23 (fun H locs hw => ?_)
    refine lv_aload_n hx hb dX8_takesYard_24 rfl (lv_at hl 0 rfl) ?_
    refine lv_iconst (v := 0) hx hb dX8_takesYard_25 (by decide) ?_
    refine lv_bipush (v := 99) hx hb dX8_takesYard_26 (by decide) ?_
    have hw := hw.m1
    have hw := hw.m1
    refine c_vi (As := [.int 0, .int 99]) (rest := []) ⟨hx, hb, hml, hown, hts⟩ (k_X8_takesNumber l D c4 A ((aG c4 (a 5) 12 (upd rk y va2_3)) :: (aG c4 (a 6) 12 ri) :: Ts) a yn ln pl2_3 st2_3 va2_3 fy2_3 fa2_3 (nI y) se bh mi fb bo bk lt 0 99 hln hp_3) (cwV 2 hts gX8_takesYard_X8_takesNumber rfl rfl rfl (by decide +kernel) (rmv (Nat.le_of_ble_eq_true rfl) (Nat.le_of_ble_eq_true rfl) hRf hRl)) hK trivial hw rfl rfl rfl hl rfl (Nat.le_of_ble_eq_true rfl) ⟨Nat.zero_le _, Nat.zero_le _⟩ dX8_takesYard_28 (fun r_28 u_28 H locs hpq hw => ?_)
    obtain ⟨pl2_28, st2_28, va2_28, fy2_28, fa2_28⟩ := u_28
    have hw : gW D A js.heap ((mG a yn (nI ln) (nI pl2_28) st2_28 va2_28 fy2_28 fa2_28 (nI y) se bh mi fb bo bk) :: (aG c4 (a 4) 230 lt) :: (aG c4 (a 5) 12 (upd rk y va2_3)) :: (aG c4 (a 6) 12 ri) :: Ts) H locs := hw
    have hN_28 := hpq
    have hN_28 : tmP lt ln 0 99 pl2_3 pl2_28 va2_28 r_28 fy2_3 fa2_3 fy2_28 fa2_28 := hN_28
    refine lv_if_ne (tgt := 36) hx hb dX8_takesYard_31 (by decide) (fun c_31 => ?_) (fun c_31 => ?_)
    · obtain ⟨hs_28, hs1_28, hs2_28⟩ := hN_28.ok c_31
      refine lv_aload_n hx hb dX8_takesYard_36 rfl (lv_at hl 0 rfl) ?_
      refine r_get (T := TX8) (v := .ref (a 6)) hx hb hts hi8 hown hK hw 0 rfl rfl 14 (by decide) f_3 rfl dX8_takesYard_37 ?_
      refine lv_aload_n hx hb dX8_takesYard_40 rfl (lv_at hl 0 rfl) ?_
      refine r_get (T := TX8) (v := .int (nI y)) hx hb hts hi8 hown hK hw 0 rfl rfl 11 (by decide) f_1 rfl dX8_takesYard_41 ?_
      refine lv_aload_n hx hb dX8_takesYard_44 rfl (lv_at hl 0 rfl) ?_
      refine r_get (T := TX8) (v := .int va2_28) hx hb hts hi8 hown hK hw 0 rfl rfl 8 (by decide) f_2 rfl dX8_takesYard_45 ?_
      refine r_iast (G' := ((mG a yn (nI ln) (nI pl2_28) st2_28 va2_28 fy2_28 fa2_28 (nI y) se bh mi fb bo bk) :: (aG c4 (a 4) 230 lt) :: (aG c4 (a 5) 12 (upd rk y va2_3)) :: (aG c4 (a 6) 12 (upd ri y va2_28)) :: Ts)) hx hb hK hw 3 0 rfl rfl y (by omega) (by decide) rfl dX8_takesYard_48 (fun H locs hw => ?_)
      refine lv_aload_n hx hb dX8_takesYard_49 rfl (lv_at hl 0 rfl) ?_
      refine lv_dup hx hb dX8_takesYard_50 rfl ?_
      refine r_get (T := TX8) (v := .int (nI y)) hx hb hts hi8 hown hK hw 0 rfl rfl 11 (by decide) f_1 rfl dX8_takesYard_51 ?_
      refine lv_iconst (v := 1) hx hb dX8_takesYard_54 (by decide) ?_
      refine r_addN hx hb y 1 dX8_takesYard_55 ?_
      refine r_put (T := TX8) (G' := ((mG a yn (nI ln) (nI pl2_28) st2_28 va2_28 fy2_28 fa2_28 (nI (y + 1)) se bh mi fb bo bk) :: (aG c4 (a 4) 230 lt) :: (aG c4 (a 5) 12 (upd rk y va2_3)) :: (aG c4 (a 6) 12 (upd ri y va2_28)) :: Ts)) hx hb hts hi8 tyX8 tyX8_ok nmX8 hown hK hw 0 rfl rfl 11 (by decide) f_1 rfl rfl (Nat.le_of_ble_eq_true rfl) rfl dX8_takesYard_56 (fun H locs hw => ?_)
      refine lv_iconst (v := 1) hx hb dX8_takesYard_59 (by decide) ?_
      exact kr 1 (pl2_28, st2_28, va2_28, fy2_28, fa2_28, (nI (y + 1)), upd rk y va2_3, upd ri y va2_28) _ _ _ _ hw rfl (Or.inl ⟨va2_3, va2_28, ry_good hs_3 hs_28, rfl, rfl, rfl, rfl, hs1_28.trans hs1_3, hs2_28.trans hs2_3⟩) dX8_takesYard_60
    · refine lv_iconst (v := 0) hx hb dX8_takesYard_34 (by decide) ?_
      exact kr 0 (pl2_28, st2_28, va2_28, fy2_28, fa2_28, (nI y), upd rk y va2_3, ri) _ _ _ _ hw rfl (Or.inr ⟨ry_bad2 hs_3 (hN_28.no c_31), rfl⟩) dX8_takesYard_35
  · refine lv_iconst (v := 0) hx hb dX8_takesYard_9 (by decide) ?_
    exact kr 0 (pl2_3, st2_3, va2_3, fy2_3, fa2_3, (nI y), rk, ri) _ _ _ _ hw rfl (Or.inr ⟨ry_bad1 (hN_3.no c_6), rfl⟩) dX8_takesYard_10
