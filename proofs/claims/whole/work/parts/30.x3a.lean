set_option maxHeartbeats 4000000 in
set_option maxRecDepth 100000 in
theorem k_X7_isOut (l : Launch) (D : va_G) (c4 : Nat → ClassId) (A : Nat → Prop) (Ts : List va_W) (v : Int32) (lo : Int32) (hi : Int32) : Ci l yX7_isOut wsX7_isOut 0 0 [.int v, .int lo, .int hi] D (tyA c4) A none (Ts) (S := Unit) (fun (r : Int32) (u : Unit) => (r = 0 → ¬ v < lo ∧ ¬ hi < v) ∧ (¬ r = 0 → v < lo ∨ hi < v) ∧ (r = 1 ∨ r = 0)) (fun u => (Ts)) := by
  refine cOz (cc := cX7_isOut) (maxL := 3) (by decide) rfl (Nat.le_of_ble_eq_true rfl) rfl ?_
  rintro jp je js jm below meth jc ls args R Q H locs hRf hRl ⟨hx, hb, hml, hr, hts, hown, hlocks, hK, hX⟩ hw hl kr
  have hown : js.vm.findClass RX7 = some jm.cls := hown
  refine lv_iload_n hx hb dX7_isOut_0 rfl (lv_at hl 0 rfl) ?_
  refine lv_iload_n hx hb dX7_isOut_1 rfl (lv_at hl 1 rfl) ?_
  refine lv_icmp_lt (tgt := 10) hx hb dX7_isOut_2 (by decide) (fun c_2 => ?_) (fun c_2 => ?_)
  · refine lv_iconst (v := 1) hx hb dX7_isOut_10 (by decide) ?_
    refine lv_goto (tgt := 15) hx hb dX7_isOut_11 (by decide) ?_
    exact kr 1 () _ _ _ _ hw rfl ⟨(fun h => absurd h (by decide)), (fun _ => Or.inl c_2), (Or.inl rfl)⟩ dX7_isOut_15
  · refine lv_iload_n hx hb dX7_isOut_5 rfl (lv_at hl 0 rfl) ?_
    refine lv_iload_n hx hb dX7_isOut_6 rfl (lv_at hl 2 rfl) ?_
    refine lv_icmp_le (tgt := 14) hx hb dX7_isOut_7 (by decide) (fun c_7 => ?_) (fun c_7 => ?_)
    · refine lv_iconst (v := 0) hx hb dX7_isOut_14 (by decide) ?_
      exact kr 0 () _ _ _ _ hw rfl ⟨(fun _ => ⟨c_2, fun z => nlt_le c_7 z⟩), (fun h => absurd rfl h), (Or.inr rfl)⟩ dX7_isOut_15
    · refine lv_iconst (v := 1) hx hb dX7_isOut_10 (by decide) ?_
      refine lv_goto (tgt := 15) hx hb dX7_isOut_11 (by decide) ?_
      exact kr 1 () _ _ _ _ hw rfl ⟨(fun h => absurd h (by decide)), (fun _ => Or.inr (fa_of_nle c_7)), (Or.inl rfl)⟩ dX7_isOut_15
set_option maxHeartbeats 4000000 in
set_option maxRecDepth 100000 in
theorem k_X3_isFull (l : Launch) (D : va_G) (c4 : Nat → ClassId) (A : Nat → Prop) (Ts : List va_W) (a : Nat → Nat) (ln : Nat) (yc : Int32) (fn : Int32) (fp : Int32) (pl : Int32) (sn : Int32) (lt : Nat → Int32) (nb : Nat → Int32) (yk : Nat → Int32) (yi : Nat → Int32) (hln : ln ≤ 230) : Ci l yX3_isFull wsX3_isFull 0 0 [.ref (a 0)] D (tyA c4) A none ((xG c4 a (nI ln) yc fn fp pl sn lt nb yk yi) :: Ts) (S := Unit) (fun (r : Int32) (u : Unit) => (r = 0 → ln < 230) ∧ (¬ r = 0 → 230 ≤ ln)) (fun u => ((xG c4 a (nI ln) yc fn fp pl sn lt nb yk yi) :: Ts)) := by
  refine cOz (cc := cX3_isFull) (maxL := 1) (by decide) rfl (Nat.le_of_ble_eq_true rfl) rfl ?_
  rintro jp je js jm below meth jc ls args R Q H locs hRf hRl ⟨hx, hb, hml, hr, hts, hown, hlocks, hK, hX⟩ hw hl kr
  have hown : js.vm.findClass RX3 = some jm.cls := hown
  have f_0 := hts (.fieldLink RX3 32 "IceSway$Text" "length" "I") (by decide +kernel)
  have hi3 : ∀ w ∈ u_ws RX3 TX3 10, w ∈ wsX3_isFull := fun w h => List.mem_cons_of_mem _ (List.mem_append_right _ h)
  refine lv_aload_n hx hb dX3_isFull_0 rfl (lv_at hl 0 rfl) ?_
  refine r_get (T := TX3) (v := .int (nI ln)) hx hb hts hi3 hown hK hw 0 rfl rfl 1 (by decide) f_0 rfl dX3_isFull_1 ?_
  refine lv_sipush (v := 230) hx hb dX3_isFull_4 (by decide) ?_
  refine r_clt hx hb ln 230 (by omega) (by omega) (tgt := 14) dX3_isFull_7 (by decide) (fun c_7 => ?_) (fun c_7 => ?_)
  · refine lv_iconst (v := 0) hx hb dX3_isFull_14 (by decide) ?_
    exact kr 0 () _ _ _ _ hw rfl ⟨(fun _ => c_7), (fun h => absurd rfl h)⟩ dX3_isFull_15
  · refine lv_iconst (v := 1) hx hb dX3_isFull_10 (by decide) ?_
    refine lv_goto (tgt := 15) hx hb dX3_isFull_11 (by decide) ?_
    exact kr 1 () _ _ _ _ hw rfl ⟨(fun h => absurd h (by decide)), (fun _ => c_7)⟩ dX3_isFull_15
set_option maxHeartbeats 4000000 in
set_option maxRecDepth 100000 in
theorem k_X3_add (l : Launch) (D : va_G) (c4 : Nat → ClassId) (A : Nat → Prop) (Ts : List va_W) (a : Nat → Nat) (ln : Nat) (yc : Int32) (fn : Int32) (fp : Int32) (pl : Int32) (sn : Int32) (lt : Nat → Int32) (nb : Nat → Int32) (yk : Nat → Int32) (yi : Nat → Int32) (v : Int32) (hlt : ln < 230) : Cv l yX3_add wsX3_add 1 20 [.ref (a 0), .int v] D (tyA c4) A none ((xG c4 a (nI ln) yc fn fp pl sn lt nb yk yi) :: Ts) (S := Unit) (fun (u : Unit) => True) (fun u => ((xG c4 a (nI (ln + 1)) yc fn fp pl sn (upd lt ln v) nb yk yi) :: Ts)) := by
  refine cOv (cc := cX3_add) (maxL := 2) (by decide) rfl (Nat.le_of_ble_eq_true rfl) rfl ?_
  rintro jp je js jm below meth jc ls args R Q H locs hRf hRl ⟨hx, hb, hml, hr, hts, hown, hlocks, hK, hX⟩ hw hl kr
  have hown : js.vm.findClass RX3 = some jm.cls := hown
  have f_0 := hts (.fieldLink RX3 11 "IceSway$Text" "letters" "[I") (by decide +kernel)
  have f_1 := hts (.fieldLink RX3 32 "IceSway$Text" "length" "I") (by decide +kernel)
  have hi3 : ∀ w ∈ u_ws RX3 TX3 10, w ∈ wsX3_add := fun w h => List.mem_cons_of_mem _ (List.mem_append_right _ h)
  refine lv_aload_n hx hb dX3_add_0 rfl (lv_at hl 0 rfl) ?_
  refine c_vi (As := []) (rest := []) ⟨hx, hb, hml, hown, hts⟩ (k_X3_isFull l D c4 A Ts a ln yc fn fp pl sn lt nb yk yi (by first | omega | decide)) (cwV 0 hts gX3_add_X3_isFull rfl rfl rfl (by decide +kernel) (rmv (Nat.le_of_ble_eq_true rfl) (Nat.le_of_ble_eq_true rfl) hRf hRl)) hK trivial hw rfl rfl rfl hl rfl (Nat.le_of_ble_eq_true rfl) ⟨Nat.zero_le _, Nat.zero_le _⟩ dX3_add_1 (fun r_1 u_1 H locs hpq hw => ?_)
  obtain ⟨h0_1, h1_1⟩ := hpq
  refine lv_if_ne (tgt := 27) hx hb dX3_add_4 (by decide) (fun c_4 => ?_) (fun c_4 => ?_)
  · exact absurd (h1_1 c_4) (by omega)
  · refine lv_aload_n hx hb dX3_add_7 rfl (lv_at hl 0 rfl) ?_
    refine r_get (T := TX3) (v := .ref (a 1)) hx hb hts hi3 hown hK hw 0 rfl rfl 0 (by decide) f_0 rfl dX3_add_8 ?_
    refine lv_aload_n hx hb dX3_add_11 rfl (lv_at hl 0 rfl) ?_
    refine r_get (T := TX3) (v := .int (nI ln)) hx hb hts hi3 hown hK hw 0 rfl rfl 1 (by decide) f_1 rfl dX3_add_12 ?_
    refine lv_iload_n hx hb dX3_add_15 rfl (lv_at hl 1 rfl) ?_
    refine r_iast (G' := ((xG c4 a (nI ln) yc fn fp pl sn (upd lt ln v) nb yk yi) :: Ts)) hx hb hK hw 1 0 rfl rfl ln (by omega) (by decide) rfl dX3_add_16 (fun H locs hw => ?_)
    refine lv_aload_n hx hb dX3_add_17 rfl (lv_at hl 0 rfl) ?_
    refine lv_dup hx hb dX3_add_18 rfl ?_
    refine r_get (T := TX3) (v := .int (nI ln)) hx hb hts hi3 hown hK hw 0 rfl rfl 1 (by decide) f_1 rfl dX3_add_19 ?_
    refine lv_iconst (v := 1) hx hb dX3_add_22 (by decide) ?_
    refine r_addN hx hb ln 1 dX3_add_23 ?_
    refine r_put (T := TX3) (G' := ((xG c4 a (nI (ln + 1)) yc fn fp pl sn (upd lt ln v) nb yk yi) :: Ts)) hx hb hts hi3 tyX3 tyX3_ok nmX3 hown hK hw 0 rfl rfl 1 (by decide) f_1 rfl rfl (Nat.le_of_ble_eq_true rfl) rfl dX3_add_24 (fun H locs hw => ?_)
    exact kr () _ _ _ _ hw trivial dX3_add_27
set_option maxHeartbeats 4000000 in
set_option maxRecDepth 100000 in
theorem k_X3_skipBlanks (l : Launch) (D : va_G) (c4 : Nat → ClassId) (A : Nat → Prop) (Ts : List va_W) (a : Nat → Nat) (ln : Nat) (yc : Int32) (fn : Int32) (fp : Int32) (p : Nat) (sn : Int32) (lt : Nat → Int32) (nb : Nat → Int32) (yk : Nat → Int32) (yi : Nat → Int32) (hln : ln ≤ 230) (hp : p ≤ ln) : Cv l yX3_skipBlanks wsX3_skipBlanks 0 0 [.ref (a 0)] D (tyA c4) A none ((xG c4 a (nI ln) yc fn fp (nI p) sn lt nb yk yi) :: Ts) (S := Unit) (fun (u : Unit) => True) (fun u => ((xG c4 a (nI ln) yc fn fp (nI (skp lt ln p)) sn lt nb yk yi) :: Ts)) := by
  refine cOv (cc := cX3_skipBlanks) (maxL := 1) (by decide) rfl (Nat.le_of_ble_eq_true rfl) rfl ?_
  rintro jp je js jm below meth jc ls args R Q H locs hRf hRl ⟨hx, hb, hml, hr, hts, hown, hlocks, hK, hX⟩ hw hl kr
  have hown : js.vm.findClass RX3 = some jm.cls := hown
  have f_0 := hts (.fieldLink RX3 39 "IceSway$Text" "place" "I") (by decide +kernel)
  have f_1 := hts (.fieldLink RX3 32 "IceSway$Text" "length" "I") (by decide +kernel)
  have f_2 := hts (.fieldLink RX3 11 "IceSway$Text" "letters" "[I") (by decide +kernel)
  have hi3 : ∀ w ∈ u_ws RX3 TX3 10, w ∈ wsX3_skipBlanks := fun w h => List.mem_cons_of_mem _ (List.mem_append_right _ h)
  have loop_0 : ∀ (fuel : Nat) (p1 : Nat), (ln - p1) < fuel → (p1 ≤ ln) → (skp lt ln p1 = skp lt ln p) → ∀ (H : Heap) (locs : List Loc), gW D A js.heap ((xG c4 a (nI ln) yc fn fp (nI p1) sn lt nb yk yi) :: Ts) H locs → ∀ (ls : Array Slot), lv_has ls 1 [(0, .ref (a 0))] → W jp l je R js jm args below meth jc H locs 0 0 Q (F0 jm 0 ls []) := by
    intro fuel
    induction fuel with
    | zero => intro p1 hm; exact absurd hm (Nat.not_lt_zero _)
    | succ fuel ih_0 =>
      intro p1 hm_0 hq hS H locs hw ls hl
      refine lv_aload_n hx hb dX3_skipBlanks_0 rfl (lv_at hl 0 rfl) ?_
      refine r_get (T := TX3) (v := .int (nI p1)) hx hb hts hi3 hown hK hw 0 rfl rfl 8 (by decide) f_0 rfl dX3_skipBlanks_1 ?_
      refine lv_aload_n hx hb dX3_skipBlanks_4 rfl (lv_at hl 0 rfl) ?_
      refine r_get (T := TX3) (v := .int (nI ln)) hx hb hts hi3 hown hK hw 0 rfl rfl 1 (by decide) f_1 rfl dX3_skipBlanks_5 ?_
      refine r_cge hx hb p1 ln (by omega) (by omega) (tgt := 38) dX3_skipBlanks_8 (by decide) (fun c_8 => ?_) (fun c_8 => ?_)
      · rw [show (nI p1) = (nI (skp lt ln p)) from (congrArg nI ((skp_no (fun z => by omega)).trans hS))] at hw
        exact kr () _ _ _ _ hw trivial dX3_skipBlanks_38
      · refine lv_aload_n hx hb dX3_skipBlanks_11 rfl (lv_at hl 0 rfl) ?_
        refine r_get (T := TX3) (v := .ref (a 1)) hx hb hts hi3 hown hK hw 0 rfl rfl 0 (by decide) f_2 rfl dX3_skipBlanks_12 ?_
        refine lv_aload_n hx hb dX3_skipBlanks_15 rfl (lv_at hl 0 rfl) ?_
        refine r_get (T := TX3) (v := .int (nI p1)) hx hb hts hi3 hown hK hw 0 rfl rfl 8 (by decide) f_0 rfl dX3_skipBlanks_16 ?_
        refine r_iald hx hb hK hw 1 0 rfl rfl p1 (by omega) (by decide) dX3_skipBlanks_19 ?_
        refine lv_bipush (v := 32) hx hb dX3_skipBlanks_20 (by decide) ?_
        refine lv_icmp_ne (tgt := 38) hx hb dX3_skipBlanks_22 (by decide) (fun c_22 => ?_) (fun c_22 => ?_)
        · rw [show (nI p1) = (nI (skp lt ln p)) from (congrArg nI ((skp_no (fun z => c_22 z.2)).trans hS))] at hw
          exact kr () _ _ _ _ hw trivial dX3_skipBlanks_38
        · refine lv_aload_n hx hb dX3_skipBlanks_25 rfl (lv_at hl 0 rfl) ?_
          refine lv_dup hx hb dX3_skipBlanks_26 rfl ?_
          refine r_get (T := TX3) (v := .int (nI p1)) hx hb hts hi3 hown hK hw 0 rfl rfl 8 (by decide) f_0 rfl dX3_skipBlanks_27 ?_
          refine lv_iconst (v := 1) hx hb dX3_skipBlanks_30 (by decide) ?_
          refine r_addN hx hb p1 1 dX3_skipBlanks_31 ?_
          refine r_put (T := TX3) (G' := ((xG c4 a (nI ln) yc fn fp (nI (p1 + 1)) sn lt nb yk yi) :: Ts)) hx hb hts hi3 tyX3 tyX3_ok nmX3 hown hK hw 0 rfl rfl 8 (by decide) f_0 rfl rfl (Nat.le_of_ble_eq_true rfl) rfl dX3_skipBlanks_32 (fun H locs hw => ?_)
          refine lv_goto (tgt := 0) hx hb dX3_skipBlanks_35 (by decide) ?_
          exact ih_0 (p1 + 1) (by omega) (by omega) ((skp_go c_8 c_22).trans hS) _ _ hw ls (lv_sub hl [0] rfl)
  exact loop_0 ((ln - p) + 1) p (Nat.lt_succ_self _) hp rfl _ _ hw ls (lv_sub hl [0] rfl)
set_option maxHeartbeats 4000000 in
set_option maxRecDepth 100000 in
theorem k_X3_isAtEnd (l : Launch) (D : va_G) (c4 : Nat → ClassId) (A : Nat → Prop) (Ts : List va_W) (a : Nat → Nat) (ln : Nat) (yc : Int32) (fn : Int32) (fp : Int32) (p : Nat) (sn : Int32) (lt : Nat → Int32) (nb : Nat → Int32) (yk : Nat → Int32) (yi : Nat → Int32) (hln : ln ≤ 230) (hp : p ≤ ln) : Ci l yX3_isAtEnd wsX3_isAtEnd 0 0 [.ref (a 0)] D (tyA c4) A none ((xG c4 a (nI ln) yc fn fp (nI p) sn lt nb yk yi) :: Ts) (S := Unit) (fun (r : Int32) (u : Unit) => (r = 0 → p < ln) ∧ (¬ r = 0 → ln ≤ p)) (fun u => ((xG c4 a (nI ln) yc fn fp (nI p) sn lt nb yk yi) :: Ts)) := by
  refine cOz (cc := cX3_isAtEnd) (maxL := 1) (by decide) rfl (Nat.le_of_ble_eq_true rfl) rfl ?_
  rintro jp je js jm below meth jc ls args R Q H locs hRf hRl ⟨hx, hb, hml, hr, hts, hown, hlocks, hK, hX⟩ hw hl kr
  have hown : js.vm.findClass RX3 = some jm.cls := hown
  have f_0 := hts (.fieldLink RX3 39 "IceSway$Text" "place" "I") (by decide +kernel)
  have f_1 := hts (.fieldLink RX3 32 "IceSway$Text" "length" "I") (by decide +kernel)
  have hi3 : ∀ w ∈ u_ws RX3 TX3 10, w ∈ wsX3_isAtEnd := fun w h => List.mem_cons_of_mem _ (List.mem_append_right _ h)
  refine lv_aload_n hx hb dX3_isAtEnd_0 rfl (lv_at hl 0 rfl) ?_
  refine r_get (T := TX3) (v := .int (nI p)) hx hb hts hi3 hown hK hw 0 rfl rfl 8 (by decide) f_0 rfl dX3_isAtEnd_1 ?_
  refine lv_aload_n hx hb dX3_isAtEnd_4 rfl (lv_at hl 0 rfl) ?_
  refine r_get (T := TX3) (v := .int (nI ln)) hx hb hts hi3 hown hK hw 0 rfl rfl 1 (by decide) f_1 rfl dX3_isAtEnd_5 ?_
  refine r_clt hx hb p ln (by omega) (by omega) (tgt := 15) dX3_isAtEnd_8 (by decide) (fun c_8 => ?_) (fun c_8 => ?_)
  · refine lv_iconst (v := 0) hx hb dX3_isAtEnd_15 (by decide) ?_
    exact kr 0 () _ _ _ _ hw rfl ⟨(fun _ => c_8), (fun h => absurd rfl h)⟩ dX3_isAtEnd_16
  · refine lv_iconst (v := 1) hx hb dX3_isAtEnd_11 (by decide) ?_
    refine lv_goto (tgt := 16) hx hb dX3_isAtEnd_12 (by decide) ?_
    exact kr 1 () _ _ _ _ hw rfl ⟨(fun h => absurd h (by decide)), (fun _ => c_8)⟩ dX3_isAtEnd_16
set_option maxHeartbeats 4000000 in
set_option maxRecDepth 100000 in
theorem k_X3_failAt (l : Launch) (D : va_G) (c4 : Nat → ClassId) (A : Nat → Prop) (Ts : List va_W) (a : Nat → Nat) (ln : Nat) (yc : Int32) (fn : Int32) (fp : Int32) (p : Nat) (sn : Int32) (lt : Nat → Int32) (nb : Nat → Int32) (yk : Nat → Int32) (yi : Nat → Int32) (w : Int32) (k : Int32) : Ci l yX3_failAt wsX3_failAt 0 0 [.ref (a 0), .int w, .int k] D (tyA c4) A none ((xG c4 a (nI ln) yc fn fp (nI p) sn lt nb yk yi) :: Ts) (S := Unit) (fun (r : Int32) (u : Unit) => r = 0) (fun u => ((xG c4 a (nI ln) yc k w (nI p) sn lt nb yk yi) :: Ts)) := by
  refine cOz (cc := cX3_failAt) (maxL := 3) (by decide) rfl (Nat.le_of_ble_eq_true rfl) rfl ?_
  rintro jp je js jm below meth jc ls args R Q H locs hRf hRl ⟨hx, hb, hml, hr, hts, hown, hlocks, hK, hX⟩ hw hl kr
  have hown : js.vm.findClass RX3 = some jm.cls := hown
  have f_0 := hts (.fieldLink RX3 28 "IceSway$Text" "faultPlace" "I") (by decide +kernel)
  have f_1 := hts (.fieldLink RX3 48 "IceSway$Text" "faultNumber" "I") (by decide +kernel)
  have hi3 : ∀ w ∈ u_ws RX3 TX3 10, w ∈ wsX3_failAt := fun w h => List.mem_cons_of_mem _ (List.mem_append_right _ h)
  refine lv_aload_n hx hb dX3_failAt_0 rfl (lv_at hl 0 rfl) ?_
  refine lv_iload_n hx hb dX3_failAt_1 rfl (lv_at hl 1 rfl) ?_
  refine r_put (T := TX3) (G' := ((xG c4 a (nI ln) yc fn w (nI p) sn lt nb yk yi) :: Ts)) hx hb hts hi3 tyX3 tyX3_ok nmX3 hown hK hw 0 rfl rfl 7 (by decide) f_0 rfl rfl (Nat.le_of_ble_eq_true rfl) rfl dX3_failAt_2 (fun H locs hw => ?_)
  refine lv_aload_n hx hb dX3_failAt_5 rfl (lv_at hl 0 rfl) ?_
  refine lv_iload_n hx hb dX3_failAt_6 rfl (lv_at hl 2 rfl) ?_
  refine r_put (T := TX3) (G' := ((xG c4 a (nI ln) yc k w (nI p) sn lt nb yk yi) :: Ts)) hx hb hts hi3 tyX3 tyX3_ok nmX3 hown hK hw 0 rfl rfl 6 (by decide) f_1 rfl rfl (Nat.le_of_ble_eq_true rfl) rfl dX3_failAt_7 (fun H locs hw => ?_)
  refine lv_iconst (v := 0) hx hb dX3_failAt_10 (by decide) ?_
  exact kr 0 () _ _ _ _ hw rfl rfl dX3_failAt_11
set_option maxHeartbeats 4000000 in
set_option maxRecDepth 100000 in
theorem k_X3_isFigure (l : Launch) (D : va_G) (c4 : Nat → ClassId) (A : Nat → Prop) (Ts : List va_W) (v : Int32) : Ci l yX3_isFigure wsX3_isFigure 0 0 [.int v] D (tyA c4) A none (Ts) (S := Unit) (fun (r : Int32) (u : Unit) => (r = 0 → ¬ isFg v) ∧ (¬ r = 0 → isFg v)) (fun u => (Ts)) := by
  refine cOz (cc := cX3_isFigure) (maxL := 1) (by decide) rfl (Nat.le_of_ble_eq_true rfl) rfl ?_
  rintro jp je js jm below meth jc ls args R Q H locs hRf hRl ⟨hx, hb, hml, hr, hts, hown, hlocks, hK, hX⟩ hw hl kr
  have hown : js.vm.findClass RX3 = some jm.cls := hown
  refine lv_iload_n hx hb dX3_isFigure_0 rfl (lv_at hl 0 rfl) ?_
  refine lv_bipush (v := 48) hx hb dX3_isFigure_1 (by decide) ?_
  refine lv_icmp_lt (tgt := 16) hx hb dX3_isFigure_3 (by decide) (fun c_3 => ?_) (fun c_3 => ?_)
  · refine lv_iconst (v := 0) hx hb dX3_isFigure_16 (by decide) ?_
    exact kr 0 () _ _ _ _ hw rfl ⟨(fun _ z => nlt_le z.1 c_3), (fun h => absurd rfl h)⟩ dX3_isFigure_17
  · refine lv_iload_n hx hb dX3_isFigure_6 rfl (lv_at hl 0 rfl) ?_
    refine lv_bipush (v := 57) hx hb dX3_isFigure_7 (by decide) ?_
    refine lv_icmp_gt (tgt := 16) hx hb dX3_isFigure_9 (by decide) (fun c_9 => ?_) (fun c_9 => ?_)
    · refine lv_iconst (v := 0) hx hb dX3_isFigure_16 (by decide) ?_
      exact kr 0 () _ _ _ _ hw rfl ⟨(fun _ z => nlt_le z.2 c_9), (fun h => absurd rfl h)⟩ dX3_isFigure_17
    · refine lv_iconst (v := 1) hx hb dX3_isFigure_12 (by decide) ?_
      refine lv_goto (tgt := 17) hx hb dX3_isFigure_13 (by decide) ?_
      exact kr 1 () _ _ _ _ hw rfl ⟨(fun h => absurd h (by decide)), (fun _ => ⟨fa_of_nlt c_3, fa_of_nlt c_9⟩)⟩ dX3_isFigure_17
set_option maxHeartbeats 4000000 in
set_option maxRecDepth 100000 in
theorem k_X3_clauseOf (l : Launch) (D : va_G) (c4 : Nat → ClassId) (A : Nat → Prop) (Ts : List va_W) (v : Int32) : Ci l yX3_clauseOf wsX3_clauseOf 0 0 [.int v] D (tyA c4) A none (Ts) (S := Unit) (fun (r : Int32) (u : Unit) => r = (clO v)) (fun u => (Ts)) := by
  refine cOi (cc := cX3_clauseOf) (maxL := 1) (by decide) rfl (Nat.le_of_ble_eq_true rfl) rfl ?_
  rintro jp je js jm below meth jc ls args R Q H locs hRf hRl ⟨hx, hb, hml, hr, hts, hown, hlocks, hK, hX⟩ hw hl kr
  have hown : js.vm.findClass RX3 = some jm.cls := hown
  refine lv_iload_n hx hb dX3_clauseOf_0 rfl (lv_at hl 0 rfl) ?_
  rcases clO_cases v with e | e | e | e | ⟨e1, e2, e3, e4⟩
  · subst e
    refine lv_lookup (tgt := 46) (off := 45) hx hb dX3_clauseOf_1 (by decide) (by decide) (by decide) ?_
    refine lv_iconst (v := 1) hx hb dX3_clauseOf_46 (by decide) ?_
    exact kr 1 () _ _ _ _ hw rfl dX3_clauseOf_47
  · subst e
    refine lv_lookup (tgt := 50) (off := 49) hx hb dX3_clauseOf_1 (by decide) (by decide) (by decide) ?_
    refine lv_iconst (v := 3) hx hb dX3_clauseOf_50 (by decide) ?_
    exact kr 3 () _ _ _ _ hw rfl dX3_clauseOf_51
  · subst e
    refine lv_lookup (tgt := 48) (off := 47) hx hb dX3_clauseOf_1 (by decide) (by decide) (by decide) ?_
    refine lv_iconst (v := 2) hx hb dX3_clauseOf_48 (by decide) ?_
    exact kr 2 () _ _ _ _ hw rfl dX3_clauseOf_49
  · subst e
    refine lv_lookup (tgt := 44) (off := 43) hx hb dX3_clauseOf_1 (by decide) (by decide) (by decide) ?_
    refine lv_iconst (v := 0) hx hb dX3_clauseOf_44 (by decide) ?_
    exact kr 0 () _ _ _ _ hw rfl dX3_clauseOf_45
  · refine lv_lookup (tgt := 52) (off := 51) hx hb dX3_clauseOf_1 (by decide) ((lv_osw (k := 98) e1 rfl).trans ((lv_osw (k := 99) e2 rfl).trans ((lv_osw (k := 103) e3 rfl).trans ((lv_osw (k := 121) e4 rfl).trans rfl)))) (by decide) ?_
    refine lv_iconst (v := (-1)) hx hb dX3_clauseOf_52 (by decide) ?_
    exact kr (-1) () _ _ _ _ hw (by unfold clO; rw [if_neg e4, if_neg e1, if_neg e3, if_neg e2]) dX3_clauseOf_53
set_option maxHeartbeats 4000000 in
set_option maxRecDepth 100000 in
theorem k_X3_readNumber (l : Launch) (D : va_G) (c4 : Nat → ClassId) (A : Nat → Prop) (Ts : List va_W) (t : Nat → Nat) (a : Nat → Nat) (ln : Nat) (yc : Int32) (fn : Int32) (fp : Int32) (p : Nat) (sn : Int32) (lt : Nat → Int32) (nb : Nat → Int32) (yk : Nat → Int32) (yi : Nat → Int32) (lo : Int32) (hi : Int32) (hln : ln ≤ 230) (hp : p ≤ ln) (hlo : 0 ≤ lo.toInt) : Ci l yX3_readNumber wsX3_readNumber 1 22 [.ref (a 0), .int lo, .int hi] D (tyA c4) A (some t) ((xG c4 a (nI ln) yc fn fp (nI p) sn lt nb yk yi) :: Ts) (S := Nat × Int32 × Int32) (fun (r : Int32) (u : Nat × Int32 × Int32) => rnP lt ln lo hi p u.1 r fn fp u.2.1 u.2.2) (fun u => ((xG c4 a (nI ln) yc u.2.1 u.2.2 (nI u.1) sn lt nb yk yi) :: Ts)) := by
  refine cOi (cc := cX3_readNumber) (maxL := 5) (by decide) rfl (Nat.le_of_ble_eq_true rfl) rfl ?_
  rintro jp je js jm below meth jc ls args R Q H locs hRf hRl ⟨hx, hb, hml, hr, hts, hown, hlocks, hK, hX⟩ hw hl kr
  have hown : js.vm.findClass RX3 = some jm.cls := hown
  have f_0 := hts (.fieldLink RX3 39 "IceSway$Text" "place" "I") (by decide +kernel)
  have f_1 := hts (.fieldLink RX3 32 "IceSway$Text" "length" "I") (by decide +kernel)
  have f_2 := hts (.initialized RX7) (by decide +kernel)
  have f_3 := hts (.static yX7_isOut) (by decide +kernel)
  have f_4 := hts (.fieldLink RX3 11 "IceSway$Text" "letters" "[I") (by decide +kernel)
  have hi3 : ∀ w ∈ u_ws RX3 TX3 10, w ∈ wsX3_readNumber := fun w h => List.mem_cons_of_mem _ (List.mem_append_right _ h)
  refine lv_aload_n hx hb dX3_readNumber_0 rfl (lv_at hl 0 rfl) ?_
  refine c_vv (As := []) (rest := []) ⟨hx, hb, hml, hown, hts⟩ (k_X3_skipBlanks l D c4 A Ts a ln yc fn fp p sn lt nb yk yi hln hp) (cwV 0 hts gX3_readNumber_X3_skipBlanks rfl rfl rfl (by decide +kernel) (rmv (Nat.le_of_ble_eq_true rfl) (Nat.le_of_ble_eq_true rfl) hRf hRl)) hK trivial hw rfl rfl rfl hl rfl (Nat.le_of_ble_eq_true rfl) ⟨Nat.zero_le _, Nat.zero_le _⟩ dX3_readNumber_1 (fun u_1 H locs hpq hw => ?_)
  have hs1 := skp_ge lt ln p
  have hs2 := skp_le (lt := lt) hp
  refine lv_aload_n hx hb dX3_readNumber_4 rfl (lv_at hl 0 rfl) ?_
  refine r_get (T := TX3) (v := .int (nI (skp lt ln p))) hx hb hts hi3 hown hK hw 0 rfl rfl 8 (by decide) f_0 rfl dX3_readNumber_5 ?_
  refine lv_istore_n (lv' := [(3, .int (nI (skp lt ln p))), (0, .ref (a 0)), (1, .int lo), (2, .int hi)]) hx hb dX3_readNumber_8 rfl hl (by decide) rfl (fun ls hl => ?_)
  refine lv_iconst (v := 0) hx hb dX3_readNumber_9 (by decide) ?_
  refine lv_istore (lv' := [(4, .int 0), (3, .int (nI (skp lt ln p))), (0, .ref (a 0)), (1, .int lo), (2, .int hi)]) hx hb dX3_readNumber_10 hl (by decide) rfl (fun ls hl => ?_)
  have loop_12 : ∀ (fuel : Nat) (p1 : Nat) (v1 : Int32), (ln - p1) < fuel → (skp lt ln p ≤ p1) → (p1 ≤ ln) → (nmW lt ln (skp lt ln p) p1 v1 = nmW lt ln (skp lt ln p) (skp lt ln p) 0) → ∀ (H : Heap) (locs : List Loc), gW D A js.heap ((xG c4 a (nI ln) yc fn fp (nI p1) sn lt nb yk yi) :: Ts) H locs → ∀ (ls : Array Slot), lv_has ls 5 [(4, .int v1), (3, .int (nI (skp lt ln p))), (0, .ref (a 0)), (1, .int lo), (2, .int hi)] → W jp l je R js jm args below meth jc H locs 0 0 Q (F0 jm 12 ls []) := by
    intro fuel
    induction fuel with
    | zero => intro p1 v1 hm; exact absurd hm (Nat.not_lt_zero _)
    | succ fuel ih_12 =>
      intro p1 v1 hm_12 hq hq2 hV H locs hw ls hl
      refine lv_aload_n hx hb dX3_readNumber_12 rfl (lv_at hl 2 rfl) ?_
      refine r_get (T := TX3) (v := .int (nI p1)) hx hb hts hi3 hown hK hw 0 rfl rfl 8 (by decide) f_0 rfl dX3_readNumber_13 ?_
      refine lv_aload_n hx hb dX3_readNumber_16 rfl (lv_at hl 2 rfl) ?_
      refine r_get (T := TX3) (v := .int (nI ln)) hx hb hts hi3 hown hK hw 0 rfl rfl 1 (by decide) f_1 rfl dX3_readNumber_17 ?_
      have kj_20 : (¬ (p1 < ln ∧ isFg (lt p1))) → ∀ (H : Heap) (locs : List Loc), gW D A js.heap ((xG c4 a (nI ln) yc fn fp (nI p1) sn lt nb yk yi) :: Ts) H locs → ∀ (ls : Array Slot), lv_has ls 5 [(4, .int v1), (3, .int (nI (skp lt ln p))), (0, .ref (a 0)), (1, .int lo), (2, .int hi)] → W jp l je R js jm args below meth jc H locs 0 0 Q (F0 jm 81 ls []) := by
        intro hE H locs hw ls hl
        have hW := (nm_no (s := skp lt ln p) (v := v1) hE).trans hV
        refine lv_aload_n hx hb dX3_readNumber_81 rfl (lv_at hl 2 rfl) ?_
        refine r_get (T := TX3) (v := .int (nI p1)) hx hb hts hi3 hown hK hw 0 rfl rfl 8 (by decide) f_0 rfl dX3_readNumber_82 ?_
        refine lv_iload_n hx hb dX3_readNumber_85 rfl (lv_at hl 1 rfl) ?_
        refine r_cne hx hb p1 (skp lt ln p) (by omega) (by omega) (tgt := 98) dX3_readNumber_86 (by decide) (fun c_86 => ?_) (fun c_86 => ?_)
        · refine lv_aload_n hx hb dX3_readNumber_98 rfl (lv_at hl 2 rfl) ?_
          refine r_get (T := TX3) (v := .int (nI p1)) hx hb hts hi3 hown hK hw 0 rfl rfl 8 (by decide) f_0 rfl dX3_readNumber_99 ?_
          refine lv_iload_n hx hb dX3_readNumber_102 rfl (lv_at hl 1 rfl) ?_
          refine r_subN hx hb p1 (skp lt ln p) (by omega) dX3_readNumber_103 ?_
          refine lv_iconst (v := 3) hx hb dX3_readNumber_104 (by decide) ?_
          refine r_cgt hx hb (p1 - (skp lt ln p)) 3 (by omega) (by omega) (tgt := 118) dX3_readNumber_105 (by decide) (fun c_105 => ?_) (fun c_105 => ?_)
          · refine lv_aload_n hx hb dX3_readNumber_118 rfl (lv_at hl 2 rfl) ?_
            refine lv_iload_n hx hb dX3_readNumber_119 rfl (lv_at hl 1 rfl) ?_
            refine lv_iconst (v := 2) hx hb dX3_readNumber_120 (by decide) ?_
            refine c_vi (As := [.int (nI (skp lt ln p)), .int 2]) (rest := []) ⟨hx, hb, hml, hown, hts⟩ (k_X3_failAt l D c4 A Ts a ln yc fn fp p1 sn lt nb yk yi (nI (skp lt ln p)) 2) (cwV 2 hts gX3_readNumber_X3_failAt rfl rfl rfl (by decide +kernel) (rmv (Nat.le_of_ble_eq_true rfl) (Nat.le_of_ble_eq_true rfl) hRf hRl)) hK trivial hw rfl rfl rfl hl rfl (Nat.le_of_ble_eq_true rfl) ⟨Nat.zero_le _, Nat.zero_le _⟩ dX3_readNumber_121 (fun r_121 u_121 H locs hpq hw => ?_)
            have er_121 := hpq
            subst er_121
            refine lv_pop hx hb dX3_readNumber_124 rfl ?_
            refine lv_iconst (v := (-1)) hx hb dX3_readNumber_125 (by decide) ?_
            exact kr (-1) (p1, 2, (nI (skp lt ln p))) _ _ _ _ hw (Or.inr ⟨⟨skp lt ln p, 2, rn_2 hW.symm c_86 (Or.inl c_105), rfl, rfl⟩, rfl⟩) dX3_readNumber_126
          · refine lv_iload hx hb dX3_readNumber_108 (lv_at hl 0 rfl) ?_
            refine lv_iload_n hx hb dX3_readNumber_110 rfl (lv_at hl 3 rfl) ?_
            refine lv_iload_n hx hb dX3_readNumber_111 rfl (lv_at hl 4 rfl) ?_
            refine c_siN (As := [.int v1, .int lo, .int hi]) (rest := []) ⟨hx, hb, hml, hown, hts⟩ (k_X7_isOut l D c4 A ((xG c4 a (nI ln) yc fn fp (nI p1) sn lt nb yk yi) :: Ts) v1 lo hi) (va_cnB 3 hts gX3_readNumber_X7_isOut_n103 rfl rfl rfl hX.1.1.1 f_2 (by decide +kernel) (rmv (Nat.le_of_ble_eq_true rfl) (Nat.le_of_ble_eq_true rfl) hRf hRl)) f_3 hK trivial hw rfl hl rfl (Nat.le_of_ble_eq_true rfl) ⟨Nat.zero_le _, Nat.zero_le _⟩ dX3_readNumber_112 (fun r_112 u_112 H locs hpq hw => ?_)
            obtain ⟨h0_112, h1_112, hz_112⟩ := hpq
            refine lv_if_eq (tgt := 127) hx hb dX3_readNumber_115 (by decide) (fun c_115 => ?_) (fun c_115 => ?_)
            · refine lv_iload hx hb dX3_readNumber_127 (lv_at hl 0 rfl) ?_
              exact kr v1 (p1, fn, fp) _ _ _ _ hw (Or.inl ⟨rn_3 hW.symm c_86 (fun z => by rcases z with z | z | z; { omega }; { exact (h0_112 c_115).1 z }; { exact (h0_112 c_115).2 z }), rfl, rfl, neg1 (h0_112 c_115).1 hlo⟩) dX3_readNumber_129
            · refine lv_aload_n hx hb dX3_readNumber_118 rfl (lv_at hl 2 rfl) ?_
              refine lv_iload_n hx hb dX3_readNumber_119 rfl (lv_at hl 1 rfl) ?_
              refine lv_iconst (v := 2) hx hb dX3_readNumber_120 (by decide) ?_
              refine c_vi (As := [.int (nI (skp lt ln p)), .int 2]) (rest := []) ⟨hx, hb, hml, hown, hts⟩ (k_X3_failAt l D c4 A Ts a ln yc fn fp p1 sn lt nb yk yi (nI (skp lt ln p)) 2) (cwV 2 hts gX3_readNumber_X3_failAt rfl rfl rfl (by decide +kernel) (rmv (Nat.le_of_ble_eq_true rfl) (Nat.le_of_ble_eq_true rfl) hRf hRl)) hK trivial hw rfl rfl rfl hl rfl (Nat.le_of_ble_eq_true rfl) ⟨Nat.zero_le _, Nat.zero_le _⟩ dX3_readNumber_121 (fun r_121 u_121 H locs hpq hw => ?_)
              have er_121 := hpq
              subst er_121
              refine lv_pop hx hb dX3_readNumber_124 rfl ?_
              refine lv_iconst (v := (-1)) hx hb dX3_readNumber_125 (by decide) ?_
              exact kr (-1) (p1, 2, (nI (skp lt ln p))) _ _ _ _ hw (Or.inr ⟨⟨skp lt ln p, 2, rn_2 hW.symm c_86 (Or.inr (h1_112 c_115)), rfl, rfl⟩, rfl⟩) dX3_readNumber_126
        · refine lv_aload_n hx hb dX3_readNumber_89 rfl (lv_at hl 2 rfl) ?_
          refine lv_iload_n hx hb dX3_readNumber_90 rfl (lv_at hl 1 rfl) ?_
          refine lv_iconst (v := 1) hx hb dX3_readNumber_91 (by decide) ?_
          refine c_vi (As := [.int (nI (skp lt ln p)), .int 1]) (rest := []) ⟨hx, hb, hml, hown, hts⟩ (k_X3_failAt l D c4 A Ts a ln yc fn fp p1 sn lt nb yk yi (nI (skp lt ln p)) 1) (cwV 2 hts gX3_readNumber_X3_failAt rfl rfl rfl (by decide +kernel) (rmv (Nat.le_of_ble_eq_true rfl) (Nat.le_of_ble_eq_true rfl) hRf hRl)) hK trivial hw rfl rfl rfl hl rfl (Nat.le_of_ble_eq_true rfl) ⟨Nat.zero_le _, Nat.zero_le _⟩ dX3_readNumber_92 (fun r_92 u_92 H locs hpq hw => ?_)
          have er_92 := hpq
          subst er_92
          refine lv_pop hx hb dX3_readNumber_95 rfl ?_
          refine lv_iconst (v := (-1)) hx hb dX3_readNumber_96 (by decide) ?_
          exact kr (-1) (p1, 1, (nI (skp lt ln p))) _ _ _ _ hw (Or.inr ⟨⟨skp lt ln p, 1, rn_1 (v := v1) (by rw [← hW, c_86]), rfl, rfl⟩, rfl⟩) dX3_readNumber_97
      refine r_cge hx hb p1 ln (by omega) (by omega) (tgt := 81) dX3_readNumber_20 (by decide) (fun c_20 => ?_) (fun c_20 => ?_)
      · exact kj_20 (fun z => by omega) _ _ hw ls (lv_sub hl [0, 1, 2, 3, 4] rfl)
      · refine lv_aload_n hx hb dX3_readNumber_23 rfl (lv_at hl 2 rfl) ?_
        refine r_get (T := TX3) (v := .ref (a 1)) hx hb hts hi3 hown hK hw 0 rfl rfl 0 (by decide) f_4 rfl dX3_readNumber_24 ?_
        refine lv_aload_n hx hb dX3_readNumber_27 rfl (lv_at hl 2 rfl) ?_
        refine r_get (T := TX3) (v := .int (nI p1)) hx hb hts hi3 hown hK hw 0 rfl rfl 8 (by decide) f_0 rfl dX3_readNumber_28 ?_
        refine r_iald hx hb hK hw 1 0 rfl rfl p1 (by omega) (by decide) dX3_readNumber_31 ?_
        refine c_si (As := [.int (lt p1)]) (rest := []) ⟨hx, hb, hml, hown, hts⟩ (k_X3_isFigure l D c4 A ((xG c4 a (nI ln) yc fn fp (nI p1) sn lt nb yk yi) :: Ts) (lt p1)) (va_cwS 1 hts gX3_readNumber_X3_isFigure rfl rfl rfl (by decide +kernel) (rmv (Nat.le_of_ble_eq_true rfl) (Nat.le_of_ble_eq_true rfl) hRf hRl)) hK trivial hw rfl hl rfl (Nat.le_of_ble_eq_true rfl) ⟨Nat.zero_le _, Nat.zero_le _⟩ dX3_readNumber_32 (fun r_32 u_32 H locs hpq hw => ?_)
        obtain ⟨h0_32, h1_32⟩ := hpq
        refine lv_if_eq (tgt := 81) hx hb dX3_readNumber_35 (by decide) (fun c_35 => ?_) (fun c_35 => ?_)
        · exact kj_20 (fun z => h0_32 c_35 z.2) _ _ hw ls (lv_sub hl [0, 1, 2, 3, 4] rfl)
        · refine lv_aload_n hx hb dX3_readNumber_38 rfl (lv_at hl 2 rfl) ?_
          refine r_get (T := TX3) (v := .int (nI p1)) hx hb hts hi3 hown hK hw 0 rfl rfl 8 (by decide) f_0 rfl dX3_readNumber_39 ?_
          refine lv_iload_n hx hb dX3_readNumber_42 rfl (lv_at hl 1 rfl) ?_
          refine r_subN hx hb p1 (skp lt ln p) (by omega) dX3_readNumber_43 ?_
          refine lv_iconst (v := 3) hx hb dX3_readNumber_44 (by decide) ?_
          have kj_45 : ∀ (w_1 : Int32) (ls : Array Slot), w_1 = (if 3 ≤ p1 - (skp lt ln p) then v1 else (((10 * v1) + (lt p1)) - 48)) → lv_has ls 5 [(4, .int w_1), (3, .int (nI (skp lt ln p))), (0, .ref (a 0)), (1, .int lo), (2, .int hi)] → W jp l je R js jm args below meth jc H locs 0 0 Q (F0 jm 68 ls []) := by
            intro w_1 ls e_w_1 hl
            subst e_w_1
            refine lv_aload_n hx hb dX3_readNumber_68 rfl (lv_at hl 2 rfl) ?_
            refine lv_dup hx hb dX3_readNumber_69 rfl ?_
            refine r_get (T := TX3) (v := .int (nI p1)) hx hb hts hi3 hown hK hw 0 rfl rfl 8 (by decide) f_0 rfl dX3_readNumber_70 ?_
            refine lv_iconst (v := 1) hx hb dX3_readNumber_73 (by decide) ?_
            refine r_addN hx hb p1 1 dX3_readNumber_74 ?_
            refine r_put (T := TX3) (G' := ((xG c4 a (nI ln) yc fn fp (nI (p1 + 1)) sn lt nb yk yi) :: Ts)) hx hb hts hi3 tyX3 tyX3_ok nmX3 hown hK hw 0 rfl rfl 8 (by decide) f_0 rfl rfl (Nat.le_of_ble_eq_true rfl) rfl dX3_readNumber_75 (fun H locs hw => ?_)
            refine lv_goto (tgt := 12) hx hb dX3_readNumber_78 (by decide) ?_
            exact ih_12 (p1 + 1) (if 3 ≤ p1 - (skp lt ln p) then v1 else (((10 * v1) + (lt p1)) - 48)) (by omega) (by omega) (by omega) ((nm_go2 c_20 (h1_32 c_35)).trans hV) _ _ hw ls (lv_sub hl [0, 1, 2, 3, 4] rfl)
          refine r_cge hx hb (p1 - (skp lt ln p)) 3 (by omega) (by omega) (tgt := 68) dX3_readNumber_45 (by decide) (fun c_45 => ?_) (fun c_45 => ?_)
          · exact kj_45 _ ls (by first | rfl | (rw [if_pos c_45]; done) | (simp only [if_pos c_45]; done) | simp [c_45]) (lv_sub hl [0, 1, 2, 3, 4] rfl)
          · refine lv_bipush (v := 10) hx hb dX3_readNumber_48 (by decide) ?_
            refine lv_iload hx hb dX3_readNumber_50 (lv_at hl 0 rfl) ?_
            refine lv_imul hx hb dX3_readNumber_52 ?_
            refine lv_aload_n hx hb dX3_readNumber_53 rfl (lv_at hl 2 rfl) ?_
            refine r_get (T := TX3) (v := .ref (a 1)) hx hb hts hi3 hown hK hw 0 rfl rfl 0 (by decide) f_4 rfl dX3_readNumber_54 ?_
            refine lv_aload_n hx hb dX3_readNumber_57 rfl (lv_at hl 2 rfl) ?_
            refine r_get (T := TX3) (v := .int (nI p1)) hx hb hts hi3 hown hK hw 0 rfl rfl 8 (by decide) f_0 rfl dX3_readNumber_58 ?_
            refine r_iald hx hb hK hw 1 0 rfl rfl p1 (by omega) (by decide) dX3_readNumber_61 ?_
            refine lv_iadd hx hb dX3_readNumber_62 ?_
            refine lv_bipush (v := 48) hx hb dX3_readNumber_63 (by decide) ?_
            refine lv_isub hx hb dX3_readNumber_65 ?_
            refine lv_istore (lv' := [(4, .int (((10 * v1) + (lt p1)) - 48)), (3, .int (nI (skp lt ln p))), (0, .ref (a 0)), (1, .int lo), (2, .int hi)]) hx hb dX3_readNumber_66 hl (by decide) rfl (fun ls hl => ?_)
            exact kj_45 _ ls (by first | rfl | (rw [if_neg (show ¬ (3 ≤ p1 - (skp lt ln p)) from by omega)]; done) | (simp only [if_neg (show ¬ (3 ≤ p1 - (skp lt ln p)) from by omega)]; done) | simp [c_45]) (lv_sub hl [0, 1, 2, 3, 4] rfl)
  exact loop_12 ((ln - (skp lt ln p)) + 1) (skp lt ln p) 0 (Nat.lt_succ_self _) (Nat.le_refl _) hs2 rfl _ _ hw ls (lv_sub hl [0, 1, 2, 3, 4] rfl)
set_option maxHeartbeats 4000000 in
set_option maxRecDepth 100000 in
theorem k_X3_readYard (l : Launch) (D : va_G) (c4 : Nat → ClassId) (A : Nat → Prop) (Ts : List va_W) (t : Nat → Nat) (a : Nat → Nat) (ln : Nat) (yc : Int32) (fn : Int32) (fp : Int32) (p : Nat) (sn : Int32) (lt : Nat → Int32) (nb : Nat → Int32) (yk : Nat → Int32) (yi : Nat → Int32) (y : Nat) (hln : ln ≤ 230) (hp : p ≤ ln) (hy : y < 12) : Ci l yX3_readYard wsX3_readYard 2 46 [.ref (a 0), .int (nI y)] D (tyA c4) A (some t) ((xG c4 a (nI ln) yc fn fp (nI p) sn lt nb yk yi) :: Ts) (S := Nat × Int32 × Int32 × Int32 × (Nat → Int32) × (Nat → Int32)) (fun (r : Int32) (u : Nat × Int32 × Int32 × Int32 × (Nat → Int32) × (Nat → Int32)) => ryP lt ln p y u.1 u.2.1 yk yi u.2.2.2.2.1 u.2.2.2.2.2 r fn fp u.2.2.1 u.2.2.2.1) (fun u => ((xG c4 a (nI ln) u.2.1 u.2.2.1 u.2.2.2.1 (nI u.1) sn lt nb u.2.2.2.2.1 u.2.2.2.2.2) :: Ts)) := by
  refine cOz (cc := cX3_readYard) (maxL := 4) (by decide) rfl (Nat.le_of_ble_eq_true rfl) rfl ?_
  rintro jp je js jm below meth jc ls args R Q H locs hRf hRl ⟨hx, hb, hml, hr, hts, hown, hlocks, hK, hX⟩ hw hl kr
  have hown : js.vm.findClass RX3 = some jm.cls := hown
  have f_0 := hts (.fieldLink RX3 22 "IceSway$Text" "yardKinds" "[I") (by decide +kernel)
  have f_1 := hts (.fieldLink RX3 25 "IceSway$Text" "yardIce" "[I") (by decide +kernel)
  have f_2 := hts (.fieldLink RX3 45 "IceSway$Text" "yardCount" "I") (by decide +kernel)
  have hi3 : ∀ w ∈ u_ws RX3 TX3 10, w ∈ wsX3_readYard := fun w h => List.mem_cons_of_mem _ (List.mem_append_right _ h)
  refine lv_aload_n hx hb dX3_readYard_0 rfl (lv_at hl 0 rfl) ?_
  refine lv_iconst (v := 0) hx hb dX3_readYard_1 (by decide) ?_
  refine lv_iconst (v := 3) hx hb dX3_readYard_2 (by decide) ?_
  refine c_vi (As := [.int 0, .int 3]) (rest := []) ⟨hx, hb, hml, hown, hts⟩ (k_X3_readNumber l D c4 A Ts t a ln yc fn fp p sn lt nb yk yi 0 3 hln hp (by decide)) (cwV 2 hts gX3_readYard_X3_readNumber rfl rfl rfl (by decide +kernel) (rmv (Nat.le_of_ble_eq_true rfl) (Nat.le_of_ble_eq_true rfl) hRf hRl)) hK (by exact hX) hw rfl rfl rfl hl rfl (Nat.le_of_ble_eq_true rfl) ⟨Nat.zero_le _, Nat.zero_le _⟩ dX3_readYard_3 (fun r_3 u_3 H locs hpq hw => ?_)
  obtain ⟨pl2_3, fn2_3, fp2_3⟩ := u_3
  have hw : gW D A js.heap ((xG c4 a (nI ln) yc fn2_3 fp2_3 (nI pl2_3) sn lt nb yk yi) :: Ts) H locs := hw
  have hN_3 := hpq
  have hN_3 : rnP lt ln 0 3 p pl2_3 r_3 fn fp fn2_3 fp2_3 := hN_3
  refine lv_istore_n (lv' := [(2, .int r_3), (0, .ref (a 0)), (1, .int (nI y))]) hx hb dX3_readYard_6 rfl hl (by decide) rfl (fun ls hl => ?_)
  refine lv_iload_n hx hb dX3_readYard_7 rfl (lv_at hl 0 rfl) ?_
  refine lv_iconst (v := (-1)) hx hb dX3_readYard_8 (by decide) ?_
  refine lv_icmp_ne (tgt := 14) hx hb dX3_readYard_9 (by decide) (fun c_9 => ?_) (fun c_9 => ?_)
  · obtain ⟨hs_3, hs1_3, hs2_3⟩ := hN_3.ok c_9
    have hp_3 : pl2_3 ≤ ln := (rn_inl hs_3).2.1 hp
    refine lv_aload_n hx hb dX3_readYard_14 rfl (lv_at hl 1 rfl) ?_
    refine lv_iconst (v := 0) hx hb dX3_readYard_15 (by decide) ?_
    refine lv_bipush (v := 99) hx hb dX3_readYard_16 (by decide) ?_
    refine c_vi (As := [.int 0, .int 99]) (rest := []) ⟨hx, hb, hml, hown, hts⟩ (k_X3_readNumber l D c4 A Ts t a ln yc fn2_3 fp2_3 pl2_3 sn lt nb yk yi 0 99 hln hp_3 (by decide)) (cwV 2 hts gX3_readYard_X3_readNumber rfl rfl rfl (by decide +kernel) (rmv (Nat.le_of_ble_eq_true rfl) (Nat.le_of_ble_eq_true rfl) hRf hRl)) hK (by exact hX) hw rfl rfl rfl hl rfl (Nat.le_of_ble_eq_true rfl) ⟨Nat.zero_le _, Nat.zero_le _⟩ dX3_readYard_18 (fun r_18 u_18 H locs hpq hw => ?_)
    obtain ⟨pl2_18, fn2_18, fp2_18⟩ := u_18
    have hw : gW D A js.heap ((xG c4 a (nI ln) yc fn2_18 fp2_18 (nI pl2_18) sn lt nb yk yi) :: Ts) H locs := hw
    have hN_18 := hpq
    have hN_18 : rnP lt ln 0 99 pl2_3 pl2_18 r_18 fn2_3 fp2_3 fn2_18 fp2_18 := hN_18
    refine lv_istore_n (lv' := [(3, .int r_18), (2, .int r_3), (0, .ref (a 0)), (1, .int (nI y))]) hx hb dX3_readYard_21 rfl hl (by decide) rfl (fun ls hl => ?_)
    refine lv_iload_n hx hb dX3_readYard_22 rfl (lv_at hl 0 rfl) ?_
    refine lv_iconst (v := (-1)) hx hb dX3_readYard_23 (by decide) ?_
    refine lv_icmp_ne (tgt := 29) hx hb dX3_readYard_24 (by decide) (fun c_24 => ?_) (fun c_24 => ?_)
    · refine lv_aload_n hx hb dX3_readYard_29 rfl (lv_at hl 2 rfl) ?_
      refine r_get (T := TX3) (v := .ref (a 3)) hx hb hts hi3 hown hK hw 0 rfl rfl 3 (by decide) f_0 rfl dX3_readYard_30 ?_
      refine lv_iload_n hx hb dX3_readYard_33 rfl (lv_at hl 3 rfl) ?_
      refine lv_iload_n hx hb dX3_readYard_34 rfl (lv_at hl 1 rfl) ?_
      refine r_iast (G' := ((xG c4 a (nI ln) yc fn2_18 fp2_18 (nI pl2_18) sn lt nb (upd yk y r_3) yi) :: Ts)) hx hb hK hw 3 0 rfl rfl y (by omega) (by decide) rfl dX3_readYard_35 (fun H locs hw => ?_)
      refine lv_aload_n hx hb dX3_readYard_36 rfl (lv_at hl 2 rfl) ?_
      refine r_get (T := TX3) (v := .ref (a 4)) hx hb hts hi3 hown hK hw 0 rfl rfl 4 (by decide) f_1 rfl dX3_readYard_37 ?_
      refine lv_iload_n hx hb dX3_readYard_40 rfl (lv_at hl 3 rfl) ?_
      refine lv_iload_n hx hb dX3_readYard_41 rfl (lv_at hl 0 rfl) ?_
      refine r_iast (G' := ((xG c4 a (nI ln) yc fn2_18 fp2_18 (nI pl2_18) sn lt nb (upd yk y r_3) (upd yi y r_18)) :: Ts)) hx hb hK hw 4 0 rfl rfl y (by omega) (by decide) rfl dX3_readYard_42 (fun H locs hw => ?_)
      refine lv_aload_n hx hb dX3_readYard_43 rfl (lv_at hl 2 rfl) ?_
      refine lv_iload_n hx hb dX3_readYard_44 rfl (lv_at hl 3 rfl) ?_
      refine lv_iconst (v := 1) hx hb dX3_readYard_45 (by decide) ?_
      refine r_addN hx hb y 1 dX3_readYard_46 ?_
      refine r_put (T := TX3) (G' := ((xG c4 a (nI ln) (nI (y + 1)) fn2_18 fp2_18 (nI pl2_18) sn lt nb (upd yk y r_3) (upd yi y r_18)) :: Ts)) hx hb hts hi3 tyX3 tyX3_ok nmX3 hown hK hw 0 rfl rfl 5 (by decide) f_2 rfl rfl (Nat.le_of_ble_eq_true rfl) rfl dX3_readYard_47 (fun H locs hw => ?_)
      refine lv_iconst (v := 1) hx hb dX3_readYard_50 (by decide) ?_
      exact kr 1 (pl2_18, (nI (y + 1)), fn2_18, fp2_18, upd yk y r_3, upd yi y r_18) _ _ _ _ hw rfl (Or.inl ⟨r_3, r_18, ry_good hs_3 (hN_18.ok c_24).1, rfl, rfl, rfl, rfl, (hN_18.ok c_24).2.1.trans hs1_3, (hN_18.ok c_24).2.2.trans hs2_3⟩) dX3_readYard_51
    · refine lv_iconst (v := 0) hx hb dX3_readYard_27 (by decide) ?_
      exact kr 0 (pl2_18, yc, fn2_18, fp2_18, yk, yi) _ _ _ _ hw rfl (Or.inr ⟨ry_bad2 hs_3 (hN_18.no c_24), rfl⟩) dX3_readYard_28
  · refine lv_iconst (v := 0) hx hb dX3_readYard_12 (by decide) ?_
    exact kr 0 (pl2_3, yc, fn2_3, fp2_3, yk, yi) _ _ _ _ hw rfl (Or.inr ⟨ry_bad1 (hN_3.no c_9), rfl⟩) dX3_readYard_13
set_option maxHeartbeats 4000000 in
set_option maxRecDepth 100000 in
theorem k_X3_readClauseEnd (l : Launch) (D : va_G) (c4 : Nat → ClassId) (A : Nat → Prop) (Ts : List va_W) (a : Nat → Nat) (ln : Nat) (yc : Int32) (fn : Int32) (fp : Int32) (p : Nat) (sn : Int32) (lt : Nat → Int32) (nb : Nat → Int32) (yk : Nat → Int32) (yi : Nat → Int32) (hln : ln ≤ 230) (hp : p ≤ ln) : Ci l yX3_readClauseEnd wsX3_readClauseEnd 1 22 [.ref (a 0)] D (tyA c4) A none ((xG c4 a (nI ln) yc fn fp (nI p) sn lt nb yk yi) :: Ts) (S := Nat × Int32 × Int32) (fun (r : Int32) (u : Nat × Int32 × Int32) => reP lt ln p u.1 r fn fp u.2.1 u.2.2) (fun u => ((xG c4 a (nI ln) yc u.2.1 u.2.2 (nI u.1) sn lt nb yk yi) :: Ts)) := by
  refine cOz (cc := cX3_readClauseEnd) (maxL := 1) (by decide) rfl (Nat.le_of_ble_eq_true rfl) rfl ?_
  rintro jp je js jm below meth jc ls args R Q H locs hRf hRl ⟨hx, hb, hml, hr, hts, hown, hlocks, hK, hX⟩ hw hl kr
  have hown : js.vm.findClass RX3 = some jm.cls := hown
  have f_0 := hts (.fieldLink RX3 39 "IceSway$Text" "place" "I") (by decide +kernel)
  have f_1 := hts (.fieldLink RX3 11 "IceSway$Text" "letters" "[I") (by decide +kernel)
  have hi3 : ∀ w ∈ u_ws RX3 TX3 10, w ∈ wsX3_readClauseEnd := fun w h => List.mem_cons_of_mem _ (List.mem_append_right _ h)
  refine lv_aload_n hx hb dX3_readClauseEnd_0 rfl (lv_at hl 0 rfl) ?_
  refine c_vv (As := []) (rest := []) ⟨hx, hb, hml, hown, hts⟩ (k_X3_skipBlanks l D c4 A Ts a ln yc fn fp p sn lt nb yk yi hln hp) (cwV 0 hts gX3_readClauseEnd_X3_skipBlanks rfl rfl rfl (by decide +kernel) (rmv (Nat.le_of_ble_eq_true rfl) (Nat.le_of_ble_eq_true rfl) hRf hRl)) hK trivial hw rfl rfl rfl hl rfl (Nat.le_of_ble_eq_true rfl) ⟨Nat.zero_le _, Nat.zero_le _⟩ dX3_readClauseEnd_1 (fun u_1 H locs hpq hw => ?_)
  have hs2 := skp_le (lt := lt) hp
  refine lv_aload_n hx hb dX3_readClauseEnd_4 rfl (lv_at hl 0 rfl) ?_
  refine c_vi (As := []) (rest := []) ⟨hx, hb, hml, hown, hts⟩ (k_X3_isAtEnd l D c4 A Ts a ln yc fn fp (skp lt ln p) sn lt nb yk yi hln hs2) (cwV 0 hts gX3_readClauseEnd_X3_isAtEnd rfl rfl rfl (by decide +kernel) (rmv (Nat.le_of_ble_eq_true rfl) (Nat.le_of_ble_eq_true rfl) hRf hRl)) hK trivial hw rfl rfl rfl hl rfl (Nat.le_of_ble_eq_true rfl) ⟨Nat.zero_le _, Nat.zero_le _⟩ dX3_readClauseEnd_5 (fun r_5 u_5 H locs hpq hw => ?_)
  obtain ⟨h0_5, h1_5⟩ := hpq
  refine lv_if_ne (tgt := 25) hx hb dX3_readClauseEnd_8 (by decide) (fun c_8 => ?_) (fun c_8 => ?_)
  · refine lv_aload_n hx hb dX3_readClauseEnd_25 rfl (lv_at hl 0 rfl) ?_
    refine lv_aload_n hx hb dX3_readClauseEnd_26 rfl (lv_at hl 0 rfl) ?_
    refine r_get (T := TX3) (v := .int (nI (skp lt ln p))) hx hb hts hi3 hown hK hw 0 rfl rfl 8 (by decide) f_0 rfl dX3_readClauseEnd_27 ?_
    refine lv_iconst (v := 1) hx hb dX3_readClauseEnd_30 (by decide) ?_
    refine c_vi (As := [.int (nI (skp lt ln p)), .int 1]) (rest := []) ⟨hx, hb, hml, hown, hts⟩ (k_X3_failAt l D c4 A Ts a ln yc fn fp (skp lt ln p) sn lt nb yk yi (nI (skp lt ln p)) 1) (cwV 2 hts gX3_readClauseEnd_X3_failAt rfl rfl rfl (by decide +kernel) (rmv (Nat.le_of_ble_eq_true rfl) (Nat.le_of_ble_eq_true rfl) hRf hRl)) hK trivial hw rfl rfl rfl hl rfl (Nat.le_of_ble_eq_true rfl) ⟨Nat.zero_le _, Nat.zero_le _⟩ dX3_readClauseEnd_31 (fun r_31 u_31 H locs hpq hw => ?_)
    have er_31 := hpq
    subst er_31
    exact kr 0 ((skp lt ln p), 1, (nI (skp lt ln p))) _ _ _ _ hw rfl (Or.inr ⟨⟨skp lt ln p, 1, (by unfold rdEnd; rw [if_neg (fun z => by have := h1_5 c_8; omega)]), rfl, rfl⟩, rfl⟩) dX3_readClauseEnd_34
  · refine lv_aload_n hx hb dX3_readClauseEnd_11 rfl (lv_at hl 0 rfl) ?_
    refine r_get (T := TX3) (v := .ref (a 1)) hx hb hts hi3 hown hK hw 0 rfl rfl 0 (by decide) f_1 rfl dX3_readClauseEnd_12 ?_
    refine lv_aload_n hx hb dX3_readClauseEnd_15 rfl (lv_at hl 0 rfl) ?_
    refine r_get (T := TX3) (v := .int (nI (skp lt ln p))) hx hb hts hi3 hown hK hw 0 rfl rfl 8 (by decide) f_0 rfl dX3_readClauseEnd_16 ?_
    refine r_iald hx hb hK hw 1 0 rfl rfl (skp lt ln p) (by have := h0_5 c_8; omega) (by decide) dX3_readClauseEnd_19 ?_
    refine lv_bipush (v := 59) hx hb dX3_readClauseEnd_20 (by decide) ?_
    refine lv_icmp_eq (tgt := 35) hx hb dX3_readClauseEnd_22 (by decide) (fun c_22 => ?_) (fun c_22 => ?_)
    · refine lv_aload_n hx hb dX3_readClauseEnd_35 rfl (lv_at hl 0 rfl) ?_
      refine lv_dup hx hb dX3_readClauseEnd_36 rfl ?_
      refine r_get (T := TX3) (v := .int (nI (skp lt ln p))) hx hb hts hi3 hown hK hw 0 rfl rfl 8 (by decide) f_0 rfl dX3_readClauseEnd_37 ?_
      refine lv_iconst (v := 1) hx hb dX3_readClauseEnd_40 (by decide) ?_
      refine r_addN hx hb (skp lt ln p) 1 dX3_readClauseEnd_41 ?_
      refine r_put (T := TX3) (G' := ((xG c4 a (nI ln) yc fn fp (nI ((skp lt ln p) + 1)) sn lt nb yk yi) :: Ts)) hx hb hts hi3 tyX3 tyX3_ok nmX3 hown hK hw 0 rfl rfl 8 (by decide) f_0 rfl rfl (Nat.le_of_ble_eq_true rfl) rfl dX3_readClauseEnd_42 (fun H locs hw => ?_)
      refine lv_iconst (v := 1) hx hb dX3_readClauseEnd_45 (by decide) ?_
      exact kr 1 ((skp lt ln p) + 1, fn, fp) _ _ _ _ hw rfl (Or.inl ⟨by unfold rdEnd; rw [if_pos ⟨h0_5 c_8, c_22⟩], rfl, rfl, rfl⟩) dX3_readClauseEnd_46
    · refine lv_aload_n hx hb dX3_readClauseEnd_25 rfl (lv_at hl 0 rfl) ?_
      refine lv_aload_n hx hb dX3_readClauseEnd_26 rfl (lv_at hl 0 rfl) ?_
      refine r_get (T := TX3) (v := .int (nI (skp lt ln p))) hx hb hts hi3 hown hK hw 0 rfl rfl 8 (by decide) f_0 rfl dX3_readClauseEnd_27 ?_
      refine lv_iconst (v := 1) hx hb dX3_readClauseEnd_30 (by decide) ?_
      refine c_vi (As := [.int (nI (skp lt ln p)), .int 1]) (rest := []) ⟨hx, hb, hml, hown, hts⟩ (k_X3_failAt l D c4 A Ts a ln yc fn fp (skp lt ln p) sn lt nb yk yi (nI (skp lt ln p)) 1) (cwV 2 hts gX3_readClauseEnd_X3_failAt rfl rfl rfl (by decide +kernel) (rmv (Nat.le_of_ble_eq_true rfl) (Nat.le_of_ble_eq_true rfl) hRf hRl)) hK trivial hw rfl rfl rfl hl rfl (Nat.le_of_ble_eq_true rfl) ⟨Nat.zero_le _, Nat.zero_le _⟩ dX3_readClauseEnd_31 (fun r_31 u_31 H locs hpq hw => ?_)
      have er_31 := hpq
      subst er_31
      exact kr 0 ((skp lt ln p), 1, (nI (skp lt ln p))) _ _ _ _ hw rfl (Or.inr ⟨⟨skp lt ln p, 1, (by unfold rdEnd; rw [if_neg (fun z => c_22 z.2)]), rfl, rfl⟩, rfl⟩) dX3_readClauseEnd_34
set_option maxHeartbeats 4000000 in
set_option maxRecDepth 100000 in
theorem k_X3_readYards (l : Launch) (D : va_G) (c4 : Nat → ClassId) (A : Nat → Prop) (Ts : List va_W) (t : Nat → Nat) (a : Nat → Nat) (ln : Nat) (yc : Int32) (fn : Int32) (fp : Int32) (p : Nat) (sn : Int32) (lt : Nat → Int32) (nb : Nat → Int32) (yk : Nat → Int32) (yi : Nat → Int32) (hln : ln ≤ 230) (hp : p ≤ ln) : Ci l yX3_readYards wsX3_readYards 3 69 [.ref (a 0)] D (tyA c4) A (some t) ((xG c4 a (nI ln) yc fn fp (nI p) sn lt nb yk yi) :: Ts) (S := Nat × Int32 × Int32 × Int32 × (Nat → Int32) × (Nat → Int32)) (fun (r : Int32) (u : Nat × Int32 × Int32 × Int32 × (Nat → Int32) × (Nat → Int32)) => rysP lt ln p u.1 u.2.1 u.2.2.2.2.1 u.2.2.2.2.2 r fn fp u.2.2.1 u.2.2.2.1) (fun u => ((xG c4 a (nI ln) u.2.1 u.2.2.1 u.2.2.2.1 (nI u.1) sn lt nb u.2.2.2.2.1 u.2.2.2.2.2) :: Ts)) := by
  refine cOz (cc := cX3_readYards) (maxL := 3) (by decide) rfl (Nat.le_of_ble_eq_true rfl) rfl ?_
  rintro jp je js jm below meth jc ls args R Q H locs hRf hRl ⟨hx, hb, hml, hr, hts, hown, hlocks, hK, hX⟩ hw hl kr
  have hown : js.vm.findClass RX3 = some jm.cls := hown
  have f_0 := hts (.fieldLink RX3 45 "IceSway$Text" "yardCount" "I") (by decide +kernel)
  have f_1 := hts (.fieldLink RX3 39 "IceSway$Text" "place" "I") (by decide +kernel)
  have f_2 := hts (.fieldLink RX3 11 "IceSway$Text" "letters" "[I") (by decide +kernel)
  have hi3 : ∀ w ∈ u_ws RX3 TX3 10, w ∈ wsX3_readYards := fun w h => List.mem_cons_of_mem _ (List.mem_append_right _ h)
  refine lv_iconst (v := 0) hx hb dX3_readYards_0 (by decide) ?_
  refine lv_istore_n (lv' := [(1, .int 0), (0, .ref (a 0))]) hx hb dX3_readYards_1 rfl hl (by decide) rfl (fun ls hl => ?_)
  have loop_2 : ∀ (fuel : Nat) (y : Nat) (p1 : Nat) (yc1 : Int32) (yk1 : Nat → Int32) (yi1 : Nat → Int32) (ys : List (Int32 × Int32)), (12 - y) < fuel → (y < 12) → (p1 ≤ ln) → (ys.length = y) → (rdYs lt ln (12 - y) p1 ys = rdYs lt ln 12 p []) → (ysR ys yk1 yi1) → ∀ (H : Heap) (locs : List Loc), gW D A js.heap ((xG c4 a (nI ln) yc1 fn fp (nI p1) sn lt nb yk1 yi1) :: Ts) H locs → ∀ (ls : Array Slot), lv_has ls 3 [(1, .int (nI y)), (0, .ref (a 0))] → W jp l je R js jm args below meth jc H locs 0 0 Q (F0 jm 2 ls []) := by
    intro fuel
    induction fuel with
    | zero => intro y p1 yc1 yk1 yi1 ys hm; exact absurd hm (Nat.not_lt_zero _)
    | succ fuel ih_2 =>
      intro y p1 yc1 yk1 yi1 ys hm_2 hy hq hL hR hrow H locs hw ls hl
      refine lv_iload_n hx hb dX3_readYards_2 rfl (lv_at hl 0 rfl) ?_
      refine lv_bipush (v := 12) hx hb dX3_readYards_3 (by decide) ?_
      refine r_cge hx hb y 12 (by omega) (by omega) (tgt := 81) dX3_readYards_5 (by decide) (fun c_5 => ?_) (fun c_5 => ?_)
      · exact absurd c_5 (by omega)
      · refine lv_aload_n hx hb dX3_readYards_8 rfl (lv_at hl 1 rfl) ?_
        refine lv_iload_n hx hb dX3_readYards_9 rfl (lv_at hl 0 rfl) ?_
        refine c_vi (As := [.int (nI y)]) (rest := []) ⟨hx, hb, hml, hown, hts⟩ (k_X3_readYard l D c4 A Ts t a ln yc1 fn fp p1 sn lt nb yk1 yi1 y hln hq c_5) (cwV 1 hts gX3_readYards_X3_readYard rfl rfl rfl (by decide +kernel) (rmv (Nat.le_of_ble_eq_true rfl) (Nat.le_of_ble_eq_true rfl) hRf hRl)) hK (by exact hX) hw rfl rfl rfl hl rfl (Nat.le_of_ble_eq_true rfl) ⟨Nat.zero_le _, Nat.zero_le _⟩ dX3_readYards_10 (fun r_10 u_10 H locs hpq hw => ?_)
        obtain ⟨pl2_10, yc2_10, fn2_10, fp2_10, yk2_10, yi2_10⟩ := u_10
        have hw : gW D A js.heap ((xG c4 a (nI ln) yc2_10 fn2_10 fp2_10 (nI pl2_10) sn lt nb yk2_10 yi2_10) :: Ts) H locs := hw
        have hY_10 := hpq
        have hY_10 : ryP lt ln p1 y pl2_10 yc2_10 yk1 yi1 yk2_10 yi2_10 r_10 fn fp fn2_10 fp2_10 := hY_10
        refine lv_if_ne (tgt := 18) hx hb dX3_readYards_13 (by decide) (fun c_13 => ?_) (fun c_13 => ?_)
        · obtain ⟨va, vb, hY1, -, hY3, hY4, hY5, hY6, hY7⟩ := hY_10.resolve_right (fun z => c_13 z.2)
          have hq1 : pl2_10 ≤ ln := (ry_inl hY1).2.1 hq
          refine lv_aload_n hx hb dX3_readYards_18 rfl (lv_at hl 1 rfl) ?_
          refine c_vv (As := []) (rest := []) ⟨hx, hb, hml, hown, hts⟩ (k_X3_skipBlanks l D c4 A Ts a ln yc2_10 fn2_10 fp2_10 pl2_10 sn lt nb yk2_10 yi2_10 hln hq1) (cwV 0 hts gX3_readYards_X3_skipBlanks rfl rfl rfl (by decide +kernel) (rmv (Nat.le_of_ble_eq_true rfl) (Nat.le_of_ble_eq_true rfl) hRf hRl)) hK trivial hw rfl rfl rfl hl rfl (Nat.le_of_ble_eq_true rfl) ⟨Nat.zero_le _, Nat.zero_le _⟩ dX3_readYards_19 (fun u_19 H locs hpq hw => ?_)
          have hs2 := skp_le (lt := lt) hq1
          refine lv_aload_n hx hb dX3_readYards_22 rfl (lv_at hl 1 rfl) ?_
          refine r_get (T := TX3) (v := .int yc2_10) hx hb hts hi3 hown hK hw 0 rfl rfl 5 (by decide) f_0 rfl dX3_readYards_23 ?_
          refine r_top (y := nI (y + 1)) hY3 ?_
          refine lv_bipush (v := 12) hx hb dX3_readYards_26 (by decide) ?_
          have kj_28 : ∀ (ab : Int32), (¬ ab = 0 → (y + 1 < 12 ∧ skp lt ln pl2_10 < ln ∧ lt (skp lt ln pl2_10) = 44)) → (ab = 0 → ¬ (y + 1 < 12 ∧ skp lt ln pl2_10 < ln ∧ lt (skp lt ln pl2_10) = 44)) → ∀ (H : Heap) (locs : List Loc), gW D A js.heap ((xG c4 a (nI ln) yc2_10 fn2_10 fp2_10 (nI (skp lt ln pl2_10)) sn lt nb yk2_10 yi2_10) :: Ts) H locs → ∀ (ls : Array Slot), lv_has ls 3 [(1, .int (nI y)), (0, .ref (a 0))] → W jp l je R js jm args below meth jc H locs 0 0 Q (F0 jm 57 ls [.int ab]) := by
            intro ab habT habF H locs hw ls hl
            refine lv_istore_n (lv' := [(2, .int ab), (1, .int (nI y)), (0, .ref (a 0))]) hx hb dX3_readYards_57 rfl hl (by decide) rfl (fun ls hl => ?_)
            refine lv_iload_n hx hb dX3_readYards_58 rfl (lv_at hl 0 rfl) ?_
            refine lv_if_ne (tgt := 65) hx hb dX3_readYards_59 (by decide) (fun c_59 => ?_) (fun c_59 => ?_)
            · have hq9 := (habT c_59).2.1
              refine lv_aload_n hx hb dX3_readYards_65 rfl (lv_at hl 2 rfl) ?_
              refine lv_dup hx hb dX3_readYards_66 rfl ?_
              refine r_get (T := TX3) (v := .int (nI (skp lt ln pl2_10))) hx hb hts hi3 hown hK hw 0 rfl rfl 8 (by decide) f_1 rfl dX3_readYards_67 ?_
              refine lv_iconst (v := 1) hx hb dX3_readYards_70 (by decide) ?_
              refine r_addN hx hb (skp lt ln pl2_10) 1 dX3_readYards_71 ?_
              refine r_put (T := TX3) (G' := ((xG c4 a (nI ln) yc2_10 fn2_10 fp2_10 (nI (skp lt ln pl2_10 + 1)) sn lt nb yk2_10 yi2_10) :: Ts)) hx hb hts hi3 tyX3 tyX3_ok nmX3 hown hK hw 0 rfl rfl 8 (by decide) f_1 rfl rfl (Nat.le_of_ble_eq_true rfl) rfl dX3_readYards_72 (fun H locs hw => ?_)
              refine lv_iinc (v := (nI (y + 1))) (lv' := [(1, .int (nI (y + 1))), (2, .int ab), (0, .ref (a 0))]) hx hb dX3_readYards_75 hl (k := 1) rfl (nI_add _ _) (by decide) rfl (fun ls hl => ?_)
              refine lv_goto (tgt := 2) hx hb dX3_readYards_78 (by decide) ?_
              rw [show fn2_10 = fn from hY6] at hw
              rw [show fp2_10 = fp from hY7] at hw
              exact ih_2 (y + 1) (skp lt ln pl2_10 + 1) yc2_10 yk2_10 yi2_10 (ys ++ [(va, vb)]) (by omega) (by have := (habT c_59).1; omega) (by have := (habT c_59).2.1; omega) (by rw [List.length_append, hL]; rfl) ((rys_more (k := 12 - y) hY1 (by omega) ⟨by have := (habT c_59).1; omega, (habT c_59).2⟩).symm.trans hR) (by rw [hY4, hY5]; exact hrow.push hL) _ _ hw ls (lv_sub hl [0, 2] rfl)
            · refine lv_goto (tgt := 81) hx hb dX3_readYards_62 (by decide) ?_
              refine lv_aload_n hx hb dX3_readYards_81 rfl (lv_at hl 2 rfl) ?_
              refine c_vi (As := []) (rest := []) ⟨hx, hb, hml, hown, hts⟩ (k_X3_readClauseEnd l D c4 A Ts a ln yc2_10 fn2_10 fp2_10 (skp lt ln pl2_10) sn lt nb yk2_10 yi2_10 hln hs2) (cwV 0 hts gX3_readYards_X3_readClauseEnd rfl rfl rfl (by decide +kernel) (rmv (Nat.le_of_ble_eq_true rfl) (Nat.le_of_ble_eq_true rfl) hRf hRl)) hK trivial hw rfl rfl rfl hl rfl (Nat.le_of_ble_eq_true rfl) ⟨Nat.zero_le _, Nat.zero_le _⟩ dX3_readYards_82 (fun r_82 u_82 H locs hpq hw => ?_)
              obtain ⟨pl2_82, fn2_82, fp2_82⟩ := u_82
              have hw : gW D A js.heap ((xG c4 a (nI ln) yc2_10 fn2_82 fp2_82 (nI pl2_82) sn lt nb yk2_10 yi2_10) :: Ts) H locs := hw
              have hE_82 := hpq
              have hE_82 : reP lt ln (skp lt ln pl2_10) pl2_82 r_82 fn2_10 fp2_10 fn2_82 fp2_82 := hE_82
              exact kr r_82 (pl2_82, yc2_10, fn2_82, fp2_82, yk2_10, yi2_10) _ _ _ _ hw (z01 (by rcases hE_82 with z | z; { exact Or.inl z.2.1 }; { exact Or.inr z.2 })) (rys_fin (yc2 := yc2_10) hR hY1 (by omega) (fun z => habF c_59 ⟨by omega, z.2⟩) (by rw [hY3, List.length_append, hL]; rfl) (by rw [hY4, hY5]; exact hrow.push hL) (by rw [← hY6, ← hY7]; exact hE_82)) dX3_readYards_85
          refine r_cge hx hb (y + 1) 12 (by omega) (by omega) (tgt := 56) dX3_readYards_28 (by decide) (fun c_28 => ?_) (fun c_28 => ?_)
          · refine lv_iconst (v := 0) hx hb dX3_readYards_56 (by decide) ?_
            exact kj_28 0 (fun z => absurd rfl z) (fun _ z => by omega) _ _ hw ls (lv_sub hl [0, 1] rfl)
          · refine lv_aload_n hx hb dX3_readYards_31 rfl (lv_at hl 1 rfl) ?_
            refine c_vi (As := []) (rest := []) ⟨hx, hb, hml, hown, hts⟩ (k_X3_isAtEnd l D c4 A Ts a ln yc2_10 fn2_10 fp2_10 (skp lt ln pl2_10) sn lt nb yk2_10 yi2_10 hln hs2) (cwV 0 hts gX3_readYards_X3_isAtEnd rfl rfl rfl (by decide +kernel) (rmv (Nat.le_of_ble_eq_true rfl) (Nat.le_of_ble_eq_true rfl) hRf hRl)) hK trivial hw rfl rfl rfl hl rfl (Nat.le_of_ble_eq_true rfl) ⟨Nat.zero_le _, Nat.zero_le _⟩ dX3_readYards_32 (fun r_32 u_32 H locs hpq hw => ?_)
            obtain ⟨h0_32, h1_32⟩ := hpq
            refine lv_if_ne (tgt := 56) hx hb dX3_readYards_35 (by decide) (fun c_35 => ?_) (fun c_35 => ?_)
            · refine lv_iconst (v := 0) hx hb dX3_readYards_56 (by decide) ?_
              exact kj_28 0 (fun z => absurd rfl z) (fun _ z => by have := h1_32 c_35; omega) _ _ hw ls (lv_sub hl [0, 1] rfl)
            · refine lv_aload_n hx hb dX3_readYards_38 rfl (lv_at hl 1 rfl) ?_
              refine r_get (T := TX3) (v := .ref (a 1)) hx hb hts hi3 hown hK hw 0 rfl rfl 0 (by decide) f_2 rfl dX3_readYards_39 ?_
              refine lv_aload_n hx hb dX3_readYards_42 rfl (lv_at hl 1 rfl) ?_
              refine r_get (T := TX3) (v := .int (nI (skp lt ln pl2_10))) hx hb hts hi3 hown hK hw 0 rfl rfl 8 (by decide) f_1 rfl dX3_readYards_43 ?_
              refine r_iald hx hb hK hw 1 0 rfl rfl (skp lt ln pl2_10) (by have := h0_32 c_35; omega) (by decide) dX3_readYards_46 ?_
              refine lv_bipush (v := 44) hx hb dX3_readYards_47 (by decide) ?_
              refine lv_icmp_ne (tgt := 56) hx hb dX3_readYards_49 (by decide) (fun c_49 => ?_) (fun c_49 => ?_)
              · refine lv_iconst (v := 0) hx hb dX3_readYards_56 (by decide) ?_
                exact kj_28 0 (fun z => absurd rfl z) (fun _ z => c_49 z.2.2) _ _ hw ls (lv_sub hl [0, 1] rfl)
              · refine lv_iconst (v := 1) hx hb dX3_readYards_52 (by decide) ?_
                refine lv_goto (tgt := 57) hx hb dX3_readYards_53 (by decide) ?_
                exact kj_28 1 (fun _ => ⟨c_28, h0_32 c_35, c_49⟩) (fun z => absurd z (by decide)) _ _ hw ls (lv_sub hl [0, 1] rfl)
        · refine lv_iconst (v := 0) hx hb dX3_readYards_16 (by decide) ?_
          exact kr 0 (pl2_10, yc2_10, fn2_10, fp2_10, yk2_10, yi2_10) _ _ _ _ hw rfl (Or.inr ⟨(rys_bad (hY_10.resolve_left (by rintro ⟨_, _, _, z, _⟩; rw [c_13] at z; exact absurd z (by decide))).1 (by omega)).eq hR, rfl⟩) dX3_readYards_17
  exact loop_2 ((12 - 0) + 1) 0 p yc yk yi ([]) (Nat.lt_succ_self _) (by omega) hp rfl rfl (fun j e he => by simp at he) _ _ hw ls (lv_sub hl [0, 1] rfl)
