set_option maxHeartbeats 4000000 in
set_option maxRecDepth 100000 in
theorem k_X8_told (l : Launch) (D : va_G) (c4 : Nat → ClassId) (A : Nat → Prop) (Ts : List va_W) (a : Nat → Nat) (n : Nat) (ln : Nat) (pl : Int32) (st : Int32) (va : Int32) (fy : Int32) (fa : Int32) (ry : Int32) (se : Int32) (bh : Int32) (mi : Int32) (fb : Int32) (bc : Nat) (ec : Nat) (told : Nat → Int32) (w : Nat → Int32) (q : Nat → Yq) (v : Int32) (hn : n ≤ 12) (hY : mY q n w 0) (hT : tlOk told) (hbt : rng (w 48) 1 9) : Ci l yX8_told wsX8_told 2 45 [.ref (a 0), .int v] D (tyA c4) A none ((mG a (nI n) (nI ln) pl st va fy fa ry se bh mi fb (nI bc) (nI ec)) :: (aG c4 (a 2) 18 told) :: (aG c4 (a 1) 204 w) :: Ts) (S := Unit) (fun (r : Int32) (u : Unit) => r = (toldF n told ln (w 49) (w 48) (nI (oset q n)) bc ec v)) (fun u => ((mG a (nI n) (nI ln) pl st va fy fa ry se bh mi fb (nI bc) (nI ec)) :: (aG c4 (a 2) 18 told) :: (aG c4 (a 1) 204 w) :: Ts)) := by
  refine cOi (cc := cX8_told) (maxL := 2) (by decide) rfl (Nat.le_of_ble_eq_true rfl) rfl ?_
  rintro jp je js jm below meth jc ls args R Q H locs hRf hRl ⟨hx, hb, hml, hr, hts, hown, hlocks, hK, hX⟩ hw hl kr
  have hown : js.vm.findClass RX8 = some jm.cls := hown
  have f_0 := hts (.fieldLink RX8 60 "IceSwayModel" "yards" "I") (by decide +kernel)
  have f_1 := hts (.constantLong RX8 147 (9)) (by decide +kernel)
  have f_2 := hts (.fieldLink RX8 13 "IceSwayModel" "told" "[I") (by decide +kernel)
  have f_3 := hts (.fieldLink RX8 84 "IceSwayModel" "texted" "I") (by decide +kernel)
  have f_4 := hts (.fieldLink RX8 7 "IceSwayModel" "w" "[I") (by decide +kernel)
  have f_5 := hts (.fieldLink RX8 131 "IceSwayModel" "bored" "I") (by decide +kernel)
  have f_6 := hts (.fieldLink RX8 134 "IceSwayModel" "booked" "I") (by decide +kernel)
  have f_7 := hts (.constant RX8 83 (-1000000002)) (by decide +kernel)
  have hi8 : ∀ w ∈ u_ws RX8 TX8 28, w ∈ wsX8_told := fun w h => List.mem_cons_of_mem _ (List.mem_append_right _ h)
  refine lv_iload_n hx hb dX8_told_0 rfl (lv_at hl 1 rfl) ?_
  rcases mtold_cases v with e | e | e | e | e | e | e | e | e | e | e | e | e | e | e | e | e | e | hno
  · subst e
    refine lv_tableIn (tgt := 88) hx hb dX8_told_1 (by decide) (by decide) rfl (by decide) ?_
    refine lv_aload_n hx hb dX8_told_88 rfl (lv_at hl 0 rfl) ?_
    refine r_get (T := TX8) (v := .int (nI n)) hx hb hts hi8 hown hK hw 0 rfl rfl 2 (by decide) f_0 rfl dX8_told_89 ?_
    exact kr (nI n) () _ _ _ _ hw (by unfold toldF; rw [if_pos (show inR (0 : Int32) 0 17 by decide), if_neg (show ¬ inR (0 : Int32) 1 9 by decide), if_pos rfl]) dX8_told_92
  · subst e
    refine lv_tableIn (tgt := 152) hx hb dX8_told_1 (by decide) (by decide) rfl (by decide) ?_
    refine lv_iload_n hx hb dX8_told_152 rfl (lv_at hl 1 rfl) ?_
    refine lv_i2l hx hb dX8_told_153 rfl ?_
    refine lv_lconst (v := 1) hx hb dX8_told_154 (by decide) ?_
    refine lv_ldc2 hx hb hown f_1 dX8_told_155 ?_
    refine c_si (As := [.long ((1 : Int32).toInt64), .long 1, .long 9]) (rest := []) ⟨hx, hb, hml, hown, hts⟩ (k_X8_in l D c4 A ((mG a (nI n) (nI ln) pl st va fy fa ry se bh mi fb (nI bc) (nI ec)) :: (aG c4 (a 2) 18 told) :: (aG c4 (a 1) 204 w) :: Ts) ((1 : Int32).toInt64) 1 9) (va_cwS 3 hts gX8_told_X8_in rfl rfl rfl (by decide +kernel) (rmv (Nat.le_of_ble_eq_true rfl) (Nat.le_of_ble_eq_true rfl) hRf hRl)) hK trivial hw rfl hl rfl (Nat.le_of_ble_eq_true rfl) ⟨Nat.zero_le _, Nat.zero_le _⟩ dX8_told_158 (fun r_158 u_158 H locs hpq hw => ?_)
    obtain ⟨h0_158, h1_158, hz_158⟩ := hpq
    refine lv_if_eq (tgt := 175) hx hb dX8_told_161 (by decide) (fun c_161 => ?_) (fun c_161 => ?_)
    · exact absurd (by decide) (h0_158 c_161)
    · refine lv_aload_n hx hb dX8_told_164 rfl (lv_at hl 0 rfl) ?_
      refine r_get (T := TX8) (v := .ref (a 2)) hx hb hts hi8 hown hK hw 0 rfl rfl 1 (by decide) f_2 rfl dX8_told_165 ?_
      refine lv_iload_n hx hb dX8_told_168 rfl (lv_at hl 1 rfl) ?_
      refine lv_iconst (v := 1) hx hb dX8_told_169 (by decide) ?_
      refine r_subN hx hb 1 1 (by omega) dX8_told_170 ?_
      refine r_iald hx hb hK hw 1 0 rfl rfl (1 - 1) (by omega) (by decide) dX8_told_171 ?_
      refine lv_goto (tgt := 177) hx hb dX8_told_172 (by decide) ?_
      exact kr (told (1 - 1)) () _ _ _ _ hw (by first | (exfalso; exact absurd (h0_158 c_161) (fun z => z (by decide))) | (unfold toldF; rw [if_pos (show inR (1 : Int32) 0 17 by decide), if_pos (show inR (1 : Int32) 1 9 by decide)]; rfl)) dX8_told_177
  · subst e
    refine lv_tableIn (tgt := 152) hx hb dX8_told_1 (by decide) (by decide) rfl (by decide) ?_
    refine lv_iload_n hx hb dX8_told_152 rfl (lv_at hl 1 rfl) ?_
    refine lv_i2l hx hb dX8_told_153 rfl ?_
    refine lv_lconst (v := 1) hx hb dX8_told_154 (by decide) ?_
    refine lv_ldc2 hx hb hown f_1 dX8_told_155 ?_
    refine c_si (As := [.long ((2 : Int32).toInt64), .long 1, .long 9]) (rest := []) ⟨hx, hb, hml, hown, hts⟩ (k_X8_in l D c4 A ((mG a (nI n) (nI ln) pl st va fy fa ry se bh mi fb (nI bc) (nI ec)) :: (aG c4 (a 2) 18 told) :: (aG c4 (a 1) 204 w) :: Ts) ((2 : Int32).toInt64) 1 9) (va_cwS 3 hts gX8_told_X8_in rfl rfl rfl (by decide +kernel) (rmv (Nat.le_of_ble_eq_true rfl) (Nat.le_of_ble_eq_true rfl) hRf hRl)) hK trivial hw rfl hl rfl (Nat.le_of_ble_eq_true rfl) ⟨Nat.zero_le _, Nat.zero_le _⟩ dX8_told_158 (fun r_158 u_158 H locs hpq hw => ?_)
    obtain ⟨h0_158, h1_158, hz_158⟩ := hpq
    refine lv_if_eq (tgt := 175) hx hb dX8_told_161 (by decide) (fun c_161 => ?_) (fun c_161 => ?_)
    · exact absurd (by decide) (h0_158 c_161)
    · refine lv_aload_n hx hb dX8_told_164 rfl (lv_at hl 0 rfl) ?_
      refine r_get (T := TX8) (v := .ref (a 2)) hx hb hts hi8 hown hK hw 0 rfl rfl 1 (by decide) f_2 rfl dX8_told_165 ?_
      refine lv_iload_n hx hb dX8_told_168 rfl (lv_at hl 1 rfl) ?_
      refine lv_iconst (v := 1) hx hb dX8_told_169 (by decide) ?_
      refine r_subN hx hb 2 1 (by omega) dX8_told_170 ?_
      refine r_iald hx hb hK hw 1 0 rfl rfl (2 - 1) (by omega) (by decide) dX8_told_171 ?_
      refine lv_goto (tgt := 177) hx hb dX8_told_172 (by decide) ?_
      exact kr (told (2 - 1)) () _ _ _ _ hw (by first | (exfalso; exact absurd (h0_158 c_161) (fun z => z (by decide))) | (unfold toldF; rw [if_pos (show inR (2 : Int32) 0 17 by decide), if_pos (show inR (2 : Int32) 1 9 by decide)]; rfl)) dX8_told_177
  · subst e
    refine lv_tableIn (tgt := 152) hx hb dX8_told_1 (by decide) (by decide) rfl (by decide) ?_
    refine lv_iload_n hx hb dX8_told_152 rfl (lv_at hl 1 rfl) ?_
    refine lv_i2l hx hb dX8_told_153 rfl ?_
    refine lv_lconst (v := 1) hx hb dX8_told_154 (by decide) ?_
    refine lv_ldc2 hx hb hown f_1 dX8_told_155 ?_
    refine c_si (As := [.long ((3 : Int32).toInt64), .long 1, .long 9]) (rest := []) ⟨hx, hb, hml, hown, hts⟩ (k_X8_in l D c4 A ((mG a (nI n) (nI ln) pl st va fy fa ry se bh mi fb (nI bc) (nI ec)) :: (aG c4 (a 2) 18 told) :: (aG c4 (a 1) 204 w) :: Ts) ((3 : Int32).toInt64) 1 9) (va_cwS 3 hts gX8_told_X8_in rfl rfl rfl (by decide +kernel) (rmv (Nat.le_of_ble_eq_true rfl) (Nat.le_of_ble_eq_true rfl) hRf hRl)) hK trivial hw rfl hl rfl (Nat.le_of_ble_eq_true rfl) ⟨Nat.zero_le _, Nat.zero_le _⟩ dX8_told_158 (fun r_158 u_158 H locs hpq hw => ?_)
    obtain ⟨h0_158, h1_158, hz_158⟩ := hpq
    refine lv_if_eq (tgt := 175) hx hb dX8_told_161 (by decide) (fun c_161 => ?_) (fun c_161 => ?_)
    · exact absurd (by decide) (h0_158 c_161)
    · refine lv_aload_n hx hb dX8_told_164 rfl (lv_at hl 0 rfl) ?_
      refine r_get (T := TX8) (v := .ref (a 2)) hx hb hts hi8 hown hK hw 0 rfl rfl 1 (by decide) f_2 rfl dX8_told_165 ?_
      refine lv_iload_n hx hb dX8_told_168 rfl (lv_at hl 1 rfl) ?_
      refine lv_iconst (v := 1) hx hb dX8_told_169 (by decide) ?_
      refine r_subN hx hb 3 1 (by omega) dX8_told_170 ?_
      refine r_iald hx hb hK hw 1 0 rfl rfl (3 - 1) (by omega) (by decide) dX8_told_171 ?_
      refine lv_goto (tgt := 177) hx hb dX8_told_172 (by decide) ?_
      exact kr (told (3 - 1)) () _ _ _ _ hw (by first | (exfalso; exact absurd (h0_158 c_161) (fun z => z (by decide))) | (unfold toldF; rw [if_pos (show inR (3 : Int32) 0 17 by decide), if_pos (show inR (3 : Int32) 1 9 by decide)]; rfl)) dX8_told_177
  · subst e
    refine lv_tableIn (tgt := 152) hx hb dX8_told_1 (by decide) (by decide) rfl (by decide) ?_
    refine lv_iload_n hx hb dX8_told_152 rfl (lv_at hl 1 rfl) ?_
    refine lv_i2l hx hb dX8_told_153 rfl ?_
    refine lv_lconst (v := 1) hx hb dX8_told_154 (by decide) ?_
    refine lv_ldc2 hx hb hown f_1 dX8_told_155 ?_
    refine c_si (As := [.long ((4 : Int32).toInt64), .long 1, .long 9]) (rest := []) ⟨hx, hb, hml, hown, hts⟩ (k_X8_in l D c4 A ((mG a (nI n) (nI ln) pl st va fy fa ry se bh mi fb (nI bc) (nI ec)) :: (aG c4 (a 2) 18 told) :: (aG c4 (a 1) 204 w) :: Ts) ((4 : Int32).toInt64) 1 9) (va_cwS 3 hts gX8_told_X8_in rfl rfl rfl (by decide +kernel) (rmv (Nat.le_of_ble_eq_true rfl) (Nat.le_of_ble_eq_true rfl) hRf hRl)) hK trivial hw rfl hl rfl (Nat.le_of_ble_eq_true rfl) ⟨Nat.zero_le _, Nat.zero_le _⟩ dX8_told_158 (fun r_158 u_158 H locs hpq hw => ?_)
    obtain ⟨h0_158, h1_158, hz_158⟩ := hpq
    refine lv_if_eq (tgt := 175) hx hb dX8_told_161 (by decide) (fun c_161 => ?_) (fun c_161 => ?_)
    · exact absurd (by decide) (h0_158 c_161)
    · refine lv_aload_n hx hb dX8_told_164 rfl (lv_at hl 0 rfl) ?_
      refine r_get (T := TX8) (v := .ref (a 2)) hx hb hts hi8 hown hK hw 0 rfl rfl 1 (by decide) f_2 rfl dX8_told_165 ?_
      refine lv_iload_n hx hb dX8_told_168 rfl (lv_at hl 1 rfl) ?_
      refine lv_iconst (v := 1) hx hb dX8_told_169 (by decide) ?_
      refine r_subN hx hb 4 1 (by omega) dX8_told_170 ?_
      refine r_iald hx hb hK hw 1 0 rfl rfl (4 - 1) (by omega) (by decide) dX8_told_171 ?_
      refine lv_goto (tgt := 177) hx hb dX8_told_172 (by decide) ?_
      exact kr (told (4 - 1)) () _ _ _ _ hw (by first | (exfalso; exact absurd (h0_158 c_161) (fun z => z (by decide))) | (unfold toldF; rw [if_pos (show inR (4 : Int32) 0 17 by decide), if_pos (show inR (4 : Int32) 1 9 by decide)]; rfl)) dX8_told_177
  · subst e
    refine lv_tableIn (tgt := 152) hx hb dX8_told_1 (by decide) (by decide) rfl (by decide) ?_
    refine lv_iload_n hx hb dX8_told_152 rfl (lv_at hl 1 rfl) ?_
    refine lv_i2l hx hb dX8_told_153 rfl ?_
    refine lv_lconst (v := 1) hx hb dX8_told_154 (by decide) ?_
    refine lv_ldc2 hx hb hown f_1 dX8_told_155 ?_
    refine c_si (As := [.long ((5 : Int32).toInt64), .long 1, .long 9]) (rest := []) ⟨hx, hb, hml, hown, hts⟩ (k_X8_in l D c4 A ((mG a (nI n) (nI ln) pl st va fy fa ry se bh mi fb (nI bc) (nI ec)) :: (aG c4 (a 2) 18 told) :: (aG c4 (a 1) 204 w) :: Ts) ((5 : Int32).toInt64) 1 9) (va_cwS 3 hts gX8_told_X8_in rfl rfl rfl (by decide +kernel) (rmv (Nat.le_of_ble_eq_true rfl) (Nat.le_of_ble_eq_true rfl) hRf hRl)) hK trivial hw rfl hl rfl (Nat.le_of_ble_eq_true rfl) ⟨Nat.zero_le _, Nat.zero_le _⟩ dX8_told_158 (fun r_158 u_158 H locs hpq hw => ?_)
    obtain ⟨h0_158, h1_158, hz_158⟩ := hpq
    refine lv_if_eq (tgt := 175) hx hb dX8_told_161 (by decide) (fun c_161 => ?_) (fun c_161 => ?_)
    · exact absurd (by decide) (h0_158 c_161)
    · refine lv_aload_n hx hb dX8_told_164 rfl (lv_at hl 0 rfl) ?_
      refine r_get (T := TX8) (v := .ref (a 2)) hx hb hts hi8 hown hK hw 0 rfl rfl 1 (by decide) f_2 rfl dX8_told_165 ?_
      refine lv_iload_n hx hb dX8_told_168 rfl (lv_at hl 1 rfl) ?_
      refine lv_iconst (v := 1) hx hb dX8_told_169 (by decide) ?_
      refine r_subN hx hb 5 1 (by omega) dX8_told_170 ?_
      refine r_iald hx hb hK hw 1 0 rfl rfl (5 - 1) (by omega) (by decide) dX8_told_171 ?_
      refine lv_goto (tgt := 177) hx hb dX8_told_172 (by decide) ?_
      exact kr (told (5 - 1)) () _ _ _ _ hw (by first | (exfalso; exact absurd (h0_158 c_161) (fun z => z (by decide))) | (unfold toldF; rw [if_pos (show inR (5 : Int32) 0 17 by decide), if_pos (show inR (5 : Int32) 1 9 by decide)]; rfl)) dX8_told_177
  · subst e
    refine lv_tableIn (tgt := 152) hx hb dX8_told_1 (by decide) (by decide) rfl (by decide) ?_
    refine lv_iload_n hx hb dX8_told_152 rfl (lv_at hl 1 rfl) ?_
    refine lv_i2l hx hb dX8_told_153 rfl ?_
    refine lv_lconst (v := 1) hx hb dX8_told_154 (by decide) ?_
    refine lv_ldc2 hx hb hown f_1 dX8_told_155 ?_
    refine c_si (As := [.long ((6 : Int32).toInt64), .long 1, .long 9]) (rest := []) ⟨hx, hb, hml, hown, hts⟩ (k_X8_in l D c4 A ((mG a (nI n) (nI ln) pl st va fy fa ry se bh mi fb (nI bc) (nI ec)) :: (aG c4 (a 2) 18 told) :: (aG c4 (a 1) 204 w) :: Ts) ((6 : Int32).toInt64) 1 9) (va_cwS 3 hts gX8_told_X8_in rfl rfl rfl (by decide +kernel) (rmv (Nat.le_of_ble_eq_true rfl) (Nat.le_of_ble_eq_true rfl) hRf hRl)) hK trivial hw rfl hl rfl (Nat.le_of_ble_eq_true rfl) ⟨Nat.zero_le _, Nat.zero_le _⟩ dX8_told_158 (fun r_158 u_158 H locs hpq hw => ?_)
    obtain ⟨h0_158, h1_158, hz_158⟩ := hpq
    refine lv_if_eq (tgt := 175) hx hb dX8_told_161 (by decide) (fun c_161 => ?_) (fun c_161 => ?_)
    · exact absurd (by decide) (h0_158 c_161)
    · refine lv_aload_n hx hb dX8_told_164 rfl (lv_at hl 0 rfl) ?_
      refine r_get (T := TX8) (v := .ref (a 2)) hx hb hts hi8 hown hK hw 0 rfl rfl 1 (by decide) f_2 rfl dX8_told_165 ?_
      refine lv_iload_n hx hb dX8_told_168 rfl (lv_at hl 1 rfl) ?_
      refine lv_iconst (v := 1) hx hb dX8_told_169 (by decide) ?_
      refine r_subN hx hb 6 1 (by omega) dX8_told_170 ?_
      refine r_iald hx hb hK hw 1 0 rfl rfl (6 - 1) (by omega) (by decide) dX8_told_171 ?_
      refine lv_goto (tgt := 177) hx hb dX8_told_172 (by decide) ?_
      exact kr (told (6 - 1)) () _ _ _ _ hw (by first | (exfalso; exact absurd (h0_158 c_161) (fun z => z (by decide))) | (unfold toldF; rw [if_pos (show inR (6 : Int32) 0 17 by decide), if_pos (show inR (6 : Int32) 1 9 by decide)]; rfl)) dX8_told_177
  · subst e
    refine lv_tableIn (tgt := 152) hx hb dX8_told_1 (by decide) (by decide) rfl (by decide) ?_
    refine lv_iload_n hx hb dX8_told_152 rfl (lv_at hl 1 rfl) ?_
    refine lv_i2l hx hb dX8_told_153 rfl ?_
    refine lv_lconst (v := 1) hx hb dX8_told_154 (by decide) ?_
    refine lv_ldc2 hx hb hown f_1 dX8_told_155 ?_
    refine c_si (As := [.long ((7 : Int32).toInt64), .long 1, .long 9]) (rest := []) ⟨hx, hb, hml, hown, hts⟩ (k_X8_in l D c4 A ((mG a (nI n) (nI ln) pl st va fy fa ry se bh mi fb (nI bc) (nI ec)) :: (aG c4 (a 2) 18 told) :: (aG c4 (a 1) 204 w) :: Ts) ((7 : Int32).toInt64) 1 9) (va_cwS 3 hts gX8_told_X8_in rfl rfl rfl (by decide +kernel) (rmv (Nat.le_of_ble_eq_true rfl) (Nat.le_of_ble_eq_true rfl) hRf hRl)) hK trivial hw rfl hl rfl (Nat.le_of_ble_eq_true rfl) ⟨Nat.zero_le _, Nat.zero_le _⟩ dX8_told_158 (fun r_158 u_158 H locs hpq hw => ?_)
    obtain ⟨h0_158, h1_158, hz_158⟩ := hpq
    refine lv_if_eq (tgt := 175) hx hb dX8_told_161 (by decide) (fun c_161 => ?_) (fun c_161 => ?_)
    · exact absurd (by decide) (h0_158 c_161)
    · refine lv_aload_n hx hb dX8_told_164 rfl (lv_at hl 0 rfl) ?_
      refine r_get (T := TX8) (v := .ref (a 2)) hx hb hts hi8 hown hK hw 0 rfl rfl 1 (by decide) f_2 rfl dX8_told_165 ?_
      refine lv_iload_n hx hb dX8_told_168 rfl (lv_at hl 1 rfl) ?_
      refine lv_iconst (v := 1) hx hb dX8_told_169 (by decide) ?_
      refine r_subN hx hb 7 1 (by omega) dX8_told_170 ?_
      refine r_iald hx hb hK hw 1 0 rfl rfl (7 - 1) (by omega) (by decide) dX8_told_171 ?_
      refine lv_goto (tgt := 177) hx hb dX8_told_172 (by decide) ?_
      exact kr (told (7 - 1)) () _ _ _ _ hw (by first | (exfalso; exact absurd (h0_158 c_161) (fun z => z (by decide))) | (unfold toldF; rw [if_pos (show inR (7 : Int32) 0 17 by decide), if_pos (show inR (7 : Int32) 1 9 by decide)]; rfl)) dX8_told_177
  · subst e
    refine lv_tableIn (tgt := 152) hx hb dX8_told_1 (by decide) (by decide) rfl (by decide) ?_
    refine lv_iload_n hx hb dX8_told_152 rfl (lv_at hl 1 rfl) ?_
    refine lv_i2l hx hb dX8_told_153 rfl ?_
    refine lv_lconst (v := 1) hx hb dX8_told_154 (by decide) ?_
    refine lv_ldc2 hx hb hown f_1 dX8_told_155 ?_
    refine c_si (As := [.long ((8 : Int32).toInt64), .long 1, .long 9]) (rest := []) ⟨hx, hb, hml, hown, hts⟩ (k_X8_in l D c4 A ((mG a (nI n) (nI ln) pl st va fy fa ry se bh mi fb (nI bc) (nI ec)) :: (aG c4 (a 2) 18 told) :: (aG c4 (a 1) 204 w) :: Ts) ((8 : Int32).toInt64) 1 9) (va_cwS 3 hts gX8_told_X8_in rfl rfl rfl (by decide +kernel) (rmv (Nat.le_of_ble_eq_true rfl) (Nat.le_of_ble_eq_true rfl) hRf hRl)) hK trivial hw rfl hl rfl (Nat.le_of_ble_eq_true rfl) ⟨Nat.zero_le _, Nat.zero_le _⟩ dX8_told_158 (fun r_158 u_158 H locs hpq hw => ?_)
    obtain ⟨h0_158, h1_158, hz_158⟩ := hpq
    refine lv_if_eq (tgt := 175) hx hb dX8_told_161 (by decide) (fun c_161 => ?_) (fun c_161 => ?_)
    · exact absurd (by decide) (h0_158 c_161)
    · refine lv_aload_n hx hb dX8_told_164 rfl (lv_at hl 0 rfl) ?_
      refine r_get (T := TX8) (v := .ref (a 2)) hx hb hts hi8 hown hK hw 0 rfl rfl 1 (by decide) f_2 rfl dX8_told_165 ?_
      refine lv_iload_n hx hb dX8_told_168 rfl (lv_at hl 1 rfl) ?_
      refine lv_iconst (v := 1) hx hb dX8_told_169 (by decide) ?_
      refine r_subN hx hb 8 1 (by omega) dX8_told_170 ?_
      refine r_iald hx hb hK hw 1 0 rfl rfl (8 - 1) (by omega) (by decide) dX8_told_171 ?_
      refine lv_goto (tgt := 177) hx hb dX8_told_172 (by decide) ?_
      exact kr (told (8 - 1)) () _ _ _ _ hw (by first | (exfalso; exact absurd (h0_158 c_161) (fun z => z (by decide))) | (unfold toldF; rw [if_pos (show inR (8 : Int32) 0 17 by decide), if_pos (show inR (8 : Int32) 1 9 by decide)]; rfl)) dX8_told_177
  · subst e
    refine lv_tableIn (tgt := 152) hx hb dX8_told_1 (by decide) (by decide) rfl (by decide) ?_
    refine lv_iload_n hx hb dX8_told_152 rfl (lv_at hl 1 rfl) ?_
    refine lv_i2l hx hb dX8_told_153 rfl ?_
    refine lv_lconst (v := 1) hx hb dX8_told_154 (by decide) ?_
    refine lv_ldc2 hx hb hown f_1 dX8_told_155 ?_
    refine c_si (As := [.long ((9 : Int32).toInt64), .long 1, .long 9]) (rest := []) ⟨hx, hb, hml, hown, hts⟩ (k_X8_in l D c4 A ((mG a (nI n) (nI ln) pl st va fy fa ry se bh mi fb (nI bc) (nI ec)) :: (aG c4 (a 2) 18 told) :: (aG c4 (a 1) 204 w) :: Ts) ((9 : Int32).toInt64) 1 9) (va_cwS 3 hts gX8_told_X8_in rfl rfl rfl (by decide +kernel) (rmv (Nat.le_of_ble_eq_true rfl) (Nat.le_of_ble_eq_true rfl) hRf hRl)) hK trivial hw rfl hl rfl (Nat.le_of_ble_eq_true rfl) ⟨Nat.zero_le _, Nat.zero_le _⟩ dX8_told_158 (fun r_158 u_158 H locs hpq hw => ?_)
    obtain ⟨h0_158, h1_158, hz_158⟩ := hpq
    refine lv_if_eq (tgt := 175) hx hb dX8_told_161 (by decide) (fun c_161 => ?_) (fun c_161 => ?_)
    · exact absurd (by decide) (h0_158 c_161)
    · refine lv_aload_n hx hb dX8_told_164 rfl (lv_at hl 0 rfl) ?_
      refine r_get (T := TX8) (v := .ref (a 2)) hx hb hts hi8 hown hK hw 0 rfl rfl 1 (by decide) f_2 rfl dX8_told_165 ?_
      refine lv_iload_n hx hb dX8_told_168 rfl (lv_at hl 1 rfl) ?_
      refine lv_iconst (v := 1) hx hb dX8_told_169 (by decide) ?_
      refine r_subN hx hb 9 1 (by omega) dX8_told_170 ?_
      refine r_iald hx hb hK hw 1 0 rfl rfl (9 - 1) (by omega) (by decide) dX8_told_171 ?_
      refine lv_goto (tgt := 177) hx hb dX8_told_172 (by decide) ?_
      exact kr (told (9 - 1)) () _ _ _ _ hw (by first | (exfalso; exact absurd (h0_158 c_161) (fun z => z (by decide))) | (unfold toldF; rw [if_pos (show inR (9 : Int32) 0 17 by decide), if_pos (show inR (9 : Int32) 1 9 by decide)]; rfl)) dX8_told_177
  · subst e
    refine lv_tableIn (tgt := 93) hx hb dX8_told_1 (by decide) (by decide) rfl (by decide) ?_
    refine lv_aload_n hx hb dX8_told_93 rfl (lv_at hl 0 rfl) ?_
    refine r_get (T := TX8) (v := .int (nI ln)) hx hb hts hi8 hown hK hw 0 rfl rfl 5 (by decide) f_3 rfl dX8_told_94 ?_
    exact kr (nI ln) () _ _ _ _ hw (by unfold toldF; rw [if_pos (show inR (10 : Int32) 0 17 by decide), if_neg (show ¬ inR (10 : Int32) 1 9 by decide), if_neg (show ¬ (10 : Int32) = 0 by decide), if_pos rfl]) dX8_told_97
  · subst e
    refine lv_tableIn (tgt := 98) hx hb dX8_told_1 (by decide) (by decide) rfl (by decide) ?_
    refine lv_aload_n hx hb dX8_told_98 rfl (lv_at hl 0 rfl) ?_
    refine r_get (T := TX8) (v := .ref (a 1)) hx hb hts hi8 hown hK hw 0 rfl rfl 0 (by decide) f_4 rfl dX8_told_99 ?_
    refine lv_bipush (v := 49) hx hb dX8_told_102 (by decide) ?_
    refine r_iald hx hb hK hw 2 0 rfl rfl 49 (by omega) (by decide) dX8_told_104 ?_
    exact kr (w 49) () _ _ _ _ hw (by unfold toldF; rw [if_pos (show inR (11 : Int32) 0 17 by decide), if_neg (show ¬ inR (11 : Int32) 1 9 by decide), if_neg (show ¬ (11 : Int32) = 0 by decide), if_neg (show ¬ (11 : Int32) = 10 by decide), if_pos rfl]) dX8_told_105
  · subst e
    refine lv_tableIn (tgt := 106) hx hb dX8_told_1 (by decide) (by decide) rfl (by decide) ?_
    refine lv_aload_n hx hb dX8_told_106 rfl (lv_at hl 0 rfl) ?_
    refine r_get (T := TX8) (v := .ref (a 1)) hx hb hts hi8 hown hK hw 0 rfl rfl 0 (by decide) f_4 rfl dX8_told_107 ?_
    refine lv_bipush (v := 48) hx hb dX8_told_110 (by decide) ?_
    refine r_iald hx hb hK hw 2 0 rfl rfl 48 (by omega) (by decide) dX8_told_112 ?_
    exact kr (w 48) () _ _ _ _ hw (by unfold toldF; rw [if_pos (show inR (12 : Int32) 0 17 by decide), if_neg (show ¬ inR (12 : Int32) 1 9 by decide), if_neg (show ¬ (12 : Int32) = 0 by decide), if_neg (show ¬ (12 : Int32) = 10 by decide), if_neg (show ¬ (12 : Int32) = 11 by decide), if_pos rfl]) dX8_told_113
  · subst e
    refine lv_tableIn (tgt := 114) hx hb dX8_told_1 (by decide) (by decide) rfl (by decide) ?_
    refine lv_aload_n hx hb dX8_told_114 rfl (lv_at hl 0 rfl) ?_
    refine lv_aload_n hx hb dX8_told_115 rfl (lv_at hl 0 rfl) ?_
    refine r_get (T := TX8) (v := .ref (a 2)) hx hb hts hi8 hown hK hw 0 rfl rfl 1 (by decide) f_2 rfl dX8_told_116 ?_
    refine lv_iconst (v := 3) hx hb dX8_told_119 (by decide) ?_
    refine r_iald hx hb hK hw 1 0 rfl rfl 3 (by omega) (by decide) dX8_told_120 ?_
    refine lv_aload_n hx hb dX8_told_121 rfl (lv_at hl 0 rfl) ?_
    refine r_get (T := TX8) (v := .ref (a 1)) hx hb hts hi8 hown hK hw 0 rfl rfl 0 (by decide) f_4 rfl dX8_told_122 ?_
    refine lv_bipush (v := 48) hx hb dX8_told_125 (by decide) ?_
    refine r_iald hx hb hK hw 2 0 rfl rfl 48 (by omega) (by decide) dX8_told_127 ?_
    have hw := hw.m1
    have hw := hw.m1
    refine c_vi (As := [.int (told 3), .int (w 48)]) (rest := []) ⟨hx, hb, hml, hown, hts⟩ (k_X8_swayOf l D c4 A ((aG c4 (a 1) 204 w) :: Ts) a (nI n) (nI ln) pl st va fy fa ry se bh mi fb (nI bc) (nI ec) told (told 3) (w 48) hT.2.1 hT.2.2.2.1 hT.2.2.1 (hbt.w (by decide) (by decide))) (cwV 2 hts gX8_told_X8_swayOf rfl rfl rfl (by decide +kernel) (rmv (Nat.le_of_ble_eq_true rfl) (Nat.le_of_ble_eq_true rfl) hRf hRl)) hK trivial hw rfl rfl rfl hl rfl (Nat.le_of_ble_eq_true rfl) ⟨Nat.zero_le _, Nat.zero_le _⟩ dX8_told_128 (fun r_128 u_128 H locs hpq hw => ?_)
    have er_128 := hpq
    subst er_128
    exact kr (pSway (told 1) (told 2) (told 3) (w 48)) () _ _ _ _ hw (by unfold toldF; rw [if_pos (show inR (13 : Int32) 0 17 by decide), if_neg (show ¬ inR (13 : Int32) 1 9 by decide), if_neg (show ¬ (13 : Int32) = 0 by decide), if_neg (show ¬ (13 : Int32) = 10 by decide), if_neg (show ¬ (13 : Int32) = 11 by decide), if_neg (show ¬ (13 : Int32) = 12 by decide), if_pos rfl]) dX8_told_131
  · subst e
    refine lv_tableIn (tgt := 132) hx hb dX8_told_1 (by decide) (by decide) rfl (by decide) ?_
    refine lv_aload_n hx hb dX8_told_132 rfl (lv_at hl 0 rfl) ?_
    have hw := hw.m2
    have hw := hw.m2
    have hw := hw.m2
    refine c_vi (As := []) (rest := []) ⟨hx, hb, hml, hown, hts⟩ (k_X8_forceNow l D c4 A Ts a (nI n) (nI ln) pl st va fy fa ry se bh mi fb (nI bc) (nI ec) told w hT hbt) (cwV 0 hts gX8_told_X8_forceNow rfl rfl rfl (by decide +kernel) (rmv (Nat.le_of_ble_eq_true rfl) (Nat.le_of_ble_eq_true rfl) hRf hRl)) hK trivial hw rfl rfl rfl hl rfl (Nat.le_of_ble_eq_true rfl) ⟨Nat.zero_le _, Nat.zero_le _⟩ dX8_told_133 (fun r_133 u_133 H locs hpq hw => ?_)
    have er_133 := hpq
    subst er_133
    exact kr (pForce told (w 48)) () _ _ _ _ hw (by unfold toldF; rw [if_pos (show inR (14 : Int32) 0 17 by decide), if_neg (show ¬ inR (14 : Int32) 1 9 by decide), if_neg (show ¬ (14 : Int32) = 0 by decide), if_neg (show ¬ (14 : Int32) = 10 by decide), if_neg (show ¬ (14 : Int32) = 11 by decide), if_neg (show ¬ (14 : Int32) = 12 by decide), if_neg (show ¬ (14 : Int32) = 13 by decide), if_pos rfl]) dX8_told_136
  · subst e
    refine lv_tableIn (tgt := 137) hx hb dX8_told_1 (by decide) (by decide) rfl (by decide) ?_
    refine lv_aload_n hx hb dX8_told_137 rfl (lv_at hl 0 rfl) ?_
    have hw := hw.m2
    have hw := hw.m1
    refine c_vi (As := []) (rest := []) ⟨hx, hb, hml, hown, hts⟩ (k_X8_openSet l D c4 A ((aG c4 (a 2) 18 told) :: Ts) a n (nI ln) pl st va fy fa ry se bh mi fb (nI bc) (nI ec) w q hn hY) (cwV 0 hts gX8_told_X8_openSet rfl rfl rfl (by decide +kernel) (rmv (Nat.le_of_ble_eq_true rfl) (Nat.le_of_ble_eq_true rfl) hRf hRl)) hK trivial hw rfl rfl rfl hl rfl (Nat.le_of_ble_eq_true rfl) ⟨Nat.zero_le _, Nat.zero_le _⟩ dX8_told_138 (fun r_138 u_138 H locs hpq hw => ?_)
    have er_138 := hpq
    subst er_138
    have hw := hw.m1
    have hw := hw.m2
    have hw := hw.m2
    exact kr (nI (oset q n)) () _ _ _ _ hw (by unfold toldF; rw [if_pos (show inR (15 : Int32) 0 17 by decide), if_neg (show ¬ inR (15 : Int32) 1 9 by decide), if_neg (show ¬ (15 : Int32) = 0 by decide), if_neg (show ¬ (15 : Int32) = 10 by decide), if_neg (show ¬ (15 : Int32) = 11 by decide), if_neg (show ¬ (15 : Int32) = 12 by decide), if_neg (show ¬ (15 : Int32) = 13 by decide), if_neg (show ¬ (15 : Int32) = 14 by decide), if_pos rfl]) dX8_told_141
  · subst e
    refine lv_tableIn (tgt := 142) hx hb dX8_told_1 (by decide) (by decide) rfl (by decide) ?_
    refine lv_aload_n hx hb dX8_told_142 rfl (lv_at hl 0 rfl) ?_
    refine r_get (T := TX8) (v := .int (nI bc)) hx hb hts hi8 hown hK hw 0 rfl rfl 20 (by decide) f_5 rfl dX8_told_143 ?_
    exact kr (nI bc) () _ _ _ _ hw (by unfold toldF; rw [if_pos (show inR (16 : Int32) 0 17 by decide), if_neg (show ¬ inR (16 : Int32) 1 9 by decide), if_neg (show ¬ (16 : Int32) = 0 by decide), if_neg (show ¬ (16 : Int32) = 10 by decide), if_neg (show ¬ (16 : Int32) = 11 by decide), if_neg (show ¬ (16 : Int32) = 12 by decide), if_neg (show ¬ (16 : Int32) = 13 by decide), if_neg (show ¬ (16 : Int32) = 14 by decide), if_neg (show ¬ (16 : Int32) = 15 by decide), if_pos rfl]) dX8_told_146
  · subst e
    refine lv_tableIn (tgt := 147) hx hb dX8_told_1 (by decide) (by decide) rfl (by decide) ?_
    refine lv_aload_n hx hb dX8_told_147 rfl (lv_at hl 0 rfl) ?_
    refine r_get (T := TX8) (v := .int (nI ec)) hx hb hts hi8 hown hK hw 0 rfl rfl 25 (by decide) f_6 rfl dX8_told_148 ?_
    exact kr (nI ec) () _ _ _ _ hw (by unfold toldF; rw [if_pos (show inR (17 : Int32) 0 17 by decide), if_neg (show ¬ inR (17 : Int32) 1 9 by decide), if_neg (show ¬ (17 : Int32) = 0 by decide), if_neg (show ¬ (17 : Int32) = 10 by decide), if_neg (show ¬ (17 : Int32) = 11 by decide), if_neg (show ¬ (17 : Int32) = 12 by decide), if_neg (show ¬ (17 : Int32) = 13 by decide), if_neg (show ¬ (17 : Int32) = 14 by decide), if_neg (show ¬ (17 : Int32) = 15 by decide), if_neg (show ¬ (17 : Int32) = 16 by decide)]) dX8_told_151
  · refine lv_tableOut (tgt := 152) hx hb dX8_told_1 (told_out hno) (by decide) ?_
    refine lv_iload_n hx hb dX8_told_152 rfl (lv_at hl 1 rfl) ?_
    refine lv_i2l hx hb dX8_told_153 rfl ?_
    refine lv_lconst (v := 1) hx hb dX8_told_154 (by decide) ?_
    refine lv_ldc2 hx hb hown f_1 dX8_told_155 ?_
    refine c_si (As := [.long v.toInt64, .long 1, .long 9]) (rest := []) ⟨hx, hb, hml, hown, hts⟩ (k_X8_in l D c4 A ((mG a (nI n) (nI ln) pl st va fy fa ry se bh mi fb (nI bc) (nI ec)) :: (aG c4 (a 2) 18 told) :: (aG c4 (a 1) 204 w) :: Ts) v.toInt64 1 9) (va_cwS 3 hts gX8_told_X8_in rfl rfl rfl (by decide +kernel) (rmv (Nat.le_of_ble_eq_true rfl) (Nat.le_of_ble_eq_true rfl) hRf hRl)) hK trivial hw rfl hl rfl (Nat.le_of_ble_eq_true rfl) ⟨Nat.zero_le _, Nat.zero_le _⟩ dX8_told_158 (fun r_158 u_158 H locs hpq hw => ?_)
    obtain ⟨h0_158, h1_158, hz_158⟩ := hpq
    refine lv_if_eq (tgt := 175) hx hb dX8_told_161 (by decide) (fun c_161 => ?_) (fun c_161 => ?_)
    · refine lv_ldc hx hb hown f_7 dX8_told_175 ?_
      exact kr (-1000000002) () _ _ _ _ hw (by first | (unfold toldF; rw [if_neg hno]; done) | (exfalso; exact hno (in19 ((inL (lo := 1) (hi := 9) rfl rfl).mp (h1_158 c_161))))) dX8_told_177
    · exact absurd (in19 ((inL (lo := 1) (hi := 9) rfl rfl).mp (h1_158 c_161))) hno
