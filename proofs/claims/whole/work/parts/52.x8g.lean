set_option maxHeartbeats 4000000 in
set_option maxRecDepth 100000 in
theorem k_X8_seed (l : Launch) (D : va_G) (c4 : Nat → ClassId) (A : Nat → Prop) (Ts : List va_W) (a : Nat → Nat) (yn : Int32) (tx : Int32) (pl : Int32) (st : Int32) (va : Int32) (fy : Int32) (fa : Int32) (ry : Int32) (se : Int32) (bh : Int32) (mi : Int32) (fb : Int32) (bo : Int32) (bk : Int32) (w : Nat → Int32) (v : Int32) : Ci l yX8_seed wsX8_seed 0 0 [.ref (a 0), .int v] D (tyA c4) A none ((mG a yn tx pl st va fy fa ry se bh mi fb bo bk) :: (aG c4 (a 1) 204 w) :: Ts) (S := (Nat → Int32)) (fun (r : Int32) (u : (Nat → Int32)) => (0 ≤ v ∧ r = w 50 ∧ u = upd w 50 v) ∨ (¬ 0 ≤ v ∧ r = OUT ∧ u = w)) (fun u => ((mG a yn tx pl st va fy fa ry se bh mi fb bo bk) :: (aG c4 (a 1) 204 u) :: Ts)) := by
  refine cOi (cc := cX8_seed) (maxL := 3) (by decide) rfl (Nat.le_of_ble_eq_true rfl) rfl ?_
  rintro jp je js jm below meth jc ls args R Q H locs hRf hRl ⟨hx, hb, hml, hr, hts, hown, hlocks, hK, hX⟩ hw hl kr
  have hown : js.vm.findClass RX8 = some jm.cls := hown
  have f_0 := hts (.fieldLink RX8 7 "IceSwayModel" "w" "[I") (by decide +kernel)
  have f_1 := hts (.constant RX8 83 (-1000000002)) (by decide +kernel)
  have hi8 : ∀ w ∈ u_ws RX8 TX8 28, w ∈ wsX8_seed := fun w h => List.mem_cons_of_mem _ (List.mem_append_right _ h)
  refine lv_iload_n hx hb dX8_seed_0 rfl (lv_at hl 1 rfl) ?_
  refine lv_if_ge (tgt := 7) hx hb dX8_seed_1 (by decide) (fun c_1 => ?_) (fun c_1 => ?_)
  · refine lv_aload_n hx hb dX8_seed_7 rfl (lv_at hl 0 rfl) ?_
    refine r_get (T := TX8) (v := .ref (a 1)) hx hb hts hi8 hown hK hw 0 rfl rfl 0 (by decide) f_0 rfl dX8_seed_8 ?_
    refine lv_bipush (v := 50) hx hb dX8_seed_11 (by decide) ?_
    refine r_iald hx hb hK hw 1 0 rfl rfl 50 (by omega) (by decide) dX8_seed_13 ?_
    refine lv_istore_n (lv' := [(2, .int (w 50)), (0, .ref (a 0)), (1, .int v)]) hx hb dX8_seed_14 rfl hl (by decide) rfl (fun ls hl => ?_)
    refine lv_aload_n hx hb dX8_seed_15 rfl (lv_at hl 1 rfl) ?_
    refine r_get (T := TX8) (v := .ref (a 1)) hx hb hts hi8 hown hK hw 0 rfl rfl 0 (by decide) f_0 rfl dX8_seed_16 ?_
    refine lv_bipush (v := 50) hx hb dX8_seed_19 (by decide) ?_
    refine lv_iload_n hx hb dX8_seed_21 rfl (lv_at hl 2 rfl) ?_
    refine r_iast (G' := ((mG a yn tx pl st va fy fa ry se bh mi fb bo bk) :: (aG c4 (a 1) 204 (upd w 50 v)) :: Ts)) hx hb hK hw 1 0 rfl rfl 50 (by omega) (by decide) rfl dX8_seed_22 (fun H locs hw => ?_)
    refine lv_iload_n hx hb dX8_seed_23 rfl (lv_at hl 0 rfl) ?_
    exact kr (w 50) (upd w 50 v) _ _ _ _ hw (Or.inl ⟨c_1, rfl, rfl⟩) dX8_seed_24
  · refine lv_ldc hx hb hown f_1 dX8_seed_4 ?_
    exact kr (-1000000002) (w) _ _ _ _ hw (Or.inr ⟨c_1, rfl, rfl⟩) dX8_seed_6
set_option maxHeartbeats 4000000 in
set_option maxRecDepth 100000 in
theorem k_X8_fault (l : Launch) (D : va_G) (c4 : Nat → ClassId) (A : Nat → Prop) (Ts : List va_W) (a : Nat → Nat) (yn : Int32) (tx : Int32) (pl : Int32) (st : Int32) (va : Int32) (fy : Int32) (fa : Int32) (ry : Int32) (se : Int32) (bh : Int32) (mi : Int32) (fb : Int32) (bo : Int32) (bk : Int32) : Ci l yX8_fault wsX8_fault 0 0 [.ref (a 0)] D (tyA c4) A none ((mG a yn tx pl st va fy fa ry se bh mi fb bo bk) :: Ts) (S := Unit) (fun (r : Int32) (u : Unit) => r = fa) (fun u => ((mG a yn tx pl st va fy fa ry se bh mi fb bo bk) :: Ts)) := by
  refine cOi (cc := cX8_fault) (maxL := 1) (by decide) rfl (Nat.le_of_ble_eq_true rfl) rfl ?_
  rintro jp je js jm below meth jc ls args R Q H locs hRf hRl ⟨hx, hb, hml, hr, hts, hown, hlocks, hK, hX⟩ hw hl kr
  have hown : js.vm.findClass RX8 = some jm.cls := hown
  have f_0 := hts (.fieldLink RX8 23 "IceSwayModel" "faultAt" "I") (by decide +kernel)
  have hi8 : ∀ w ∈ u_ws RX8 TX8 28, w ∈ wsX8_fault := fun w h => List.mem_cons_of_mem _ (List.mem_append_right _ h)
  refine lv_aload_n hx hb dX8_fault_0 rfl (lv_at hl 0 rfl) ?_
  refine r_get (T := TX8) (v := .int fa) hx hb hts hi8 hown hK hw 0 rfl rfl 10 (by decide) f_0 rfl dX8_fault_1 ?_
  exact kr fa () _ _ _ _ hw rfl dX8_fault_4
set_option maxHeartbeats 4000000 in
set_option maxRecDepth 100000 in
theorem k_X8_out (l : Launch) (D : va_G) (c4 : Nat → ClassId) (A : Nat → Prop) (Ts : List va_W) (a : Nat → Nat) (n : Nat) (tx : Int32) (pl : Int32) (st : Int32) (va : Int32) (fy : Int32) (fa : Int32) (ry : Int32) (se : Int32) (bh : Int32) (mi : Int32) (fb : Int32) (bo : Int32) (bk : Int32) (told : Nat → Int32) (w : Nat → Int32) (ba : Nat → Int32) (q : Nat → Yq) (t : Int32) (hn : n ≤ 12) (hY : mY q n w 0) (hT : tlOk told) (hbt : rng (w 48) 1 9) : Ci l yX8_out wsX8_out 2 45 [.ref (a 0), .int t] D (tyA c4) A none ((mG a (nI n) tx pl st va fy fa ry se bh mi fb bo bk) :: (aG c4 (a 2) 18 told) :: (aG c4 (a 1) 204 w) :: (aG c4 (a 7) 12 ba) :: Ts) (S := Int32 × Int32 × Int32 × (Nat → Int32) × (Nat → Int32)) (fun (r : Int32) (u : Int32 × Int32 × Int32 × (Nat → Int32) × (Nat → Int32)) => ∃ q2, outF t (pForce told (w 48)) (told 5) q n = (r, q2) ∧ mY q2 n u.2.2.2.1 0 ∧ wOut 0 w u.2.2.2.1) (fun u => ((mG a (nI n) tx pl st va fy fa ry se u.1 u.2.1 u.2.2.1 bo bk) :: (aG c4 (a 2) 18 told) :: (aG c4 (a 1) 204 u.2.2.2.1) :: (aG c4 (a 7) 12 u.2.2.2.2) :: Ts)) := by
  refine cOi (cc := cX8_out) (maxL := 2) (by decide) rfl (Nat.le_of_ble_eq_true rfl) rfl ?_
  rintro jp je js jm below meth jc ls args R Q H locs hRf hRl ⟨hx, hb, hml, hr, hts, hown, hlocks, hK, hX⟩ hw hl kr
  have hown : js.vm.findClass RX8 = some jm.cls := hown
  have f_0 := hts (.fieldLink RX8 60 "IceSwayModel" "yards" "I") (by decide +kernel)
  have f_1 := hts (.fieldLink RX8 177 "IceSwayModel" "behind" "I") (by decide +kernel)
  have f_2 := hts (.constant RX8 189 (-1000000003)) (by decide +kernel)
  have f_3 := hts (.constant RX8 83 (-1000000002)) (by decide +kernel)
  have hi8 : ∀ w ∈ u_ws RX8 TX8 28, w ∈ wsX8_out := fun w h => List.mem_cons_of_mem _ (List.mem_append_right _ h)
  refine lv_iload_n hx hb dX8_out_0 rfl (lv_at hl 1 rfl) ?_
  refine c_si (As := [.int t]) (rest := []) ⟨hx, hb, hml, hown, hts⟩ (k_X8_isTime l D c4 A ((mG a (nI n) tx pl st va fy fa ry se bh mi fb bo bk) :: (aG c4 (a 2) 18 told) :: (aG c4 (a 1) 204 w) :: (aG c4 (a 7) 12 ba) :: Ts) t) (va_cwS 1 hts gX8_out_X8_isTime rfl rfl rfl (by decide +kernel) (rmv (Nat.le_of_ble_eq_true rfl) (Nat.le_of_ble_eq_true rfl) hRf hRl)) hK trivial hw rfl hl rfl (Nat.le_of_ble_eq_true rfl) ⟨Nat.zero_le _, Nat.zero_le _⟩ dX8_out_1 (fun r_1 u_1 H locs hpq hw => ?_)
  obtain ⟨h0_1, h1_1⟩ := hpq
  refine lv_if_ne (tgt := 10) hx hb dX8_out_4 (by decide) (fun c_4 => ?_) (fun c_4 => ?_)
  · refine lv_aload_n hx hb dX8_out_10 rfl (lv_at hl 0 rfl) ?_
    refine r_get (T := TX8) (v := .int (nI n)) hx hb hts hi8 hown hK hw 0 rfl rfl 2 (by decide) f_0 rfl dX8_out_11 ?_
    refine r_zne hx hb n (by omega) (tgt := 20) dX8_out_14 (by decide) (fun c_14 => ?_) (fun c_14 => ?_)
    · refine lv_aload_n hx hb dX8_out_20 rfl (lv_at hl 0 rfl) ?_
      refine lv_iconst (v := 0) hx hb dX8_out_21 (by decide) ?_
      refine lv_iload_n hx hb dX8_out_22 rfl (lv_at hl 1 rfl) ?_
      refine lv_aload_n hx hb dX8_out_23 rfl (lv_at hl 0 rfl) ?_
      have hw := hw.m2
      have hw := hw.m2
      have hw := hw.m2
      refine c_vi (As := []) (rest := [.int t, .int 0, .ref (a 0)]) ⟨hx, hb, hml, hown, hts⟩ (k_X8_forceNow l D c4 A ((aG c4 (a 7) 12 ba) :: Ts) a (nI n) tx pl st va fy fa ry se bh mi fb bo bk told w hT hbt) (cwV 0 hts gX8_out_X8_forceNow rfl rfl rfl (by decide +kernel) (rmv (Nat.le_of_ble_eq_true rfl) (Nat.le_of_ble_eq_true rfl) hRf hRl)) hK trivial hw rfl rfl rfl hl rfl (Nat.le_of_ble_eq_true rfl) ⟨Nat.zero_le _, Nat.zero_le _⟩ dX8_out_24 (fun r_24 u_24 H locs hpq hw => ?_)
      have er_24 := hpq
      subst er_24
      have hw := hw.m3
      have hw := hw.m3
      have hw := hw.m3
      have hw := hw.m3
      refine c_vv (As := [.int 0, .int t, .int (pForce told (w 48))]) (rest := []) ⟨hx, hb, hml, hown, hts⟩ (k_X8_goes l D c4 A Ts a n tx pl st va fy fa ry se bh mi fb bo bk told w ba q 0 t (pForce told (w 48)) hn hY (by decide) (force_rng hT _)) (cwV 3 hts gX8_out_X8_goes rfl rfl rfl (by decide +kernel) (rmv (Nat.le_of_ble_eq_true rfl) (Nat.le_of_ble_eq_true rfl) hRf hRl)) hK trivial hw rfl rfl rfl hl rfl (Nat.le_of_ble_eq_true rfl) ⟨Nat.zero_le _, Nat.zero_le _⟩ dX8_out_27 (fun u_27 H locs hpq hw => ?_)
      obtain ⟨b2_27, w2_27, ba2_27⟩ := u_27
      have hw : gW D A js.heap ((mG a (nI n) tx pl st va fy fa ry se (nI b2_27) (cumQ (pForce told (w 48)) (told 5) q b2_27) (fbQ q b2_27) bo bk) :: (aG c4 (a 2) 18 told) :: (aG c4 (a 1) 204 w2_27) :: (aG c4 (a 7) 12 ba2_27) :: Ts) H locs := hw
      obtain ⟨hb2_27, hba_27, hM_27, hO_27⟩ := hpq
      have hb2_27 : b2_27 = bhQ (pForce told (w 48)) (told 5) t q n := hb2_27
      have hba_27 : ∀ k, k < b2_27 → ba2_27 k = cumQ (pForce told (w 48)) (told 5) q (k + 1) := hba_27
      have hM_27 : mY (mixQ openQ q b2_27) n w2_27 0 := hM_27
      have hO_27 : wOut 0 w w2_27 := hO_27
      refine lv_aload_n hx hb dX8_out_30 rfl (lv_at hl 0 rfl) ?_
      refine r_get (T := TX8) (v := .int (nI b2_27)) hx hb hts hi8 hown hK hw 0 rfl rfl 16 (by decide) f_1 rfl dX8_out_31 ?_
      exact kr (nI b2_27) ((nI b2_27), (cumQ (pForce told (w 48)) (told 5) q b2_27), (fbQ q b2_27), w2_27, ba2_27) _ _ _ _ hw ⟨_, by unfold outF; rw [if_pos (h1_1 c_4), if_neg c_14, ← hb2_27], hM_27, hO_27⟩ dX8_out_34
    · refine lv_ldc hx hb hown f_2 dX8_out_17 ?_
      exact kr (-1000000003) (bh, mi, fb, w, ba) _ _ _ _ hw ⟨q, by unfold outF; rw [if_pos (h1_1 c_4), if_pos c_14], hY, wOut.rf _ _⟩ dX8_out_19
  · refine lv_ldc hx hb hown f_3 dX8_out_7 ?_
    exact kr (-1000000002) (bh, mi, fb, w, ba) _ _ _ _ hw ⟨q, by unfold outF; rw [if_neg (h0_1 c_4)], hY, wOut.rf _ _⟩ dX8_out_9
set_option maxHeartbeats 4000000 in
set_option maxRecDepth 100000 in
theorem k_X8_tries (l : Launch) (D : va_G) (c4 : Nat → ClassId) (A : Nat → Prop) (Ts : List va_W) (a : Nat → Nat) (n : Nat) (tx : Int32) (pl : Int32) (st : Int32) (va : Int32) (fy : Int32) (fa : Int32) (ry : Int32) (se : Int32) (bh : Int32) (mi : Int32) (fb : Int32) (bo : Int32) (bk : Int32) (told : Nat → Int32) (w : Nat → Int32) (ba : Nat → Int32) (q : Nat → Yq) (t : Int32) (f : Int32) (hn : n ≤ 12) (hY : mY q n w 0) (hf : rng f 4 108) : Cv l yX8_tries wsX8_tries 1 27 [.ref (a 0), .int t, .int f] D (tyA c4) A none ((mG a (nI n) tx pl st va fy fa ry se bh mi fb bo bk) :: (aG c4 (a 2) 18 told) :: (aG c4 (a 1) 204 w) :: (aG c4 (a 7) 12 ba) :: Ts) (S := Nat × (Nat → Int32) × (Nat → Int32)) (fun (u : Nat × (Nat → Int32) × (Nat → Int32)) => (u.1 = bhQ f (told 5) t q n) ∧ (∀ k, k < u.1 → u.2.2 k = cumQ f (told 5) q (k + 1)) ∧ (wNow w u.2.1)) (fun u => ((mG a (nI n) tx pl st va fy fa ry se (nI u.1) (cumQ f (told 5) q u.1) (fbQ q u.1) bo bk) :: (aG c4 (a 2) 18 told) :: (aG c4 (a 1) 204 u.2.1) :: (aG c4 (a 7) 12 u.2.2) :: Ts)) := by
  refine cOv (cc := cX8_tries) (maxL := 3) (by decide) rfl (Nat.le_of_ble_eq_true rfl) rfl ?_
  rintro jp je js jm below meth jc ls args R Q H locs hRf hRl ⟨hx, hb, hml, hr, hts, hown, hlocks, hK, hX⟩ hw hl kr
  have hown : js.vm.findClass RX8 = some jm.cls := hown
  refine lv_aload_n hx hb dX8_tries_0 rfl (lv_at hl 0 rfl) ?_
  refine lv_iconst (v := 0) hx hb dX8_tries_1 (by decide) ?_
  refine lv_bipush (v := 51) hx hb dX8_tries_2 (by decide) ?_
  have hw := hw.m2
  have hw := hw.m1
  refine c_vv (As := [.int 0, .int 51]) (rest := []) ⟨hx, hb, hml, hown, hts⟩ (k_X8_copy l D c4 A ((aG c4 (a 2) 18 told) :: (aG c4 (a 7) 12 ba) :: Ts) a (nI n) tx pl st va fy fa ry se bh mi fb bo bk w 0 51 (by decide) (by decide) (Or.inl (by decide))) (cwV 2 hts gX8_tries_X8_copy rfl rfl rfl (by decide +kernel) (rmv (Nat.le_of_ble_eq_true rfl) (Nat.le_of_ble_eq_true rfl) hRf hRl)) hK trivial hw rfl rfl rfl hl rfl (Nat.le_of_ble_eq_true rfl) ⟨Nat.zero_le _, Nat.zero_le _⟩ dX8_tries_4 (fun u_4 H locs hpq hw => ?_)
  refine lv_aload_n hx hb dX8_tries_7 rfl (lv_at hl 0 rfl) ?_
  refine lv_bipush (v := 51) hx hb dX8_tries_8 (by decide) ?_
  refine lv_iload_n hx hb dX8_tries_10 rfl (lv_at hl 1 rfl) ?_
  refine lv_iload_n hx hb dX8_tries_11 rfl (lv_at hl 2 rfl) ?_
  have hw := hw.m3
  have hw := hw.m2
  have hw := hw.m3
  have hw := hw.m3
  refine c_vv (As := [.int 51, .int t, .int f]) (rest := []) ⟨hx, hb, hml, hown, hts⟩ (k_X8_goes l D c4 A Ts a n tx pl st va fy fa ry se bh mi fb bo bk told (fb_put w (fun k => w (0 + k)) 51 51) ba q 51 t f hn (cp_mY hn hY) (by decide) hf) (cwV 3 hts gX8_tries_X8_goes rfl rfl rfl (by decide +kernel) (rmv (Nat.le_of_ble_eq_true rfl) (Nat.le_of_ble_eq_true rfl) hRf hRl)) hK trivial hw rfl rfl rfl hl rfl (Nat.le_of_ble_eq_true rfl) ⟨Nat.zero_le _, Nat.zero_le _⟩ dX8_tries_12 (fun u_12 H locs hpq hw => ?_)
  obtain ⟨b2_12, w2_12, ba2_12⟩ := u_12
  have hw : gW D A js.heap ((mG a (nI n) tx pl st va fy fa ry se (nI b2_12) (cumQ f (told 5) q b2_12) (fbQ q b2_12) bo bk) :: (aG c4 (a 2) 18 told) :: (aG c4 (a 1) 204 w2_12) :: (aG c4 (a 7) 12 ba2_12) :: Ts) H locs := hw
  obtain ⟨hb2_12, hba_12, hM_12, hO_12⟩ := hpq
  have hb2_12 : b2_12 = bhQ f (told 5) t q n := hb2_12
  have hba_12 : ∀ k, k < b2_12 → ba2_12 k = cumQ f (told 5) q (k + 1) := hba_12
  have hM_12 : mY (mixQ openQ q b2_12) n w2_12 51 := hM_12
  have hO_12 : wOut 51 (fb_put w (fun k => w (0 + k)) 51 51) w2_12 := hO_12
  exact kr (b2_12, w2_12, ba2_12) _ _ _ _ hw ⟨hb2_12, hba_12, (wNow.of hO_12)⟩ dX8_tries_15
set_option maxHeartbeats 4000000 in
set_option maxRecDepth 100000 in
theorem k_X8_today (l : Launch) (D : va_G) (c4 : Nat → ClassId) (A : Nat → Prop) (Ts : List va_W) (a : Nat → Nat) (n : Nat) (tx : Int32) (pl : Int32) (st : Int32) (va : Int32) (fy : Int32) (fa : Int32) (ry : Int32) (se : Int32) (bh : Int32) (mi : Int32) (fb : Int32) (bo : Int32) (bk : Int32) (told : Nat → Int32) (w : Nat → Int32) (ba : Nat → Int32) (q : Nat → Yq) (t : Int32) (v : Int32) (hn : n ≤ 12) (hY : mY q n w 0) (hT : tlOk told) (hbt : rng (w 48) 1 9) : Ci l yX8_today wsX8_today 2 49 [.ref (a 0), .int t, .int v] D (tyA c4) A none ((mG a (nI n) tx pl st va fy fa ry se bh mi fb bo bk) :: (aG c4 (a 2) 18 told) :: (aG c4 (a 1) 204 w) :: (aG c4 (a 7) 12 ba) :: Ts) (S := Int32 × Int32 × Int32 × (Nat → Int32) × (Nat → Int32)) (fun (r : Int32) (u : Int32 × Int32 × Int32 × (Nat → Int32) × (Nat → Int32)) => (r = (todayF t v (pForce told (w 48)) (told 5) q n)) ∧ (wNow w u.2.2.2.1)) (fun u => ((mG a (nI n) tx pl st va fy fa ry se u.1 u.2.1 u.2.2.1 bo bk) :: (aG c4 (a 2) 18 told) :: (aG c4 (a 1) 204 u.2.2.2.1) :: (aG c4 (a 7) 12 u.2.2.2.2) :: Ts)) := by
  refine cOi (cc := cX8_today) (maxL := 3) (by decide) rfl (Nat.le_of_ble_eq_true rfl) rfl ?_
  rintro jp je js jm below meth jc ls args R Q H locs hRf hRl ⟨hx, hb, hml, hr, hts, hown, hlocks, hK, hX⟩ hw hl kr
  have hown : js.vm.findClass RX8 = some jm.cls := hown
  have f_0 := hts (.constant RX8 83 (-1000000002)) (by decide +kernel)
  have f_1 := hts (.fieldLink RX8 180 "IceSwayModel" "minutes" "I") (by decide +kernel)
  have f_2 := hts (.fieldLink RX8 177 "IceSwayModel" "behind" "I") (by decide +kernel)
  have hi8 : ∀ w ∈ u_ws RX8 TX8 28, w ∈ wsX8_today := fun w h => List.mem_cons_of_mem _ (List.mem_append_right _ h)
  refine lv_iload_n hx hb dX8_today_0 rfl (lv_at hl 1 rfl) ?_
  refine c_si (As := [.int t]) (rest := []) ⟨hx, hb, hml, hown, hts⟩ (k_X8_isTime l D c4 A ((mG a (nI n) tx pl st va fy fa ry se bh mi fb bo bk) :: (aG c4 (a 2) 18 told) :: (aG c4 (a 1) 204 w) :: (aG c4 (a 7) 12 ba) :: Ts) t) (va_cwS 1 hts gX8_today_X8_isTime rfl rfl rfl (by decide +kernel) (rmv (Nat.le_of_ble_eq_true rfl) (Nat.le_of_ble_eq_true rfl) hRf hRl)) hK trivial hw rfl hl rfl (Nat.le_of_ble_eq_true rfl) ⟨Nat.zero_le _, Nat.zero_le _⟩ dX8_today_1 (fun r_1 u_1 H locs hpq hw => ?_)
  obtain ⟨h0_1, h1_1⟩ := hpq
  refine lv_if_eq (tgt := 17) hx hb dX8_today_4 (by decide) (fun c_4 => ?_) (fun c_4 => ?_)
  · refine lv_ldc hx hb hown f_0 dX8_today_17 ?_
    exact kr (-1000000002) (bh, mi, fb, w, ba) _ _ _ _ hw ⟨(by unfold todayF; rw [if_neg (h0_1 c_4)]), (fun _ _ => rfl)⟩ dX8_today_19
  · refine lv_iload_n hx hb dX8_today_7 rfl (lv_at hl 2 rfl) ?_
    refine lv_i2l hx hb dX8_today_8 rfl ?_
    refine lv_lconst (v := 0) hx hb dX8_today_9 (by decide) ?_
    refine lv_lconst (v := 1) hx hb dX8_today_10 (by decide) ?_
    refine c_si (As := [.long v.toInt64, .long 0, .long 1]) (rest := []) ⟨hx, hb, hml, hown, hts⟩ (k_X8_in l D c4 A ((mG a (nI n) tx pl st va fy fa ry se bh mi fb bo bk) :: (aG c4 (a 2) 18 told) :: (aG c4 (a 1) 204 w) :: (aG c4 (a 7) 12 ba) :: Ts) v.toInt64 0 1) (va_cwS 3 hts gX8_today_X8_in rfl rfl rfl (by decide +kernel) (rmv (Nat.le_of_ble_eq_true rfl) (Nat.le_of_ble_eq_true rfl) hRf hRl)) hK trivial hw rfl hl rfl (Nat.le_of_ble_eq_true rfl) ⟨Nat.zero_le _, Nat.zero_le _⟩ dX8_today_11 (fun r_11 u_11 H locs hpq hw => ?_)
    obtain ⟨h0_11, h1_11, hz_11⟩ := hpq
    refine lv_if_ne (tgt := 20) hx hb dX8_today_14 (by decide) (fun c_14 => ?_) (fun c_14 => ?_)
    · refine lv_aload_n hx hb dX8_today_20 rfl (lv_at hl 0 rfl) ?_
      refine lv_iload_n hx hb dX8_today_21 rfl (lv_at hl 1 rfl) ?_
      refine lv_aload_n hx hb dX8_today_22 rfl (lv_at hl 0 rfl) ?_
      have hw := hw.m2
      have hw := hw.m2
      have hw := hw.m2
      refine c_vi (As := []) (rest := [.int t, .ref (a 0)]) ⟨hx, hb, hml, hown, hts⟩ (k_X8_forceNow l D c4 A ((aG c4 (a 7) 12 ba) :: Ts) a (nI n) tx pl st va fy fa ry se bh mi fb bo bk told w hT hbt) (cwV 0 hts gX8_today_X8_forceNow rfl rfl rfl (by decide +kernel) (rmv (Nat.le_of_ble_eq_true rfl) (Nat.le_of_ble_eq_true rfl) hRf hRl)) hK trivial hw rfl rfl rfl hl rfl (Nat.le_of_ble_eq_true rfl) ⟨Nat.zero_le _, Nat.zero_le _⟩ dX8_today_23 (fun r_23 u_23 H locs hpq hw => ?_)
      have er_23 := hpq
      subst er_23
      have hw := hw.m3
      have hw := hw.m3
      have hw := hw.m3
      have hw := hw.m3
      refine c_vv (As := [.int t, .int (pForce told (w 48))]) (rest := []) ⟨hx, hb, hml, hown, hts⟩ (k_X8_tries l D c4 A Ts a n tx pl st va fy fa ry se bh mi fb bo bk told w ba q t (pForce told (w 48)) hn hY (force_rng hT _)) (cwV 2 hts gX8_today_X8_tries rfl rfl rfl (by decide +kernel) (rmv (Nat.le_of_ble_eq_true rfl) (Nat.le_of_ble_eq_true rfl) hRf hRl)) hK trivial hw rfl rfl rfl hl rfl (Nat.le_of_ble_eq_true rfl) ⟨Nat.zero_le _, Nat.zero_le _⟩ dX8_today_26 (fun u_26 H locs hpq hw => ?_)
      obtain ⟨b2_26, w2_26, ba2_26⟩ := u_26
      have hw : gW D A js.heap ((mG a (nI n) tx pl st va fy fa ry se (nI b2_26) (cumQ (pForce told (w 48)) (told 5) q b2_26) (fbQ q b2_26) bo bk) :: (aG c4 (a 2) 18 told) :: (aG c4 (a 1) 204 w2_26) :: (aG c4 (a 7) 12 ba2_26) :: Ts) H locs := hw
      obtain ⟨hb2_26, hba_26, hW_26⟩ := hpq
      have hb2_26 : b2_26 = bhQ (pForce told (w 48)) (told 5) t q n := hb2_26
      have hba_26 : ∀ k, k < b2_26 → ba2_26 k = cumQ (pForce told (w 48)) (told 5) q (k + 1) := hba_26
      have hW_26 : wNow w w2_26 := hW_26
      refine lv_iload_n hx hb dX8_today_29 rfl (lv_at hl 2 rfl) ?_
      refine lv_if_ne (tgt := 40) hx hb dX8_today_30 (by decide) (fun c_30 => ?_) (fun c_30 => ?_)
      · refine lv_aload_n hx hb dX8_today_40 rfl (lv_at hl 0 rfl) ?_
        refine r_get (T := TX8) (v := .int (cumQ (pForce told (w 48)) (told 5) q b2_26)) hx hb hts hi8 hown hK hw 0 rfl rfl 17 (by decide) f_1 rfl dX8_today_41 ?_
        exact kr (cumQ (pForce told (w 48)) (told 5) q b2_26) ((nI b2_26), (cumQ (pForce told (w 48)) (told 5) q b2_26), (fbQ q b2_26), w2_26, ba2_26) _ _ _ _ hw ⟨(by unfold todayF; rw [if_pos (h1_1 c_4), if_pos ((inL (lo := 0) (hi := 1) rfl rfl).mp (h1_11 c_14)), if_neg c_30, ← hb2_26]), hW_26⟩ dX8_today_44
      · refine lv_aload_n hx hb dX8_today_33 rfl (lv_at hl 0 rfl) ?_
        refine r_get (T := TX8) (v := .int (nI b2_26)) hx hb hts hi8 hown hK hw 0 rfl rfl 16 (by decide) f_2 rfl dX8_today_34 ?_
        refine lv_goto (tgt := 44) hx hb dX8_today_37 (by decide) ?_
        exact kr (nI b2_26) ((nI b2_26), (cumQ (pForce told (w 48)) (told 5) q b2_26), (fbQ q b2_26), w2_26, ba2_26) _ _ _ _ hw ⟨(by unfold todayF; rw [if_pos (h1_1 c_4), if_pos ((inL (lo := 0) (hi := 1) rfl rfl).mp (h1_11 c_14)), if_pos c_30, ← hb2_26]), hW_26⟩ dX8_today_44
    · refine lv_ldc hx hb hown f_0 dX8_today_17 ?_
      exact kr (-1000000002) (bh, mi, fb, w, ba) _ _ _ _ hw ⟨(by unfold todayF; rw [if_pos (h1_1 c_4), if_neg (fun z => h0_11 c_14 ((inL (lo := 0) (hi := 1) rfl rfl).mpr z))]), (fun _ _ => rfl)⟩ dX8_today_19
