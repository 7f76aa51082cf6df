set_option maxHeartbeats 4000000 in
set_option maxRecDepth 100000 in
theorem k_X8_keep (l : Launch) (D : va_G) (c4 : Nat → ClassId) (A : Nat → Prop) (Ts : List va_W) (a : Nat → Nat) (yn : Int32) (tx : Int32) (pl : Int32) (st : Int32) (va : Int32) (fy : Int32) (fa : Int32) (ry : Int32) (se : Int32) (bh : Int32) (mi : Int32) (fb : Int32) (bo : Int32) (bk : Int32) (w : Nat → Int32) (kp : Nat → Int32) (v : Int32) : Ci l yX8_keep wsX8_keep 1 25 [.ref (a 0), .int v] D (tyA c4) A none ((mG a yn tx pl st va fy fa ry se bh mi fb bo bk) :: (aG c4 (a 1) 204 w) :: (zG c4 (a 3) 2 kp) :: Ts) (S := (Nat → Int32) × (Nat → Int32)) (fun (r : Int32) (u : (Nat → Int32) × (Nat → Int32)) => (∃ k, k ≤ 1 ∧ v = nI k ∧ r = 1 ∧ u.1 = fb_put w (fun j => w (0 + j)) (102 + 51 * k) 51 ∧ u.2 = upd kp k 1) ∨ (¬ inR v 0 1 ∧ r = UNK ∧ u.1 = w ∧ u.2 = kp)) (fun u => ((mG a yn tx pl st va fy fa ry se bh mi fb bo bk) :: (aG c4 (a 1) 204 u.1) :: (zG c4 (a 3) 2 u.2) :: Ts)) := by
  refine cOi (cc := cX8_keep) (maxL := 2) (by decide) rfl (Nat.le_of_ble_eq_true rfl) rfl ?_
  rintro jp je js jm below meth jc ls args R Q H locs hRf hRl ⟨hx, hb, hml, hr, hts, hown, hlocks, hK, hX⟩ hw hl kr
  have hown : js.vm.findClass RX8 = some jm.cls := hown
  have f_0 := hts (.fieldLink RX8 16 "IceSwayModel" "isKept" "[Z") (by decide +kernel)
  have f_1 := hts (.constant RX8 152 (-1000000001)) (by decide +kernel)
  have hi8 : ∀ w ∈ u_ws RX8 TX8 28, w ∈ wsX8_keep := fun w h => List.mem_cons_of_mem _ (List.mem_append_right _ h)
  refine lv_iload_n hx hb dX8_keep_0 rfl (lv_at hl 1 rfl) ?_
  refine lv_i2l hx hb dX8_keep_1 rfl ?_
  refine lv_lconst (v := 0) hx hb dX8_keep_2 (by decide) ?_
  refine lv_lconst (v := 1) hx hb dX8_keep_3 (by decide) ?_
  refine c_si (As := [.long v.toInt64, .long 0, .long 1]) (rest := []) ⟨hx, hb, hml, hown, hts⟩ (k_X8_in l D c4 A ((mG a yn tx pl st va fy fa ry se bh mi fb bo bk) :: (aG c4 (a 1) 204 w) :: (zG c4 (a 3) 2 kp) :: Ts) v.toInt64 0 1) (va_cwS 3 hts gX8_keep_X8_in rfl rfl rfl (by decide +kernel) (rmv (Nat.le_of_ble_eq_true rfl) (Nat.le_of_ble_eq_true rfl) hRf hRl)) hK trivial hw rfl hl rfl (Nat.le_of_ble_eq_true rfl) ⟨Nat.zero_le _, Nat.zero_le _⟩ dX8_keep_4 (fun r_4 u_4 H locs hpq hw => ?_)
  obtain ⟨h0_4, h1_4, hz_4⟩ := hpq
  refine lv_if_ne (tgt := 13) hx hb dX8_keep_7 (by decide) (fun c_7 => ?_) (fun c_7 => ?_)
  · obtain ⟨k, hk0, hk1, ek⟩ := (show inR v 0 1 from ((inL (lo := 0) (hi := 1) rfl rfl).mp (h1_4 c_7))).nat (a := 0) (b := 1) rfl rfl
    refine lv_aload_n hx hb dX8_keep_13 rfl (lv_at hl 0 rfl) ?_
    refine lv_iconst (v := 0) hx hb dX8_keep_14 (by decide) ?_
    refine lv_bipush (v := 102) hx hb dX8_keep_15 (by decide) ?_
    refine lv_bipush (v := 51) hx hb dX8_keep_17 (by decide) ?_
    refine lv_iload_n hx hb dX8_keep_19 rfl (lv_at hl 1 rfl) ?_
    refine r_top (y := nI k) ek ?_
    refine r_mulN hx hb 51 k dX8_keep_20 ?_
    refine r_addN hx hb 102 (51 * k) dX8_keep_21 ?_
    have hw := hw.m1
    have hw := hw.m1
    refine c_vv (As := [.int 0, .int (nI (102 + 51 * k))]) (rest := []) ⟨hx, hb, hml, hown, hts⟩ (k_X8_copy l D c4 A ((zG c4 (a 3) 2 kp) :: Ts) a yn tx pl st va fy fa ry se bh mi fb bo bk w 0 (102 + 51 * k) (by decide) (by omega) (by omega)) (cwV 2 hts gX8_keep_X8_copy rfl rfl rfl (by decide +kernel) (rmv (Nat.le_of_ble_eq_true rfl) (Nat.le_of_ble_eq_true rfl) hRf hRl)) hK trivial hw rfl rfl rfl hl rfl (Nat.le_of_ble_eq_true rfl) ⟨Nat.zero_le _, Nat.zero_le _⟩ dX8_keep_22 (fun u_22 H locs hpq hw => ?_)
    refine lv_aload_n hx hb dX8_keep_25 rfl (lv_at hl 0 rfl) ?_
    refine r_get (T := TX8) (v := .ref (a 3)) hx hb hts hi8 hown hK hw 0 rfl rfl 3 (by decide) f_0 rfl dX8_keep_26 ?_
    refine lv_iload_n hx hb dX8_keep_29 rfl (lv_at hl 1 rfl) ?_
    refine r_top (y := nI k) ek ?_
    refine lv_iconst (v := 1) hx hb dX8_keep_30 (by decide) ?_
    refine r_zast (G' := ((mG a yn tx pl st va fy fa ry se bh mi fb bo bk) :: (aG c4 (a 1) 204 (fb_put w (fun k => w (0 + k)) (102 + 51 * k) 51)) :: (zG c4 (a 3) 2 (upd kp k 1)) :: Ts)) hx hb hK hw 2 1 rfl rfl k rfl (by omega) (by decide) rfl dX8_keep_31 (fun H locs hw => ?_)
    refine lv_iconst (v := 1) hx hb dX8_keep_32 (by decide) ?_
    exact kr 1 (fb_put w (fun k => w (0 + k)) (102 + 51 * k) 51, upd kp k 1) _ _ _ _ hw (Or.inl ⟨k, hk1, ek, rfl, rfl, rfl⟩) dX8_keep_33
  · refine lv_ldc hx hb hown f_1 dX8_keep_10 ?_
    exact kr (-1000000001) (w, kp) _ _ _ _ hw (Or.inr ⟨(fun z => h0_4 c_7 ((inL (lo := 0) (hi := 1) rfl rfl).mpr z)), rfl, rfl, rfl⟩) dX8_keep_12
set_option maxHeartbeats 4000000 in
set_option maxRecDepth 100000 in
theorem k_X8_goBack (l : Launch) (D : va_G) (c4 : Nat → ClassId) (A : Nat → Prop) (Ts : List va_W) (a : Nat → Nat) (yn : Int32) (tx : Int32) (pl : Int32) (st : Int32) (va : Int32) (fy : Int32) (fa : Int32) (ry : Int32) (se : Int32) (bh : Int32) (mi : Int32) (fb : Int32) (bo : Int32) (bk : Int32) (w : Nat → Int32) (kp : Nat → Int32) (v : Int32) : Ci l yX8_goBack wsX8_goBack 1 25 [.ref (a 0), .int v] D (tyA c4) A none ((mG a yn tx pl st va fy fa ry se bh mi fb bo bk) :: (aG c4 (a 1) 204 w) :: (zG c4 (a 3) 2 kp) :: Ts) (S := (Nat → Int32)) (fun (r : Int32) (u : (Nat → Int32)) => (∃ k, k ≤ 1 ∧ v = nI k ∧ ((¬ kp k = 0 ∧ r = 1 ∧ u = fb_put w (fun j => w (102 + 51 * k + j)) 0 51) ∨ (kp k = 0 ∧ r = NOTc ∧ u = w))) ∨ (¬ inR v 0 1 ∧ r = UNK ∧ u = w)) (fun u => ((mG a yn tx pl st va fy fa ry se bh mi fb bo bk) :: (aG c4 (a 1) 204 u) :: (zG c4 (a 3) 2 kp) :: Ts)) := by
  refine cOi (cc := cX8_goBack) (maxL := 2) (by decide) rfl (Nat.le_of_ble_eq_true rfl) rfl ?_
  rintro jp je js jm below meth jc ls args R Q H locs hRf hRl ⟨hx, hb, hml, hr, hts, hown, hlocks, hK, hX⟩ hw hl kr
  have hown : js.vm.findClass RX8 = some jm.cls := hown
  have f_0 := hts (.fieldLink RX8 16 "IceSwayModel" "isKept" "[Z") (by decide +kernel)
  have f_1 := hts (.constant RX8 189 (-1000000003)) (by decide +kernel)
  have f_2 := hts (.constant RX8 152 (-1000000001)) (by decide +kernel)
  have hi8 : ∀ w ∈ u_ws RX8 TX8 28, w ∈ wsX8_goBack := fun w h => List.mem_cons_of_mem _ (List.mem_append_right _ h)
  refine lv_iload_n hx hb dX8_goBack_0 rfl (lv_at hl 1 rfl) ?_
  refine lv_i2l hx hb dX8_goBack_1 rfl ?_
  refine lv_lconst (v := 0) hx hb dX8_goBack_2 (by decide) ?_
  refine lv_lconst (v := 1) hx hb dX8_goBack_3 (by decide) ?_
  refine c_si (As := [.long v.toInt64, .long 0, .long 1]) (rest := []) ⟨hx, hb, hml, hown, hts⟩ (k_X8_in l D c4 A ((mG a yn tx pl st va fy fa ry se bh mi fb bo bk) :: (aG c4 (a 1) 204 w) :: (zG c4 (a 3) 2 kp) :: Ts) v.toInt64 0 1) (va_cwS 3 hts gX8_goBack_X8_in rfl rfl rfl (by decide +kernel) (rmv (Nat.le_of_ble_eq_true rfl) (Nat.le_of_ble_eq_true rfl) hRf hRl)) hK trivial hw rfl hl rfl (Nat.le_of_ble_eq_true rfl) ⟨Nat.zero_le _, Nat.zero_le _⟩ dX8_goBack_4 (fun r_4 u_4 H locs hpq hw => ?_)
  obtain ⟨h0_4, h1_4, hz_4⟩ := hpq
  refine lv_if_ne (tgt := 13) hx hb dX8_goBack_7 (by decide) (fun c_7 => ?_) (fun c_7 => ?_)
  · obtain ⟨s, hk0, hk1, ek⟩ := (show inR v 0 1 from ((inL (lo := 0) (hi := 1) rfl rfl).mp (h1_4 c_7))).nat (a := 0) (b := 1) rfl rfl
    refine lv_aload_n hx hb dX8_goBack_13 rfl (lv_at hl 0 rfl) ?_
    refine r_get (T := TX8) (v := .ref (a 3)) hx hb hts hi8 hown hK hw 0 rfl rfl 3 (by decide) f_0 rfl dX8_goBack_14 ?_
    refine lv_iload_n hx hb dX8_goBack_17 rfl (lv_at hl 1 rfl) ?_
    refine r_top (y := nI s) ek ?_
    refine r_zald hx hb hK hw 2 1 rfl rfl s (by omega) (by decide) dX8_goBack_18 ?_
    refine lv_if_ne (tgt := 25) hx hb dX8_goBack_19 (by decide) (fun c_19 => ?_) (fun c_19 => ?_)
    · refine lv_aload_n hx hb dX8_goBack_25 rfl (lv_at hl 0 rfl) ?_
      refine lv_bipush (v := 102) hx hb dX8_goBack_26 (by decide) ?_
      refine lv_bipush (v := 51) hx hb dX8_goBack_28 (by decide) ?_
      refine lv_iload_n hx hb dX8_goBack_30 rfl (lv_at hl 1 rfl) ?_
      refine r_top (y := nI s) ek ?_
      refine r_mulN hx hb 51 s dX8_goBack_31 ?_
      refine r_addN hx hb 102 (51 * s) dX8_goBack_32 ?_
      refine lv_iconst (v := 0) hx hb dX8_goBack_33 (by decide) ?_
      have hw := hw.m1
      have hw := hw.m1
      refine c_vv (As := [.int (nI (102 + 51 * s)), .int 0]) (rest := []) ⟨hx, hb, hml, hown, hts⟩ (k_X8_copy l D c4 A ((zG c4 (a 3) 2 kp) :: Ts) a yn tx pl st va fy fa ry se bh mi fb bo bk w (102 + 51 * s) 0 (by omega) (by decide) (by omega)) (cwV 2 hts gX8_goBack_X8_copy rfl rfl rfl (by decide +kernel) (rmv (Nat.le_of_ble_eq_true rfl) (Nat.le_of_ble_eq_true rfl) hRf hRl)) hK trivial hw rfl rfl rfl hl rfl (Nat.le_of_ble_eq_true rfl) ⟨Nat.zero_le _, Nat.zero_le _⟩ dX8_goBack_34 (fun u_34 H locs hpq hw => ?_)
      refine lv_iconst (v := 1) hx hb dX8_goBack_37 (by decide) ?_
      exact kr 1 (fb_put w (fun k => w ((102 + 51 * s) + k)) 0 51) _ _ _ _ hw (Or.inl ⟨s, hk1, ek, Or.inl ⟨c_19, rfl, rfl⟩⟩) dX8_goBack_38
    · refine lv_ldc hx hb hown f_1 dX8_goBack_22 ?_
      exact kr (-1000000003) (w) _ _ _ _ hw (Or.inl ⟨s, hk1, ek, Or.inr ⟨c_19, rfl, rfl⟩⟩) dX8_goBack_24
  · refine lv_ldc hx hb hown f_2 dX8_goBack_10 ?_
    exact kr (-1000000001) (w) _ _ _ _ hw (Or.inr ⟨(fun z => h0_4 c_7 ((inL (lo := 0) (hi := 1) rfl rfl).mpr z)), rfl, rfl⟩) dX8_goBack_12
