set_option maxHeartbeats 4000000 in
set_option maxRecDepth 100000 in
theorem k_X7_isOutOfDay (l : Launch) (D : va_G) (c4 : Nat → ClassId) (A : Nat → Prop) (Ts : List va_W) (v : Int32) : Ci l yX7_isOutOfDay wsX7_isOutOfDay 1 22 [.int v] D (tyA c4) A none (Ts) (S := Unit) (fun (r : Int32) (u : Unit) => (r = 0 → ¬ v < 1 ∧ ¬ 999 < v) ∧ (¬ r = 0 → v < 1 ∨ 999 < v)) (fun u => (Ts)) := by
  refine cOz (cc := cX7_isOutOfDay) (maxL := 1) (by decide) rfl (Nat.le_of_ble_eq_true rfl) rfl ?_
  rintro jp je js jm below meth jc ls args R Q H locs hRf hRl ⟨hx, hb, hml, hr, hts, hown, hlocks, hK, hX⟩ hw hl kr
  have hown : js.vm.findClass RX7 = some jm.cls := hown
  refine lv_iload_n hx hb dX7_isOutOfDay_0 rfl (lv_at hl 0 rfl) ?_
  refine lv_iconst (v := 1) hx hb dX7_isOutOfDay_1 (by decide) ?_
  refine lv_sipush (v := 999) hx hb dX7_isOutOfDay_2 (by decide) ?_
  refine c_si (As := [.int v, .int 1, .int 999]) (rest := []) ⟨hx, hb, hml, hown, hts⟩ (k_X7_isOut l D c4 A Ts v 1 999) (va_cwS 3 hts gX7_isOutOfDay_X7_isOut rfl rfl rfl (by decide +kernel) (rmv (Nat.le_of_ble_eq_true rfl) (Nat.le_of_ble_eq_true rfl) hRf hRl)) hK trivial hw rfl hl rfl (Nat.le_of_ble_eq_true rfl) ⟨Nat.zero_le _, Nat.zero_le _⟩ dX7_isOutOfDay_5 (fun r_5 u_5 H locs hpq hw => ?_)
  obtain ⟨h0_5, h1_5, hz_5⟩ := hpq
  exact kr r_5 () _ _ _ _ hw (z01 hz_5) ⟨h0_5, h1_5⟩ dX7_isOutOfDay_8
set_option maxHeartbeats 4000000 in
set_option maxRecDepth 100000 in
theorem k_X7_forceNow (l : Launch) (D : va_G) (c4 : Nat → ClassId) (A : Nat → Prop) (Ts : List va_W) (ad : Nat → Nat → Nat) (fp : Int32) (bt : Int32) (nt : Int32) (sd : Int32) (nb : Nat → Int32) : Ci l yX7_forceNow wsX7_forceNow 3 59 [.ref ((ad 0) 0)] D (tyA c4) A none ((iG ad fp) :: (wG ((ad 3) 0) ((ad 4) 0) bt nt sd) :: (bG c4 (ad 2) nb) :: Ts) (S := Unit) (fun (r : Int32) (u : Unit) => r = (pForce nb bt)) (fun u => ((iG ad fp) :: (wG ((ad 3) 0) ((ad 4) 0) bt nt sd) :: (bG c4 (ad 2) nb) :: Ts)) := by
  refine cOi (cc := cX7_forceNow) (maxL := 1) (by decide) rfl (Nat.le_of_ble_eq_true rfl) rfl ?_
  rintro jp je js jm below meth jc ls args R Q H locs hRf hRl ⟨hx, hb, hml, hr, hts, hown, hlocks, hK, hX⟩ hw hl kr
  have hown : js.vm.findClass RX7 = some jm.cls := hown
  have f_0 := hts (.fieldLink RX7 19 "IceSway" "boat" "LIceSway$Boat;") (by decide +kernel)
  have f_1 := hts (.fieldLink RX7 26 "IceSway" "now" "LIceSway$Winter;") (by decide +kernel)
  have f_2 := hts (.fieldLink RX7 128 "IceSway$Winter" "beat" "I") (by decide +kernel)
  have hi7 : ∀ w ∈ u_ws RX7 TX7 10, w ∈ wsX7_forceNow := fun w h => List.mem_cons_of_mem _ (List.mem_append_left _ (List.mem_append_left _ (List.mem_append_right _ h)))
  have hi5 : ∀ w ∈ u_ws RX5 TX5 4, w ∈ wsX7_forceNow := fun w h => List.mem_cons_of_mem _ (List.mem_append_left _ (List.mem_append_right _ h))
  refine lv_aload_n hx hb dX7_forceNow_0 rfl (lv_at hl 0 rfl) ?_
  refine r_get (T := TX7) (v := .ref ((ad 2) 0)) hx hb hts hi7 hown hK hw 0 rfl rfl 1 (by decide) f_0 rfl dX7_forceNow_1 ?_
  refine lv_aload_n hx hb dX7_forceNow_4 rfl (lv_at hl 0 rfl) ?_
  refine r_get (T := TX7) (v := .ref ((ad 3) 0)) hx hb hts hi7 hown hK hw 0 rfl rfl 2 (by decide) f_1 rfl dX7_forceNow_5 ?_
  refine r_get (T := TX5) (v := .int bt) hx hb hts hi5 hown hK hw 1 rfl rfl 1 (by decide) f_2 rfl dX7_forceNow_8 ?_
  have hw := hw.m2
  refine c_vi (As := [.int bt]) (rest := []) ⟨hx, hb, hml, hown, hts⟩ (k_X0_forceBy l D c4 A ((iG ad fp) :: (wG ((ad 3) 0) ((ad 4) 0) bt nt sd) :: Ts) (ad 2) nb bt) (cwV 1 hts gX7_forceNow_X0_forceBy rfl rfl rfl (by decide +kernel) (rmv (Nat.le_of_ble_eq_true rfl) (Nat.le_of_ble_eq_true rfl) hRf hRl)) hK trivial hw rfl rfl rfl hl rfl (Nat.le_of_ble_eq_true rfl) ⟨Nat.zero_le _, Nat.zero_le _⟩ dX7_forceNow_11 (fun r_11 u_11 H locs hpq hw => ?_)
  have er_11 := hpq
  subst er_11
  have hw := hw.m2
  have hw := hw.m2
  exact kr (pForce nb bt) () _ _ _ _ hw rfl dX7_forceNow_14
set_option maxHeartbeats 4000000 in
set_option maxRecDepth 100000 in
theorem k_X7_goFromNow (l : Launch) (D : va_G) (c4 : Nat → ClassId) (A : Nat → Prop) (Ts : List va_W) (ad : Nat → Nat → Nat) (fp : Int32) (bt : Int32) (nt : Int32) (sd : Int32) (nb : Nat → Int32) (n : Nat) (os : Int32) (kd : Nat → Int32) (ic : Nat → Int32) (br : Nat → Int32) (q : Nat → Yq) (bh : Int32) (mi : Int32) (fb : Int32) (ba : Nat → Int32) (t : Int32) (hn : n ≤ 12) (hY : yR q n os kd ic br) (htl : tlOk nb) : Cv l yX7_goFromNow wsX7_goFromNow 4 79 [.ref ((ad 0) 0), .int t] D (tyA c4) A none ((iG ad fp) :: (wG ((ad 3) 0) ((ad 4) 0) bt nt sd) :: (bG c4 (ad 2) nb) :: (yG c4 (ad 4) (nI n) os kd ic br) :: (tG c4 (ad 8) bh mi fb ba) :: Ts) (S := Nat × (Nat → Int32)) (fun (u : Nat × (Nat → Int32)) => (u.1 = bhQ (pForce nb bt) (nb 5) t q n) ∧ (∀ k, k < u.1 → u.2 k = cumQ (pForce nb bt) (nb 5) q (k + 1))) (fun u => ((iG ad fp) :: (wG ((ad 3) 0) ((ad 4) 0) bt nt sd) :: (bG c4 (ad 2) nb) :: (yG c4 (ad 4) (nI n) os kd ic br) :: (tG c4 (ad 8) (nI u.1) (cumQ (pForce nb bt) (nb 5) q u.1) (fbQ q u.1) u.2) :: Ts)) := by
  refine cOv (cc := cX7_goFromNow) (maxL := 2) (by decide) rfl (Nat.le_of_ble_eq_true rfl) rfl ?_
  rintro jp je js jm below meth jc ls args R Q H locs hRf hRl ⟨hx, hb, hml, hr, hts, hown, hlocks, hK, hX⟩ hw hl kr
  have hown : js.vm.findClass RX7 = some jm.cls := hown
  have f_0 := hts (.fieldLink RX7 48 "IceSway" "trip" "LIceSway$Trip;") (by decide +kernel)
  have f_1 := hts (.fieldLink RX7 26 "IceSway" "now" "LIceSway$Winter;") (by decide +kernel)
  have f_2 := hts (.fieldLink RX7 118 "IceSway$Winter" "yards" "LIceSway$Yards;") (by decide +kernel)
  have f_3 := hts (.fieldLink RX7 19 "IceSway" "boat" "LIceSway$Boat;") (by decide +kernel)
  have hi7 : ∀ w ∈ u_ws RX7 TX7 10, w ∈ wsX7_goFromNow := fun w h => List.mem_cons_of_mem _ (List.mem_append_left _ (List.mem_append_left _ (List.mem_append_left _ (List.mem_append_left _ (List.mem_append_right _ h)))))
  have hi5 : ∀ w ∈ u_ws RX5 TX5 4, w ∈ wsX7_goFromNow := fun w h => List.mem_cons_of_mem _ (List.mem_append_left _ (List.mem_append_left _ (List.mem_append_left _ (List.mem_append_right _ h))))
  refine lv_aload_n hx hb dX7_goFromNow_0 rfl (lv_at hl 0 rfl) ?_
  refine r_get (T := TX7) (v := .ref ((ad 8) 0)) hx hb hts hi7 hown hK hw 0 rfl rfl 6 (by decide) f_0 rfl dX7_goFromNow_1 ?_
  refine lv_aload_n hx hb dX7_goFromNow_4 rfl (lv_at hl 0 rfl) ?_
  refine r_get (T := TX7) (v := .ref ((ad 3) 0)) hx hb hts hi7 hown hK hw 0 rfl rfl 2 (by decide) f_1 rfl dX7_goFromNow_5 ?_
  refine r_get (T := TX5) (v := .ref ((ad 4) 0)) hx hb hts hi5 hown hK hw 1 rfl rfl 0 (by decide) f_2 rfl dX7_goFromNow_8 ?_
  refine lv_aload_n hx hb dX7_goFromNow_11 rfl (lv_at hl 0 rfl) ?_
  have hw := hw.m2
  have hw := hw.m2
  have hw := hw.m2
  refine c_vi (As := []) (rest := [.ref ((ad 4) 0), .ref ((ad 8) 0)]) ⟨hx, hb, hml, hown, hts⟩ (k_X7_forceNow l D c4 A ((yG c4 (ad 4) (nI n) os kd ic br) :: (tG c4 (ad 8) bh mi fb ba) :: Ts) ad fp bt nt sd nb) (cwV 0 hts gX7_goFromNow_X7_forceNow rfl rfl rfl (by decide +kernel) (rmv (Nat.le_of_ble_eq_true rfl) (Nat.le_of_ble_eq_true rfl) hRf hRl)) hK trivial hw rfl rfl rfl hl rfl (Nat.le_of_ble_eq_true rfl) ⟨Nat.zero_le _, Nat.zero_le _⟩ dX7_goFromNow_12 (fun r_12 u_12 H locs hpq hw => ?_)
  have er_12 := hpq
  subst er_12
  refine lv_aload_n hx hb dX7_goFromNow_15 rfl (lv_at hl 0 rfl) ?_
  refine r_get (T := TX7) (v := .ref ((ad 2) 0)) hx hb hts hi7 hown hK hw 0 rfl rfl 1 (by decide) f_3 rfl dX7_goFromNow_16 ?_
  have hw := hw.m2
  refine c_vi (As := []) (rest := [.int (pForce nb bt), .ref ((ad 4) 0), .ref ((ad 8) 0)]) ⟨hx, hb, hml, hown, hts⟩ (k_X0_axeMinutes l D c4 A ((iG ad fp) :: (wG ((ad 3) 0) ((ad 4) 0) bt nt sd) :: (yG c4 (ad 4) (nI n) os kd ic br) :: (tG c4 (ad 8) bh mi fb ba) :: Ts) (ad 2) nb) (cwV 0 hts gX7_goFromNow_X0_axeMinutes rfl rfl rfl (by decide +kernel) (rmv (Nat.le_of_ble_eq_true rfl) (Nat.le_of_ble_eq_true rfl) hRf hRl)) hK trivial hw rfl rfl rfl hl rfl (Nat.le_of_ble_eq_true rfl) ⟨Nat.zero_le _, Nat.zero_le _⟩ dX7_goFromNow_19 (fun r_19 u_19 H locs hpq hw => ?_)
  have er_19 := hpq
  subst er_19
  refine lv_iload_n hx hb dX7_goFromNow_22 rfl (lv_at hl 1 rfl) ?_
  have hw := hw.m3
  have hw := hw.m4
  refine c_vv (As := [.ref ((ad 4) 0), .int (pForce nb bt), .int (nb 5), .int t]) (rest := []) ⟨hx, hb, hml, hown, hts⟩ (k_X4_go l D c4 A ((bG c4 (ad 2) nb) :: (iG ad fp) :: (wG ((ad 3) 0) ((ad 4) 0) bt nt sd) :: Ts) (ad 8) bh mi fb ba (ad 4) n os kd ic br q (pForce nb bt) (nb 5) t hn hY (fo_of htl bt)) (cwV 4 hts gX7_goFromNow_X4_go rfl rfl rfl (by decide +kernel) (rmv (Nat.le_of_ble_eq_true rfl) (Nat.le_of_ble_eq_true rfl) hRf hRl)) hK trivial hw rfl rfl rfl hl rfl (Nat.le_of_ble_eq_true rfl) ⟨Nat.zero_le _, Nat.zero_le _⟩ dX7_goFromNow_23 (fun u_23 H locs hpq hw => ?_)
  obtain ⟨b2_23, ba2_23⟩ := u_23
  have hw : gW D A js.heap ((tG c4 (ad 8) (nI b2_23) (cumQ (pForce nb bt) (nb 5) q b2_23) (fbQ q b2_23) ba2_23) :: (yG c4 (ad 4) (nI n) os kd ic br) :: (bG c4 (ad 2) nb) :: (iG ad fp) :: (wG ((ad 3) 0) ((ad 4) 0) bt nt sd) :: Ts) H locs := hw
  obtain ⟨hb2_23, hba_23⟩ := hpq
  have hb2_23 : b2_23 = bhQ (pForce nb bt) (nb 5) t q n := hb2_23
  have hba_23 : ∀ k, k < b2_23 → ba2_23 k = cumQ (pForce nb bt) (nb 5) q (k + 1) := hba_23
  have hw := hw.m1
  have hw := hw.m2
  have hw := hw.m4
  have hw := hw.m4
  exact kr (b2_23, ba2_23) _ _ _ _ hw ⟨hb2_23, hba_23⟩ dX7_goFromNow_26
set_option maxHeartbeats 4000000 in
set_option maxRecDepth 100000 in
theorem k_X7_feed (l : Launch) (D : va_G) (c4 : Nat → ClassId) (A : Nat → Prop) (Ts : List va_W) (ad : Nat → Nat → Nat) (fp : Int32) (ln : Nat) (xyc : Int32) (xfn : Int32) (xfp : Int32) (xpl : Int32) (xcs : Int32) (lt : Nat → Int32) (xnb : Nat → Int32) (xyk : Nat → Int32) (xyi : Nat → Int32) (v : Int32) (hln : ln ≤ 230) : Ci l yX7_feed wsX7_feed 2 41 [.ref ((ad 0) 0), .int v] D (tyA c4) A none ((iG ad fp) :: (xG c4 (ad 1) (nI ln) xyc xfn xfp xpl xcs lt xnb xyk xyi) :: Ts) (S := Nat × (Nat → Int32)) (fun (r : Int32) (u : Nat × (Nat → Int32)) => ((r, u.1) = fdF v ln) ∧ (u.2 = fdL v ln lt)) (fun u => ((iG ad fp) :: (xG c4 (ad 1) (nI u.1) xyc xfn xfp xpl xcs u.2 xnb xyk xyi) :: Ts)) := by
  refine cOi (cc := cX7_feed) (maxL := 2) (by decide) rfl (Nat.le_of_ble_eq_true rfl) rfl ?_
  rintro jp je js jm below meth jc ls args R Q H locs hRf hRl ⟨hx, hb, hml, hr, hts, hown, hlocks, hK, hX⟩ hw hl kr
  have hown : js.vm.findClass RX7 = some jm.cls := hown
  have f_0 := hts (.fieldLink RX7 10 "IceSway" "text" "LIceSway$Text;") (by decide +kernel)
  have f_1 := hts (.fieldLink RX7 84 "IceSway$Text" "length" "I") (by decide +kernel)
  have f_2 := hts (.constant RX7 79 (-1000000004)) (by decide +kernel)
  have f_3 := hts (.constant RX7 74 (-1000000002)) (by decide +kernel)
  have hi7 : ∀ w ∈ u_ws RX7 TX7 10, w ∈ wsX7_feed := fun w h => List.mem_cons_of_mem _ (List.mem_append_left _ (List.mem_append_right _ h))
  have hi3 : ∀ w ∈ u_ws RX3 TX3 10, w ∈ wsX7_feed := fun w h => List.mem_cons_of_mem _ (List.mem_append_right _ h)
  refine lv_iload_n hx hb dX7_feed_0 rfl (lv_at hl 1 rfl) ?_
  refine lv_iconst (v := 0) hx hb dX7_feed_1 (by decide) ?_
  refine lv_sipush (v := 255) hx hb dX7_feed_2 (by decide) ?_
  refine c_si (As := [.int v, .int 0, .int 255]) (rest := []) ⟨hx, hb, hml, hown, hts⟩ (k_X7_isOut l D c4 A ((iG ad fp) :: (xG c4 (ad 1) (nI ln) xyc xfn xfp xpl xcs lt xnb xyk xyi) :: Ts) v 0 255) (va_cwS 3 hts gX7_feed_X7_isOut rfl rfl rfl (by decide +kernel) (rmv (Nat.le_of_ble_eq_true rfl) (Nat.le_of_ble_eq_true rfl) hRf hRl)) hK trivial hw rfl hl rfl (Nat.le_of_ble_eq_true rfl) ⟨Nat.zero_le _, Nat.zero_le _⟩ dX7_feed_5 (fun r_5 u_5 H locs hpq hw => ?_)
  obtain ⟨h0_5, h1_5, hz_5⟩ := hpq
  refine lv_if_eq (tgt := 14) hx hb dX7_feed_8 (by decide) (fun c_8 => ?_) (fun c_8 => ?_)
  · refine lv_aload_n hx hb dX7_feed_14 rfl (lv_at hl 0 rfl) ?_
    refine r_get (T := TX7) (v := .ref ((ad 1) 0)) hx hb hts hi7 hown hK hw 0 rfl rfl 0 (by decide) f_0 rfl dX7_feed_15 ?_
    have hw := hw.m1
    refine c_vi (As := []) (rest := []) ⟨hx, hb, hml, hown, hts⟩ (k_X3_isFull l D c4 A ((iG ad fp) :: Ts) (ad 1) ln xyc xfn xfp xpl xcs lt xnb xyk xyi hln) (cwV 0 hts gX7_feed_X3_isFull rfl rfl rfl (by decide +kernel) (rmv (Nat.le_of_ble_eq_true rfl) (Nat.le_of_ble_eq_true rfl) hRf hRl)) hK trivial hw rfl rfl rfl hl rfl (Nat.le_of_ble_eq_true rfl) ⟨Nat.zero_le _, Nat.zero_le _⟩ dX7_feed_18 (fun r_18 u_18 H locs hpq hw => ?_)
    obtain ⟨h0_18, h1_18⟩ := hpq
    refine lv_if_eq (tgt := 27) hx hb dX7_feed_21 (by decide) (fun c_21 => ?_) (fun c_21 => ?_)
    · refine lv_aload_n hx hb dX7_feed_27 rfl (lv_at hl 0 rfl) ?_
      refine r_get (T := TX7) (v := .ref ((ad 1) 0)) hx hb hts hi7 hown hK hw 5 rfl rfl 0 (by decide) f_0 rfl dX7_feed_28 ?_
      refine lv_iload_n hx hb dX7_feed_31 rfl (lv_at hl 1 rfl) ?_
      refine c_vv (As := [.int v]) (rest := []) ⟨hx, hb, hml, hown, hts⟩ (k_X3_add l D c4 A ((iG ad fp) :: Ts) (ad 1) ln xyc xfn xfp xpl xcs lt xnb xyk xyi v (h0_18 c_21)) (cwV 1 hts gX7_feed_X3_add rfl rfl rfl (by decide +kernel) (rmv (Nat.le_of_ble_eq_true rfl) (Nat.le_of_ble_eq_true rfl) hRf hRl)) hK trivial hw rfl rfl rfl hl rfl (Nat.le_of_ble_eq_true rfl) ⟨Nat.zero_le _, Nat.zero_le _⟩ dX7_feed_32 (fun u_32 H locs hpq hw => ?_)
      refine lv_aload_n hx hb dX7_feed_35 rfl (lv_at hl 0 rfl) ?_
      refine r_get (T := TX7) (v := .ref ((ad 1) 0)) hx hb hts hi7 hown hK hw 5 rfl rfl 0 (by decide) f_0 rfl dX7_feed_36 ?_
      refine r_get (T := TX3) (v := .int (nI (ln + 1))) hx hb hts hi3 hown hK hw 0 rfl rfl 1 (by decide) f_1 rfl dX7_feed_39 ?_
      have hw := hw.m1
      exact kr (nI (ln + 1)) (ln + 1, upd lt ln v) _ _ _ _ hw ⟨(by unfold fdF; rw [if_pos (h0_5 c_8), if_pos (h0_18 c_21)]), (by unfold fdL; rw [if_pos (h0_5 c_8), if_pos (h0_18 c_21)])⟩ dX7_feed_42
    · refine lv_ldc hx hb hown f_2 dX7_feed_24 ?_
      have hw := hw.m1
      exact kr (-1000000004) (ln, lt) _ _ _ _ hw ⟨(by unfold fdF; rw [if_pos (h0_5 c_8), if_neg (by have := h1_18 c_21; omega)]), (by unfold fdL; rw [if_pos (h0_5 c_8), if_neg (by have := h1_18 c_21; omega)])⟩ dX7_feed_26
  · refine lv_ldc hx hb hown f_3 dX7_feed_11 ?_
    exact kr (-1000000002) (ln, lt) _ _ _ _ hw ⟨(by unfold fdF; rw [if_neg (notR (h1_5 c_8))]), (by unfold fdL; rw [if_neg (notR (h1_5 c_8))])⟩ dX7_feed_13
set_option maxHeartbeats 4000000 in
set_option maxRecDepth 100000 in
theorem k_X7_fault (l : Launch) (D : va_G) (c4 : Nat → ClassId) (A : Nat → Prop) (Ts : List va_W) (ad : Nat → Nat → Nat) (fp : Int32) : Ci l yX7_fault wsX7_fault 0 0 [.ref ((ad 0) 0)] D (tyA c4) A none ((iG ad fp) :: Ts) (S := Unit) (fun (r : Int32) (u : Unit) => r = fp) (fun u => ((iG ad fp) :: Ts)) := by
  refine cOi (cc := cX7_fault) (maxL := 1) (by decide) rfl (Nat.le_of_ble_eq_true rfl) rfl ?_
  rintro jp je js jm below meth jc ls args R Q H locs hRf hRl ⟨hx, hb, hml, hr, hts, hown, hlocks, hK, hX⟩ hw hl kr
  have hown : js.vm.findClass RX7 = some jm.cls := hown
  have f_0 := hts (.fieldLink RX7 66 "IceSway" "faultPlace" "I") (by decide +kernel)
  have hi7 : ∀ w ∈ u_ws RX7 TX7 10, w ∈ wsX7_fault := fun w h => List.mem_cons_of_mem _ (List.mem_append_right _ h)
  refine lv_aload_n hx hb dX7_fault_0 rfl (lv_at hl 0 rfl) ?_
  refine r_get (T := TX7) (v := .int fp) hx hb hts hi7 hown hK hw 0 rfl rfl 9 (by decide) f_0 rfl dX7_fault_1 ?_
  exact kr fp () _ _ _ _ hw rfl dX7_fault_4
set_option maxHeartbeats 4000000 in
set_option maxRecDepth 100000 in
theorem k_X7_told (l : Launch) (D : va_G) (c4 : Nat → ClassId) (A : Nat → Prop) (Ts : List va_W) (ad : Nat → Nat → Nat) (fp : Int32) (ln : Nat) (xyc : Int32) (xfn : Int32) (xfp : Int32) (xpl : Int32) (xcs : Int32) (lt : Nat → Int32) (xnb : Nat → Int32) (xyk : Nat → Int32) (xyi : Nat → Int32) (bt : Int32) (nt : Int32) (sd : Int32) (nb : Nat → Int32) (n : Nat) (os : Int32) (kd : Nat → Int32) (ic : Nat → Int32) (br : Nat → Int32) (bc : Nat) (ec : Nat) (by0 : Nat → Int32) (bn : Nat → Int32) (bd : Nat → Int32) (bi : Nat → Int32) (ey : Nat → Int32) (ei : Nat → Int32) (v : Int32) : Ci l yX7_told wsX7_told 4 79 [.ref ((ad 0) 0), .int v] D (tyA c4) A none ((iG ad fp) :: (xG c4 (ad 1) (nI ln) xyc xfn xfp xpl xcs lt xnb xyk xyi) :: (wG ((ad 3) 0) ((ad 4) 0) bt nt sd) :: (bG c4 (ad 2) nb) :: (yG c4 (ad 4) (nI n) os kd ic br) :: (rG c4 (ad 7) (nI bc) (nI ec) by0 bn bd bi ey ei) :: Ts) (S := Unit) (fun (r : Int32) (u : Unit) => r = (toldF n nb ln nt bt os bc ec v)) (fun u => ((iG ad fp) :: (xG c4 (ad 1) (nI ln) xyc xfn xfp xpl xcs lt xnb xyk xyi) :: (wG ((ad 3) 0) ((ad 4) 0) bt nt sd) :: (bG c4 (ad 2) nb) :: (yG c4 (ad 4) (nI n) os kd ic br) :: (rG c4 (ad 7) (nI bc) (nI ec) by0 bn bd bi ey ei) :: Ts)) := by
  refine cOi (cc := cX7_told) (maxL := 2) (by decide) rfl (Nat.le_of_ble_eq_true rfl) rfl ?_
  rintro jp je js jm below meth jc ls args R Q H locs hRf hRl ⟨hx, hb, hml, hr, hts, hown, hlocks, hK, hX⟩ hw hl kr
  have hown : js.vm.findClass RX7 = some jm.cls := hown
  have f_0 := hts (.fieldLink RX7 26 "IceSway" "now" "LIceSway$Winter;") (by decide +kernel)
  have f_1 := hts (.fieldLink RX7 118 "IceSway$Winter" "yards" "LIceSway$Yards;") (by decide +kernel)
  have f_2 := hts (.fieldLink RX7 121 "IceSway$Yards" "count" "I") (by decide +kernel)
  have f_3 := hts (.fieldLink RX7 10 "IceSway" "text" "LIceSway$Text;") (by decide +kernel)
  have f_4 := hts (.fieldLink RX7 84 "IceSway$Text" "length" "I") (by decide +kernel)
  have f_5 := hts (.fieldLink RX7 125 "IceSway$Winter" "nights" "I") (by decide +kernel)
  have f_6 := hts (.fieldLink RX7 128 "IceSway$Winter" "beat" "I") (by decide +kernel)
  have f_7 := hts (.fieldLink RX7 19 "IceSway" "boat" "LIceSway$Boat;") (by decide +kernel)
  have f_8 := hts (.fieldLink RX7 142 "IceSway$Yards" "openSet" "I") (by decide +kernel)
  have f_9 := hts (.fieldLink RX7 41 "IceSway" "records" "LIceSway$Records;") (by decide +kernel)
  have f_10 := hts (.fieldLink RX7 145 "IceSway$Records" "boredCount" "I") (by decide +kernel)
  have f_11 := hts (.fieldLink RX7 148 "IceSway$Records" "entryCount" "I") (by decide +kernel)
  have f_12 := hts (.fieldLink RX7 124 "IceSway$Boat" "numbers" "[I") (by decide +kernel)
  have f_13 := hts (.constant RX7 74 (-1000000002)) (by decide +kernel)
  have hi7 : ∀ w ∈ u_ws RX7 TX7 10, w ∈ wsX7_told := fun w h => List.mem_cons_of_mem _ (List.mem_append_left _ (List.mem_append_left _ (List.mem_append_left _ (List.mem_append_left _ (List.mem_append_left _ (List.mem_append_right _ h))))))
  have hi5 : ∀ w ∈ u_ws RX5 TX5 4, w ∈ wsX7_told := fun w h => List.mem_cons_of_mem _ (List.mem_append_left _ (List.mem_append_left _ (List.mem_append_left _ (List.mem_append_right _ h))))
  have hi6 : ∀ w ∈ u_ws RX6 TX6 5, w ∈ wsX7_told := fun w h => List.mem_cons_of_mem _ (List.mem_append_left _ (List.mem_append_left _ (List.mem_append_right _ h)))
  have hi3 : ∀ w ∈ u_ws RX3 TX3 10, w ∈ wsX7_told := fun w h => List.mem_cons_of_mem _ (List.mem_append_left _ (List.mem_append_right _ h))
  have hi1 : ∀ w ∈ u_ws RX1 TX1 8, w ∈ wsX7_told := fun w h => List.mem_cons_of_mem _ (List.mem_append_right _ h)
  have hi0 : ∀ w ∈ u_ws RX0 TX0 1, w ∈ wsX7_told := fun w h => List.mem_cons_of_mem _ (List.mem_append_left _ (List.mem_append_left _ (List.mem_append_left _ (List.mem_append_left _ (List.mem_append_right _ h)))))
  refine lv_iload_n hx hb dX7_told_0 rfl (lv_at hl 1 rfl) ?_
  refine lv_iconst (v := 0) hx hb dX7_told_1 (by decide) ?_
  refine lv_bipush (v := 17) hx hb dX7_told_2 (by decide) ?_
  refine c_si (As := [.int v, .int 0, .int 17]) (rest := []) ⟨hx, hb, hml, hown, hts⟩ (k_X7_isOut l D c4 A ((iG ad fp) :: (xG c4 (ad 1) (nI ln) xyc xfn xfp xpl xcs lt xnb xyk xyi) :: (wG ((ad 3) 0) ((ad 4) 0) bt nt sd) :: (bG c4 (ad 2) nb) :: (yG c4 (ad 4) (nI n) os kd ic br) :: (rG c4 (ad 7) (nI bc) (nI ec) by0 bn bd bi ey ei) :: Ts) v 0 17) (va_cwS 3 hts gX7_told_X7_isOut rfl rfl rfl (by decide +kernel) (rmv (Nat.le_of_ble_eq_true rfl) (Nat.le_of_ble_eq_true rfl) hRf hRl)) hK trivial hw rfl hl rfl (Nat.le_of_ble_eq_true rfl) ⟨Nat.zero_le _, Nat.zero_le _⟩ dX7_told_4 (fun r_4 u_4 H locs hpq hw => ?_)
  obtain ⟨h0_4, h1_4, hz_4⟩ := hpq
  refine lv_if_eq (tgt := 13) hx hb dX7_told_7 (by decide) (fun c_7 => ?_) (fun c_7 => ?_)
  · refine lv_iload_n hx hb dX7_told_13 rfl (lv_at hl 1 rfl) ?_
    refine lv_iconst (v := 1) hx hb dX7_told_14 (by decide) ?_
    have kj_15 : (¬ inR v 1 9) → ∀ (H : Heap) (locs : List Loc), gW D A js.heap ((iG ad fp) :: (xG c4 (ad 1) (nI ln) xyc xfn xfp xpl xcs lt xnb xyk xyi) :: (wG ((ad 3) 0) ((ad 4) 0) bt nt sd) :: (bG c4 (ad 2) nb) :: (yG c4 (ad 4) (nI n) os kd ic br) :: (rG c4 (ad 7) (nI bc) (nI ec) by0 bn bd bi ey ei) :: Ts) H locs → ∀ (ls : Array Slot), lv_has ls 2 [(0, .ref ((ad 0) 0)), (1, .int v)] → W jp l je R js jm args below meth jc H locs 0 0 Q (F0 jm 36 ls []) := by
      intro hnr H locs hw ls hl
      refine lv_iload_n hx hb dX7_told_36 rfl (lv_at hl 1 rfl) ?_
      rcases told_cases (h0_4 c_7) hnr with e | e | e | e | e | e | e | e | e
      · subst e
        refine lv_tableIn (tgt := 120) hx hb dX7_told_37 (by decide) (by decide) rfl (by decide) ?_
        refine lv_aload_n hx hb dX7_told_120 rfl (lv_at hl 0 rfl) ?_
        refine r_get (T := TX7) (v := .ref ((ad 3) 0)) hx hb hts hi7 hown hK hw 0 rfl rfl 2 (by decide) f_0 rfl dX7_told_121 ?_
        refine r_get (T := TX5) (v := .ref ((ad 4) 0)) hx hb hts hi5 hown hK hw 6 rfl rfl 0 (by decide) f_1 rfl dX7_told_124 ?_
        refine r_get (T := TX6) (v := .int (nI n)) hx hb hts hi6 hown hK hw 9 rfl rfl 0 (by decide) f_2 rfl dX7_told_127 ?_
        exact kr (nI n) () _ _ _ _ hw (by unfold toldF; rw [if_pos (h0_4 c_7), if_neg hnr, if_pos rfl]) dX7_told_130
      · subst e
        refine lv_tableIn (tgt := 131) hx hb dX7_told_37 (by decide) (by decide) rfl (by decide) ?_
        refine lv_aload_n hx hb dX7_told_131 rfl (lv_at hl 0 rfl) ?_
        refine r_get (T := TX7) (v := .ref ((ad 1) 0)) hx hb hts hi7 hown hK hw 0 rfl rfl 0 (by decide) f_3 rfl dX7_told_132 ?_
        refine r_get (T := TX3) (v := .int (nI ln)) hx hb hts hi3 hown hK hw 1 rfl rfl 1 (by decide) f_4 rfl dX7_told_135 ?_
        exact kr (nI ln) () _ _ _ _ hw (by unfold toldF; rw [if_pos (h0_4 c_7), if_neg hnr, if_neg (show ¬ (10 : Int32) = 0 by decide), if_pos rfl]) dX7_told_138
      · subst e
        refine lv_tableIn (tgt := 139) hx hb dX7_told_37 (by decide) (by decide) rfl (by decide) ?_
        refine lv_aload_n hx hb dX7_told_139 rfl (lv_at hl 0 rfl) ?_
        refine r_get (T := TX7) (v := .ref ((ad 3) 0)) hx hb hts hi7 hown hK hw 0 rfl rfl 2 (by decide) f_0 rfl dX7_told_140 ?_
        refine r_get (T := TX5) (v := .int nt) hx hb hts hi5 hown hK hw 6 rfl rfl 2 (by decide) f_5 rfl dX7_told_143 ?_
        exact kr nt () _ _ _ _ hw (by unfold toldF; rw [if_pos (h0_4 c_7), if_neg hnr, if_neg (show ¬ (11 : Int32) = 0 by decide), if_neg (show ¬ (11 : Int32) = 10 by decide), if_pos rfl]) dX7_told_146
      · subst e
        refine lv_tableIn (tgt := 147) hx hb dX7_told_37 (by decide) (by decide) rfl (by decide) ?_
        refine lv_aload_n hx hb dX7_told_147 rfl (lv_at hl 0 rfl) ?_
        refine r_get (T := TX7) (v := .ref ((ad 3) 0)) hx hb hts hi7 hown hK hw 0 rfl rfl 2 (by decide) f_0 rfl dX7_told_148 ?_
        refine r_get (T := TX5) (v := .int bt) hx hb hts hi5 hown hK hw 6 rfl rfl 1 (by decide) f_6 rfl dX7_told_151 ?_
        exact kr bt () _ _ _ _ hw (by unfold toldF; rw [if_pos (h0_4 c_7), if_neg hnr, if_neg (show ¬ (12 : Int32) = 0 by decide), if_neg (show ¬ (12 : Int32) = 10 by decide), if_neg (show ¬ (12 : Int32) = 11 by decide), if_pos rfl]) dX7_told_154
      · subst e
        refine lv_tableIn (tgt := 155) hx hb dX7_told_37 (by decide) (by decide) rfl (by decide) ?_
        refine lv_aload_n hx hb dX7_told_155 rfl (lv_at hl 0 rfl) ?_
        refine r_get (T := TX7) (v := .ref ((ad 2) 0)) hx hb hts hi7 hown hK hw 0 rfl rfl 1 (by decide) f_7 rfl dX7_told_156 ?_
        refine lv_aload_n hx hb dX7_told_159 rfl (lv_at hl 0 rfl) ?_
        refine r_get (T := TX7) (v := .ref ((ad 3) 0)) hx hb hts hi7 hown hK hw 0 rfl rfl 2 (by decide) f_0 rfl dX7_told_160 ?_
        refine r_get (T := TX5) (v := .int bt) hx hb hts hi5 hown hK hw 6 rfl rfl 1 (by decide) f_6 rfl dX7_told_163 ?_
        refine lv_aload_n hx hb dX7_told_166 rfl (lv_at hl 0 rfl) ?_
        refine r_get (T := TX7) (v := .ref ((ad 2) 0)) hx hb hts hi7 hown hK hw 0 rfl rfl 1 (by decide) f_7 rfl dX7_told_167 ?_
        have hw := hw.m3
        refine c_vi (As := []) (rest := [.int bt, .ref ((ad 2) 0)]) ⟨hx, hb, hml, hown, hts⟩ (k_X0_laggardsTold l D c4 A ((iG ad fp) :: (xG c4 (ad 1) (nI ln) xyc xfn xfp xpl xcs lt xnb xyk xyi) :: (wG ((ad 3) 0) ((ad 4) 0) bt nt sd) :: (yG c4 (ad 4) (nI n) os kd ic br) :: (rG c4 (ad 7) (nI bc) (nI ec) by0 bn bd bi ey ei) :: Ts) (ad 2) nb) (cwV 0 hts gX7_told_X0_laggardsTold rfl rfl rfl (by decide +kernel) (rmv (Nat.le_of_ble_eq_true rfl) (Nat.le_of_ble_eq_true rfl) hRf hRl)) hK trivial hw rfl rfl rfl hl rfl (Nat.le_of_ble_eq_true rfl) ⟨Nat.zero_le _, Nat.zero_le _⟩ dX7_told_170 (fun r_170 u_170 H locs hpq hw => ?_)
        have er_170 := hpq
        subst er_170
        refine c_vi (As := [.int bt, .int (nb 3)]) (rest := []) ⟨hx, hb, hml, hown, hts⟩ (k_X0_swayBy l D c4 A ((iG ad fp) :: (xG c4 (ad 1) (nI ln) xyc xfn xfp xpl xcs lt xnb xyk xyi) :: (wG ((ad 3) 0) ((ad 4) 0) bt nt sd) :: (yG c4 (ad 4) (nI n) os kd ic br) :: (rG c4 (ad 7) (nI bc) (nI ec) by0 bn bd bi ey ei) :: Ts) (ad 2) nb bt (nb 3)) (cwV 2 hts gX7_told_X0_swayBy rfl rfl rfl (by decide +kernel) (rmv (Nat.le_of_ble_eq_true rfl) (Nat.le_of_ble_eq_true rfl) hRf hRl)) hK trivial hw rfl rfl rfl hl rfl (Nat.le_of_ble_eq_true rfl) ⟨Nat.zero_le _, Nat.zero_le _⟩ dX7_told_173 (fun r_173 u_173 H locs hpq hw => ?_)
        have er_173 := hpq
        subst er_173
        have hw := hw.m5
        have hw := hw.m5
        have hw := hw.m2
        have hw := hw.m5
        have hw := hw.m5
        have hw := hw.m5
        exact kr (pSway (nb 1) (nb 2) (nb 3) bt) () _ _ _ _ hw (by unfold toldF; rw [if_pos (h0_4 c_7), if_neg hnr, if_neg (show ¬ (13 : Int32) = 0 by decide), if_neg (show ¬ (13 : Int32) = 10 by decide), if_neg (show ¬ (13 : Int32) = 11 by decide), if_neg (show ¬ (13 : Int32) = 12 by decide), if_pos rfl]) dX7_told_176
      · subst e
        refine lv_tableIn (tgt := 177) hx hb dX7_told_37 (by decide) (by decide) rfl (by decide) ?_
        refine lv_aload_n hx hb dX7_told_177 rfl (lv_at hl 0 rfl) ?_
        have hw := hw.m3
        have hw := hw.m3
        have hw := hw.m2
        refine c_vi (As := []) (rest := []) ⟨hx, hb, hml, hown, hts⟩ (k_X7_forceNow l D c4 A ((xG c4 (ad 1) (nI ln) xyc xfn xfp xpl xcs lt xnb xyk xyi) :: (yG c4 (ad 4) (nI n) os kd ic br) :: (rG c4 (ad 7) (nI bc) (nI ec) by0 bn bd bi ey ei) :: Ts) ad fp bt nt sd nb) (cwV 0 hts gX7_told_X7_forceNow rfl rfl rfl (by decide +kernel) (rmv (Nat.le_of_ble_eq_true rfl) (Nat.le_of_ble_eq_true rfl) hRf hRl)) hK trivial hw rfl rfl rfl hl rfl (Nat.le_of_ble_eq_true rfl) ⟨Nat.zero_le _, Nat.zero_le _⟩ dX7_told_178 (fun r_178 u_178 H locs hpq hw => ?_)
        have er_178 := hpq
        subst er_178
        have hw := hw.m5
        have hw := hw.m5
        have hw := hw.m4
        have hw := hw.m4
        have hw := hw.m5
        have hw := hw.m5
        exact kr (pForce nb bt) () _ _ _ _ hw (by unfold toldF; rw [if_pos (h0_4 c_7), if_neg hnr, if_neg (show ¬ (14 : Int32) = 0 by decide), if_neg (show ¬ (14 : Int32) = 10 by decide), if_neg (show ¬ (14 : Int32) = 11 by decide), if_neg (show ¬ (14 : Int32) = 12 by decide), if_neg (show ¬ (14 : Int32) = 13 by decide), if_pos rfl]) dX7_told_181
      · subst e
        refine lv_tableIn (tgt := 182) hx hb dX7_told_37 (by decide) (by decide) rfl (by decide) ?_
        refine lv_aload_n hx hb dX7_told_182 rfl (lv_at hl 0 rfl) ?_
        refine r_get (T := TX7) (v := .ref ((ad 3) 0)) hx hb hts hi7 hown hK hw 0 rfl rfl 2 (by decide) f_0 rfl dX7_told_183 ?_
        refine r_get (T := TX5) (v := .ref ((ad 4) 0)) hx hb hts hi5 hown hK hw 6 rfl rfl 0 (by decide) f_1 rfl dX7_told_186 ?_
        refine r_get (T := TX6) (v := .int os) hx hb hts hi6 hown hK hw 9 rfl rfl 1 (by decide) f_8 rfl dX7_told_189 ?_
        exact kr os () _ _ _ _ hw (by unfold toldF; rw [if_pos (h0_4 c_7), if_neg hnr, if_neg (show ¬ (15 : Int32) = 0 by decide), if_neg (show ¬ (15 : Int32) = 10 by decide), if_neg (show ¬ (15 : Int32) = 11 by decide), if_neg (show ¬ (15 : Int32) = 12 by decide), if_neg (show ¬ (15 : Int32) = 13 by decide), if_neg (show ¬ (15 : Int32) = 14 by decide), if_pos rfl]) dX7_told_192
      · subst e
        refine lv_tableIn (tgt := 193) hx hb dX7_told_37 (by decide) (by decide) rfl (by decide) ?_
        refine lv_aload_n hx hb dX7_told_193 rfl (lv_at hl 0 rfl) ?_
        refine r_get (T := TX7) (v := .ref ((ad 7) 0)) hx hb hts hi7 hown hK hw 0 rfl rfl 5 (by decide) f_9 rfl dX7_told_194 ?_
        refine r_get (T := TX1) (v := .int (nI bc)) hx hb hts hi1 hown hK hw 13 rfl rfl 0 (by decide) f_10 rfl dX7_told_197 ?_
        exact kr (nI bc) () _ _ _ _ hw (by unfold toldF; rw [if_pos (h0_4 c_7), if_neg hnr, if_neg (show ¬ (16 : Int32) = 0 by decide), if_neg (show ¬ (16 : Int32) = 10 by decide), if_neg (show ¬ (16 : Int32) = 11 by decide), if_neg (show ¬ (16 : Int32) = 12 by decide), if_neg (show ¬ (16 : Int32) = 13 by decide), if_neg (show ¬ (16 : Int32) = 14 by decide), if_neg (show ¬ (16 : Int32) = 15 by decide), if_pos rfl]) dX7_told_200
      · subst e
        refine lv_tableOut (tgt := 201) hx hb dX7_told_37 (by decide) (by decide) ?_
        refine lv_aload_n hx hb dX7_told_201 rfl (lv_at hl 0 rfl) ?_
        refine r_get (T := TX7) (v := .ref ((ad 7) 0)) hx hb hts hi7 hown hK hw 0 rfl rfl 5 (by decide) f_9 rfl dX7_told_202 ?_
        refine r_get (T := TX1) (v := .int (nI ec)) hx hb hts hi1 hown hK hw 13 rfl rfl 1 (by decide) f_11 rfl dX7_told_205 ?_
        exact kr (nI ec) () _ _ _ _ hw (by unfold toldF; rw [if_pos (h0_4 c_7), if_neg hnr, if_neg (show ¬ (17 : Int32) = 0 by decide), if_neg (show ¬ (17 : Int32) = 10 by decide), if_neg (show ¬ (17 : Int32) = 11 by decide), if_neg (show ¬ (17 : Int32) = 12 by decide), if_neg (show ¬ (17 : Int32) = 13 by decide), if_neg (show ¬ (17 : Int32) = 14 by decide), if_neg (show ¬ (17 : Int32) = 15 by decide), if_neg (show ¬ (17 : Int32) = 16 by decide)]) dX7_told_208
    refine lv_icmp_lt (tgt := 36) hx hb dX7_told_15 (by decide) (fun c_15 => ?_) (fun c_15 => ?_)
    · exact kj_15 (fun z => z.1 c_15) _ _ hw ls (lv_sub hl [0, 1] rfl)
    · refine lv_iload_n hx hb dX7_told_18 rfl (lv_at hl 1 rfl) ?_
      refine lv_bipush (v := 9) hx hb dX7_told_19 (by decide) ?_
      refine lv_icmp_gt (tgt := 36) hx hb dX7_told_21 (by decide) (fun c_21 => ?_) (fun c_21 => ?_)
      · exact kj_15 (fun z => z.2 c_21) _ _ hw ls (lv_sub hl [0, 1] rfl)
      · obtain ⟨k, hk1, hk9, ek⟩ := (show inR v 1 9 from ⟨c_15, c_21⟩).nat (a := 1) (b := 9) rfl rfl
        refine lv_aload_n hx hb dX7_told_24 rfl (lv_at hl 0 rfl) ?_
        refine r_get (T := TX7) (v := .ref ((ad 2) 0)) hx hb hts hi7 hown hK hw 0 rfl rfl 1 (by decide) f_7 rfl dX7_told_25 ?_
        refine r_get (T := TX0) (v := .ref ((ad 2) 1)) hx hb hts hi0 hown hK hw 7 rfl rfl 0 (by decide) f_12 rfl dX7_told_28 ?_
        refine lv_iload_n hx hb dX7_told_31 rfl (lv_at hl 1 rfl) ?_
        refine r_top (y := nI k) ek ?_
        refine lv_iconst (v := 1) hx hb dX7_told_32 (by decide) ?_
        refine r_subN hx hb k 1 (by omega) dX7_told_33 ?_
        refine r_iald hx hb hK hw 8 0 rfl rfl (k - 1) (by omega) (by decide) dX7_told_34 ?_
        exact kr (nb (k - 1)) () _ _ _ _ hw (by unfold toldF; rw [if_pos (h0_4 c_7), if_pos (show inR v 1 9 from ⟨c_15, c_21⟩), ek, nI_clamp (by omega)]) dX7_told_35
  · refine lv_ldc hx hb hown f_13 dX7_told_10 ?_
    exact kr (-1000000002) () _ _ _ _ hw (by unfold toldF; rw [if_neg (notR (h1_4 c_7))]) dX7_told_12
set_option maxHeartbeats 4000000 in
set_option maxRecDepth 100000 in
theorem k_X7_yard (l : Launch) (D : va_G) (c4 : Nat → ClassId) (A : Nat → Prop) (Ts : List va_W) (ad : Nat → Nat → Nat) (fp : Int32) (bt : Int32) (nt : Int32) (sd : Int32) (n : Nat) (os : Int32) (kd : Nat → Int32) (ic : Nat → Int32) (br : Nat → Int32) (q : Nat → Yq) (y : Int32) (v : Int32) (hn : n ≤ 12) (hY : yR q n os kd ic br) : Ci l yX7_yard wsX7_yard 1 21 [.ref ((ad 0) 0), .int y, .int v] D (tyA c4) A none ((iG ad fp) :: (wG ((ad 3) 0) ((ad 4) 0) bt nt sd) :: (yG c4 (ad 4) (nI n) os kd ic br) :: Ts) (S := Unit) (fun (r : Int32) (u : Unit) => r = (yardF q n y v)) (fun u => ((iG ad fp) :: (wG ((ad 3) 0) ((ad 4) 0) bt nt sd) :: (yG c4 (ad 4) (nI n) os kd ic br) :: Ts)) := by
  refine cOi (cc := cX7_yard) (maxL := 3) (by decide) rfl (Nat.le_of_ble_eq_true rfl) rfl ?_
  rintro jp je js jm below meth jc ls args R Q H locs hRf hRl ⟨hx, hb, hml, hr, hts, hown, hlocks, hK, hX⟩ hw hl kr
  have hown : js.vm.findClass RX7 = some jm.cls := hown
  have f_0 := hts (.fieldLink RX7 26 "IceSway" "now" "LIceSway$Winter;") (by decide +kernel)
  have f_1 := hts (.fieldLink RX7 118 "IceSway$Winter" "yards" "LIceSway$Yards;") (by decide +kernel)
  have f_2 := hts (.fieldLink RX7 156 "IceSway$Yards" "kind" "[I") (by decide +kernel)
  have f_3 := hts (.fieldLink RX7 159 "IceSway$Yards" "ice" "[I") (by decide +kernel)
  have f_4 := hts (.fieldLink RX7 162 "IceSway$Yards" "broken" "[I") (by decide +kernel)
  have f_5 := hts (.constant RX7 74 (-1000000002)) (by decide +kernel)
  have f_6 := hts (.constant RX7 155 (-1000000001)) (by decide +kernel)
  have hi7 : ∀ w ∈ u_ws RX7 TX7 10, w ∈ wsX7_yard := fun w h => List.mem_cons_of_mem _ (List.mem_append_left _ (List.mem_append_left _ (List.mem_append_right _ h)))
  have hi5 : ∀ w ∈ u_ws RX5 TX5 4, w ∈ wsX7_yard := fun w h => List.mem_cons_of_mem _ (List.mem_append_left _ (List.mem_append_right _ h))
  have hi6 : ∀ w ∈ u_ws RX6 TX6 5, w ∈ wsX7_yard := fun w h => List.mem_cons_of_mem _ (List.mem_append_right _ h)
  refine lv_aload_n hx hb dX7_yard_0 rfl (lv_at hl 0 rfl) ?_
  refine r_get (T := TX7) (v := .ref ((ad 3) 0)) hx hb hts hi7 hown hK hw 0 rfl rfl 2 (by decide) f_0 rfl dX7_yard_1 ?_
  refine r_get (T := TX5) (v := .ref ((ad 4) 0)) hx hb hts hi5 hown hK hw 1 rfl rfl 0 (by decide) f_1 rfl dX7_yard_4 ?_
  refine lv_iload_n hx hb dX7_yard_7 rfl (lv_at hl 1 rfl) ?_
  have hw := hw.m2
  refine c_vi (As := [.int y]) (rest := []) ⟨hx, hb, hml, hown, hts⟩ (k_X6_has l D c4 A ((iG ad fp) :: (wG ((ad 3) 0) ((ad 4) 0) bt nt sd) :: Ts) (ad 4) n os kd ic br y hn) (cwV 1 hts gX7_yard_X6_has rfl rfl rfl (by decide +kernel) (rmv (Nat.le_of_ble_eq_true rfl) (Nat.le_of_ble_eq_true rfl) hRf hRl)) hK trivial hw rfl rfl rfl hl rfl (Nat.le_of_ble_eq_true rfl) ⟨Nat.zero_le _, Nat.zero_le _⟩ dX7_yard_8 (fun r_8 u_8 H locs hpq hw => ?_)
  obtain ⟨h0_8, h1_8⟩ := hpq
  refine lv_if_ne (tgt := 17) hx hb dX7_yard_11 (by decide) (fun c_11 => ?_) (fun c_11 => ?_)
  · obtain ⟨k, hk, ek⟩ := h1_8 c_11
    refine lv_iload_n hx hb dX7_yard_17 rfl (lv_at hl 2 rfl) ?_
    rcases what3 v with e | e | e | ⟨e1, e2, e3⟩
    · subst e
      refine lv_tableIn (tgt := 44) hx hb dX7_yard_18 (by decide) (by decide) rfl (by decide) ?_
      refine lv_aload_n hx hb dX7_yard_44 rfl (lv_at hl 0 rfl) ?_
      refine r_get (T := TX7) (v := .ref ((ad 3) 0)) hx hb hts hi7 hown hK hw 4 rfl rfl 2 (by decide) f_0 rfl dX7_yard_45 ?_
      refine r_get (T := TX5) (v := .ref ((ad 4) 0)) hx hb hts hi5 hown hK hw 5 rfl rfl 0 (by decide) f_1 rfl dX7_yard_48 ?_
      refine r_get (T := TX6) (v := .ref ((ad 4) 1)) hx hb hts hi6 hown hK hw 0 rfl rfl 2 (by decide) f_2 rfl dX7_yard_51 ?_
      refine lv_iload_n hx hb dX7_yard_54 rfl (lv_at hl 1 rfl) ?_
      refine r_top (y := nI k) ek ?_
      refine r_iald hx hb hK hw 1 0 rfl rfl k (by omega) (by decide) dX7_yard_55 ?_
      have hw := hw.m2
      have hw := hw.m2
      exact kr (kd k) () _ _ _ _ hw (by rw [yd_at ek hk hn, if_pos rfl]; exact (hY.rows k hk).2.1) dX7_yard_56
    · subst e
      refine lv_tableIn (tgt := 57) hx hb dX7_yard_18 (by decide) (by decide) rfl (by decide) ?_
      refine lv_aload_n hx hb dX7_yard_57 rfl (lv_at hl 0 rfl) ?_
      refine r_get (T := TX7) (v := .ref ((ad 3) 0)) hx hb hts hi7 hown hK hw 4 rfl rfl 2 (by decide) f_0 rfl dX7_yard_58 ?_
      refine r_get (T := TX5) (v := .ref ((ad 4) 0)) hx hb hts hi5 hown hK hw 5 rfl rfl 0 (by decide) f_1 rfl dX7_yard_61 ?_
      refine r_get (T := TX6) (v := .ref ((ad 4) 2)) hx hb hts hi6 hown hK hw 0 rfl rfl 3 (by decide) f_3 rfl dX7_yard_64 ?_
      refine lv_iload_n hx hb dX7_yard_67 rfl (lv_at hl 1 rfl) ?_
      refine r_top (y := nI k) ek ?_
      refine r_iald hx hb hK hw 2 0 rfl rfl k (by omega) (by decide) dX7_yard_68 ?_
      have hw := hw.m2
      have hw := hw.m2
      exact kr (ic k) () _ _ _ _ hw (by rw [yd_at ek hk hn, if_neg (show ¬ (1 : Int32) = 0 by decide), if_pos rfl]; exact (hY.rows k hk).1) dX7_yard_69
    · subst e
      refine lv_tableIn (tgt := 70) hx hb dX7_yard_18 (by decide) (by decide) rfl (by decide) ?_
      refine lv_aload_n hx hb dX7_yard_70 rfl (lv_at hl 0 rfl) ?_
      refine r_get (T := TX7) (v := .ref ((ad 3) 0)) hx hb hts hi7 hown hK hw 4 rfl rfl 2 (by decide) f_0 rfl dX7_yard_71 ?_
      refine r_get (T := TX5) (v := .ref ((ad 4) 0)) hx hb hts hi5 hown hK hw 5 rfl rfl 0 (by decide) f_1 rfl dX7_yard_74 ?_
      refine r_get (T := TX6) (v := .ref ((ad 4) 3)) hx hb hts hi6 hown hK hw 0 rfl rfl 4 (by decide) f_4 rfl dX7_yard_77 ?_
      refine lv_iload_n hx hb dX7_yard_80 rfl (lv_at hl 1 rfl) ?_
      refine r_top (y := nI k) ek ?_
      refine r_iald hx hb hK hw 3 0 rfl rfl k (by omega) (by decide) dX7_yard_81 ?_
      have hw := hw.m2
      have hw := hw.m2
      exact kr (br k) () _ _ _ _ hw (by rw [yd_at ek hk hn, if_neg (show ¬ (2 : Int32) = 0 by decide), if_neg (show ¬ (2 : Int32) = 1 by decide), if_pos rfl]; exact (hY.rows k hk).2.2) dX7_yard_82
    · refine lv_tableOut (tgt := 83) hx hb dX7_yard_18 (what3_out e1 e2 e3) (by decide) ?_
      refine lv_ldc hx hb hown f_5 dX7_yard_83 ?_
      have hw := hw.m2
      have hw := hw.m2
      exact kr (-1000000002) () _ _ _ _ hw (by rw [yd_at ek hk hn, if_neg e1, if_neg e2, if_neg e3]) dX7_yard_85
  · refine lv_ldc hx hb hown f_6 dX7_yard_14 ?_
    have hw := hw.m2
    have hw := hw.m2
    exact kr (-1000000001) () _ _ _ _ hw (by unfold yardF; rw [if_neg (h0_8 c_11)]) dX7_yard_16
set_option maxHeartbeats 4000000 in
set_option maxRecDepth 100000 in
theorem k_X7_grows (l : Launch) (D : va_G) (c4 : Nat → ClassId) (A : Nat → Prop) (Ts : List va_W) (ad : Nat → Nat → Nat) (fp : Int32) (bt : Int32) (nt : Int32) (sd : Int32) (n : Nat) (os : Int32) (kd : Nat → Int32) (ic : Nat → Int32) (br : Nat → Int32) (q : Nat → Yq) (y : Int32) (c : Int32) (hn : n ≤ 12) (hY : yR q n os kd ic br) : Ci l yX7_grows wsX7_grows 1 24 [.ref ((ad 0) 0), .int y, .int c] D (tyA c4) A none ((iG ad fp) :: (wG ((ad 3) 0) ((ad 4) 0) bt nt sd) :: (yG c4 (ad 4) (nI n) os kd ic br) :: Ts) (S := Unit) (fun (r : Int32) (u : Unit) => r = (growF q n y c)) (fun u => ((iG ad fp) :: (wG ((ad 3) 0) ((ad 4) 0) bt nt sd) :: (yG c4 (ad 4) (nI n) os kd ic br) :: Ts)) := by
  refine cOi (cc := cX7_grows) (maxL := 3) (by decide) rfl (Nat.le_of_ble_eq_true rfl) rfl ?_
  rintro jp je js jm below meth jc ls args R Q H locs hRf hRl ⟨hx, hb, hml, hr, hts, hown, hlocks, hK, hX⟩ hw hl kr
  have hown : js.vm.findClass RX7 = some jm.cls := hown
  have f_0 := hts (.fieldLink RX7 26 "IceSway" "now" "LIceSway$Winter;") (by decide +kernel)
  have f_1 := hts (.fieldLink RX7 118 "IceSway$Winter" "yards" "LIceSway$Yards;") (by decide +kernel)
  have f_2 := hts (.fieldLink RX7 156 "IceSway$Yards" "kind" "[I") (by decide +kernel)
  have f_3 := hts (.fieldLink RX7 159 "IceSway$Yards" "ice" "[I") (by decide +kernel)
  have f_4 := hts (.constant RX7 74 (-1000000002)) (by decide +kernel)
  have f_5 := hts (.constant RX7 155 (-1000000001)) (by decide +kernel)
  have hi7 : ∀ w ∈ u_ws RX7 TX7 10, w ∈ wsX7_grows := fun w h => List.mem_cons_of_mem _ (List.mem_append_left _ (List.mem_append_left _ (List.mem_append_right _ h)))
  have hi5 : ∀ w ∈ u_ws RX5 TX5 4, w ∈ wsX7_grows := fun w h => List.mem_cons_of_mem _ (List.mem_append_left _ (List.mem_append_right _ h))
  have hi6 : ∀ w ∈ u_ws RX6 TX6 5, w ∈ wsX7_grows := fun w h => List.mem_cons_of_mem _ (List.mem_append_right _ h)
  refine lv_aload_n hx hb dX7_grows_0 rfl (lv_at hl 0 rfl) ?_
  refine r_get (T := TX7) (v := .ref ((ad 3) 0)) hx hb hts hi7 hown hK hw 0 rfl rfl 2 (by decide) f_0 rfl dX7_grows_1 ?_
  refine r_get (T := TX5) (v := .ref ((ad 4) 0)) hx hb hts hi5 hown hK hw 1 rfl rfl 0 (by decide) f_1 rfl dX7_grows_4 ?_
  refine lv_iload_n hx hb dX7_grows_7 rfl (lv_at hl 1 rfl) ?_
  have hw := hw.m2
  refine c_vi (As := [.int y]) (rest := []) ⟨hx, hb, hml, hown, hts⟩ (k_X6_has l D c4 A ((iG ad fp) :: (wG ((ad 3) 0) ((ad 4) 0) bt nt sd) :: Ts) (ad 4) n os kd ic br y hn) (cwV 1 hts gX7_grows_X6_has rfl rfl rfl (by decide +kernel) (rmv (Nat.le_of_ble_eq_true rfl) (Nat.le_of_ble_eq_true rfl) hRf hRl)) hK trivial hw rfl rfl rfl hl rfl (Nat.le_of_ble_eq_true rfl) ⟨Nat.zero_le _, Nat.zero_le _⟩ dX7_grows_8 (fun r_8 u_8 H locs hpq hw => ?_)
  obtain ⟨h0_8, h1_8⟩ := hpq
  refine lv_if_ne (tgt := 17) hx hb dX7_grows_11 (by decide) (fun c_11 => ?_) (fun c_11 => ?_)
  · obtain ⟨k, hk, ek⟩ := h1_8 c_11
    refine lv_iload_n hx hb dX7_grows_17 rfl (lv_at hl 2 rfl) ?_
    refine lv_iconst (v := 0) hx hb dX7_grows_18 (by decide) ?_
    refine lv_bipush (v := 30) hx hb dX7_grows_19 (by decide) ?_
    refine c_si (As := [.int c, .int 0, .int 30]) (rest := []) ⟨hx, hb, hml, hown, hts⟩ (k_X7_isOut l D c4 A ((yG c4 (ad 4) (nI n) os kd ic br) :: (iG ad fp) :: (wG ((ad 3) 0) ((ad 4) 0) bt nt sd) :: Ts) c 0 30) (va_cwS 3 hts gX7_grows_X7_isOut rfl rfl rfl (by decide +kernel) (rmv (Nat.le_of_ble_eq_true rfl) (Nat.le_of_ble_eq_true rfl) hRf hRl)) hK trivial hw rfl hl rfl (Nat.le_of_ble_eq_true rfl) ⟨Nat.zero_le _, Nat.zero_le _⟩ dX7_grows_21 (fun r_21 u_21 H locs hpq hw => ?_)
    obtain ⟨h0_21, h1_21, hz_21⟩ := hpq
    refine lv_if_eq (tgt := 30) hx hb dX7_grows_24 (by decide) (fun c_24 => ?_) (fun c_24 => ?_)
    · refine lv_aload_n hx hb dX7_grows_30 rfl (lv_at hl 0 rfl) ?_
      refine r_get (T := TX7) (v := .ref ((ad 3) 0)) hx hb hts hi7 hown hK hw 4 rfl rfl 2 (by decide) f_0 rfl dX7_grows_31 ?_
      refine r_get (T := TX5) (v := .ref ((ad 4) 0)) hx hb hts hi5 hown hK hw 5 rfl rfl 0 (by decide) f_1 rfl dX7_grows_34 ?_
      refine r_get (T := TX6) (v := .ref ((ad 4) 1)) hx hb hts hi6 hown hK hw 0 rfl rfl 2 (by decide) f_2 rfl dX7_grows_37 ?_
      refine lv_iload_n hx hb dX7_grows_40 rfl (lv_at hl 1 rfl) ?_
      refine r_top (y := nI k) ek ?_
      refine r_iald hx hb hK hw 1 0 rfl rfl k (by omega) (by decide) dX7_grows_41 ?_
      refine lv_aload_n hx hb dX7_grows_42 rfl (lv_at hl 0 rfl) ?_
      refine r_get (T := TX7) (v := .ref ((ad 3) 0)) hx hb hts hi7 hown hK hw 4 rfl rfl 2 (by decide) f_0 rfl dX7_grows_43 ?_
      refine r_get (T := TX5) (v := .ref ((ad 4) 0)) hx hb hts hi5 hown hK hw 5 rfl rfl 0 (by decide) f_1 rfl dX7_grows_46 ?_
      refine r_get (T := TX6) (v := .ref ((ad 4) 2)) hx hb hts hi6 hown hK hw 0 rfl rfl 3 (by decide) f_3 rfl dX7_grows_49 ?_
      refine lv_iload_n hx hb dX7_grows_52 rfl (lv_at hl 1 rfl) ?_
      refine r_top (y := nI k) ek ?_
      refine r_iald hx hb hK hw 2 0 rfl rfl k (by omega) (by decide) dX7_grows_53 ?_
      refine lv_iload_n hx hb dX7_grows_54 rfl (lv_at hl 2 rfl) ?_
      refine c_si (As := [.int (kd k), .int (ic k), .int c]) (rest := []) ⟨hx, hb, hml, hown, hts⟩ (k_X6_growth l D c4 A ((yG c4 (ad 4) (nI n) os kd ic br) :: (iG ad fp) :: (wG ((ad 3) 0) ((ad 4) 0) bt nt sd) :: Ts) (kd k) (ic k) c (by rw [(hY.rows k hk).1]; exact (hY.ok hk).1)) (va_cwS 3 hts gX7_grows_X6_growth rfl rfl rfl (by decide +kernel) (rmv (Nat.le_of_ble_eq_true rfl) (Nat.le_of_ble_eq_true rfl) hRf hRl)) hK trivial hw rfl hl rfl (Nat.le_of_ble_eq_true rfl) ⟨Nat.zero_le _, Nat.zero_le _⟩ dX7_grows_55 (fun r_55 u_55 H locs hpq hw => ?_)
      have er_55 := hpq
      subst er_55
      have hw := hw.m2
      have hw := hw.m2
      exact kr (pGrow (kd k) (ic k) c) () _ _ _ _ hw (by rw [gr_at ek hk hn, if_pos (h0_21 c_24), (hY.rows k hk).1, (hY.rows k hk).2.1]) dX7_grows_58
    · refine lv_ldc hx hb hown f_4 dX7_grows_27 ?_
      have hw := hw.m2
      have hw := hw.m2
      exact kr (-1000000002) () _ _ _ _ hw (by rw [gr_at ek hk hn, if_neg (notR (h1_21 c_24))]) dX7_grows_29
  · refine lv_ldc hx hb hown f_5 dX7_grows_14 ?_
    have hw := hw.m2
    have hw := hw.m2
    exact kr (-1000000001) () _ _ _ _ hw (by unfold growF; rw [if_neg (h0_8 c_11)]) dX7_grows_16
set_option maxHeartbeats 4000000 in
set_option maxRecDepth 100000 in
theorem k_X7_night (l : Launch) (D : va_G) (c4 : Nat → ClassId) (A : Nat → Prop) (Ts : List va_W) (ad : Nat → Nat → Nat) (fp : Int32) (bt : Int32) (nt : Int32) (sd : Int32) (n : Nat) (os : Int32) (kd : Nat → Int32) (ic : Nat → Int32) (br : Nat → Int32) (q : Nat → Yq) (c : Int32) (k : Int32) (hn : n ≤ 12) (hY : yR q n os kd ic br) : Ci l yX7_night wsX7_night 4 89 [.ref ((ad 0) 0), .int c, .int k] D (tyA c4) A none ((iG ad fp) :: (wG ((ad 3) 0) ((ad 4) 0) bt nt sd) :: (yG c4 (ad 4) (nI n) os kd ic br) :: Ts) (S := Int32 × (Nat → Int32) × (Nat → Int32) × (Nat → Int32) × Int32) (fun (r : Int32) (u : Int32 × (Nat → Int32) × (Nat → Int32) × (Nat → Int32) × Int32) => ∃ q2, nightF c k nt q n = (r, u.2.2.2.2, q2) ∧ yR q2 n u.1 u.2.1 u.2.2.1 u.2.2.2.1) (fun u => ((iG ad fp) :: (wG ((ad 3) 0) ((ad 4) 0) bt u.2.2.2.2 sd) :: (yG c4 (ad 4) (nI n) u.1 u.2.1 u.2.2.1 u.2.2.2.1) :: Ts)) := by
  refine cOi (cc := cX7_night) (maxL := 4) (by decide) rfl (Nat.le_of_ble_eq_true rfl) rfl ?_
  rintro jp je js jm below meth jc ls args R Q H locs hRf hRl ⟨hx, hb, hml, hr, hts, hown, hlocks, hK, hX⟩ hw hl kr
  have hown : js.vm.findClass RX7 = some jm.cls := hown
  have f_0 := hts (.constant RX7 74 (-1000000002)) (by decide +kernel)
  have f_1 := hts (.fieldLink RX7 26 "IceSway" "now" "LIceSway$Winter;") (by decide +kernel)
  have f_2 := hts (.fieldLink RX7 125 "IceSway$Winter" "nights" "I") (by decide +kernel)
  have f_3 := hts (.fieldLink RX7 118 "IceSway$Winter" "yards" "LIceSway$Yards;") (by decide +kernel)
  have f_4 := hts (.constant RX7 79 (-1000000004)) (by decide +kernel)
  have hi7 : ∀ w ∈ u_ws RX7 TX7 10, w ∈ wsX7_night := fun w h => List.mem_cons_of_mem _ (List.mem_append_left _ (List.mem_append_left _ (List.mem_append_right _ h)))
  have hi5 : ∀ w ∈ u_ws RX5 TX5 4, w ∈ wsX7_night := fun w h => List.mem_cons_of_mem _ (List.mem_append_left _ (List.mem_append_right _ h))
  refine lv_iload_n hx hb dX7_night_0 rfl (lv_at hl 1 rfl) ?_
  refine lv_iconst (v := 0) hx hb dX7_night_1 (by decide) ?_
  refine lv_bipush (v := 30) hx hb dX7_night_2 (by decide) ?_
  refine c_si (As := [.int c, .int 0, .int 30]) (rest := []) ⟨hx, hb, hml, hown, hts⟩ (k_X7_isOut l D c4 A ((iG ad fp) :: (wG ((ad 3) 0) ((ad 4) 0) bt nt sd) :: (yG c4 (ad 4) (nI n) os kd ic br) :: Ts) c 0 30) (va_cwS 3 hts gX7_night_X7_isOut rfl rfl rfl (by decide +kernel) (rmv (Nat.le_of_ble_eq_true rfl) (Nat.le_of_ble_eq_true rfl) hRf hRl)) hK trivial hw rfl hl rfl (Nat.le_of_ble_eq_true rfl) ⟨Nat.zero_le _, Nat.zero_le _⟩ dX7_night_4 (fun r_4 u_4 H locs hpq hw => ?_)
  obtain ⟨h0_4, h1_4, hz_4⟩ := hpq
  refine lv_if_ne (tgt := 20) hx hb dX7_night_7 (by decide) (fun c_7 => ?_) (fun c_7 => ?_)
  · refine lv_ldc hx hb hown f_0 dX7_night_20 ?_
    exact kr (-1000000002) (os, kd, ic, br, nt) _ _ _ _ hw ⟨q, by unfold nightF; rw [if_neg (notR (h1_4 c_7))], hY⟩ dX7_night_22
  · refine lv_iload_n hx hb dX7_night_10 rfl (lv_at hl 2 rfl) ?_
    refine lv_iconst (v := 1) hx hb dX7_night_11 (by decide) ?_
    refine lv_bipush (v := 99) hx hb dX7_night_12 (by decide) ?_
    refine c_si (As := [.int k, .int 1, .int 99]) (rest := []) ⟨hx, hb, hml, hown, hts⟩ (k_X7_isOut l D c4 A ((iG ad fp) :: (wG ((ad 3) 0) ((ad 4) 0) bt nt sd) :: (yG c4 (ad 4) (nI n) os kd ic br) :: Ts) k 1 99) (va_cwS 3 hts gX7_night_X7_isOut rfl rfl rfl (by decide +kernel) (rmv (Nat.le_of_ble_eq_true rfl) (Nat.le_of_ble_eq_true rfl) hRf hRl)) hK trivial hw rfl hl rfl (Nat.le_of_ble_eq_true rfl) ⟨Nat.zero_le _, Nat.zero_le _⟩ dX7_night_14 (fun r_14 u_14 H locs hpq hw => ?_)
    obtain ⟨h0_14, h1_14, hz_14⟩ := hpq
    refine lv_if_eq (tgt := 23) hx hb dX7_night_17 (by decide) (fun c_17 => ?_) (fun c_17 => ?_)
    · refine lv_aload_n hx hb dX7_night_23 rfl (lv_at hl 0 rfl) ?_
      refine r_get (T := TX7) (v := .ref ((ad 3) 0)) hx hb hts hi7 hown hK hw 0 rfl rfl 2 (by decide) f_1 rfl dX7_night_24 ?_
      refine r_get (T := TX5) (v := .int nt) hx hb hts hi5 hown hK hw 1 rfl rfl 2 (by decide) f_2 rfl dX7_night_27 ?_
      refine lv_sipush (v := 9000) hx hb dX7_night_30 (by decide) ?_
      refine lv_icmp_le (tgt := 39) hx hb dX7_night_33 (by decide) (fun c_33 => ?_) (fun c_33 => ?_)
      · obtain ⟨j, hj1, hj9, ej⟩ := (show inR k 1 99 from h0_14 c_17).nat (a := 1) (b := 99) rfl rfl
        refine lv_iconst (v := 0) hx hb dX7_night_39 (by decide) ?_
        refine lv_istore_n (lv' := [(3, .int 0), (0, .ref ((ad 0) 0)), (1, .int c), (2, .int k)]) hx hb dX7_night_40 rfl hl (by decide) rfl (fun ls hl => ?_)
        have loop_41 : ∀ (fuel : Nat) (i : Nat) (os1 : Int32) (kd1 : Nat → Int32) (ic1 : Nat → Int32) (br1 : Nat → Int32), (j - i) < fuel → (i ≤ j) → (yR (fun y => itQ (nightQ c) i (q y)) n os1 kd1 ic1 br1) → ∀ (H : Heap) (locs : List Loc), gW D A js.heap ((iG ad fp) :: (wG ((ad 3) 0) ((ad 4) 0) bt (nt + nI i) sd) :: (yG c4 (ad 4) (nI n) os1 kd1 ic1 br1) :: Ts) H locs → ∀ (ls : Array Slot), lv_has ls 4 [(3, .int (nI i)), (0, .ref ((ad 0) 0)), (1, .int c), (2, .int k)] → W jp l je R js jm args below meth jc H locs 0 0 Q (F0 jm 41 ls []) := by
          intro fuel
          induction fuel with
          | zero => intro i os1 kd1 ic1 br1 hm; exact absurd hm (Nat.not_lt_zero _)
          | succ fuel ih_41 =>
            intro i os1 kd1 ic1 br1 hm_41 hi hYi H locs hw ls hl
            refine lv_iload_n hx hb dX7_night_41 rfl (lv_at hl 0 rfl) ?_
            refine lv_iload_n hx hb dX7_night_42 rfl (lv_at hl 3 rfl) ?_
            refine r_top (y := nI j) ej ?_
            refine r_cge hx hb i j (by omega) (by omega) (tgt := 60) dX7_night_43 (by decide) (fun c_43 => ?_) (fun c_43 => ?_)
            · refine lv_aload_n hx hb dX7_night_60 rfl (lv_at hl 1 rfl) ?_
              refine r_get (T := TX7) (v := .ref ((ad 3) 0)) hx hb hts hi7 hown hK hw 0 rfl rfl 2 (by decide) f_1 rfl dX7_night_61 ?_
              refine r_get (T := TX5) (v := .ref ((ad 4) 0)) hx hb hts hi5 hown hK hw 1 rfl rfl 0 (by decide) f_3 rfl dX7_night_64 ?_
              have hw := hw.m2
              refine c_vi (As := []) (rest := []) ⟨hx, hb, hml, hown, hts⟩ (k_X6_iceTogether l D c4 A ((iG ad fp) :: (wG ((ad 3) 0) ((ad 4) 0) bt (nt + nI i) sd) :: Ts) (ad 4) n os1 kd1 ic1 br1 (fun y => itQ (nightQ c) i (q y)) hn hYi) (cwV 0 hts gX7_night_X6_iceTogether rfl rfl rfl (by decide +kernel) (rmv (Nat.le_of_ble_eq_true rfl) (Nat.le_of_ble_eq_true rfl) hRf hRl)) hK trivial hw rfl rfl rfl hl rfl (Nat.le_of_ble_eq_true rfl) ⟨Nat.zero_le _, Nat.zero_le _⟩ dX7_night_67 (fun r_67 u_67 H locs hpq hw => ?_)
              have er_67 := hpq
              subst er_67
              have hw := hw.m2
              have hw := hw.m2
              exact kr (sumI (fun y => itQ (nightQ c) i (q y)) n) (os1, kd1, ic1, br1, (nt + nI i)) _ _ _ _ hw ⟨_, ntF_ok (h0_4 c_7) (h0_14 c_17) c_33 ej hj9 (by omega), hYi⟩ dX7_night_70
            · refine lv_aload_n hx hb dX7_night_46 rfl (lv_at hl 1 rfl) ?_
              refine r_get (T := TX7) (v := .ref ((ad 3) 0)) hx hb hts hi7 hown hK hw 0 rfl rfl 2 (by decide) f_1 rfl dX7_night_47 ?_
              refine lv_iload_n hx hb dX7_night_50 rfl (lv_at hl 2 rfl) ?_
              have hw := hw.m2
              have hw := hw.m2
              refine c_vv (As := [.int c]) (rest := []) ⟨hx, hb, hml, hown, hts⟩ (k_X5_passCold l D c4 A ((iG ad fp) :: Ts) ((ad 3) 0) bt (nt + nI i) sd (ad 4) n os1 kd1 ic1 br1 (fun y => itQ (nightQ c) i (q y)) c hn hYi (coldI (h0_4 c_7))) (cwV 1 hts gX7_night_X5_passCold rfl rfl rfl (by decide +kernel) (rmv (Nat.le_of_ble_eq_true rfl) (Nat.le_of_ble_eq_true rfl) hRf hRl)) hK trivial hw rfl rfl rfl hl rfl (Nat.le_of_ble_eq_true rfl) ⟨Nat.zero_le _, Nat.zero_le _⟩ dX7_night_51 (fun u_51 H locs hpq hw => ?_)
              obtain ⟨os2_51, kd2_51, ic2_51, br2_51⟩ := u_51
              have hw : gW D A js.heap ((wG ((ad 3) 0) ((ad 4) 0) bt ((nt + nI i) + 1) sd) :: (yG c4 (ad 4) (nI n) os2_51 kd2_51 ic2_51 br2_51) :: (iG ad fp) :: Ts) H locs := hw
              have hY_51 := hpq
              have hY_51 : yR (fun y => nightQ c ((fun y => itQ (nightQ c) i (q y)) y)) n os2_51 kd2_51 ic2_51 br2_51 := hY_51
              refine lv_iinc (v := (nI (i + 1))) (lv' := [(3, .int (nI (i + 1))), (0, .ref ((ad 0) 0)), (1, .int c), (2, .int k)]) hx hb dX7_night_54 hl (k := 0) rfl (nI_add _ _) (by decide) rfl (fun ls hl => ?_)
              refine lv_goto (tgt := 41) hx hb dX7_night_57 (by decide) ?_
              have hw := hw.m1
              have hw := hw.m1
              have hw := hw.m2
              rw [show ((nt + nI i) + 1) = (nt + nI (i + 1)) from (int_add1 nt i)] at hw
              exact ih_41 (i + 1) os2_51 kd2_51 ic2_51 br2_51 (by omega) (by omega) hY_51 _ _ hw ls (lv_sub hl [0, 1, 2, 3] rfl)
        rw [show nt = (nt + nI 0) from (add_n0 nt)] at hw
        exact loop_41 ((j - 0) + 1) 0 os kd ic br (Nat.lt_succ_self _) (Nat.zero_le _) hY _ _ hw ls (lv_sub hl [0, 1, 2, 3] rfl)
      · refine lv_ldc hx hb hown f_4 dX7_night_36 ?_
        exact kr (-1000000004) (os, kd, ic, br, nt) _ _ _ _ hw ⟨q, by unfold nightF; rw [if_pos (h0_4 c_7), if_pos (h0_14 c_17), if_neg c_33], hY⟩ dX7_night_38
    · refine lv_ldc hx hb hown f_0 dX7_night_20 ?_
      exact kr (-1000000002) (os, kd, ic, br, nt) _ _ _ _ hw ⟨q, by unfold nightF; rw [if_pos (h0_4 c_7), if_neg (notR (h1_14 c_17))], hY⟩ dX7_night_22
set_option maxHeartbeats 4000000 in
set_option maxRecDepth 100000 in
theorem k_X7_thaw (l : Launch) (D : va_G) (c4 : Nat → ClassId) (A : Nat → Prop) (Ts : List va_W) (ad : Nat → Nat → Nat) (fp : Int32) (bt : Int32) (nt : Int32) (sd : Int32) (n : Nat) (os : Int32) (kd : Nat → Int32) (ic : Nat → Int32) (br : Nat → Int32) (q : Nat → Yq) (d : Int32) (hn : n ≤ 12) (hY : yR q n os kd ic br) : Ci l yX7_thaw wsX7_thaw 4 85 [.ref ((ad 0) 0), .int d] D (tyA c4) A none ((iG ad fp) :: (wG ((ad 3) 0) ((ad 4) 0) bt nt sd) :: (yG c4 (ad 4) (nI n) os kd ic br) :: Ts) (S := Int32 × (Nat → Int32) × (Nat → Int32) × (Nat → Int32) × Int32) (fun (r : Int32) (u : Int32 × (Nat → Int32) × (Nat → Int32) × (Nat → Int32) × Int32) => ∃ q2, thawF d nt q n = (r, u.2.2.2.2, q2) ∧ yR q2 n u.1 u.2.1 u.2.2.1 u.2.2.2.1) (fun u => ((iG ad fp) :: (wG ((ad 3) 0) ((ad 4) 0) bt u.2.2.2.2 sd) :: (yG c4 (ad 4) (nI n) u.1 u.2.1 u.2.2.1 u.2.2.2.1) :: Ts)) := by
  refine cOi (cc := cX7_thaw) (maxL := 2) (by decide) rfl (Nat.le_of_ble_eq_true rfl) rfl ?_
  rintro jp je js jm below meth jc ls args R Q H locs hRf hRl ⟨hx, hb, hml, hr, hts, hown, hlocks, hK, hX⟩ hw hl kr
  have hown : js.vm.findClass RX7 = some jm.cls := hown
  have f_0 := hts (.fieldLink RX7 26 "IceSway" "now" "LIceSway$Winter;") (by decide +kernel)
  have f_1 := hts (.fieldLink RX7 125 "IceSway$Winter" "nights" "I") (by decide +kernel)
  have f_2 := hts (.fieldLink RX7 118 "IceSway$Winter" "yards" "LIceSway$Yards;") (by decide +kernel)
  have f_3 := hts (.constant RX7 79 (-1000000004)) (by decide +kernel)
  have f_4 := hts (.constant RX7 74 (-1000000002)) (by decide +kernel)
  have hi7 : ∀ w ∈ u_ws RX7 TX7 10, w ∈ wsX7_thaw := fun w h => List.mem_cons_of_mem _ (List.mem_append_left _ (List.mem_append_left _ (List.mem_append_right _ h)))
  have hi5 : ∀ w ∈ u_ws RX5 TX5 4, w ∈ wsX7_thaw := fun w h => List.mem_cons_of_mem _ (List.mem_append_left _ (List.mem_append_right _ h))
  refine lv_iload_n hx hb dX7_thaw_0 rfl (lv_at hl 1 rfl) ?_
  refine lv_iconst (v := 0) hx hb dX7_thaw_1 (by decide) ?_
  refine lv_bipush (v := 60) hx hb dX7_thaw_2 (by decide) ?_
  refine c_si (As := [.int d, .int 0, .int 60]) (rest := []) ⟨hx, hb, hml, hown, hts⟩ (k_X7_isOut l D c4 A ((iG ad fp) :: (wG ((ad 3) 0) ((ad 4) 0) bt nt sd) :: (yG c4 (ad 4) (nI n) os kd ic br) :: Ts) d 0 60) (va_cwS 3 hts gX7_thaw_X7_isOut rfl rfl rfl (by decide +kernel) (rmv (Nat.le_of_ble_eq_true rfl) (Nat.le_of_ble_eq_true rfl) hRf hRl)) hK trivial hw rfl hl rfl (Nat.le_of_ble_eq_true rfl) ⟨Nat.zero_le _, Nat.zero_le _⟩ dX7_thaw_4 (fun r_4 u_4 H locs hpq hw => ?_)
  obtain ⟨h0_4, h1_4, hz_4⟩ := hpq
  refine lv_if_eq (tgt := 13) hx hb dX7_thaw_7 (by decide) (fun c_7 => ?_) (fun c_7 => ?_)
  · refine lv_aload_n hx hb dX7_thaw_13 rfl (lv_at hl 0 rfl) ?_
    refine r_get (T := TX7) (v := .ref ((ad 3) 0)) hx hb hts hi7 hown hK hw 0 rfl rfl 2 (by decide) f_0 rfl dX7_thaw_14 ?_
    refine r_get (T := TX5) (v := .int nt) hx hb hts hi5 hown hK hw 1 rfl rfl 2 (by decide) f_1 rfl dX7_thaw_17 ?_
    refine lv_sipush (v := 9000) hx hb dX7_thaw_20 (by decide) ?_
    refine lv_icmp_le (tgt := 29) hx hb dX7_thaw_23 (by decide) (fun c_23 => ?_) (fun c_23 => ?_)
    · refine lv_aload_n hx hb dX7_thaw_29 rfl (lv_at hl 0 rfl) ?_
      refine r_get (T := TX7) (v := .ref ((ad 3) 0)) hx hb hts hi7 hown hK hw 0 rfl rfl 2 (by decide) f_0 rfl dX7_thaw_30 ?_
      refine lv_iload_n hx hb dX7_thaw_33 rfl (lv_at hl 1 rfl) ?_
      have hw := hw.m2
      have hw := hw.m2
      refine c_vv (As := [.int d]) (rest := []) ⟨hx, hb, hml, hown, hts⟩ (k_X5_passThaw l D c4 A ((iG ad fp) :: Ts) ((ad 3) 0) bt nt sd (ad 4) n os kd ic br q d hn hY (thawI (h0_4 c_7))) (cwV 1 hts gX7_thaw_X5_passThaw rfl rfl rfl (by decide +kernel) (rmv (Nat.le_of_ble_eq_true rfl) (Nat.le_of_ble_eq_true rfl) hRf hRl)) hK trivial hw rfl rfl rfl hl rfl (Nat.le_of_ble_eq_true rfl) ⟨Nat.zero_le _, Nat.zero_le _⟩ dX7_thaw_34 (fun u_34 H locs hpq hw => ?_)
      obtain ⟨os2_34, kd2_34, ic2_34, br2_34⟩ := u_34
      have hw : gW D A js.heap ((wG ((ad 3) 0) ((ad 4) 0) bt (nt + 1) sd) :: (yG c4 (ad 4) (nI n) os2_34 kd2_34 ic2_34 br2_34) :: (iG ad fp) :: Ts) H locs := hw
      have hY_34 := hpq
      have hY_34 : yR (fun y => thawQ d (q y)) n os2_34 kd2_34 ic2_34 br2_34 := hY_34
      refine lv_aload_n hx hb dX7_thaw_37 rfl (lv_at hl 0 rfl) ?_
      refine r_get (T := TX7) (v := .ref ((ad 3) 0)) hx hb hts hi7 hown hK hw 5 rfl rfl 2 (by decide) f_0 rfl dX7_thaw_38 ?_
      refine r_get (T := TX5) (v := .ref ((ad 4) 0)) hx hb hts hi5 hown hK hw 0 rfl rfl 0 (by decide) f_2 rfl dX7_thaw_41 ?_
      have hw := hw.m1
      refine c_vi (As := []) (rest := []) ⟨hx, hb, hml, hown, hts⟩ (k_X6_iceTogether l D c4 A ((wG ((ad 3) 0) ((ad 4) 0) bt (nt + 1) sd) :: (iG ad fp) :: Ts) (ad 4) n os2_34 kd2_34 ic2_34 br2_34 (fun y => thawQ d (q y)) hn hY_34) (cwV 0 hts gX7_thaw_X6_iceTogether rfl rfl rfl (by decide +kernel) (rmv (Nat.le_of_ble_eq_true rfl) (Nat.le_of_ble_eq_true rfl) hRf hRl)) hK trivial hw rfl rfl rfl hl rfl (Nat.le_of_ble_eq_true rfl) ⟨Nat.zero_le _, Nat.zero_le _⟩ dX7_thaw_44 (fun r_44 u_44 H locs hpq hw => ?_)
      have er_44 := hpq
      subst er_44
      have hw := hw.m1
      have hw := hw.m2
      exact kr (sumI (fun y => thawQ d (q y)) n) (os2_34, kd2_34, ic2_34, br2_34, (nt + 1)) _ _ _ _ hw ⟨_, by unfold thawF; rw [if_pos (h0_4 c_7), if_pos c_23], hY_34⟩ dX7_thaw_47
    · refine lv_ldc hx hb hown f_3 dX7_thaw_26 ?_
      exact kr (-1000000004) (os, kd, ic, br, nt) _ _ _ _ hw ⟨q, by unfold thawF; rw [if_pos (h0_4 c_7), if_neg c_23], hY⟩ dX7_thaw_28
  · refine lv_ldc hx hb hown f_4 dX7_thaw_10 ?_
    exact kr (-1000000002) (os, kd, ic, br, nt) _ _ _ _ hw ⟨q, by unfold thawF; rw [if_neg (notR (h1_4 c_7))], hY⟩ dX7_thaw_12
set_option maxHeartbeats 4000000 in
set_option maxRecDepth 100000 in
theorem k_X7_drift (l : Launch) (D : va_G) (c4 : Nat → ClassId) (A : Nat → Prop) (Ts : List va_W) (ad : Nat → Nat → Nat) (fp : Int32) (bt : Int32) (nt : Int32) (sd : Int32) (n : Nat) (os : Int32) (kd : Nat → Int32) (ic : Nat → Int32) (br : Nat → Int32) (q : Nat → Yq) (k : Int32) (hn : n ≤ 12) (hY : yR q n os kd ic br) : Ci l yX7_drift wsX7_drift 5 109 [.ref ((ad 0) 0), .int k] D (tyA c4) A none ((iG ad fp) :: (wG ((ad 3) 0) ((ad 4) 0) bt nt sd) :: (yG c4 (ad 4) (nI n) os kd ic br) :: Ts) (S := Int32 × (Nat → Int32) × (Nat → Int32) × (Nat → Int32) × Int32 × Int32) (fun (r : Int32) (u : Int32 × (Nat → Int32) × (Nat → Int32) × (Nat → Int32) × Int32 × Int32) => ∃ q2, driftF k nt sd q n = (r, u.2.2.2.2.1, u.2.2.2.2.2, q2) ∧ yR q2 n u.1 u.2.1 u.2.2.1 u.2.2.2.1) (fun u => ((iG ad fp) :: (wG ((ad 3) 0) ((ad 4) 0) bt u.2.2.2.2.1 u.2.2.2.2.2) :: (yG c4 (ad 4) (nI n) u.1 u.2.1 u.2.2.1 u.2.2.2.1) :: Ts)) := by
  refine cOi (cc := cX7_drift) (maxL := 3) (by decide) rfl (Nat.le_of_ble_eq_true rfl) rfl ?_
  rintro jp je js jm below meth jc ls args R Q H locs hRf hRl ⟨hx, hb, hml, hr, hts, hown, hlocks, hK, hX⟩ hw hl kr
  have hown : js.vm.findClass RX7 = some jm.cls := hown
  have f_0 := hts (.fieldLink RX7 26 "IceSway" "now" "LIceSway$Winter;") (by decide +kernel)
  have f_1 := hts (.fieldLink RX7 125 "IceSway$Winter" "nights" "I") (by decide +kernel)
  have f_2 := hts (.fieldLink RX7 118 "IceSway$Winter" "yards" "LIceSway$Yards;") (by decide +kernel)
  have f_3 := hts (.constant RX7 79 (-1000000004)) (by decide +kernel)
  have f_4 := hts (.constant RX7 74 (-1000000002)) (by decide +kernel)
  have hi7 : ∀ w ∈ u_ws RX7 TX7 10, w ∈ wsX7_drift := fun w h => List.mem_cons_of_mem _ (List.mem_append_left _ (List.mem_append_left _ (List.mem_append_right _ h)))
  have hi5 : ∀ w ∈ u_ws RX5 TX5 4, w ∈ wsX7_drift := fun w h => List.mem_cons_of_mem _ (List.mem_append_left _ (List.mem_append_right _ h))
  refine lv_iload_n hx hb dX7_drift_0 rfl (lv_at hl 1 rfl) ?_
  refine lv_iconst (v := 1) hx hb dX7_drift_1 (by decide) ?_
  refine lv_bipush (v := 99) hx hb dX7_drift_2 (by decide) ?_
  refine c_si (As := [.int k, .int 1, .int 99]) (rest := []) ⟨hx, hb, hml, hown, hts⟩ (k_X7_isOut l D c4 A ((iG ad fp) :: (wG ((ad 3) 0) ((ad 4) 0) bt nt sd) :: (yG c4 (ad 4) (nI n) os kd ic br) :: Ts) k 1 99) (va_cwS 3 hts gX7_drift_X7_isOut rfl rfl rfl (by decide +kernel) (rmv (Nat.le_of_ble_eq_true rfl) (Nat.le_of_ble_eq_true rfl) hRf hRl)) hK trivial hw rfl hl rfl (Nat.le_of_ble_eq_true rfl) ⟨Nat.zero_le _, Nat.zero_le _⟩ dX7_drift_4 (fun r_4 u_4 H locs hpq hw => ?_)
  obtain ⟨h0_4, h1_4, hz_4⟩ := hpq
  refine lv_if_eq (tgt := 13) hx hb dX7_drift_7 (by decide) (fun c_7 => ?_) (fun c_7 => ?_)
  · refine lv_aload_n hx hb dX7_drift_13 rfl (lv_at hl 0 rfl) ?_
    refine r_get (T := TX7) (v := .ref ((ad 3) 0)) hx hb hts hi7 hown hK hw 0 rfl rfl 2 (by decide) f_0 rfl dX7_drift_14 ?_
    refine r_get (T := TX5) (v := .int nt) hx hb hts hi5 hown hK hw 1 rfl rfl 2 (by decide) f_1 rfl dX7_drift_17 ?_
    refine lv_sipush (v := 9000) hx hb dX7_drift_20 (by decide) ?_
    refine lv_icmp_le (tgt := 29) hx hb dX7_drift_23 (by decide) (fun c_23 => ?_) (fun c_23 => ?_)
    · obtain ⟨j, hj1, hj9, ej⟩ := (show inR k 1 99 from h0_4 c_7).nat (a := 1) (b := 99) rfl rfl
      refine lv_iconst (v := 0) hx hb dX7_drift_29 (by decide) ?_
      refine lv_istore_n (lv' := [(2, .int 0), (0, .ref ((ad 0) 0)), (1, .int k)]) hx hb dX7_drift_30 rfl hl (by decide) rfl (fun ls hl => ?_)
      have loop_31 : ∀ (fuel : Nat) (i : Nat) (os1 : Int32) (kd1 : Nat → Int32) (ic1 : Nat → Int32) (br1 : Nat → Int32), (j - i) < fuel → (i ≤ j) → (yR (fun y => drI sd i (q y)) n os1 kd1 ic1 br1) → ∀ (H : Heap) (locs : List Loc), gW D A js.heap ((iG ad fp) :: (wG ((ad 3) 0) ((ad 4) 0) bt (nt + nI i) (sdI sd i)) :: (yG c4 (ad 4) (nI n) os1 kd1 ic1 br1) :: Ts) H locs → ∀ (ls : Array Slot), lv_has ls 3 [(2, .int (nI i)), (0, .ref ((ad 0) 0)), (1, .int k)] → W jp l je R js jm args below meth jc H locs 0 0 Q (F0 jm 31 ls []) := by
        intro fuel
        induction fuel with
        | zero => intro i os1 kd1 ic1 br1 hm; exact absurd hm (Nat.not_lt_zero _)
        | succ fuel ih_31 =>
          intro i os1 kd1 ic1 br1 hm_31 hi hYi H locs hw ls hl
          refine lv_iload_n hx hb dX7_drift_31 rfl (lv_at hl 0 rfl) ?_
          refine lv_iload_n hx hb dX7_drift_32 rfl (lv_at hl 2 rfl) ?_
          refine r_top (y := nI j) ej ?_
          refine r_cge hx hb i j (by omega) (by omega) (tgt := 49) dX7_drift_33 (by decide) (fun c_33 => ?_) (fun c_33 => ?_)
          · refine lv_aload_n hx hb dX7_drift_49 rfl (lv_at hl 1 rfl) ?_
            refine r_get (T := TX7) (v := .ref ((ad 3) 0)) hx hb hts hi7 hown hK hw 0 rfl rfl 2 (by decide) f_0 rfl dX7_drift_50 ?_
            refine r_get (T := TX5) (v := .ref ((ad 4) 0)) hx hb hts hi5 hown hK hw 1 rfl rfl 0 (by decide) f_2 rfl dX7_drift_53 ?_
            have hw := hw.m2
            refine c_vi (As := []) (rest := []) ⟨hx, hb, hml, hown, hts⟩ (k_X6_iceTogether l D c4 A ((iG ad fp) :: (wG ((ad 3) 0) ((ad 4) 0) bt (nt + nI i) (sdI sd i)) :: Ts) (ad 4) n os1 kd1 ic1 br1 (fun y => drI sd i (q y)) hn hYi) (cwV 0 hts gX7_drift_X6_iceTogether rfl rfl rfl (by decide +kernel) (rmv (Nat.le_of_ble_eq_true rfl) (Nat.le_of_ble_eq_true rfl) hRf hRl)) hK trivial hw rfl rfl rfl hl rfl (Nat.le_of_ble_eq_true rfl) ⟨Nat.zero_le _, Nat.zero_le _⟩ dX7_drift_56 (fun r_56 u_56 H locs hpq hw => ?_)
            have er_56 := hpq
            subst er_56
            have hw := hw.m2
            have hw := hw.m2
            exact kr (sumI (fun y => drI sd i (q y)) n) (os1, kd1, ic1, br1, (nt + nI i), (sdI sd i)) _ _ _ _ hw ⟨_, df_ok (h0_4 c_7) c_23 ej hj9 (by omega), hYi⟩ dX7_drift_59
          · refine lv_aload_n hx hb dX7_drift_36 rfl (lv_at hl 1 rfl) ?_
            refine r_get (T := TX7) (v := .ref ((ad 3) 0)) hx hb hts hi7 hown hK hw 0 rfl rfl 2 (by decide) f_0 rfl dX7_drift_37 ?_
            have hw := hw.m2
            have hw := hw.m2
            refine c_vv (As := []) (rest := []) ⟨hx, hb, hml, hown, hts⟩ (k_X5_passByDraws l D c4 A ((iG ad fp) :: Ts) ((ad 3) 0) bt (nt + nI i) (sdI sd i) (ad 4) n os1 kd1 ic1 br1 (fun y => drI sd i (q y)) hn hYi) (cwV 0 hts gX7_drift_X5_passByDraws rfl rfl rfl (by decide +kernel) (rmv (Nat.le_of_ble_eq_true rfl) (Nat.le_of_ble_eq_true rfl) hRf hRl)) hK trivial hw rfl rfl rfl hl rfl (Nat.le_of_ble_eq_true rfl) ⟨Nat.zero_le _, Nat.zero_le _⟩ dX7_drift_40 (fun u_40 H locs hpq hw => ?_)
            obtain ⟨os2_40, kd2_40, ic2_40, br2_40⟩ := u_40
            have hw : gW D A js.heap ((wG ((ad 3) 0) ((ad 4) 0) bt ((nt + nI i) + 1) (drawS (drawS (sdI sd i)))) :: (yG c4 (ad 4) (nI n) os2_40 kd2_40 ic2_40 br2_40) :: (iG ad fp) :: Ts) H locs := hw
            have hY_40 := hpq
            have hY_40 : yR (fun y => driftQ (sdI sd i) ((fun y => drI sd i (q y)) y)) n os2_40 kd2_40 ic2_40 br2_40 := hY_40
            refine lv_iinc (v := (nI (i + 1))) (lv' := [(2, .int (nI (i + 1))), (0, .ref ((ad 0) 0)), (1, .int k)]) hx hb dX7_drift_43 hl (k := 0) rfl (nI_add _ _) (by decide) rfl (fun ls hl => ?_)
            refine lv_goto (tgt := 31) hx hb dX7_drift_46 (by decide) ?_
            have hw := hw.m1
            have hw := hw.m1
            have hw := hw.m2
            rw [show ((nt + nI i) + 1) = (nt + nI (i + 1)) from (int_add1 nt i)] at hw
            exact ih_31 (i + 1) os2_40 kd2_40 ic2_40 br2_40 (by omega) (by omega) hY_40 _ _ hw ls (lv_sub hl [0, 1, 2] rfl)
      rw [show nt = (nt + nI 0) from (add_n0 nt)] at hw
      exact loop_31 ((j - 0) + 1) 0 os kd ic br (Nat.lt_succ_self _) (Nat.zero_le _) hY _ _ hw ls (lv_sub hl [0, 1, 2] rfl)
    · refine lv_ldc hx hb hown f_3 dX7_drift_26 ?_
      exact kr (-1000000004) (os, kd, ic, br, nt, sd) _ _ _ _ hw ⟨q, by unfold driftF; rw [if_pos (h0_4 c_7), if_neg c_23], hY⟩ dX7_drift_28
  · refine lv_ldc hx hb hown f_4 dX7_drift_10 ?_
    exact kr (-1000000002) (os, kd, ic, br, nt, sd) _ _ _ _ hw ⟨q, by unfold driftF; rw [if_neg (notR (h1_4 c_7))], hY⟩ dX7_drift_12
set_option maxHeartbeats 4000000 in
set_option maxRecDepth 100000 in
theorem k_X7_beat (l : Launch) (D : va_G) (c4 : Nat → ClassId) (A : Nat → Prop) (Ts : List va_W) (ad : Nat → Nat → Nat) (fp : Int32) (bt : Int32) (nt : Int32) (sd : Int32) (nb : Nat → Int32) (b : Int32) : Ci l yX7_beat wsX7_beat 4 79 [.ref ((ad 0) 0), .int b] D (tyA c4) A none ((iG ad fp) :: (wG ((ad 3) 0) ((ad 4) 0) bt nt sd) :: (bG c4 (ad 2) nb) :: Ts) (S := Int32) (fun (r : Int32) (u : Int32) => (r, u) = beatF b bt nb) (fun u => ((iG ad fp) :: (wG ((ad 3) 0) ((ad 4) 0) u nt sd) :: (bG c4 (ad 2) nb) :: Ts)) := by
  refine cOi (cc := cX7_beat) (maxL := 2) (by decide) rfl (Nat.le_of_ble_eq_true rfl) rfl ?_
  rintro jp je js jm below meth jc ls args R Q H locs hRf hRl ⟨hx, hb, hml, hr, hts, hown, hlocks, hK, hX⟩ hw hl kr
  have hown : js.vm.findClass RX7 = some jm.cls := hown
  have f_0 := hts (.fieldLink RX7 26 "IceSway" "now" "LIceSway$Winter;") (by decide +kernel)
  have f_1 := hts (.fieldLink RX7 128 "IceSway$Winter" "beat" "I") (by decide +kernel)
  have f_2 := hts (.constant RX7 74 (-1000000002)) (by decide +kernel)
  have hi7 : ∀ w ∈ u_ws RX7 TX7 10, w ∈ wsX7_beat := fun w h => List.mem_cons_of_mem _ (List.mem_append_left _ (List.mem_append_left _ (List.mem_append_right _ h)))
  have hi5 : ∀ w ∈ u_ws RX5 TX5 4, w ∈ wsX7_beat := fun w h => List.mem_cons_of_mem _ (List.mem_append_left _ (List.mem_append_right _ h))
  refine lv_iload_n hx hb dX7_beat_0 rfl (lv_at hl 1 rfl) ?_
  refine lv_iconst (v := 1) hx hb dX7_beat_1 (by decide) ?_
  refine lv_bipush (v := 9) hx hb dX7_beat_2 (by decide) ?_
  refine c_si (As := [.int b, .int 1, .int 9]) (rest := []) ⟨hx, hb, hml, hown, hts⟩ (k_X7_isOut l D c4 A ((iG ad fp) :: (wG ((ad 3) 0) ((ad 4) 0) bt nt sd) :: (bG c4 (ad 2) nb) :: Ts) b 1 9) (va_cwS 3 hts gX7_beat_X7_isOut rfl rfl rfl (by decide +kernel) (rmv (Nat.le_of_ble_eq_true rfl) (Nat.le_of_ble_eq_true rfl) hRf hRl)) hK trivial hw rfl hl rfl (Nat.le_of_ble_eq_true rfl) ⟨Nat.zero_le _, Nat.zero_le _⟩ dX7_beat_4 (fun r_4 u_4 H locs hpq hw => ?_)
  obtain ⟨h0_4, h1_4, hz_4⟩ := hpq
  refine lv_if_eq (tgt := 13) hx hb dX7_beat_7 (by decide) (fun c_7 => ?_) (fun c_7 => ?_)
  · refine lv_aload_n hx hb dX7_beat_13 rfl (lv_at hl 0 rfl) ?_
    refine r_get (T := TX7) (v := .ref ((ad 3) 0)) hx hb hts hi7 hown hK hw 0 rfl rfl 2 (by decide) f_0 rfl dX7_beat_14 ?_
    refine lv_iload_n hx hb dX7_beat_17 rfl (lv_at hl 1 rfl) ?_
    refine r_put (T := TX5) (G' := ((iG ad fp) :: (wG ((ad 3) 0) ((ad 4) 0) b nt sd) :: (bG c4 (ad 2) nb) :: Ts)) hx hb hts hi5 tyX5 tyX5_ok nmX5 hown hK hw 1 rfl rfl 1 (by decide) f_1 rfl rfl (Nat.le_of_ble_eq_true rfl) rfl dX7_beat_18 (fun H locs hw => ?_)
    refine lv_aload_n hx hb dX7_beat_21 rfl (lv_at hl 0 rfl) ?_
    have hw := hw.m2
    have hw := hw.m2
    have hw := hw.m2
    refine c_vi (As := []) (rest := []) ⟨hx, hb, hml, hown, hts⟩ (k_X7_forceNow l D c4 A Ts ad fp b nt sd nb) (cwV 0 hts gX7_beat_X7_forceNow rfl rfl rfl (by decide +kernel) (rmv (Nat.le_of_ble_eq_true rfl) (Nat.le_of_ble_eq_true rfl) hRf hRl)) hK trivial hw rfl rfl rfl hl rfl (Nat.le_of_ble_eq_true rfl) ⟨Nat.zero_le _, Nat.zero_le _⟩ dX7_beat_22 (fun r_22 u_22 H locs hpq hw => ?_)
    have er_22 := hpq
    subst er_22
    exact kr (pForce nb b) (b) _ _ _ _ hw (by unfold beatF; rw [if_pos (h0_4 c_7)]) dX7_beat_25
  · refine lv_ldc hx hb hown f_2 dX7_beat_10 ?_
    exact kr (-1000000002) (bt) _ _ _ _ hw (by unfold beatF; rw [if_neg (notR (h1_4 c_7))]) dX7_beat_12
set_option maxHeartbeats 4000000 in
set_option maxRecDepth 100000 in
theorem k_X7_out (l : Launch) (D : va_G) (c4 : Nat → ClassId) (A : Nat → Prop) (Ts : List va_W) (ad : Nat → Nat → Nat) (fp : Int32) (bt : Int32) (nt : Int32) (sd : Int32) (nb : Nat → Int32) (n : Nat) (os : Int32) (kd : Nat → Int32) (ic : Nat → Int32) (br : Nat → Int32) (q : Nat → Yq) (bh : Int32) (mi : Int32) (fb : Int32) (ba : Nat → Int32) (t : Int32) (hn : n ≤ 12) (hY : yR q n os kd ic br) (htl : tlOk nb) : Ci l yX7_out wsX7_out 5 100 [.ref ((ad 0) 0), .int t] D (tyA c4) A none ((iG ad fp) :: (wG ((ad 3) 0) ((ad 4) 0) bt nt sd) :: (bG c4 (ad 2) nb) :: (yG c4 (ad 4) (nI n) os kd ic br) :: (tG c4 (ad 8) bh mi fb ba) :: Ts) (S := Int32 × (Nat → Int32) × (Nat → Int32) × Int32 × Int32 × Int32 × (Nat → Int32)) (fun (r : Int32) (u : Int32 × (Nat → Int32) × (Nat → Int32) × Int32 × Int32 × Int32 × (Nat → Int32)) => ∃ q2, outF t (pForce nb bt) (nb 5) q n = (r, q2) ∧ yR q2 n u.1 kd u.2.1 u.2.2.1) (fun u => ((iG ad fp) :: (wG ((ad 3) 0) ((ad 4) 0) bt nt sd) :: (bG c4 (ad 2) nb) :: (yG c4 (ad 4) (nI n) u.1 kd u.2.1 u.2.2.1) :: (tG c4 (ad 8) u.2.2.2.1 u.2.2.2.2.1 u.2.2.2.2.2.1 u.2.2.2.2.2.2) :: Ts)) := by
  refine cOi (cc := cX7_out) (maxL := 2) (by decide) rfl (Nat.le_of_ble_eq_true rfl) rfl ?_
  rintro jp je js jm below meth jc ls args R Q H locs hRf hRl ⟨hx, hb, hml, hr, hts, hown, hlocks, hK, hX⟩ hw hl kr
  have hown : js.vm.findClass RX7 = some jm.cls := hown
  have f_0 := hts (.fieldLink RX7 26 "IceSway" "now" "LIceSway$Winter;") (by decide +kernel)
  have f_1 := hts (.fieldLink RX7 118 "IceSway$Winter" "yards" "LIceSway$Yards;") (by decide +kernel)
  have f_2 := hts (.fieldLink RX7 121 "IceSway$Yards" "count" "I") (by decide +kernel)
  have f_3 := hts (.fieldLink RX7 48 "IceSway" "trip" "LIceSway$Trip;") (by decide +kernel)
  have f_4 := hts (.fieldLink RX7 185 "IceSway$Trip" "behind" "I") (by decide +kernel)
  have f_5 := hts (.constant RX7 181 (-1000000003)) (by decide +kernel)
  have f_6 := hts (.constant RX7 74 (-1000000002)) (by decide +kernel)
  have hi7 : ∀ w ∈ u_ws RX7 TX7 10, w ∈ wsX7_out := fun w h => List.mem_cons_of_mem _ (List.mem_append_left _ (List.mem_append_left _ (List.mem_append_left _ (List.mem_append_left _ (List.mem_append_right _ h)))))
  have hi5 : ∀ w ∈ u_ws RX5 TX5 4, w ∈ wsX7_out := fun w h => List.mem_cons_of_mem _ (List.mem_append_left _ (List.mem_append_left _ (List.mem_append_left _ (List.mem_append_right _ h))))
  have hi6 : ∀ w ∈ u_ws RX6 TX6 5, w ∈ wsX7_out := fun w h => List.mem_cons_of_mem _ (List.mem_append_left _ (List.mem_append_left _ (List.mem_append_right _ h)))
  have hi4 : ∀ w ∈ u_ws RX4 TX4 4, w ∈ wsX7_out := fun w h => List.mem_cons_of_mem _ (List.mem_append_left _ (List.mem_append_right _ h))
  refine lv_iload_n hx hb dX7_out_0 rfl (lv_at hl 1 rfl) ?_
  refine c_si (As := [.int t]) (rest := []) ⟨hx, hb, hml, hown, hts⟩ (k_X7_isOutOfDay l D c4 A ((iG ad fp) :: (wG ((ad 3) 0) ((ad 4) 0) bt nt sd) :: (bG c4 (ad 2) nb) :: (yG c4 (ad 4) (nI n) os kd ic br) :: (tG c4 (ad 8) bh mi fb ba) :: Ts) t) (va_cwS 1 hts gX7_out_X7_isOutOfDay rfl rfl rfl (by decide +kernel) (rmv (Nat.le_of_ble_eq_true rfl) (Nat.le_of_ble_eq_true rfl) hRf hRl)) hK trivial hw rfl hl rfl (Nat.le_of_ble_eq_true rfl) ⟨Nat.zero_le _, Nat.zero_le _⟩ dX7_out_1 (fun r_1 u_1 H locs hpq hw => ?_)
  obtain ⟨h0_1, h1_1⟩ := hpq
  refine lv_if_eq (tgt := 10) hx hb dX7_out_4 (by decide) (fun c_4 => ?_) (fun c_4 => ?_)
  · refine lv_aload_n hx hb dX7_out_10 rfl (lv_at hl 0 rfl) ?_
    refine r_get (T := TX7) (v := .ref ((ad 3) 0)) hx hb hts hi7 hown hK hw 0 rfl rfl 2 (by decide) f_0 rfl dX7_out_11 ?_
    refine r_get (T := TX5) (v := .ref ((ad 4) 0)) hx hb hts hi5 hown hK hw 1 rfl rfl 0 (by decide) f_1 rfl dX7_out_14 ?_
    refine r_get (T := TX6) (v := .int (nI n)) hx hb hts hi6 hown hK hw 4 rfl rfl 0 (by decide) f_2 rfl dX7_out_17 ?_
    refine r_zne hx hb n (by omega) (tgt := 26) dX7_out_20 (by decide) (fun c_20 => ?_) (fun c_20 => ?_)
    · refine lv_aload_n hx hb dX7_out_26 rfl (lv_at hl 0 rfl) ?_
      refine lv_iload_n hx hb dX7_out_27 rfl (lv_at hl 1 rfl) ?_
      have hw := hw.m4
      have hw := hw.m4
      have hw := hw.m4
      have hw := hw.m4
      have hw := hw.m4
      refine c_vv (As := [.int t]) (rest := []) ⟨hx, hb, hml, hown, hts⟩ (k_X7_goFromNow l D c4 A Ts ad fp bt nt sd nb n os kd ic br q bh mi fb ba t hn hY htl) (cwV 1 hts gX7_out_X7_goFromNow rfl rfl rfl (by decide +kernel) (rmv (Nat.le_of_ble_eq_true rfl) (Nat.le_of_ble_eq_true rfl) hRf hRl)) hK trivial hw rfl rfl rfl hl rfl (Nat.le_of_ble_eq_true rfl) ⟨Nat.zero_le _, Nat.zero_le _⟩ dX7_out_28 (fun u_28 H locs hpq hw => ?_)
      obtain ⟨b2_28, ba2_28⟩ := u_28
      have hw : gW D A js.heap ((iG ad fp) :: (wG ((ad 3) 0) ((ad 4) 0) bt nt sd) :: (bG c4 (ad 2) nb) :: (yG c4 (ad 4) (nI n) os kd ic br) :: (tG c4 (ad 8) (nI b2_28) (cumQ (pForce nb bt) (nb 5) q b2_28) (fbQ q b2_28) ba2_28) :: Ts) H locs := hw
      obtain ⟨hb2_28, hba_28⟩ := hpq
      have hb2_28 : b2_28 = bhQ (pForce nb bt) (nb 5) t q n := hb2_28
      have hba_28 : ∀ k, k < b2_28 → ba2_28 k = cumQ (pForce nb bt) (nb 5) q (k + 1) := hba_28
      have hbn : b2_28 ≤ n := by rw [hb2_28]; exact bh_le _ _ _ _ _
      refine lv_aload_n hx hb dX7_out_31 rfl (lv_at hl 0 rfl) ?_
      refine r_get (T := TX7) (v := .ref ((ad 3) 0)) hx hb hts hi7 hown hK hw 0 rfl rfl 2 (by decide) f_0 rfl dX7_out_32 ?_
      refine r_get (T := TX5) (v := .ref ((ad 4) 0)) hx hb hts hi5 hown hK hw 1 rfl rfl 0 (by decide) f_1 rfl dX7_out_35 ?_
      refine lv_aload_n hx hb dX7_out_38 rfl (lv_at hl 0 rfl) ?_
      refine r_get (T := TX7) (v := .ref ((ad 8) 0)) hx hb hts hi7 hown hK hw 0 rfl rfl 6 (by decide) f_3 rfl dX7_out_39 ?_
      refine r_get (T := TX4) (v := .int (nI b2_28)) hx hb hts hi4 hown hK hw 8 rfl rfl 0 (by decide) f_4 rfl dX7_out_42 ?_
      have hw := hw.m3
      refine c_vv (As := [.int (nI b2_28)]) (rest := []) ⟨hx, hb, hml, hown, hts⟩ (k_X6_openFirst l D c4 A ((iG ad fp) :: (wG ((ad 3) 0) ((ad 4) 0) bt nt sd) :: (bG c4 (ad 2) nb) :: (tG c4 (ad 8) (nI b2_28) (cumQ (pForce nb bt) (nb 5) q b2_28) (fbQ q b2_28) ba2_28) :: Ts) (ad 4) n os kd ic br q b2_28 hn hY hbn) (cwV 1 hts gX7_out_X6_openFirst rfl rfl rfl (by decide +kernel) (rmv (Nat.le_of_ble_eq_true rfl) (Nat.le_of_ble_eq_true rfl) hRf hRl)) hK trivial hw rfl rfl rfl hl rfl (Nat.le_of_ble_eq_true rfl) ⟨Nat.zero_le _, Nat.zero_le _⟩ dX7_out_45 (fun u_45 H locs hpq hw => ?_)
      obtain ⟨os2_45, ic2_45, br2_45⟩ := u_45
      have hw : gW D A js.heap ((yG c4 (ad 4) (nI n) os2_45 kd ic2_45 br2_45) :: (iG ad fp) :: (wG ((ad 3) 0) ((ad 4) 0) bt nt sd) :: (bG c4 (ad 2) nb) :: (tG c4 (ad 8) (nI b2_28) (cumQ (pForce nb bt) (nb 5) q b2_28) (fbQ q b2_28) ba2_28) :: Ts) H locs := hw
      have hY_45 := hpq
      have hY_45 : yR (mixQ openQ q b2_28) n os2_45 kd ic2_45 br2_45 := hY_45
      refine lv_aload_n hx hb dX7_out_48 rfl (lv_at hl 0 rfl) ?_
      refine r_get (T := TX7) (v := .ref ((ad 8) 0)) hx hb hts hi7 hown hK hw 4 rfl rfl 6 (by decide) f_3 rfl dX7_out_49 ?_
      refine r_get (T := TX4) (v := .int (nI b2_28)) hx hb hts hi4 hown hK hw 8 rfl rfl 0 (by decide) f_4 rfl dX7_out_52 ?_
      have hw := hw.m4
      have hw := hw.m1
      have hw := hw.m4
      have hw := hw.m4
      have hw := hw.m4
      exact kr (nI b2_28) (os2_45, ic2_45, br2_45, (nI b2_28), (cumQ (pForce nb bt) (nb 5) q b2_28), (fbQ q b2_28), ba2_28) _ _ _ _ hw ⟨_, by unfold outF; rw [if_pos (h0_1 c_4), if_neg c_20, ← hb2_28], hY_45⟩ dX7_out_55
    · refine lv_ldc hx hb hown f_5 dX7_out_23 ?_
      exact kr (-1000000003) (os, ic, br, bh, mi, fb, ba) _ _ _ _ hw ⟨q, by unfold outF; rw [if_pos (h0_1 c_4), if_pos c_20], hY⟩ dX7_out_25
  · refine lv_ldc hx hb hown f_6 dX7_out_7 ?_
    exact kr (-1000000002) (os, ic, br, bh, mi, fb, ba) _ _ _ _ hw ⟨q, by unfold outF; rw [if_neg (notR (h1_1 c_4))], hY⟩ dX7_out_9
set_option maxHeartbeats 4000000 in
set_option maxRecDepth 100000 in
theorem k_X7_today (l : Launch) (D : va_G) (c4 : Nat → ClassId) (A : Nat → Prop) (Ts : List va_W) (ad : Nat → Nat → Nat) (fp : Int32) (bt : Int32) (nt : Int32) (sd : Int32) (nb : Nat → Int32) (n : Nat) (os : Int32) (kd : Nat → Int32) (ic : Nat → Int32) (br : Nat → Int32) (q : Nat → Yq) (bh : Int32) (mi : Int32) (fb : Int32) (ba : Nat → Int32) (t : Int32) (v : Int32) (hn : n ≤ 12) (hY : yR q n os kd ic br) (htl : tlOk nb) : Ci l yX7_today wsX7_today 5 100 [.ref ((ad 0) 0), .int t, .int v] D (tyA c4) A none ((iG ad fp) :: (wG ((ad 3) 0) ((ad 4) 0) bt nt sd) :: (bG c4 (ad 2) nb) :: (yG c4 (ad 4) (nI n) os kd ic br) :: (tG c4 (ad 8) bh mi fb ba) :: Ts) (S := Int32 × Int32 × Int32 × (Nat → Int32)) (fun (r : Int32) (u : Int32 × Int32 × Int32 × (Nat → Int32)) => r = (todayF t v (pForce nb bt) (nb 5) q n)) (fun u => ((iG ad fp) :: (wG ((ad 3) 0) ((ad 4) 0) bt nt sd) :: (bG c4 (ad 2) nb) :: (yG c4 (ad 4) (nI n) os kd ic br) :: (tG c4 (ad 8) u.1 u.2.1 u.2.2.1 u.2.2.2) :: Ts)) := by
  refine cOi (cc := cX7_today) (maxL := 3) (by decide) rfl (Nat.le_of_ble_eq_true rfl) rfl ?_
  rintro jp je js jm below meth jc ls args R Q H locs hRf hRl ⟨hx, hb, hml, hr, hts, hown, hlocks, hK, hX⟩ hw hl kr
  have hown : js.vm.findClass RX7 = some jm.cls := hown
  have f_0 := hts (.constant RX7 74 (-1000000002)) (by decide +kernel)
  have f_1 := hts (.fieldLink RX7 48 "IceSway" "trip" "LIceSway$Trip;") (by decide +kernel)
  have f_2 := hts (.fieldLink RX7 194 "IceSway$Trip" "minutes" "I") (by decide +kernel)
  have f_3 := hts (.fieldLink RX7 185 "IceSway$Trip" "behind" "I") (by decide +kernel)
  have hi7 : ∀ w ∈ u_ws RX7 TX7 10, w ∈ wsX7_today := fun w h => List.mem_cons_of_mem _ (List.mem_append_left _ (List.mem_append_left _ (List.mem_append_left _ (List.mem_append_left _ (List.mem_append_right _ h)))))
  have hi4 : ∀ w ∈ u_ws RX4 TX4 4, w ∈ wsX7_today := fun w h => List.mem_cons_of_mem _ (List.mem_append_left _ (List.mem_append_left _ (List.mem_append_left _ (List.mem_append_right _ h))))
  refine lv_iload_n hx hb dX7_today_0 rfl (lv_at hl 1 rfl) ?_
  refine c_si (As := [.int t]) (rest := []) ⟨hx, hb, hml, hown, hts⟩ (k_X7_isOutOfDay l D c4 A ((iG ad fp) :: (wG ((ad 3) 0) ((ad 4) 0) bt nt sd) :: (bG c4 (ad 2) nb) :: (yG c4 (ad 4) (nI n) os kd ic br) :: (tG c4 (ad 8) bh mi fb ba) :: Ts) t) (va_cwS 1 hts gX7_today_X7_isOutOfDay rfl rfl rfl (by decide +kernel) (rmv (Nat.le_of_ble_eq_true rfl) (Nat.le_of_ble_eq_true rfl) hRf hRl)) hK trivial hw rfl hl rfl (Nat.le_of_ble_eq_true rfl) ⟨Nat.zero_le _, Nat.zero_le _⟩ dX7_today_1 (fun r_1 u_1 H locs hpq hw => ?_)
  obtain ⟨h0_1, h1_1⟩ := hpq
  refine lv_if_ne (tgt := 16) hx hb dX7_today_4 (by decide) (fun c_4 => ?_) (fun c_4 => ?_)
  · refine lv_ldc hx hb hown f_0 dX7_today_16 ?_
    exact kr (-1000000002) (bh, mi, fb, ba) _ _ _ _ hw (by unfold todayF; rw [if_neg (notR (h1_1 c_4))]) dX7_today_18
  · refine lv_iload_n hx hb dX7_today_7 rfl (lv_at hl 2 rfl) ?_
    refine lv_iconst (v := 0) hx hb dX7_today_8 (by decide) ?_
    refine lv_iconst (v := 1) hx hb dX7_today_9 (by decide) ?_
    refine c_si (As := [.int v, .int 0, .int 1]) (rest := []) ⟨hx, hb, hml, hown, hts⟩ (k_X7_isOut l D c4 A ((iG ad fp) :: (wG ((ad 3) 0) ((ad 4) 0) bt nt sd) :: (bG c4 (ad 2) nb) :: (yG c4 (ad 4) (nI n) os kd ic br) :: (tG c4 (ad 8) bh mi fb ba) :: Ts) v 0 1) (va_cwS 3 hts gX7_today_X7_isOut rfl rfl rfl (by decide +kernel) (rmv (Nat.le_of_ble_eq_true rfl) (Nat.le_of_ble_eq_true rfl) hRf hRl)) hK trivial hw rfl hl rfl (Nat.le_of_ble_eq_true rfl) ⟨Nat.zero_le _, Nat.zero_le _⟩ dX7_today_10 (fun r_10 u_10 H locs hpq hw => ?_)
    obtain ⟨h0_10, h1_10, hz_10⟩ := hpq
    refine lv_if_eq (tgt := 19) hx hb dX7_today_13 (by decide) (fun c_13 => ?_) (fun c_13 => ?_)
    · refine lv_aload_n hx hb dX7_today_19 rfl (lv_at hl 0 rfl) ?_
      refine lv_iload_n hx hb dX7_today_20 rfl (lv_at hl 1 rfl) ?_
      have hw := hw.m4
      have hw := hw.m4
      have hw := hw.m4
      have hw := hw.m4
      have hw := hw.m4
      refine c_vv (As := [.int t]) (rest := []) ⟨hx, hb, hml, hown, hts⟩ (k_X7_goFromNow l D c4 A Ts ad fp bt nt sd nb n os kd ic br q bh mi fb ba t hn hY htl) (cwV 1 hts gX7_today_X7_goFromNow rfl rfl rfl (by decide +kernel) (rmv (Nat.le_of_ble_eq_true rfl) (Nat.le_of_ble_eq_true rfl) hRf hRl)) hK trivial hw rfl rfl rfl hl rfl (Nat.le_of_ble_eq_true rfl) ⟨Nat.zero_le _, Nat.zero_le _⟩ dX7_today_21 (fun u_21 H locs hpq hw => ?_)
      obtain ⟨b2_21, ba2_21⟩ := u_21
      have hw : gW D A js.heap ((iG ad fp) :: (wG ((ad 3) 0) ((ad 4) 0) bt nt sd) :: (bG c4 (ad 2) nb) :: (yG c4 (ad 4) (nI n) os kd ic br) :: (tG c4 (ad 8) (nI b2_21) (cumQ (pForce nb bt) (nb 5) q b2_21) (fbQ q b2_21) ba2_21) :: Ts) H locs := hw
      obtain ⟨hb2_21, hba_21⟩ := hpq
      have hb2_21 : b2_21 = bhQ (pForce nb bt) (nb 5) t q n := hb2_21
      have hba_21 : ∀ k, k < b2_21 → ba2_21 k = cumQ (pForce nb bt) (nb 5) q (k + 1) := hba_21
      refine lv_iload_n hx hb dX7_today_24 rfl (lv_at hl 2 rfl) ?_
      refine lv_if_ne (tgt := 38) hx hb dX7_today_25 (by decide) (fun c_25 => ?_) (fun c_25 => ?_)
      · refine lv_aload_n hx hb dX7_today_38 rfl (lv_at hl 0 rfl) ?_
        refine r_get (T := TX7) (v := .ref ((ad 8) 0)) hx hb hts hi7 hown hK hw 0 rfl rfl 6 (by decide) f_1 rfl dX7_today_39 ?_
        refine r_get (T := TX4) (v := .int (cumQ (pForce nb bt) (nb 5) q b2_21)) hx hb hts hi4 hown hK hw 8 rfl rfl 1 (by decide) f_2 rfl dX7_today_42 ?_
        exact kr (cumQ (pForce nb bt) (nb 5) q b2_21) ((nI b2_21), (cumQ (pForce nb bt) (nb 5) q b2_21), (fbQ q b2_21), ba2_21) _ _ _ _ hw (by unfold todayF; rw [if_pos (h0_1 c_4), if_pos (h0_10 c_13), if_neg c_25, ← hb2_21]) dX7_today_45
      · refine lv_aload_n hx hb dX7_today_28 rfl (lv_at hl 0 rfl) ?_
        refine r_get (T := TX7) (v := .ref ((ad 8) 0)) hx hb hts hi7 hown hK hw 0 rfl rfl 6 (by decide) f_1 rfl dX7_today_29 ?_
        refine r_get (T := TX4) (v := .int (nI b2_21)) hx hb hts hi4 hown hK hw 8 rfl rfl 0 (by decide) f_3 rfl dX7_today_32 ?_
        refine lv_goto (tgt := 45) hx hb dX7_today_35 (by decide) ?_
        exact kr (nI b2_21) ((nI b2_21), (cumQ (pForce nb bt) (nb 5) q b2_21), (fbQ q b2_21), ba2_21) _ _ _ _ hw (by unfold todayF; rw [if_pos (h0_1 c_4), if_pos (h0_10 c_13), if_pos c_25, ← hb2_21]) dX7_today_45
    · refine lv_ldc hx hb hown f_0 dX7_today_16 ?_
      exact kr (-1000000002) (bh, mi, fb, ba) _ _ _ _ hw (by unfold todayF; rw [if_pos (h0_1 c_4), if_neg (notR (h1_10 c_13))]) dX7_today_18
set_option maxHeartbeats 4000000 in
set_option maxRecDepth 100000 in
theorem k_X7_bestBeat (l : Launch) (D : va_G) (c4 : Nat → ClassId) (A : Nat → Prop) (Ts : List va_W) (ad : Nat → Nat → Nat) (fp : Int32) (nb : Nat → Int32) : Ci l yX7_bestBeat wsX7_bestBeat 3 59 [.ref ((ad 0) 0)] D (tyA c4) A none ((iG ad fp) :: (bG c4 (ad 2) nb) :: Ts) (S := Unit) (fun (r : Int32) (u : Unit) => r = (bbF (pForce nb) 8)) (fun u => ((iG ad fp) :: (bG c4 (ad 2) nb) :: Ts)) := by
  refine cOi (cc := cX7_bestBeat) (maxL := 3) (by decide) rfl (Nat.le_of_ble_eq_true rfl) rfl ?_
  rintro jp je js jm below meth jc ls args R Q H locs hRf hRl ⟨hx, hb, hml, hr, hts, hown, hlocks, hK, hX⟩ hw hl kr
  have hown : js.vm.findClass RX7 = some jm.cls := hown
  have f_0 := hts (.fieldLink RX7 19 "IceSway" "boat" "LIceSway$Boat;") (by decide +kernel)
  have hi7 : ∀ w ∈ u_ws RX7 TX7 10, w ∈ wsX7_bestBeat := fun w h => List.mem_cons_of_mem _ (List.mem_append_left _ (List.mem_append_right _ h))
  refine lv_iconst (v := 1) hx hb dX7_bestBeat_0 (by decide) ?_
  refine lv_istore_n (lv' := [(1, .int 1), (0, .ref ((ad 0) 0))]) hx hb dX7_bestBeat_1 rfl hl (by decide) rfl (fun ls hl => ?_)
  refine lv_iconst (v := 2) hx hb dX7_bestBeat_2 (by decide) ?_
  refine lv_istore_n (lv' := [(2, .int 2), (1, .int 1), (0, .ref ((ad 0) 0))]) hx hb dX7_bestBeat_3 rfl hl (by decide) rfl (fun ls hl => ?_)
  have loop_4 : ∀ (fuel : Nat) (k : Nat) (b1 : Int32), (8 - k) < fuel → (k ≤ 8) → (b1 = bbF (pForce nb) k) → ∀ (H : Heap) (locs : List Loc), gW D A js.heap ((iG ad fp) :: (bG c4 (ad 2) nb) :: Ts) H locs → ∀ (ls : Array Slot), lv_has ls 3 [(2, .int (nI (k + 2))), (1, .int b1), (0, .ref ((ad 0) 0))] → W jp l je R js jm args below meth jc H locs 0 0 Q (F0 jm 4 ls []) := by
    intro fuel
    induction fuel with
    | zero => intro k b1 hm; exact absurd hm (Nat.not_lt_zero _)
    | succ fuel ih_4 =>
      intro k b1 hm_4 hk hb1 H locs hw ls hl
      refine lv_iload_n hx hb dX7_bestBeat_4 rfl (lv_at hl 0 rfl) ?_
      refine lv_bipush (v := 9) hx hb dX7_bestBeat_5 (by decide) ?_
      refine r_cgt hx hb (k + 2) 9 (by omega) (by omega) (tgt := 37) dX7_bestBeat_7 (by decide) (fun c_7 => ?_) (fun c_7 => ?_)
      · refine lv_iload_n hx hb dX7_bestBeat_37 rfl (lv_at hl 1 rfl) ?_
        exact kr b1 () _ _ _ _ hw (by rw [hb1, show k = 8 by omega]) dX7_bestBeat_38
      · refine lv_aload_n hx hb dX7_bestBeat_10 rfl (lv_at hl 2 rfl) ?_
        refine r_get (T := TX7) (v := .ref ((ad 2) 0)) hx hb hts hi7 hown hK hw 0 rfl rfl 1 (by decide) f_0 rfl dX7_bestBeat_11 ?_
        refine lv_iload_n hx hb dX7_bestBeat_14 rfl (lv_at hl 0 rfl) ?_
        have hw := hw.m1
        refine c_vi (As := [.int (nI (k + 2))]) (rest := []) ⟨hx, hb, hml, hown, hts⟩ (k_X0_forceBy l D c4 A ((iG ad fp) :: Ts) (ad 2) nb (nI (k + 2))) (cwV 1 hts gX7_bestBeat_X0_forceBy rfl rfl rfl (by decide +kernel) (rmv (Nat.le_of_ble_eq_true rfl) (Nat.le_of_ble_eq_true rfl) hRf hRl)) hK trivial hw rfl rfl rfl hl rfl (Nat.le_of_ble_eq_true rfl) ⟨Nat.zero_le _, Nat.zero_le _⟩ dX7_bestBeat_15 (fun r_15 u_15 H locs hpq hw => ?_)
        have er_15 := hpq
        subst er_15
        refine lv_aload_n hx hb dX7_bestBeat_18 rfl (lv_at hl 2 rfl) ?_
        refine r_get (T := TX7) (v := .ref ((ad 2) 0)) hx hb hts hi7 hown hK hw 2 rfl rfl 1 (by decide) f_0 rfl dX7_bestBeat_19 ?_
        refine lv_iload_n hx hb dX7_bestBeat_22 rfl (lv_at hl 1 rfl) ?_
        refine c_vi (As := [.int b1]) (rest := [.int (pForce nb (nI (k + 2)))]) ⟨hx, hb, hml, hown, hts⟩ (k_X0_forceBy l D c4 A ((iG ad fp) :: Ts) (ad 2) nb b1) (cwV 1 hts gX7_bestBeat_X0_forceBy rfl rfl rfl (by decide +kernel) (rmv (Nat.le_of_ble_eq_true rfl) (Nat.le_of_ble_eq_true rfl) hRf hRl)) hK trivial hw rfl rfl rfl hl rfl (Nat.le_of_ble_eq_true rfl) ⟨Nat.zero_le _, Nat.zero_le _⟩ dX7_bestBeat_23 (fun r_23 u_23 H locs hpq hw => ?_)
        have er_23 := hpq
        subst er_23
        refine lv_icmp_le (tgt := 31) hx hb dX7_bestBeat_26 (by decide) (fun c_26 => ?_) (fun c_26 => ?_)
        · refine lv_iinc (v := (nI (k + 2 + 1))) (lv' := [(2, .int (nI (k + 2 + 1))), (1, .int b1), (0, .ref ((ad 0) 0))]) hx hb dX7_bestBeat_31 hl (k := 0) rfl (nI_add _ _) (by decide) rfl (fun ls hl => ?_)
          refine lv_goto (tgt := 4) hx hb dX7_bestBeat_34 (by decide) ?_
          have hw := hw.m1
          exact ih_4 (k + 1) b1 (by omega) (by omega) (by first | (unfold bbF; rw [← hb1, if_pos c_26]) | (unfold bbF; rw [← hb1, if_neg c_26])) _ _ hw ls (lv_sub hl [0, 1, 2] rfl)
        · refine lv_iload_n hx hb dX7_bestBeat_29 rfl (lv_at hl 0 rfl) ?_
          refine lv_istore_n (lv' := [(1, .int (nI (k + 2))), (2, .int (nI (k + 2))), (0, .ref ((ad 0) 0))]) hx hb dX7_bestBeat_30 rfl hl (by decide) rfl (fun ls hl => ?_)
          refine lv_iinc (v := (nI (k + 2 + 1))) (lv' := [(2, .int (nI (k + 2 + 1))), (1, .int (nI (k + 2))), (0, .ref ((ad 0) 0))]) hx hb dX7_bestBeat_31 hl (k := 1) rfl (nI_add _ _) (by decide) rfl (fun ls hl => ?_)
          refine lv_goto (tgt := 4) hx hb dX7_bestBeat_34 (by decide) ?_
          have hw := hw.m1
          exact ih_4 (k + 1) (nI (k + 2)) (by omega) (by omega) (by first | (unfold bbF; rw [← hb1, if_pos c_26]) | (unfold bbF; rw [← hb1, if_neg c_26])) _ _ hw ls (lv_sub hl [0, 1, 2] rfl)
  exact loop_4 ((8 - 0) + 1) 0 1 (Nat.lt_succ_self _) (by omega) rfl _ _ hw ls (lv_sub hl [0, 1, 2] rfl)
set_option maxHeartbeats 4000000 in
set_option maxRecDepth 100000 in
theorem k_X7_laggards (l : Launch) (D : va_G) (c4 : Nat → ClassId) (A : Nat → Prop) (Ts : List va_W) (ad : Nat → Nat → Nat) (fp : Int32) (bt : Int32) (nt : Int32) (sd : Int32) (nb : Nat → Int32) (n : Nat) (os : Int32) (kd : Nat → Int32) (ic : Nat → Int32) (br : Nat → Int32) (q : Nat → Yq) (bh : Int32) (mi : Int32) (fb : Int32) (ba : Nat → Int32) (t : Int32) (hn : n ≤ 12) (hY : yR q n os kd ic br) (htl : tlOk nb) : Ci l yX7_laggards wsX7_laggards 3 74 [.ref ((ad 0) 0), .int t] D (tyA c4) A none ((iG ad fp) :: (wG ((ad 3) 0) ((ad 4) 0) bt nt sd) :: (bG c4 (ad 2) nb) :: (yG c4 (ad 4) (nI n) os kd ic br) :: (tG c4 (ad 8) bh mi fb ba) :: Ts) (S := Int32 × Int32 × Int32 × (Nat → Int32)) (fun (r : Int32) (u : Int32 × Int32 × Int32 × (Nat → Int32)) => laggP t nb bt q n r) (fun u => ((iG ad fp) :: (wG ((ad 3) 0) ((ad 4) 0) bt nt sd) :: (bG c4 (ad 2) nb) :: (yG c4 (ad 4) (nI n) os kd ic br) :: (tG c4 (ad 8) u.1 u.2.1 u.2.2.1 u.2.2.2) :: Ts)) := by
  refine cOi (cc := cX7_laggards) (maxL := 4) (by decide) rfl (Nat.le_of_ble_eq_true rfl) rfl ?_
  rintro jp je js jm below meth jc ls args R Q H locs hRf hRl ⟨hx, hb, hml, hr, hts, hown, hlocks, hK, hX⟩ hw hl kr
  have hown : js.vm.findClass RX7 = some jm.cls := hown
  have f_0 := hts (.fieldLink RX7 19 "IceSway" "boat" "LIceSway$Boat;") (by decide +kernel)
  have f_1 := hts (.fieldLink RX7 26 "IceSway" "now" "LIceSway$Winter;") (by decide +kernel)
  have f_2 := hts (.fieldLink RX7 128 "IceSway$Winter" "beat" "I") (by decide +kernel)
  have f_3 := hts (.fieldLink RX7 48 "IceSway" "trip" "LIceSway$Trip;") (by decide +kernel)
  have f_4 := hts (.fieldLink RX7 118 "IceSway$Winter" "yards" "LIceSway$Yards;") (by decide +kernel)
  have f_5 := hts (.constant RX7 74 (-1000000002)) (by decide +kernel)
  have hi7 : ∀ w ∈ u_ws RX7 TX7 10, w ∈ wsX7_laggards := fun w h => List.mem_cons_of_mem _ (List.mem_append_left _ (List.mem_append_left _ (List.mem_append_left _ (List.mem_append_left _ (List.mem_append_right _ h)))))
  have hi5 : ∀ w ∈ u_ws RX5 TX5 4, w ∈ wsX7_laggards := fun w h => List.mem_cons_of_mem _ (List.mem_append_left _ (List.mem_append_left _ (List.mem_append_left _ (List.mem_append_right _ h))))
  refine lv_iload_n hx hb dX7_laggards_0 rfl (lv_at hl 1 rfl) ?_
  refine c_si (As := [.int t]) (rest := []) ⟨hx, hb, hml, hown, hts⟩ (k_X7_isOutOfDay l D c4 A ((iG ad fp) :: (wG ((ad 3) 0) ((ad 4) 0) bt nt sd) :: (bG c4 (ad 2) nb) :: (yG c4 (ad 4) (nI n) os kd ic br) :: (tG c4 (ad 8) bh mi fb ba) :: Ts) t) (va_cwS 1 hts gX7_laggards_X7_isOutOfDay rfl rfl rfl (by decide +kernel) (rmv (Nat.le_of_ble_eq_true rfl) (Nat.le_of_ble_eq_true rfl) hRf hRl)) hK trivial hw rfl hl rfl (Nat.le_of_ble_eq_true rfl) ⟨Nat.zero_le _, Nat.zero_le _⟩ dX7_laggards_1 (fun r_1 u_1 H locs hpq hw => ?_)
  obtain ⟨h0_1, h1_1⟩ := hpq
  refine lv_if_eq (tgt := 10) hx hb dX7_laggards_4 (by decide) (fun c_4 => ?_) (fun c_4 => ?_)
  · refine lv_iconst (v := 0) hx hb dX7_laggards_10 (by decide) ?_
    refine lv_istore_n (lv' := [(2, .int 0), (0, .ref ((ad 0) 0)), (1, .int t)]) hx hb dX7_laggards_11 rfl hl (by decide) rfl (fun ls hl => ?_)
    have loop_12 : ∀ (fuel : Nat) (l0 : Nat) (bh1 : Int32) (mi1 : Int32) (fb1 : Int32) (ba1 : Nat → Int32), (21 - l0) < fuel → (l0 ≤ 21) → (∀ j, j < l0 → ¬ ¬ psQ (4 * nb 0 + pSway (nb 1) (nb 2) (nI j) bt) (nb 5) t q n) → ∀ (H : Heap) (locs : List Loc), gW D A js.heap ((iG ad fp) :: (wG ((ad 3) 0) ((ad 4) 0) bt nt sd) :: (bG c4 (ad 2) nb) :: (yG c4 (ad 4) (nI n) os kd ic br) :: (tG c4 (ad 8) bh1 mi1 fb1 ba1) :: Ts) H locs → ∀ (ls : Array Slot), lv_has ls 4 [(2, .int (nI l0)), (0, .ref ((ad 0) 0)), (1, .int t)] → W jp l je R js jm args below meth jc H locs 0 0 Q (F0 jm 12 ls []) := by
      intro fuel
      induction fuel with
      | zero => intro l0 bh1 mi1 fb1 ba1 hm; exact absurd hm (Nat.not_lt_zero _)
      | succ fuel ih_12 =>
        intro l0 bh1 mi1 fb1 ba1 hm_12 hl0 hN H locs hw ls hl
        refine lv_iload_n hx hb dX7_laggards_12 rfl (lv_at hl 0 rfl) ?_
        refine lv_bipush (v := 20) hx hb dX7_laggards_13 (by decide) ?_
        refine r_cgt hx hb l0 20 (by omega) (by omega) (tgt := 78) dX7_laggards_15 (by decide) (fun c_15 => ?_) (fun c_15 => ?_)
        · refine lv_iconst (v := (-1)) hx hb dX7_laggards_78 (by decide) ?_
          exact kr (-1) (bh1, mi1, fb1, ba1) _ _ _ _ hw ⟨fun _ => Or.inr ⟨fun j hj => hN j (by omega), rfl⟩, fun z => absurd (h0_1 c_4) z⟩ dX7_laggards_79
        · refine lv_aload_n hx hb dX7_laggards_18 rfl (lv_at hl 1 rfl) ?_
          refine r_get (T := TX7) (v := .ref ((ad 2) 0)) hx hb hts hi7 hown hK hw 0 rfl rfl 1 (by decide) f_0 rfl dX7_laggards_19 ?_
          have hw := hw.m2
          refine c_vi (As := []) (rest := []) ⟨hx, hb, hml, hown, hts⟩ (k_X0_horsesTold l D c4 A ((iG ad fp) :: (wG ((ad 3) 0) ((ad 4) 0) bt nt sd) :: (yG c4 (ad 4) (nI n) os kd ic br) :: (tG c4 (ad 8) bh1 mi1 fb1 ba1) :: Ts) (ad 2) nb) (cwV 0 hts gX7_laggards_X0_horsesTold rfl rfl rfl (by decide +kernel) (rmv (Nat.le_of_ble_eq_true rfl) (Nat.le_of_ble_eq_true rfl) hRf hRl)) hK trivial hw rfl rfl rfl hl rfl (Nat.le_of_ble_eq_true rfl) ⟨Nat.zero_le _, Nat.zero_le _⟩ dX7_laggards_22 (fun r_22 u_22 H locs hpq hw => ?_)
          have er_22 := hpq
          subst er_22
          refine lv_aload_n hx hb dX7_laggards_25 rfl (lv_at hl 1 rfl) ?_
          refine r_get (T := TX7) (v := .ref ((ad 2) 0)) hx hb hts hi7 hown hK hw 2 rfl rfl 1 (by decide) f_0 rfl dX7_laggards_26 ?_
          refine lv_aload_n hx hb dX7_laggards_29 rfl (lv_at hl 1 rfl) ?_
          refine r_get (T := TX7) (v := .ref ((ad 3) 0)) hx hb hts hi7 hown hK hw 2 rfl rfl 2 (by decide) f_1 rfl dX7_laggards_30 ?_
          refine r_get (T := TX5) (v := .int bt) hx hb hts hi5 hown hK hw 3 rfl rfl 1 (by decide) f_2 rfl dX7_laggards_33 ?_
          refine lv_iload_n hx hb dX7_laggards_36 rfl (lv_at hl 0 rfl) ?_
          refine c_vi (As := [.int bt, .int (nI l0)]) (rest := [.int (nb 0)]) ⟨hx, hb, hml, hown, hts⟩ (k_X0_swayBy l D c4 A ((iG ad fp) :: (wG ((ad 3) 0) ((ad 4) 0) bt nt sd) :: (yG c4 (ad 4) (nI n) os kd ic br) :: (tG c4 (ad 8) bh1 mi1 fb1 ba1) :: Ts) (ad 2) nb bt (nI l0)) (cwV 2 hts gX7_laggards_X0_swayBy rfl rfl rfl (by decide +kernel) (rmv (Nat.le_of_ble_eq_true rfl) (Nat.le_of_ble_eq_true rfl) hRf hRl)) hK trivial hw rfl rfl rfl hl rfl (Nat.le_of_ble_eq_true rfl) ⟨Nat.zero_le _, Nat.zero_le _⟩ dX7_laggards_37 (fun r_37 u_37 H locs hpq hw => ?_)
          have er_37 := hpq
          subst er_37
          refine c_si (As := [.int (nb 0), .int (pSway (nb 1) (nb 2) (nI l0) bt)]) (rest := []) ⟨hx, hb, hml, hown, hts⟩ (k_X0_forceOf l D c4 A ((bG c4 (ad 2) nb) :: (iG ad fp) :: (wG ((ad 3) 0) ((ad 4) 0) bt nt sd) :: (yG c4 (ad 4) (nI n) os kd ic br) :: (tG c4 (ad 8) bh1 mi1 fb1 ba1) :: Ts) (nb 0) (pSway (nb 1) (nb 2) (nI l0) bt)) (va_cwS 2 hts gX7_laggards_X0_forceOf rfl rfl rfl (by decide +kernel) (rmv (Nat.le_of_ble_eq_true rfl) (Nat.le_of_ble_eq_true rfl) hRf hRl)) hK trivial hw rfl hl rfl (Nat.le_of_ble_eq_true rfl) ⟨Nat.zero_le _, Nat.zero_le _⟩ dX7_laggards_40 (fun r_40 u_40 H locs hpq hw => ?_)
          have er_40 := hpq
          subst er_40
          refine lv_istore_n (lv' := [(3, .int (4 * (nb 0) + (pSway (nb 1) (nb 2) (nI l0) bt))), (2, .int (nI l0)), (0, .ref ((ad 0) 0)), (1, .int t)]) hx hb dX7_laggards_43 rfl hl (by decide) rfl (fun ls hl => ?_)
          refine lv_aload_n hx hb dX7_laggards_44 rfl (lv_at hl 2 rfl) ?_
          refine r_get (T := TX7) (v := .ref ((ad 8) 0)) hx hb hts hi7 hown hK hw 2 rfl rfl 6 (by decide) f_3 rfl dX7_laggards_45 ?_
          refine lv_aload_n hx hb dX7_laggards_48 rfl (lv_at hl 2 rfl) ?_
          refine r_get (T := TX7) (v := .ref ((ad 3) 0)) hx hb hts hi7 hown hK hw 2 rfl rfl 2 (by decide) f_1 rfl dX7_laggards_49 ?_
          refine r_get (T := TX5) (v := .ref ((ad 4) 0)) hx hb hts hi5 hown hK hw 3 rfl rfl 0 (by decide) f_4 rfl dX7_laggards_52 ?_
          refine lv_iload_n hx hb dX7_laggards_55 rfl (lv_at hl 0 rfl) ?_
          refine lv_aload_n hx hb dX7_laggards_56 rfl (lv_at hl 2 rfl) ?_
          refine r_get (T := TX7) (v := .ref ((ad 2) 0)) hx hb hts hi7 hown hK hw 2 rfl rfl 1 (by decide) f_0 rfl dX7_laggards_57 ?_
          refine c_vi (As := []) (rest := [.int (4 * (nb 0) + (pSway (nb 1) (nb 2) (nI l0) bt)), .ref ((ad 4) 0), .ref ((ad 8) 0)]) ⟨hx, hb, hml, hown, hts⟩ (k_X0_axeMinutes l D c4 A ((iG ad fp) :: (wG ((ad 3) 0) ((ad 4) 0) bt nt sd) :: (yG c4 (ad 4) (nI n) os kd ic br) :: (tG c4 (ad 8) bh1 mi1 fb1 ba1) :: Ts) (ad 2) nb) (cwV 0 hts gX7_laggards_X0_axeMinutes rfl rfl rfl (by decide +kernel) (rmv (Nat.le_of_ble_eq_true rfl) (Nat.le_of_ble_eq_true rfl) hRf hRl)) hK trivial hw rfl rfl rfl hl rfl (Nat.le_of_ble_eq_true rfl) ⟨Nat.zero_le _, Nat.zero_le _⟩ dX7_laggards_60 (fun r_60 u_60 H locs hpq hw => ?_)
          have er_60 := hpq
          subst er_60
          refine lv_iload_n hx hb dX7_laggards_63 rfl (lv_at hl 3 rfl) ?_
          have hw := hw.m3
          have hw := hw.m4
          refine c_vi (As := [.ref ((ad 4) 0), .int (4 * (nb 0) + (pSway (nb 1) (nb 2) (nI l0) bt)), .int (nb 5), .int t]) (rest := []) ⟨hx, hb, hml, hown, hts⟩ (k_X4_passes l D c4 A ((bG c4 (ad 2) nb) :: (iG ad fp) :: (wG ((ad 3) 0) ((ad 4) 0) bt nt sd) :: Ts) (ad 8) bh1 mi1 fb1 ba1 (ad 4) n os kd ic br q (4 * (nb 0) + (pSway (nb 1) (nb 2) (nI l0) bt)) (nb 5) t hn hY ⟨force_of htl.1 (sway_rng htl.2.1 (rng_nI (a := 0) (b := 20) (Nat.zero_le _) (by omega) (by decide))), htl.2.2.2.2.2.1⟩) (cwV 4 hts gX7_laggards_X4_passes rfl rfl rfl (by decide +kernel) (rmv (Nat.le_of_ble_eq_true rfl) (Nat.le_of_ble_eq_true rfl) hRf hRl)) hK trivial hw rfl rfl rfl hl rfl (Nat.le_of_ble_eq_true rfl) ⟨Nat.zero_le _, Nat.zero_le _⟩ dX7_laggards_64 (fun r_64 u_64 H locs hpq hw => ?_)
          obtain ⟨b2_64, ba2_64⟩ := u_64
          have hw : gW D A js.heap ((tG c4 (ad 8) (nI b2_64) (cumQ (4 * (nb 0) + (pSway (nb 1) (nb 2) (nI l0) bt)) (nb 5) q b2_64) (fbQ q b2_64) ba2_64) :: (yG c4 (ad 4) (nI n) os kd ic br) :: (bG c4 (ad 2) nb) :: (iG ad fp) :: (wG ((ad 3) 0) ((ad 4) 0) bt nt sd) :: Ts) H locs := hw
          obtain ⟨h0_64, h1_64, hb2_64, hba_64⟩ := hpq
          have h0_64 : r_64 = 0 → ¬ b2_64 = n := h0_64
          have h1_64 : ¬ r_64 = 0 → b2_64 = n := h1_64
          have hb2_64 : b2_64 = bhQ (4 * (nb 0) + (pSway (nb 1) (nb 2) (nI l0) bt)) (nb 5) t q n := hb2_64
          have hba_64 : ∀ k, k < b2_64 → ba2_64 k = cumQ (4 * (nb 0) + (pSway (nb 1) (nb 2) (nI l0) bt)) (nb 5) q (k + 1) := hba_64
          refine lv_if_ne (tgt := 72) hx hb dX7_laggards_67 (by decide) (fun c_67 => ?_) (fun c_67 => ?_)
          · refine lv_iinc (v := (nI (l0 + 1))) (lv' := [(2, .int (nI (l0 + 1))), (3, .int (4 * (nb 0) + (pSway (nb 1) (nb 2) (nI l0) bt))), (0, .ref ((ad 0) 0)), (1, .int t)]) hx hb dX7_laggards_72 hl (k := 1) rfl (nI_add _ _) (by decide) rfl (fun ls hl => ?_)
            refine lv_goto (tgt := 12) hx hb dX7_laggards_75 (by decide) ?_
            have hw := hw.m1
            have hw := hw.m2
            have hw := hw.m4
            have hw := hw.m4
            exact ih_12 (l0 + 1) (nI b2_64) (cumQ (4 * (nb 0) + (pSway (nb 1) (nb 2) (nI l0) bt)) (nb 5) q b2_64) (fbQ q b2_64) ba2_64 (by omega) (by omega) (lt_s hN (fun z => z (hb2_64.symm.trans (h1_64 c_67)))) _ _ hw ls (lv_sub hl [0, 2, 3] rfl)
          · refine lv_iload_n hx hb dX7_laggards_70 rfl (lv_at hl 1 rfl) ?_
            have hw := hw.m1
            have hw := hw.m2
            have hw := hw.m4
            have hw := hw.m4
            exact kr (nI l0) ((nI b2_64), (cumQ (4 * (nb 0) + (pSway (nb 1) (nb 2) (nI l0) bt)) (nb 5) q b2_64), (fbQ q b2_64), ba2_64) _ _ _ _ hw ⟨fun _ => Or.inl ⟨l0, by omega, fun z => h0_64 c_67 (hb2_64.trans z), hN, rfl⟩, fun z => absurd (h0_1 c_4) z⟩ dX7_laggards_71
    exact loop_12 ((21 - 0) + 1) 0 bh mi fb ba (Nat.lt_succ_self _) (Nat.zero_le _) (fun j h => absurd h (Nat.not_lt_zero j)) _ _ hw ls (lv_sub hl [0, 1, 2] rfl)
  · refine lv_ldc hx hb hown f_5 dX7_laggards_7 ?_
    exact kr (-1000000002) (bh, mi, fb, ba) _ _ _ _ hw ⟨fun z => absurd z (notR (h1_1 c_4)), fun _ => rfl⟩ dX7_laggards_9
set_option maxHeartbeats 4000000 in
set_option maxRecDepth 100000 in
theorem k_X7_horses (l : Launch) (D : va_G) (c4 : Nat → ClassId) (A : Nat → Prop) (Ts : List va_W) (ad : Nat → Nat → Nat) (fp : Int32) (bt : Int32) (nt : Int32) (sd : Int32) (nb : Nat → Int32) (n : Nat) (os : Int32) (kd : Nat → Int32) (ic : Nat → Int32) (br : Nat → Int32) (q : Nat → Yq) (bh : Int32) (mi : Int32) (fb : Int32) (ba : Nat → Int32) (t : Int32) (hn : n ≤ 12) (hY : yR q n os kd ic br) (htl : tlOk nb) : Ci l yX7_horses wsX7_horses 3 74 [.ref ((ad 0) 0), .int t] D (tyA c4) A none ((iG ad fp) :: (wG ((ad 3) 0) ((ad 4) 0) bt nt sd) :: (bG c4 (ad 2) nb) :: (yG c4 (ad 4) (nI n) os kd ic br) :: (tG c4 (ad 8) bh mi fb ba) :: Ts) (S := Int32 × Int32 × Int32 × (Nat → Int32)) (fun (r : Int32) (u : Int32 × Int32 × Int32 × (Nat → Int32)) => horsP t nb bt q n r) (fun u => ((iG ad fp) :: (wG ((ad 3) 0) ((ad 4) 0) bt nt sd) :: (bG c4 (ad 2) nb) :: (yG c4 (ad 4) (nI n) os kd ic br) :: (tG c4 (ad 8) u.1 u.2.1 u.2.2.1 u.2.2.2) :: Ts)) := by
  refine cOi (cc := cX7_horses) (maxL := 4) (by decide) rfl (Nat.le_of_ble_eq_true rfl) rfl ?_
  rintro jp je js jm below meth jc ls args R Q H locs hRf hRl ⟨hx, hb, hml, hr, hts, hown, hlocks, hK, hX⟩ hw hl kr
  have hown : js.vm.findClass RX7 = some jm.cls := hown
  have f_0 := hts (.fieldLink RX7 19 "IceSway" "boat" "LIceSway$Boat;") (by decide +kernel)
  have f_1 := hts (.fieldLink RX7 26 "IceSway" "now" "LIceSway$Winter;") (by decide +kernel)
  have f_2 := hts (.fieldLink RX7 128 "IceSway$Winter" "beat" "I") (by decide +kernel)
  have f_3 := hts (.fieldLink RX7 48 "IceSway" "trip" "LIceSway$Trip;") (by decide +kernel)
  have f_4 := hts (.fieldLink RX7 118 "IceSway$Winter" "yards" "LIceSway$Yards;") (by decide +kernel)
  have f_5 := hts (.constant RX7 74 (-1000000002)) (by decide +kernel)
  have hi7 : ∀ w ∈ u_ws RX7 TX7 10, w ∈ wsX7_horses := fun w h => List.mem_cons_of_mem _ (List.mem_append_left _ (List.mem_append_left _ (List.mem_append_left _ (List.mem_append_left _ (List.mem_append_right _ h)))))
  have hi5 : ∀ w ∈ u_ws RX5 TX5 4, w ∈ wsX7_horses := fun w h => List.mem_cons_of_mem _ (List.mem_append_left _ (List.mem_append_left _ (List.mem_append_left _ (List.mem_append_right _ h))))
  refine lv_iload_n hx hb dX7_horses_0 rfl (lv_at hl 1 rfl) ?_
  refine c_si (As := [.int t]) (rest := []) ⟨hx, hb, hml, hown, hts⟩ (k_X7_isOutOfDay l D c4 A ((iG ad fp) :: (wG ((ad 3) 0) ((ad 4) 0) bt nt sd) :: (bG c4 (ad 2) nb) :: (yG c4 (ad 4) (nI n) os kd ic br) :: (tG c4 (ad 8) bh mi fb ba) :: Ts) t) (va_cwS 1 hts gX7_horses_X7_isOutOfDay rfl rfl rfl (by decide +kernel) (rmv (Nat.le_of_ble_eq_true rfl) (Nat.le_of_ble_eq_true rfl) hRf hRl)) hK trivial hw rfl hl rfl (Nat.le_of_ble_eq_true rfl) ⟨Nat.zero_le _, Nat.zero_le _⟩ dX7_horses_1 (fun r_1 u_1 H locs hpq hw => ?_)
  obtain ⟨h0_1, h1_1⟩ := hpq
  refine lv_if_eq (tgt := 10) hx hb dX7_horses_4 (by decide) (fun c_4 => ?_) (fun c_4 => ?_)
  · refine lv_aload_n hx hb dX7_horses_10 rfl (lv_at hl 0 rfl) ?_
    refine r_get (T := TX7) (v := .ref ((ad 2) 0)) hx hb hts hi7 hown hK hw 0 rfl rfl 1 (by decide) f_0 rfl dX7_horses_11 ?_
    refine lv_aload_n hx hb dX7_horses_14 rfl (lv_at hl 0 rfl) ?_
    refine r_get (T := TX7) (v := .ref ((ad 3) 0)) hx hb hts hi7 hown hK hw 0 rfl rfl 2 (by decide) f_1 rfl dX7_horses_15 ?_
    refine r_get (T := TX5) (v := .int bt) hx hb hts hi5 hown hK hw 1 rfl rfl 1 (by decide) f_2 rfl dX7_horses_18 ?_
    refine lv_aload_n hx hb dX7_horses_21 rfl (lv_at hl 0 rfl) ?_
    refine r_get (T := TX7) (v := .ref ((ad 2) 0)) hx hb hts hi7 hown hK hw 0 rfl rfl 1 (by decide) f_0 rfl dX7_horses_22 ?_
    have hw := hw.m2
    refine c_vi (As := []) (rest := [.int bt, .ref ((ad 2) 0)]) ⟨hx, hb, hml, hown, hts⟩ (k_X0_laggardsTold l D c4 A ((iG ad fp) :: (wG ((ad 3) 0) ((ad 4) 0) bt nt sd) :: (yG c4 (ad 4) (nI n) os kd ic br) :: (tG c4 (ad 8) bh mi fb ba) :: Ts) (ad 2) nb) (cwV 0 hts gX7_horses_X0_laggardsTold rfl rfl rfl (by decide +kernel) (rmv (Nat.le_of_ble_eq_true rfl) (Nat.le_of_ble_eq_true rfl) hRf hRl)) hK trivial hw rfl rfl rfl hl rfl (Nat.le_of_ble_eq_true rfl) ⟨Nat.zero_le _, Nat.zero_le _⟩ dX7_horses_25 (fun r_25 u_25 H locs hpq hw => ?_)
    have er_25 := hpq
    subst er_25
    refine c_vi (As := [.int bt, .int (nb 3)]) (rest := []) ⟨hx, hb, hml, hown, hts⟩ (k_X0_swayBy l D c4 A ((iG ad fp) :: (wG ((ad 3) 0) ((ad 4) 0) bt nt sd) :: (yG c4 (ad 4) (nI n) os kd ic br) :: (tG c4 (ad 8) bh mi fb ba) :: Ts) (ad 2) nb bt (nb 3)) (cwV 2 hts gX7_horses_X0_swayBy rfl rfl rfl (by decide +kernel) (rmv (Nat.le_of_ble_eq_true rfl) (Nat.le_of_ble_eq_true rfl) hRf hRl)) hK trivial hw rfl rfl rfl hl rfl (Nat.le_of_ble_eq_true rfl) ⟨Nat.zero_le _, Nat.zero_le _⟩ dX7_horses_28 (fun r_28 u_28 H locs hpq hw => ?_)
    have er_28 := hpq
    subst er_28
    refine lv_istore_n (lv' := [(2, .int (pSway (nb 1) (nb 2) (nb 3) bt)), (0, .ref ((ad 0) 0)), (1, .int t)]) hx hb dX7_horses_31 rfl hl (by decide) rfl (fun ls hl => ?_)
    refine lv_iconst (v := 1) hx hb dX7_horses_32 (by decide) ?_
    refine lv_istore_n (lv' := [(3, .int 1), (2, .int (pSway (nb 1) (nb 2) (nb 3) bt)), (0, .ref ((ad 0) 0)), (1, .int t)]) hx hb dX7_horses_33 rfl hl (by decide) rfl (fun ls hl => ?_)
    have loop_34 : ∀ (fuel : Nat) (h : Nat) (bh1 : Int32) (mi1 : Int32) (fb1 : Int32) (ba1 : Nat → Int32), (13 - h) < fuel → (1 ≤ h) → (h ≤ 13) → (∀ j, j < h → ¬ (1 ≤ j ∧ psQ (4 * nI j + pSway (nb 1) (nb 2) (nb 3) bt) (nb 5) t q n)) → ∀ (H : Heap) (locs : List Loc), gW D A js.heap ((bG c4 (ad 2) nb) :: (iG ad fp) :: (wG ((ad 3) 0) ((ad 4) 0) bt nt sd) :: (yG c4 (ad 4) (nI n) os kd ic br) :: (tG c4 (ad 8) bh1 mi1 fb1 ba1) :: Ts) H locs → ∀ (ls : Array Slot), lv_has ls 4 [(3, .int (nI h)), (2, .int (pSway (nb 1) (nb 2) (nb 3) bt)), (0, .ref ((ad 0) 0)), (1, .int t)] → W jp l je R js jm args below meth jc H locs 0 0 Q (F0 jm 34 ls []) := by
      intro fuel
      induction fuel with
      | zero => intro h bh1 mi1 fb1 ba1 hm; exact absurd hm (Nat.not_lt_zero _)
      | succ fuel ih_34 =>
        intro h bh1 mi1 fb1 ba1 hm_34 hh1 hh hN H locs hw ls hl
        refine lv_iload_n hx hb dX7_horses_34 rfl (lv_at hl 0 rfl) ?_
        refine lv_bipush (v := 12) hx hb dX7_horses_35 (by decide) ?_
        refine r_cgt hx hb h 12 (by omega) (by omega) (tgt := 78) dX7_horses_37 (by decide) (fun c_37 => ?_) (fun c_37 => ?_)
        · refine lv_iconst (v := (-1)) hx hb dX7_horses_78 (by decide) ?_
          have hw := hw.m4
          have hw := hw.m4
          have hw := hw.m2
          have hw := hw.m4
          have hw := hw.m4
          exact kr (-1) (bh1, mi1, fb1, ba1) _ _ _ _ hw ⟨fun _ => Or.inr ⟨fun j hj => hN j (by omega), rfl⟩, fun z => absurd (h0_1 c_4) z⟩ dX7_horses_79
        · refine lv_aload_n hx hb dX7_horses_40 rfl (lv_at hl 2 rfl) ?_
          refine r_get (T := TX7) (v := .ref ((ad 8) 0)) hx hb hts hi7 hown hK hw 2 rfl rfl 6 (by decide) f_3 rfl dX7_horses_41 ?_
          refine lv_aload_n hx hb dX7_horses_44 rfl (lv_at hl 2 rfl) ?_
          refine r_get (T := TX7) (v := .ref ((ad 3) 0)) hx hb hts hi7 hown hK hw 2 rfl rfl 2 (by decide) f_1 rfl dX7_horses_45 ?_
          refine r_get (T := TX5) (v := .ref ((ad 4) 0)) hx hb hts hi5 hown hK hw 3 rfl rfl 0 (by decide) f_4 rfl dX7_horses_48 ?_
          refine lv_iload_n hx hb dX7_horses_51 rfl (lv_at hl 0 rfl) ?_
          refine lv_iload_n hx hb dX7_horses_52 rfl (lv_at hl 1 rfl) ?_
          refine c_si (As := [.int (nI h), .int (pSway (nb 1) (nb 2) (nb 3) bt)]) (rest := [.ref ((ad 4) 0), .ref ((ad 8) 0)]) ⟨hx, hb, hml, hown, hts⟩ (k_X0_forceOf l D c4 A ((bG c4 (ad 2) nb) :: (iG ad fp) :: (wG ((ad 3) 0) ((ad 4) 0) bt nt sd) :: (yG c4 (ad 4) (nI n) os kd ic br) :: (tG c4 (ad 8) bh1 mi1 fb1 ba1) :: Ts) (nI h) (pSway (nb 1) (nb 2) (nb 3) bt)) (va_cwS 2 hts gX7_horses_X0_forceOf rfl rfl rfl (by decide +kernel) (rmv (Nat.le_of_ble_eq_true rfl) (Nat.le_of_ble_eq_true rfl) hRf hRl)) hK trivial hw rfl hl rfl (Nat.le_of_ble_eq_true rfl) ⟨Nat.zero_le _, Nat.zero_le _⟩ dX7_horses_53 (fun r_53 u_53 H locs hpq hw => ?_)
          have er_53 := hpq
          subst er_53
          refine lv_aload_n hx hb dX7_horses_56 rfl (lv_at hl 2 rfl) ?_
          refine r_get (T := TX7) (v := .ref ((ad 2) 0)) hx hb hts hi7 hown hK hw 2 rfl rfl 1 (by decide) f_0 rfl dX7_horses_57 ?_
          refine c_vi (As := []) (rest := [.int (4 * (nI h) + (pSway (nb 1) (nb 2) (nb 3) bt)), .ref ((ad 4) 0), .ref ((ad 8) 0)]) ⟨hx, hb, hml, hown, hts⟩ (k_X0_axeMinutes l D c4 A ((iG ad fp) :: (wG ((ad 3) 0) ((ad 4) 0) bt nt sd) :: (yG c4 (ad 4) (nI n) os kd ic br) :: (tG c4 (ad 8) bh1 mi1 fb1 ba1) :: Ts) (ad 2) nb) (cwV 0 hts gX7_horses_X0_axeMinutes rfl rfl rfl (by decide +kernel) (rmv (Nat.le_of_ble_eq_true rfl) (Nat.le_of_ble_eq_true rfl) hRf hRl)) hK trivial hw rfl rfl rfl hl rfl (Nat.le_of_ble_eq_true rfl) ⟨Nat.zero_le _, Nat.zero_le _⟩ dX7_horses_60 (fun r_60 u_60 H locs hpq hw => ?_)
          have er_60 := hpq
          subst er_60
          refine lv_iload_n hx hb dX7_horses_63 rfl (lv_at hl 3 rfl) ?_
          have hw := hw.m3
          have hw := hw.m4
          refine c_vi (As := [.ref ((ad 4) 0), .int (4 * (nI h) + (pSway (nb 1) (nb 2) (nb 3) bt)), .int (nb 5), .int t]) (rest := []) ⟨hx, hb, hml, hown, hts⟩ (k_X4_passes l D c4 A ((bG c4 (ad 2) nb) :: (iG ad fp) :: (wG ((ad 3) 0) ((ad 4) 0) bt nt sd) :: Ts) (ad 8) bh1 mi1 fb1 ba1 (ad 4) n os kd ic br q (4 * (nI h) + (pSway (nb 1) (nb 2) (nb 3) bt)) (nb 5) t hn hY ⟨force_of (rng_nI (a := 1) (b := 12) (by omega) (by omega) (by decide)) (sway_rng htl.2.1 htl.2.2.2.1), htl.2.2.2.2.2.1⟩) (cwV 4 hts gX7_horses_X4_passes rfl rfl rfl (by decide +kernel) (rmv (Nat.le_of_ble_eq_true rfl) (Nat.le_of_ble_eq_true rfl) hRf hRl)) hK trivial hw rfl rfl rfl hl rfl (Nat.le_of_ble_eq_true rfl) ⟨Nat.zero_le _, Nat.zero_le _⟩ dX7_horses_64 (fun r_64 u_64 H locs hpq hw => ?_)
          obtain ⟨b2_64, ba2_64⟩ := u_64
          have hw : gW D A js.heap ((tG c4 (ad 8) (nI b2_64) (cumQ (4 * (nI h) + (pSway (nb 1) (nb 2) (nb 3) bt)) (nb 5) q b2_64) (fbQ q b2_64) ba2_64) :: (yG c4 (ad 4) (nI n) os kd ic br) :: (bG c4 (ad 2) nb) :: (iG ad fp) :: (wG ((ad 3) 0) ((ad 4) 0) bt nt sd) :: Ts) H locs := hw
          obtain ⟨h0_64, h1_64, hb2_64, hba_64⟩ := hpq
          have h0_64 : r_64 = 0 → ¬ b2_64 = n := h0_64
          have h1_64 : ¬ r_64 = 0 → b2_64 = n := h1_64
          have hb2_64 : b2_64 = bhQ (4 * (nI h) + (pSway (nb 1) (nb 2) (nb 3) bt)) (nb 5) t q n := hb2_64
          have hba_64 : ∀ k, k < b2_64 → ba2_64 k = cumQ (4 * (nI h) + (pSway (nb 1) (nb 2) (nb 3) bt)) (nb 5) q (k + 1) := hba_64
          refine lv_if_eq (tgt := 72) hx hb dX7_horses_67 (by decide) (fun c_67 => ?_) (fun c_67 => ?_)
          · refine lv_iinc (v := (nI (h + 1))) (lv' := [(3, .int (nI (h + 1))), (2, .int (pSway (nb 1) (nb 2) (nb 3) bt)), (0, .ref ((ad 0) 0)), (1, .int t)]) hx hb dX7_horses_72 hl (k := 0) rfl (nI_add _ _) (by decide) rfl (fun ls hl => ?_)
            refine lv_goto (tgt := 34) hx hb dX7_horses_75 (by decide) ?_
            have hw := hw.m1
            have hw := hw.m4
            have hw := hw.m4
            have hw := hw.m4
            exact ih_34 (h + 1) (nI b2_64) (cumQ (4 * (nI h) + (pSway (nb 1) (nb 2) (nb 3) bt)) (nb 5) q b2_64) (fbQ q b2_64) ba2_64 (by omega) (by omega) (by omega) (lt_s hN (fun z => h0_64 c_67 (hb2_64.trans z.2))) _ _ hw ls (lv_sub hl [0, 1, 2, 3] rfl)
          · refine lv_iload_n hx hb dX7_horses_70 rfl (lv_at hl 0 rfl) ?_
            have hw := hw.m1
            have hw := hw.m2
            have hw := hw.m4
            have hw := hw.m4
            exact kr (nI h) ((nI b2_64), (cumQ (4 * (nI h) + (pSway (nb 1) (nb 2) (nb 3) bt)) (nb 5) q b2_64), (fbQ q b2_64), ba2_64) _ _ _ _ hw ⟨fun _ => Or.inl ⟨h, by omega, ⟨hh1, hb2_64.symm.trans (h1_64 c_67)⟩, hN, rfl⟩, fun z => absurd (h0_1 c_4) z⟩ dX7_horses_71
    exact loop_34 ((13 - 1) + 1) 1 bh mi fb ba (Nat.lt_succ_self _) (Nat.le_refl 1) (by omega) (fun j h z => by omega) _ _ hw ls (lv_sub hl [0, 1, 2, 3] rfl)
  · refine lv_ldc hx hb hown f_5 dX7_horses_7 ?_
    exact kr (-1000000002) (bh, mi, fb, ba) _ _ _ _ hw ⟨fun z => absurd z (notR (h1_1 c_4)), fun _ => rfl⟩ dX7_horses_9
set_option maxHeartbeats 4000000 in
set_option maxRecDepth 100000 in
theorem k_X7_string (l : Launch) (D : va_G) (c4 : Nat → ClassId) (A : Nat → Prop) (Ts : List va_W) (ad : Nat → Nat → Nat) (fp : Int32) (bt : Int32) (nt : Int32) (sd : Int32) (nb : Nat → Int32) (n : Nat) (os : Int32) (kd : Nat → Int32) (ic : Nat → Int32) (br : Nat → Int32) (q : Nat → Yq) (bh : Int32) (mi : Int32) (fb : Int32) (ba : Nat → Int32) (t : Int32) (k : Int32) (hn : n ≤ 12) (hY : yR q n os kd ic br) (htl : tlOk nb) : Ci l yX7_string wsX7_string 5 100 [.ref ((ad 0) 0), .int t, .int k] D (tyA c4) A none ((iG ad fp) :: (wG ((ad 3) 0) ((ad 4) 0) bt nt sd) :: (bG c4 (ad 2) nb) :: (yG c4 (ad 4) (nI n) os kd ic br) :: (tG c4 (ad 8) bh mi fb ba) :: Ts) (S := Int32 × Int32 × Int32 × (Nat → Int32)) (fun (r : Int32) (u : Int32 × Int32 × Int32 × (Nat → Int32)) => r = (strF t k (pForce nb bt) (nb 5) (nb 4) q n)) (fun u => ((iG ad fp) :: (wG ((ad 3) 0) ((ad 4) 0) bt nt sd) :: (bG c4 (ad 2) nb) :: (yG c4 (ad 4) (nI n) os kd ic br) :: (tG c4 (ad 8) u.1 u.2.1 u.2.2.1 u.2.2.2) :: Ts)) := by
  refine cOi (cc := cX7_string) (maxL := 3) (by decide) rfl (Nat.le_of_ble_eq_true rfl) rfl ?_
  rintro jp je js jm below meth jc ls args R Q H locs hRf hRl ⟨hx, hb, hml, hr, hts, hown, hlocks, hK, hX⟩ hw hl kr
  have hown : js.vm.findClass RX7 = some jm.cls := hown
  have f_0 := hts (.constant RX7 74 (-1000000002)) (by decide +kernel)
  have f_1 := hts (.fieldLink RX7 48 "IceSway" "trip" "LIceSway$Trip;") (by decide +kernel)
  have f_2 := hts (.fieldLink RX7 214 "IceSway$Trip" "firstBroken" "I") (by decide +kernel)
  have f_3 := hts (.fieldLink RX7 19 "IceSway" "boat" "LIceSway$Boat;") (by decide +kernel)
  have hi7 : ∀ w ∈ u_ws RX7 TX7 10, w ∈ wsX7_string := fun w h => List.mem_cons_of_mem _ (List.mem_append_left _ (List.mem_append_left _ (List.mem_append_left _ (List.mem_append_left _ (List.mem_append_right _ h)))))
  have hi4 : ∀ w ∈ u_ws RX4 TX4 4, w ∈ wsX7_string := fun w h => List.mem_cons_of_mem _ (List.mem_append_left _ (List.mem_append_left _ (List.mem_append_left _ (List.mem_append_right _ h))))
  refine lv_iload_n hx hb dX7_string_0 rfl (lv_at hl 1 rfl) ?_
  refine c_si (As := [.int t]) (rest := []) ⟨hx, hb, hml, hown, hts⟩ (k_X7_isOutOfDay l D c4 A ((iG ad fp) :: (wG ((ad 3) 0) ((ad 4) 0) bt nt sd) :: (bG c4 (ad 2) nb) :: (yG c4 (ad 4) (nI n) os kd ic br) :: (tG c4 (ad 8) bh mi fb ba) :: Ts) t) (va_cwS 1 hts gX7_string_X7_isOutOfDay rfl rfl rfl (by decide +kernel) (rmv (Nat.le_of_ble_eq_true rfl) (Nat.le_of_ble_eq_true rfl) hRf hRl)) hK trivial hw rfl hl rfl (Nat.le_of_ble_eq_true rfl) ⟨Nat.zero_le _, Nat.zero_le _⟩ dX7_string_1 (fun r_1 u_1 H locs hpq hw => ?_)
  obtain ⟨h0_1, h1_1⟩ := hpq
  refine lv_if_ne (tgt := 17) hx hb dX7_string_4 (by decide) (fun c_4 => ?_) (fun c_4 => ?_)
  · refine lv_ldc hx hb hown f_0 dX7_string_17 ?_
    exact kr (-1000000002) (bh, mi, fb, ba) _ _ _ _ hw (by unfold strF; rw [if_neg (notR (h1_1 c_4))]) dX7_string_19
  · refine lv_iload_n hx hb dX7_string_7 rfl (lv_at hl 2 rfl) ?_
    refine lv_iconst (v := 1) hx hb dX7_string_8 (by decide) ?_
    refine lv_bipush (v := 99) hx hb dX7_string_9 (by decide) ?_
    refine c_si (As := [.int k, .int 1, .int 99]) (rest := []) ⟨hx, hb, hml, hown, hts⟩ (k_X7_isOut l D c4 A ((iG ad fp) :: (wG ((ad 3) 0) ((ad 4) 0) bt nt sd) :: (bG c4 (ad 2) nb) :: (yG c4 (ad 4) (nI n) os kd ic br) :: (tG c4 (ad 8) bh mi fb ba) :: Ts) k 1 99) (va_cwS 3 hts gX7_string_X7_isOut rfl rfl rfl (by decide +kernel) (rmv (Nat.le_of_ble_eq_true rfl) (Nat.le_of_ble_eq_true rfl) hRf hRl)) hK trivial hw rfl hl rfl (Nat.le_of_ble_eq_true rfl) ⟨Nat.zero_le _, Nat.zero_le _⟩ dX7_string_11 (fun r_11 u_11 H locs hpq hw => ?_)
    obtain ⟨h0_11, h1_11, hz_11⟩ := hpq
    refine lv_if_eq (tgt := 20) hx hb dX7_string_14 (by decide) (fun c_14 => ?_) (fun c_14 => ?_)
    · refine lv_aload_n hx hb dX7_string_20 rfl (lv_at hl 0 rfl) ?_
      refine lv_iload_n hx hb dX7_string_21 rfl (lv_at hl 1 rfl) ?_
      have hw := hw.m4
      have hw := hw.m4
      have hw := hw.m4
      have hw := hw.m4
      have hw := hw.m4
      refine c_vv (As := [.int t]) (rest := []) ⟨hx, hb, hml, hown, hts⟩ (k_X7_goFromNow l D c4 A Ts ad fp bt nt sd nb n os kd ic br q bh mi fb ba t hn hY htl) (cwV 1 hts gX7_string_X7_goFromNow rfl rfl rfl (by decide +kernel) (rmv (Nat.le_of_ble_eq_true rfl) (Nat.le_of_ble_eq_true rfl) hRf hRl)) hK trivial hw rfl rfl rfl hl rfl (Nat.le_of_ble_eq_true rfl) ⟨Nat.zero_le _, Nat.zero_le _⟩ dX7_string_22 (fun u_22 H locs hpq hw => ?_)
      obtain ⟨b2_22, ba2_22⟩ := u_22
      have hw : gW D A js.heap ((iG ad fp) :: (wG ((ad 3) 0) ((ad 4) 0) bt nt sd) :: (bG c4 (ad 2) nb) :: (yG c4 (ad 4) (nI n) os kd ic br) :: (tG c4 (ad 8) (nI b2_22) (cumQ (pForce nb bt) (nb 5) q b2_22) (fbQ q b2_22) ba2_22) :: Ts) H locs := hw
      obtain ⟨hb2_22, hba_22⟩ := hpq
      have hb2_22 : b2_22 = bhQ (pForce nb bt) (nb 5) t q n := hb2_22
      have hba_22 : ∀ k, k < b2_22 → ba2_22 k = cumQ (pForce nb bt) (nb 5) q (k + 1) := hba_22
      refine lv_aload_n hx hb dX7_string_25 rfl (lv_at hl 0 rfl) ?_
      refine r_get (T := TX7) (v := .ref ((ad 8) 0)) hx hb hts hi7 hown hK hw 0 rfl rfl 6 (by decide) f_1 rfl dX7_string_26 ?_
      refine r_get (T := TX4) (v := .int (fbQ q b2_22)) hx hb hts hi4 hown hK hw 8 rfl rfl 2 (by decide) f_2 rfl dX7_string_29 ?_
      refine lv_iconst (v := (-1)) hx hb dX7_string_32 (by decide) ?_
      refine lv_icmp_ne (tgt := 38) hx hb dX7_string_33 (by decide) (fun c_33 => ?_) (fun c_33 => ?_)
      · refine lv_aload_n hx hb dX7_string_38 rfl (lv_at hl 0 rfl) ?_
        refine r_get (T := TX7) (v := .ref ((ad 2) 0)) hx hb hts hi7 hown hK hw 0 rfl rfl 1 (by decide) f_3 rfl dX7_string_39 ?_
        have hw := hw.m2
        refine c_vi (As := []) (rest := []) ⟨hx, hb, hml, hown, hts⟩ (k_X0_gapMinutes l D c4 A ((iG ad fp) :: (wG ((ad 3) 0) ((ad 4) 0) bt nt sd) :: (yG c4 (ad 4) (nI n) os kd ic br) :: (tG c4 (ad 8) (nI b2_22) (cumQ (pForce nb bt) (nb 5) q b2_22) (fbQ q b2_22) ba2_22) :: Ts) (ad 2) nb) (cwV 0 hts gX7_string_X0_gapMinutes rfl rfl rfl (by decide +kernel) (rmv (Nat.le_of_ble_eq_true rfl) (Nat.le_of_ble_eq_true rfl) hRf hRl)) hK trivial hw rfl rfl rfl hl rfl (Nat.le_of_ble_eq_true rfl) ⟨Nat.zero_le _, Nat.zero_le _⟩ dX7_string_42 (fun r_42 u_42 H locs hpq hw => ?_)
        have er_42 := hpq
        subst er_42
        refine lv_iconst (v := 1) hx hb dX7_string_45 (by decide) ?_
        refine lv_isub hx hb dX7_string_46 ?_
        refine lv_iload_n hx hb dX7_string_47 rfl (lv_at hl 2 rfl) ?_
        refine lv_idiv hx hb dX7_string_48 (fun z => (h0_11 c_14).1 (by rw [z]; decide)) ?_
        have hw := hw.m4
        have hw := hw.m4
        have hw := hw.m2
        have hw := hw.m4
        have hw := hw.m4
        exact kr (((nb 4) - 1) / k) ((nI b2_22), (cumQ (pForce nb bt) (nb 5) q b2_22), (fbQ q b2_22), ba2_22) _ _ _ _ hw (by unfold strF; rw [if_pos (h0_1 c_4), if_pos (h0_11 c_14), ← hb2_22, if_neg c_33]) dX7_string_49
      · refine lv_iconst (v := (-1)) hx hb dX7_string_36 (by decide) ?_
        exact kr (-1) ((nI b2_22), (cumQ (pForce nb bt) (nb 5) q b2_22), (fbQ q b2_22), ba2_22) _ _ _ _ hw (by unfold strF; rw [if_pos (h0_1 c_4), if_pos (h0_11 c_14), ← hb2_22, if_pos c_33]) dX7_string_37
    · refine lv_ldc hx hb hown f_0 dX7_string_17 ?_
      exact kr (-1000000002) (bh, mi, fb, ba) _ _ _ _ hw (by unfold strF; rw [if_pos (h0_1 c_4), if_neg (notR (h1_11 c_14))]) dX7_string_19
set_option maxHeartbeats 4000000 in
set_option maxRecDepth 100000 in
theorem k_X7_turn (l : Launch) (D : va_G) (c4 : Nat → ClassId) (A : Nat → Prop) (Ts : List va_W) (ad : Nat → Nat → Nat) (fp : Int32) (bt : Int32) (nt : Int32) (sd : Int32) (nb : Nat → Int32) (n : Nat) (os : Int32) (kd : Nat → Int32) (ic : Nat → Int32) (br : Nat → Int32) (q : Nat → Yq) (bh : Int32) (mi : Int32) (fb : Int32) (ba : Nat → Int32) (t : Int32) (hn : n ≤ 12) (hY : yR q n os kd ic br) (htl : tlOk nb) : Ci l yX7_turn wsX7_turn 5 100 [.ref ((ad 0) 0), .int t] D (tyA c4) A none ((iG ad fp) :: (wG ((ad 3) 0) ((ad 4) 0) bt nt sd) :: (bG c4 (ad 2) nb) :: (yG c4 (ad 4) (nI n) os kd ic br) :: (tG c4 (ad 8) bh mi fb ba) :: Ts) (S := Int32 × Int32 × Int32 × (Nat → Int32)) (fun (r : Int32) (u : Int32 × Int32 × Int32 × (Nat → Int32)) => turnP t (pForce nb bt) (nb 5) (nb 4) q n r) (fun u => ((iG ad fp) :: (wG ((ad 3) 0) ((ad 4) 0) bt nt sd) :: (bG c4 (ad 2) nb) :: (yG c4 (ad 4) (nI n) os kd ic br) :: (tG c4 (ad 8) u.1 u.2.1 u.2.2.1 u.2.2.2) :: Ts)) := by
  refine cOi (cc := cX7_turn) (maxL := 2) (by decide) rfl (Nat.le_of_ble_eq_true rfl) rfl ?_
  rintro jp je js jm below meth jc ls args R Q H locs hRf hRl ⟨hx, hb, hml, hr, hts, hown, hlocks, hK, hX⟩ hw hl kr
  have hown : js.vm.findClass RX7 = some jm.cls := hown
  have f_0 := hts (.fieldLink RX7 48 "IceSway" "trip" "LIceSway$Trip;") (by decide +kernel)
  have f_1 := hts (.fieldLink RX7 19 "IceSway" "boat" "LIceSway$Boat;") (by decide +kernel)
  have f_2 := hts (.constant RX7 74 (-1000000002)) (by decide +kernel)
  have hi7 : ∀ w ∈ u_ws RX7 TX7 10, w ∈ wsX7_turn := fun w h => List.mem_cons_of_mem _ (List.mem_append_left _ (List.mem_append_left _ (List.mem_append_left _ (List.mem_append_left _ (List.mem_append_right _ h)))))
  refine lv_iload_n hx hb dX7_turn_0 rfl (lv_at hl 1 rfl) ?_
  refine c_si (As := [.int t]) (rest := []) ⟨hx, hb, hml, hown, hts⟩ (k_X7_isOutOfDay l D c4 A ((iG ad fp) :: (wG ((ad 3) 0) ((ad 4) 0) bt nt sd) :: (bG c4 (ad 2) nb) :: (yG c4 (ad 4) (nI n) os kd ic br) :: (tG c4 (ad 8) bh mi fb ba) :: Ts) t) (va_cwS 1 hts gX7_turn_X7_isOutOfDay rfl rfl rfl (by decide +kernel) (rmv (Nat.le_of_ble_eq_true rfl) (Nat.le_of_ble_eq_true rfl) hRf hRl)) hK trivial hw rfl hl rfl (Nat.le_of_ble_eq_true rfl) ⟨Nat.zero_le _, Nat.zero_le _⟩ dX7_turn_1 (fun r_1 u_1 H locs hpq hw => ?_)
  obtain ⟨h0_1, h1_1⟩ := hpq
  refine lv_if_eq (tgt := 10) hx hb dX7_turn_4 (by decide) (fun c_4 => ?_) (fun c_4 => ?_)
  · refine lv_aload_n hx hb dX7_turn_10 rfl (lv_at hl 0 rfl) ?_
    refine lv_iload_n hx hb dX7_turn_11 rfl (lv_at hl 1 rfl) ?_
    have hw := hw.m4
    have hw := hw.m4
    have hw := hw.m4
    have hw := hw.m4
    have hw := hw.m4
    refine c_vv (As := [.int t]) (rest := []) ⟨hx, hb, hml, hown, hts⟩ (k_X7_goFromNow l D c4 A Ts ad fp bt nt sd nb n os kd ic br q bh mi fb ba t hn hY htl) (cwV 1 hts gX7_turn_X7_goFromNow rfl rfl rfl (by decide +kernel) (rmv (Nat.le_of_ble_eq_true rfl) (Nat.le_of_ble_eq_true rfl) hRf hRl)) hK trivial hw rfl rfl rfl hl rfl (Nat.le_of_ble_eq_true rfl) ⟨Nat.zero_le _, Nat.zero_le _⟩ dX7_turn_12 (fun u_12 H locs hpq hw => ?_)
    obtain ⟨b2_12, ba2_12⟩ := u_12
    have hw : gW D A js.heap ((iG ad fp) :: (wG ((ad 3) 0) ((ad 4) 0) bt nt sd) :: (bG c4 (ad 2) nb) :: (yG c4 (ad 4) (nI n) os kd ic br) :: (tG c4 (ad 8) (nI b2_12) (cumQ (pForce nb bt) (nb 5) q b2_12) (fbQ q b2_12) ba2_12) :: Ts) H locs := hw
    obtain ⟨hb2_12, hba_12⟩ := hpq
    have hb2_12 : b2_12 = bhQ (pForce nb bt) (nb 5) t q n := hb2_12
    have hba_12 : ∀ k, k < b2_12 → ba2_12 k = cumQ (pForce nb bt) (nb 5) q (k + 1) := hba_12
    have hbn : b2_12 ≤ n := by rw [hb2_12]; exact bh_le _ _ _ _ _
    refine lv_aload_n hx hb dX7_turn_15 rfl (lv_at hl 0 rfl) ?_
    refine r_get (T := TX7) (v := .ref ((ad 8) 0)) hx hb hts hi7 hown hK hw 0 rfl rfl 6 (by decide) f_0 rfl dX7_turn_16 ?_
    refine lv_iload_n hx hb dX7_turn_19 rfl (lv_at hl 1 rfl) ?_
    refine lv_aload_n hx hb dX7_turn_20 rfl (lv_at hl 0 rfl) ?_
    refine r_get (T := TX7) (v := .ref ((ad 2) 0)) hx hb hts hi7 hown hK hw 0 rfl rfl 1 (by decide) f_1 rfl dX7_turn_21 ?_
    have hw := hw.m2
    refine c_vi (As := []) (rest := [.int t, .ref ((ad 8) 0)]) ⟨hx, hb, hml, hown, hts⟩ (k_X0_gapMinutes l D c4 A ((iG ad fp) :: (wG ((ad 3) 0) ((ad 4) 0) bt nt sd) :: (yG c4 (ad 4) (nI n) os kd ic br) :: (tG c4 (ad 8) (nI b2_12) (cumQ (pForce nb bt) (nb 5) q b2_12) (fbQ q b2_12) ba2_12) :: Ts) (ad 2) nb) (cwV 0 hts gX7_turn_X0_gapMinutes rfl rfl rfl (by decide +kernel) (rmv (Nat.le_of_ble_eq_true rfl) (Nat.le_of_ble_eq_true rfl) hRf hRl)) hK trivial hw rfl rfl rfl hl rfl (Nat.le_of_ble_eq_true rfl) ⟨Nat.zero_le _, Nat.zero_le _⟩ dX7_turn_24 (fun r_24 u_24 H locs hpq hw => ?_)
    have er_24 := hpq
    subst er_24
    have hw := hw.m4
    refine c_vi (As := [.int t, .int (nb 4)]) (rest := []) ⟨hx, hb, hml, hown, hts⟩ (k_X4_furthestTurn l D c4 A ((bG c4 (ad 2) nb) :: (iG ad fp) :: (wG ((ad 3) 0) ((ad 4) 0) bt nt sd) :: (yG c4 (ad 4) (nI n) os kd ic br) :: Ts) (ad 8) b2_12 (cumQ (pForce nb bt) (nb 5) q b2_12) (fbQ q b2_12) ba2_12 t (nb 4) (by omega) (fb_12 (by omega))) (cwV 2 hts gX7_turn_X4_furthestTurn rfl rfl rfl (by decide +kernel) (rmv (Nat.le_of_ble_eq_true rfl) (Nat.le_of_ble_eq_true rfl) hRf hRl)) hK trivial hw rfl rfl rfl hl rfl (Nat.le_of_ble_eq_true rfl) ⟨Nat.zero_le _, Nat.zero_le _⟩ dX7_turn_27 (fun r_27 u_27 H locs hpq hw => ?_)
    have hT_27 := hpq
    have hw := hw.m4
    have hw := hw.m2
    have hw := hw.m4
    have hw := hw.m4
    exact kr r_27 ((nI b2_12), (cumQ (pForce nb bt) (nb 5) q b2_12), (fbQ q b2_12), ba2_12) _ _ _ _ hw ⟨fun _ => by obtain ⟨k, e, hl2⟩ := hT_27; rw [← hb2_12]; exact ⟨k, e, hl2.congr (tn_congr (by omega) hba_12 (fb_is q b2_12))⟩, fun z => absurd (h0_1 c_4) z⟩ dX7_turn_30
  · refine lv_ldc hx hb hown f_2 dX7_turn_7 ?_
    exact kr (-1000000002) (bh, mi, fb, ba) _ _ _ _ hw ⟨fun z => absurd z (notR (h1_1 c_4)), fun _ => rfl⟩ dX7_turn_9
