set_option maxHeartbeats 4000000 in
set_option maxRecDepth 100000 in
theorem k_X1_clearAll (l : Launch) (D : va_G) (c4 : Nat → ClassId) (A : Nat → Prop) (Ts : List va_W) (a : Nat → Nat) (bc : Nat) (ec : Nat) (by0 : Nat → Int32) (bn : Nat → Int32) (bd : Nat → Int32) (bi : Nat → Int32) (ey : Nat → Int32) (ei : Nat → Int32) : Cv l yX1_clearAll wsX1_clearAll 0 0 [.ref (a 0)] D (tyA c4) A none ((rG c4 a (nI bc) (nI ec) by0 bn bd bi ey ei) :: Ts) (S := Unit) (fun (u : Unit) => True) (fun u => ((rG c4 a 0 0 by0 bn bd bi ey ei) :: Ts)) := by
  refine cOv (cc := cX1_clearAll) (maxL := 1) (by decide) rfl (Nat.le_of_ble_eq_true rfl) rfl ?_
  rintro jp je js jm below meth jc ls args R Q H locs hRf hRl ⟨hx, hb, hml, hr, hts, hown, hlocks, hK, hX⟩ hw hl kr
  have hown : js.vm.findClass RX1 = some jm.cls := hown
  have f_0 := hts (.fieldLink RX1 30 "IceSway$Records" "boredCount" "I") (by decide +kernel)
  have f_1 := hts (.fieldLink RX1 34 "IceSway$Records" "entryCount" "I") (by decide +kernel)
  have hi1 : ∀ w ∈ u_ws RX1 TX1 8, w ∈ wsX1_clearAll := fun w h => List.mem_cons_of_mem _ (List.mem_append_right _ h)
  refine lv_aload_n hx hb dX1_clearAll_0 rfl (lv_at hl 0 rfl) ?_
  refine lv_iconst (v := 0) hx hb dX1_clearAll_1 (by decide) ?_
  refine r_put (T := TX1) (G' := ((rG c4 a 0 (nI ec) by0 bn bd bi ey ei) :: Ts)) hx hb hts hi1 tyX1 tyX1_ok nmX1 hown hK hw 0 rfl rfl 0 (by decide) f_0 rfl rfl (Nat.le_of_ble_eq_true rfl) rfl dX1_clearAll_2 (fun H locs hw => ?_)
  refine lv_aload_n hx hb dX1_clearAll_5 rfl (lv_at hl 0 rfl) ?_
  refine lv_iconst (v := 0) hx hb dX1_clearAll_6 (by decide) ?_
  refine r_put (T := TX1) (G' := ((rG c4 a 0 0 by0 bn bd bi ey ei) :: Ts)) hx hb hts hi1 tyX1 tyX1_ok nmX1 hown hK hw 0 rfl rfl 1 (by decide) f_1 rfl rfl (Nat.le_of_ble_eq_true rfl) rfl dX1_clearAll_7 (fun H locs hw => ?_)
  exact kr () _ _ _ _ hw trivial dX1_clearAll_10
set_option maxHeartbeats 4000000 in
set_option maxRecDepth 100000 in
theorem k_X1_addBored (l : Launch) (D : va_G) (c4 : Nat → ClassId) (A : Nat → Prop) (Ts : List va_W) (a : Nat → Nat) (bc : Nat) (ec : Nat) (by0 : Nat → Int32) (bn : Nat → Int32) (bd : Nat → Int32) (bi : Nat → Int32) (ey : Nat → Int32) (ei : Nat → Int32) (y : Int32) (k : Int32) (c : Int32) (v : Int32) (hbc : bc ≤ 10) : Ci l yX1_addBored wsX1_addBored 0 0 [.ref (a 0), .int y, .int k, .int c, .int v] D (tyA c4) A none ((rG c4 a (nI bc) (nI ec) by0 bn bd bi ey ei) :: Ts) (S := Nat × (Nat → Int32) × (Nat → Int32) × (Nat → Int32) × (Nat → Int32)) (fun (r : Int32) (u : Nat × (Nat → Int32) × (Nat → Int32) × (Nat → Int32) × (Nat → Int32)) => (bc < 10 → r = 1 ∧ u.1 = bc + 1 ∧ u.2.1 = upd by0 bc y ∧ u.2.2.1 = upd bn bc k ∧ u.2.2.2.1 = upd bd bc c ∧ u.2.2.2.2 = upd bi bc v) ∧ (¬ bc < 10 → r = 0 ∧ u.1 = bc ∧ u.2.1 = by0 ∧ u.2.2.1 = bn ∧ u.2.2.2.1 = bd ∧ u.2.2.2.2 = bi)) (fun u => ((rG c4 a (nI u.1) (nI ec) u.2.1 u.2.2.1 u.2.2.2.1 u.2.2.2.2 ey ei) :: Ts)) := by
  refine cOz (cc := cX1_addBored) (maxL := 5) (by decide) rfl (Nat.le_of_ble_eq_true rfl) rfl ?_
  rintro jp je js jm below meth jc ls args R Q H locs hRf hRl ⟨hx, hb, hml, hr, hts, hown, hlocks, hK, hX⟩ hw hl kr
  have hown : js.vm.findClass RX1 = some jm.cls := hown
  have f_0 := hts (.fieldLink RX1 30 "IceSway$Records" "boredCount" "I") (by decide +kernel)
  have f_1 := hts (.fieldLink RX1 11 "IceSway$Records" "boredYard" "[I") (by decide +kernel)
  have f_2 := hts (.fieldLink RX1 15 "IceSway$Records" "boredNights" "[I") (by decide +kernel)
  have f_3 := hts (.fieldLink RX1 18 "IceSway$Records" "boredCold" "[I") (by decide +kernel)
  have f_4 := hts (.fieldLink RX1 21 "IceSway$Records" "boredIce" "[I") (by decide +kernel)
  have hi1 : ∀ w ∈ u_ws RX1 TX1 8, w ∈ wsX1_addBored := fun w h => List.mem_cons_of_mem _ (List.mem_append_right _ h)
  refine lv_aload_n hx hb dX1_addBored_0 rfl (lv_at hl 0 rfl) ?_
  refine r_get (T := TX1) (v := .int (nI bc)) hx hb hts hi1 hown hK hw 0 rfl rfl 0 (by decide) f_0 rfl dX1_addBored_1 ?_
  refine lv_bipush (v := 10) hx hb dX1_addBored_4 (by decide) ?_
  refine r_clt hx hb bc 10 (by omega) (by omega) (tgt := 11) dX1_addBored_6 (by decide) (fun c_6 => ?_) (fun c_6 => ?_)
  · refine lv_aload_n hx hb dX1_addBored_11 rfl (lv_at hl 0 rfl) ?_
    refine r_get (T := TX1) (v := .ref (a 1)) hx hb hts hi1 hown hK hw 0 rfl rfl 2 (by decide) f_1 rfl dX1_addBored_12 ?_
    refine lv_aload_n hx hb dX1_addBored_15 rfl (lv_at hl 0 rfl) ?_
    refine r_get (T := TX1) (v := .int (nI bc)) hx hb hts hi1 hown hK hw 0 rfl rfl 0 (by decide) f_0 rfl dX1_addBored_16 ?_
    refine lv_iload_n hx hb dX1_addBored_19 rfl (lv_at hl 1 rfl) ?_
    refine r_iast (G' := ((rG c4 a (nI bc) (nI ec) (upd by0 bc y) bn bd bi ey ei) :: Ts)) hx hb hK hw 1 0 rfl rfl bc (by omega) (by decide) rfl dX1_addBored_20 (fun H locs hw => ?_)
    refine lv_aload_n hx hb dX1_addBored_21 rfl (lv_at hl 0 rfl) ?_
    refine r_get (T := TX1) (v := .ref (a 2)) hx hb hts hi1 hown hK hw 0 rfl rfl 3 (by decide) f_2 rfl dX1_addBored_22 ?_
    refine lv_aload_n hx hb dX1_addBored_25 rfl (lv_at hl 0 rfl) ?_
    refine r_get (T := TX1) (v := .int (nI bc)) hx hb hts hi1 hown hK hw 0 rfl rfl 0 (by decide) f_0 rfl dX1_addBored_26 ?_
    refine lv_iload_n hx hb dX1_addBored_29 rfl (lv_at hl 2 rfl) ?_
    refine r_iast (G' := ((rG c4 a (nI bc) (nI ec) (upd by0 bc y) (upd bn bc k) bd bi ey ei) :: Ts)) hx hb hK hw 2 0 rfl rfl bc (by omega) (by decide) rfl dX1_addBored_30 (fun H locs hw => ?_)
    refine lv_aload_n hx hb dX1_addBored_31 rfl (lv_at hl 0 rfl) ?_
    refine r_get (T := TX1) (v := .ref (a 3)) hx hb hts hi1 hown hK hw 0 rfl rfl 4 (by decide) f_3 rfl dX1_addBored_32 ?_
    refine lv_aload_n hx hb dX1_addBored_35 rfl (lv_at hl 0 rfl) ?_
    refine r_get (T := TX1) (v := .int (nI bc)) hx hb hts hi1 hown hK hw 0 rfl rfl 0 (by decide) f_0 rfl dX1_addBored_36 ?_
    refine lv_iload_n hx hb dX1_addBored_39 rfl (lv_at hl 3 rfl) ?_
    refine r_iast (G' := ((rG c4 a (nI bc) (nI ec) (upd by0 bc y) (upd bn bc k) (upd bd bc c) bi ey ei) :: Ts)) hx hb hK hw 3 0 rfl rfl bc (by omega) (by decide) rfl dX1_addBored_40 (fun H locs hw => ?_)
    refine lv_aload_n hx hb dX1_addBored_41 rfl (lv_at hl 0 rfl) ?_
    refine r_get (T := TX1) (v := .ref (a 4)) hx hb hts hi1 hown hK hw 0 rfl rfl 5 (by decide) f_4 rfl dX1_addBored_42 ?_
    refine lv_aload_n hx hb dX1_addBored_45 rfl (lv_at hl 0 rfl) ?_
    refine r_get (T := TX1) (v := .int (nI bc)) hx hb hts hi1 hown hK hw 0 rfl rfl 0 (by decide) f_0 rfl dX1_addBored_46 ?_
    refine lv_iload hx hb dX1_addBored_49 (lv_at hl 4 rfl) ?_
    refine r_iast (G' := ((rG c4 a (nI bc) (nI ec) (upd by0 bc y) (upd bn bc k) (upd bd bc c) (upd bi bc v) ey ei) :: Ts)) hx hb hK hw 4 0 rfl rfl bc (by omega) (by decide) rfl dX1_addBored_51 (fun H locs hw => ?_)
    refine lv_aload_n hx hb dX1_addBored_52 rfl (lv_at hl 0 rfl) ?_
    refine lv_dup hx hb dX1_addBored_53 rfl ?_
    refine r_get (T := TX1) (v := .int (nI bc)) hx hb hts hi1 hown hK hw 0 rfl rfl 0 (by decide) f_0 rfl dX1_addBored_54 ?_
    refine lv_iconst (v := 1) hx hb dX1_addBored_57 (by decide) ?_
    refine r_addN hx hb bc 1 dX1_addBored_58 ?_
    refine r_put (T := TX1) (G' := ((rG c4 a (nI (bc + 1)) (nI ec) (upd by0 bc y) (upd bn bc k) (upd bd bc c) (upd bi bc v) ey ei) :: Ts)) hx hb hts hi1 tyX1 tyX1_ok nmX1 hown hK hw 0 rfl rfl 0 (by decide) f_0 rfl rfl (Nat.le_of_ble_eq_true rfl) rfl dX1_addBored_59 (fun H locs hw => ?_)
    refine lv_iconst (v := 1) hx hb dX1_addBored_62 (by decide) ?_
    exact kr 1 (bc + 1, upd by0 bc y, upd bn bc k, upd bd bc c, upd bi bc v) _ _ _ _ hw rfl ⟨(fun _ => ⟨rfl, rfl, rfl, rfl, rfl, rfl⟩), (fun h => absurd c_6 h)⟩ dX1_addBored_63
  · refine lv_iconst (v := 0) hx hb dX1_addBored_9 (by decide) ?_
    exact kr 0 (bc, by0, bn, bd, bi) _ _ _ _ hw rfl ⟨(fun h => absurd h (by omega)), (fun _ => ⟨rfl, rfl, rfl, rfl, rfl, rfl⟩)⟩ dX1_addBored_10
set_option maxHeartbeats 4000000 in
set_option maxRecDepth 100000 in
theorem k_X1_addEntry (l : Launch) (D : va_G) (c4 : Nat → ClassId) (A : Nat → Prop) (Ts : List va_W) (a : Nat → Nat) (bc : Nat) (ec : Nat) (by0 : Nat → Int32) (bn : Nat → Int32) (bd : Nat → Int32) (bi : Nat → Int32) (ey : Nat → Int32) (ei : Nat → Int32) (y : Int32) (v : Int32) (hec : ec ≤ 15) : Ci l yX1_addEntry wsX1_addEntry 0 0 [.ref (a 0), .int y, .int v] D (tyA c4) A none ((rG c4 a (nI bc) (nI ec) by0 bn bd bi ey ei) :: Ts) (S := Nat × (Nat → Int32) × (Nat → Int32)) (fun (r : Int32) (u : Nat × (Nat → Int32) × (Nat → Int32)) => (ec < 15 → r = 1 ∧ u.1 = ec + 1 ∧ u.2.1 = upd ey ec y ∧ u.2.2 = upd ei ec v) ∧ (¬ ec < 15 → r = 0 ∧ u.1 = ec ∧ u.2.1 = ey ∧ u.2.2 = ei)) (fun u => ((rG c4 a (nI bc) (nI u.1) by0 bn bd bi u.2.1 u.2.2) :: Ts)) := by
  refine cOz (cc := cX1_addEntry) (maxL := 3) (by decide) rfl (Nat.le_of_ble_eq_true rfl) rfl ?_
  rintro jp je js jm below meth jc ls args R Q H locs hRf hRl ⟨hx, hb, hml, hr, hts, hown, hlocks, hK, hX⟩ hw hl kr
  have hown : js.vm.findClass RX1 = some jm.cls := hown
  have f_0 := hts (.fieldLink RX1 34 "IceSway$Records" "entryCount" "I") (by decide +kernel)
  have f_1 := hts (.fieldLink RX1 24 "IceSway$Records" "entryYard" "[I") (by decide +kernel)
  have f_2 := hts (.fieldLink RX1 27 "IceSway$Records" "entryIce" "[I") (by decide +kernel)
  have hi1 : ∀ w ∈ u_ws RX1 TX1 8, w ∈ wsX1_addEntry := fun w h => List.mem_cons_of_mem _ (List.mem_append_right _ h)
  refine lv_aload_n hx hb dX1_addEntry_0 rfl (lv_at hl 0 rfl) ?_
  refine r_get (T := TX1) (v := .int (nI ec)) hx hb hts hi1 hown hK hw 0 rfl rfl 1 (by decide) f_0 rfl dX1_addEntry_1 ?_
  refine lv_bipush (v := 15) hx hb dX1_addEntry_4 (by decide) ?_
  refine r_clt hx hb ec 15 (by omega) (by omega) (tgt := 11) dX1_addEntry_6 (by decide) (fun c_6 => ?_) (fun c_6 => ?_)
  · refine lv_aload_n hx hb dX1_addEntry_11 rfl (lv_at hl 0 rfl) ?_
    refine r_get (T := TX1) (v := .ref (a 5)) hx hb hts hi1 hown hK hw 0 rfl rfl 6 (by decide) f_1 rfl dX1_addEntry_12 ?_
    refine lv_aload_n hx hb dX1_addEntry_15 rfl (lv_at hl 0 rfl) ?_
    refine r_get (T := TX1) (v := .int (nI ec)) hx hb hts hi1 hown hK hw 0 rfl rfl 1 (by decide) f_0 rfl dX1_addEntry_16 ?_
    refine lv_iload_n hx hb dX1_addEntry_19 rfl (lv_at hl 1 rfl) ?_
    refine r_iast (G' := ((rG c4 a (nI bc) (nI ec) by0 bn bd bi (upd ey ec y) ei) :: Ts)) hx hb hK hw 5 0 rfl rfl ec (by omega) (by decide) rfl dX1_addEntry_20 (fun H locs hw => ?_)
    refine lv_aload_n hx hb dX1_addEntry_21 rfl (lv_at hl 0 rfl) ?_
    refine r_get (T := TX1) (v := .ref (a 6)) hx hb hts hi1 hown hK hw 0 rfl rfl 7 (by decide) f_2 rfl dX1_addEntry_22 ?_
    refine lv_aload_n hx hb dX1_addEntry_25 rfl (lv_at hl 0 rfl) ?_
    refine r_get (T := TX1) (v := .int (nI ec)) hx hb hts hi1 hown hK hw 0 rfl rfl 1 (by decide) f_0 rfl dX1_addEntry_26 ?_
    refine lv_iload_n hx hb dX1_addEntry_29 rfl (lv_at hl 2 rfl) ?_
    refine r_iast (G' := ((rG c4 a (nI bc) (nI ec) by0 bn bd bi (upd ey ec y) (upd ei ec v)) :: Ts)) hx hb hK hw 6 0 rfl rfl ec (by omega) (by decide) rfl dX1_addEntry_30 (fun H locs hw => ?_)
    refine lv_aload_n hx hb dX1_addEntry_31 rfl (lv_at hl 0 rfl) ?_
    refine lv_dup hx hb dX1_addEntry_32 rfl ?_
    refine r_get (T := TX1) (v := .int (nI ec)) hx hb hts hi1 hown hK hw 0 rfl rfl 1 (by decide) f_0 rfl dX1_addEntry_33 ?_
    refine lv_iconst (v := 1) hx hb dX1_addEntry_36 (by decide) ?_
    refine r_addN hx hb ec 1 dX1_addEntry_37 ?_
    refine r_put (T := TX1) (G' := ((rG c4 a (nI bc) (nI (ec + 1)) by0 bn bd bi (upd ey ec y) (upd ei ec v)) :: Ts)) hx hb hts hi1 tyX1 tyX1_ok nmX1 hown hK hw 0 rfl rfl 1 (by decide) f_0 rfl rfl (Nat.le_of_ble_eq_true rfl) rfl dX1_addEntry_38 (fun H locs hw => ?_)
    refine lv_iconst (v := 1) hx hb dX1_addEntry_41 (by decide) ?_
    exact kr 1 (ec + 1, upd ey ec y, upd ei ec v) _ _ _ _ hw rfl ⟨(fun _ => ⟨rfl, rfl, rfl, rfl⟩), (fun h => absurd c_6 h)⟩ dX1_addEntry_42
  · refine lv_iconst (v := 0) hx hb dX1_addEntry_9 (by decide) ?_
    exact kr 0 (ec, ey, ei) _ _ _ _ hw rfl ⟨(fun h => absurd h (by omega)), (fun _ => ⟨rfl, rfl, rfl, rfl⟩)⟩ dX1_addEntry_10
set_option maxHeartbeats 4000000 in
set_option maxRecDepth 100000 in
theorem k_X1_fits (l : Launch) (D : va_G) (c4 : Nat → ClassId) (A : Nat → Prop) (Ts : List va_W) (a : Nat → Nat) (bc : Nat) (ec : Nat) (by0 : Nat → Int32) (bn : Nat → Int32) (bd : Nat → Int32) (bi : Nat → Int32) (ey : Nat → Int32) (ei : Nat → Int32) (b : Nat → Nat) (n : Nat) (os : Int32) (kd : Nat → Int32) (ic : Nat → Int32) (br : Nat → Int32) (q : Nat → Yq) (y : Nat) (kn : Int32) (hbc : bc ≤ 10) (hn : n ≤ 12) (hY : yR q n os kd ic br) (hy : y < n) (hz : okQ (setK kn (q y))) (hbo : boOk bc bn bd) : Ci l yX1_fits wsX1_fits 3 73 [.ref (a 0), .ref (b 0), .int (nI y), .int kn] D (tyA c4) A none ((rG c4 a (nI bc) (nI ec) by0 bn bd bi ey ei) :: (yG c4 b (nI n) os kd ic br) :: Ts) (S := Unit) (fun (r : Int32) (u : Unit) => (r = 0 → ∃ i, i < bc ∧ ¬ fitAt (q y) y kn by0 bn bd bi i) ∧ (¬ r = 0 → ∀ i, i < bc → fitAt (q y) y kn by0 bn bd bi i)) (fun u => ((rG c4 a (nI bc) (nI ec) by0 bn bd bi ey ei) :: (yG c4 b (nI n) os kd ic br) :: Ts)) := by
  refine cOz (cc := cX1_fits) (maxL := 5) (by decide) rfl (Nat.le_of_ble_eq_true rfl) rfl ?_
  rintro jp je js jm below meth jc ls args R Q H locs hRf hRl ⟨hx, hb, hml, hr, hts, hown, hlocks, hK, hX⟩ hw hl kr
  have hown : js.vm.findClass RX1 = some jm.cls := hown
  have f_0 := hts (.fieldLink RX1 30 "IceSway$Records" "boredCount" "I") (by decide +kernel)
  have f_1 := hts (.fieldLink RX1 11 "IceSway$Records" "boredYard" "[I") (by decide +kernel)
  have f_2 := hts (.fieldLink RX1 15 "IceSway$Records" "boredNights" "[I") (by decide +kernel)
  have f_3 := hts (.fieldLink RX1 18 "IceSway$Records" "boredCold" "[I") (by decide +kernel)
  have f_4 := hts (.fieldLink RX1 21 "IceSway$Records" "boredIce" "[I") (by decide +kernel)
  have hi1 : ∀ w ∈ u_ws RX1 TX1 8, w ∈ wsX1_fits := fun w h => List.mem_cons_of_mem _ (List.mem_append_left _ (List.mem_append_right _ h))
  refine lv_iconst (v := 0) hx hb dX1_fits_0 (by decide) ?_
  refine lv_istore (lv' := [(4, .int 0), (0, .ref (a 0)), (1, .ref (b 0)), (2, .int (nI y)), (3, .int kn)]) hx hb dX1_fits_1 hl (by decide) rfl (fun ls hl => ?_)
  have loop_3 : ∀ (fuel : Nat) (i : Nat), (bc - i) < fuel → (i ≤ bc) → (∀ j, j < i → fitAt (q y) y kn by0 bn bd bi j) → ∀ (H : Heap) (locs : List Loc), gW D A js.heap ((rG c4 a (nI bc) (nI ec) by0 bn bd bi ey ei) :: (yG c4 b (nI n) os kd ic br) :: Ts) H locs → ∀ (ls : Array Slot), lv_has ls 5 [(4, .int (nI i)), (0, .ref (a 0)), (1, .ref (b 0)), (2, .int (nI y)), (3, .int kn)] → W jp l je R js jm args below meth jc H locs 0 0 Q (F0 jm 3 ls []) := by
    intro fuel
    induction fuel with
    | zero => intro i hm; exact absurd hm (Nat.not_lt_zero _)
    | succ fuel ih_3 =>
      intro i hm_3 hi hN H locs hw ls hl
      refine lv_iload hx hb dX1_fits_3 (lv_at hl 0 rfl) ?_
      refine lv_aload_n hx hb dX1_fits_5 rfl (lv_at hl 1 rfl) ?_
      refine r_get (T := TX1) (v := .int (nI bc)) hx hb hts hi1 hown hK hw 0 rfl rfl 0 (by decide) f_0 rfl dX1_fits_6 ?_
      refine r_cge hx hb i bc (by omega) (by omega) (tgt := 61) dX1_fits_9 (by decide) (fun c_9 => ?_) (fun c_9 => ?_)
      · refine lv_iconst (v := 1) hx hb dX1_fits_61 (by decide) ?_
        exact kr 1 () _ _ _ _ hw rfl ⟨(fun h => absurd h (by decide)), (fun _ j hj => hN j (by omega))⟩ dX1_fits_62
      · refine lv_aload_n hx hb dX1_fits_12 rfl (lv_at hl 1 rfl) ?_
        refine r_get (T := TX1) (v := .ref (a 1)) hx hb hts hi1 hown hK hw 0 rfl rfl 2 (by decide) f_1 rfl dX1_fits_13 ?_
        refine lv_iload hx hb dX1_fits_16 (lv_at hl 0 rfl) ?_
        refine r_iald hx hb hK hw 1 0 rfl rfl i (by omega) (by decide) dX1_fits_18 ?_
        refine lv_iload_n hx hb dX1_fits_19 rfl (lv_at hl 3 rfl) ?_
        refine lv_icmp_ne (tgt := 55) hx hb dX1_fits_20 (by decide) (fun c_20 => ?_) (fun c_20 => ?_)
        · refine lv_iinc (v := (nI (i + 1))) (lv' := [(4, .int (nI (i + 1))), (0, .ref (a 0)), (1, .ref (b 0)), (2, .int (nI y)), (3, .int kn)]) hx hb dX1_fits_55 hl (k := 0) rfl (nI_add _ _) (by decide) rfl (fun ls hl => ?_)
          refine lv_goto (tgt := 3) hx hb dX1_fits_58 (by decide) ?_
          exact ih_3 (i + 1) (by omega) (by omega) (by first | exact lt_s hN (fun e => absurd e c_20) | exact lt_s hN (fun _ => by rw [ek, nI_clamp (by omega)]; exact c_50)) _ _ hw ls (lv_sub hl [0, 1, 2, 3, 4] rfl)
        · obtain ⟨⟨k, hk, ek⟩, hcd⟩ := hbo i (by omega)
          refine lv_aload_n hx hb dX1_fits_23 rfl (lv_at hl 2 rfl) ?_
          refine lv_iload_n hx hb dX1_fits_24 rfl (lv_at hl 4 rfl) ?_
          refine lv_iload_n hx hb dX1_fits_25 rfl (lv_at hl 3 rfl) ?_
          refine lv_aload_n hx hb dX1_fits_26 rfl (lv_at hl 1 rfl) ?_
          refine r_get (T := TX1) (v := .ref (a 2)) hx hb hts hi1 hown hK hw 0 rfl rfl 3 (by decide) f_2 rfl dX1_fits_27 ?_
          refine lv_iload hx hb dX1_fits_30 (lv_at hl 0 rfl) ?_
          refine r_iald hx hb hK hw 2 0 rfl rfl i (by omega) (by decide) dX1_fits_32 ?_
          refine r_top (y := nI k) ek ?_
          refine lv_aload_n hx hb dX1_fits_33 rfl (lv_at hl 1 rfl) ?_
          refine r_get (T := TX1) (v := .ref (a 3)) hx hb hts hi1 hown hK hw 0 rfl rfl 4 (by decide) f_3 rfl dX1_fits_34 ?_
          refine lv_iload hx hb dX1_fits_37 (lv_at hl 0 rfl) ?_
          refine r_iald hx hb hK hw 3 0 rfl rfl i (by omega) (by decide) dX1_fits_39 ?_
          have hw := hw.m1
          refine c_vi (As := [.int kn, .int (nI y), .int (nI k), .int (bd i)]) (rest := []) ⟨hx, hb, hml, hown, hts⟩ (k_X6_iceIfOf l D c4 A ((rG c4 a (nI bc) (nI ec) by0 bn bd bi ey ei) :: Ts) b n os kd ic br q kn y k (bd i) hn hY hy (by first | omega | decide) hcd hz) (cwV 4 hts gX1_fits_X6_iceIfOf rfl rfl rfl (by decide +kernel) (rmv (Nat.le_of_ble_eq_true rfl) (Nat.le_of_ble_eq_true rfl) hRf hRl)) hK trivial hw rfl rfl rfl hl rfl (Nat.le_of_ble_eq_true rfl) ⟨Nat.zero_le _, Nat.zero_le _⟩ dX1_fits_40 (fun r_40 u_40 H locs hpq hw => ?_)
          have er_40 := hpq
          subst er_40
          refine lv_aload_n hx hb dX1_fits_43 rfl (lv_at hl 1 rfl) ?_
          refine r_get (T := TX1) (v := .ref (a 4)) hx hb hts hi1 hown hK hw 4 rfl rfl 5 (by decide) f_4 rfl dX1_fits_44 ?_
          refine lv_iload hx hb dX1_fits_47 (lv_at hl 0 rfl) ?_
          refine r_iald hx hb hK hw 8 0 rfl rfl i (by omega) (by decide) dX1_fits_49 ?_
          refine lv_icmp_eq (tgt := 55) hx hb dX1_fits_50 (by decide) (fun c_50 => ?_) (fun c_50 => ?_)
          · refine lv_iinc (v := (nI (i + 1))) (lv' := [(4, .int (nI (i + 1))), (0, .ref (a 0)), (1, .ref (b 0)), (2, .int (nI y)), (3, .int kn)]) hx hb dX1_fits_55 hl (k := 0) rfl (nI_add _ _) (by decide) rfl (fun ls hl => ?_)
            refine lv_goto (tgt := 3) hx hb dX1_fits_58 (by decide) ?_
            have hw := hw.m1
            exact ih_3 (i + 1) (by omega) (by omega) (by first | exact lt_s hN (fun e => absurd e c_20) | exact lt_s hN (fun _ => by rw [ek, nI_clamp (by omega)]; exact c_50)) _ _ hw ls (lv_sub hl [0, 1, 2, 3, 4] rfl)
          · refine lv_iconst (v := 0) hx hb dX1_fits_53 (by decide) ?_
            have hw := hw.m1
            exact kr 0 () _ _ _ _ hw rfl ⟨(fun _ => ⟨i, by omega, fun z => c_50 (by have z2 := z c_20; rw [ek, nI_clamp (by omega)] at z2; exact z2)⟩), (fun h => absurd rfl h)⟩ dX1_fits_54
  exact loop_3 ((bc - 0) + 1) 0 (Nat.lt_succ_self _) (Nat.zero_le _) (fun k h => absurd h (Nat.not_lt_zero k)) _ _ hw ls (lv_sub hl [0, 1, 2, 3, 4] rfl)
set_option maxHeartbeats 4000000 in
set_option maxRecDepth 100000 in
theorem k_X1_firstWrong (l : Launch) (D : va_G) (c4 : Nat → ClassId) (A : Nat → Prop) (Ts : List va_W) (a : Nat → Nat) (bc : Nat) (ec : Nat) (by0 : Nat → Int32) (bn : Nat → Int32) (bd : Nat → Int32) (bi : Nat → Int32) (ey : Nat → Int32) (ei : Nat → Int32) (b : Nat → Nat) (n : Nat) (os : Int32) (kd : Nat → Int32) (ic : Nat → Int32) (br : Nat → Int32) (q : Nat → Yq) (hec : ec ≤ 15) (hn : n ≤ 12) (hY : yR q n os kd ic br) (hen : ∀ i, i < ec → ∃ k, k < n ∧ ey i = nI k) : Ci l yX1_firstWrong wsX1_firstWrong 1 21 [.ref (a 0), .ref (b 0)] D (tyA c4) A none ((rG c4 a (nI bc) (nI ec) by0 bn bd bi ey ei) :: (yG c4 b (nI n) os kd ic br) :: Ts) (S := Unit) (fun (r : Int32) (u : Unit) => isFirst (fun i => ¬ qI (q (ey i).toNatClampNeg) = ei i) ec r) (fun u => ((rG c4 a (nI bc) (nI ec) by0 bn bd bi ey ei) :: (yG c4 b (nI n) os kd ic br) :: Ts)) := by
  refine cOi (cc := cX1_firstWrong) (maxL := 4) (by decide) rfl (Nat.le_of_ble_eq_true rfl) rfl ?_
  rintro jp je js jm below meth jc ls args R Q H locs hRf hRl ⟨hx, hb, hml, hr, hts, hown, hlocks, hK, hX⟩ hw hl kr
  have hown : js.vm.findClass RX1 = some jm.cls := hown
  have f_0 := hts (.fieldLink RX1 34 "IceSway$Records" "entryCount" "I") (by decide +kernel)
  have f_1 := hts (.fieldLink RX1 24 "IceSway$Records" "entryYard" "[I") (by decide +kernel)
  have f_2 := hts (.fieldLink RX1 47 "IceSway$Yards" "ice" "[I") (by decide +kernel)
  have f_3 := hts (.fieldLink RX1 27 "IceSway$Records" "entryIce" "[I") (by decide +kernel)
  have hi1 : ∀ w ∈ u_ws RX1 TX1 8, w ∈ wsX1_firstWrong := fun w h => List.mem_cons_of_mem _ (List.mem_append_left _ (List.mem_append_right _ h))
  have hi6 : ∀ w ∈ u_ws RX6 TX6 5, w ∈ wsX1_firstWrong := fun w h => List.mem_cons_of_mem _ (List.mem_append_right _ h)
  refine lv_iconst (v := 0) hx hb dX1_firstWrong_0 (by decide) ?_
  refine lv_istore_n (lv' := [(2, .int 0), (0, .ref (a 0)), (1, .ref (b 0))]) hx hb dX1_firstWrong_1 rfl hl (by decide) rfl (fun ls hl => ?_)
  have loop_2 : ∀ (fuel : Nat) (i : Nat), (ec - i) < fuel → (i ≤ ec) → (∀ j, j < i → ¬ ¬ qI (q (ey j).toNatClampNeg) = ei j) → ∀ (H : Heap) (locs : List Loc), gW D A js.heap ((rG c4 a (nI bc) (nI ec) by0 bn bd bi ey ei) :: (yG c4 b (nI n) os kd ic br) :: Ts) H locs → ∀ (ls : Array Slot), lv_has ls 4 [(2, .int (nI i)), (0, .ref (a 0)), (1, .ref (b 0))] → W jp l je R js jm args below meth jc H locs 0 0 Q (F0 jm 2 ls []) := by
    intro fuel
    induction fuel with
    | zero => intro i hm; exact absurd hm (Nat.not_lt_zero _)
    | succ fuel ih_2 =>
      intro i hm_2 hi hN H locs hw ls hl
      refine lv_iload_n hx hb dX1_firstWrong_2 rfl (lv_at hl 0 rfl) ?_
      refine lv_aload_n hx hb dX1_firstWrong_3 rfl (lv_at hl 1 rfl) ?_
      refine r_get (T := TX1) (v := .int (nI ec)) hx hb hts hi1 hown hK hw 0 rfl rfl 1 (by decide) f_0 rfl dX1_firstWrong_4 ?_
      refine r_cge hx hb i ec (by omega) (by omega) (tgt := 48) dX1_firstWrong_7 (by decide) (fun c_7 => ?_) (fun c_7 => ?_)
      · refine lv_iconst (v := (-1)) hx hb dX1_firstWrong_48 (by decide) ?_
        exact kr (-1) () _ _ _ _ hw (Or.inr ⟨fun j hj => hN j (by omega), rfl⟩) dX1_firstWrong_49
      · refine lv_aload_n hx hb dX1_firstWrong_10 rfl (lv_at hl 1 rfl) ?_
        refine r_get (T := TX1) (v := .ref (a 5)) hx hb hts hi1 hown hK hw 0 rfl rfl 6 (by decide) f_1 rfl dX1_firstWrong_11 ?_
        refine lv_iload_n hx hb dX1_firstWrong_14 rfl (lv_at hl 0 rfl) ?_
        refine r_iald hx hb hK hw 5 0 rfl rfl i (by omega) (by decide) dX1_firstWrong_15 ?_
        refine lv_istore_n (lv' := [(3, .int (ey i)), (2, .int (nI i)), (0, .ref (a 0)), (1, .ref (b 0))]) hx hb dX1_firstWrong_16 rfl hl (by decide) rfl (fun ls hl => ?_)
        refine lv_aload_n hx hb dX1_firstWrong_17 rfl (lv_at hl 3 rfl) ?_
        refine lv_iload_n hx hb dX1_firstWrong_18 rfl (lv_at hl 0 rfl) ?_
        have hw := hw.m1
        refine c_vi (As := [.int (ey i)]) (rest := []) ⟨hx, hb, hml, hown, hts⟩ (k_X6_has l D c4 A ((rG c4 a (nI bc) (nI ec) by0 bn bd bi ey ei) :: Ts) b n os kd ic br (ey i) hn) (cwV 1 hts gX1_firstWrong_X6_has rfl rfl rfl (by decide +kernel) (rmv (Nat.le_of_ble_eq_true rfl) (Nat.le_of_ble_eq_true rfl) hRf hRl)) hK trivial hw rfl rfl rfl hl rfl (Nat.le_of_ble_eq_true rfl) ⟨Nat.zero_le _, Nat.zero_le _⟩ dX1_firstWrong_19 (fun r_19 u_19 H locs hpq hw => ?_)
        obtain ⟨h0_19, h1_19⟩ := hpq
        refine lv_if_eq (tgt := 42) hx hb dX1_firstWrong_22 (by decide) (fun c_22 => ?_) (fun c_22 => ?_)
        · exact absurd (h0_19 c_22) (by obtain ⟨k, hk, ek⟩ := hen i (by omega); rw [ek, nI_toInt (by omega)]; omega)
        · obtain ⟨k, hk, ek⟩ := h1_19 c_22
          refine lv_aload_n hx hb dX1_firstWrong_25 rfl (lv_at hl 3 rfl) ?_
          refine r_get (T := TX6) (v := .ref (b 2)) hx hb hts hi6 hown hK hw 0 rfl rfl 3 (by decide) f_2 rfl dX1_firstWrong_26 ?_
          refine lv_iload_n hx hb dX1_firstWrong_29 rfl (lv_at hl 0 rfl) ?_
          refine r_top (y := nI k) ek ?_
          refine r_iald hx hb hK hw 2 0 rfl rfl k (by omega) (by decide) dX1_firstWrong_30 ?_
          refine lv_aload_n hx hb dX1_firstWrong_31 rfl (lv_at hl 2 rfl) ?_
          refine r_get (T := TX1) (v := .ref (a 6)) hx hb hts hi1 hown hK hw 4 rfl rfl 7 (by decide) f_3 rfl dX1_firstWrong_32 ?_
          refine lv_iload_n hx hb dX1_firstWrong_35 rfl (lv_at hl 1 rfl) ?_
          refine r_iald hx hb hK hw 10 0 rfl rfl i (by omega) (by decide) dX1_firstWrong_36 ?_
          refine lv_icmp_eq (tgt := 42) hx hb dX1_firstWrong_37 (by decide) (fun c_37 => ?_) (fun c_37 => ?_)
          · refine lv_iinc (v := (nI (i + 1))) (lv' := [(2, .int (nI (i + 1))), (3, .int (ey i)), (0, .ref (a 0)), (1, .ref (b 0))]) hx hb dX1_firstWrong_42 hl (k := 1) rfl (nI_add _ _) (by decide) rfl (fun ls hl => ?_)
            refine lv_goto (tgt := 2) hx hb dX1_firstWrong_45 (by decide) ?_
            have hw := hw.m1
            exact ih_2 (i + 1) (by omega) (by omega) (lt_s hN (fun z => z (by rw [ek, nI_clamp (by omega), ← (hY.rows k hk).1]; exact c_37))) _ _ hw ls (lv_sub hl [0, 2, 3] rfl)
          · refine lv_iload_n hx hb dX1_firstWrong_40 rfl (lv_at hl 1 rfl) ?_
            have hw := hw.m1
            exact kr (nI i) () _ _ _ _ hw (Or.inl ⟨i, by omega, fun z => c_37 (by rw [(hY.rows k hk).1]; rw [ek, nI_clamp (by omega)] at z; exact z), hN, rfl⟩) dX1_firstWrong_41
  exact loop_2 ((ec - 0) + 1) 0 (Nat.lt_succ_self _) (Nat.zero_le _) (fun k h => absurd h (Nat.not_lt_zero k)) _ _ hw ls (lv_sub hl [0, 1, 2] rfl)
