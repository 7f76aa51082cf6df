set_option maxHeartbeats 4000000 in
set_option maxRecDepth 100000 in
theorem k_X8_tear (l : Launch) (D : va_G) (c4 : Nat → ClassId) (A : Nat → Prop) (Ts : List va_W) (a : Nat → Nat) (yn : Int32) (tx : Int32) (pl : Int32) (st : Int32) (va : Int32) (fy : Int32) (fa : Int32) (ry : Int32) (se : Int32) (bh : Int32) (mi : Int32) (fb : Int32) (bc : Nat) (ec : Nat) : Ci l yX8_tear wsX8_tear 0 0 [.ref (a 0)] D (tyA c4) A none ((mG a yn tx pl st va fy fa ry se bh mi fb (nI bc) (nI ec)) :: Ts) (S := Unit) (fun (r : Int32) (u : Unit) => r = (nI (bc + ec))) (fun u => ((mG a yn tx pl st va fy fa ry se bh mi fb 0 0) :: Ts)) := by
  refine cOi (cc := cX8_tear) (maxL := 2) (by decide) rfl (Nat.le_of_ble_eq_true rfl) rfl ?_
  rintro jp je js jm below meth jc ls args R Q H locs hRf hRl ⟨hx, hb, hml, hr, hts, hown, hlocks, hK, hX⟩ hw hl kr
  have hown : js.vm.findClass RX8 = some jm.cls := hown
  have f_0 := hts (.fieldLink RX8 131 "IceSwayModel" "bored" "I") (by decide +kernel)
  have f_1 := hts (.fieldLink RX8 134 "IceSwayModel" "booked" "I") (by decide +kernel)
  have hi8 : ∀ w ∈ u_ws RX8 TX8 28, w ∈ wsX8_tear := fun w h => List.mem_cons_of_mem _ (List.mem_append_right _ h)
  refine lv_aload_n hx hb dX8_tear_0 rfl (lv_at hl 0 rfl) ?_
  refine r_get (T := TX8) (v := .int (nI bc)) hx hb hts hi8 hown hK hw 0 rfl rfl 20 (by decide) f_0 rfl dX8_tear_1 ?_
  refine lv_aload_n hx hb dX8_tear_4 rfl (lv_at hl 0 rfl) ?_
  refine r_get (T := TX8) (v := .int (nI ec)) hx hb hts hi8 hown hK hw 0 rfl rfl 25 (by decide) f_1 rfl dX8_tear_5 ?_
  refine r_addN hx hb bc ec dX8_tear_8 ?_
  refine lv_istore_n (lv' := [(1, .int (nI (bc + ec))), (0, .ref (a 0))]) hx hb dX8_tear_9 rfl hl (by decide) rfl (fun ls hl => ?_)
  refine lv_aload_n hx hb dX8_tear_10 rfl (lv_at hl 1 rfl) ?_
  refine lv_iconst (v := 0) hx hb dX8_tear_11 (by decide) ?_
  refine r_put (T := TX8) (G' := ((mG a yn tx pl st va fy fa ry se bh mi fb 0 (nI ec)) :: Ts)) hx hb hts hi8 tyX8 tyX8_ok nmX8 hown hK hw 0 rfl rfl 20 (by decide) f_0 rfl rfl (Nat.le_of_ble_eq_true rfl) rfl dX8_tear_12 (fun H locs hw => ?_)
  refine lv_aload_n hx hb dX8_tear_15 rfl (lv_at hl 1 rfl) ?_
  refine lv_iconst (v := 0) hx hb dX8_tear_16 (by decide) ?_
  refine r_put (T := TX8) (G' := ((mG a yn tx pl st va fy fa ry se bh mi fb 0 0) :: Ts)) hx hb hts hi8 tyX8 tyX8_ok nmX8 hown hK hw 0 rfl rfl 25 (by decide) f_1 rfl rfl (Nat.le_of_ble_eq_true rfl) rfl dX8_tear_17 (fun H locs hw => ?_)
  refine lv_iload_n hx hb dX8_tear_20 rfl (lv_at hl 0 rfl) ?_
  exact kr (nI (bc + ec)) () _ _ _ _ hw rfl dX8_tear_21
set_option maxHeartbeats 4000000 in
set_option maxRecDepth 100000 in
theorem k_X8_write (l : Launch) (D : va_G) (c4 : Nat → ClassId) (A : Nat → Prop) (Ts : List va_W) (a : Nat → Nat) (n : Nat) (tx : Int32) (pl : Int32) (st : Int32) (va : Int32) (fy : Int32) (fa : Int32) (ry : Int32) (se : Int32) (bh : Int32) (mi : Int32) (fb : Int32) (bo : Int32) (ec : Nat) (ey : Nat → Int32) (ei : Nat → Int32) (y : Int32) (v : Int32) (hn : n ≤ 12) (hec : ec ≤ 15) : Ci l yX8_write wsX8_write 2 46 [.ref (a 0), .int y, .int v] D (tyA c4) A none ((mG a (nI n) tx pl st va fy fa ry se bh mi fb bo (nI ec)) :: (aG c4 (a 13) 15 ey) :: (aG c4 (a 14) 15 ei) :: Ts) (S := Nat × (Nat → Int32) × (Nat → Int32)) (fun (r : Int32) (u : Nat × (Nat → Int32) × (Nat → Int32)) => ((r, u.1) = writF n ec y v) ∧ (rowB (okW n ec y v) ey u.2.1 ec y ∧ rowB (okW n ec y v) ei u.2.2 ec v)) (fun u => ((mG a (nI n) tx pl st va fy fa ry se bh mi fb bo (nI u.1)) :: (aG c4 (a 13) 15 u.2.1) :: (aG c4 (a 14) 15 u.2.2) :: Ts)) := by
  refine cOi (cc := cX8_write) (maxL := 3) (by decide) rfl (Nat.le_of_ble_eq_true rfl) rfl ?_
  rintro jp je js jm below meth jc ls args R Q H locs hRf hRl ⟨hx, hb, hml, hr, hts, hown, hlocks, hK, hX⟩ hw hl kr
  have hown : js.vm.findClass RX8 = some jm.cls := hown
  have f_0 := hts (.constantLong RX8 223 (300)) (by decide +kernel)
  have f_1 := hts (.fieldLink RX8 134 "IceSwayModel" "booked" "I") (by decide +kernel)
  have f_2 := hts (.fieldLink RX8 51 "IceSwayModel" "bookYard" "[I") (by decide +kernel)
  have f_3 := hts (.fieldLink RX8 54 "IceSwayModel" "bookIce" "[I") (by decide +kernel)
  have f_4 := hts (.constant RX8 87 (-1000000004)) (by decide +kernel)
  have f_5 := hts (.constant RX8 83 (-1000000002)) (by decide +kernel)
  have f_6 := hts (.constant RX8 152 (-1000000001)) (by decide +kernel)
  have hi8 : ∀ w ∈ u_ws RX8 TX8 28, w ∈ wsX8_write := fun w h => List.mem_cons_of_mem _ (List.mem_append_right _ h)
  refine lv_aload_n hx hb dX8_write_0 rfl (lv_at hl 0 rfl) ?_
  refine lv_iload_n hx hb dX8_write_1 rfl (lv_at hl 1 rfl) ?_
  refine c_vi (As := [.int y]) (rest := []) ⟨hx, hb, hml, hown, hts⟩ (k_X8_isYard l D c4 A ((aG c4 (a 13) 15 ey) :: (aG c4 (a 14) 15 ei) :: Ts) a n tx pl st va fy fa ry se bh mi fb bo (nI ec) y hn) (cwV 1 hts gX8_write_X8_isYard rfl rfl rfl (by decide +kernel) (rmv (Nat.le_of_ble_eq_true rfl) (Nat.le_of_ble_eq_true rfl) hRf hRl)) hK trivial hw rfl rfl rfl hl rfl (Nat.le_of_ble_eq_true rfl) ⟨Nat.zero_le _, Nat.zero_le _⟩ dX8_write_2 (fun r_2 u_2 H locs hpq hw => ?_)
  obtain ⟨h0_2, h1_2⟩ := hpq
  refine lv_if_ne (tgt := 11) hx hb dX8_write_5 (by decide) (fun c_5 => ?_) (fun c_5 => ?_)
  · obtain ⟨ky, hky, eky⟩ := h1_2 c_5
    have hiy : isY n y := by rw [eky]; exact isY_nI hky hn
    refine lv_iload_n hx hb dX8_write_11 rfl (lv_at hl 2 rfl) ?_
    refine lv_i2l hx hb dX8_write_12 rfl ?_
    refine lv_lconst (v := 0) hx hb dX8_write_13 (by decide) ?_
    refine lv_ldc2 hx hb hown f_0 dX8_write_14 ?_
    refine c_si (As := [.long v.toInt64, .long 0, .long 300]) (rest := []) ⟨hx, hb, hml, hown, hts⟩ (k_X8_in l D c4 A ((mG a (nI n) tx pl st va fy fa ry se bh mi fb bo (nI ec)) :: (aG c4 (a 13) 15 ey) :: (aG c4 (a 14) 15 ei) :: Ts) v.toInt64 0 300) (va_cwS 3 hts gX8_write_X8_in rfl rfl rfl (by decide +kernel) (rmv (Nat.le_of_ble_eq_true rfl) (Nat.le_of_ble_eq_true rfl) hRf hRl)) hK trivial hw rfl hl rfl (Nat.le_of_ble_eq_true rfl) ⟨Nat.zero_le _, Nat.zero_le _⟩ dX8_write_17 (fun r_17 u_17 H locs hpq hw => ?_)
    obtain ⟨h0_17, h1_17, hz_17⟩ := hpq
    refine lv_if_ne (tgt := 26) hx hb dX8_write_20 (by decide) (fun c_20 => ?_) (fun c_20 => ?_)
    · refine lv_aload_n hx hb dX8_write_26 rfl (lv_at hl 0 rfl) ?_
      refine r_get (T := TX8) (v := .int (nI ec)) hx hb hts hi8 hown hK hw 0 rfl rfl 25 (by decide) f_1 rfl dX8_write_27 ?_
      refine lv_bipush (v := 15) hx hb dX8_write_30 (by decide) ?_
      refine r_cne hx hb ec 15 (by omega) (by omega) (tgt := 38) dX8_write_32 (by decide) (fun c_32 => ?_) (fun c_32 => ?_)
      · refine lv_aload_n hx hb dX8_write_38 rfl (lv_at hl 0 rfl) ?_
        refine r_get (T := TX8) (v := .ref (a 13)) hx hb hts hi8 hown hK hw 0 rfl rfl 26 (by decide) f_2 rfl dX8_write_39 ?_
        refine lv_aload_n hx hb dX8_write_42 rfl (lv_at hl 0 rfl) ?_
        refine r_get (T := TX8) (v := .int (nI ec)) hx hb hts hi8 hown hK hw 0 rfl rfl 25 (by decide) f_1 rfl dX8_write_43 ?_
        refine lv_iload_n hx hb dX8_write_46 rfl (lv_at hl 1 rfl) ?_
        refine r_iast (G' := ((mG a (nI n) tx pl st va fy fa ry se bh mi fb bo (nI ec)) :: (aG c4 (a 13) 15 (upd ey ec y)) :: (aG c4 (a 14) 15 ei) :: Ts)) hx hb hK hw 1 0 rfl rfl ec (by omega) (by decide) rfl dX8_write_47 (fun H locs hw => ?_)
        refine lv_aload_n hx hb dX8_write_48 rfl (lv_at hl 0 rfl) ?_
        refine r_get (T := TX8) (v := .ref (a 14)) hx hb hts hi8 hown hK hw 0 rfl rfl 27 (by decide) f_3 rfl dX8_write_49 ?_
        refine lv_aload_n hx hb dX8_write_52 rfl (lv_at hl 0 rfl) ?_
        refine r_get (T := TX8) (v := .int (nI ec)) hx hb hts hi8 hown hK hw 0 rfl rfl 25 (by decide) f_1 rfl dX8_write_53 ?_
        refine lv_iload_n hx hb dX8_write_56 rfl (lv_at hl 2 rfl) ?_
        refine r_iast (G' := ((mG a (nI n) tx pl st va fy fa ry se bh mi fb bo (nI ec)) :: (aG c4 (a 13) 15 (upd ey ec y)) :: (aG c4 (a 14) 15 (upd ei ec v)) :: Ts)) hx hb hK hw 2 0 rfl rfl ec (by omega) (by decide) rfl dX8_write_57 (fun H locs hw => ?_)
        refine lv_aload_n hx hb dX8_write_58 rfl (lv_at hl 0 rfl) ?_
        refine lv_dup hx hb dX8_write_59 rfl ?_
        refine r_get (T := TX8) (v := .int (nI ec)) hx hb hts hi8 hown hK hw 0 rfl rfl 25 (by decide) f_1 rfl dX8_write_60 ?_
        refine lv_iconst (v := 1) hx hb dX8_write_63 (by decide) ?_
        refine r_addN hx hb ec 1 dX8_write_64 ?_
        refine r_put (T := TX8) (G' := ((mG a (nI n) tx pl st va fy fa ry se bh mi fb bo (nI (ec + 1))) :: (aG c4 (a 13) 15 (upd ey ec y)) :: (aG c4 (a 14) 15 (upd ei ec v)) :: Ts)) hx hb hts hi8 tyX8 tyX8_ok nmX8 hown hK hw 0 rfl rfl 25 (by decide) f_1 rfl rfl (Nat.le_of_ble_eq_true rfl) rfl dX8_write_65 (fun H locs hw => ?_)
        refine lv_aload_n hx hb dX8_write_68 rfl (lv_at hl 0 rfl) ?_
        refine r_get (T := TX8) (v := .int (nI (ec + 1))) hx hb hts hi8 hown hK hw 0 rfl rfl 25 (by decide) f_1 rfl dX8_write_69 ?_
        have hob : okW n ec y v := ⟨hiy, ((inL (lo := 0) (hi := 300) rfl rfl).mp (h1_17 c_20)), by omega⟩
        exact kr (nI (ec + 1)) (ec + 1, upd ey ec y, upd ei ec v) _ _ _ _ hw ⟨(by rw [wr_ok hob]), ⟨rowB.yes hob rfl, rowB.yes hob rfl⟩⟩ dX8_write_72
      · refine lv_ldc hx hb hown f_4 dX8_write_35 ?_
        exact kr (-1000000004) (ec, ey, ei) _ _ _ _ hw ⟨(by unfold writF; rw [if_pos hiy, if_pos ((inL (lo := 0) (hi := 300) rfl rfl).mp (h1_17 c_20)), if_neg (by omega)]), ⟨rowB.no (fun z => absurd z.2.2 (by omega)), rowB.no (fun z => absurd z.2.2 (by omega))⟩⟩ dX8_write_37
    · refine lv_ldc hx hb hown f_5 dX8_write_23 ?_
      exact kr (-1000000002) (ec, ey, ei) _ _ _ _ hw ⟨(by unfold writF; rw [if_pos hiy, if_neg (fun z => h0_17 c_20 ((inL (lo := 0) (hi := 300) rfl rfl).mpr z))]), ⟨rowB.no (fun z => (fun z => h0_17 c_20 ((inL (lo := 0) (hi := 300) rfl rfl).mpr z)) z.2.1), rowB.no (fun z => (fun z => h0_17 c_20 ((inL (lo := 0) (hi := 300) rfl rfl).mpr z)) z.2.1)⟩⟩ dX8_write_25
  · refine lv_ldc hx hb hown f_6 dX8_write_8 ?_
    exact kr (-1000000001) (ec, ey, ei) _ _ _ _ hw ⟨(by unfold writF; rw [if_neg (h0_2 c_5)]), ⟨rowB.no (fun z => h0_2 c_5 z.1), rowB.no (fun z => h0_2 c_5 z.1)⟩⟩ dX8_write_10
set_option maxHeartbeats 4000000 in
set_option maxRecDepth 100000 in
theorem k_X8_bore (l : Launch) (D : va_G) (c4 : Nat → ClassId) (A : Nat → Prop) (Ts : List va_W) (a : Nat → Nat) (n : Nat) (tx : Int32) (pl : Int32) (st : Int32) (va : Int32) (fy : Int32) (fa : Int32) (ry : Int32) (se : Int32) (bh : Int32) (mi : Int32) (fb : Int32) (bc : Nat) (bk : Int32) (by0 : Nat → Int32) (bn : Nat → Int32) (bd : Nat → Int32) (bi : Nat → Int32) (y : Int32) (k : Int32) (c : Int32) (v : Int32) (hn : n ≤ 12) (hbc : bc ≤ 10) : Ci l yX8_bore wsX8_bore 2 46 [.ref (a 0), .int y, .int k, .int c, .int v] D (tyA c4) A none ((mG a (nI n) tx pl st va fy fa ry se bh mi fb (nI bc) bk) :: (aG c4 (a 9) 10 by0) :: (aG c4 (a 10) 10 bn) :: (aG c4 (a 11) 10 bd) :: (aG c4 (a 12) 10 bi) :: Ts) (S := Nat × (Nat → Int32) × (Nat → Int32) × (Nat → Int32) × (Nat → Int32)) (fun (r : Int32) (u : Nat × (Nat → Int32) × (Nat → Int32) × (Nat → Int32) × (Nat → Int32)) => ((r, u.1) = boreF n bc y k c v) ∧ (rowB (okB n bc y k c v) by0 u.2.1 bc y ∧ rowB (okB n bc y k c v) bn u.2.2.1 bc k ∧ rowB (okB n bc y k c v) bd u.2.2.2.1 bc c ∧ rowB (okB n bc y k c v) bi u.2.2.2.2 bc v)) (fun u => ((mG a (nI n) tx pl st va fy fa ry se bh mi fb (nI u.1) bk) :: (aG c4 (a 9) 10 u.2.1) :: (aG c4 (a 10) 10 u.2.2.1) :: (aG c4 (a 11) 10 u.2.2.2.1) :: (aG c4 (a 12) 10 u.2.2.2.2) :: Ts)) := by
  refine cOi (cc := cX8_bore) (maxL := 5) (by decide) rfl (Nat.le_of_ble_eq_true rfl) rfl ?_
  rintro jp je js jm below meth jc ls args R Q H locs hRf hRl ⟨hx, hb, hml, hr, hts, hown, hlocks, hK, hX⟩ hw hl kr
  have hown : js.vm.findClass RX8 = some jm.cls := hown
  have f_0 := hts (.constantLong RX8 147 (9)) (by decide +kernel)
  have f_1 := hts (.constant RX8 83 (-1000000002)) (by decide +kernel)
  have f_2 := hts (.constantLong RX8 153 (30)) (by decide +kernel)
  have f_3 := hts (.constantLong RX8 223 (300)) (by decide +kernel)
  have f_4 := hts (.fieldLink RX8 131 "IceSwayModel" "bored" "I") (by decide +kernel)
  have f_5 := hts (.fieldLink RX8 39 "IceSwayModel" "boredYard" "[I") (by decide +kernel)
  have f_6 := hts (.fieldLink RX8 42 "IceSwayModel" "boredNights" "[I") (by decide +kernel)
  have f_7 := hts (.fieldLink RX8 45 "IceSwayModel" "boredCold" "[I") (by decide +kernel)
  have f_8 := hts (.fieldLink RX8 48 "IceSwayModel" "boredIce" "[I") (by decide +kernel)
  have f_9 := hts (.constant RX8 87 (-1000000004)) (by decide +kernel)
  have f_10 := hts (.constant RX8 152 (-1000000001)) (by decide +kernel)
  have hi8 : ∀ w ∈ u_ws RX8 TX8 28, w ∈ wsX8_bore := fun w h => List.mem_cons_of_mem _ (List.mem_append_right _ h)
  refine lv_aload_n hx hb dX8_bore_0 rfl (lv_at hl 0 rfl) ?_
  refine lv_iload_n hx hb dX8_bore_1 rfl (lv_at hl 1 rfl) ?_
  refine c_vi (As := [.int y]) (rest := []) ⟨hx, hb, hml, hown, hts⟩ (k_X8_isYard l D c4 A ((aG c4 (a 9) 10 by0) :: (aG c4 (a 10) 10 bn) :: (aG c4 (a 11) 10 bd) :: (aG c4 (a 12) 10 bi) :: Ts) a n tx pl st va fy fa ry se bh mi fb (nI bc) bk y hn) (cwV 1 hts gX8_bore_X8_isYard rfl rfl rfl (by decide +kernel) (rmv (Nat.le_of_ble_eq_true rfl) (Nat.le_of_ble_eq_true rfl) hRf hRl)) hK trivial hw rfl rfl rfl hl rfl (Nat.le_of_ble_eq_true rfl) ⟨Nat.zero_le _, Nat.zero_le _⟩ dX8_bore_2 (fun r_2 u_2 H locs hpq hw => ?_)
  obtain ⟨h0_2, h1_2⟩ := hpq
  refine lv_if_ne (tgt := 11) hx hb dX8_bore_5 (by decide) (fun c_5 => ?_) (fun c_5 => ?_)
  · obtain ⟨ky, hky, eky⟩ := h1_2 c_5
    have hiy : isY n y := by rw [eky]; exact isY_nI hky hn
    refine lv_iload_n hx hb dX8_bore_11 rfl (lv_at hl 2 rfl) ?_
    refine lv_i2l hx hb dX8_bore_12 rfl ?_
    refine lv_lconst (v := 0) hx hb dX8_bore_13 (by decide) ?_
    refine lv_ldc2 hx hb hown f_0 dX8_bore_14 ?_
    refine c_si (As := [.long k.toInt64, .long 0, .long 9]) (rest := []) ⟨hx, hb, hml, hown, hts⟩ (k_X8_in l D c4 A ((mG a (nI n) tx pl st va fy fa ry se bh mi fb (nI bc) bk) :: (aG c4 (a 9) 10 by0) :: (aG c4 (a 10) 10 bn) :: (aG c4 (a 11) 10 bd) :: (aG c4 (a 12) 10 bi) :: Ts) k.toInt64 0 9) (va_cwS 3 hts gX8_bore_X8_in rfl rfl rfl (by decide +kernel) (rmv (Nat.le_of_ble_eq_true rfl) (Nat.le_of_ble_eq_true rfl) hRf hRl)) hK trivial hw rfl hl rfl (Nat.le_of_ble_eq_true rfl) ⟨Nat.zero_le _, Nat.zero_le _⟩ dX8_bore_17 (fun r_17 u_17 H locs hpq hw => ?_)
    obtain ⟨h0_17, h1_17, hz_17⟩ := hpq
    refine lv_if_eq (tgt := 48) hx hb dX8_bore_20 (by decide) (fun c_20 => ?_) (fun c_20 => ?_)
    · refine lv_ldc hx hb hown f_1 dX8_bore_48 ?_
      exact kr (-1000000002) (bc, by0, bn, bd, bi) _ _ _ _ hw ⟨(by unfold boreF; rw [if_pos hiy, if_neg (fun z => h0_17 c_20 ((inL (lo := 0) (hi := 9) rfl rfl).mpr z))]), ⟨rowB.no (fun z => (fun z => h0_17 c_20 ((inL (lo := 0) (hi := 9) rfl rfl).mpr z)) z.2.1), rowB.no (fun z => (fun z => h0_17 c_20 ((inL (lo := 0) (hi := 9) rfl rfl).mpr z)) z.2.1), rowB.no (fun z => (fun z => h0_17 c_20 ((inL (lo := 0) (hi := 9) rfl rfl).mpr z)) z.2.1), rowB.no (fun z => (fun z => h0_17 c_20 ((inL (lo := 0) (hi := 9) rfl rfl).mpr z)) z.2.1)⟩⟩ dX8_bore_50
    · refine lv_iload_n hx hb dX8_bore_23 rfl (lv_at hl 3 rfl) ?_
      refine lv_i2l hx hb dX8_bore_24 rfl ?_
      refine lv_lconst (v := 0) hx hb dX8_bore_25 (by decide) ?_
      refine lv_ldc2 hx hb hown f_2 dX8_bore_26 ?_
      refine c_si (As := [.long c.toInt64, .long 0, .long 30]) (rest := []) ⟨hx, hb, hml, hown, hts⟩ (k_X8_in l D c4 A ((mG a (nI n) tx pl st va fy fa ry se bh mi fb (nI bc) bk) :: (aG c4 (a 9) 10 by0) :: (aG c4 (a 10) 10 bn) :: (aG c4 (a 11) 10 bd) :: (aG c4 (a 12) 10 bi) :: Ts) c.toInt64 0 30) (va_cwS 3 hts gX8_bore_X8_in rfl rfl rfl (by decide +kernel) (rmv (Nat.le_of_ble_eq_true rfl) (Nat.le_of_ble_eq_true rfl) hRf hRl)) hK trivial hw rfl hl rfl (Nat.le_of_ble_eq_true rfl) ⟨Nat.zero_le _, Nat.zero_le _⟩ dX8_bore_29 (fun r_29 u_29 H locs hpq hw => ?_)
      obtain ⟨h0_29, h1_29, hz_29⟩ := hpq
      refine lv_if_eq (tgt := 48) hx hb dX8_bore_32 (by decide) (fun c_32 => ?_) (fun c_32 => ?_)
      · refine lv_ldc hx hb hown f_1 dX8_bore_48 ?_
        exact kr (-1000000002) (bc, by0, bn, bd, bi) _ _ _ _ hw ⟨(by unfold boreF; rw [if_pos hiy, if_pos ((inL (lo := 0) (hi := 9) rfl rfl).mp (h1_17 c_20)), if_neg (fun z => h0_29 c_32 ((inL (lo := 0) (hi := 30) rfl rfl).mpr z))]), ⟨rowB.no (fun z => (fun z => h0_29 c_32 ((inL (lo := 0) (hi := 30) rfl rfl).mpr z)) z.2.2.1), rowB.no (fun z => (fun z => h0_29 c_32 ((inL (lo := 0) (hi := 30) rfl rfl).mpr z)) z.2.2.1), rowB.no (fun z => (fun z => h0_29 c_32 ((inL (lo := 0) (hi := 30) rfl rfl).mpr z)) z.2.2.1), rowB.no (fun z => (fun z => h0_29 c_32 ((inL (lo := 0) (hi := 30) rfl rfl).mpr z)) z.2.2.1)⟩⟩ dX8_bore_50
      · refine lv_iload hx hb dX8_bore_35 (lv_at hl 4 rfl) ?_
        refine lv_i2l hx hb dX8_bore_37 rfl ?_
        refine lv_lconst (v := 0) hx hb dX8_bore_38 (by decide) ?_
        refine lv_ldc2 hx hb hown f_3 dX8_bore_39 ?_
        refine c_si (As := [.long v.toInt64, .long 0, .long 300]) (rest := []) ⟨hx, hb, hml, hown, hts⟩ (k_X8_in l D c4 A ((mG a (nI n) tx pl st va fy fa ry se bh mi fb (nI bc) bk) :: (aG c4 (a 9) 10 by0) :: (aG c4 (a 10) 10 bn) :: (aG c4 (a 11) 10 bd) :: (aG c4 (a 12) 10 bi) :: Ts) v.toInt64 0 300) (va_cwS 3 hts gX8_bore_X8_in rfl rfl rfl (by decide +kernel) (rmv (Nat.le_of_ble_eq_true rfl) (Nat.le_of_ble_eq_true rfl) hRf hRl)) hK trivial hw rfl hl rfl (Nat.le_of_ble_eq_true rfl) ⟨Nat.zero_le _, Nat.zero_le _⟩ dX8_bore_42 (fun r_42 u_42 H locs hpq hw => ?_)
        obtain ⟨h0_42, h1_42, hz_42⟩ := hpq
        refine lv_if_ne (tgt := 51) hx hb dX8_bore_45 (by decide) (fun c_45 => ?_) (fun c_45 => ?_)
        · refine lv_aload_n hx hb dX8_bore_51 rfl (lv_at hl 0 rfl) ?_
          refine r_get (T := TX8) (v := .int (nI bc)) hx hb hts hi8 hown hK hw 0 rfl rfl 20 (by decide) f_4 rfl dX8_bore_52 ?_
          refine lv_bipush (v := 10) hx hb dX8_bore_55 (by decide) ?_
          refine r_cne hx hb bc 10 (by omega) (by omega) (tgt := 63) dX8_bore_57 (by decide) (fun c_57 => ?_) (fun c_57 => ?_)
          · refine lv_aload_n hx hb dX8_bore_63 rfl (lv_at hl 0 rfl) ?_
            refine r_get (T := TX8) (v := .ref (a 9)) hx hb hts hi8 hown hK hw 0 rfl rfl 21 (by decide) f_5 rfl dX8_bore_64 ?_
            refine lv_aload_n hx hb dX8_bore_67 rfl (lv_at hl 0 rfl) ?_
            refine r_get (T := TX8) (v := .int (nI bc)) hx hb hts hi8 hown hK hw 0 rfl rfl 20 (by decide) f_4 rfl dX8_bore_68 ?_
            refine lv_iload_n hx hb dX8_bore_71 rfl (lv_at hl 1 rfl) ?_
            refine r_iast (G' := ((mG a (nI n) tx pl st va fy fa ry se bh mi fb (nI bc) bk) :: (aG c4 (a 9) 10 (upd by0 bc y)) :: (aG c4 (a 10) 10 bn) :: (aG c4 (a 11) 10 bd) :: (aG c4 (a 12) 10 bi) :: Ts)) hx hb hK hw 1 0 rfl rfl bc (by omega) (by decide) rfl dX8_bore_72 (fun H locs hw => ?_)
            refine lv_aload_n hx hb dX8_bore_73 rfl (lv_at hl 0 rfl) ?_
            refine r_get (T := TX8) (v := .ref (a 10)) hx hb hts hi8 hown hK hw 0 rfl rfl 22 (by decide) f_6 rfl dX8_bore_74 ?_
            refine lv_aload_n hx hb dX8_bore_77 rfl (lv_at hl 0 rfl) ?_
            refine r_get (T := TX8) (v := .int (nI bc)) hx hb hts hi8 hown hK hw 0 rfl rfl 20 (by decide) f_4 rfl dX8_bore_78 ?_
            refine lv_iload_n hx hb dX8_bore_81 rfl (lv_at hl 2 rfl) ?_
            refine r_iast (G' := ((mG a (nI n) tx pl st va fy fa ry se bh mi fb (nI bc) bk) :: (aG c4 (a 9) 10 (upd by0 bc y)) :: (aG c4 (a 10) 10 (upd bn bc k)) :: (aG c4 (a 11) 10 bd) :: (aG c4 (a 12) 10 bi) :: Ts)) hx hb hK hw 2 0 rfl rfl bc (by omega) (by decide) rfl dX8_bore_82 (fun H locs hw => ?_)
            refine lv_aload_n hx hb dX8_bore_83 rfl (lv_at hl 0 rfl) ?_
            refine r_get (T := TX8) (v := .ref (a 11)) hx hb hts hi8 hown hK hw 0 rfl rfl 23 (by decide) f_7 rfl dX8_bore_84 ?_
            refine lv_aload_n hx hb dX8_bore_87 rfl (lv_at hl 0 rfl) ?_
            refine r_get (T := TX8) (v := .int (nI bc)) hx hb hts hi8 hown hK hw 0 rfl rfl 20 (by decide) f_4 rfl dX8_bore_88 ?_
            refine lv_iload_n hx hb dX8_bore_91 rfl (lv_at hl 3 rfl) ?_
            refine r_iast (G' := ((mG a (nI n) tx pl st va fy fa ry se bh mi fb (nI bc) bk) :: (aG c4 (a 9) 10 (upd by0 bc y)) :: (aG c4 (a 10) 10 (upd bn bc k)) :: (aG c4 (a 11) 10 (upd bd bc c)) :: (aG c4 (a 12) 10 bi) :: Ts)) hx hb hK hw 3 0 rfl rfl bc (by omega) (by decide) rfl dX8_bore_92 (fun H locs hw => ?_)
            refine lv_aload_n hx hb dX8_bore_93 rfl (lv_at hl 0 rfl) ?_
            refine r_get (T := TX8) (v := .ref (a 12)) hx hb hts hi8 hown hK hw 0 rfl rfl 24 (by decide) f_8 rfl dX8_bore_94 ?_
            refine lv_aload_n hx hb dX8_bore_97 rfl (lv_at hl 0 rfl) ?_
            refine r_get (T := TX8) (v := .int (nI bc)) hx hb hts hi8 hown hK hw 0 rfl rfl 20 (by decide) f_4 rfl dX8_bore_98 ?_
            refine lv_iload hx hb dX8_bore_101 (lv_at hl 4 rfl) ?_
            refine r_iast (G' := ((mG a (nI n) tx pl st va fy fa ry se bh mi fb (nI bc) bk) :: (aG c4 (a 9) 10 (upd by0 bc y)) :: (aG c4 (a 10) 10 (upd bn bc k)) :: (aG c4 (a 11) 10 (upd bd bc c)) :: (aG c4 (a 12) 10 (upd bi bc v)) :: Ts)) hx hb hK hw 4 0 rfl rfl bc (by omega) (by decide) rfl dX8_bore_103 (fun H locs hw => ?_)
            refine lv_aload_n hx hb dX8_bore_104 rfl (lv_at hl 0 rfl) ?_
            refine lv_dup hx hb dX8_bore_105 rfl ?_
            refine r_get (T := TX8) (v := .int (nI bc)) hx hb hts hi8 hown hK hw 0 rfl rfl 20 (by decide) f_4 rfl dX8_bore_106 ?_
            refine lv_iconst (v := 1) hx hb dX8_bore_109 (by decide) ?_
            refine r_addN hx hb bc 1 dX8_bore_110 ?_
            refine r_put (T := TX8) (G' := ((mG a (nI n) tx pl st va fy fa ry se bh mi fb (nI (bc + 1)) bk) :: (aG c4 (a 9) 10 (upd by0 bc y)) :: (aG c4 (a 10) 10 (upd bn bc k)) :: (aG c4 (a 11) 10 (upd bd bc c)) :: (aG c4 (a 12) 10 (upd bi bc v)) :: Ts)) hx hb hts hi8 tyX8 tyX8_ok nmX8 hown hK hw 0 rfl rfl 20 (by decide) f_4 rfl rfl (Nat.le_of_ble_eq_true rfl) rfl dX8_bore_111 (fun H locs hw => ?_)
            refine lv_aload_n hx hb dX8_bore_114 rfl (lv_at hl 0 rfl) ?_
            refine r_get (T := TX8) (v := .int (nI (bc + 1))) hx hb hts hi8 hown hK hw 0 rfl rfl 20 (by decide) f_4 rfl dX8_bore_115 ?_
            have hob : okB n bc y k c v := ⟨hiy, ((inL (lo := 0) (hi := 9) rfl rfl).mp (h1_17 c_20)), ((inL (lo := 0) (hi := 30) rfl rfl).mp (h1_29 c_32)), ((inL (lo := 0) (hi := 300) rfl rfl).mp (h1_42 c_45)), by omega⟩
            exact kr (nI (bc + 1)) (bc + 1, upd by0 bc y, upd bn bc k, upd bd bc c, upd bi bc v) _ _ _ _ hw ⟨(by rw [bo_ok hob]), ⟨rowB.yes hob rfl, rowB.yes hob rfl, rowB.yes hob rfl, rowB.yes hob rfl⟩⟩ dX8_bore_118
          · refine lv_ldc hx hb hown f_9 dX8_bore_60 ?_
            exact kr (-1000000004) (bc, by0, bn, bd, bi) _ _ _ _ hw ⟨(by unfold boreF; rw [if_pos hiy, if_pos ((inL (lo := 0) (hi := 9) rfl rfl).mp (h1_17 c_20)), if_pos ((inL (lo := 0) (hi := 30) rfl rfl).mp (h1_29 c_32)), if_pos ((inL (lo := 0) (hi := 300) rfl rfl).mp (h1_42 c_45)), if_neg (by omega)]), ⟨rowB.no (fun z => absurd z.2.2.2.2 (by omega)), rowB.no (fun z => absurd z.2.2.2.2 (by omega)), rowB.no (fun z => absurd z.2.2.2.2 (by omega)), rowB.no (fun z => absurd z.2.2.2.2 (by omega))⟩⟩ dX8_bore_62
        · refine lv_ldc hx hb hown f_1 dX8_bore_48 ?_
          exact kr (-1000000002) (bc, by0, bn, bd, bi) _ _ _ _ hw ⟨(by unfold boreF; rw [if_pos hiy, if_pos ((inL (lo := 0) (hi := 9) rfl rfl).mp (h1_17 c_20)), if_pos ((inL (lo := 0) (hi := 30) rfl rfl).mp (h1_29 c_32)), if_neg (fun z => h0_42 c_45 ((inL (lo := 0) (hi := 300) rfl rfl).mpr z))]), ⟨rowB.no (fun z => (fun z => h0_42 c_45 ((inL (lo := 0) (hi := 300) rfl rfl).mpr z)) z.2.2.2.1), rowB.no (fun z => (fun z => h0_42 c_45 ((inL (lo := 0) (hi := 300) rfl rfl).mpr z)) z.2.2.2.1), rowB.no (fun z => (fun z => h0_42 c_45 ((inL (lo := 0) (hi := 300) rfl rfl).mpr z)) z.2.2.2.1), rowB.no (fun z => (fun z => h0_42 c_45 ((inL (lo := 0) (hi := 300) rfl rfl).mpr z)) z.2.2.2.1)⟩⟩ dX8_bore_50
  · refine lv_ldc hx hb hown f_10 dX8_bore_8 ?_
    exact kr (-1000000001) (bc, by0, bn, bd, bi) _ _ _ _ hw ⟨(by unfold boreF; rw [if_neg (h0_2 c_5)]), ⟨rowB.no (fun z => h0_2 c_5 z.1), rowB.no (fun z => h0_2 c_5 z.1), rowB.no (fun z => h0_2 c_5 z.1), rowB.no (fun z => h0_2 c_5 z.1)⟩⟩ dX8_bore_10
set_option maxHeartbeats 4000000 in
set_option maxRecDepth 100000 in
theorem k_X8_judge (l : Launch) (D : va_G) (c4 : Nat → ClassId) (A : Nat → Prop) (Ts : List va_W) (a : Nat → Nat) (n : Nat) (tx : Int32) (pl : Int32) (st : Int32) (va : Int32) (fy : Int32) (fa : Int32) (ry : Int32) (se : Int32) (bh : Int32) (mi : Int32) (fb : Int32) (bo : Int32) (ec : Nat) (w : Nat → Int32) (q : Nat → Yq) (ey : Nat → Int32) (ei : Nat → Int32) (hn : n ≤ 12) (hY : mY q n w 0) (hec : ec ≤ 15) (hen : ∀ i, i < ec → ∃ k, k < n ∧ ey i = nI k) : Ci l yX8_judge wsX8_judge 0 0 [.ref (a 0)] D (tyA c4) A none ((mG a (nI n) tx pl st va fy fa ry se bh mi fb bo (nI ec)) :: (aG c4 (a 1) 204 w) :: (aG c4 (a 13) 15 ey) :: (aG c4 (a 14) 15 ei) :: Ts) (S := Unit) (fun (r : Int32) (u : Unit) => isFirst (fun i => ¬ qI (q (ey i).toNatClampNeg) = ei i) ec r) (fun u => ((mG a (nI n) tx pl st va fy fa ry se bh mi fb bo (nI ec)) :: (aG c4 (a 1) 204 w) :: (aG c4 (a 13) 15 ey) :: (aG c4 (a 14) 15 ei) :: Ts)) := by
  refine cOi (cc := cX8_judge) (maxL := 2) (by decide) rfl (Nat.le_of_ble_eq_true rfl) rfl ?_
  rintro jp je js jm below meth jc ls args R Q H locs hRf hRl ⟨hx, hb, hml, hr, hts, hown, hlocks, hK, hX⟩ hw hl kr
  have hown : js.vm.findClass RX8 = some jm.cls := hown
  have f_0 := hts (.fieldLink RX8 134 "IceSwayModel" "booked" "I") (by decide +kernel)
  have f_1 := hts (.fieldLink RX8 7 "IceSwayModel" "w" "[I") (by decide +kernel)
  have f_2 := hts (.fieldLink RX8 51 "IceSwayModel" "bookYard" "[I") (by decide +kernel)
  have f_3 := hts (.fieldLink RX8 54 "IceSwayModel" "bookIce" "[I") (by decide +kernel)
  have hi8 : ∀ w ∈ u_ws RX8 TX8 28, w ∈ wsX8_judge := fun w h => List.mem_cons_of_mem _ (List.mem_append_right _ h)
  refine lv_iconst (v := 0) hx hb dX8_judge_0 (by decide) ?_
  refine lv_istore_n (lv' := [(1, .int 0), (0, .ref (a 0))]) hx hb dX8_judge_1 rfl hl (by decide) rfl (fun ls hl => ?_)
  have loop_2 : ∀ (fuel : Nat) (k : Nat), (ec - k) < fuel → (k ≤ ec) → (∀ j, j < k → ¬ ¬ qI (q (ey j).toNatClampNeg) = ei j) → ∀ (H : Heap) (locs : List Loc), gW D A js.heap ((mG a (nI n) tx pl st va fy fa ry se bh mi fb bo (nI ec)) :: (aG c4 (a 1) 204 w) :: (aG c4 (a 13) 15 ey) :: (aG c4 (a 14) 15 ei) :: Ts) H locs → ∀ (ls : Array Slot), lv_has ls 2 [(1, .int (nI k)), (0, .ref (a 0))] → W jp l je R js jm args below meth jc H locs 0 0 Q (F0 jm 2 ls []) := by
    intro fuel
    induction fuel with
    | zero => intro k hm; exact absurd hm (Nat.not_lt_zero _)
    | succ fuel ih_2 =>
      intro k hm_2 hk hN H locs hw ls hl
      refine lv_iload_n hx hb dX8_judge_2 rfl (lv_at hl 0 rfl) ?_
      refine lv_aload_n hx hb dX8_judge_3 rfl (lv_at hl 1 rfl) ?_
      refine r_get (T := TX8) (v := .int (nI ec)) hx hb hts hi8 hown hK hw 0 rfl rfl 25 (by decide) f_0 rfl dX8_judge_4 ?_
      refine r_cge hx hb k ec (by omega) (by omega) (tgt := 40) dX8_judge_7 (by decide) (fun c_7 => ?_) (fun c_7 => ?_)
      · refine lv_iconst (v := (-1)) hx hb dX8_judge_40 (by decide) ?_
        exact kr (-1) () _ _ _ _ hw (Or.inr ⟨fun j hj => hN j (by omega), rfl⟩) dX8_judge_41
      · obtain ⟨ky, hky, eky⟩ := hen k c_7
        refine lv_aload_n hx hb dX8_judge_10 rfl (lv_at hl 1 rfl) ?_
        refine r_get (T := TX8) (v := .ref (a 1)) hx hb hts hi8 hown hK hw 0 rfl rfl 0 (by decide) f_1 rfl dX8_judge_11 ?_
        refine lv_iconst (v := 0) hx hb dX8_judge_14 (by decide) ?_
        refine lv_aload_n hx hb dX8_judge_15 rfl (lv_at hl 1 rfl) ?_
        refine r_get (T := TX8) (v := .ref (a 13)) hx hb hts hi8 hown hK hw 0 rfl rfl 26 (by decide) f_2 rfl dX8_judge_16 ?_
        refine lv_iload_n hx hb dX8_judge_19 rfl (lv_at hl 0 rfl) ?_
        refine r_iald hx hb hK hw 2 0 rfl rfl k (by omega) (by decide) dX8_judge_20 ?_
        refine r_top (y := nI ky) eky ?_
        refine r_addN hx hb 0 ky dX8_judge_21 ?_
        refine r_iald hx hb hK hw 1 0 rfl rfl (0 + ky) (by omega) (by decide) dX8_judge_22 ?_
        refine lv_aload_n hx hb dX8_judge_23 rfl (lv_at hl 1 rfl) ?_
        refine r_get (T := TX8) (v := .ref (a 14)) hx hb hts hi8 hown hK hw 0 rfl rfl 27 (by decide) f_3 rfl dX8_judge_24 ?_
        refine lv_iload_n hx hb dX8_judge_27 rfl (lv_at hl 0 rfl) ?_
        refine r_iald hx hb hK hw 3 0 rfl rfl k (by omega) (by decide) dX8_judge_28 ?_
        refine lv_icmp_eq (tgt := 34) hx hb dX8_judge_29 (by decide) (fun c_29 => ?_) (fun c_29 => ?_)
        · refine lv_iinc (v := (nI (k + 1))) (lv' := [(1, .int (nI (k + 1))), (0, .ref (a 0))]) hx hb dX8_judge_34 hl (k := 0) rfl (nI_add _ _) (by decide) rfl (fun ls hl => ?_)
          refine lv_goto (tgt := 2) hx hb dX8_judge_37 (by decide) ?_
          exact ih_2 (k + 1) (by omega) (by omega) (lt_s hN (fun z => z (by rw [eky, nI_clamp (by omega)]; exact (hY.a0 hky).1.symm.trans c_29))) _ _ hw ls (lv_sub hl [0, 1] rfl)
        · refine lv_iload_n hx hb dX8_judge_32 rfl (lv_at hl 0 rfl) ?_
          exact kr (nI k) () _ _ _ _ hw (Or.inl ⟨k, c_7, fun z => c_29 ((hY.a0 hky).1.trans (by rw [eky, nI_clamp (by omega)] at z; exact z)), hN, rfl⟩) dX8_judge_33
  exact loop_2 ((ec - 0) + 1) 0 (Nat.lt_succ_self _) (Nat.zero_le _) (fun j h => absurd h (Nat.not_lt_zero j)) _ _ hw ls (lv_sub hl [0, 1] rfl)
set_option maxHeartbeats 4000000 in
set_option maxRecDepth 100000 in
theorem k_X8_noFall (l : Launch) (D : va_G) (c4 : Nat → ClassId) (A : Nat → Prop) (Ts : List va_W) (a : Nat → Nat) (yn : Int32) (tx : Int32) (pl : Int32) (st : Int32) (va : Int32) (fy : Int32) (fa : Int32) (ry : Int32) (se : Int32) (bh : Int32) (mi : Int32) (fb : Int32) (bo : Int32) (bk : Int32) (told : Nat → Int32) (m : Int32) (w0 : Int32) (hT : tlOk told) : Ci l yX8_noFall wsX8_noFall 1 25 [.ref (a 0), .int m, .int w0] D (tyA c4) A none ((mG a yn tx pl st va fy fa ry se bh mi fb bo bk) :: (aG c4 (a 2) 18 told) :: Ts) (S := Unit) (fun (r : Int32) (u : Unit) => r = (noFF m w0 (told 0))) (fun u => ((mG a yn tx pl st va fy fa ry se bh mi fb bo bk) :: (aG c4 (a 2) 18 told) :: Ts)) := by
  refine cOi (cc := cX8_noFall) (maxL := 6) (by decide) rfl (Nat.le_of_ble_eq_true rfl) rfl ?_
  rintro jp je js jm below meth jc ls args R Q H locs hRf hRl ⟨hx, hb, hml, hr, hts, hown, hlocks, hK, hX⟩ hw hl kr
  have hown : js.vm.findClass RX8 = some jm.cls := hown
  have f_0 := hts (.constantLong RX8 163 (99)) (by decide +kernel)
  have f_1 := hts (.constant RX8 83 (-1000000002)) (by decide +kernel)
  have f_2 := hts (.constantLong RX8 221 (1000)) (by decide +kernel)
  have f_3 := hts (.constantLong RX8 219 (1000000000)) (by decide +kernel)
  have f_4 := hts (.fieldLink RX8 13 "IceSwayModel" "told" "[I") (by decide +kernel)
  have hi8 : ∀ w ∈ u_ws RX8 TX8 28, w ∈ wsX8_noFall := fun w h => List.mem_cons_of_mem _ (List.mem_append_right _ h)
  refine lv_iload_n hx hb dX8_noFall_0 rfl (lv_at hl 1 rfl) ?_
  refine lv_i2l hx hb dX8_noFall_1 rfl ?_
  refine lv_lconst (v := 0) hx hb dX8_noFall_2 (by decide) ?_
  refine lv_ldc2 hx hb hown f_0 dX8_noFall_3 ?_
  refine c_si (As := [.long m.toInt64, .long 0, .long 99]) (rest := []) ⟨hx, hb, hml, hown, hts⟩ (k_X8_in l D c4 A ((mG a yn tx pl st va fy fa ry se bh mi fb bo bk) :: (aG c4 (a 2) 18 told) :: Ts) m.toInt64 0 99) (va_cwS 3 hts gX8_noFall_X8_in rfl rfl rfl (by decide +kernel) (rmv (Nat.le_of_ble_eq_true rfl) (Nat.le_of_ble_eq_true rfl) hRf hRl)) hK trivial hw rfl hl rfl (Nat.le_of_ble_eq_true rfl) ⟨Nat.zero_le _, Nat.zero_le _⟩ dX8_noFall_6 (fun r_6 u_6 H locs hpq hw => ?_)
  obtain ⟨h0_6, h1_6, hz_6⟩ := hpq
  refine lv_if_eq (tgt := 24) hx hb dX8_noFall_9 (by decide) (fun c_9 => ?_) (fun c_9 => ?_)
  · refine lv_ldc hx hb hown f_1 dX8_noFall_24 ?_
    exact kr (-1000000002) () _ _ _ _ hw (by unfold noFF; rw [if_neg (fun z => h0_6 c_9 ((inL (lo := 0) (hi := 99) rfl rfl).mpr z))]) dX8_noFall_26
  · refine lv_iload_n hx hb dX8_noFall_12 rfl (lv_at hl 2 rfl) ?_
    refine lv_i2l hx hb dX8_noFall_13 rfl ?_
    refine lv_lconst (v := 0) hx hb dX8_noFall_14 (by decide) ?_
    refine lv_ldc2 hx hb hown f_2 dX8_noFall_15 ?_
    refine c_si (As := [.long w0.toInt64, .long 0, .long 1000]) (rest := []) ⟨hx, hb, hml, hown, hts⟩ (k_X8_in l D c4 A ((mG a yn tx pl st va fy fa ry se bh mi fb bo bk) :: (aG c4 (a 2) 18 told) :: Ts) w0.toInt64 0 1000) (va_cwS 3 hts gX8_noFall_X8_in rfl rfl rfl (by decide +kernel) (rmv (Nat.le_of_ble_eq_true rfl) (Nat.le_of_ble_eq_true rfl) hRf hRl)) hK trivial hw rfl hl rfl (Nat.le_of_ble_eq_true rfl) ⟨Nat.zero_le _, Nat.zero_le _⟩ dX8_noFall_18 (fun r_18 u_18 H locs hpq hw => ?_)
    obtain ⟨h0_18, h1_18, hz_18⟩ := hpq
    refine lv_if_ne (tgt := 27) hx hb dX8_noFall_21 (by decide) (fun c_21 => ?_) (fun c_21 => ?_)
    · obtain ⟨jm0, hm0, hm9, em⟩ := (show inR m 0 99 from ((inL (lo := 0) (hi := 99) rfl rfl).mp (h1_6 c_9))).nat (a := 0) (b := 99) rfl rfl
      obtain ⟨jh, hh0, hh9, eh⟩ := ra_nat (a := 1) (b := 12) hT.1
      have hjj : jm0 * jh ≤ 99 * 12 := Nat.mul_le_mul hm9 hh9
      refine lv_ldc2 hx hb hown f_3 dX8_noFall_27 ?_
      refine lv_lstore_n (lv' := [(3, .long 1000000000), (0, .ref (a 0)), (1, .int m), (2, .int w0)]) hx hb dX8_noFall_30 rfl hl (by decide) rfl (fun ls hl => ?_)
      refine lv_iconst (v := 0) hx hb dX8_noFall_31 (by decide) ?_
      refine lv_istore (lv' := [(5, .int 0), (3, .long 1000000000), (0, .ref (a 0)), (1, .int m), (2, .int w0)]) hx hb dX8_noFall_32 hl (by decide) rfl (fun ls hl => ?_)
      have loop_34 : ∀ (fuel : Nat) (i : Nat), (jm0 * jh - i) < fuel → (i ≤ jm0 * jh) → ∀ (H : Heap) (locs : List Loc), gW D A js.heap ((mG a yn tx pl st va fy fa ry se bh mi fb bo bk) :: (aG c4 (a 2) 18 told) :: Ts) H locs → ∀ (ls : Array Slot), lv_has ls 6 [(5, .int (nI i)), (3, .long (nfI w0 i)), (0, .ref (a 0)), (1, .int m), (2, .int w0)] → W jp l je R js jm args below meth jc H locs 0 0 Q (F0 jm 34 ls []) := by
        intro fuel
        induction fuel with
        | zero => intro i hm; exact absurd hm (Nat.not_lt_zero _)
        | succ fuel ih_34 =>
          intro i hm_34 hi H locs hw ls hl
          refine lv_iload hx hb dX8_noFall_34 (lv_at hl 0 rfl) ?_
          refine lv_aload_n hx hb dX8_noFall_36 rfl (lv_at hl 2 rfl) ?_
          refine r_get (T := TX8) (v := .ref (a 2)) hx hb hts hi8 hown hK hw 0 rfl rfl 1 (by decide) f_4 rfl dX8_noFall_37 ?_
          refine lv_iconst (v := 0) hx hb dX8_noFall_40 (by decide) ?_
          refine r_iald hx hb hK hw 1 0 rfl rfl 0 (by omega) (by decide) dX8_noFall_41 ?_
          refine lv_iload_n hx hb dX8_noFall_42 rfl (lv_at hl 3 rfl) ?_
          refine lv_imul hx hb dX8_noFall_43 ?_
          refine r_top (y := nI (jm0 * jh)) (by rw [em, eh, pk_mul, Nat.mul_comm]) ?_
          refine r_cge hx hb i (jm0 * jh) (by omega) (by omega) (tgt := 66) dX8_noFall_44 (by decide) (fun c_44 => ?_) (fun c_44 => ?_)
          · refine lv_lload_n hx hb dX8_noFall_66 rfl (lv_at hl 1 rfl) ?_
            refine lv_l2i hx hb dX8_noFall_67 rfl ?_
            exact kr ((nfI w0 i).toInt32) () _ _ _ _ hw (by unfold noFF; rw [if_pos ((inL (lo := 0) (hi := 99) rfl rfl).mp (h1_6 c_9)), if_pos ((inL (lo := 0) (hi := 1000) rfl rfl).mp (h1_18 c_21)), em, eh, pk_mul, nI_clamp (by omega), show jm0 * jh = i by omega]) dX8_noFall_68
          · refine lv_lload_n hx hb dX8_noFall_47 rfl (lv_at hl 1 rfl) ?_
            refine lv_sipush (v := 1000) hx hb dX8_noFall_48 (by decide) ?_
            refine lv_iload_n hx hb dX8_noFall_51 rfl (lv_at hl 4 rfl) ?_
            refine lv_isub hx hb dX8_noFall_52 ?_
            refine lv_i2l hx hb dX8_noFall_53 rfl ?_
            refine lv_lmul hx hb dX8_noFall_54 ?_
            refine lv_ldc2 hx hb hown f_2 dX8_noFall_55 ?_
            refine lv_ldiv hx hb dX8_noFall_58 (by decide) ?_
            refine lv_lstore_n (lv' := [(3, .long (((nfI w0 i) * ((1000 - w0).toInt64)) / 1000)), (5, .int (nI i)), (0, .ref (a 0)), (1, .int m), (2, .int w0)]) hx hb dX8_noFall_59 rfl hl (by decide) rfl (fun ls hl => ?_)
            refine lv_iinc (v := (nI (i + 1))) (lv' := [(5, .int (nI (i + 1))), (3, .long (((nfI w0 i) * ((1000 - w0).toInt64)) / 1000)), (0, .ref (a 0)), (1, .int m), (2, .int w0)]) hx hb dX8_noFall_60 hl (k := 1) rfl (nI_add _ _) (by decide) rfl (fun ls hl => ?_)
            refine lv_goto (tgt := 34) hx hb dX8_noFall_63 (by decide) ?_
            exact ih_34 (i + 1) (by omega) (by omega) _ _ hw ls (lv_sub hl [0, 1, 2, 3, 4] rfl)
      exact loop_34 ((jm0 * jh - 0) + 1) 0 (Nat.lt_succ_self _) (Nat.zero_le _) _ _ hw ls (lv_sub hl [0, 1, 2, 3, 4] rfl)
    · refine lv_ldc hx hb hown f_1 dX8_noFall_24 ?_
      exact kr (-1000000002) () _ _ _ _ hw (by unfold noFF; rw [if_pos ((inL (lo := 0) (hi := 99) rfl rfl).mp (h1_6 c_9)), if_neg (fun z => h0_18 c_21 ((inL (lo := 0) (hi := 1000) rfl rfl).mpr z))]) dX8_noFall_26
