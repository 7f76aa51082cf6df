set_option maxHeartbeats 4000000 in
set_option maxRecDepth 100000 in
theorem k_X4_minutesThrough (l : Launch) (D : va_G) (c4 : Nat → ClassId) (A : Nat → Prop) (Ts : List va_W) (k : Int32) (i : Int32) (f : Int32) (x : Int32) (hi : iceOk i) (hf : fOk f x) : Ci l yX4_minutesThrough wsX4_minutesThrough 0 0 [.int k, .int i, .int f, .int x] D (tyA c4) A none (Ts) (S := Unit) (fun (r : Int32) (u : Unit) => r = (pGo k i f x)) (fun u => (Ts)) := by
  refine cOi (cc := cX4_minutesThrough) (maxL := 5) (by decide) rfl (Nat.le_of_ble_eq_true rfl) rfl ?_
  rintro jp je js jm below meth jc ls args R Q H locs hRf hRl ⟨hx, hb, hml, hr, hts, hown, hlocks, hK, hX⟩ hw hl kr
  have hown : js.vm.findClass RX4 = some jm.cls := hown
  refine lv_iload_n hx hb dX4_minutesThrough_0 rfl (lv_at hl 1 rfl) ?_
  refine lv_if_ne (tgt := 6) hx hb dX4_minutesThrough_1 (by decide) (fun c_1 => ?_) (fun c_1 => ?_)
  · refine lv_iload_n hx hb dX4_minutesThrough_6 rfl (lv_at hl 2 rfl) ?_
    refine lv_iconst (v := 1) hx hb dX4_minutesThrough_7 (by decide) ?_
    refine lv_icmp_lt (tgt := 18) hx hb dX4_minutesThrough_8 (by decide) (fun c_8 => ?_) (fun c_8 => ?_)
    · exact absurd c_8 (by have h := hf.1.1; rw [fa_lt, show (1 : Int32).toInt = 1 from rfl]; omega)
    · refine lv_iload_n hx hb dX4_minutesThrough_11 rfl (lv_at hl 1 rfl) ?_
      refine lv_iconst (v := 2) hx hb dX4_minutesThrough_12 (by decide) ?_
      refine lv_iload_n hx hb dX4_minutesThrough_13 rfl (lv_at hl 2 rfl) ?_
      refine lv_imul hx hb dX4_minutesThrough_14 ?_
      refine lv_icmp_le (tgt := 20) hx hb dX4_minutesThrough_15 (by decide) (fun c_15 => ?_) (fun c_15 => ?_)
      · refine lv_iconst (v := 1) hx hb dX4_minutesThrough_20 (by decide) ?_
        refine lv_bipush (v := 10) hx hb dX4_minutesThrough_21 (by decide) ?_
        refine lv_iload_n hx hb dX4_minutesThrough_23 rfl (lv_at hl 1 rfl) ?_
        refine lv_imul hx hb dX4_minutesThrough_24 ?_
        refine lv_iload_n hx hb dX4_minutesThrough_25 rfl (lv_at hl 2 rfl) ?_
        refine lv_idiv hx hb dX4_minutesThrough_26 (by have h := hf.1.1; intro e; rw [e, show (0 : Int32).toInt = 0 from rfl] at h; omega) ?_
        refine lv_iadd hx hb dX4_minutesThrough_27 ?_
        refine lv_istore (lv' := [(4, .int (1 + ((10 * i) / f))), (0, .int k), (1, .int i), (2, .int f), (3, .int x)]) hx hb dX4_minutesThrough_28 hl (by decide) rfl (fun ls hl => ?_)
        refine lv_iload_n hx hb dX4_minutesThrough_30 rfl (lv_at hl 2 rfl) ?_
        refine lv_iload_n hx hb dX4_minutesThrough_31 rfl (lv_at hl 3 rfl) ?_
        have kj_32 : ∀ (w_1 : Int32) (ls : Array Slot), w_1 = (if i ≤ f then (1 + ((10 * i) / f)) else (2 * (1 + ((10 * i) / f)))) → lv_has ls 5 [(4, .int w_1), (0, .int k), (1, .int i), (2, .int f), (3, .int x)] → W jp l je R js jm args below meth jc H locs 0 0 Q (F0 jm 41 ls []) := by
          intro w_1 ls e_w_1 hl
          subst e_w_1
          refine lv_iload_n hx hb dX4_minutesThrough_41 rfl (lv_at hl 1 rfl) ?_
          refine lv_iconst (v := 2) hx hb dX4_minutesThrough_42 (by decide) ?_
          refine lv_icmp_ne (tgt := 53) hx hb dX4_minutesThrough_43 (by decide) (fun c_43 => ?_) (fun c_43 => ?_)
          · refine lv_iload hx hb dX4_minutesThrough_53 (lv_at hl 0 rfl) ?_
            exact kr (if i ≤ f then (1 + ((10 * i) / f)) else (2 * (1 + ((10 * i) / f)))) () _ _ _ _ hw (mt_go c_15 (by unfold pTake; rw [if_neg c_1, if_neg c_43]; exact mt_ite)) dX4_minutesThrough_55
          · refine lv_iload hx hb dX4_minutesThrough_46 (lv_at hl 0 rfl) ?_
            refine lv_iload_n hx hb dX4_minutesThrough_48 rfl (lv_at hl 4 rfl) ?_
            refine lv_iadd hx hb dX4_minutesThrough_49 ?_
            refine lv_goto (tgt := 55) hx hb dX4_minutesThrough_50 (by decide) ?_
            exact kr ((if i ≤ f then (1 + ((10 * i) / f)) else (2 * (1 + ((10 * i) / f)))) + x) () _ _ _ _ hw (mt_go c_15 (by unfold pTake; rw [if_neg c_1, if_pos c_43]; exact congrArg (· + x) mt_ite)) dX4_minutesThrough_55
        refine lv_icmp_le (tgt := 41) hx hb dX4_minutesThrough_32 (by decide) (fun c_32 => ?_) (fun c_32 => ?_)
        · exact kj_32 _ ls (by first | rfl | (rw [if_pos c_32]; done) | (simp only [if_pos c_32]; done) | simp [c_32]) (lv_sub hl [0, 1, 2, 3, 4] rfl)
        · refine lv_iconst (v := 2) hx hb dX4_minutesThrough_35 (by decide) ?_
          refine lv_iload hx hb dX4_minutesThrough_36 (lv_at hl 0 rfl) ?_
          refine lv_imul hx hb dX4_minutesThrough_38 ?_
          refine lv_istore (lv' := [(4, .int (2 * (1 + ((10 * i) / f)))), (0, .int k), (1, .int i), (2, .int f), (3, .int x)]) hx hb dX4_minutesThrough_39 hl (by decide) rfl (fun ls hl => ?_)
          exact kj_32 _ ls (by first | rfl | (rw [if_neg c_32]; done) | (simp only [if_neg c_32]; done) | simp [c_32]) (lv_sub hl [0, 1, 2, 3, 4] rfl)
      · refine lv_iconst (v := (-1)) hx hb dX4_minutesThrough_18 (by decide) ?_
        exact kr (-1) () _ _ _ _ hw (mt_st c_15).symm dX4_minutesThrough_19
  · refine lv_iconst (v := 1) hx hb dX4_minutesThrough_4 (by decide) ?_
    exact kr 1 () _ _ _ _ hw (by rw [c_1]; exact (mt_0 hf).symm) dX4_minutesThrough_5
set_option maxHeartbeats 4000000 in
set_option maxRecDepth 100000 in
theorem k_X4_go (l : Launch) (D : va_G) (c4 : Nat → ClassId) (A : Nat → Prop) (Ts : List va_W) (a : Nat → Nat) (bh : Int32) (mi : Int32) (fb : Int32) (ba : Nat → Int32) (b : Nat → Nat) (n : Nat) (os : Int32) (kd : Nat → Int32) (ic : Nat → Int32) (br : Nat → Int32) (q : Nat → Yq) (f : Int32) (x : Int32) (t : Int32) (hn : n ≤ 12) (hY : yR q n os kd ic br) (hf : fOk f x) : Cv l yX4_go wsX4_go 1 24 [.ref (a 0), .ref (b 0), .int f, .int x, .int t] D (tyA c4) A none ((tG c4 a bh mi fb ba) :: (yG c4 b (nI n) os kd ic br) :: Ts) (S := Nat × (Nat → Int32)) (fun (u : Nat × (Nat → Int32)) => (u.1 = bhQ f x t q n) ∧ (∀ k, k < u.1 → u.2 k = cumQ f x q (k + 1))) (fun u => ((tG c4 a (nI u.1) (cumQ f x q u.1) (fbQ q u.1) u.2) :: (yG c4 b (nI n) os kd ic br) :: Ts)) := by
  refine cOv (cc := cX4_go) (maxL := 7) (by decide) rfl (Nat.le_of_ble_eq_true rfl) rfl ?_
  rintro jp je js jm below meth jc ls args R Q H locs hRf hRl ⟨hx, hb, hml, hr, hts, hown, hlocks, hK, hX⟩ hw hl kr
  have hown : js.vm.findClass RX4 = some jm.cls := hown
  have f_0 := hts (.fieldLink RX4 17 "IceSway$Trip" "behind" "I") (by decide +kernel)
  have f_1 := hts (.fieldLink RX4 21 "IceSway$Trip" "minutes" "I") (by decide +kernel)
  have f_2 := hts (.fieldLink RX4 24 "IceSway$Trip" "firstBroken" "I") (by decide +kernel)
  have f_3 := hts (.fieldLink RX4 27 "IceSway$Yards" "count" "I") (by decide +kernel)
  have f_4 := hts (.fieldLink RX4 30 "IceSway$Yards" "kind" "[I") (by decide +kernel)
  have f_5 := hts (.fieldLink RX4 33 "IceSway$Yards" "ice" "[I") (by decide +kernel)
  have f_6 := hts (.fieldLink RX4 11 "IceSway$Trip" "behindAt" "[I") (by decide +kernel)
  have hi4 : ∀ w ∈ u_ws RX4 TX4 4, w ∈ wsX4_go := fun w h => List.mem_cons_of_mem _ (List.mem_append_left _ (List.mem_append_right _ h))
  have hi6 : ∀ w ∈ u_ws RX6 TX6 5, w ∈ wsX4_go := fun w h => List.mem_cons_of_mem _ (List.mem_append_right _ h)
  refine lv_aload_n hx hb dX4_go_0 rfl (lv_at hl 0 rfl) ?_
  refine lv_iconst (v := 0) hx hb dX4_go_1 (by decide) ?_
  refine r_put (T := TX4) (G' := ((tG c4 a 0 mi fb ba) :: (yG c4 b (nI n) os kd ic br) :: Ts)) hx hb hts hi4 tyX4 tyX4_ok nmX4 hown hK hw 0 rfl rfl 0 (by decide) f_0 rfl rfl (Nat.le_of_ble_eq_true rfl) rfl dX4_go_2 (fun H locs hw => ?_)
  refine lv_aload_n hx hb dX4_go_5 rfl (lv_at hl 0 rfl) ?_
  refine lv_iconst (v := 0) hx hb dX4_go_6 (by decide) ?_
  refine r_put (T := TX4) (G' := ((tG c4 a 0 0 fb ba) :: (yG c4 b (nI n) os kd ic br) :: Ts)) hx hb hts hi4 tyX4 tyX4_ok nmX4 hown hK hw 0 rfl rfl 1 (by decide) f_1 rfl rfl (Nat.le_of_ble_eq_true rfl) rfl dX4_go_7 (fun H locs hw => ?_)
  refine lv_aload_n hx hb dX4_go_10 rfl (lv_at hl 0 rfl) ?_
  refine lv_iconst (v := (-1)) hx hb dX4_go_11 (by decide) ?_
  refine r_put (T := TX4) (G' := ((tG c4 a 0 0 (-1) ba) :: (yG c4 b (nI n) os kd ic br) :: Ts)) hx hb hts hi4 tyX4 tyX4_ok nmX4 hown hK hw 0 rfl rfl 2 (by decide) f_2 rfl rfl (Nat.le_of_ble_eq_true rfl) rfl dX4_go_12 (fun H locs hw => ?_)
  refine lv_iconst (v := 0) hx hb dX4_go_15 (by decide) ?_
  refine lv_istore (lv' := [(5, .int 0), (0, .ref (a 0)), (1, .ref (b 0)), (2, .int f), (3, .int x), (4, .int t)]) hx hb dX4_go_16 hl (by decide) rfl (fun ls hl => ?_)
  have loop_18 : ∀ (fuel : Nat) (i : Nat) (ba1 : Nat → Int32), (n - i) < fuel → (i ≤ n) → (bhQ f x t q i = i) → (∀ k, k < i → ba1 k = cumQ f x q (k + 1)) → ∀ (H : Heap) (locs : List Loc), gW D A js.heap ((tG c4 a (nI i) (cumQ f x q i) (fbQ q i) ba1) :: (yG c4 b (nI n) os kd ic br) :: Ts) H locs → ∀ (ls : Array Slot), lv_has ls 7 [(5, .int (nI i)), (0, .ref (a 0)), (1, .ref (b 0)), (2, .int f), (3, .int x), (4, .int t)] → W jp l je R js jm args below meth jc H locs 0 0 Q (F0 jm 18 ls []) := by
    intro fuel
    induction fuel with
    | zero => intro i ba1 hm; exact absurd hm (Nat.not_lt_zero _)
    | succ fuel ih_18 =>
      intro i ba1 hm_18 hi hB hba H locs hw ls hl
      refine lv_iload hx hb dX4_go_18 (lv_at hl 0 rfl) ?_
      refine lv_aload_n hx hb dX4_go_20 rfl (lv_at hl 2 rfl) ?_
      refine r_get (T := TX6) (v := .int (nI n)) hx hb hts hi6 hown hK hw 2 rfl rfl 0 (by decide) f_3 rfl dX4_go_21 ?_
      refine r_cge hx hb i n (by omega) (by omega) (tgt := 127) dX4_go_24 (by decide) (fun c_24 => ?_) (fun c_24 => ?_)
      · exact kr (i, ba1) _ _ _ _ hw ⟨(by rw [show n = i from by omega]; exact hB.symm), hba⟩ dX4_go_127
      · refine lv_aload_n hx hb dX4_go_27 rfl (lv_at hl 2 rfl) ?_
        refine r_get (T := TX6) (v := .ref (b 1)) hx hb hts hi6 hown hK hw 2 rfl rfl 2 (by decide) f_4 rfl dX4_go_28 ?_
        refine lv_iload hx hb dX4_go_31 (lv_at hl 0 rfl) ?_
        refine r_iald hx hb hK hw 3 0 rfl rfl i (by omega) (by decide) dX4_go_33 ?_
        refine lv_aload_n hx hb dX4_go_34 rfl (lv_at hl 2 rfl) ?_
        refine r_get (T := TX6) (v := .ref (b 2)) hx hb hts hi6 hown hK hw 2 rfl rfl 3 (by decide) f_5 rfl dX4_go_35 ?_
        refine lv_iload hx hb dX4_go_38 (lv_at hl 0 rfl) ?_
        refine r_iald hx hb hK hw 4 0 rfl rfl i (by omega) (by decide) dX4_go_40 ?_
        refine lv_iload_n hx hb dX4_go_41 rfl (lv_at hl 3 rfl) ?_
        refine lv_iload_n hx hb dX4_go_42 rfl (lv_at hl 4 rfl) ?_
        refine c_si (As := [.int (kd i), .int (ic i), .int f, .int x]) (rest := []) ⟨hx, hb, hml, hown, hts⟩ (k_X4_minutesThrough l D c4 A ((tG c4 a (nI i) (cumQ f x q i) (fbQ q i) ba1) :: (yG c4 b (nI n) os kd ic br) :: Ts) (kd i) (ic i) f x (by rw [(hY.rows i (by omega)).1]; exact (hY.ok (by omega)).1) hf) (va_cwS 4 hts gX4_go_X4_minutesThrough rfl rfl rfl (by decide +kernel) (rmv (Nat.le_of_ble_eq_true rfl) (Nat.le_of_ble_eq_true rfl) hRf hRl)) hK trivial hw rfl hl rfl (Nat.le_of_ble_eq_true rfl) ⟨Nat.zero_le _, Nat.zero_le _⟩ dX4_go_43 (fun r_43 u_43 H locs hpq hw => ?_)
        have er_43 := hpq
        subst er_43
        refine r_top (y := pGo (qK (q i)) (qI (q i)) f x) (by rw [(hY.rows i (by omega)).1, (hY.rows i (by omega)).2.1]) ?_
        refine lv_istore (lv' := [(6, .int (pGo (qK (q i)) (qI (q i)) f x)), (5, .int (nI i)), (0, .ref (a 0)), (1, .ref (b 0)), (2, .int f), (3, .int x), (4, .int t)]) hx hb dX4_go_46 hl (by decide) rfl (fun ls hl => ?_)
        refine lv_iload hx hb dX4_go_48 (lv_at hl 0 rfl) ?_
        refine lv_iconst (v := (-1)) hx hb dX4_go_50 (by decide) ?_
        refine lv_icmp_eq (tgt := 66) hx hb dX4_go_51 (by decide) (fun c_51 => ?_) (fun c_51 => ?_)
        · exact kr (i, ba1) _ _ _ _ hw ⟨(bh_stop' hB (go_st (hY.ok (by omega)) hf c_51) (by omega)), hba⟩ dX4_go_66
        · refine lv_aload_n hx hb dX4_go_54 rfl (lv_at hl 2 rfl) ?_
          refine r_get (T := TX4) (v := .int (cumQ f x q i)) hx hb hts hi4 hown hK hw 0 rfl rfl 1 (by decide) f_1 rfl dX4_go_55 ?_
          refine lv_iload hx hb dX4_go_58 (lv_at hl 0 rfl) ?_
          refine lv_iadd hx hb dX4_go_60 ?_
          refine lv_iload hx hb dX4_go_61 (lv_at hl 6 rfl) ?_
          refine lv_icmp_le (tgt := 67) hx hb dX4_go_63 (by decide) (fun c_63 => ?_) (fun c_63 => ?_)
          · refine lv_aload_n hx hb dX4_go_67 rfl (lv_at hl 2 rfl) ?_
            refine lv_dup hx hb dX4_go_68 rfl ?_
            refine r_get (T := TX4) (v := .int (cumQ f x q i)) hx hb hts hi4 hown hK hw 0 rfl rfl 1 (by decide) f_1 rfl dX4_go_69 ?_
            refine lv_iload hx hb dX4_go_72 (lv_at hl 0 rfl) ?_
            refine lv_iadd hx hb dX4_go_74 ?_
            refine r_top (y := cumQ f x q (i + 1)) (go_mi c_51) ?_
            refine r_put (T := TX4) (G' := ((tG c4 a (nI i) (cumQ f x q (i + 1)) (fbQ q i) ba1) :: (yG c4 b (nI n) os kd ic br) :: Ts)) hx hb hts hi4 tyX4 tyX4_ok nmX4 hown hK hw 0 rfl rfl 1 (by decide) f_1 rfl rfl (Nat.le_of_ble_eq_true rfl) rfl dX4_go_75 (fun H locs hw => ?_)
            refine lv_aload_n hx hb dX4_go_78 rfl (lv_at hl 2 rfl) ?_
            refine r_get (T := TX4) (v := .ref (a 1)) hx hb hts hi4 hown hK hw 0 rfl rfl 3 (by decide) f_6 rfl dX4_go_79 ?_
            refine lv_iload hx hb dX4_go_82 (lv_at hl 1 rfl) ?_
            refine lv_aload_n hx hb dX4_go_84 rfl (lv_at hl 2 rfl) ?_
            refine r_get (T := TX4) (v := .int (cumQ f x q (i + 1))) hx hb hts hi4 hown hK hw 0 rfl rfl 1 (by decide) f_1 rfl dX4_go_85 ?_
            refine r_iast (G' := ((tG c4 a (nI i) (cumQ f x q (i + 1)) (fbQ q i) (upd ba1 i (cumQ f x q (i + 1)))) :: (yG c4 b (nI n) os kd ic br) :: Ts)) hx hb hK hw 1 0 rfl rfl i (by omega) (by decide) rfl dX4_go_88 (fun H locs hw => ?_)
            refine lv_aload_n hx hb dX4_go_89 rfl (lv_at hl 2 rfl) ?_
            refine lv_iload hx hb dX4_go_90 (lv_at hl 1 rfl) ?_
            refine lv_iconst (v := 1) hx hb dX4_go_92 (by decide) ?_
            refine r_addN hx hb i 1 dX4_go_93 ?_
            refine r_put (T := TX4) (G' := ((tG c4 a (nI (i + 1)) (cumQ f x q (i + 1)) (fbQ q i) (upd ba1 i (cumQ f x q (i + 1)))) :: (yG c4 b (nI n) os kd ic br) :: Ts)) hx hb hts hi4 tyX4 tyX4_ok nmX4 hown hK hw 0 rfl rfl 0 (by decide) f_0 rfl rfl (Nat.le_of_ble_eq_true rfl) rfl dX4_go_94 (fun H locs hw => ?_)
            refine lv_aload_n hx hb dX4_go_97 rfl (lv_at hl 2 rfl) ?_
            refine r_get (T := TX4) (v := .int (fbQ q i)) hx hb hts hi4 hown hK hw 0 rfl rfl 2 (by decide) f_2 rfl dX4_go_98 ?_
            refine lv_iconst (v := (-1)) hx hb dX4_go_101 (by decide) ?_
            refine lv_icmp_ne (tgt := 121) hx hb dX4_go_102 (by decide) (fun c_102 => ?_) (fun c_102 => ?_)
            · refine lv_iinc (v := (nI (i + 1))) (lv' := [(5, .int (nI (i + 1))), (6, .int (pGo (qK (q i)) (qI (q i)) f x)), (0, .ref (a 0)), (1, .ref (b 0)), (2, .int f), (3, .int x), (4, .int t)]) hx hb dX4_go_121 hl (k := 1) rfl (nI_add _ _) (by decide) rfl (fun ls hl => ?_)
              refine lv_goto (tgt := 18) hx hb dX4_go_124 (by decide) ?_
              rw [show (fbQ q i) = (fbQ q (i + 1)) from (by first | exact fb_a c_102 | exact fb_b (hY.rows i (by omega)).1 c_112)] at hw
              exact ih_18 (i + 1) (upd ba1 i (cumQ f x q (i + 1))) (by omega) (by omega) (bh_go hB (go_on c_51 c_63)) (ba_step hba) _ _ hw ls (lv_sub hl [0, 2, 3, 4, 5, 6] rfl)
            · refine lv_aload_n hx hb dX4_go_105 rfl (lv_at hl 3 rfl) ?_
              refine r_get (T := TX6) (v := .ref (b 2)) hx hb hts hi6 hown hK hw 2 rfl rfl 3 (by decide) f_5 rfl dX4_go_106 ?_
              refine lv_iload hx hb dX4_go_109 (lv_at hl 1 rfl) ?_
              refine r_iald hx hb hK hw 4 0 rfl rfl i (by omega) (by decide) dX4_go_111 ?_
              refine lv_if_le (tgt := 121) hx hb dX4_go_112 (by decide) (fun c_112 => ?_) (fun c_112 => ?_)
              · refine lv_iinc (v := (nI (i + 1))) (lv' := [(5, .int (nI (i + 1))), (6, .int (pGo (qK (q i)) (qI (q i)) f x)), (0, .ref (a 0)), (1, .ref (b 0)), (2, .int f), (3, .int x), (4, .int t)]) hx hb dX4_go_121 hl (k := 1) rfl (nI_add _ _) (by decide) rfl (fun ls hl => ?_)
                refine lv_goto (tgt := 18) hx hb dX4_go_124 (by decide) ?_
                rw [show (fbQ q i) = (fbQ q (i + 1)) from (by first | exact fb_a c_102 | exact fb_b (hY.rows i (by omega)).1 c_112)] at hw
                exact ih_18 (i + 1) (upd ba1 i (cumQ f x q (i + 1))) (by omega) (by omega) (bh_go hB (go_on c_51 c_63)) (ba_step hba) _ _ hw ls (lv_sub hl [0, 2, 3, 4, 5, 6] rfl)
              · refine lv_aload_n hx hb dX4_go_115 rfl (lv_at hl 2 rfl) ?_
                refine lv_iload hx hb dX4_go_116 (lv_at hl 1 rfl) ?_
                refine r_top (y := fbQ q (i + 1)) (fb_c (hY.rows i (by omega)).1 c_102 c_112) ?_
                refine r_put (T := TX4) (G' := ((tG c4 a (nI (i + 1)) (cumQ f x q (i + 1)) (fbQ q (i + 1)) (upd ba1 i (cumQ f x q (i + 1)))) :: (yG c4 b (nI n) os kd ic br) :: Ts)) hx hb hts hi4 tyX4 tyX4_ok nmX4 hown hK hw 0 rfl rfl 2 (by decide) f_2 rfl rfl (Nat.le_of_ble_eq_true rfl) rfl dX4_go_118 (fun H locs hw => ?_)
                refine lv_iinc (v := (nI (i + 1))) (lv' := [(5, .int (nI (i + 1))), (6, .int (pGo (qK (q i)) (qI (q i)) f x)), (0, .ref (a 0)), (1, .ref (b 0)), (2, .int f), (3, .int x), (4, .int t)]) hx hb dX4_go_121 hl (k := 1) rfl (nI_add _ _) (by decide) rfl (fun ls hl => ?_)
                refine lv_goto (tgt := 18) hx hb dX4_go_124 (by decide) ?_
                exact ih_18 (i + 1) (upd ba1 i (cumQ f x q (i + 1))) (by omega) (by omega) (bh_go hB (go_on c_51 c_63)) (ba_step hba) _ _ hw ls (lv_sub hl [0, 2, 3, 4, 5, 6] rfl)
          · exact kr (i, ba1) _ _ _ _ hw ⟨(bh_stop' hB (go_late c_51 c_63) (by omega)), hba⟩ dX4_go_66
  exact loop_18 ((n - 0) + 1) 0 ba (Nat.lt_succ_self _) (Nat.zero_le _) rfl (fun k h => absurd h (Nat.not_lt_zero k)) _ _ hw ls (lv_sub hl [0, 1, 2, 3, 4, 5] rfl)
set_option maxHeartbeats 4000000 in
set_option maxRecDepth 100000 in
theorem k_X4_passes (l : Launch) (D : va_G) (c4 : Nat → ClassId) (A : Nat → Prop) (Ts : List va_W) (a : Nat → Nat) (bh : Int32) (mi : Int32) (fb : Int32) (ba : Nat → Int32) (b : Nat → Nat) (n : Nat) (os : Int32) (kd : Nat → Int32) (ic : Nat → Int32) (br : Nat → Int32) (q : Nat → Yq) (f : Int32) (x : Int32) (t : Int32) (hn : n ≤ 12) (hY : yR q n os kd ic br) (hf : fOk f x) : Ci l yX4_passes wsX4_passes 2 50 [.ref (a 0), .ref (b 0), .int f, .int x, .int t] D (tyA c4) A none ((tG c4 a bh mi fb ba) :: (yG c4 b (nI n) os kd ic br) :: Ts) (S := Nat × (Nat → Int32)) (fun (r : Int32) (u : Nat × (Nat → Int32)) => (r = 0 → ¬ u.1 = n) ∧ (¬ r = 0 → u.1 = n) ∧ (u.1 = bhQ f x t q n) ∧ (∀ k, k < u.1 → u.2 k = cumQ f x q (k + 1))) (fun u => ((tG c4 a (nI u.1) (cumQ f x q u.1) (fbQ q u.1) u.2) :: (yG c4 b (nI n) os kd ic br) :: Ts)) := by
  refine cOz (cc := cX4_passes) (maxL := 5) (by decide) rfl (Nat.le_of_ble_eq_true rfl) rfl ?_
  rintro jp je js jm below meth jc ls args R Q H locs hRf hRl ⟨hx, hb, hml, hr, hts, hown, hlocks, hK, hX⟩ hw hl kr
  have hown : js.vm.findClass RX4 = some jm.cls := hown
  have f_0 := hts (.fieldLink RX4 17 "IceSway$Trip" "behind" "I") (by decide +kernel)
  have f_1 := hts (.fieldLink RX4 27 "IceSway$Yards" "count" "I") (by decide +kernel)
  have hi4 : ∀ w ∈ u_ws RX4 TX4 4, w ∈ wsX4_passes := fun w h => List.mem_cons_of_mem _ (List.mem_append_left _ (List.mem_append_right _ h))
  have hi6 : ∀ w ∈ u_ws RX6 TX6 5, w ∈ wsX4_passes := fun w h => List.mem_cons_of_mem _ (List.mem_append_right _ h)
  refine lv_aload_n hx hb dX4_passes_0 rfl (lv_at hl 0 rfl) ?_
  refine lv_aload_n hx hb dX4_passes_1 rfl (lv_at hl 1 rfl) ?_
  refine lv_iload_n hx hb dX4_passes_2 rfl (lv_at hl 2 rfl) ?_
  refine lv_iload_n hx hb dX4_passes_3 rfl (lv_at hl 3 rfl) ?_
  refine lv_iload hx hb dX4_passes_4 (lv_at hl 4 rfl) ?_
  have hw := hw.m1
  have hw := hw.m1
  refine c_vv (As := [.ref (b 0), .int f, .int x, .int t]) (rest := []) ⟨hx, hb, hml, hown, hts⟩ (k_X4_go l D c4 A Ts a bh mi fb ba b n os kd ic br q f x t hn hY hf) (cwV 4 hts gX4_passes_X4_go rfl rfl rfl (by decide +kernel) (rmv (Nat.le_of_ble_eq_true rfl) (Nat.le_of_ble_eq_true rfl) hRf hRl)) hK trivial hw rfl rfl rfl hl rfl (Nat.le_of_ble_eq_true rfl) ⟨Nat.zero_le _, Nat.zero_le _⟩ dX4_passes_6 (fun u_6 H locs hpq hw => ?_)
  obtain ⟨b2_6, ba2_6⟩ := u_6
  have hw : gW D A js.heap ((tG c4 a (nI b2_6) (cumQ f x q b2_6) (fbQ q b2_6) ba2_6) :: (yG c4 b (nI n) os kd ic br) :: Ts) H locs := hw
  obtain ⟨hb2_6, hba_6⟩ := hpq
  have hb2_6 : b2_6 = bhQ f x t q n := hb2_6
  have hba_6 : ∀ k, k < b2_6 → ba2_6 k = cumQ f x q (k + 1) := hba_6
  have hbn_6 : b2_6 ≤ n := by rw [hb2_6]; exact bh_le _ _ _ _ _
  refine lv_aload_n hx hb dX4_passes_9 rfl (lv_at hl 0 rfl) ?_
  refine r_get (T := TX4) (v := .int (nI b2_6)) hx hb hts hi4 hown hK hw 0 rfl rfl 0 (by decide) f_0 rfl dX4_passes_10 ?_
  refine lv_aload_n hx hb dX4_passes_13 rfl (lv_at hl 1 rfl) ?_
  refine r_get (T := TX6) (v := .int (nI n)) hx hb hts hi6 hown hK hw 2 rfl rfl 0 (by decide) f_1 rfl dX4_passes_14 ?_
  refine r_cne hx hb b2_6 n (by omega) (by omega) (tgt := 24) dX4_passes_17 (by decide) (fun c_17 => ?_) (fun c_17 => ?_)
  · refine lv_iconst (v := 0) hx hb dX4_passes_24 (by decide) ?_
    exact kr 0 (b2_6, ba2_6) _ _ _ _ hw rfl ⟨(fun _ => c_17), (fun h => absurd rfl h), hb2_6, hba_6⟩ dX4_passes_25
  · refine lv_iconst (v := 1) hx hb dX4_passes_20 (by decide) ?_
    refine lv_goto (tgt := 25) hx hb dX4_passes_21 (by decide) ?_
    exact kr 1 (b2_6, ba2_6) _ _ _ _ hw rfl ⟨(fun h => absurd h (by decide)), (fun _ => c_17), hb2_6, hba_6⟩ dX4_passes_25
set_option maxHeartbeats 4000000 in
set_option maxRecDepth 100000 in
theorem k_X4_isBackInGap (l : Launch) (D : va_G) (c4 : Nat → ClassId) (A : Nat → Prop) (Ts : List va_W) (a : Nat → Nat) (bh : Int32) (mi : Int32) (fb : Int32) (ba : Nat → Int32) (m : Nat) (g : Int32) (hm : 0 < m) (hm2 : m ≤ 12) (hfb : fb = -1 ∨ ∃ j, j < 12 ∧ fb = nI j) : Ci l yX4_isBackInGap wsX4_isBackInGap 0 0 [.ref (a 0), .int (nI m), .int g] D (tyA c4) A none ((tG c4 a bh mi fb ba) :: Ts) (S := Unit) (fun (r : Int32) (u : Unit) => (r = 0 → ¬ bkOk ba fb g m) ∧ (¬ r = 0 → bkOk ba fb g m)) (fun u => ((tG c4 a bh mi fb ba) :: Ts)) := by
  refine cOz (cc := cX4_isBackInGap) (maxL := 4) (by decide) rfl (Nat.le_of_ble_eq_true rfl) rfl ?_
  rintro jp je js jm below meth jc ls args R Q H locs hRf hRl ⟨hx, hb, hml, hr, hts, hown, hlocks, hK, hX⟩ hw hl kr
  have hown : js.vm.findClass RX4 = some jm.cls := hown
  have f_0 := hts (.fieldLink RX4 24 "IceSway$Trip" "firstBroken" "I") (by decide +kernel)
  have f_1 := hts (.fieldLink RX4 11 "IceSway$Trip" "behindAt" "[I") (by decide +kernel)
  have hi4 : ∀ w ∈ u_ws RX4 TX4 4, w ∈ wsX4_isBackInGap := fun w h => List.mem_cons_of_mem _ (List.mem_append_right _ h)
  refine lv_aload_n hx hb dX4_isBackInGap_0 rfl (lv_at hl 0 rfl) ?_
  refine r_get (T := TX4) (v := .int fb) hx hb hts hi4 hown hK hw 0 rfl rfl 2 (by decide) f_0 rfl dX4_isBackInGap_1 ?_
  refine lv_iconst (v := (-1)) hx hb dX4_isBackInGap_4 (by decide) ?_
  refine lv_icmp_eq (tgt := 16) hx hb dX4_isBackInGap_5 (by decide) (fun c_5 => ?_) (fun c_5 => ?_)
  · refine lv_iconst (v := 1) hx hb dX4_isBackInGap_16 (by decide) ?_
    exact kr 1 () _ _ _ _ hw rfl ⟨(fun h => absurd h (by decide)), (fun _ => Or.inl c_5)⟩ dX4_isBackInGap_17
  · refine lv_aload_n hx hb dX4_isBackInGap_8 rfl (lv_at hl 0 rfl) ?_
    refine r_get (T := TX4) (v := .int fb) hx hb hts hi4 hown hK hw 0 rfl rfl 2 (by decide) f_0 rfl dX4_isBackInGap_9 ?_
    refine lv_iload_n hx hb dX4_isBackInGap_12 rfl (lv_at hl 1 rfl) ?_
    refine lv_icmp_lt (tgt := 18) hx hb dX4_isBackInGap_13 (by decide) (fun c_13 => ?_) (fun c_13 => ?_)
    · obtain ⟨j, hj, ej⟩ := hfb.resolve_left c_5
      refine lv_aload_n hx hb dX4_isBackInGap_18 rfl (lv_at hl 0 rfl) ?_
      refine r_get (T := TX4) (v := .ref (a 1)) hx hb hts hi4 hown hK hw 0 rfl rfl 3 (by decide) f_1 rfl dX4_isBackInGap_19 ?_
      refine lv_iload_n hx hb dX4_isBackInGap_22 rfl (lv_at hl 1 rfl) ?_
      refine lv_iconst (v := 1) hx hb dX4_isBackInGap_23 (by decide) ?_
      refine r_subN hx hb m 1 (by omega) dX4_isBackInGap_24 ?_
      refine r_iald hx hb hK hw 1 0 rfl rfl (m - 1) (by omega) (by decide) dX4_isBackInGap_25 ?_
      refine lv_iload_n hx hb dX4_isBackInGap_26 rfl (lv_at hl 1 rfl) ?_
      refine lv_iadd hx hb dX4_isBackInGap_27 ?_
      refine lv_aload_n hx hb dX4_isBackInGap_28 rfl (lv_at hl 0 rfl) ?_
      refine r_get (T := TX4) (v := .int fb) hx hb hts hi4 hown hK hw 0 rfl rfl 2 (by decide) f_0 rfl dX4_isBackInGap_29 ?_
      refine lv_isub hx hb dX4_isBackInGap_32 ?_
      refine lv_istore_n (lv' := [(3, .int (((ba (m - 1)) + (nI m)) - fb)), (0, .ref (a 0)), (1, .int (nI m)), (2, .int g)]) hx hb dX4_isBackInGap_33 rfl hl (by decide) rfl (fun ls hl => ?_)
      refine lv_iload_n hx hb dX4_isBackInGap_34 rfl (lv_at hl 0 rfl) ?_
      refine lv_aload_n hx hb dX4_isBackInGap_35 rfl (lv_at hl 1 rfl) ?_
      refine r_get (T := TX4) (v := .ref (a 1)) hx hb hts hi4 hown hK hw 0 rfl rfl 3 (by decide) f_1 rfl dX4_isBackInGap_36 ?_
      refine lv_aload_n hx hb dX4_isBackInGap_39 rfl (lv_at hl 1 rfl) ?_
      refine r_get (T := TX4) (v := .int fb) hx hb hts hi4 hown hK hw 0 rfl rfl 2 (by decide) f_0 rfl dX4_isBackInGap_40 ?_
      refine r_top (y := nI j) ej ?_
      refine r_iald hx hb hK hw 1 0 rfl rfl j (by omega) (by decide) dX4_isBackInGap_43 ?_
      refine lv_isub hx hb dX4_isBackInGap_44 ?_
      refine lv_iload_n hx hb dX4_isBackInGap_45 rfl (lv_at hl 3 rfl) ?_
      refine lv_icmp_ge (tgt := 53) hx hb dX4_isBackInGap_46 (by decide) (fun c_46 => ?_) (fun c_46 => ?_)
      · refine lv_iconst (v := 0) hx hb dX4_isBackInGap_53 (by decide) ?_
        exact kr 0 () _ _ _ _ hw rfl ⟨(fun _ h => bk_no ej hj c_5 c_13 c_46 h), (fun h => absurd rfl h)⟩ dX4_isBackInGap_54
      · refine lv_iconst (v := 1) hx hb dX4_isBackInGap_49 (by decide) ?_
        refine lv_goto (tgt := 54) hx hb dX4_isBackInGap_50 (by decide) ?_
        exact kr 1 () _ _ _ _ hw rfl ⟨(fun h => absurd h (by decide)), (fun _ => bk_yes ej hj (fa_of_nle c_46))⟩ dX4_isBackInGap_54
    · refine lv_iconst (v := 1) hx hb dX4_isBackInGap_16 (by decide) ?_
      exact kr 1 () _ _ _ _ hw rfl ⟨(fun h => absurd h (by decide)), (fun _ => Or.inr (Or.inl c_13))⟩ dX4_isBackInGap_17
set_option maxHeartbeats 4000000 in
set_option maxRecDepth 100000 in
theorem k_X4_furthestTurn (l : Launch) (D : va_G) (c4 : Nat → ClassId) (A : Nat → Prop) (Ts : List va_W) (a : Nat → Nat) (b : Nat) (mi : Int32) (fb : Int32) (ba : Nat → Int32) (t : Int32) (g : Int32) (hb12 : b ≤ 12) (hfb : fb = -1 ∨ ∃ j, j < 12 ∧ fb = nI j) : Ci l yX4_furthestTurn wsX4_furthestTurn 1 23 [.ref (a 0), .int t, .int g] D (tyA c4) A none ((tG c4 a (nI b) mi fb ba) :: Ts) (S := Unit) (fun (r : Int32) (u : Unit) => ∃ k, r = nI k ∧ isLast (tnOk ba fb t g) b k) (fun u => ((tG c4 a (nI b) mi fb ba) :: Ts)) := by
  refine cOi (cc := cX4_furthestTurn) (maxL := 4) (by decide) rfl (Nat.le_of_ble_eq_true rfl) rfl ?_
  rintro jp je js jm below meth jc ls args R Q H locs hRf hRl ⟨hx, hb, hml, hr, hts, hown, hlocks, hK, hX⟩ hw hl kr
  have hown : js.vm.findClass RX4 = some jm.cls := hown
  have f_0 := hts (.fieldLink RX4 17 "IceSway$Trip" "behind" "I") (by decide +kernel)
  have f_1 := hts (.fieldLink RX4 11 "IceSway$Trip" "behindAt" "[I") (by decide +kernel)
  have hi4 : ∀ w ∈ u_ws RX4 TX4 4, w ∈ wsX4_furthestTurn := fun w h => List.mem_cons_of_mem _ (List.mem_append_right _ h)
  refine lv_aload_n hx hb dX4_furthestTurn_0 rfl (lv_at hl 0 rfl) ?_
  refine r_get (T := TX4) (v := .int (nI b)) hx hb hts hi4 hown hK hw 0 rfl rfl 0 (by decide) f_0 rfl dX4_furthestTurn_1 ?_
  refine lv_istore_n (lv' := [(3, .int (nI b)), (0, .ref (a 0)), (1, .int t), (2, .int g)]) hx hb dX4_furthestTurn_4 rfl hl (by decide) rfl (fun ls hl => ?_)
  have loop_5 : ∀ (fuel : Nat) (m : Nat), m < fuel → (m ≤ b) → (∀ k, m < k → k ≤ b → ¬ tnOk ba fb t g k) → ∀ (H : Heap) (locs : List Loc), gW D A js.heap ((tG c4 a (nI b) mi fb ba) :: Ts) H locs → ∀ (ls : Array Slot), lv_has ls 4 [(3, .int (nI m)), (0, .ref (a 0)), (1, .int t), (2, .int g)] → W jp l je R js jm args below meth jc H locs 0 0 Q (F0 jm 5 ls []) := by
    intro fuel
    induction fuel with
    | zero => intro m hm; exact absurd hm (Nat.not_lt_zero _)
    | succ fuel ih_5 =>
      intro m hm_5 hm hN H locs hw ls hl
      refine lv_iload_n hx hb dX4_furthestTurn_5 rfl (lv_at hl 0 rfl) ?_
      refine r_zle hx hb m (by omega) (tgt := 40) dX4_furthestTurn_6 (by decide) (fun c_6 => ?_) (fun c_6 => ?_)
      · refine lv_iconst (v := 0) hx hb dX4_furthestTurn_40 (by decide) ?_
        exact kr 0 () _ _ _ _ hw ⟨0, rfl, Or.inl rfl, fun k h1 h2 => hN k (by omega) h2⟩ dX4_furthestTurn_41
      · refine lv_aload_n hx hb dX4_furthestTurn_9 rfl (lv_at hl 1 rfl) ?_
        refine r_get (T := TX4) (v := .ref (a 1)) hx hb hts hi4 hown hK hw 0 rfl rfl 3 (by decide) f_1 rfl dX4_furthestTurn_10 ?_
        refine lv_iload_n hx hb dX4_furthestTurn_13 rfl (lv_at hl 0 rfl) ?_
        refine lv_iconst (v := 1) hx hb dX4_furthestTurn_14 (by decide) ?_
        refine r_subN hx hb m 1 (by omega) dX4_furthestTurn_15 ?_
        refine r_iald hx hb hK hw 1 0 rfl rfl (m - 1) (by omega) (by decide) dX4_furthestTurn_16 ?_
        refine lv_iload_n hx hb dX4_furthestTurn_17 rfl (lv_at hl 0 rfl) ?_
        refine lv_iadd hx hb dX4_furthestTurn_18 ?_
        refine lv_iload_n hx hb dX4_furthestTurn_19 rfl (lv_at hl 2 rfl) ?_
        refine lv_icmp_gt (tgt := 34) hx hb dX4_furthestTurn_20 (by decide) (fun c_20 => ?_) (fun c_20 => ?_)
        · refine lv_iinc (v := (nI (m - 1))) (lv' := [(3, .int (nI (m - 1))), (0, .ref (a 0)), (1, .int t), (2, .int g)]) hx hb dX4_furthestTurn_34 hl (k := 0) rfl (by rw [show Int32.ofInt (-1) = -1 from by decide]; exact sb_m1 (by omega)) (by decide) rfl (fun ls hl => ?_)
          refine lv_goto (tgt := 5) hx hb dX4_furthestTurn_37 (by decide) ?_
          exact ih_5 (m - 1) (by omega) (by omega) (by first | exact tn_down hN (fun z => nlt_le z.1 c_20) | exact tn_down hN (fun z => h0_26 c_29 z.2)) _ _ hw ls (lv_sub hl [0, 1, 2, 3] rfl)
        · refine lv_aload_n hx hb dX4_furthestTurn_23 rfl (lv_at hl 1 rfl) ?_
          refine lv_iload_n hx hb dX4_furthestTurn_24 rfl (lv_at hl 0 rfl) ?_
          refine lv_iload_n hx hb dX4_furthestTurn_25 rfl (lv_at hl 3 rfl) ?_
          refine c_vi (As := [.int (nI m), .int g]) (rest := []) ⟨hx, hb, hml, hown, hts⟩ (k_X4_isBackInGap l D c4 A Ts a (nI b) mi fb ba m g c_6 (by first | omega | decide) hfb) (cwV 2 hts gX4_furthestTurn_X4_isBackInGap rfl rfl rfl (by decide +kernel) (rmv (Nat.le_of_ble_eq_true rfl) (Nat.le_of_ble_eq_true rfl) hRf hRl)) hK trivial hw rfl rfl rfl hl rfl (Nat.le_of_ble_eq_true rfl) ⟨Nat.zero_le _, Nat.zero_le _⟩ dX4_furthestTurn_26 (fun r_26 u_26 H locs hpq hw => ?_)
          obtain ⟨h0_26, h1_26⟩ := hpq
          refine lv_if_eq (tgt := 34) hx hb dX4_furthestTurn_29 (by decide) (fun c_29 => ?_) (fun c_29 => ?_)
          · refine lv_iinc (v := (nI (m - 1))) (lv' := [(3, .int (nI (m - 1))), (0, .ref (a 0)), (1, .int t), (2, .int g)]) hx hb dX4_furthestTurn_34 hl (k := 0) rfl (by rw [show Int32.ofInt (-1) = -1 from by decide]; exact sb_m1 (by omega)) (by decide) rfl (fun ls hl => ?_)
            refine lv_goto (tgt := 5) hx hb dX4_furthestTurn_37 (by decide) ?_
            exact ih_5 (m - 1) (by omega) (by omega) (by first | exact tn_down hN (fun z => nlt_le z.1 c_20) | exact tn_down hN (fun z => h0_26 c_29 z.2)) _ _ hw ls (lv_sub hl [0, 1, 2, 3] rfl)
          · refine lv_iload_n hx hb dX4_furthestTurn_32 rfl (lv_at hl 0 rfl) ?_
            exact kr (nI m) () _ _ _ _ hw ⟨m, rfl, Or.inr ⟨hm, fa_of_nlt c_20, h1_26 c_29⟩, hN⟩ dX4_furthestTurn_33
  exact loop_5 (b + 1) b (Nat.lt_succ_self _) (Nat.le_refl _) (fun k h1 h2 => absurd h1 (by omega)) _ _ hw ls (lv_sub hl [0, 1, 2, 3] rfl)
