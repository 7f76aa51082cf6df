set_option maxHeartbeats 4000000 in
set_option maxRecDepth 100000 in
theorem k_X3_readNumbers (l : Launch) (D : va_G) (c4 : Nat → ClassId) (A : Nat → Prop) (Ts : List va_W) (t : Nat → Nat) (a : Nat → Nat) (ln : Nat) (yc : Int32) (fn : Int32) (fp : Int32) (p : Nat) (sn : Int32) (lt : Nat → Int32) (nb : Nat → Int32) (yk : Nat → Int32) (yi : Nat → Int32) (k : Nat) (nbp : Nat → Int32) (hln : ln ≤ 230) (hp : p ≤ ln) (hk1 : 1 ≤ k) (hk3 : k ≤ 3) (hnb : nbR nb nbp) : Ci l yX3_readNumbers wsX3_readNumbers 2 46 [.ref (a 0), .int (nI k)] D (tyA c4) A (some t) ((xG c4 a (nI ln) yc fn fp (nI p) sn lt nb yk yi) :: Ts) (S := Nat × Int32 × Int32 × (Nat → Int32)) (fun (r : Int32) (u : Nat × Int32 × Int32 × (Nat → Int32)) => rnsP lt ln k p u.1 nbp u.2.2.2 r fn fp u.2.1 u.2.2.1) (fun u => ((xG c4 a (nI ln) yc u.2.1 u.2.2.1 (nI u.1) sn lt u.2.2.2 yk yi) :: Ts)) := by
  refine cOz (cc := cX3_readNumbers) (maxL := 4) (by decide) rfl (Nat.le_of_ble_eq_true rfl) rfl ?_
  rintro jp je js jm below meth jc ls args R Q H locs hRf hRl ⟨hx, hb, hml, hr, hts, hown, hlocks, hK, hX⟩ hw hl kr
  have hown : js.vm.findClass RX3 = some jm.cls := hown
  have f_0 := hts (.fieldLink RX3 88 "IceSway$Text" "FIRST" "[I") (by decide +kernel)
  have f_1 := hts (.fieldLink RX3 91 "IceSway$Text" "END" "[I") (by decide +kernel)
  have f_2 := hts (.fieldLink RX3 94 "IceSway$Boat" "LEAST" "[I") (by decide +kernel)
  have f_3 := hts (.fieldLink RX3 97 "IceSway$Boat" "GREATEST" "[I") (by decide +kernel)
  have f_4 := hts (.fieldLink RX3 17 "IceSway$Text" "numbers" "[I") (by decide +kernel)
  have hi3 : ∀ w ∈ u_ws RX3 TX3 10, w ∈ wsX3_readNumbers := fun w h => List.mem_cons_of_mem _ (List.mem_append_right _ h)
  have hte := tE_le hk1 hk3
  refine r_gets (v := .ref (t 3)) hx hb hX.2.2.2.2.1.1 hw hown f_0 dX3_readNumbers_0 ?_
  refine lv_iload_n hx hb dX3_readNumbers_3 rfl (lv_at hl 1 rfl) ?_
  refine r_tab hx hb hX.2.2.2.2.1.2 hw k (by omega) (by decide) dX3_readNumbers_4 ?_
  refine r_top (y := nI (tF k)) (tF_eq hk1 hk3) ?_
  refine lv_istore_n (lv' := [(2, .int (nI (tF k))), (0, .ref (a 0)), (1, .int (nI k))]) hx hb dX3_readNumbers_5 rfl hl (by decide) rfl (fun ls hl => ?_)
  have loop_6 : ∀ (fuel : Nat) (i : Nat) (p1 : Nat) (nb1 : Nat → Int32) (np1 : Nat → Int32), (tE k - i) < fuel → (tF k ≤ i) → (i ≤ tE k) → (p1 ≤ ln) → (rdNs lt ln (tE k - i) i p1 np1 = rdNs lt ln (tE k - tF k) (tF k) p nbp) → (nbR nb1 np1) → ∀ (H : Heap) (locs : List Loc), gW D A js.heap ((xG c4 a (nI ln) yc fn fp (nI p1) sn lt nb1 yk yi) :: Ts) H locs → ∀ (ls : Array Slot), lv_has ls 4 [(2, .int (nI i)), (0, .ref (a 0)), (1, .int (nI k))] → W jp l je R js jm args below meth jc H locs 0 0 Q (F0 jm 6 ls []) := by
    intro fuel
    induction fuel with
    | zero => intro i p1 nb1 np1 hm; exact absurd hm (Nat.not_lt_zero _)
    | succ fuel ih_6 =>
      intro i p1 nb1 np1 hm_6 hi hi2 hq hR hnb1 H locs hw ls hl
      refine lv_iload_n hx hb dX3_readNumbers_6 rfl (lv_at hl 0 rfl) ?_
      refine r_gets (v := .ref (t 4)) hx hb hX.2.2.2.2.2.1 hw hown f_1 dX3_readNumbers_7 ?_
      refine lv_iload_n hx hb dX3_readNumbers_10 rfl (lv_at hl 2 rfl) ?_
      refine r_tab hx hb hX.2.2.2.2.2.2 hw k (by omega) (by decide) dX3_readNumbers_11 ?_
      refine r_top (y := nI (tE k)) (tE_eq hk1 hk3) ?_
      refine r_cge hx hb i (tE k) (by omega) (by omega) (tgt := 50) dX3_readNumbers_12 (by decide) (fun c_12 => ?_) (fun c_12 => ?_)
      · refine lv_aload_n hx hb dX3_readNumbers_50 rfl (lv_at hl 1 rfl) ?_
        refine c_vi (As := []) (rest := []) ⟨hx, hb, hml, hown, hts⟩ (k_X3_readClauseEnd l D c4 A Ts a ln yc fn fp p1 sn lt nb1 yk yi hln hq) (cwV 0 hts gX3_readNumbers_X3_readClauseEnd rfl rfl rfl (by decide +kernel) (rmv (Nat.le_of_ble_eq_true rfl) (Nat.le_of_ble_eq_true rfl) hRf hRl)) hK trivial hw rfl rfl rfl hl rfl (Nat.le_of_ble_eq_true rfl) ⟨Nat.zero_le _, Nat.zero_le _⟩ dX3_readNumbers_51 (fun r_51 u_51 H locs hpq hw => ?_)
        obtain ⟨pl2_51, fn2_51, fp2_51⟩ := u_51
        have hw : gW D A js.heap ((xG c4 a (nI ln) yc fn2_51 fp2_51 (nI pl2_51) sn lt nb1 yk yi) :: Ts) H locs := hw
        have hE_51 := hpq
        have hE_51 : reP lt ln p1 pl2_51 r_51 fn fp fn2_51 fp2_51 := hE_51
        exact kr r_51 (pl2_51, fn2_51, fp2_51, nb1) _ _ _ _ hw (z01 hE_51.z) (rns_fin (by omega) hR hnb1 hE_51) dX3_readNumbers_54
      · refine lv_aload_n hx hb dX3_readNumbers_15 rfl (lv_at hl 1 rfl) ?_
        refine r_gets (v := .ref (t 1)) hx hb hX.2.2.1.1 hw hown f_2 dX3_readNumbers_16 ?_
        refine lv_iload_n hx hb dX3_readNumbers_19 rfl (lv_at hl 0 rfl) ?_
        refine r_tab hx hb hX.2.2.1.2 hw i (by omega) (by decide) dX3_readNumbers_20 ?_
        refine r_gets (v := .ref (t 2)) hx hb hX.2.2.2.1.1 hw hown f_3 dX3_readNumbers_21 ?_
        refine lv_iload_n hx hb dX3_readNumbers_24 rfl (lv_at hl 0 rfl) ?_
        refine r_tab hx hb hX.2.2.2.1.2 hw i (by omega) (by decide) dX3_readNumbers_25 ?_
        refine c_vi (As := [.int (tbL.getD i 0), .int (tbM.getD i 0)]) (rest := []) ⟨hx, hb, hml, hown, hts⟩ (k_X3_readNumber l D c4 A Ts t a ln yc fn fp p1 sn lt nb1 yk yi (tbL.getD i 0) (tbM.getD i 0) hln hq (tbL_nn i)) (cwV 2 hts gX3_readNumbers_X3_readNumber rfl rfl rfl (by decide +kernel) (rmv (Nat.le_of_ble_eq_true rfl) (Nat.le_of_ble_eq_true rfl) hRf hRl)) hK (by exact hX) hw rfl rfl rfl hl rfl (Nat.le_of_ble_eq_true rfl) ⟨Nat.zero_le _, Nat.zero_le _⟩ dX3_readNumbers_26 (fun r_26 u_26 H locs hpq hw => ?_)
        obtain ⟨pl2_26, fn2_26, fp2_26⟩ := u_26
        have hw : gW D A js.heap ((xG c4 a (nI ln) yc fn2_26 fp2_26 (nI pl2_26) sn lt nb1 yk yi) :: Ts) H locs := hw
        have hN_26 := hpq
        have hN_26 : rnP lt ln (tbL.getD i 0) (tbM.getD i 0) p1 pl2_26 r_26 fn fp fn2_26 fp2_26 := hN_26
        refine lv_istore_n (lv' := [(3, .int r_26), (2, .int (nI i)), (0, .ref (a 0)), (1, .int (nI k))]) hx hb dX3_readNumbers_29 rfl hl (by decide) rfl (fun ls hl => ?_)
        refine lv_iload_n hx hb dX3_readNumbers_30 rfl (lv_at hl 0 rfl) ?_
        refine lv_iconst (v := (-1)) hx hb dX3_readNumbers_31 (by decide) ?_
        refine lv_icmp_ne (tgt := 37) hx hb dX3_readNumbers_32 (by decide) (fun c_32 => ?_) (fun c_32 => ?_)
        · obtain ⟨hs1, hs2, hs3⟩ := hN_26.ok c_32
          refine lv_aload_n hx hb dX3_readNumbers_37 rfl (lv_at hl 2 rfl) ?_
          refine r_get (T := TX3) (v := .ref (a 2)) hx hb hts hi3 hown hK hw 0 rfl rfl 2 (by decide) f_4 rfl dX3_readNumbers_38 ?_
          refine lv_iload_n hx hb dX3_readNumbers_41 rfl (lv_at hl 1 rfl) ?_
          refine lv_iload_n hx hb dX3_readNumbers_42 rfl (lv_at hl 0 rfl) ?_
          refine r_iast (G' := ((xG c4 a (nI ln) yc fn2_26 fp2_26 (nI pl2_26) sn lt (upd nb1 i r_26) yk yi) :: Ts)) hx hb hK hw 2 0 rfl rfl i (by omega) (by decide) rfl dX3_readNumbers_43 (fun H locs hw => ?_)
          refine lv_iinc (v := (nI (i + 1))) (lv' := [(2, .int (nI (i + 1))), (3, .int r_26), (0, .ref (a 0)), (1, .int (nI k))]) hx hb dX3_readNumbers_44 hl (k := 1) rfl (nI_add _ _) (by decide) rfl (fun ls hl => ?_)
          refine lv_goto (tgt := 6) hx hb dX3_readNumbers_47 (by decide) ?_
          rw [show fn2_26 = fn from hs2] at hw
          rw [show fp2_26 = fp from hs3] at hw
          exact ih_6 (i + 1) pl2_26 (upd nb1 i r_26) (upd np1 i r_26) (by omega) (by omega) (by omega) ((rn_inl hs1).2.1 hq) ((rns_step (k := tE k - i) (by omega) hs1).symm.trans hR) (hnb1.step i r_26) _ _ hw ls (lv_sub hl [0, 2, 3] rfl)
        · refine lv_iconst (v := 0) hx hb dX3_readNumbers_35 (by decide) ?_
          exact kr 0 (pl2_26, fn2_26, fp2_26, nb1) _ _ _ _ hw rfl (Or.inr ⟨(rns_bad (by omega) (hN_26.no c_32)).eq hR, rfl⟩) dX3_readNumbers_36
  exact loop_6 ((tE k - (tF k)) + 1) (tF k) p nb nbp (Nat.lt_succ_self _) (Nat.le_refl _) (by omega) hp rfl hnb _ _ hw ls (lv_sub hl [0, 1, 2] rfl)
set_option maxHeartbeats 4000000 in
set_option maxRecDepth 100000 in
theorem k_X3_readClause (l : Launch) (D : va_G) (c4 : Nat → ClassId) (A : Nat → Prop) (Ts : List va_W) (t : Nat → Nat) (a : Nat → Nat) (ln : Nat) (yc : Int32) (fn : Int32) (fp : Int32) (p : Nat) (sn : Int32) (lt : Nat → Int32) (nb : Nat → Int32) (yk : Nat → Int32) (yi : Nat → Int32) (ys : List (Int32 × Int32)) (nbp : Nat → Int32) (hln : ln ≤ 230) (hpl : p < ln) (hyc : yc = nI ys.length) (hrow : ysR ys yk yi) (hnb : nbR nb nbp) : Ci l yX3_readClause wsX3_readClause 4 91 [.ref (a 0)] D (tyA c4) A (some t) ((xG c4 a (nI ln) yc fn fp (nI p) sn lt nb yk yi) :: Ts) (S := Nat × Int32 × Int32 × Int32 × Int32 × (Nat → Int32) × (Nat → Int32) × (Nat → Int32)) (fun (r : Int32) (u : Nat × Int32 × Int32 × Int32 × Int32 × (Nat → Int32) × (Nat → Int32) × (Nat → Int32)) => rcP lt ln p u.1 sn u.2.1 ys nbp u.2.2.1 u.2.2.2.2.2.1 u.2.2.2.2.2.2.1 u.2.2.2.2.2.2.2 r fn fp u.2.2.2.1 u.2.2.2.2.1) (fun u => ((xG c4 a (nI ln) u.2.2.1 u.2.2.2.1 u.2.2.2.2.1 (nI u.1) u.2.1 lt u.2.2.2.2.2.2.2 u.2.2.2.2.2.1 u.2.2.2.2.2.2.1) :: Ts)) := by
  refine cOz (cc := cX3_readClause) (maxL := 3) (by decide) rfl (Nat.le_of_ble_eq_true rfl) rfl ?_
  rintro jp je js jm below meth jc ls args R Q H locs hRf hRl ⟨hx, hb, hml, hr, hts, hown, hlocks, hK, hX⟩ hw hl kr
  have hown : js.vm.findClass RX3 = some jm.cls := hown
  have f_0 := hts (.fieldLink RX3 11 "IceSway$Text" "letters" "[I") (by decide +kernel)
  have f_1 := hts (.fieldLink RX3 39 "IceSway$Text" "place" "I") (by decide +kernel)
  have f_2 := hts (.fieldLink RX3 42 "IceSway$Text" "clausesSeen" "I") (by decide +kernel)
  have hi3 : ∀ w ∈ u_ws RX3 TX3 10, w ∈ wsX3_readClause := fun w h => List.mem_cons_of_mem _ (List.mem_append_right _ h)
  refine lv_aload_n hx hb dX3_readClause_0 rfl (lv_at hl 0 rfl) ?_
  refine r_get (T := TX3) (v := .ref (a 1)) hx hb hts hi3 hown hK hw 0 rfl rfl 0 (by decide) f_0 rfl dX3_readClause_1 ?_
  refine lv_aload_n hx hb dX3_readClause_4 rfl (lv_at hl 0 rfl) ?_
  refine r_get (T := TX3) (v := .int (nI p)) hx hb hts hi3 hown hK hw 0 rfl rfl 8 (by decide) f_1 rfl dX3_readClause_5 ?_
  refine r_iald hx hb hK hw 1 0 rfl rfl p (by omega) (by decide) dX3_readClause_8 ?_
  refine c_si (As := [.int (lt p)]) (rest := []) ⟨hx, hb, hml, hown, hts⟩ (k_X3_clauseOf l D c4 A ((xG c4 a (nI ln) yc fn fp (nI p) sn lt nb yk yi) :: Ts) (lt p)) (va_cwS 1 hts gX3_readClause_X3_clauseOf rfl rfl rfl (by decide +kernel) (rmv (Nat.le_of_ble_eq_true rfl) (Nat.le_of_ble_eq_true rfl) hRf hRl)) hK trivial hw rfl hl rfl (Nat.le_of_ble_eq_true rfl) ⟨Nat.zero_le _, Nat.zero_le _⟩ dX3_readClause_9 (fun r_9 u_9 H locs hpq hw => ?_)
  have er_9 := hpq
  subst er_9
  refine lv_istore_n (lv' := [(1, .int (clO (lt p))), (0, .ref (a 0))]) hx hb dX3_readClause_12 rfl hl (by decide) rfl (fun ls hl => ?_)
  refine lv_aload_n hx hb dX3_readClause_13 rfl (lv_at hl 1 rfl) ?_
  refine r_get (T := TX3) (v := .int sn) hx hb hts hi3 hown hK hw 0 rfl rfl 9 (by decide) f_2 rfl dX3_readClause_14 ?_
  have kj_17 : ∀ (w_1 : Int32) (ls : Array Slot), w_1 = (if sn = 0 then (if (clO (lt p)) = 0 then 1 else 0) else 1) → lv_has ls 3 [(1, .int (clO (lt p))), (0, .ref (a 0))] → W jp l je R js jm args below meth jc H locs 0 0 Q (F0 jm 29 ls [.int w_1]) := by
    intro w_1 ls e_w_1 hl
    subst e_w_1
    refine lv_istore_n (lv' := [(2, .int (if sn = 0 then (if (clO (lt p)) = 0 then 1 else 0) else 1)), (1, .int (clO (lt p))), (0, .ref (a 0))]) hx hb dX3_readClause_29 rfl hl (by decide) rfl (fun ls hl => ?_)
    refine lv_iload_n hx hb dX3_readClause_30 rfl (lv_at hl 1 rfl) ?_
    refine lv_iconst (v := (-1)) hx hb dX3_readClause_31 (by decide) ?_
    refine lv_icmp_eq (tgt := 39) hx hb dX3_readClause_32 (by decide) (fun c_32 => ?_) (fun c_32 => ?_)
    · refine lv_aload_n hx hb dX3_readClause_39 rfl (lv_at hl 2 rfl) ?_
      refine lv_aload_n hx hb dX3_readClause_40 rfl (lv_at hl 2 rfl) ?_
      refine r_get (T := TX3) (v := .int (nI p)) hx hb hts hi3 hown hK hw 0 rfl rfl 8 (by decide) f_1 rfl dX3_readClause_41 ?_
      refine lv_iconst (v := 1) hx hb dX3_readClause_44 (by decide) ?_
      refine c_vi (As := [.int (nI p), .int 1]) (rest := []) ⟨hx, hb, hml, hown, hts⟩ (k_X3_failAt l D c4 A Ts a ln yc fn fp p sn lt nb yk yi (nI p) 1) (cwV 2 hts gX3_readClause_X3_failAt rfl rfl rfl (by decide +kernel) (rmv (Nat.le_of_ble_eq_true rfl) (Nat.le_of_ble_eq_true rfl) hRf hRl)) hK trivial hw rfl rfl rfl hl rfl (Nat.le_of_ble_eq_true rfl) ⟨Nat.zero_le _, Nat.zero_le _⟩ dX3_readClause_45 (fun r_45 u_45 H locs hpq hw => ?_)
      have er_45 := hpq
      subst er_45
      exact kr 0 (p, sn, yc, 1, (nI p), yk, yi, nb) _ _ _ _ hw rfl (Or.inr ⟨rc_1a c_32, rfl⟩) dX3_readClause_48
    · refine lv_iload_n hx hb dX3_readClause_35 rfl (lv_at hl 0 rfl) ?_
      refine lv_if_ne (tgt := 49) hx hb dX3_readClause_36 (by decide) (fun c_36 => ?_) (fun c_36 => ?_)
      · refine lv_aload_n hx hb dX3_readClause_49 rfl (lv_at hl 2 rfl) ?_
        refine r_get (T := TX3) (v := .int sn) hx hb hts hi3 hown hK hw 0 rfl rfl 9 (by decide) f_2 rfl dX3_readClause_50 ?_
        refine lv_iload_n hx hb dX3_readClause_53 rfl (lv_at hl 1 rfl) ?_
        refine lv_ishr hx hb dX3_readClause_54 ?_
        refine lv_iconst (v := 1) hx hb dX3_readClause_55 (by decide) ?_
        refine lv_iand hx hb dX3_readClause_56 ?_
        refine lv_iconst (v := 1) hx hb dX3_readClause_57 (by decide) ?_
        refine lv_icmp_ne (tgt := 71) hx hb dX3_readClause_58 (by decide) (fun c_58 => ?_) (fun c_58 => ?_)
        · refine lv_aload_n hx hb dX3_readClause_71 rfl (lv_at hl 2 rfl) ?_
          refine lv_dup hx hb dX3_readClause_72 rfl ?_
          refine r_get (T := TX3) (v := .int sn) hx hb hts hi3 hown hK hw 0 rfl rfl 9 (by decide) f_2 rfl dX3_readClause_73 ?_
          refine lv_iconst (v := 1) hx hb dX3_readClause_76 (by decide) ?_
          refine lv_iload_n hx hb dX3_readClause_77 rfl (lv_at hl 1 rfl) ?_
          refine lv_ishl hx hb dX3_readClause_78 ?_
          refine lv_ior hx hb dX3_readClause_79 ?_
          refine r_put (T := TX3) (G' := ((xG c4 a (nI ln) yc fn fp (nI p) (sn ||| ((1 : Int32) <<< ((clO (lt p)) &&& 31))) lt nb yk yi) :: Ts)) hx hb hts hi3 tyX3 tyX3_ok nmX3 hown hK hw 0 rfl rfl 9 (by decide) f_2 rfl rfl (Nat.le_of_ble_eq_true rfl) rfl dX3_readClause_80 (fun H locs hw => ?_)
          refine lv_aload_n hx hb dX3_readClause_83 rfl (lv_at hl 2 rfl) ?_
          refine lv_dup hx hb dX3_readClause_84 rfl ?_
          refine r_get (T := TX3) (v := .int (nI p)) hx hb hts hi3 hown hK hw 0 rfl rfl 8 (by decide) f_1 rfl dX3_readClause_85 ?_
          refine lv_iconst (v := 1) hx hb dX3_readClause_88 (by decide) ?_
          refine r_addN hx hb p 1 dX3_readClause_89 ?_
          refine r_put (T := TX3) (G' := ((xG c4 a (nI ln) yc fn fp (nI (p + 1)) (sn ||| ((1 : Int32) <<< ((clO (lt p)) &&& 31))) lt nb yk yi) :: Ts)) hx hb hts hi3 tyX3 tyX3_ok nmX3 hown hK hw 0 rfl rfl 8 (by decide) f_1 rfl rfl (Nat.le_of_ble_eq_true rfl) rfl dX3_readClause_90 (fun H locs hw => ?_)
          refine lv_iload_n hx hb dX3_readClause_93 rfl (lv_at hl 1 rfl) ?_
          refine lv_if_ne (tgt := 104) hx hb dX3_readClause_94 (by decide) (fun c_94 => ?_) (fun c_94 => ?_)
          · obtain ⟨k, hk1, hk3, ek⟩ := clO_pos c_32 c_94
            refine lv_aload_n hx hb dX3_readClause_104 rfl (lv_at hl 2 rfl) ?_
            refine lv_iload_n hx hb dX3_readClause_105 rfl (lv_at hl 1 rfl) ?_
            refine r_top (y := nI k) ek ?_
            refine c_vi (As := [.int (nI k)]) (rest := []) ⟨hx, hb, hml, hown, hts⟩ (k_X3_readNumbers l D c4 A Ts t a ln yc fn fp (p + 1) (sn ||| ((1 : Int32) <<< ((clO (lt p)) &&& 31))) lt nb yk yi k nbp hln (by first | omega | decide) (by first | omega | decide) (by first | omega | decide) hnb) (cwV 1 hts gX3_readClause_X3_readNumbers rfl rfl rfl (by decide +kernel) (rmv (Nat.le_of_ble_eq_true rfl) (Nat.le_of_ble_eq_true rfl) hRf hRl)) hK (by exact hX) hw rfl rfl rfl hl rfl (Nat.le_of_ble_eq_true rfl) ⟨Nat.zero_le _, Nat.zero_le _⟩ dX3_readClause_106 (fun r_106 u_106 H locs hpq hw => ?_)
            obtain ⟨pl2_106, fn2_106, fp2_106, nb2_106⟩ := u_106
            have hw : gW D A js.heap ((xG c4 a (nI ln) yc fn2_106 fp2_106 (nI pl2_106) (sn ||| ((1 : Int32) <<< ((clO (lt p)) &&& 31))) lt nb2_106 yk yi) :: Ts) H locs := hw
            have hS_106 := hpq
            have hS_106 : rnsP lt ln k (p + 1) pl2_106 nbp nb2_106 r_106 fn fp fn2_106 fp2_106 := hS_106
            exact kr r_106 (pl2_106, (sn ||| ((1 : Int32) <<< ((clO (lt p)) &&& 31))), yc, fn2_106, fp2_106, yk, yi, nb2_106) _ _ _ _ hw (z01 hS_106.z) (rc_n (rc_ok c_32 c_36) c_58 c_94 ek hk3 hyc hrow hS_106) dX3_readClause_109
          · refine lv_aload_n hx hb dX3_readClause_97 rfl (lv_at hl 2 rfl) ?_
            refine c_vi (As := []) (rest := []) ⟨hx, hb, hml, hown, hts⟩ (k_X3_readYards l D c4 A Ts t a ln yc fn fp (p + 1) (sn ||| ((1 : Int32) <<< ((clO (lt p)) &&& 31))) lt nb yk yi hln (by first | omega | decide)) (cwV 0 hts gX3_readClause_X3_readYards rfl rfl rfl (by decide +kernel) (rmv (Nat.le_of_ble_eq_true rfl) (Nat.le_of_ble_eq_true rfl) hRf hRl)) hK (by exact hX) hw rfl rfl rfl hl rfl (Nat.le_of_ble_eq_true rfl) ⟨Nat.zero_le _, Nat.zero_le _⟩ dX3_readClause_98 (fun r_98 u_98 H locs hpq hw => ?_)
            obtain ⟨pl2_98, yc2_98, fn2_98, fp2_98, yk2_98, yi2_98⟩ := u_98
            have hw : gW D A js.heap ((xG c4 a (nI ln) yc2_98 fn2_98 fp2_98 (nI pl2_98) (sn ||| ((1 : Int32) <<< ((clO (lt p)) &&& 31))) lt nb yk2_98 yi2_98) :: Ts) H locs := hw
            have hY_98 := hpq
            have hY_98 : rysP lt ln (p + 1) pl2_98 yc2_98 yk2_98 yi2_98 r_98 fn fp fn2_98 fp2_98 := hY_98
            refine lv_goto (tgt := 109) hx hb dX3_readClause_101 (by decide) ?_
            exact kr r_98 (pl2_98, (sn ||| ((1 : Int32) <<< ((clO (lt p)) &&& 31))), yc2_98, fn2_98, fp2_98, yk2_98, yi2_98, nb) _ _ _ _ hw (z01 hY_98.z) (rc_y (rc_ok c_32 c_36) c_58 c_94 hnb hY_98) dX3_readClause_109
        · refine lv_aload_n hx hb dX3_readClause_61 rfl (lv_at hl 2 rfl) ?_
          refine lv_aload_n hx hb dX3_readClause_62 rfl (lv_at hl 2 rfl) ?_
          refine r_get (T := TX3) (v := .int (nI p)) hx hb hts hi3 hown hK hw 0 rfl rfl 8 (by decide) f_1 rfl dX3_readClause_63 ?_
          refine lv_iconst (v := 3) hx hb dX3_readClause_66 (by decide) ?_
          refine c_vi (As := [.int (nI p), .int 3]) (rest := []) ⟨hx, hb, hml, hown, hts⟩ (k_X3_failAt l D c4 A Ts a ln yc fn fp p sn lt nb yk yi (nI p) 3) (cwV 2 hts gX3_readClause_X3_failAt rfl rfl rfl (by decide +kernel) (rmv (Nat.le_of_ble_eq_true rfl) (Nat.le_of_ble_eq_true rfl) hRf hRl)) hK trivial hw rfl rfl rfl hl rfl (Nat.le_of_ble_eq_true rfl) ⟨Nat.zero_le _, Nat.zero_le _⟩ dX3_readClause_67 (fun r_67 u_67 H locs hpq hw => ?_)
          have er_67 := hpq
          subst er_67
          exact kr 0 (p, sn, yc, 3, (nI p), yk, yi, nb) _ _ _ _ hw rfl (Or.inr ⟨rc_3 (rc_ok c_32 c_36) c_58, rfl⟩) dX3_readClause_70
      · refine lv_aload_n hx hb dX3_readClause_39 rfl (lv_at hl 2 rfl) ?_
        refine lv_aload_n hx hb dX3_readClause_40 rfl (lv_at hl 2 rfl) ?_
        refine r_get (T := TX3) (v := .int (nI p)) hx hb hts hi3 hown hK hw 0 rfl rfl 8 (by decide) f_1 rfl dX3_readClause_41 ?_
        refine lv_iconst (v := 1) hx hb dX3_readClause_44 (by decide) ?_
        refine c_vi (As := [.int (nI p), .int 1]) (rest := []) ⟨hx, hb, hml, hown, hts⟩ (k_X3_failAt l D c4 A Ts a ln yc fn fp p sn lt nb yk yi (nI p) 1) (cwV 2 hts gX3_readClause_X3_failAt rfl rfl rfl (by decide +kernel) (rmv (Nat.le_of_ble_eq_true rfl) (Nat.le_of_ble_eq_true rfl) hRf hRl)) hK trivial hw rfl rfl rfl hl rfl (Nat.le_of_ble_eq_true rfl) ⟨Nat.zero_le _, Nat.zero_le _⟩ dX3_readClause_45 (fun r_45 u_45 H locs hpq hw => ?_)
        have er_45 := hpq
        subst er_45
        exact kr 0 (p, sn, yc, 1, (nI p), yk, yi, nb) _ _ _ _ hw rfl (Or.inr ⟨rc_1b c_36, rfl⟩) dX3_readClause_48
  refine lv_if_ne (tgt := 24) hx hb dX3_readClause_17 (by decide) (fun c_17 => ?_) (fun c_17 => ?_)
  · refine lv_iconst (v := 1) hx hb dX3_readClause_24 (by decide) ?_
    refine lv_goto (tgt := 29) hx hb dX3_readClause_25 (by decide) ?_
    exact kj_17 _ ls (by first | rfl | (rw [if_neg c_17]; done) | (simp only [if_neg c_17]; done) | simp [c_17]) (lv_sub hl [0, 1] rfl)
  · refine lv_iload_n hx hb dX3_readClause_20 rfl (lv_at hl 0 rfl) ?_
    refine lv_if_ne (tgt := 28) hx hb dX3_readClause_21 (by decide) (fun c_21 => ?_) (fun c_21 => ?_)
    · refine lv_iconst (v := 0) hx hb dX3_readClause_28 (by decide) ?_
      exact kj_17 _ ls (by first | rfl | (rw [if_pos c_17, if_neg c_21]; done) | (simp only [if_pos c_17, if_neg c_21]; done) | simp [c_17, c_21]) (lv_sub hl [0, 1] rfl)
    · refine lv_iconst (v := 1) hx hb dX3_readClause_24 (by decide) ?_
      refine lv_goto (tgt := 29) hx hb dX3_readClause_25 (by decide) ?_
      exact kj_17 _ ls (by first | rfl | (rw [if_pos c_17, if_pos c_21]; done) | (simp only [if_pos c_17, if_pos c_21]; done) | simp [c_17, c_21]) (lv_sub hl [0, 1] rfl)
set_option maxHeartbeats 4000000 in
set_option maxRecDepth 100000 in
theorem k_X3_read (l : Launch) (D : va_G) (c4 : Nat → ClassId) (A : Nat → Prop) (Ts : List va_W) (t : Nat → Nat) (a : Nat → Nat) (ln : Nat) (yc : Int32) (fn : Int32) (fp : Int32) (pl : Int32) (sn : Int32) (lt : Nat → Int32) (nb : Nat → Int32) (yk : Nat → Int32) (yi : Nat → Int32) (hln : ln ≤ 230) : Ci l yX3_read wsX3_read 5 113 [.ref (a 0)] D (tyA c4) A (some t) ((xG c4 a (nI ln) yc fn fp pl sn lt nb yk yi) :: Ts) (S := Nat × Int32 × Int32 × Int32 × Int32 × (Nat → Int32) × (Nat → Int32) × (Nat → Int32)) (fun (r : Int32) (u : Nat × Int32 × Int32 × Int32 × Int32 × (Nat → Int32) × (Nat → Int32) × (Nat → Int32)) => prP lt ln u.2.2.1 u.2.2.2.2.2.1 u.2.2.2.2.2.2.1 u.2.2.2.2.2.2.2 r u.2.2.2.1 u.2.2.2.2.1) (fun u => ((xG c4 a (nI ln) u.2.2.1 u.2.2.2.1 u.2.2.2.2.1 (nI u.1) u.2.1 lt u.2.2.2.2.2.2.2 u.2.2.2.2.2.1 u.2.2.2.2.2.2.1) :: Ts)) := by
  refine cOz (cc := cX3_read) (maxL := 2) (by decide) rfl (Nat.le_of_ble_eq_true rfl) rfl ?_
  rintro jp je js jm below meth jc ls args R Q H locs hRf hRl ⟨hx, hb, hml, hr, hts, hown, hlocks, hK, hX⟩ hw hl kr
  have hown : js.vm.findClass RX3 = some jm.cls := hown
  have f_0 := hts (.fieldLink RX3 39 "IceSway$Text" "place" "I") (by decide +kernel)
  have f_1 := hts (.fieldLink RX3 42 "IceSway$Text" "clausesSeen" "I") (by decide +kernel)
  have f_2 := hts (.fieldLink RX3 45 "IceSway$Text" "yardCount" "I") (by decide +kernel)
  have f_3 := hts (.fieldLink RX3 48 "IceSway$Text" "faultNumber" "I") (by decide +kernel)
  have f_4 := hts (.fieldLink RX3 28 "IceSway$Text" "faultPlace" "I") (by decide +kernel)
  have f_5 := hts (.fieldLink RX3 17 "IceSway$Text" "numbers" "[I") (by decide +kernel)
  have f_6 := hts (.fieldLink RX3 51 "IceSway$Boat" "UNTOLD" "[I") (by decide +kernel)
  have hi3 : ∀ w ∈ u_ws RX3 TX3 10, w ∈ wsX3_read := fun w h => List.mem_cons_of_mem _ (List.mem_append_right _ h)
  refine lv_aload_n hx hb dX3_read_0 rfl (lv_at hl 0 rfl) ?_
  refine lv_iconst (v := 0) hx hb dX3_read_1 (by decide) ?_
  refine r_put (T := TX3) (G' := ((xG c4 a (nI ln) yc fn fp 0 sn lt nb yk yi) :: Ts)) hx hb hts hi3 tyX3 tyX3_ok nmX3 hown hK hw 0 rfl rfl 8 (by decide) f_0 rfl rfl (Nat.le_of_ble_eq_true rfl) rfl dX3_read_2 (fun H locs hw => ?_)
  refine lv_aload_n hx hb dX3_read_5 rfl (lv_at hl 0 rfl) ?_
  refine lv_iconst (v := 0) hx hb dX3_read_6 (by decide) ?_
  refine r_put (T := TX3) (G' := ((xG c4 a (nI ln) yc fn fp 0 0 lt nb yk yi) :: Ts)) hx hb hts hi3 tyX3 tyX3_ok nmX3 hown hK hw 0 rfl rfl 9 (by decide) f_1 rfl rfl (Nat.le_of_ble_eq_true rfl) rfl dX3_read_7 (fun H locs hw => ?_)
  refine lv_aload_n hx hb dX3_read_10 rfl (lv_at hl 0 rfl) ?_
  refine lv_iconst (v := 0) hx hb dX3_read_11 (by decide) ?_
  refine r_put (T := TX3) (G' := ((xG c4 a (nI ln) 0 fn fp 0 0 lt nb yk yi) :: Ts)) hx hb hts hi3 tyX3 tyX3_ok nmX3 hown hK hw 0 rfl rfl 5 (by decide) f_2 rfl rfl (Nat.le_of_ble_eq_true rfl) rfl dX3_read_12 (fun H locs hw => ?_)
  refine lv_aload_n hx hb dX3_read_15 rfl (lv_at hl 0 rfl) ?_
  refine lv_iconst (v := 0) hx hb dX3_read_16 (by decide) ?_
  refine r_put (T := TX3) (G' := ((xG c4 a (nI ln) 0 0 fp 0 0 lt nb yk yi) :: Ts)) hx hb hts hi3 tyX3 tyX3_ok nmX3 hown hK hw 0 rfl rfl 6 (by decide) f_3 rfl rfl (Nat.le_of_ble_eq_true rfl) rfl dX3_read_17 (fun H locs hw => ?_)
  refine lv_aload_n hx hb dX3_read_20 rfl (lv_at hl 0 rfl) ?_
  refine lv_iconst (v := (-1)) hx hb dX3_read_21 (by decide) ?_
  refine r_put (T := TX3) (G' := ((xG c4 a (nI ln) 0 0 (-1) 0 0 lt nb yk yi) :: Ts)) hx hb hts hi3 tyX3 tyX3_ok nmX3 hown hK hw 0 rfl rfl 7 (by decide) f_4 rfl rfl (Nat.le_of_ble_eq_true rfl) rfl dX3_read_22 (fun H locs hw => ?_)
  refine lv_iconst (v := 0) hx hb dX3_read_25 (by decide) ?_
  refine lv_istore_n (lv' := [(1, .int 0), (0, .ref (a 0))]) hx hb dX3_read_26 rfl hl (by decide) rfl (fun ls hl => ?_)
  have loop_27 : ∀ (fuel : Nat) (i : Nat) (nb1 : Nat → Int32), (9 - i) < fuel → (i ≤ 9) → (∀ j, j < i → nb1 j = nb0 j) → ∀ (H : Heap) (locs : List Loc), gW D A js.heap ((xG c4 a (nI ln) 0 0 (-1) 0 0 lt nb1 yk yi) :: Ts) H locs → ∀ (ls : Array Slot), lv_has ls 2 [(1, .int (nI i)), (0, .ref (a 0))] → W jp l je R js jm args below meth jc H locs 0 0 Q (F0 jm 27 ls []) := by
    intro fuel
    induction fuel with
    | zero => intro i nb1 hm; exact absurd hm (Nat.not_lt_zero _)
    | succ fuel ih_27 =>
      intro i nb1 hm_27 hi hU H locs hw ls hl
      refine lv_iload_n hx hb dX3_read_27 rfl (lv_at hl 0 rfl) ?_
      refine lv_bipush (v := 9) hx hb dX3_read_28 (by decide) ?_
      refine r_cge hx hb i 9 (by omega) (by omega) (tgt := 50) dX3_read_30 (by decide) (fun c_30 => ?_) (fun c_30 => ?_)
      · refine lv_aload_n hx hb dX3_read_50 rfl (lv_at hl 1 rfl) ?_
        refine c_vv (As := []) (rest := []) ⟨hx, hb, hml, hown, hts⟩ (k_X3_skipBlanks l D c4 A Ts a ln 0 0 (-1) 0 0 lt nb1 yk yi hln (Nat.zero_le _)) (cwV 0 hts gX3_read_X3_skipBlanks rfl rfl rfl (by decide +kernel) (rmv (Nat.le_of_ble_eq_true rfl) (Nat.le_of_ble_eq_true rfl) hRf hRl)) hK trivial hw rfl rfl rfl hl rfl (Nat.le_of_ble_eq_true rfl) ⟨Nat.zero_le _, Nat.zero_le _⟩ dX3_read_51 (fun u_51 H locs hpq hw => ?_)
        refine lv_iconst (v := 0) hx hb dX3_read_54 (by decide) ?_
        refine lv_istore_n (lv' := [(1, .int 0), (0, .ref (a 0))]) hx hb dX3_read_55 rfl hl (by decide) rfl (fun ls hl => ?_)
        have loop_56 : ∀ (fuel : Nat) (i : Nat) (p1 : Nat) (sn1 : Int32) (yc1 : Int32) (yk1 : Nat → Int32) (yi1 : Nat → Int32) (nbx : Nat → Int32) (ys : List (Int32 × Int32)) (np : Nat → Int32) (K : Nat), (ln - p1) < fuel → (i ≤ p1) → (p1 ≤ ln) → (ln - p1 ≤ K) → (yc1 = nI ys.length) → (ysR ys yk1 yi1) → (nbR nbx np) → (rdAll lt ln K p1 sn1 ys np = parse lt ln) → (psOk ys np) → ∀ (H : Heap) (locs : List Loc), gW D A js.heap ((xG c4 a (nI ln) yc1 0 (-1) (nI p1) sn1 lt nbx yk1 yi1) :: Ts) H locs → ∀ (ls : Array Slot), lv_has ls 2 [(1, .int (nI i)), (0, .ref (a 0))] → W jp l je R js jm args below meth jc H locs 0 0 Q (F0 jm 56 ls []) := by
          intro fuel
          induction fuel with
          | zero => intro i p1 sn1 yc1 yk1 yi1 nbx ys np K hm; exact absurd hm (Nat.not_lt_zero _)
          | succ fuel ih_56 =>
            intro i p1 sn1 yc1 yk1 yi1 nbx ys np K hm_56 hi hq hK0 hyc hrow hnb hR hok H locs hw ls hl
            refine lv_iload_n hx hb dX3_read_56 rfl (lv_at hl 0 rfl) ?_
            refine lv_sipush (v := 230) hx hb dX3_read_57 (by decide) ?_
            refine r_cge hx hb i 230 (by omega) (by omega) (tgt := 89) dX3_read_60 (by decide) (fun c_60 => ?_) (fun c_60 => ?_)
            · refine lv_iconst (v := 1) hx hb dX3_read_89 (by decide) ?_
              exact kr 1 (p1, sn1, yc1, 0, (-1), yk1, yi1, nbx) _ _ _ _ hw rfl (Or.inl ⟨ys, np, hR.symm.trans (ra_end (by omega)), rfl, hyc, hrow, hnb, rfl⟩) dX3_read_90
            · refine lv_aload_n hx hb dX3_read_63 rfl (lv_at hl 1 rfl) ?_
              refine c_vi (As := []) (rest := []) ⟨hx, hb, hml, hown, hts⟩ (k_X3_isAtEnd l D c4 A Ts a ln yc1 0 (-1) p1 sn1 lt nbx yk1 yi1 hln hq) (cwV 0 hts gX3_read_X3_isAtEnd rfl rfl rfl (by decide +kernel) (rmv (Nat.le_of_ble_eq_true rfl) (Nat.le_of_ble_eq_true rfl) hRf hRl)) hK trivial hw rfl rfl rfl hl rfl (Nat.le_of_ble_eq_true rfl) ⟨Nat.zero_le _, Nat.zero_le _⟩ dX3_read_64 (fun r_64 u_64 H locs hpq hw => ?_)
              obtain ⟨h0_64, h1_64⟩ := hpq
              refine lv_if_ne (tgt := 89) hx hb dX3_read_67 (by decide) (fun c_67 => ?_) (fun c_67 => ?_)
              · refine lv_iconst (v := 1) hx hb dX3_read_89 (by decide) ?_
                exact kr 1 (p1, sn1, yc1, 0, (-1), yk1, yi1, nbx) _ _ _ _ hw rfl (Or.inl ⟨ys, np, hR.symm.trans (ra_end (h1_64 c_67)), rfl, hyc, hrow, hnb, rfl⟩) dX3_read_90
              · have hlt := h0_64 c_67
                refine lv_aload_n hx hb dX3_read_70 rfl (lv_at hl 1 rfl) ?_
                refine c_vi (As := []) (rest := []) ⟨hx, hb, hml, hown, hts⟩ (k_X3_readClause l D c4 A Ts t a ln yc1 0 (-1) p1 sn1 lt nbx yk1 yi1 ys np hln (by first | omega | decide) hyc hrow hnb) (cwV 0 hts gX3_read_X3_readClause rfl rfl rfl (by decide +kernel) (rmv (Nat.le_of_ble_eq_true rfl) (Nat.le_of_ble_eq_true rfl) hRf hRl)) hK (by exact hX) hw rfl rfl rfl hl rfl (Nat.le_of_ble_eq_true rfl) ⟨Nat.zero_le _, Nat.zero_le _⟩ dX3_read_71 (fun r_71 u_71 H locs hpq hw => ?_)
                obtain ⟨pl2_71, sn2_71, yc2_71, fn2_71, fp2_71, yk2_71, yi2_71, nb2_71⟩ := u_71
                have hw : gW D A js.heap ((xG c4 a (nI ln) yc2_71 fn2_71 fp2_71 (nI pl2_71) sn2_71 lt nb2_71 yk2_71 yi2_71) :: Ts) H locs := hw
                have hC_71 := hpq
                have hC_71 : rcP lt ln p1 pl2_71 sn1 sn2_71 ys np yc2_71 yk2_71 yi2_71 nb2_71 r_71 0 (-1) fn2_71 fp2_71 := hC_71
                refine lv_if_ne (tgt := 79) hx hb dX3_read_74 (by decide) (fun c_74 => ?_) (fun c_74 => ?_)
                · obtain ⟨ys2, np2, hC1, -, hC3, hC4, hC5, hC6, hC7⟩ := hC_71.resolve_right (fun z => c_74 z.2)
                  have hc0 := rcl_inl hC1 hlt hok
                  refine lv_aload_n hx hb dX3_read_79 rfl (lv_at hl 1 rfl) ?_
                  refine c_vv (As := []) (rest := []) ⟨hx, hb, hml, hown, hts⟩ (k_X3_skipBlanks l D c4 A Ts a ln yc2_71 fn2_71 fp2_71 pl2_71 sn2_71 lt nb2_71 yk2_71 yi2_71 hln hc0.2.1) (cwV 0 hts gX3_read_X3_skipBlanks rfl rfl rfl (by decide +kernel) (rmv (Nat.le_of_ble_eq_true rfl) (Nat.le_of_ble_eq_true rfl) hRf hRl)) hK trivial hw rfl rfl rfl hl rfl (Nat.le_of_ble_eq_true rfl) ⟨Nat.zero_le _, Nat.zero_le _⟩ dX3_read_80 (fun u_80 H locs hpq hw => ?_)
                  have hs3 := skp_le (lt := lt) hc0.2.1
                  have hs4 := skp_ge lt ln pl2_71
                  have hs5 : p1 < pl2_71 := hc0.1
                  refine lv_iinc (v := (nI (i + 1))) (lv' := [(1, .int (nI (i + 1))), (0, .ref (a 0))]) hx hb dX3_read_83 hl (k := 0) rfl (nI_add _ _) (by decide) rfl (fun ls hl => ?_)
                  refine lv_goto (tgt := 56) hx hb dX3_read_86 (by decide) ?_
                  rw [show fn2_71 = 0 from hC6] at hw
                  rw [show fp2_71 = (-1) from hC7] at hw
                  exact ih_56 (i + 1) (skp lt ln pl2_71) sn2_71 yc2_71 yk2_71 yi2_71 nb2_71 ys2 np2 (K - 1) (by omega) (by omega) hs3 (by omega) hC3 hC4 hC5 ((ra_step (by omega) hlt hC1).symm.trans hR) hc0.2.2 _ _ hw ls (lv_sub hl [0, 1] rfl)
                · refine lv_iconst (v := 0) hx hb dX3_read_77 (by decide) ?_
                  exact kr 0 (pl2_71, sn2_71, yc2_71, fn2_71, fp2_71, yk2_71, yi2_71, nb2_71) _ _ _ _ hw rfl (Or.inr ⟨(ra_bad (by omega) hlt (hC_71.resolve_left (by rintro ⟨_, _, _, z, _⟩; rw [c_74] at z; exact absurd z (by decide))).1).eq hR, rfl⟩) dX3_read_78
        exact loop_56 ((ln - (skp lt ln 0)) + 1) 0 (skp lt ln 0) 0 0 yk yi nb1 ([]) nb0 231 (Nat.lt_succ_self _) (Nat.zero_le _) (skp_le (Nat.zero_le _)) (by omega) rfl (fun j e he => by simp at he) (fun j hj => hU j (by omega)) rfl ps0 _ _ hw ls (lv_sub hl [0, 1] rfl)
      · refine lv_aload_n hx hb dX3_read_33 rfl (lv_at hl 1 rfl) ?_
        refine r_get (T := TX3) (v := .ref (a 2)) hx hb hts hi3 hown hK hw 0 rfl rfl 2 (by decide) f_5 rfl dX3_read_34 ?_
        refine lv_iload_n hx hb dX3_read_37 rfl (lv_at hl 0 rfl) ?_
        refine r_gets (v := .ref (t 0)) hx hb hX.2.1.1 hw hown f_6 dX3_read_38 ?_
        refine lv_iload_n hx hb dX3_read_41 rfl (lv_at hl 0 rfl) ?_
        refine r_tab hx hb hX.2.1.2 hw i (by omega) (by decide) dX3_read_42 ?_
        refine r_iast (G' := ((xG c4 a (nI ln) 0 0 (-1) 0 0 lt (upd nb1 i (tbU.getD i 0)) yk yi) :: Ts)) hx hb hK hw 2 0 rfl rfl i (by omega) (by decide) rfl dX3_read_43 (fun H locs hw => ?_)
        refine lv_iinc (v := (nI (i + 1))) (lv' := [(1, .int (nI (i + 1))), (0, .ref (a 0))]) hx hb dX3_read_44 hl (k := 0) rfl (nI_add _ _) (by decide) rfl (fun ls hl => ?_)
        refine lv_goto (tgt := 27) hx hb dX3_read_47 (by decide) ?_
        exact ih_27 (i + 1) (upd nb1 i (tbU.getD i 0)) (by omega) (by omega) (un_step hU) _ _ hw ls (lv_sub hl [0, 1] rfl)
  exact loop_27 ((9 - 0) + 1) 0 nb (Nat.lt_succ_self _) (by omega) (fun k h => absurd h (Nat.not_lt_zero k)) _ _ hw ls (lv_sub hl [0, 1] rfl)
