set_option maxHeartbeats 4000000 in
set_option maxRecDepth 100000 in
theorem k_X8_takesYards (l : Launch) (D : va_G) (c4 : Nat → ClassId) (A : Nat → Prop) (Ts : List va_W) (a : Nat → Nat) (yn : Int32) (ln : Nat) (p : Nat) (st : Int32) (va : Int32) (fy : Int32) (fa : Int32) (se : Int32) (bh : Int32) (mi : Int32) (fb : Int32) (bo : Int32) (bk : Int32) (lt : Nat → Int32) (rk : Nat → Int32) (ri : Nat → Int32) (hln : ln ≤ 230) (hp : p ≤ ln) : Ci l yX8_takesYards wsX8_takesYards 4 83 [.ref (a 0)] D (tyA c4) A none ((mG a yn (nI ln) (nI p) st va fy fa 0 se bh mi fb bo bk) :: (aG c4 (a 4) 230 lt) :: (aG c4 (a 5) 12 rk) :: (aG c4 (a 6) 12 ri) :: Ts) (S := Nat × Int32 × Int32 × Int32 × Int32 × Int32 × (Nat → Int32) × (Nat → Int32)) (fun (r : Int32) (u : Nat × Int32 × Int32 × Int32 × Int32 × Int32 × (Nat → Int32) × (Nat → Int32)) => tysP lt ln p u.1 u.2.2.2.2.2.1 u.2.2.2.2.2.2.1 u.2.2.2.2.2.2.2 r fy fa u.2.2.2.1 u.2.2.2.2.1) (fun u => ((mG a yn (nI ln) (nI u.1) u.2.1 u.2.2.1 u.2.2.2.1 u.2.2.2.2.1 u.2.2.2.2.2.1 se bh mi fb bo bk) :: (aG c4 (a 4) 230 lt) :: (aG c4 (a 5) 12 u.2.2.2.2.2.2.1) :: (aG c4 (a 6) 12 u.2.2.2.2.2.2.2) :: Ts)) := by
  refine cOz (cc := cX8_takesYards) (maxL := 2) (by decide) rfl (Nat.le_of_ble_eq_true rfl) rfl ?_
  rintro jp je js jm below meth jc ls args R Q H locs hRf hRl ⟨hx, hb, hml, hr, hts, hown, hlocks, hK, hX⟩ hw hl kr
  have hown : js.vm.findClass RX8 = some jm.cls := hown
  have f_0 := hts (.fieldLink RX8 69 "IceSwayModel" "readYards" "I") (by decide +kernel)
  have f_1 := hts (.fieldLink RX8 75 "IceSwayModel" "at" "I") (by decide +kernel)
  have f_2 := hts (.fieldLink RX8 92 "IceSwayModel" "start" "I") (by decide +kernel)
  have hi8 : ∀ w ∈ u_ws RX8 TX8 28, w ∈ wsX8_takesYards := fun w h => List.mem_cons_of_mem _ (List.mem_append_right _ h)
  refine lv_aload_n hx hb dX8_takesYards_0 rfl (lv_at hl 0 rfl) ?_
  have hw := hw.m3
  have hw := hw.m3
  have hw := hw.m3
  have hw := hw.m3
  refine c_vi (As := []) (rest := []) ⟨hx, hb, hml, hown, hts⟩ (k_X8_takesYard l D c4 A Ts a yn ln p st va fy fa 0 se bh mi fb bo bk lt rk ri hln hp (by first | omega | decide)) (cwV 0 hts gX8_takesYards_X8_takesYard rfl rfl rfl (by decide +kernel) (rmv (Nat.le_of_ble_eq_true rfl) (Nat.le_of_ble_eq_true rfl) hRf hRl)) hK trivial hw rfl rfl rfl hl rfl (Nat.le_of_ble_eq_true rfl) ⟨Nat.zero_le _, Nat.zero_le _⟩ dX8_takesYards_1 (fun r_1 u_1 H locs hpq hw => ?_)
  obtain ⟨pl2_1, st2_1, va2_1, fy2_1, fa2_1, ry2_1, rk2_1, ri2_1⟩ := u_1
  have hw : gW D A js.heap ((mG a yn (nI ln) (nI pl2_1) st2_1 va2_1 fy2_1 fa2_1 ry2_1 se bh mi fb bo bk) :: (aG c4 (a 4) 230 lt) :: (aG c4 (a 5) 12 rk2_1) :: (aG c4 (a 6) 12 ri2_1) :: Ts) H locs := hw
  have hY_1 := hpq
  have hY_1 : tyP lt ln p 0 pl2_1 ry2_1 rk ri rk2_1 ri2_1 r_1 fy fa fy2_1 fa2_1 := hY_1
  refine lv_istore_n (lv' := [(1, .int r_1), (0, .ref (a 0))]) hx hb dX8_takesYards_4 rfl hl (by decide) rfl (fun ls hl => ?_)
  have loop_5 : ∀ (fuel : Nat) (g1 : Int32) (p1 : Nat) (st1 : Int32) (va1 : Int32) (fy1 : Int32) (fa1 : Int32) (ry1 : Int32) (rk1 : Nat → Int32) (ri1 : Nat → Int32), (if g1 = 0 then 0 else ln - p1 + 1) < fuel → (g1 = 1 ∨ g1 = 0) → (¬ g1 = 0 → ∃ ys, ysG lt ln p p1 ys ry1 rk1 ri1 ∧ fy1 = fy ∧ fa1 = fa) → (g1 = 0 → bad (rdYs lt ln 12 p []) fy1 fa1) → ∀ (H : Heap) (locs : List Loc), gW D A js.heap ((mG a yn (nI ln) (nI p1) st1 va1 fy1 fa1 ry1 se bh mi fb bo bk) :: (aG c4 (a 4) 230 lt) :: (aG c4 (a 5) 12 rk1) :: (aG c4 (a 6) 12 ri1) :: Ts) H locs → ∀ (ls : Array Slot), lv_has ls 2 [(1, .int g1), (0, .ref (a 0))] → W jp l je R js jm args below meth jc H locs 0 0 Q (F0 jm 5 ls []) := by
    intro fuel
    induction fuel with
    | zero => intro g1 p1 st1 va1 fy1 fa1 ry1 rk1 ri1 hm; exact absurd hm (Nat.not_lt_zero _)
    | succ fuel ih_5 =>
      intro g1 p1 st1 va1 fy1 fa1 ry1 rk1 ri1 hm_5 hg hT hF H locs hw ls hl
      refine lv_iload_n hx hb dX8_takesYards_5 rfl (lv_at hl 0 rfl) ?_
      refine lv_if_eq (tgt := 75) hx hb dX8_takesYards_6 (by decide) (fun c_6 => ?_) (fun c_6 => ?_)
      · refine lv_iload_n hx hb dX8_takesYards_75 rfl (lv_at hl 0 rfl) ?_
        exact kr g1 (p1, st1, va1, fy1, fa1, ry1, rk1, ri1) _ _ _ _ hw (z01 hg) (Or.inr ⟨hF c_6, c_6⟩) dX8_takesYards_76
      · obtain ⟨ys, ⟨ery, hl1, hl2, hp1, hrow, hR⟩, efy, efa⟩ := hT c_6
        subst ery
        refine lv_aload_n hx hb dX8_takesYards_9 rfl (lv_at hl 1 rfl) ?_
        have hw := hw.m1
        have hw := hw.m1
        refine c_vi (As := []) (rest := []) ⟨hx, hb, hml, hown, hts⟩ (k_X8_here l D c4 A ((aG c4 (a 5) 12 rk1) :: (aG c4 (a 6) 12 ri1) :: Ts) a yn ln p1 st1 va1 fy1 fa1 (nI ys.length) se bh mi fb bo bk lt hln hp1) (cwV 0 hts gX8_takesYards_X8_here rfl rfl rfl (by decide +kernel) (rmv (Nat.le_of_ble_eq_true rfl) (Nat.le_of_ble_eq_true rfl) hRf hRl)) hK trivial hw rfl rfl rfl hl rfl (Nat.le_of_ble_eq_true rfl) ⟨Nat.zero_le _, Nat.zero_le _⟩ dX8_takesYards_10 (fun r_10 u_10 H locs hpq hw => ?_)
        have er_10 := hpq
        subst er_10
        have hs2 := skp_le (lt := lt) hp1
        have hs1 := skp_ge lt ln p1
        refine lv_bipush (v := 44) hx hb dX8_takesYards_13 (by decide) ?_
        refine lv_icmp_ne (tgt := 75) hx hb dX8_takesYards_15 (by decide) (fun c_15 => ?_) (fun c_15 => ?_)
        · refine lv_iload_n hx hb dX8_takesYards_75 rfl (lv_at hl 0 rfl) ?_
          exact kr g1 (skp lt ln p1, (nI (skp lt ln p1)), va1, fy1, fa1, (nI ys.length), rk1, ri1) _ _ _ _ hw (z01 hg) (Or.inl ⟨ys, tys_fin hR c_15, hg.resolve_right c_6, hs2, rfl, hrow, efy, efa⟩) dX8_takesYards_76
        · have h44 : skp lt ln p1 < ln ∧ lt (skp lt ln p1) = 44 := ltA_eq c_15 (by decide)
          refine lv_aload_n hx hb dX8_takesYards_18 rfl (lv_at hl 1 rfl) ?_
          refine r_get (T := TX8) (v := .int (nI ys.length)) hx hb hts hi8 hown hK hw 0 rfl rfl 11 (by decide) f_0 rfl dX8_takesYards_19 ?_
          refine lv_bipush (v := 12) hx hb dX8_takesYards_22 (by decide) ?_
          refine r_clt hx hb ys.length 12 (by omega) (by omega) (tgt := 39) dX8_takesYards_24 (by decide) (fun c_24 => ?_) (fun c_24 => ?_)
          · refine lv_iconst (v := 1) hx hb dX8_takesYards_39 (by decide) ?_
            refine lv_goto (tgt := 44) hx hb dX8_takesYards_40 (by decide) ?_
            refine lv_istore_n (lv' := [(1, .int 1), (0, .ref (a 0))]) hx hb dX8_takesYards_44 rfl hl (by decide) rfl (fun ls hl => ?_)
            refine lv_aload_n hx hb dX8_takesYards_45 rfl (lv_at hl 1 rfl) ?_
            refine lv_dup hx hb dX8_takesYards_46 rfl ?_
            refine r_get (T := TX8) (v := .int (nI (skp lt ln p1))) hx hb hts hi8 hown hK hw 0 rfl rfl 6 (by decide) f_1 rfl dX8_takesYards_47 ?_
            refine lv_iconst (v := 1) hx hb dX8_takesYards_50 (by decide) ?_
            refine r_addN hx hb (skp lt ln p1) 1 dX8_takesYards_51 ?_
            refine r_put (T := TX8) (G' := ((mG a yn (nI ln) (nI (skp lt ln p1 + 1)) (nI (skp lt ln p1)) va1 fy1 fa1 (nI ys.length) se bh mi fb bo bk) :: (aG c4 (a 4) 230 lt) :: (aG c4 (a 5) 12 rk1) :: (aG c4 (a 6) 12 ri1) :: Ts)) hx hb hts hi8 tyX8 tyX8_ok nmX8 hown hK hw 0 rfl rfl 6 (by decide) f_1 rfl rfl (Nat.le_of_ble_eq_true rfl) rfl dX8_takesYards_52 (fun H locs hw => ?_)
            refine lv_iload_n hx hb dX8_takesYards_55 rfl (lv_at hl 0 rfl) ?_
            refine lv_if_eq (tgt := 70) hx hb dX8_takesYards_56 (by decide) (fun c_56 => ?_) (fun c_56 => ?_)
            · exact absurd c_56 (by decide)
            · refine lv_aload_n hx hb dX8_takesYards_59 rfl (lv_at hl 1 rfl) ?_
              have hw := hw.m3
              have hw := hw.m3
              have hw := hw.m3
              have hw := hw.m3
              refine c_vi (As := []) (rest := []) ⟨hx, hb, hml, hown, hts⟩ (k_X8_takesYard l D c4 A Ts a yn ln (skp lt ln p1 + 1) (nI (skp lt ln p1)) va1 fy1 fa1 ys.length se bh mi fb bo bk lt rk1 ri1 hln (by first | omega | decide) c_24) (cwV 0 hts gX8_takesYards_X8_takesYard rfl rfl rfl (by decide +kernel) (rmv (Nat.le_of_ble_eq_true rfl) (Nat.le_of_ble_eq_true rfl) hRf hRl)) hK trivial hw rfl rfl rfl hl rfl (Nat.le_of_ble_eq_true rfl) ⟨Nat.zero_le _, Nat.zero_le _⟩ dX8_takesYards_60 (fun r_60 u_60 H locs hpq hw => ?_)
              obtain ⟨pl2_60, st2_60, va2_60, fy2_60, fa2_60, ry2_60, rk2_60, ri2_60⟩ := u_60
              have hw : gW D A js.heap ((mG a yn (nI ln) (nI pl2_60) st2_60 va2_60 fy2_60 fa2_60 ry2_60 se bh mi fb bo bk) :: (aG c4 (a 4) 230 lt) :: (aG c4 (a 5) 12 rk2_60) :: (aG c4 (a 6) 12 ri2_60) :: Ts) H locs := hw
              have hY_60 := hpq
              have hY_60 : tyP lt ln (skp lt ln p1 + 1) ys.length pl2_60 ry2_60 rk1 ri1 rk2_60 ri2_60 r_60 fy1 fa1 fy2_60 fa2_60 := hY_60
              refine lv_if_eq (tgt := 70) hx hb dX8_takesYards_63 (by decide) (fun c_63 => ?_) (fun c_63 => ?_)
              · refine lv_iconst (v := 0) hx hb dX8_takesYards_70 (by decide) ?_
                refine lv_istore_n (lv' := [(1, .int 0), (0, .ref (a 0))]) hx hb dX8_takesYards_71 rfl hl (by decide) rfl (fun ls hl => ?_)
                refine lv_goto (tgt := 5) hx hb dX8_takesYards_72 (by decide) ?_
                exact ih_5 0 pl2_60 st2_60 va2_60 fy2_60 fa2_60 ry2_60 rk2_60 ri2_60 (by rw [if_pos rfl]; rw [if_neg c_6] at hm_5; omega) (Or.inr rfl) (fun z => absurd rfl z) (fun _ => ty_nextB (ty_more hR c_24 h44.1 h44.2) c_24 hY_60 c_63) _ _ hw ls (lv_sub hl [0, 1] rfl)
              · refine lv_iconst (v := 1) hx hb dX8_takesYards_66 (by decide) ?_
                refine lv_goto (tgt := 71) hx hb dX8_takesYards_67 (by decide) ?_
                refine lv_istore_n (lv' := [(1, .int 1), (0, .ref (a 0))]) hx hb dX8_takesYards_71 rfl hl (by decide) rfl (fun ls hl => ?_)
                refine lv_goto (tgt := 5) hx hb dX8_takesYards_72 (by decide) ?_
                exact ih_5 1 pl2_60 st2_60 va2_60 fy2_60 fa2_60 ry2_60 rk2_60 ri2_60 (by rw [if_neg (by decide)]; rw [if_neg c_6] at hm_5; have := ty_gt hY_60 c_63; omega) (Or.inl rfl) (fun _ => by obtain ⟨ys3, e1, e2, e3⟩ := ty_next (ty_more hR c_24 h44.1 h44.2) c_24 (by omega) hrow hY_60 c_63; exact ⟨ys3, e1, e2.trans efy, e3.trans efa⟩) (fun z => absurd z (by decide)) _ _ hw ls (lv_sub hl [0, 1] rfl)
          · refine lv_aload_n hx hb dX8_takesYards_27 rfl (lv_at hl 1 rfl) ?_
            refine lv_iconst (v := 1) hx hb dX8_takesYards_28 (by decide) ?_
            refine lv_aload_n hx hb dX8_takesYards_29 rfl (lv_at hl 1 rfl) ?_
            refine r_get (T := TX8) (v := .int (nI (skp lt ln p1))) hx hb hts hi8 hown hK hw 0 rfl rfl 7 (by decide) f_2 rfl dX8_takesYards_30 ?_
            refine c_vi (As := [.int 1, .int (nI (skp lt ln p1))]) (rest := []) ⟨hx, hb, hml, hown, hts⟩ (k_X8_fails l D c4 A ((aG c4 (a 4) 230 lt) :: (aG c4 (a 5) 12 rk1) :: (aG c4 (a 6) 12 ri1) :: Ts) a yn (nI ln) (nI (skp lt ln p1)) (nI (skp lt ln p1)) va1 fy1 fa1 (nI ys.length) se bh mi fb bo bk 1 (nI (skp lt ln p1))) (cwV 2 hts gX8_takesYards_X8_fails rfl rfl rfl (by decide +kernel) (rmv (Nat.le_of_ble_eq_true rfl) (Nat.le_of_ble_eq_true rfl) hRf hRl)) hK trivial hw rfl rfl rfl hl rfl (Nat.le_of_ble_eq_true rfl) ⟨Nat.zero_le _, Nat.zero_le _⟩ dX8_takesYards_33 (fun r_33 u_33 H locs hpq hw => ?_)
            have er_33 := hpq
            subst er_33
            refine lv_if_eq (tgt := 43) hx hb dX8_takesYards_36 (by decide) (fun c_36 => ?_) (fun c_36 => ?_)
            · refine lv_iconst (v := 0) hx hb dX8_takesYards_43 (by decide) ?_
              refine lv_istore_n (lv' := [(1, .int 0), (0, .ref (a 0))]) hx hb dX8_takesYards_44 rfl hl (by decide) rfl (fun ls hl => ?_)
              refine lv_aload_n hx hb dX8_takesYards_45 rfl (lv_at hl 1 rfl) ?_
              refine lv_dup hx hb dX8_takesYards_46 rfl ?_
              refine r_get (T := TX8) (v := .int (nI (skp lt ln p1))) hx hb hts hi8 hown hK hw 0 rfl rfl 6 (by decide) f_1 rfl dX8_takesYards_47 ?_
              refine lv_iconst (v := 1) hx hb dX8_takesYards_50 (by decide) ?_
              refine r_addN hx hb (skp lt ln p1) 1 dX8_takesYards_51 ?_
              refine r_put (T := TX8) (G' := ((mG a yn (nI ln) (nI (skp lt ln p1 + 1)) (nI (skp lt ln p1)) va1 1 (nI (skp lt ln p1)) (nI ys.length) se bh mi fb bo bk) :: (aG c4 (a 4) 230 lt) :: (aG c4 (a 5) 12 rk1) :: (aG c4 (a 6) 12 ri1) :: Ts)) hx hb hts hi8 tyX8 tyX8_ok nmX8 hown hK hw 0 rfl rfl 6 (by decide) f_1 rfl rfl (Nat.le_of_ble_eq_true rfl) rfl dX8_takesYards_52 (fun H locs hw => ?_)
              refine lv_iload_n hx hb dX8_takesYards_55 rfl (lv_at hl 0 rfl) ?_
              refine lv_if_eq (tgt := 70) hx hb dX8_takesYards_56 (by decide) (fun c_56 => ?_) (fun c_56 => ?_)
              · refine lv_iconst (v := 0) hx hb dX8_takesYards_70 (by decide) ?_
                refine lv_istore_n (lv' := [(1, .int 0), (0, .ref (a 0))]) hx hb dX8_takesYards_71 rfl hl (by decide) rfl (fun ls hl => ?_)
                refine lv_goto (tgt := 5) hx hb dX8_takesYards_72 (by decide) ?_
                exact ih_5 0 (skp lt ln p1 + 1) (nI (skp lt ln p1)) va1 1 (nI (skp lt ln p1)) (nI ys.length) rk1 ri1 (by rw [if_pos rfl]; rw [if_neg c_6] at hm_5; omega) (Or.inr rfl) (fun z => absurd rfl z) (fun _ => ty_full hR (by omega) h44.2) _ _ hw ls (lv_sub hl [0, 1] rfl)
              · exact absurd c_56 (by decide)
            · exact absurd c_36 (by decide)
  exact loop_5 ((if r_1 = 0 then 0 else ln - pl2_1 + 1) + 1) r_1 pl2_1 st2_1 va2_1 fy2_1 fa2_1 ry2_1 rk2_1 ri2_1 (Nat.lt_succ_self _) hY_1.z (ty_init hp hY_1) (ty_initB hY_1) _ _ hw ls (lv_sub hl [0, 1] rfl)
set_option maxHeartbeats 4000000 in
set_option maxRecDepth 100000 in
theorem k_X8_takesClause (l : Launch) (D : va_G) (c4 : Nat → ClassId) (A : Nat → Prop) (Ts : List va_W) (a : Nat → Nat) (yn : Int32) (ln : Nat) (p : Nat) (st : Int32) (va : Int32) (fy : Int32) (fa : Int32) (sn : Int32) (bh : Int32) (mi : Int32) (fb : Int32) (bo : Int32) (bk : Int32) (lt : Nat → Int32) (told : Nat → Int32) (rk : Nat → Int32) (ri : Nat → Int32) (ys : List (Int32 × Int32)) (nbp : Nat → Int32) (hln : ln ≤ 230) (hp : p ≤ ln) (hlt : skp lt ln p < ln) (hsn : snOk sn) (hye : sn &&& 1 = 0 → ys = []) (hrow : ysR ys rk ri) (ht : toR told nbp) : Ci l yX8_takesClause wsX8_takesClause 5 104 [.ref (a 0)] D (tyA c4) A none ((mG a yn (nI ln) (nI p) st va fy fa (nI ys.length) sn bh mi fb bo bk) :: (aG c4 (a 4) 230 lt) :: (aG c4 (a 2) 18 told) :: (aG c4 (a 5) 12 rk) :: (aG c4 (a 6) 12 ri) :: Ts) (S := Nat × Int32 × Int32 × Int32 × Int32 × Int32 × (Nat → Int32) × (Nat → Int32) × Int32 × (Nat → Int32)) (fun (r : Int32) (u : Nat × Int32 × Int32 × Int32 × Int32 × Int32 × (Nat → Int32) × (Nat → Int32) × Int32 × (Nat → Int32)) => mcP lt ln (skp lt ln p) u.1 sn u.2.2.2.2.2.2.2.2.1 ys nbp told u.2.2.2.2.2.2.2.2.2 u.2.2.2.2.2.1 u.2.2.2.2.2.2.1 u.2.2.2.2.2.2.2.1 r fy fa u.2.2.2.1 u.2.2.2.2.1) (fun u => ((mG a yn (nI ln) (nI u.1) u.2.1 u.2.2.1 u.2.2.2.1 u.2.2.2.2.1 u.2.2.2.2.2.1 u.2.2.2.2.2.2.2.2.1 bh mi fb bo bk) :: (aG c4 (a 4) 230 lt) :: (aG c4 (a 2) 18 u.2.2.2.2.2.2.2.2.2) :: (aG c4 (a 5) 12 u.2.2.2.2.2.2.1) :: (aG c4 (a 6) 12 u.2.2.2.2.2.2.2.1) :: Ts)) := by
  refine cOz (cc := cX8_takesClause) (maxL := 4) (by decide) rfl (Nat.le_of_ble_eq_true rfl) rfl ?_
  rintro jp je js jm below meth jc ls args R Q H locs hRf hRl ⟨hx, hb, hml, hr, hts, hown, hlocks, hK, hX⟩ hw hl kr
  have hown : js.vm.findClass RX8 = some jm.cls := hown
  have f_0 := hts (.fieldLink RX8 92 "IceSwayModel" "start" "I") (by decide +kernel)
  have f_1 := hts (.fieldLink RX8 72 "IceSwayModel" "seen" "I") (by decide +kernel)
  have f_2 := hts (.fieldLink RX8 75 "IceSwayModel" "at" "I") (by decide +kernel)
  have hi8 : ∀ w ∈ u_ws RX8 TX8 28, w ∈ wsX8_takesClause := fun w h => List.mem_cons_of_mem _ (List.mem_append_right _ h)
  refine lv_aload_n hx hb dX8_takesClause_0 rfl (lv_at hl 0 rfl) ?_
  have hw := hw.m1
  have hw := hw.m1
  refine c_vi (As := []) (rest := []) ⟨hx, hb, hml, hown, hts⟩ (k_X8_here l D c4 A ((aG c4 (a 2) 18 told) :: (aG c4 (a 5) 12 rk) :: (aG c4 (a 6) 12 ri) :: Ts) a yn ln p st va fy fa (nI ys.length) sn bh mi fb bo bk lt hln hp) (cwV 0 hts gX8_takesClause_X8_here rfl rfl rfl (by decide +kernel) (rmv (Nat.le_of_ble_eq_true rfl) (Nat.le_of_ble_eq_true rfl) hRf hRl)) hK trivial hw rfl rfl rfl hl rfl (Nat.le_of_ble_eq_true rfl) ⟨Nat.zero_le _, Nat.zero_le _⟩ dX8_takesClause_1 (fun r_1 u_1 H locs hpq hw => ?_)
  have er_1 := hpq
  subst er_1
  refine r_top (y := lt (skp lt ln p)) (ltA_in hlt) ?_
  refine lv_istore_n (lv' := [(1, .int (lt (skp lt ln p))), (0, .ref (a 0))]) hx hb dX8_takesClause_4 rfl hl (by decide) rfl (fun ls hl => ?_)
  refine lv_iload_n hx hb dX8_takesClause_5 rfl (lv_at hl 0 rfl) ?_
  refine lv_bipush (v := 121) hx hb dX8_takesClause_6 (by decide) ?_
  refine lv_icmp_ne (tgt := 15) hx hb dX8_takesClause_8 (by decide) (fun c_8 => ?_) (fun c_8 => ?_)
  · refine lv_iload_n hx hb dX8_takesClause_15 rfl (lv_at hl 0 rfl) ?_
    refine lv_bipush (v := 98) hx hb dX8_takesClause_16 (by decide) ?_
    refine lv_icmp_ne (tgt := 25) hx hb dX8_takesClause_18 (by decide) (fun c_18 => ?_) (fun c_18 => ?_)
    · refine lv_iload_n hx hb dX8_takesClause_25 rfl (lv_at hl 0 rfl) ?_
      refine lv_bipush (v := 103) hx hb dX8_takesClause_26 (by decide) ?_
      refine lv_icmp_ne (tgt := 35) hx hb dX8_takesClause_28 (by decide) (fun c_28 => ?_) (fun c_28 => ?_)
      · refine lv_iload_n hx hb dX8_takesClause_35 rfl (lv_at hl 0 rfl) ?_
        refine lv_bipush (v := 99) hx hb dX8_takesClause_36 (by decide) ?_
        refine lv_icmp_ne (tgt := 46) hx hb dX8_takesClause_38 (by decide) (fun c_38 => ?_) (fun c_38 => ?_)
        · refine lv_iconst (v := 0) hx hb dX8_takesClause_46 (by decide) ?_
          refine lv_istore_n (lv' := [(2, .int 0), (1, .int (lt (skp lt ln p))), (0, .ref (a 0))]) hx hb dX8_takesClause_47 rfl hl (by decide) rfl (fun ls hl => ?_)
          refine lv_iload_n hx hb dX8_takesClause_48 rfl (lv_at hl 0 rfl) ?_
          refine lv_if_eq (tgt := 64) hx hb dX8_takesClause_49 (by decide) (fun c_49 => ?_) (fun c_49 => ?_)
          · refine lv_aload_n hx hb dX8_takesClause_64 rfl (lv_at hl 2 rfl) ?_
            refine lv_iconst (v := 1) hx hb dX8_takesClause_65 (by decide) ?_
            refine lv_aload_n hx hb dX8_takesClause_66 rfl (lv_at hl 2 rfl) ?_
            refine r_get (T := TX8) (v := .int (nI (skp lt ln p))) hx hb hts hi8 hown hK hw 0 rfl rfl 7 (by decide) f_0 rfl dX8_takesClause_67 ?_
            refine c_vi (As := [.int 1, .int (nI (skp lt ln p))]) (rest := []) ⟨hx, hb, hml, hown, hts⟩ (k_X8_fails l D c4 A ((aG c4 (a 4) 230 lt) :: (aG c4 (a 2) 18 told) :: (aG c4 (a 5) 12 rk) :: (aG c4 (a 6) 12 ri) :: Ts) a yn (nI ln) (nI (skp lt ln p)) (nI (skp lt ln p)) va fy fa (nI ys.length) sn bh mi fb bo bk 1 (nI (skp lt ln p))) (cwV 2 hts gX8_takesClause_X8_fails rfl rfl rfl (by decide +kernel) (rmv (Nat.le_of_ble_eq_true rfl) (Nat.le_of_ble_eq_true rfl) hRf hRl)) hK trivial hw rfl rfl rfl hl rfl (Nat.le_of_ble_eq_true rfl) ⟨Nat.zero_le _, Nat.zero_le _⟩ dX8_takesClause_70 (fun r_70 u_70 H locs hpq hw => ?_)
            have er_70 := hpq
            subst er_70
            exact kr 0 (skp lt ln p, (nI (skp lt ln p)), va, 1, (nI (skp lt ln p)), (nI ys.length), rk, ri, sn, told) _ _ _ _ hw rfl ⟨loSame.rf _, Or.inr ⟨mc_no (clO_v.2.2.2.2 c_8 c_18 c_28 c_38), rfl⟩⟩ dX8_takesClause_73
          · exact absurd c_49 (by decide)
        · refine lv_bipush (v := 8) hx hb dX8_takesClause_41 (by decide) ?_
          refine lv_goto (tgt := 47) hx hb dX8_takesClause_43 (by decide) ?_
          refine lv_istore_n (lv' := [(2, .int 8), (1, .int (lt (skp lt ln p))), (0, .ref (a 0))]) hx hb dX8_takesClause_47 rfl hl (by decide) rfl (fun ls hl => ?_)
          refine lv_iload_n hx hb dX8_takesClause_48 rfl (lv_at hl 0 rfl) ?_
          refine lv_if_eq (tgt := 64) hx hb dX8_takesClause_49 (by decide) (fun c_49 => ?_) (fun c_49 => ?_)
          · exact absurd c_49 (by decide)
          · refine lv_aload_n hx hb dX8_takesClause_52 rfl (lv_at hl 2 rfl) ?_
            refine r_get (T := TX8) (v := .int sn) hx hb hts hi8 hown hK hw 0 rfl rfl 12 (by decide) f_1 rfl dX8_takesClause_53 ?_
            refine lv_if_ne (tgt := 74) hx hb dX8_takesClause_56 (by decide) (fun c_56 => ?_) (fun c_56 => ?_)
            · refine lv_aload_n hx hb dX8_takesClause_74 rfl (lv_at hl 2 rfl) ?_
              refine r_get (T := TX8) (v := .int sn) hx hb hts hi8 hown hK hw 0 rfl rfl 12 (by decide) f_1 rfl dX8_takesClause_75 ?_
              refine lv_iload_n hx hb dX8_takesClause_78 rfl (lv_at hl 0 rfl) ?_
              refine lv_iand hx hb dX8_takesClause_79 ?_
              refine lv_if_eq (tgt := 93) hx hb dX8_takesClause_80 (by decide) (fun c_80 => ?_) (fun c_80 => ?_)
              · refine lv_aload_n hx hb dX8_takesClause_93 rfl (lv_at hl 2 rfl) ?_
                refine lv_dup hx hb dX8_takesClause_94 rfl ?_
                refine r_get (T := TX8) (v := .int sn) hx hb hts hi8 hown hK hw 0 rfl rfl 12 (by decide) f_1 rfl dX8_takesClause_95 ?_
                refine lv_iload_n hx hb dX8_takesClause_98 rfl (lv_at hl 0 rfl) ?_
                refine lv_ior hx hb dX8_takesClause_99 ?_
                refine r_put (T := TX8) (G' := ((mG a yn (nI ln) (nI (skp lt ln p)) (nI (skp lt ln p)) va fy fa (nI ys.length) (sn ||| (8 : Int32)) bh mi fb bo bk) :: (aG c4 (a 4) 230 lt) :: (aG c4 (a 2) 18 told) :: (aG c4 (a 5) 12 rk) :: (aG c4 (a 6) 12 ri) :: Ts)) hx hb hts hi8 tyX8 tyX8_ok nmX8 hown hK hw 0 rfl rfl 12 (by decide) f_1 rfl rfl (Nat.le_of_ble_eq_true rfl) rfl dX8_takesClause_100 (fun H locs hw => ?_)
                refine lv_aload_n hx hb dX8_takesClause_103 rfl (lv_at hl 2 rfl) ?_
                refine lv_dup hx hb dX8_takesClause_104 rfl ?_
                refine r_get (T := TX8) (v := .int (nI (skp lt ln p))) hx hb hts hi8 hown hK hw 0 rfl rfl 6 (by decide) f_2 rfl dX8_takesClause_105 ?_
                refine lv_iconst (v := 1) hx hb dX8_takesClause_108 (by decide) ?_
                refine r_addN hx hb (skp lt ln p) 1 dX8_takesClause_109 ?_
                refine r_put (T := TX8) (G' := ((mG a yn (nI ln) (nI (skp lt ln p + 1)) (nI (skp lt ln p)) va fy fa (nI ys.length) (sn ||| (8 : Int32)) bh mi fb bo bk) :: (aG c4 (a 4) 230 lt) :: (aG c4 (a 2) 18 told) :: (aG c4 (a 5) 12 rk) :: (aG c4 (a 6) 12 ri) :: Ts)) hx hb hts hi8 tyX8 tyX8_ok nmX8 hown hK hw 0 rfl rfl 6 (by decide) f_2 rfl rfl (Nat.le_of_ble_eq_true rfl) rfl dX8_takesClause_110 (fun H locs hw => ?_)
                refine lv_iload_n hx hb dX8_takesClause_113 rfl (lv_at hl 1 rfl) ?_
                refine lv_lookup (tgt := 241) (off := 127) hx hb dX8_takesClause_114 (by decide) (by rw [c_38]; decide) (by decide) ?_
                have eC : rdCl lt ln (skp lt ln p) sn ys nbp = Sum.elim (fun e => .inl (e.1, sn ||| 8, ys, e.2)) (fun f => .inr f) (rdNs lt ln 3 6 (skp lt ln p + 1) nbp) := mc_ne (k := 3) (by decide) (by decide) (clO_v.2.2.2.1 c_38) c_56 (fun z => absurd c_80 ((sn_bit hsn).2.2.2.mp z)) rfl
                refine lv_aload_n hx hb dX8_takesClause_241 rfl (lv_at hl 2 rfl) ?_
                refine lv_bipush (v := 6) hx hb dX8_takesClause_242 (by decide) ?_
                refine lv_iconst (v := 0) hx hb dX8_takesClause_244 (by decide) ?_
                refine lv_bipush (v := 20) hx hb dX8_takesClause_245 (by decide) ?_
                have hw := hw.m2
                have hw := hw.m2
                have hw := hw.m2
                refine c_vi (As := [.int 6, .int 0, .int 20]) (rest := []) ⟨hx, hb, hml, hown, hts⟩ (k_X8_tells l D c4 A ((aG c4 (a 5) 12 rk) :: (aG c4 (a 6) 12 ri) :: Ts) a yn ln (skp lt ln p + 1) (nI (skp lt ln p)) va fy fa (nI ys.length) (sn ||| (8 : Int32)) bh mi fb bo bk lt told 6 0 20 hln (by omega) (by decide)) (cwV 3 hts gX8_takesClause_X8_tells rfl rfl rfl (by decide +kernel) (rmv (Nat.le_of_ble_eq_true rfl) (Nat.le_of_ble_eq_true rfl) hRf hRl)) hK trivial hw rfl rfl rfl hl rfl (Nat.le_of_ble_eq_true rfl) ⟨Nat.zero_le _, Nat.zero_le _⟩ dX8_takesClause_247 (fun r_247 u_247 H locs hpq hw => ?_)
                obtain ⟨pl2_247, st2_247, va2_247, fy2_247, fa2_247, t2_247⟩ := u_247
                have hw : gW D A js.heap ((mG a yn (nI ln) (nI pl2_247) st2_247 va2_247 fy2_247 fa2_247 (nI ys.length) (sn ||| (8 : Int32)) bh mi fb bo bk) :: (aG c4 (a 4) 230 lt) :: (aG c4 (a 2) 18 t2_247) :: (aG c4 (a 5) 12 rk) :: (aG c4 (a 6) 12 ri) :: Ts) H locs := hw
                have hT_247 := hpq
                have hT_247 : tlP lt ln 0 20 (skp lt ln p + 1) pl2_247 6 told t2_247 r_247 fy fa fy2_247 fa2_247 := hT_247
                refine lv_if_eq (tgt := 282) hx hb dX8_takesClause_250 (by decide) (fun c_250 => ?_) (fun c_250 => ?_)
                · refine lv_iconst (v := 0) hx hb dX8_takesClause_282 (by decide) ?_
                  refine lv_istore_n (lv' := [(3, .int 0), (2, .int 8), (1, .int (lt (skp lt ln p))), (0, .ref (a 0))]) hx hb dX8_takesClause_283 rfl hl (by decide) rfl (fun ls hl => ?_)
                  refine lv_iload_n hx hb dX8_takesClause_284 rfl (lv_at hl 0 rfl) ?_
                  refine lv_if_eq (tgt := 301) hx hb dX8_takesClause_285 (by decide) (fun c_285 => ?_) (fun c_285 => ?_)
                  · refine lv_iconst (v := 0) hx hb dX8_takesClause_301 (by decide) ?_
                    exact kr 0 (pl2_247, st2_247, va2_247, fy2_247, fa2_247, (nI ys.length), rk, ri, (sn ||| (8 : Int32)), t2_247) _ _ _ _ hw rfl ⟨(mn_no (k := 2) (np := nbp) hT_247 c_250 rfl rfl).2, Or.inr ⟨mn_bad eC (mn_no (k := 2) hT_247 c_250 rfl rfl).1, rfl⟩⟩ dX8_takesClause_302
                  · exact absurd c_285 (by decide)
                · obtain ⟨np_247, hn_247, ht_247, hl_247, ey_247, ea_247, hp_247⟩ := mn_ok (k := 2) hT_247 c_250 rfl rfl ht
                  have hq_247 := hp_247 (by omega)
                  have eC := eC.trans (congrArg (Sum.elim _ _) hn_247)
                  refine lv_aload_n hx hb dX8_takesClause_253 rfl (lv_at hl 2 rfl) ?_
                  refine lv_bipush (v := 7) hx hb dX8_takesClause_254 (by decide) ?_
                  refine lv_iconst (v := 0) hx hb dX8_takesClause_256 (by decide) ?_
                  refine lv_bipush (v := 99) hx hb dX8_takesClause_257 (by decide) ?_
                  have hw := hw.m2
                  have hw := hw.m2
                  have hw := hw.m2
                  refine c_vi (As := [.int 7, .int 0, .int 99]) (rest := []) ⟨hx, hb, hml, hown, hts⟩ (k_X8_tells l D c4 A ((aG c4 (a 5) 12 rk) :: (aG c4 (a 6) 12 ri) :: Ts) a yn ln pl2_247 st2_247 va2_247 fy2_247 fa2_247 (nI ys.length) (sn ||| (8 : Int32)) bh mi fb bo bk lt t2_247 7 0 99 hln hq_247 (by decide)) (cwV 3 hts gX8_takesClause_X8_tells rfl rfl rfl (by decide +kernel) (rmv (Nat.le_of_ble_eq_true rfl) (Nat.le_of_ble_eq_true rfl) hRf hRl)) hK trivial hw rfl rfl rfl hl rfl (Nat.le_of_ble_eq_true rfl) ⟨Nat.zero_le _, Nat.zero_le _⟩ dX8_takesClause_259 (fun r_259 u_259 H locs hpq hw => ?_)
                  obtain ⟨pl2_259, st2_259, va2_259, fy2_259, fa2_259, t2_259⟩ := u_259
                  have hw : gW D A js.heap ((mG a yn (nI ln) (nI pl2_259) st2_259 va2_259 fy2_259 fa2_259 (nI ys.length) (sn ||| (8 : Int32)) bh mi fb bo bk) :: (aG c4 (a 4) 230 lt) :: (aG c4 (a 2) 18 t2_259) :: (aG c4 (a 5) 12 rk) :: (aG c4 (a 6) 12 ri) :: Ts) H locs := hw
                  have hT_259 := hpq
                  have hT_259 : tlP lt ln 0 99 pl2_247 pl2_259 7 t2_247 t2_259 r_259 fy2_247 fa2_247 fy2_259 fa2_259 := hT_259
                  refine lv_if_eq (tgt := 282) hx hb dX8_takesClause_262 (by decide) (fun c_262 => ?_) (fun c_262 => ?_)
                  · refine lv_iconst (v := 0) hx hb dX8_takesClause_282 (by decide) ?_
                    refine lv_istore_n (lv' := [(3, .int 0), (2, .int 8), (1, .int (lt (skp lt ln p))), (0, .ref (a 0))]) hx hb dX8_takesClause_283 rfl hl (by decide) rfl (fun ls hl => ?_)
                    refine lv_iload_n hx hb dX8_takesClause_284 rfl (lv_at hl 0 rfl) ?_
                    refine lv_if_eq (tgt := 301) hx hb dX8_takesClause_285 (by decide) (fun c_285 => ?_) (fun c_285 => ?_)
                    · refine lv_iconst (v := 0) hx hb dX8_takesClause_301 (by decide) ?_
                      exact kr 0 (pl2_259, st2_259, va2_259, fy2_259, fa2_259, (nI ys.length), rk, ri, (sn ||| (8 : Int32)), t2_259) _ _ _ _ hw rfl ⟨(hl_247).tr ((mn_no (k := 1) (np := np_247) hT_259 c_262 rfl rfl)).2, Or.inr ⟨mn_bad eC (mn_no (k := 1) hT_259 c_262 rfl rfl).1, rfl⟩⟩ dX8_takesClause_302
                    · exact absurd c_285 (by decide)
                  · obtain ⟨np_259, hn_259, ht_259, hl_259, ey_259, ea_259, hp_259⟩ := mn_ok (k := 1) hT_259 c_262 rfl rfl ht_247
                    have hq_259 := hp_259 hq_247
                    have eC := eC.trans (congrArg (Sum.elim _ _) hn_259)
                    refine lv_aload_n hx hb dX8_takesClause_265 rfl (lv_at hl 2 rfl) ?_
                    refine lv_bipush (v := 8) hx hb dX8_takesClause_266 (by decide) ?_
                    refine lv_iconst (v := 0) hx hb dX8_takesClause_268 (by decide) ?_
                    refine lv_sipush (v := 999) hx hb dX8_takesClause_269 (by decide) ?_
                    have hw := hw.m2
                    have hw := hw.m2
                    have hw := hw.m2
                    refine c_vi (As := [.int 8, .int 0, .int 999]) (rest := []) ⟨hx, hb, hml, hown, hts⟩ (k_X8_tells l D c4 A ((aG c4 (a 5) 12 rk) :: (aG c4 (a 6) 12 ri) :: Ts) a yn ln pl2_259 st2_259 va2_259 fy2_259 fa2_259 (nI ys.length) (sn ||| (8 : Int32)) bh mi fb bo bk lt t2_259 8 0 999 hln hq_259 (by decide)) (cwV 3 hts gX8_takesClause_X8_tells rfl rfl rfl (by decide +kernel) (rmv (Nat.le_of_ble_eq_true rfl) (Nat.le_of_ble_eq_true rfl) hRf hRl)) hK trivial hw rfl rfl rfl hl rfl (Nat.le_of_ble_eq_true rfl) ⟨Nat.zero_le _, Nat.zero_le _⟩ dX8_takesClause_272 (fun r_272 u_272 H locs hpq hw => ?_)
                    obtain ⟨pl2_272, st2_272, va2_272, fy2_272, fa2_272, t2_272⟩ := u_272
                    have hw : gW D A js.heap ((mG a yn (nI ln) (nI pl2_272) st2_272 va2_272 fy2_272 fa2_272 (nI ys.length) (sn ||| (8 : Int32)) bh mi fb bo bk) :: (aG c4 (a 4) 230 lt) :: (aG c4 (a 2) 18 t2_272) :: (aG c4 (a 5) 12 rk) :: (aG c4 (a 6) 12 ri) :: Ts) H locs := hw
                    have hT_272 := hpq
                    have hT_272 : tlP lt ln 0 999 pl2_259 pl2_272 8 t2_259 t2_272 r_272 fy2_259 fa2_259 fy2_272 fa2_272 := hT_272
                    refine lv_if_eq (tgt := 282) hx hb dX8_takesClause_275 (by decide) (fun c_275 => ?_) (fun c_275 => ?_)
                    · refine lv_iconst (v := 0) hx hb dX8_takesClause_282 (by decide) ?_
                      refine lv_istore_n (lv' := [(3, .int 0), (2, .int 8), (1, .int (lt (skp lt ln p))), (0, .ref (a 0))]) hx hb dX8_takesClause_283 rfl hl (by decide) rfl (fun ls hl => ?_)
                      refine lv_iload_n hx hb dX8_takesClause_284 rfl (lv_at hl 0 rfl) ?_
                      refine lv_if_eq (tgt := 301) hx hb dX8_takesClause_285 (by decide) (fun c_285 => ?_) (fun c_285 => ?_)
                      · refine lv_iconst (v := 0) hx hb dX8_takesClause_301 (by decide) ?_
                        exact kr 0 (pl2_272, st2_272, va2_272, fy2_272, fa2_272, (nI ys.length), rk, ri, (sn ||| (8 : Int32)), t2_272) _ _ _ _ hw rfl ⟨((hl_247).tr hl_259).tr ((mn_no (k := 0) (np := np_259) hT_272 c_275 rfl rfl)).2, Or.inr ⟨mn_bad eC (mn_no (k := 0) hT_272 c_275 rfl rfl).1, rfl⟩⟩ dX8_takesClause_302
                      · exact absurd c_285 (by decide)
                    · obtain ⟨np_272, hn_272, ht_272, hl_272, ey_272, ea_272, hp_272⟩ := mn_ok (k := 0) hT_272 c_275 rfl rfl ht_259
                      have hq_272 := hp_272 hq_259
                      have eC := eC.trans (congrArg (Sum.elim _ _) hn_272)
                      have hp291 := hq_272
                      refine lv_iconst (v := 1) hx hb dX8_takesClause_278 (by decide) ?_
                      refine lv_goto (tgt := 283) hx hb dX8_takesClause_279 (by decide) ?_
                      refine lv_istore_n (lv' := [(3, .int 1), (2, .int 8), (1, .int (lt (skp lt ln p))), (0, .ref (a 0))]) hx hb dX8_takesClause_283 rfl hl (by decide) rfl (fun ls hl => ?_)
                      refine lv_iload_n hx hb dX8_takesClause_284 rfl (lv_at hl 0 rfl) ?_
                      refine lv_if_eq (tgt := 301) hx hb dX8_takesClause_285 (by decide) (fun c_285 => ?_) (fun c_285 => ?_)
                      · exact absurd c_285 (by decide)
                      · refine lv_aload_n hx hb dX8_takesClause_288 rfl (lv_at hl 3 rfl) ?_
                        refine lv_bipush (v := 59) hx hb dX8_takesClause_289 (by decide) ?_
                        have hw := hw.m1
                        have hw := hw.m1
                        refine c_vi (As := [.int 59]) (rest := []) ⟨hx, hb, hml, hown, hts⟩ (k_X8_takes l D c4 A ((aG c4 (a 2) 18 t2_272) :: (aG c4 (a 5) 12 rk) :: (aG c4 (a 6) 12 ri) :: Ts) a yn ln pl2_272 st2_272 va2_272 fy2_272 fa2_272 (nI ys.length) (sn ||| (8 : Int32)) bh mi fb bo bk lt hln (by first | exact hp291 | exact hp291 c_285)) (cwV 1 hts gX8_takesClause_X8_takes rfl rfl rfl (by decide +kernel) (rmv (Nat.le_of_ble_eq_true rfl) (Nat.le_of_ble_eq_true rfl) hRf hRl)) hK trivial hw rfl rfl rfl hl rfl (Nat.le_of_ble_eq_true rfl) ⟨Nat.zero_le _, Nat.zero_le _⟩ dX8_takesClause_291 (fun r_291 u_291 H locs hpq hw => ?_)
                        obtain ⟨pl2_291, st2_291, fy2_291, fa2_291⟩ := u_291
                        have hw : gW D A js.heap ((mG a yn (nI ln) (nI pl2_291) st2_291 va2_272 fy2_291 fa2_291 (nI ys.length) (sn ||| (8 : Int32)) bh mi fb bo bk) :: (aG c4 (a 4) 230 lt) :: (aG c4 (a 2) 18 t2_272) :: (aG c4 (a 5) 12 rk) :: (aG c4 (a 6) 12 ri) :: Ts) H locs := hw
                        have hE_291 := hpq
                        have hE_291 : reP lt ln pl2_272 pl2_291 r_291 fy2_272 fa2_272 fy2_291 fa2_291 := hE_291
                        refine lv_if_eq (tgt := 301) hx hb dX8_takesClause_294 (by decide) (fun c_294 => ?_) (fun c_294 => ?_)
                        · refine lv_iconst (v := 0) hx hb dX8_takesClause_301 (by decide) ?_
                          exact kr 0 (pl2_291, st2_291, va2_272, fy2_291, fa2_291, (nI ys.length), rk, ri, (sn ||| (8 : Int32)), t2_272) _ _ _ _ hw rfl (by rw [c_294] at hE_291; exact mn_fin eC (((hl_247).tr hl_259).tr hl_272) (sn_or hsn).2.2.2.1 (fun z => hye ((sn_or hsn).2.2.2.2.mp z)) rfl hrow ht_272 (ey_272.trans (ey_259.trans (ey_247))) (ea_272.trans (ea_259.trans (ea_247))) hE_291) dX8_takesClause_302
                        · refine lv_iconst (v := 1) hx hb dX8_takesClause_297 (by decide) ?_
                          refine lv_goto (tgt := 302) hx hb dX8_takesClause_298 (by decide) ?_
                          exact kr 1 (pl2_291, st2_291, va2_272, fy2_291, fa2_291, (nI ys.length), rk, ri, (sn ||| (8 : Int32)), t2_272) _ _ _ _ hw rfl (by rw [show r_291 = 1 from hE_291.z.resolve_right c_294] at hE_291; exact mn_fin eC (((hl_247).tr hl_259).tr hl_272) (sn_or hsn).2.2.2.1 (fun z => hye ((sn_or hsn).2.2.2.2.mp z)) rfl hrow ht_272 (ey_272.trans (ey_259.trans (ey_247))) (ea_272.trans (ea_259.trans (ea_247))) hE_291) dX8_takesClause_302
              · refine lv_aload_n hx hb dX8_takesClause_83 rfl (lv_at hl 2 rfl) ?_
                refine lv_iconst (v := 3) hx hb dX8_takesClause_84 (by decide) ?_
                refine lv_aload_n hx hb dX8_takesClause_85 rfl (lv_at hl 2 rfl) ?_
                refine r_get (T := TX8) (v := .int (nI (skp lt ln p))) hx hb hts hi8 hown hK hw 0 rfl rfl 7 (by decide) f_0 rfl dX8_takesClause_86 ?_
                refine c_vi (As := [.int 3, .int (nI (skp lt ln p))]) (rest := []) ⟨hx, hb, hml, hown, hts⟩ (k_X8_fails l D c4 A ((aG c4 (a 4) 230 lt) :: (aG c4 (a 2) 18 told) :: (aG c4 (a 5) 12 rk) :: (aG c4 (a 6) 12 ri) :: Ts) a yn (nI ln) (nI (skp lt ln p)) (nI (skp lt ln p)) va fy fa (nI ys.length) sn bh mi fb bo bk 3 (nI (skp lt ln p))) (cwV 2 hts gX8_takesClause_X8_fails rfl rfl rfl (by decide +kernel) (rmv (Nat.le_of_ble_eq_true rfl) (Nat.le_of_ble_eq_true rfl) hRf hRl)) hK trivial hw rfl rfl rfl hl rfl (Nat.le_of_ble_eq_true rfl) ⟨Nat.zero_le _, Nat.zero_le _⟩ dX8_takesClause_89 (fun r_89 u_89 H locs hpq hw => ?_)
                have er_89 := hpq
                subst er_89
                exact kr 0 (skp lt ln p, (nI (skp lt ln p)), va, 3, (nI (skp lt ln p)), (nI ys.length), rk, ri, sn, told) _ _ _ _ hw rfl ⟨loSame.rf _, Or.inr ⟨mc_agn (by rw [clO_v.2.2.2.1 c_38]; decide) (fun z => absurd z c_56) (by rw [clO_v.2.2.2.1 c_38]; exact (sn_bit hsn).2.2.2.mpr c_80), rfl⟩⟩ dX8_takesClause_92
            · refine lv_iload_n hx hb dX8_takesClause_59 rfl (lv_at hl 0 rfl) ?_
              refine lv_iconst (v := 1) hx hb dX8_takesClause_60 (by decide) ?_
              refine lv_icmp_le (tgt := 74) hx hb dX8_takesClause_61 (by decide) (fun c_61 => ?_) (fun c_61 => ?_)
              · exact absurd c_61 (by decide)
              · refine lv_aload_n hx hb dX8_takesClause_64 rfl (lv_at hl 2 rfl) ?_
                refine lv_iconst (v := 1) hx hb dX8_takesClause_65 (by decide) ?_
                refine lv_aload_n hx hb dX8_takesClause_66 rfl (lv_at hl 2 rfl) ?_
                refine r_get (T := TX8) (v := .int (nI (skp lt ln p))) hx hb hts hi8 hown hK hw 0 rfl rfl 7 (by decide) f_0 rfl dX8_takesClause_67 ?_
                refine c_vi (As := [.int 1, .int (nI (skp lt ln p))]) (rest := []) ⟨hx, hb, hml, hown, hts⟩ (k_X8_fails l D c4 A ((aG c4 (a 4) 230 lt) :: (aG c4 (a 2) 18 told) :: (aG c4 (a 5) 12 rk) :: (aG c4 (a 6) 12 ri) :: Ts) a yn (nI ln) (nI (skp lt ln p)) (nI (skp lt ln p)) va fy fa (nI ys.length) sn bh mi fb bo bk 1 (nI (skp lt ln p))) (cwV 2 hts gX8_takesClause_X8_fails rfl rfl rfl (by decide +kernel) (rmv (Nat.le_of_ble_eq_true rfl) (Nat.le_of_ble_eq_true rfl) hRf hRl)) hK trivial hw rfl rfl rfl hl rfl (Nat.le_of_ble_eq_true rfl) ⟨Nat.zero_le _, Nat.zero_le _⟩ dX8_takesClause_70 (fun r_70 u_70 H locs hpq hw => ?_)
                have er_70 := hpq
                subst er_70
                exact kr 0 (skp lt ln p, (nI (skp lt ln p)), va, 1, (nI (skp lt ln p)), (nI ys.length), rk, ri, sn, told) _ _ _ _ hw rfl ⟨loSame.rf _, Or.inr ⟨mc_fst c_56 (by rw [clO_v.2.2.2.1 c_38]; decide), rfl⟩⟩ dX8_takesClause_73
      · refine lv_iconst (v := 4) hx hb dX8_takesClause_31 (by decide) ?_
        refine lv_goto (tgt := 47) hx hb dX8_takesClause_32 (by decide) ?_
        refine lv_istore_n (lv' := [(2, .int 4), (1, .int (lt (skp lt ln p))), (0, .ref (a 0))]) hx hb dX8_takesClause_47 rfl hl (by decide) rfl (fun ls hl => ?_)
        refine lv_iload_n hx hb dX8_takesClause_48 rfl (lv_at hl 0 rfl) ?_
        refine lv_if_eq (tgt := 64) hx hb dX8_takesClause_49 (by decide) (fun c_49 => ?_) (fun c_49 => ?_)
        · exact absurd c_49 (by decide)
        · refine lv_aload_n hx hb dX8_takesClause_52 rfl (lv_at hl 2 rfl) ?_
          refine r_get (T := TX8) (v := .int sn) hx hb hts hi8 hown hK hw 0 rfl rfl 12 (by decide) f_1 rfl dX8_takesClause_53 ?_
          refine lv_if_ne (tgt := 74) hx hb dX8_takesClause_56 (by decide) (fun c_56 => ?_) (fun c_56 => ?_)
          · refine lv_aload_n hx hb dX8_takesClause_74 rfl (lv_at hl 2 rfl) ?_
            refine r_get (T := TX8) (v := .int sn) hx hb hts hi8 hown hK hw 0 rfl rfl 12 (by decide) f_1 rfl dX8_takesClause_75 ?_
            refine lv_iload_n hx hb dX8_takesClause_78 rfl (lv_at hl 0 rfl) ?_
            refine lv_iand hx hb dX8_takesClause_79 ?_
            refine lv_if_eq (tgt := 93) hx hb dX8_takesClause_80 (by decide) (fun c_80 => ?_) (fun c_80 => ?_)
            · refine lv_aload_n hx hb dX8_takesClause_93 rfl (lv_at hl 2 rfl) ?_
              refine lv_dup hx hb dX8_takesClause_94 rfl ?_
              refine r_get (T := TX8) (v := .int sn) hx hb hts hi8 hown hK hw 0 rfl rfl 12 (by decide) f_1 rfl dX8_takesClause_95 ?_
              refine lv_iload_n hx hb dX8_takesClause_98 rfl (lv_at hl 0 rfl) ?_
              refine lv_ior hx hb dX8_takesClause_99 ?_
              refine r_put (T := TX8) (G' := ((mG a yn (nI ln) (nI (skp lt ln p)) (nI (skp lt ln p)) va fy fa (nI ys.length) (sn ||| (4 : Int32)) bh mi fb bo bk) :: (aG c4 (a 4) 230 lt) :: (aG c4 (a 2) 18 told) :: (aG c4 (a 5) 12 rk) :: (aG c4 (a 6) 12 ri) :: Ts)) hx hb hts hi8 tyX8 tyX8_ok nmX8 hown hK hw 0 rfl rfl 12 (by decide) f_1 rfl rfl (Nat.le_of_ble_eq_true rfl) rfl dX8_takesClause_100 (fun H locs hw => ?_)
              refine lv_aload_n hx hb dX8_takesClause_103 rfl (lv_at hl 2 rfl) ?_
              refine lv_dup hx hb dX8_takesClause_104 rfl ?_
              refine r_get (T := TX8) (v := .int (nI (skp lt ln p))) hx hb hts hi8 hown hK hw 0 rfl rfl 6 (by decide) f_2 rfl dX8_takesClause_105 ?_
              refine lv_iconst (v := 1) hx hb dX8_takesClause_108 (by decide) ?_
              refine r_addN hx hb (skp lt ln p) 1 dX8_takesClause_109 ?_
              refine r_put (T := TX8) (G' := ((mG a yn (nI ln) (nI (skp lt ln p + 1)) (nI (skp lt ln p)) va fy fa (nI ys.length) (sn ||| (4 : Int32)) bh mi fb bo bk) :: (aG c4 (a 4) 230 lt) :: (aG c4 (a 2) 18 told) :: (aG c4 (a 5) 12 rk) :: (aG c4 (a 6) 12 ri) :: Ts)) hx hb hts hi8 tyX8 tyX8_ok nmX8 hown hK hw 0 rfl rfl 6 (by decide) f_2 rfl rfl (Nat.le_of_ble_eq_true rfl) rfl dX8_takesClause_110 (fun H locs hw => ?_)
              refine lv_iload_n hx hb dX8_takesClause_113 rfl (lv_at hl 1 rfl) ?_
              refine lv_lookup (tgt := 209) (off := 95) hx hb dX8_takesClause_114 (by decide) (by rw [c_28]; decide) (by decide) ?_
              have eC : rdCl lt ln (skp lt ln p) sn ys nbp = Sum.elim (fun e => .inl (e.1, sn ||| 4, ys, e.2)) (fun f => .inr f) (rdNs lt ln 2 4 (skp lt ln p + 1) nbp) := mc_ne (k := 2) (by decide) (by decide) (clO_v.2.2.1 c_28) c_56 (fun z => absurd c_80 ((sn_bit hsn).2.2.1.mp z)) rfl
              refine lv_aload_n hx hb dX8_takesClause_209 rfl (lv_at hl 2 rfl) ?_
              refine lv_iconst (v := 4) hx hb dX8_takesClause_210 (by decide) ?_
              refine lv_iconst (v := 1) hx hb dX8_takesClause_211 (by decide) ?_
              refine lv_sipush (v := 999) hx hb dX8_takesClause_212 (by decide) ?_
              have hw := hw.m2
              have hw := hw.m2
              have hw := hw.m2
              refine c_vi (As := [.int 4, .int 1, .int 999]) (rest := []) ⟨hx, hb, hml, hown, hts⟩ (k_X8_tells l D c4 A ((aG c4 (a 5) 12 rk) :: (aG c4 (a 6) 12 ri) :: Ts) a yn ln (skp lt ln p + 1) (nI (skp lt ln p)) va fy fa (nI ys.length) (sn ||| (4 : Int32)) bh mi fb bo bk lt told 4 1 999 hln (by omega) (by decide)) (cwV 3 hts gX8_takesClause_X8_tells rfl rfl rfl (by decide +kernel) (rmv (Nat.le_of_ble_eq_true rfl) (Nat.le_of_ble_eq_true rfl) hRf hRl)) hK trivial hw rfl rfl rfl hl rfl (Nat.le_of_ble_eq_true rfl) ⟨Nat.zero_le _, Nat.zero_le _⟩ dX8_takesClause_215 (fun r_215 u_215 H locs hpq hw => ?_)
              obtain ⟨pl2_215, st2_215, va2_215, fy2_215, fa2_215, t2_215⟩ := u_215
              have hw : gW D A js.heap ((mG a yn (nI ln) (nI pl2_215) st2_215 va2_215 fy2_215 fa2_215 (nI ys.length) (sn ||| (4 : Int32)) bh mi fb bo bk) :: (aG c4 (a 4) 230 lt) :: (aG c4 (a 2) 18 t2_215) :: (aG c4 (a 5) 12 rk) :: (aG c4 (a 6) 12 ri) :: Ts) H locs := hw
              have hT_215 := hpq
              have hT_215 : tlP lt ln 1 999 (skp lt ln p + 1) pl2_215 4 told t2_215 r_215 fy fa fy2_215 fa2_215 := hT_215
              refine lv_if_eq (tgt := 236) hx hb dX8_takesClause_218 (by decide) (fun c_218 => ?_) (fun c_218 => ?_)
              · refine lv_iconst (v := 0) hx hb dX8_takesClause_236 (by decide) ?_
                refine lv_istore_n (lv' := [(3, .int 0), (2, .int 4), (1, .int (lt (skp lt ln p))), (0, .ref (a 0))]) hx hb dX8_takesClause_237 rfl hl (by decide) rfl (fun ls hl => ?_)
                refine lv_goto (tgt := 284) hx hb dX8_takesClause_238 (by decide) ?_
                refine lv_iload_n hx hb dX8_takesClause_284 rfl (lv_at hl 0 rfl) ?_
                refine lv_if_eq (tgt := 301) hx hb dX8_takesClause_285 (by decide) (fun c_285 => ?_) (fun c_285 => ?_)
                · refine lv_iconst (v := 0) hx hb dX8_takesClause_301 (by decide) ?_
                  exact kr 0 (pl2_215, st2_215, va2_215, fy2_215, fa2_215, (nI ys.length), rk, ri, (sn ||| (4 : Int32)), t2_215) _ _ _ _ hw rfl ⟨(mn_no (k := 1) (np := nbp) hT_215 c_218 rfl rfl).2, Or.inr ⟨mn_bad eC (mn_no (k := 1) hT_215 c_218 rfl rfl).1, rfl⟩⟩ dX8_takesClause_302
                · exact absurd c_285 (by decide)
              · obtain ⟨np_215, hn_215, ht_215, hl_215, ey_215, ea_215, hp_215⟩ := mn_ok (k := 1) hT_215 c_218 rfl rfl ht
                have hq_215 := hp_215 (by omega)
                have eC := eC.trans (congrArg (Sum.elim _ _) hn_215)
                refine lv_aload_n hx hb dX8_takesClause_221 rfl (lv_at hl 2 rfl) ?_
                refine lv_iconst (v := 5) hx hb dX8_takesClause_222 (by decide) ?_
                refine lv_iconst (v := 0) hx hb dX8_takesClause_223 (by decide) ?_
                refine lv_bipush (v := 99) hx hb dX8_takesClause_224 (by decide) ?_
                have hw := hw.m2
                have hw := hw.m2
                have hw := hw.m2
                refine c_vi (As := [.int 5, .int 0, .int 99]) (rest := []) ⟨hx, hb, hml, hown, hts⟩ (k_X8_tells l D c4 A ((aG c4 (a 5) 12 rk) :: (aG c4 (a 6) 12 ri) :: Ts) a yn ln pl2_215 st2_215 va2_215 fy2_215 fa2_215 (nI ys.length) (sn ||| (4 : Int32)) bh mi fb bo bk lt t2_215 5 0 99 hln hq_215 (by decide)) (cwV 3 hts gX8_takesClause_X8_tells rfl rfl rfl (by decide +kernel) (rmv (Nat.le_of_ble_eq_true rfl) (Nat.le_of_ble_eq_true rfl) hRf hRl)) hK trivial hw rfl rfl rfl hl rfl (Nat.le_of_ble_eq_true rfl) ⟨Nat.zero_le _, Nat.zero_le _⟩ dX8_takesClause_226 (fun r_226 u_226 H locs hpq hw => ?_)
                obtain ⟨pl2_226, st2_226, va2_226, fy2_226, fa2_226, t2_226⟩ := u_226
                have hw : gW D A js.heap ((mG a yn (nI ln) (nI pl2_226) st2_226 va2_226 fy2_226 fa2_226 (nI ys.length) (sn ||| (4 : Int32)) bh mi fb bo bk) :: (aG c4 (a 4) 230 lt) :: (aG c4 (a 2) 18 t2_226) :: (aG c4 (a 5) 12 rk) :: (aG c4 (a 6) 12 ri) :: Ts) H locs := hw
                have hT_226 := hpq
                have hT_226 : tlP lt ln 0 99 pl2_215 pl2_226 5 t2_215 t2_226 r_226 fy2_215 fa2_215 fy2_226 fa2_226 := hT_226
                refine lv_if_eq (tgt := 236) hx hb dX8_takesClause_229 (by decide) (fun c_229 => ?_) (fun c_229 => ?_)
                · refine lv_iconst (v := 0) hx hb dX8_takesClause_236 (by decide) ?_
                  refine lv_istore_n (lv' := [(3, .int 0), (2, .int 4), (1, .int (lt (skp lt ln p))), (0, .ref (a 0))]) hx hb dX8_takesClause_237 rfl hl (by decide) rfl (fun ls hl => ?_)
                  refine lv_goto (tgt := 284) hx hb dX8_takesClause_238 (by decide) ?_
                  refine lv_iload_n hx hb dX8_takesClause_284 rfl (lv_at hl 0 rfl) ?_
                  refine lv_if_eq (tgt := 301) hx hb dX8_takesClause_285 (by decide) (fun c_285 => ?_) (fun c_285 => ?_)
                  · refine lv_iconst (v := 0) hx hb dX8_takesClause_301 (by decide) ?_
                    exact kr 0 (pl2_226, st2_226, va2_226, fy2_226, fa2_226, (nI ys.length), rk, ri, (sn ||| (4 : Int32)), t2_226) _ _ _ _ hw rfl ⟨(hl_215).tr ((mn_no (k := 0) (np := np_215) hT_226 c_229 rfl rfl)).2, Or.inr ⟨mn_bad eC (mn_no (k := 0) hT_226 c_229 rfl rfl).1, rfl⟩⟩ dX8_takesClause_302
                  · exact absurd c_285 (by decide)
                · obtain ⟨np_226, hn_226, ht_226, hl_226, ey_226, ea_226, hp_226⟩ := mn_ok (k := 0) hT_226 c_229 rfl rfl ht_215
                  have hq_226 := hp_226 hq_215
                  have eC := eC.trans (congrArg (Sum.elim _ _) hn_226)
                  have hp291 := hq_226
                  refine lv_iconst (v := 1) hx hb dX8_takesClause_232 (by decide) ?_
                  refine lv_goto (tgt := 237) hx hb dX8_takesClause_233 (by decide) ?_
                  refine lv_istore_n (lv' := [(3, .int 1), (2, .int 4), (1, .int (lt (skp lt ln p))), (0, .ref (a 0))]) hx hb dX8_takesClause_237 rfl hl (by decide) rfl (fun ls hl => ?_)
                  refine lv_goto (tgt := 284) hx hb dX8_takesClause_238 (by decide) ?_
                  refine lv_iload_n hx hb dX8_takesClause_284 rfl (lv_at hl 0 rfl) ?_
                  refine lv_if_eq (tgt := 301) hx hb dX8_takesClause_285 (by decide) (fun c_285 => ?_) (fun c_285 => ?_)
                  · exact absurd c_285 (by decide)
                  · refine lv_aload_n hx hb dX8_takesClause_288 rfl (lv_at hl 3 rfl) ?_
                    refine lv_bipush (v := 59) hx hb dX8_takesClause_289 (by decide) ?_
                    have hw := hw.m1
                    have hw := hw.m1
                    refine c_vi (As := [.int 59]) (rest := []) ⟨hx, hb, hml, hown, hts⟩ (k_X8_takes l D c4 A ((aG c4 (a 2) 18 t2_226) :: (aG c4 (a 5) 12 rk) :: (aG c4 (a 6) 12 ri) :: Ts) a yn ln pl2_226 st2_226 va2_226 fy2_226 fa2_226 (nI ys.length) (sn ||| (4 : Int32)) bh mi fb bo bk lt hln (by first | exact hp291 | exact hp291 c_285)) (cwV 1 hts gX8_takesClause_X8_takes rfl rfl rfl (by decide +kernel) (rmv (Nat.le_of_ble_eq_true rfl) (Nat.le_of_ble_eq_true rfl) hRf hRl)) hK trivial hw rfl rfl rfl hl rfl (Nat.le_of_ble_eq_true rfl) ⟨Nat.zero_le _, Nat.zero_le _⟩ dX8_takesClause_291 (fun r_291 u_291 H locs hpq hw => ?_)
                    obtain ⟨pl2_291, st2_291, fy2_291, fa2_291⟩ := u_291
                    have hw : gW D A js.heap ((mG a yn (nI ln) (nI pl2_291) st2_291 va2_226 fy2_291 fa2_291 (nI ys.length) (sn ||| (4 : Int32)) bh mi fb bo bk) :: (aG c4 (a 4) 230 lt) :: (aG c4 (a 2) 18 t2_226) :: (aG c4 (a 5) 12 rk) :: (aG c4 (a 6) 12 ri) :: Ts) H locs := hw
                    have hE_291 := hpq
                    have hE_291 : reP lt ln pl2_226 pl2_291 r_291 fy2_226 fa2_226 fy2_291 fa2_291 := hE_291
                    refine lv_if_eq (tgt := 301) hx hb dX8_takesClause_294 (by decide) (fun c_294 => ?_) (fun c_294 => ?_)
                    · refine lv_iconst (v := 0) hx hb dX8_takesClause_301 (by decide) ?_
                      exact kr 0 (pl2_291, st2_291, va2_226, fy2_291, fa2_291, (nI ys.length), rk, ri, (sn ||| (4 : Int32)), t2_226) _ _ _ _ hw rfl (by rw [c_294] at hE_291; exact mn_fin eC ((hl_215).tr hl_226) (sn_or hsn).2.2.1.1 (fun z => hye ((sn_or hsn).2.2.1.2.mp z)) rfl hrow ht_226 (ey_226.trans (ey_215)) (ea_226.trans (ea_215)) hE_291) dX8_takesClause_302
                    · refine lv_iconst (v := 1) hx hb dX8_takesClause_297 (by decide) ?_
                      refine lv_goto (tgt := 302) hx hb dX8_takesClause_298 (by decide) ?_
                      exact kr 1 (pl2_291, st2_291, va2_226, fy2_291, fa2_291, (nI ys.length), rk, ri, (sn ||| (4 : Int32)), t2_226) _ _ _ _ hw rfl (by rw [show r_291 = 1 from hE_291.z.resolve_right c_294] at hE_291; exact mn_fin eC ((hl_215).tr hl_226) (sn_or hsn).2.2.1.1 (fun z => hye ((sn_or hsn).2.2.1.2.mp z)) rfl hrow ht_226 (ey_226.trans (ey_215)) (ea_226.trans (ea_215)) hE_291) dX8_takesClause_302
            · refine lv_aload_n hx hb dX8_takesClause_83 rfl (lv_at hl 2 rfl) ?_
              refine lv_iconst (v := 3) hx hb dX8_takesClause_84 (by decide) ?_
              refine lv_aload_n hx hb dX8_takesClause_85 rfl (lv_at hl 2 rfl) ?_
              refine r_get (T := TX8) (v := .int (nI (skp lt ln p))) hx hb hts hi8 hown hK hw 0 rfl rfl 7 (by decide) f_0 rfl dX8_takesClause_86 ?_
              refine c_vi (As := [.int 3, .int (nI (skp lt ln p))]) (rest := []) ⟨hx, hb, hml, hown, hts⟩ (k_X8_fails l D c4 A ((aG c4 (a 4) 230 lt) :: (aG c4 (a 2) 18 told) :: (aG c4 (a 5) 12 rk) :: (aG c4 (a 6) 12 ri) :: Ts) a yn (nI ln) (nI (skp lt ln p)) (nI (skp lt ln p)) va fy fa (nI ys.length) sn bh mi fb bo bk 3 (nI (skp lt ln p))) (cwV 2 hts gX8_takesClause_X8_fails rfl rfl rfl (by decide +kernel) (rmv (Nat.le_of_ble_eq_true rfl) (Nat.le_of_ble_eq_true rfl) hRf hRl)) hK trivial hw rfl rfl rfl hl rfl (Nat.le_of_ble_eq_true rfl) ⟨Nat.zero_le _, Nat.zero_le _⟩ dX8_takesClause_89 (fun r_89 u_89 H locs hpq hw => ?_)
              have er_89 := hpq
              subst er_89
              exact kr 0 (skp lt ln p, (nI (skp lt ln p)), va, 3, (nI (skp lt ln p)), (nI ys.length), rk, ri, sn, told) _ _ _ _ hw rfl ⟨loSame.rf _, Or.inr ⟨mc_agn (by rw [clO_v.2.2.1 c_28]; decide) (fun z => absurd z c_56) (by rw [clO_v.2.2.1 c_28]; exact (sn_bit hsn).2.2.1.mpr c_80), rfl⟩⟩ dX8_takesClause_92
          · refine lv_iload_n hx hb dX8_takesClause_59 rfl (lv_at hl 0 rfl) ?_
            refine lv_iconst (v := 1) hx hb dX8_takesClause_60 (by decide) ?_
            refine lv_icmp_le (tgt := 74) hx hb dX8_takesClause_61 (by decide) (fun c_61 => ?_) (fun c_61 => ?_)
            · exact absurd c_61 (by decide)
            · refine lv_aload_n hx hb dX8_takesClause_64 rfl (lv_at hl 2 rfl) ?_
              refine lv_iconst (v := 1) hx hb dX8_takesClause_65 (by decide) ?_
              refine lv_aload_n hx hb dX8_takesClause_66 rfl (lv_at hl 2 rfl) ?_
              refine r_get (T := TX8) (v := .int (nI (skp lt ln p))) hx hb hts hi8 hown hK hw 0 rfl rfl 7 (by decide) f_0 rfl dX8_takesClause_67 ?_
              refine c_vi (As := [.int 1, .int (nI (skp lt ln p))]) (rest := []) ⟨hx, hb, hml, hown, hts⟩ (k_X8_fails l D c4 A ((aG c4 (a 4) 230 lt) :: (aG c4 (a 2) 18 told) :: (aG c4 (a 5) 12 rk) :: (aG c4 (a 6) 12 ri) :: Ts) a yn (nI ln) (nI (skp lt ln p)) (nI (skp lt ln p)) va fy fa (nI ys.length) sn bh mi fb bo bk 1 (nI (skp lt ln p))) (cwV 2 hts gX8_takesClause_X8_fails rfl rfl rfl (by decide +kernel) (rmv (Nat.le_of_ble_eq_true rfl) (Nat.le_of_ble_eq_true rfl) hRf hRl)) hK trivial hw rfl rfl rfl hl rfl (Nat.le_of_ble_eq_true rfl) ⟨Nat.zero_le _, Nat.zero_le _⟩ dX8_takesClause_70 (fun r_70 u_70 H locs hpq hw => ?_)
              have er_70 := hpq
              subst er_70
              exact kr 0 (skp lt ln p, (nI (skp lt ln p)), va, 1, (nI (skp lt ln p)), (nI ys.length), rk, ri, sn, told) _ _ _ _ hw rfl ⟨loSame.rf _, Or.inr ⟨mc_fst c_56 (by rw [clO_v.2.2.1 c_28]; decide), rfl⟩⟩ dX8_takesClause_73
    · refine lv_iconst (v := 2) hx hb dX8_takesClause_21 (by decide) ?_
      refine lv_goto (tgt := 47) hx hb dX8_takesClause_22 (by decide) ?_
      refine lv_istore_n (lv' := [(2, .int 2), (1, .int (lt (skp lt ln p))), (0, .ref (a 0))]) hx hb dX8_takesClause_47 rfl hl (by decide) rfl (fun ls hl => ?_)
      refine lv_iload_n hx hb dX8_takesClause_48 rfl (lv_at hl 0 rfl) ?_
      refine lv_if_eq (tgt := 64) hx hb dX8_takesClause_49 (by decide) (fun c_49 => ?_) (fun c_49 => ?_)
      · exact absurd c_49 (by decide)
      · refine lv_aload_n hx hb dX8_takesClause_52 rfl (lv_at hl 2 rfl) ?_
        refine r_get (T := TX8) (v := .int sn) hx hb hts hi8 hown hK hw 0 rfl rfl 12 (by decide) f_1 rfl dX8_takesClause_53 ?_
        refine lv_if_ne (tgt := 74) hx hb dX8_takesClause_56 (by decide) (fun c_56 => ?_) (fun c_56 => ?_)
        · refine lv_aload_n hx hb dX8_takesClause_74 rfl (lv_at hl 2 rfl) ?_
          refine r_get (T := TX8) (v := .int sn) hx hb hts hi8 hown hK hw 0 rfl rfl 12 (by decide) f_1 rfl dX8_takesClause_75 ?_
          refine lv_iload_n hx hb dX8_takesClause_78 rfl (lv_at hl 0 rfl) ?_
          refine lv_iand hx hb dX8_takesClause_79 ?_
          refine lv_if_eq (tgt := 93) hx hb dX8_takesClause_80 (by decide) (fun c_80 => ?_) (fun c_80 => ?_)
          · refine lv_aload_n hx hb dX8_takesClause_93 rfl (lv_at hl 2 rfl) ?_
            refine lv_dup hx hb dX8_takesClause_94 rfl ?_
            refine r_get (T := TX8) (v := .int sn) hx hb hts hi8 hown hK hw 0 rfl rfl 12 (by decide) f_1 rfl dX8_takesClause_95 ?_
            refine lv_iload_n hx hb dX8_takesClause_98 rfl (lv_at hl 0 rfl) ?_
            refine lv_ior hx hb dX8_takesClause_99 ?_
            refine r_put (T := TX8) (G' := ((mG a yn (nI ln) (nI (skp lt ln p)) (nI (skp lt ln p)) va fy fa (nI ys.length) (sn ||| (2 : Int32)) bh mi fb bo bk) :: (aG c4 (a 4) 230 lt) :: (aG c4 (a 2) 18 told) :: (aG c4 (a 5) 12 rk) :: (aG c4 (a 6) 12 ri) :: Ts)) hx hb hts hi8 tyX8 tyX8_ok nmX8 hown hK hw 0 rfl rfl 12 (by decide) f_1 rfl rfl (Nat.le_of_ble_eq_true rfl) rfl dX8_takesClause_100 (fun H locs hw => ?_)
            refine lv_aload_n hx hb dX8_takesClause_103 rfl (lv_at hl 2 rfl) ?_
            refine lv_dup hx hb dX8_takesClause_104 rfl ?_
            refine r_get (T := TX8) (v := .int (nI (skp lt ln p))) hx hb hts hi8 hown hK hw 0 rfl rfl 6 (by decide) f_2 rfl dX8_takesClause_105 ?_
            refine lv_iconst (v := 1) hx hb dX8_takesClause_108 (by decide) ?_
            refine r_addN hx hb (skp lt ln p) 1 dX8_takesClause_109 ?_
            refine r_put (T := TX8) (G' := ((mG a yn (nI ln) (nI (skp lt ln p + 1)) (nI (skp lt ln p)) va fy fa (nI ys.length) (sn ||| (2 : Int32)) bh mi fb bo bk) :: (aG c4 (a 4) 230 lt) :: (aG c4 (a 2) 18 told) :: (aG c4 (a 5) 12 rk) :: (aG c4 (a 6) 12 ri) :: Ts)) hx hb hts hi8 tyX8 tyX8_ok nmX8 hown hK hw 0 rfl rfl 6 (by decide) f_2 rfl rfl (Nat.le_of_ble_eq_true rfl) rfl dX8_takesClause_110 (fun H locs hw => ?_)
            refine lv_iload_n hx hb dX8_takesClause_113 rfl (lv_at hl 1 rfl) ?_
            refine lv_lookup (tgt := 156) (off := 42) hx hb dX8_takesClause_114 (by decide) (by rw [c_18]; decide) (by decide) ?_
            have eC : rdCl lt ln (skp lt ln p) sn ys nbp = Sum.elim (fun e => .inl (e.1, sn ||| 2, ys, e.2)) (fun f => .inr f) (rdNs lt ln 4 0 (skp lt ln p + 1) nbp) := mc_ne (k := 1) (by decide) (by decide) (clO_v.2.1 c_18) c_56 (fun z => absurd c_80 ((sn_bit hsn).2.1.mp z)) rfl
            refine lv_aload_n hx hb dX8_takesClause_156 rfl (lv_at hl 2 rfl) ?_
            refine lv_iconst (v := 0) hx hb dX8_takesClause_157 (by decide) ?_
            refine lv_iconst (v := 1) hx hb dX8_takesClause_158 (by decide) ?_
            refine lv_bipush (v := 12) hx hb dX8_takesClause_159 (by decide) ?_
            have hw := hw.m2
            have hw := hw.m2
            have hw := hw.m2
            refine c_vi (As := [.int 0, .int 1, .int 12]) (rest := []) ⟨hx, hb, hml, hown, hts⟩ (k_X8_tells l D c4 A ((aG c4 (a 5) 12 rk) :: (aG c4 (a 6) 12 ri) :: Ts) a yn ln (skp lt ln p + 1) (nI (skp lt ln p)) va fy fa (nI ys.length) (sn ||| (2 : Int32)) bh mi fb bo bk lt told 0 1 12 hln (by omega) (by decide)) (cwV 3 hts gX8_takesClause_X8_tells rfl rfl rfl (by decide +kernel) (rmv (Nat.le_of_ble_eq_true rfl) (Nat.le_of_ble_eq_true rfl) hRf hRl)) hK trivial hw rfl rfl rfl hl rfl (Nat.le_of_ble_eq_true rfl) ⟨Nat.zero_le _, Nat.zero_le _⟩ dX8_takesClause_161 (fun r_161 u_161 H locs hpq hw => ?_)
            obtain ⟨pl2_161, st2_161, va2_161, fy2_161, fa2_161, t2_161⟩ := u_161
            have hw : gW D A js.heap ((mG a yn (nI ln) (nI pl2_161) st2_161 va2_161 fy2_161 fa2_161 (nI ys.length) (sn ||| (2 : Int32)) bh mi fb bo bk) :: (aG c4 (a 4) 230 lt) :: (aG c4 (a 2) 18 t2_161) :: (aG c4 (a 5) 12 rk) :: (aG c4 (a 6) 12 ri) :: Ts) H locs := hw
            have hT_161 := hpq
            have hT_161 : tlP lt ln 1 12 (skp lt ln p + 1) pl2_161 0 told t2_161 r_161 fy fa fy2_161 fa2_161 := hT_161
            refine lv_if_eq (tgt := 204) hx hb dX8_takesClause_164 (by decide) (fun c_164 => ?_) (fun c_164 => ?_)
            · refine lv_iconst (v := 0) hx hb dX8_takesClause_204 (by decide) ?_
              refine lv_istore_n (lv' := [(3, .int 0), (2, .int 2), (1, .int (lt (skp lt ln p))), (0, .ref (a 0))]) hx hb dX8_takesClause_205 rfl hl (by decide) rfl (fun ls hl => ?_)
              refine lv_goto (tgt := 284) hx hb dX8_takesClause_206 (by decide) ?_
              refine lv_iload_n hx hb dX8_takesClause_284 rfl (lv_at hl 0 rfl) ?_
              refine lv_if_eq (tgt := 301) hx hb dX8_takesClause_285 (by decide) (fun c_285 => ?_) (fun c_285 => ?_)
              · refine lv_iconst (v := 0) hx hb dX8_takesClause_301 (by decide) ?_
                exact kr 0 (pl2_161, st2_161, va2_161, fy2_161, fa2_161, (nI ys.length), rk, ri, (sn ||| (2 : Int32)), t2_161) _ _ _ _ hw rfl ⟨(mn_no (k := 3) (np := nbp) hT_161 c_164 rfl rfl).2, Or.inr ⟨mn_bad eC (mn_no (k := 3) hT_161 c_164 rfl rfl).1, rfl⟩⟩ dX8_takesClause_302
              · exact absurd c_285 (by decide)
            · obtain ⟨np_161, hn_161, ht_161, hl_161, ey_161, ea_161, hp_161⟩ := mn_ok (k := 3) hT_161 c_164 rfl rfl ht
              have hq_161 := hp_161 (by omega)
              have eC := eC.trans (congrArg (Sum.elim _ _) hn_161)
              refine lv_aload_n hx hb dX8_takesClause_167 rfl (lv_at hl 2 rfl) ?_
              refine lv_iconst (v := 1) hx hb dX8_takesClause_168 (by decide) ?_
              refine lv_iconst (v := 0) hx hb dX8_takesClause_169 (by decide) ?_
              refine lv_bipush (v := 20) hx hb dX8_takesClause_170 (by decide) ?_
              have hw := hw.m2
              have hw := hw.m2
              have hw := hw.m2
              refine c_vi (As := [.int 1, .int 0, .int 20]) (rest := []) ⟨hx, hb, hml, hown, hts⟩ (k_X8_tells l D c4 A ((aG c4 (a 5) 12 rk) :: (aG c4 (a 6) 12 ri) :: Ts) a yn ln pl2_161 st2_161 va2_161 fy2_161 fa2_161 (nI ys.length) (sn ||| (2 : Int32)) bh mi fb bo bk lt t2_161 1 0 20 hln hq_161 (by decide)) (cwV 3 hts gX8_takesClause_X8_tells rfl rfl rfl (by decide +kernel) (rmv (Nat.le_of_ble_eq_true rfl) (Nat.le_of_ble_eq_true rfl) hRf hRl)) hK trivial hw rfl rfl rfl hl rfl (Nat.le_of_ble_eq_true rfl) ⟨Nat.zero_le _, Nat.zero_le _⟩ dX8_takesClause_172 (fun r_172 u_172 H locs hpq hw => ?_)
              obtain ⟨pl2_172, st2_172, va2_172, fy2_172, fa2_172, t2_172⟩ := u_172
              have hw : gW D A js.heap ((mG a yn (nI ln) (nI pl2_172) st2_172 va2_172 fy2_172 fa2_172 (nI ys.length) (sn ||| (2 : Int32)) bh mi fb bo bk) :: (aG c4 (a 4) 230 lt) :: (aG c4 (a 2) 18 t2_172) :: (aG c4 (a 5) 12 rk) :: (aG c4 (a 6) 12 ri) :: Ts) H locs := hw
              have hT_172 := hpq
              have hT_172 : tlP lt ln 0 20 pl2_161 pl2_172 1 t2_161 t2_172 r_172 fy2_161 fa2_161 fy2_172 fa2_172 := hT_172
              refine lv_if_eq (tgt := 204) hx hb dX8_takesClause_175 (by decide) (fun c_175 => ?_) (fun c_175 => ?_)
              · refine lv_iconst (v := 0) hx hb dX8_takesClause_204 (by decide) ?_
                refine lv_istore_n (lv' := [(3, .int 0), (2, .int 2), (1, .int (lt (skp lt ln p))), (0, .ref (a 0))]) hx hb dX8_takesClause_205 rfl hl (by decide) rfl (fun ls hl => ?_)
                refine lv_goto (tgt := 284) hx hb dX8_takesClause_206 (by decide) ?_
                refine lv_iload_n hx hb dX8_takesClause_284 rfl (lv_at hl 0 rfl) ?_
                refine lv_if_eq (tgt := 301) hx hb dX8_takesClause_285 (by decide) (fun c_285 => ?_) (fun c_285 => ?_)
                · refine lv_iconst (v := 0) hx hb dX8_takesClause_301 (by decide) ?_
                  exact kr 0 (pl2_172, st2_172, va2_172, fy2_172, fa2_172, (nI ys.length), rk, ri, (sn ||| (2 : Int32)), t2_172) _ _ _ _ hw rfl ⟨(hl_161).tr ((mn_no (k := 2) (np := np_161) hT_172 c_175 rfl rfl)).2, Or.inr ⟨mn_bad eC (mn_no (k := 2) hT_172 c_175 rfl rfl).1, rfl⟩⟩ dX8_takesClause_302
                · exact absurd c_285 (by decide)
              · obtain ⟨np_172, hn_172, ht_172, hl_172, ey_172, ea_172, hp_172⟩ := mn_ok (k := 2) hT_172 c_175 rfl rfl ht_161
                have hq_172 := hp_172 hq_161
                have eC := eC.trans (congrArg (Sum.elim _ _) hn_172)
                refine lv_aload_n hx hb dX8_takesClause_178 rfl (lv_at hl 2 rfl) ?_
                refine lv_iconst (v := 2) hx hb dX8_takesClause_179 (by decide) ?_
                refine lv_iconst (v := 2) hx hb dX8_takesClause_180 (by decide) ?_
                refine lv_bipush (v := 9) hx hb dX8_takesClause_181 (by decide) ?_
                have hw := hw.m2
                have hw := hw.m2
                have hw := hw.m2
                refine c_vi (As := [.int 2, .int 2, .int 9]) (rest := []) ⟨hx, hb, hml, hown, hts⟩ (k_X8_tells l D c4 A ((aG c4 (a 5) 12 rk) :: (aG c4 (a 6) 12 ri) :: Ts) a yn ln pl2_172 st2_172 va2_172 fy2_172 fa2_172 (nI ys.length) (sn ||| (2 : Int32)) bh mi fb bo bk lt t2_172 2 2 9 hln hq_172 (by decide)) (cwV 3 hts gX8_takesClause_X8_tells rfl rfl rfl (by decide +kernel) (rmv (Nat.le_of_ble_eq_true rfl) (Nat.le_of_ble_eq_true rfl) hRf hRl)) hK trivial hw rfl rfl rfl hl rfl (Nat.le_of_ble_eq_true rfl) ⟨Nat.zero_le _, Nat.zero_le _⟩ dX8_takesClause_183 (fun r_183 u_183 H locs hpq hw => ?_)
                obtain ⟨pl2_183, st2_183, va2_183, fy2_183, fa2_183, t2_183⟩ := u_183
                have hw : gW D A js.heap ((mG a yn (nI ln) (nI pl2_183) st2_183 va2_183 fy2_183 fa2_183 (nI ys.length) (sn ||| (2 : Int32)) bh mi fb bo bk) :: (aG c4 (a 4) 230 lt) :: (aG c4 (a 2) 18 t2_183) :: (aG c4 (a 5) 12 rk) :: (aG c4 (a 6) 12 ri) :: Ts) H locs := hw
                have hT_183 := hpq
                have hT_183 : tlP lt ln 2 9 pl2_172 pl2_183 2 t2_172 t2_183 r_183 fy2_172 fa2_172 fy2_183 fa2_183 := hT_183
                refine lv_if_eq (tgt := 204) hx hb dX8_takesClause_186 (by decide) (fun c_186 => ?_) (fun c_186 => ?_)
                · refine lv_iconst (v := 0) hx hb dX8_takesClause_204 (by decide) ?_
                  refine lv_istore_n (lv' := [(3, .int 0), (2, .int 2), (1, .int (lt (skp lt ln p))), (0, .ref (a 0))]) hx hb dX8_takesClause_205 rfl hl (by decide) rfl (fun ls hl => ?_)
                  refine lv_goto (tgt := 284) hx hb dX8_takesClause_206 (by decide) ?_
                  refine lv_iload_n hx hb dX8_takesClause_284 rfl (lv_at hl 0 rfl) ?_
                  refine lv_if_eq (tgt := 301) hx hb dX8_takesClause_285 (by decide) (fun c_285 => ?_) (fun c_285 => ?_)
                  · refine lv_iconst (v := 0) hx hb dX8_takesClause_301 (by decide) ?_
                    exact kr 0 (pl2_183, st2_183, va2_183, fy2_183, fa2_183, (nI ys.length), rk, ri, (sn ||| (2 : Int32)), t2_183) _ _ _ _ hw rfl ⟨((hl_161).tr hl_172).tr ((mn_no (k := 1) (np := np_172) hT_183 c_186 rfl rfl)).2, Or.inr ⟨mn_bad eC (mn_no (k := 1) hT_183 c_186 rfl rfl).1, rfl⟩⟩ dX8_takesClause_302
                  · exact absurd c_285 (by decide)
                · obtain ⟨np_183, hn_183, ht_183, hl_183, ey_183, ea_183, hp_183⟩ := mn_ok (k := 1) hT_183 c_186 rfl rfl ht_172
                  have hq_183 := hp_183 hq_172
                  have eC := eC.trans (congrArg (Sum.elim _ _) hn_183)
                  refine lv_aload_n hx hb dX8_takesClause_189 rfl (lv_at hl 2 rfl) ?_
                  refine lv_iconst (v := 3) hx hb dX8_takesClause_190 (by decide) ?_
                  refine lv_iconst (v := 0) hx hb dX8_takesClause_191 (by decide) ?_
                  refine lv_bipush (v := 20) hx hb dX8_takesClause_192 (by decide) ?_
                  have hw := hw.m2
                  have hw := hw.m2
                  have hw := hw.m2
                  refine c_vi (As := [.int 3, .int 0, .int 20]) (rest := []) ⟨hx, hb, hml, hown, hts⟩ (k_X8_tells l D c4 A ((aG c4 (a 5) 12 rk) :: (aG c4 (a 6) 12 ri) :: Ts) a yn ln pl2_183 st2_183 va2_183 fy2_183 fa2_183 (nI ys.length) (sn ||| (2 : Int32)) bh mi fb bo bk lt t2_183 3 0 20 hln hq_183 (by decide)) (cwV 3 hts gX8_takesClause_X8_tells rfl rfl rfl (by decide +kernel) (rmv (Nat.le_of_ble_eq_true rfl) (Nat.le_of_ble_eq_true rfl) hRf hRl)) hK trivial hw rfl rfl rfl hl rfl (Nat.le_of_ble_eq_true rfl) ⟨Nat.zero_le _, Nat.zero_le _⟩ dX8_takesClause_194 (fun r_194 u_194 H locs hpq hw => ?_)
                  obtain ⟨pl2_194, st2_194, va2_194, fy2_194, fa2_194, t2_194⟩ := u_194
                  have hw : gW D A js.heap ((mG a yn (nI ln) (nI pl2_194) st2_194 va2_194 fy2_194 fa2_194 (nI ys.length) (sn ||| (2 : Int32)) bh mi fb bo bk) :: (aG c4 (a 4) 230 lt) :: (aG c4 (a 2) 18 t2_194) :: (aG c4 (a 5) 12 rk) :: (aG c4 (a 6) 12 ri) :: Ts) H locs := hw
                  have hT_194 := hpq
                  have hT_194 : tlP lt ln 0 20 pl2_183 pl2_194 3 t2_183 t2_194 r_194 fy2_183 fa2_183 fy2_194 fa2_194 := hT_194
                  refine lv_if_eq (tgt := 204) hx hb dX8_takesClause_197 (by decide) (fun c_197 => ?_) (fun c_197 => ?_)
                  · refine lv_iconst (v := 0) hx hb dX8_takesClause_204 (by decide) ?_
                    refine lv_istore_n (lv' := [(3, .int 0), (2, .int 2), (1, .int (lt (skp lt ln p))), (0, .ref (a 0))]) hx hb dX8_takesClause_205 rfl hl (by decide) rfl (fun ls hl => ?_)
                    refine lv_goto (tgt := 284) hx hb dX8_takesClause_206 (by decide) ?_
                    refine lv_iload_n hx hb dX8_takesClause_284 rfl (lv_at hl 0 rfl) ?_
                    refine lv_if_eq (tgt := 301) hx hb dX8_takesClause_285 (by decide) (fun c_285 => ?_) (fun c_285 => ?_)
                    · refine lv_iconst (v := 0) hx hb dX8_takesClause_301 (by decide) ?_
                      exact kr 0 (pl2_194, st2_194, va2_194, fy2_194, fa2_194, (nI ys.length), rk, ri, (sn ||| (2 : Int32)), t2_194) _ _ _ _ hw rfl ⟨(((hl_161).tr hl_172).tr hl_183).tr ((mn_no (k := 0) (np := np_183) hT_194 c_197 rfl rfl)).2, Or.inr ⟨mn_bad eC (mn_no (k := 0) hT_194 c_197 rfl rfl).1, rfl⟩⟩ dX8_takesClause_302
                    · exact absurd c_285 (by decide)
                  · obtain ⟨np_194, hn_194, ht_194, hl_194, ey_194, ea_194, hp_194⟩ := mn_ok (k := 0) hT_194 c_197 rfl rfl ht_183
                    have hq_194 := hp_194 hq_183
                    have eC := eC.trans (congrArg (Sum.elim _ _) hn_194)
                    have hp291 := hq_194
                    refine lv_iconst (v := 1) hx hb dX8_takesClause_200 (by decide) ?_
                    refine lv_goto (tgt := 205) hx hb dX8_takesClause_201 (by decide) ?_
                    refine lv_istore_n (lv' := [(3, .int 1), (2, .int 2), (1, .int (lt (skp lt ln p))), (0, .ref (a 0))]) hx hb dX8_takesClause_205 rfl hl (by decide) rfl (fun ls hl => ?_)
                    refine lv_goto (tgt := 284) hx hb dX8_takesClause_206 (by decide) ?_
                    refine lv_iload_n hx hb dX8_takesClause_284 rfl (lv_at hl 0 rfl) ?_
                    refine lv_if_eq (tgt := 301) hx hb dX8_takesClause_285 (by decide) (fun c_285 => ?_) (fun c_285 => ?_)
                    · exact absurd c_285 (by decide)
                    · refine lv_aload_n hx hb dX8_takesClause_288 rfl (lv_at hl 3 rfl) ?_
                      refine lv_bipush (v := 59) hx hb dX8_takesClause_289 (by decide) ?_
                      have hw := hw.m1
                      have hw := hw.m1
                      refine c_vi (As := [.int 59]) (rest := []) ⟨hx, hb, hml, hown, hts⟩ (k_X8_takes l D c4 A ((aG c4 (a 2) 18 t2_194) :: (aG c4 (a 5) 12 rk) :: (aG c4 (a 6) 12 ri) :: Ts) a yn ln pl2_194 st2_194 va2_194 fy2_194 fa2_194 (nI ys.length) (sn ||| (2 : Int32)) bh mi fb bo bk lt hln (by first | exact hp291 | exact hp291 c_285)) (cwV 1 hts gX8_takesClause_X8_takes rfl rfl rfl (by decide +kernel) (rmv (Nat.le_of_ble_eq_true rfl) (Nat.le_of_ble_eq_true rfl) hRf hRl)) hK trivial hw rfl rfl rfl hl rfl (Nat.le_of_ble_eq_true rfl) ⟨Nat.zero_le _, Nat.zero_le _⟩ dX8_takesClause_291 (fun r_291 u_291 H locs hpq hw => ?_)
                      obtain ⟨pl2_291, st2_291, fy2_291, fa2_291⟩ := u_291
                      have hw : gW D A js.heap ((mG a yn (nI ln) (nI pl2_291) st2_291 va2_194 fy2_291 fa2_291 (nI ys.length) (sn ||| (2 : Int32)) bh mi fb bo bk) :: (aG c4 (a 4) 230 lt) :: (aG c4 (a 2) 18 t2_194) :: (aG c4 (a 5) 12 rk) :: (aG c4 (a 6) 12 ri) :: Ts) H locs := hw
                      have hE_291 := hpq
                      have hE_291 : reP lt ln pl2_194 pl2_291 r_291 fy2_194 fa2_194 fy2_291 fa2_291 := hE_291
                      refine lv_if_eq (tgt := 301) hx hb dX8_takesClause_294 (by decide) (fun c_294 => ?_) (fun c_294 => ?_)
                      · refine lv_iconst (v := 0) hx hb dX8_takesClause_301 (by decide) ?_
                        exact kr 0 (pl2_291, st2_291, va2_194, fy2_291, fa2_291, (nI ys.length), rk, ri, (sn ||| (2 : Int32)), t2_194) _ _ _ _ hw rfl (by rw [c_294] at hE_291; exact mn_fin eC ((((hl_161).tr hl_172).tr hl_183).tr hl_194) (sn_or hsn).2.1.1 (fun z => hye ((sn_or hsn).2.1.2.mp z)) rfl hrow ht_194 (ey_194.trans (ey_183.trans (ey_172.trans (ey_161)))) (ea_194.trans (ea_183.trans (ea_172.trans (ea_161)))) hE_291) dX8_takesClause_302
                      · refine lv_iconst (v := 1) hx hb dX8_takesClause_297 (by decide) ?_
                        refine lv_goto (tgt := 302) hx hb dX8_takesClause_298 (by decide) ?_
                        exact kr 1 (pl2_291, st2_291, va2_194, fy2_291, fa2_291, (nI ys.length), rk, ri, (sn ||| (2 : Int32)), t2_194) _ _ _ _ hw rfl (by rw [show r_291 = 1 from hE_291.z.resolve_right c_294] at hE_291; exact mn_fin eC ((((hl_161).tr hl_172).tr hl_183).tr hl_194) (sn_or hsn).2.1.1 (fun z => hye ((sn_or hsn).2.1.2.mp z)) rfl hrow ht_194 (ey_194.trans (ey_183.trans (ey_172.trans (ey_161)))) (ea_194.trans (ea_183.trans (ea_172.trans (ea_161)))) hE_291) dX8_takesClause_302
          · refine lv_aload_n hx hb dX8_takesClause_83 rfl (lv_at hl 2 rfl) ?_
            refine lv_iconst (v := 3) hx hb dX8_takesClause_84 (by decide) ?_
            refine lv_aload_n hx hb dX8_takesClause_85 rfl (lv_at hl 2 rfl) ?_
            refine r_get (T := TX8) (v := .int (nI (skp lt ln p))) hx hb hts hi8 hown hK hw 0 rfl rfl 7 (by decide) f_0 rfl dX8_takesClause_86 ?_
            refine c_vi (As := [.int 3, .int (nI (skp lt ln p))]) (rest := []) ⟨hx, hb, hml, hown, hts⟩ (k_X8_fails l D c4 A ((aG c4 (a 4) 230 lt) :: (aG c4 (a 2) 18 told) :: (aG c4 (a 5) 12 rk) :: (aG c4 (a 6) 12 ri) :: Ts) a yn (nI ln) (nI (skp lt ln p)) (nI (skp lt ln p)) va fy fa (nI ys.length) sn bh mi fb bo bk 3 (nI (skp lt ln p))) (cwV 2 hts gX8_takesClause_X8_fails rfl rfl rfl (by decide +kernel) (rmv (Nat.le_of_ble_eq_true rfl) (Nat.le_of_ble_eq_true rfl) hRf hRl)) hK trivial hw rfl rfl rfl hl rfl (Nat.le_of_ble_eq_true rfl) ⟨Nat.zero_le _, Nat.zero_le _⟩ dX8_takesClause_89 (fun r_89 u_89 H locs hpq hw => ?_)
            have er_89 := hpq
            subst er_89
            exact kr 0 (skp lt ln p, (nI (skp lt ln p)), va, 3, (nI (skp lt ln p)), (nI ys.length), rk, ri, sn, told) _ _ _ _ hw rfl ⟨loSame.rf _, Or.inr ⟨mc_agn (by rw [clO_v.2.1 c_18]; decide) (fun z => absurd z c_56) (by rw [clO_v.2.1 c_18]; exact (sn_bit hsn).2.1.mpr c_80), rfl⟩⟩ dX8_takesClause_92
        · refine lv_iload_n hx hb dX8_takesClause_59 rfl (lv_at hl 0 rfl) ?_
          refine lv_iconst (v := 1) hx hb dX8_takesClause_60 (by decide) ?_
          refine lv_icmp_le (tgt := 74) hx hb dX8_takesClause_61 (by decide) (fun c_61 => ?_) (fun c_61 => ?_)
          · exact absurd c_61 (by decide)
          · refine lv_aload_n hx hb dX8_takesClause_64 rfl (lv_at hl 2 rfl) ?_
            refine lv_iconst (v := 1) hx hb dX8_takesClause_65 (by decide) ?_
            refine lv_aload_n hx hb dX8_takesClause_66 rfl (lv_at hl 2 rfl) ?_
            refine r_get (T := TX8) (v := .int (nI (skp lt ln p))) hx hb hts hi8 hown hK hw 0 rfl rfl 7 (by decide) f_0 rfl dX8_takesClause_67 ?_
            refine c_vi (As := [.int 1, .int (nI (skp lt ln p))]) (rest := []) ⟨hx, hb, hml, hown, hts⟩ (k_X8_fails l D c4 A ((aG c4 (a 4) 230 lt) :: (aG c4 (a 2) 18 told) :: (aG c4 (a 5) 12 rk) :: (aG c4 (a 6) 12 ri) :: Ts) a yn (nI ln) (nI (skp lt ln p)) (nI (skp lt ln p)) va fy fa (nI ys.length) sn bh mi fb bo bk 1 (nI (skp lt ln p))) (cwV 2 hts gX8_takesClause_X8_fails rfl rfl rfl (by decide +kernel) (rmv (Nat.le_of_ble_eq_true rfl) (Nat.le_of_ble_eq_true rfl) hRf hRl)) hK trivial hw rfl rfl rfl hl rfl (Nat.le_of_ble_eq_true rfl) ⟨Nat.zero_le _, Nat.zero_le _⟩ dX8_takesClause_70 (fun r_70 u_70 H locs hpq hw => ?_)
            have er_70 := hpq
            subst er_70
            exact kr 0 (skp lt ln p, (nI (skp lt ln p)), va, 1, (nI (skp lt ln p)), (nI ys.length), rk, ri, sn, told) _ _ _ _ hw rfl ⟨loSame.rf _, Or.inr ⟨mc_fst c_56 (by rw [clO_v.2.1 c_18]; decide), rfl⟩⟩ dX8_takesClause_73
  · refine lv_iconst (v := 1) hx hb dX8_takesClause_11 (by decide) ?_
    refine lv_goto (tgt := 47) hx hb dX8_takesClause_12 (by decide) ?_
    refine lv_istore_n (lv' := [(2, .int 1), (1, .int (lt (skp lt ln p))), (0, .ref (a 0))]) hx hb dX8_takesClause_47 rfl hl (by decide) rfl (fun ls hl => ?_)
    refine lv_iload_n hx hb dX8_takesClause_48 rfl (lv_at hl 0 rfl) ?_
    refine lv_if_eq (tgt := 64) hx hb dX8_takesClause_49 (by decide) (fun c_49 => ?_) (fun c_49 => ?_)
    · exact absurd c_49 (by decide)
    · refine lv_aload_n hx hb dX8_takesClause_52 rfl (lv_at hl 2 rfl) ?_
      refine r_get (T := TX8) (v := .int sn) hx hb hts hi8 hown hK hw 0 rfl rfl 12 (by decide) f_1 rfl dX8_takesClause_53 ?_
      refine lv_if_ne (tgt := 74) hx hb dX8_takesClause_56 (by decide) (fun c_56 => ?_) (fun c_56 => ?_)
      · refine lv_aload_n hx hb dX8_takesClause_74 rfl (lv_at hl 2 rfl) ?_
        refine r_get (T := TX8) (v := .int sn) hx hb hts hi8 hown hK hw 0 rfl rfl 12 (by decide) f_1 rfl dX8_takesClause_75 ?_
        refine lv_iload_n hx hb dX8_takesClause_78 rfl (lv_at hl 0 rfl) ?_
        refine lv_iand hx hb dX8_takesClause_79 ?_
        refine lv_if_eq (tgt := 93) hx hb dX8_takesClause_80 (by decide) (fun c_80 => ?_) (fun c_80 => ?_)
        · refine lv_aload_n hx hb dX8_takesClause_93 rfl (lv_at hl 2 rfl) ?_
          refine lv_dup hx hb dX8_takesClause_94 rfl ?_
          refine r_get (T := TX8) (v := .int sn) hx hb hts hi8 hown hK hw 0 rfl rfl 12 (by decide) f_1 rfl dX8_takesClause_95 ?_
          refine lv_iload_n hx hb dX8_takesClause_98 rfl (lv_at hl 0 rfl) ?_
          refine lv_ior hx hb dX8_takesClause_99 ?_
          refine r_put (T := TX8) (G' := ((mG a yn (nI ln) (nI (skp lt ln p)) (nI (skp lt ln p)) va fy fa (nI ys.length) (sn ||| (1 : Int32)) bh mi fb bo bk) :: (aG c4 (a 4) 230 lt) :: (aG c4 (a 2) 18 told) :: (aG c4 (a 5) 12 rk) :: (aG c4 (a 6) 12 ri) :: Ts)) hx hb hts hi8 tyX8 tyX8_ok nmX8 hown hK hw 0 rfl rfl 12 (by decide) f_1 rfl rfl (Nat.le_of_ble_eq_true rfl) rfl dX8_takesClause_100 (fun H locs hw => ?_)
          refine lv_aload_n hx hb dX8_takesClause_103 rfl (lv_at hl 2 rfl) ?_
          refine lv_dup hx hb dX8_takesClause_104 rfl ?_
          refine r_get (T := TX8) (v := .int (nI (skp lt ln p))) hx hb hts hi8 hown hK hw 0 rfl rfl 6 (by decide) f_2 rfl dX8_takesClause_105 ?_
          refine lv_iconst (v := 1) hx hb dX8_takesClause_108 (by decide) ?_
          refine r_addN hx hb (skp lt ln p) 1 dX8_takesClause_109 ?_
          refine r_put (T := TX8) (G' := ((mG a yn (nI ln) (nI (skp lt ln p + 1)) (nI (skp lt ln p)) va fy fa (nI ys.length) (sn ||| (1 : Int32)) bh mi fb bo bk) :: (aG c4 (a 4) 230 lt) :: (aG c4 (a 2) 18 told) :: (aG c4 (a 5) 12 rk) :: (aG c4 (a 6) 12 ri) :: Ts)) hx hb hts hi8 tyX8 tyX8_ok nmX8 hown hK hw 0 rfl rfl 6 (by decide) f_2 rfl rfl (Nat.le_of_ble_eq_true rfl) rfl dX8_takesClause_110 (fun H locs hw => ?_)
          refine lv_iload_n hx hb dX8_takesClause_113 rfl (lv_at hl 1 rfl) ?_
          refine lv_lookup (tgt := 148) (off := 34) hx hb dX8_takesClause_114 (by decide) (by rw [c_8]; decide) (by decide) ?_
          rw [show nI ys.length = 0 from by rw [hye c_80]; rfl] at hw
          refine lv_aload_n hx hb dX8_takesClause_148 rfl (lv_at hl 2 rfl) ?_
          have hw := hw.m4
          have hw := hw.m4
          have hw := hw.m3
          have hw := hw.m3
          refine c_vi (As := []) (rest := []) ⟨hx, hb, hml, hown, hts⟩ (k_X8_takesYards l D c4 A ((aG c4 (a 2) 18 told) :: Ts) a yn ln (skp lt ln p + 1) (nI (skp lt ln p)) va fy fa (sn ||| (1 : Int32)) bh mi fb bo bk lt rk ri hln (by omega)) (cwV 0 hts gX8_takesClause_X8_takesYards rfl rfl rfl (by decide +kernel) (rmv (Nat.le_of_ble_eq_true rfl) (Nat.le_of_ble_eq_true rfl) hRf hRl)) hK trivial hw rfl rfl rfl hl rfl (Nat.le_of_ble_eq_true rfl) ⟨Nat.zero_le _, Nat.zero_le _⟩ dX8_takesClause_149 (fun r_149 u_149 H locs hpq hw => ?_)
          obtain ⟨pl2_149, st2_149, va2_149, fy2_149, fa2_149, ry2_149, rk2_149, ri2_149⟩ := u_149
          have hw : gW D A js.heap ((mG a yn (nI ln) (nI pl2_149) st2_149 va2_149 fy2_149 fa2_149 ry2_149 (sn ||| (1 : Int32)) bh mi fb bo bk) :: (aG c4 (a 4) 230 lt) :: (aG c4 (a 5) 12 rk2_149) :: (aG c4 (a 6) 12 ri2_149) :: (aG c4 (a 2) 18 told) :: Ts) H locs := hw
          have hY_149 := hpq
          have hY_149 : tysP lt ln (skp lt ln p + 1) pl2_149 ry2_149 rk2_149 ri2_149 r_149 fy fa fy2_149 fa2_149 := hY_149
          have hp291 : ¬ r_149 = 0 → pl2_149 ≤ ln := fun c => by rcases hY_149 with ⟨_, _, _, z, _⟩ | z; { exact z }; { exact absurd z.2 c }
          refine lv_istore_n (lv' := [(3, .int r_149), (2, .int 1), (1, .int (lt (skp lt ln p))), (0, .ref (a 0))]) hx hb dX8_takesClause_152 rfl hl (by decide) rfl (fun ls hl => ?_)
          refine lv_goto (tgt := 284) hx hb dX8_takesClause_153 (by decide) ?_
          refine lv_iload_n hx hb dX8_takesClause_284 rfl (lv_at hl 0 rfl) ?_
          refine lv_if_eq (tgt := 301) hx hb dX8_takesClause_285 (by decide) (fun c_285 => ?_) (fun c_285 => ?_)
          · refine lv_iconst (v := 0) hx hb dX8_takesClause_301 (by decide) ?_
            have hw := hw.m3
            have hw := hw.m3
            have hw := hw.m4
            have hw := hw.m4
            have hw := hw.m4
            exact kr 0 (pl2_149, st2_149, va2_149, fy2_149, fa2_149, ry2_149, rk2_149, ri2_149, (sn ||| (1 : Int32)), told) _ _ _ _ hw rfl ⟨loSame.rf _, Or.inr ⟨mc_yb hsn c_8 c_80 hY_149 c_285, rfl⟩⟩ dX8_takesClause_302
          · refine lv_aload_n hx hb dX8_takesClause_288 rfl (lv_at hl 3 rfl) ?_
            refine lv_bipush (v := 59) hx hb dX8_takesClause_289 (by decide) ?_
            have hw := hw.m1
            have hw := hw.m1
            refine c_vi (As := [.int 59]) (rest := []) ⟨hx, hb, hml, hown, hts⟩ (k_X8_takes l D c4 A ((aG c4 (a 5) 12 rk2_149) :: (aG c4 (a 6) 12 ri2_149) :: (aG c4 (a 2) 18 told) :: Ts) a yn ln pl2_149 st2_149 va2_149 fy2_149 fa2_149 ry2_149 (sn ||| (1 : Int32)) bh mi fb bo bk lt hln (by first | exact hp291 | exact hp291 c_285)) (cwV 1 hts gX8_takesClause_X8_takes rfl rfl rfl (by decide +kernel) (rmv (Nat.le_of_ble_eq_true rfl) (Nat.le_of_ble_eq_true rfl) hRf hRl)) hK trivial hw rfl rfl rfl hl rfl (Nat.le_of_ble_eq_true rfl) ⟨Nat.zero_le _, Nat.zero_le _⟩ dX8_takesClause_291 (fun r_291 u_291 H locs hpq hw => ?_)
            obtain ⟨pl2_291, st2_291, fy2_291, fa2_291⟩ := u_291
            have hw : gW D A js.heap ((mG a yn (nI ln) (nI pl2_291) st2_291 va2_149 fy2_291 fa2_291 ry2_149 (sn ||| (1 : Int32)) bh mi fb bo bk) :: (aG c4 (a 4) 230 lt) :: (aG c4 (a 5) 12 rk2_149) :: (aG c4 (a 6) 12 ri2_149) :: (aG c4 (a 2) 18 told) :: Ts) H locs := hw
            have hE_291 := hpq
            have hE_291 : reP lt ln pl2_149 pl2_291 r_291 fy2_149 fa2_149 fy2_291 fa2_291 := hE_291
            refine lv_if_eq (tgt := 301) hx hb dX8_takesClause_294 (by decide) (fun c_294 => ?_) (fun c_294 => ?_)
            · refine lv_iconst (v := 0) hx hb dX8_takesClause_301 (by decide) ?_
              have hw := hw.m3
              have hw := hw.m3
              have hw := hw.m4
              have hw := hw.m4
              have hw := hw.m4
              exact kr 0 (pl2_291, st2_291, va2_149, fy2_291, fa2_291, ry2_149, rk2_149, ri2_149, (sn ||| (1 : Int32)), told) _ _ _ _ hw rfl (by rw [c_294] at hE_291; exact mc_y hsn c_8 c_80 ht hY_149 c_285 hE_291) dX8_takesClause_302
            · refine lv_iconst (v := 1) hx hb dX8_takesClause_297 (by decide) ?_
              refine lv_goto (tgt := 302) hx hb dX8_takesClause_298 (by decide) ?_
              have hw := hw.m3
              have hw := hw.m3
              have hw := hw.m4
              have hw := hw.m4
              have hw := hw.m4
              exact kr 1 (pl2_291, st2_291, va2_149, fy2_291, fa2_291, ry2_149, rk2_149, ri2_149, (sn ||| (1 : Int32)), told) _ _ _ _ hw rfl (by rw [show r_291 = 1 from hE_291.z.resolve_right c_294] at hE_291; exact mc_y hsn c_8 c_80 ht hY_149 c_285 hE_291) dX8_takesClause_302
        · refine lv_aload_n hx hb dX8_takesClause_83 rfl (lv_at hl 2 rfl) ?_
          refine lv_iconst (v := 3) hx hb dX8_takesClause_84 (by decide) ?_
          refine lv_aload_n hx hb dX8_takesClause_85 rfl (lv_at hl 2 rfl) ?_
          refine r_get (T := TX8) (v := .int (nI (skp lt ln p))) hx hb hts hi8 hown hK hw 0 rfl rfl 7 (by decide) f_0 rfl dX8_takesClause_86 ?_
          refine c_vi (As := [.int 3, .int (nI (skp lt ln p))]) (rest := []) ⟨hx, hb, hml, hown, hts⟩ (k_X8_fails l D c4 A ((aG c4 (a 4) 230 lt) :: (aG c4 (a 2) 18 told) :: (aG c4 (a 5) 12 rk) :: (aG c4 (a 6) 12 ri) :: Ts) a yn (nI ln) (nI (skp lt ln p)) (nI (skp lt ln p)) va fy fa (nI ys.length) sn bh mi fb bo bk 3 (nI (skp lt ln p))) (cwV 2 hts gX8_takesClause_X8_fails rfl rfl rfl (by decide +kernel) (rmv (Nat.le_of_ble_eq_true rfl) (Nat.le_of_ble_eq_true rfl) hRf hRl)) hK trivial hw rfl rfl rfl hl rfl (Nat.le_of_ble_eq_true rfl) ⟨Nat.zero_le _, Nat.zero_le _⟩ dX8_takesClause_89 (fun r_89 u_89 H locs hpq hw => ?_)
          have er_89 := hpq
          subst er_89
          exact kr 0 (skp lt ln p, (nI (skp lt ln p)), va, 3, (nI (skp lt ln p)), (nI ys.length), rk, ri, sn, told) _ _ _ _ hw rfl ⟨loSame.rf _, Or.inr ⟨mc_agn (by rw [clO_v.1 c_8]; decide) (fun z => clO_v.1 c_8) (by rw [clO_v.1 c_8]; exact (sn_bit hsn).1.mpr c_80), rfl⟩⟩ dX8_takesClause_92
      · refine lv_iload_n hx hb dX8_takesClause_59 rfl (lv_at hl 0 rfl) ?_
        refine lv_iconst (v := 1) hx hb dX8_takesClause_60 (by decide) ?_
        refine lv_icmp_le (tgt := 74) hx hb dX8_takesClause_61 (by decide) (fun c_61 => ?_) (fun c_61 => ?_)
        · refine lv_aload_n hx hb dX8_takesClause_74 rfl (lv_at hl 2 rfl) ?_
          refine r_get (T := TX8) (v := .int sn) hx hb hts hi8 hown hK hw 0 rfl rfl 12 (by decide) f_1 rfl dX8_takesClause_75 ?_
          refine lv_iload_n hx hb dX8_takesClause_78 rfl (lv_at hl 0 rfl) ?_
          refine lv_iand hx hb dX8_takesClause_79 ?_
          refine lv_if_eq (tgt := 93) hx hb dX8_takesClause_80 (by decide) (fun c_80 => ?_) (fun c_80 => ?_)
          · refine lv_aload_n hx hb dX8_takesClause_93 rfl (lv_at hl 2 rfl) ?_
            refine lv_dup hx hb dX8_takesClause_94 rfl ?_
            refine r_get (T := TX8) (v := .int sn) hx hb hts hi8 hown hK hw 0 rfl rfl 12 (by decide) f_1 rfl dX8_takesClause_95 ?_
            refine lv_iload_n hx hb dX8_takesClause_98 rfl (lv_at hl 0 rfl) ?_
            refine lv_ior hx hb dX8_takesClause_99 ?_
            refine r_put (T := TX8) (G' := ((mG a yn (nI ln) (nI (skp lt ln p)) (nI (skp lt ln p)) va fy fa (nI ys.length) (sn ||| (1 : Int32)) bh mi fb bo bk) :: (aG c4 (a 4) 230 lt) :: (aG c4 (a 2) 18 told) :: (aG c4 (a 5) 12 rk) :: (aG c4 (a 6) 12 ri) :: Ts)) hx hb hts hi8 tyX8 tyX8_ok nmX8 hown hK hw 0 rfl rfl 12 (by decide) f_1 rfl rfl (Nat.le_of_ble_eq_true rfl) rfl dX8_takesClause_100 (fun H locs hw => ?_)
            refine lv_aload_n hx hb dX8_takesClause_103 rfl (lv_at hl 2 rfl) ?_
            refine lv_dup hx hb dX8_takesClause_104 rfl ?_
            refine r_get (T := TX8) (v := .int (nI (skp lt ln p))) hx hb hts hi8 hown hK hw 0 rfl rfl 6 (by decide) f_2 rfl dX8_takesClause_105 ?_
            refine lv_iconst (v := 1) hx hb dX8_takesClause_108 (by decide) ?_
            refine r_addN hx hb (skp lt ln p) 1 dX8_takesClause_109 ?_
            refine r_put (T := TX8) (G' := ((mG a yn (nI ln) (nI (skp lt ln p + 1)) (nI (skp lt ln p)) va fy fa (nI ys.length) (sn ||| (1 : Int32)) bh mi fb bo bk) :: (aG c4 (a 4) 230 lt) :: (aG c4 (a 2) 18 told) :: (aG c4 (a 5) 12 rk) :: (aG c4 (a 6) 12 ri) :: Ts)) hx hb hts hi8 tyX8 tyX8_ok nmX8 hown hK hw 0 rfl rfl 6 (by decide) f_2 rfl rfl (Nat.le_of_ble_eq_true rfl) rfl dX8_takesClause_110 (fun H locs hw => ?_)
            refine lv_iload_n hx hb dX8_takesClause_113 rfl (lv_at hl 1 rfl) ?_
            refine lv_lookup (tgt := 148) (off := 34) hx hb dX8_takesClause_114 (by decide) (by rw [c_8]; decide) (by decide) ?_
            rw [show nI ys.length = 0 from by rw [hye c_80]; rfl] at hw
            refine lv_aload_n hx hb dX8_takesClause_148 rfl (lv_at hl 2 rfl) ?_
            have hw := hw.m4
            have hw := hw.m4
            have hw := hw.m3
            have hw := hw.m3
            refine c_vi (As := []) (rest := []) ⟨hx, hb, hml, hown, hts⟩ (k_X8_takesYards l D c4 A ((aG c4 (a 2) 18 told) :: Ts) a yn ln (skp lt ln p + 1) (nI (skp lt ln p)) va fy fa (sn ||| (1 : Int32)) bh mi fb bo bk lt rk ri hln (by omega)) (cwV 0 hts gX8_takesClause_X8_takesYards rfl rfl rfl (by decide +kernel) (rmv (Nat.le_of_ble_eq_true rfl) (Nat.le_of_ble_eq_true rfl) hRf hRl)) hK trivial hw rfl rfl rfl hl rfl (Nat.le_of_ble_eq_true rfl) ⟨Nat.zero_le _, Nat.zero_le _⟩ dX8_takesClause_149 (fun r_149 u_149 H locs hpq hw => ?_)
            obtain ⟨pl2_149, st2_149, va2_149, fy2_149, fa2_149, ry2_149, rk2_149, ri2_149⟩ := u_149
            have hw : gW D A js.heap ((mG a yn (nI ln) (nI pl2_149) st2_149 va2_149 fy2_149 fa2_149 ry2_149 (sn ||| (1 : Int32)) bh mi fb bo bk) :: (aG c4 (a 4) 230 lt) :: (aG c4 (a 5) 12 rk2_149) :: (aG c4 (a 6) 12 ri2_149) :: (aG c4 (a 2) 18 told) :: Ts) H locs := hw
            have hY_149 := hpq
            have hY_149 : tysP lt ln (skp lt ln p + 1) pl2_149 ry2_149 rk2_149 ri2_149 r_149 fy fa fy2_149 fa2_149 := hY_149
            have hp291 : ¬ r_149 = 0 → pl2_149 ≤ ln := fun c => by rcases hY_149 with ⟨_, _, _, z, _⟩ | z; { exact z }; { exact absurd z.2 c }
            refine lv_istore_n (lv' := [(3, .int r_149), (2, .int 1), (1, .int (lt (skp lt ln p))), (0, .ref (a 0))]) hx hb dX8_takesClause_152 rfl hl (by decide) rfl (fun ls hl => ?_)
            refine lv_goto (tgt := 284) hx hb dX8_takesClause_153 (by decide) ?_
            refine lv_iload_n hx hb dX8_takesClause_284 rfl (lv_at hl 0 rfl) ?_
            refine lv_if_eq (tgt := 301) hx hb dX8_takesClause_285 (by decide) (fun c_285 => ?_) (fun c_285 => ?_)
            · refine lv_iconst (v := 0) hx hb dX8_takesClause_301 (by decide) ?_
              have hw := hw.m3
              have hw := hw.m3
              have hw := hw.m4
              have hw := hw.m4
              have hw := hw.m4
              exact kr 0 (pl2_149, st2_149, va2_149, fy2_149, fa2_149, ry2_149, rk2_149, ri2_149, (sn ||| (1 : Int32)), told) _ _ _ _ hw rfl ⟨loSame.rf _, Or.inr ⟨mc_yb hsn c_8 c_80 hY_149 c_285, rfl⟩⟩ dX8_takesClause_302
            · refine lv_aload_n hx hb dX8_takesClause_288 rfl (lv_at hl 3 rfl) ?_
              refine lv_bipush (v := 59) hx hb dX8_takesClause_289 (by decide) ?_
              have hw := hw.m1
              have hw := hw.m1
              refine c_vi (As := [.int 59]) (rest := []) ⟨hx, hb, hml, hown, hts⟩ (k_X8_takes l D c4 A ((aG c4 (a 5) 12 rk2_149) :: (aG c4 (a 6) 12 ri2_149) :: (aG c4 (a 2) 18 told) :: Ts) a yn ln pl2_149 st2_149 va2_149 fy2_149 fa2_149 ry2_149 (sn ||| (1 : Int32)) bh mi fb bo bk lt hln (by first | exact hp291 | exact hp291 c_285)) (cwV 1 hts gX8_takesClause_X8_takes rfl rfl rfl (by decide +kernel) (rmv (Nat.le_of_ble_eq_true rfl) (Nat.le_of_ble_eq_true rfl) hRf hRl)) hK trivial hw rfl rfl rfl hl rfl (Nat.le_of_ble_eq_true rfl) ⟨Nat.zero_le _, Nat.zero_le _⟩ dX8_takesClause_291 (fun r_291 u_291 H locs hpq hw => ?_)
              obtain ⟨pl2_291, st2_291, fy2_291, fa2_291⟩ := u_291
              have hw : gW D A js.heap ((mG a yn (nI ln) (nI pl2_291) st2_291 va2_149 fy2_291 fa2_291 ry2_149 (sn ||| (1 : Int32)) bh mi fb bo bk) :: (aG c4 (a 4) 230 lt) :: (aG c4 (a 5) 12 rk2_149) :: (aG c4 (a 6) 12 ri2_149) :: (aG c4 (a 2) 18 told) :: Ts) H locs := hw
              have hE_291 := hpq
              have hE_291 : reP lt ln pl2_149 pl2_291 r_291 fy2_149 fa2_149 fy2_291 fa2_291 := hE_291
              refine lv_if_eq (tgt := 301) hx hb dX8_takesClause_294 (by decide) (fun c_294 => ?_) (fun c_294 => ?_)
              · refine lv_iconst (v := 0) hx hb dX8_takesClause_301 (by decide) ?_
                have hw := hw.m3
                have hw := hw.m3
                have hw := hw.m4
                have hw := hw.m4
                have hw := hw.m4
                exact kr 0 (pl2_291, st2_291, va2_149, fy2_291, fa2_291, ry2_149, rk2_149, ri2_149, (sn ||| (1 : Int32)), told) _ _ _ _ hw rfl (by rw [c_294] at hE_291; exact mc_y hsn c_8 c_80 ht hY_149 c_285 hE_291) dX8_takesClause_302
              · refine lv_iconst (v := 1) hx hb dX8_takesClause_297 (by decide) ?_
                refine lv_goto (tgt := 302) hx hb dX8_takesClause_298 (by decide) ?_
                have hw := hw.m3
                have hw := hw.m3
                have hw := hw.m4
                have hw := hw.m4
                have hw := hw.m4
                exact kr 1 (pl2_291, st2_291, va2_149, fy2_291, fa2_291, ry2_149, rk2_149, ri2_149, (sn ||| (1 : Int32)), told) _ _ _ _ hw rfl (by rw [show r_291 = 1 from hE_291.z.resolve_right c_294] at hE_291; exact mc_y hsn c_8 c_80 ht hY_149 c_285 hE_291) dX8_takesClause_302
          · refine lv_aload_n hx hb dX8_takesClause_83 rfl (lv_at hl 2 rfl) ?_
            refine lv_iconst (v := 3) hx hb dX8_takesClause_84 (by decide) ?_
            refine lv_aload_n hx hb dX8_takesClause_85 rfl (lv_at hl 2 rfl) ?_
            refine r_get (T := TX8) (v := .int (nI (skp lt ln p))) hx hb hts hi8 hown hK hw 0 rfl rfl 7 (by decide) f_0 rfl dX8_takesClause_86 ?_
            refine c_vi (As := [.int 3, .int (nI (skp lt ln p))]) (rest := []) ⟨hx, hb, hml, hown, hts⟩ (k_X8_fails l D c4 A ((aG c4 (a 4) 230 lt) :: (aG c4 (a 2) 18 told) :: (aG c4 (a 5) 12 rk) :: (aG c4 (a 6) 12 ri) :: Ts) a yn (nI ln) (nI (skp lt ln p)) (nI (skp lt ln p)) va fy fa (nI ys.length) sn bh mi fb bo bk 3 (nI (skp lt ln p))) (cwV 2 hts gX8_takesClause_X8_fails rfl rfl rfl (by decide +kernel) (rmv (Nat.le_of_ble_eq_true rfl) (Nat.le_of_ble_eq_true rfl) hRf hRl)) hK trivial hw rfl rfl rfl hl rfl (Nat.le_of_ble_eq_true rfl) ⟨Nat.zero_le _, Nat.zero_le _⟩ dX8_takesClause_89 (fun r_89 u_89 H locs hpq hw => ?_)
            have er_89 := hpq
            subst er_89
            exact kr 0 (skp lt ln p, (nI (skp lt ln p)), va, 3, (nI (skp lt ln p)), (nI ys.length), rk, ri, sn, told) _ _ _ _ hw rfl ⟨loSame.rf _, Or.inr ⟨mc_agn (by rw [clO_v.1 c_8]; decide) (fun z => clO_v.1 c_8) (by rw [clO_v.1 c_8]; exact (sn_bit hsn).1.mpr c_80), rfl⟩⟩ dX8_takesClause_92
        · exact absurd c_61 (by decide)
