set_option maxHeartbeats 4000000 in
set_option maxRecDepth 100000 in
theorem k_X8_costOf (l : Launch) (D : va_G) (c4 : Nat → ClassId) (A : Nat → Prop) (Ts : List va_W) (a : Nat → Nat) (n : Nat) (tx : Int32) (pl : Int32) (st : Int32) (va : Int32) (fy : Int32) (fa : Int32) (ry : Int32) (se : Int32) (bh : Int32) (mi : Int32) (fb : Int32) (bo : Int32) (bk : Int32) (told : Nat → Int32) (w : Nat → Int32) (ba : Nat → Int32) (q : Nat → Yq) (s : Nat) (k : Nat) (t : Int32) (c : Int32) (hn : n ≤ 12) (hY : mY q n w 0) (hT : tlOk told) (hbt : rng (w 48) 1 9) (hk : k ≤ 8) (hs : s < 256) (hc : 0 ≤ c.toInt ∧ c.toInt ≤ 30) : Ci l yX8_costOf wsX8_costOf 2 47 [.ref (a 0), .int (nI s), .int (nI k), .int t, .int c] D (tyA c4) A none ((mG a (nI n) tx pl st va fy fa ry se bh mi fb bo bk) :: (aG c4 (a 2) 18 told) :: (aG c4 (a 1) 204 w) :: (aG c4 (a 7) 12 ba) :: Ts) (S := Int32 × Int32 × Int32 × (Nat → Int32) × (Nat → Int32)) (fun (r : Int32) (u : Int32 × Int32 × Int32 × (Nat → Int32) × (Nat → Int32)) => (r = (costL n (pForce told (w 48)) (told 5) t c (told 6) (told 7) (told 8) k s q (told 6) 0)) ∧ (wNow w u.2.2.2.1)) (fun u => ((mG a (nI n) tx pl st va fy fa ry se u.1 u.2.1 u.2.2.1 bo bk) :: (aG c4 (a 2) 18 told) :: (aG c4 (a 1) 204 u.2.2.2.1) :: (aG c4 (a 7) 12 u.2.2.2.2) :: Ts)) := by
  refine cOi (cc := cX8_costOf) (maxL := 9) (by decide) rfl (Nat.le_of_ble_eq_true rfl) rfl ?_
  rintro jp je js jm below meth jc ls args R Q H locs hRf hRl ⟨hx, hb, hml, hr, hts, hown, hlocks, hK, hX⟩ hw hl kr
  have hown : js.vm.findClass RX8 = some jm.cls := hown
  have f_0 := hts (.fieldLink RX8 13 "IceSwayModel" "told" "[I") (by decide +kernel)
  have f_1 := hts (.fieldLink RX8 177 "IceSwayModel" "behind" "I") (by decide +kernel)
  have f_2 := hts (.fieldLink RX8 60 "IceSwayModel" "yards" "I") (by decide +kernel)
  have hi8 : ∀ w ∈ u_ws RX8 TX8 28, w ∈ wsX8_costOf := fun w h => List.mem_cons_of_mem _ (List.mem_append_right _ h)
  refine lv_aload_n hx hb dX8_costOf_0 rfl (lv_at hl 0 rfl) ?_
  refine lv_iconst (v := 0) hx hb dX8_costOf_1 (by decide) ?_
  refine lv_bipush (v := 51) hx hb dX8_costOf_2 (by decide) ?_
  have hw := hw.m2
  have hw := hw.m1
  refine c_vv (As := [.int 0, .int 51]) (rest := []) ⟨hx, hb, hml, hown, hts⟩ (k_X8_copy l D c4 A ((aG c4 (a 2) 18 told) :: (aG c4 (a 7) 12 ba) :: Ts) a (nI n) tx pl st va fy fa ry se bh mi fb bo bk w 0 51 (by decide) (by decide) (Or.inl (by decide))) (cwV 2 hts gX8_costOf_X8_copy rfl rfl rfl (by decide +kernel) (rmv (Nat.le_of_ble_eq_true rfl) (Nat.le_of_ble_eq_true rfl) hRf hRl)) hK trivial hw rfl rfl rfl hl rfl (Nat.le_of_ble_eq_true rfl) ⟨Nat.zero_le _, Nat.zero_le _⟩ dX8_costOf_4 (fun u_4 H locs hpq hw => ?_)
  refine lv_aload_n hx hb dX8_costOf_7 rfl (lv_at hl 0 rfl) ?_
  refine r_get (T := TX8) (v := .ref (a 2)) hx hb hts hi8 hown hK hw 0 rfl rfl 1 (by decide) f_0 rfl dX8_costOf_8 ?_
  refine lv_bipush (v := 6) hx hb dX8_costOf_11 (by decide) ?_
  refine r_iald hx hb hK hw 2 0 rfl rfl 6 (by omega) (by decide) dX8_costOf_13 ?_
  refine lv_istore (lv' := [(5, .int (told 6)), (0, .ref (a 0)), (1, .int (nI s)), (2, .int (nI k)), (3, .int t), (4, .int c)]) hx hb dX8_costOf_14 hl (by decide) rfl (fun ls hl => ?_)
  refine lv_iconst (v := 0) hx hb dX8_costOf_16 (by decide) ?_
  refine lv_istore (lv' := [(6, .int 0), (5, .int (told 6)), (0, .ref (a 0)), (1, .int (nI s)), (2, .int (nI k)), (3, .int t), (4, .int c)]) hx hb dX8_costOf_17 hl (by decide) rfl (fun ls hl => ?_)
  refine lv_aload_n hx hb dX8_costOf_19 rfl (lv_at hl 2 rfl) ?_
  have hw := hw.m1
  have hw := hw.m2
  have hw := hw.m2
  refine c_vi (As := []) (rest := []) ⟨hx, hb, hml, hown, hts⟩ (k_X8_forceNow l D c4 A ((aG c4 (a 7) 12 ba) :: Ts) a (nI n) tx pl st va fy fa ry se bh mi fb bo bk told (fb_put w (fun k => w (0 + k)) 51 51) hT (by rw [fb_put_out (by omega)]; exact hbt)) (cwV 0 hts gX8_costOf_X8_forceNow rfl rfl rfl (by decide +kernel) (rmv (Nat.le_of_ble_eq_true rfl) (Nat.le_of_ble_eq_true rfl) hRf hRl)) hK trivial hw rfl rfl rfl hl rfl (Nat.le_of_ble_eq_true rfl) ⟨Nat.zero_le _, Nat.zero_le _⟩ dX8_costOf_20 (fun r_20 u_20 H locs hpq hw => ?_)
  have er_20 := hpq
  subst er_20
  refine r_top (y := (pForce told (w 48))) (by rw [fb_put_out (by omega)]) ?_
  refine lv_istore (lv' := [(7, .int (pForce told (w 48))), (6, .int 0), (5, .int (told 6)), (0, .ref (a 0)), (1, .int (nI s)), (2, .int (nI k)), (3, .int t), (4, .int c)]) hx hb dX8_costOf_23 hl (by decide) rfl (fun ls hl => ?_)
  refine lv_iconst (v := 0) hx hb dX8_costOf_25 (by decide) ?_
  refine lv_istore (lv' := [(8, .int 0), (7, .int (pForce told (w 48))), (6, .int 0), (5, .int (told 6)), (0, .ref (a 0)), (1, .int (nI s)), (2, .int (nI k)), (3, .int t), (4, .int c)]) hx hb dX8_costOf_26 hl (by decide) rfl (fun ls hl => ?_)
  have loop_28 : ∀ (fuel : Nat) (d : Nat) (coal : Int32) (cost : Int32) (qd : Nat → Yq) (bh1 : Int32) (mi1 : Int32) (fb1 : Int32) (w1 : Nat → Int32) (ba1 : Nat → Int32), (k - d) < fuel → (d ≤ k) → (rng coal 0 20) → (mY qd n w1 51) → (wNow w w1) → (costL n (pForce told (w 48)) (told 5) t c (told 6) (told 7) (told 8) (k - d) (s / 2 ^ d) qd coal cost = costL n (pForce told (w 48)) (told 5) t c (told 6) (told 7) (told 8) k s q (told 6) 0) → ∀ (H : Heap) (locs : List Loc), gW D A js.heap ((mG a (nI n) tx pl st va fy fa ry se bh1 mi1 fb1 bo bk) :: (aG c4 (a 2) 18 told) :: (aG c4 (a 1) 204 w1) :: (aG c4 (a 7) 12 ba1) :: Ts) H locs → ∀ (ls : Array Slot), lv_has ls 9 [(8, .int (nI d)), (7, .int (pForce told (w 48))), (6, .int cost), (5, .int coal), (0, .ref (a 0)), (1, .int (nI s)), (2, .int (nI k)), (3, .int t), (4, .int c)] → W jp l je R js jm args below meth jc H locs 0 0 Q (F0 jm 28 ls []) := by
    intro fuel
    induction fuel with
    | zero => intro d coal cost qd bh1 mi1 fb1 w1 ba1 hm; exact absurd hm (Nat.not_lt_zero _)
    | succ fuel ih_28 =>
      intro d coal cost qd bh1 mi1 fb1 w1 ba1 hm_28 hd hco hM hW1 hE H locs hw ls hl
      refine lv_iload hx hb dX8_costOf_28 (lv_at hl 0 rfl) ?_
      refine lv_iload_n hx hb dX8_costOf_30 rfl (lv_at hl 6 rfl) ?_
      refine r_cge hx hb d k (by omega) (by omega) (tgt := 140) dX8_costOf_31 (by decide) (fun c_31 => ?_) (fun c_31 => ?_)
      · refine lv_iload hx hb dX8_costOf_140 (lv_at hl 2 rfl) ?_
        exact kr cost (bh1, mi1, fb1, w1, ba1) _ _ _ _ hw ⟨(cl_end (by omega) hE), hW1⟩ dX8_costOf_142
      · refine lv_iload hx hb dX8_costOf_34 (lv_at hl 2 rfl) ?_
        refine lv_iload hx hb dX8_costOf_36 (lv_at hl 3 rfl) ?_
        have kj_38 : ∀ (w_1 : Int32) (ls : Array Slot), w_1 = (if coal = 0 then (told 8) else 0) → lv_has ls 9 [(8, .int (nI d)), (7, .int (pForce told (w 48))), (6, .int cost), (5, .int coal), (0, .ref (a 0)), (1, .int (nI s)), (2, .int (nI k)), (3, .int t), (4, .int c)] → W jp l je R js jm args below meth jc H locs 0 0 Q (F0 jm 52 ls [.int w_1, .int cost]) := by
          intro w_1 ls e_w_1 hl
          subst e_w_1
          refine lv_iadd hx hb dX8_costOf_52 ?_
          refine r_top (y := coW coal cost (told 8)) (mco_w hco) ?_
          refine lv_istore (lv' := [(6, .int (coW coal cost (told 8))), (8, .int (nI d)), (7, .int (pForce told (w 48))), (5, .int coal), (0, .ref (a 0)), (1, .int (nI s)), (2, .int (nI k)), (3, .int t), (4, .int c)]) hx hb dX8_costOf_53 hl (by decide) rfl (fun ls hl => ?_)
          refine lv_iload hx hb dX8_costOf_55 (lv_at hl 3 rfl) ?_
          refine lv_iload hx hb dX8_costOf_57 (lv_at hl 3 rfl) ?_
          have kj_59 : ∀ (w_2 : Int32) (ls : Array Slot), w_2 = (if coal = 0 then 0 else 1) → lv_has ls 9 [(6, .int (coW coal cost (told 8))), (8, .int (nI d)), (7, .int (pForce told (w 48))), (5, .int coal), (0, .ref (a 0)), (1, .int (nI s)), (2, .int (nI k)), (3, .int t), (4, .int c)] → W jp l je R js jm args below meth jc H locs 0 0 Q (F0 jm 67 ls [.int w_2, .int coal]) := by
            intro w_2 ls e_w_2 hl
            subst e_w_2
            refine lv_isub hx hb dX8_costOf_67 ?_
            refine r_top (y := coL coal) (mco_l hco) ?_
            refine lv_istore (lv' := [(5, .int (coL coal)), (6, .int (coW coal cost (told 8))), (8, .int (nI d)), (7, .int (pForce told (w 48))), (0, .ref (a 0)), (1, .int (nI s)), (2, .int (nI k)), (3, .int t), (4, .int c)]) hx hb dX8_costOf_68 hl (by decide) rfl (fun ls hl => ?_)
            refine lv_iload_n hx hb dX8_costOf_70 rfl (lv_at hl 5 rfl) ?_
            refine lv_iload hx hb dX8_costOf_71 (lv_at hl 2 rfl) ?_
            refine lv_ishr hx hb dX8_costOf_73 ?_
            refine lv_iconst (v := 1) hx hb dX8_costOf_74 (by decide) ?_
            refine lv_iand hx hb dX8_costOf_75 ?_
            refine lv_iconst (v := 1) hx hb dX8_costOf_76 (by decide) ?_
            refine lv_icmp_ne (tgt := 126) hx hb dX8_costOf_77 (by decide) (fun c_77 => ?_) (fun c_77 => ?_)
            · refine lv_aload_n hx hb dX8_costOf_126 rfl (lv_at hl 4 rfl) ?_
              refine lv_bipush (v := 51) hx hb dX8_costOf_127 (by decide) ?_
              refine lv_iload hx hb dX8_costOf_129 (lv_at hl 8 rfl) ?_
              have hw := hw.m2
              have hw := hw.m1
              refine c_vv (As := [.int 51, .int c]) (rest := []) ⟨hx, hb, hml, hown, hts⟩ (k_X8_nightOf l D c4 A ((aG c4 (a 2) 18 told) :: (aG c4 (a 7) 12 ba1) :: Ts) a n tx pl st va fy fa ry se bh1 mi1 fb1 bo bk w1 qd 51 c hn hM (by decide) hc) (cwV 2 hts gX8_costOf_X8_nightOf rfl rfl rfl (by decide +kernel) (rmv (Nat.le_of_ble_eq_true rfl) (Nat.le_of_ble_eq_true rfl) hRf hRl)) hK trivial hw rfl rfl rfl hl rfl (Nat.le_of_ble_eq_true rfl) ⟨Nat.zero_le _, Nat.zero_le _⟩ dX8_costOf_131 (fun u_131 H locs hpq hw => ?_)
              obtain ⟨w2_131, rfl⟩ : ∃ z, z = u_131 := ⟨_, rfl⟩
              have hw : gW D A js.heap ((mG a (nI n) tx pl st va fy fa ry se bh1 mi1 fb1 bo bk) :: (aG c4 (a 1) 204 w2_131) :: (aG c4 (a 2) 18 told) :: (aG c4 (a 7) 12 ba1) :: Ts) H locs := hw
              obtain ⟨hM_131, hN_131, hO_131⟩ := hpq
              have hM_131 : mY (fun y => nightQ c (qd y)) n w2_131 51 := hM_131
              have hN_131 : w2_131 (51 + 49) = w1 (51 + 49) + 1 := hN_131
              have hO_131 : wOt 51 w1 w2_131 := hO_131
              refine lv_iinc (v := (nI (d + 1))) (lv' := [(8, .int (nI (d + 1))), (5, .int (coL coal)), (6, .int (coW coal cost (told 8))), (7, .int (pForce told (w 48))), (0, .ref (a 0)), (1, .int (nI s)), (2, .int (nI k)), (3, .int t), (4, .int c)]) hx hb dX8_costOf_134 hl (k := 2) rfl (nI_add _ _) (by decide) rfl (fun ls hl => ?_)
              refine lv_goto (tgt := 28) hx hb dX8_costOf_137 (by decide) ?_
              have hw := hw.m3
              have hw := hw.m2
              have hw := hw.m3
              have hw := hw.m3
              exact ih_28 (d + 1) (coL coal) (coW coal cost (told 8)) (fun y => nightQ c (qd y)) bh1 mi1 fb1 w2_131 ba1 (by omega) (by omega) (coL_rng hco) hM_131 (hW1.t hO_131) (cl_no hs c_31 hk c_77 hE) _ _ hw ls (lv_sub hl [0, 3, 2, 1, 4, 5, 6, 7, 8] rfl)
            · refine lv_iload hx hb dX8_costOf_80 (lv_at hl 1 rfl) ?_
              refine lv_aload_n hx hb dX8_costOf_82 rfl (lv_at hl 4 rfl) ?_
              refine r_get (T := TX8) (v := .ref (a 2)) hx hb hts hi8 hown hK hw 0 rfl rfl 1 (by decide) f_0 rfl dX8_costOf_83 ?_
              refine lv_bipush (v := 7) hx hb dX8_costOf_86 (by decide) ?_
              refine r_iald hx hb hK hw 1 0 rfl rfl 7 (by omega) (by decide) dX8_costOf_88 ?_
              refine lv_iadd hx hb dX8_costOf_89 ?_
              refine lv_istore (lv' := [(6, .int ((coW coal cost (told 8)) + (told 7))), (5, .int (coL coal)), (8, .int (nI d)), (7, .int (pForce told (w 48))), (0, .ref (a 0)), (1, .int (nI s)), (2, .int (nI k)), (3, .int t), (4, .int c)]) hx hb dX8_costOf_90 hl (by decide) rfl (fun ls hl => ?_)
              refine lv_aload_n hx hb dX8_costOf_92 rfl (lv_at hl 4 rfl) ?_
              refine lv_bipush (v := 51) hx hb dX8_costOf_93 (by decide) ?_
              refine lv_iload_n hx hb dX8_costOf_95 rfl (lv_at hl 7 rfl) ?_
              refine lv_iload hx hb dX8_costOf_96 (lv_at hl 3 rfl) ?_
              have hw := hw.m3
              have hw := hw.m3
              have hw := hw.m3
              have hw := hw.m3
              refine c_vv (As := [.int 51, .int t, .int (pForce told (w 48))]) (rest := []) ⟨hx, hb, hml, hown, hts⟩ (k_X8_goes l D c4 A Ts a n tx pl st va fy fa ry se bh1 mi1 fb1 bo bk told w1 ba1 qd 51 t (pForce told (w 48)) hn hM (by decide) (force_rng hT _)) (cwV 3 hts gX8_costOf_X8_goes rfl rfl rfl (by decide +kernel) (rmv (Nat.le_of_ble_eq_true rfl) (Nat.le_of_ble_eq_true rfl) hRf hRl)) hK trivial hw rfl rfl rfl hl rfl (Nat.le_of_ble_eq_true rfl) ⟨Nat.zero_le _, Nat.zero_le _⟩ dX8_costOf_98 (fun u_98 H locs hpq hw => ?_)
              obtain ⟨b2_98, w2_98, ba2_98⟩ := u_98
              have hw : gW D A js.heap ((mG a (nI n) tx pl st va fy fa ry se (nI b2_98) (cumQ (pForce told (w 48)) (told 5) qd b2_98) (fbQ qd b2_98) bo bk) :: (aG c4 (a 2) 18 told) :: (aG c4 (a 1) 204 w2_98) :: (aG c4 (a 7) 12 ba2_98) :: Ts) H locs := hw
              obtain ⟨hb2_98, hba_98, hM_98, hO_98⟩ := hpq
              have hb2_98 : b2_98 = bhQ (pForce told (w 48)) (told 5) t qd n := hb2_98
              have hba_98 : ∀ k, k < b2_98 → ba2_98 k = cumQ (pForce told (w 48)) (told 5) qd (k + 1) := hba_98
              have hM_98 : mY (mixQ openQ qd b2_98) n w2_98 51 := hM_98
              have hO_98 : wOut 51 w1 w2_98 := hO_98
              have hle : b2_98 ≤ n := by rw [hb2_98]; exact bh_le _ _ _ _ _
              refine lv_aload_n hx hb dX8_costOf_101 rfl (lv_at hl 4 rfl) ?_
              refine r_get (T := TX8) (v := .int (nI b2_98)) hx hb hts hi8 hown hK hw 0 rfl rfl 16 (by decide) f_1 rfl dX8_costOf_102 ?_
              refine lv_aload_n hx hb dX8_costOf_105 rfl (lv_at hl 4 rfl) ?_
              refine r_get (T := TX8) (v := .int (nI n)) hx hb hts hi8 hown hK hw 0 rfl rfl 2 (by decide) f_2 rfl dX8_costOf_106 ?_
              have kj_109 : ∀ (w_3 : Int32) (ls : Array Slot), w_3 = (if b2_98 = n then (told 6) else (coL coal)) → lv_has ls 9 [(6, .int ((coW coal cost (told 8)) + (told 7))), (5, .int (coL coal)), (8, .int (nI d)), (7, .int (pForce told (w 48))), (0, .ref (a 0)), (1, .int (nI s)), (2, .int (nI k)), (3, .int t), (4, .int c)] → W jp l je R js jm args below meth jc H locs 0 0 Q (F0 jm 124 ls [.int w_3]) := by
                intro w_3 ls e_w_3 hl
                subst e_w_3
                refine lv_istore (lv' := [(5, .int (if b2_98 = n then (told 6) else (coL coal))), (6, .int ((coW coal cost (told 8)) + (told 7))), (8, .int (nI d)), (7, .int (pForce told (w 48))), (0, .ref (a 0)), (1, .int (nI s)), (2, .int (nI k)), (3, .int t), (4, .int c)]) hx hb dX8_costOf_124 hl (by decide) rfl (fun ls hl => ?_)
                refine lv_aload_n hx hb dX8_costOf_126 rfl (lv_at hl 4 rfl) ?_
                refine lv_bipush (v := 51) hx hb dX8_costOf_127 (by decide) ?_
                refine lv_iload hx hb dX8_costOf_129 (lv_at hl 8 rfl) ?_
                have hw := hw.m2
                have hw := hw.m1
                refine c_vv (As := [.int 51, .int c]) (rest := []) ⟨hx, hb, hml, hown, hts⟩ (k_X8_nightOf l D c4 A ((aG c4 (a 2) 18 told) :: (aG c4 (a 7) 12 ba2_98) :: Ts) a n tx pl st va fy fa ry se (nI b2_98) (cumQ (pForce told (w 48)) (told 5) qd b2_98) (fbQ qd b2_98) bo bk w2_98 (mixQ openQ qd b2_98) 51 c hn hM_98 (by decide) hc) (cwV 2 hts gX8_costOf_X8_nightOf rfl rfl rfl (by decide +kernel) (rmv (Nat.le_of_ble_eq_true rfl) (Nat.le_of_ble_eq_true rfl) hRf hRl)) hK trivial hw rfl rfl rfl hl rfl (Nat.le_of_ble_eq_true rfl) ⟨Nat.zero_le _, Nat.zero_le _⟩ dX8_costOf_131 (fun u_131 H locs hpq hw => ?_)
                obtain ⟨w2_131, rfl⟩ : ∃ z, z = u_131 := ⟨_, rfl⟩
                have hw : gW D A js.heap ((mG a (nI n) tx pl st va fy fa ry se (nI b2_98) (cumQ (pForce told (w 48)) (told 5) qd b2_98) (fbQ qd b2_98) bo bk) :: (aG c4 (a 1) 204 w2_131) :: (aG c4 (a 2) 18 told) :: (aG c4 (a 7) 12 ba2_98) :: Ts) H locs := hw
                obtain ⟨hM_131, hN_131, hO_131⟩ := hpq
                have hM_131 : mY (fun y => nightQ c ((mixQ openQ qd b2_98) y)) n w2_131 51 := hM_131
                have hN_131 : w2_131 (51 + 49) = w2_98 (51 + 49) + 1 := hN_131
                have hO_131 : wOt 51 w2_98 w2_131 := hO_131
                refine lv_iinc (v := (nI (d + 1))) (lv' := [(8, .int (nI (d + 1))), (5, .int (if b2_98 = n then (told 6) else (coL coal))), (6, .int ((coW coal cost (told 8)) + (told 7))), (7, .int (pForce told (w 48))), (0, .ref (a 0)), (1, .int (nI s)), (2, .int (nI k)), (3, .int t), (4, .int c)]) hx hb dX8_costOf_134 hl (k := 2) rfl (nI_add _ _) (by decide) rfl (fun ls hl => ?_)
                refine lv_goto (tgt := 28) hx hb dX8_costOf_137 (by decide) ?_
                have hw := hw.m3
                have hw := hw.m2
                have hw := hw.m3
                have hw := hw.m3
                exact ih_28 (d + 1) (if b2_98 = n then (told 6) else (coL coal)) ((coW coal cost (told 8)) + (told 7)) (fun y => nightQ c (mixQ openQ qd b2_98 y)) (nI b2_98) (cumQ (pForce told (w 48)) (told 5) qd b2_98) (fbQ qd b2_98) w2_131 ba2_98 (by omega) (by omega) (coT_rng hco hT.2.2.2.2.2.2.1) hM_131 ((hW1.o hO_98).t hO_131) (cl_yes hs c_31 hk c_77 hb2_98 hE) _ _ hw ls (lv_sub hl [0, 3, 2, 1, 4, 5, 6, 7, 8] rfl)
              refine r_cne hx hb b2_98 n (by omega) (by omega) (tgt := 122) dX8_costOf_109 (by decide) (fun c_109 => ?_) (fun c_109 => ?_)
              · refine lv_iload hx hb dX8_costOf_122 (lv_at hl 1 rfl) ?_
                exact kj_109 _ ls (by first | rfl | (rw [if_neg c_109]; done) | (simp only [if_neg c_109]; done) | simp [c_109]) (lv_sub hl [0, 1, 2, 3, 4, 5, 6, 7, 8] rfl)
              · refine lv_aload_n hx hb dX8_costOf_112 rfl (lv_at hl 4 rfl) ?_
                refine r_get (T := TX8) (v := .ref (a 2)) hx hb hts hi8 hown hK hw 0 rfl rfl 1 (by decide) f_0 rfl dX8_costOf_113 ?_
                refine lv_bipush (v := 6) hx hb dX8_costOf_116 (by decide) ?_
                refine r_iald hx hb hK hw 1 0 rfl rfl 6 (by omega) (by decide) dX8_costOf_118 ?_
                refine lv_goto (tgt := 124) hx hb dX8_costOf_119 (by decide) ?_
                exact kj_109 _ ls (by first | rfl | (rw [if_pos c_109]; done) | (simp only [if_pos c_109]; done) | simp [c_109]) (lv_sub hl [0, 1, 2, 3, 4, 5, 6, 7, 8] rfl)
          refine lv_if_ne (tgt := 66) hx hb dX8_costOf_59 (by decide) (fun c_59 => ?_) (fun c_59 => ?_)
          · refine lv_iconst (v := 1) hx hb dX8_costOf_66 (by decide) ?_
            exact kj_59 _ ls (by first | rfl | (rw [if_neg c_59]; done) | (simp only [if_neg c_59]; done) | simp [c_59]) (lv_sub hl [0, 1, 2, 3, 4, 5, 6, 7, 8] rfl)
          · refine lv_iconst (v := 0) hx hb dX8_costOf_62 (by decide) ?_
            refine lv_goto (tgt := 67) hx hb dX8_costOf_63 (by decide) ?_
            exact kj_59 _ ls (by first | rfl | (rw [if_pos c_59]; done) | (simp only [if_pos c_59]; done) | simp [c_59]) (lv_sub hl [0, 1, 2, 3, 4, 5, 6, 7, 8] rfl)
        refine lv_if_ne (tgt := 51) hx hb dX8_costOf_38 (by decide) (fun c_38 => ?_) (fun c_38 => ?_)
        · refine lv_iconst (v := 0) hx hb dX8_costOf_51 (by decide) ?_
          exact kj_38 _ ls (by first | rfl | (rw [if_neg c_38]; done) | (simp only [if_neg c_38]; done) | simp [c_38]) (lv_sub hl [0, 1, 2, 3, 4, 5, 6, 7, 8] rfl)
        · refine lv_aload_n hx hb dX8_costOf_41 rfl (lv_at hl 4 rfl) ?_
          refine r_get (T := TX8) (v := .ref (a 2)) hx hb hts hi8 hown hK hw 0 rfl rfl 1 (by decide) f_0 rfl dX8_costOf_42 ?_
          refine lv_bipush (v := 8) hx hb dX8_costOf_45 (by decide) ?_
          refine r_iald hx hb hK hw 1 0 rfl rfl 8 (by omega) (by decide) dX8_costOf_47 ?_
          refine lv_goto (tgt := 52) hx hb dX8_costOf_48 (by decide) ?_
          exact kj_38 _ ls (by first | rfl | (rw [if_pos c_38]; done) | (simp only [if_pos c_38]; done) | simp [c_38]) (lv_sub hl [0, 1, 2, 3, 4, 5, 6, 7, 8] rfl)
  exact loop_28 ((k - 0) + 1) 0 (told 6) 0 q bh mi fb (fb_put w (fun k => w (0 + k)) 51 51) ba (Nat.lt_succ_self _) (Nat.zero_le _) hT.2.2.2.2.2.2.1 (cp_mY hn hY) wNow.c cl_init _ _ hw ls (lv_sub hl [0, 1, 2, 3, 4, 5, 6, 7, 8] rfl)
set_option maxHeartbeats 4000000 in
set_option maxRecDepth 100000 in
theorem k_X8_plan (l : Launch) (D : va_G) (c4 : Nat → ClassId) (A : Nat → Prop) (Ts : List va_W) (a : Nat → Nat) (n : Nat) (tx : Int32) (pl : Int32) (st : Int32) (va : Int32) (fy : Int32) (fa : Int32) (ry : Int32) (se : Int32) (bh : Int32) (mi : Int32) (fb : Int32) (bo : Int32) (bk : Int32) (told : Nat → Int32) (w : Nat → Int32) (ba : Nat → Int32) (q : Nat → Yq) (k : Int32) (t : Int32) (c : Int32) (v : Int32) (hn : n ≤ 12) (hY : mY q n w 0) (hT : tlOk told) (hbt : rng (w 48) 1 9) : Ci l yX8_plan wsX8_plan 3 75 [.ref (a 0), .int k, .int t, .int c, .int v] D (tyA c4) A none ((mG a (nI n) tx pl st va fy fa ry se bh mi fb bo bk) :: (aG c4 (a 2) 18 told) :: (aG c4 (a 1) 204 w) :: (aG c4 (a 7) 12 ba) :: Ts) (S := Int32 × Int32 × Int32 × (Nat → Int32) × (Nat → Int32)) (fun (r : Int32) (u : Int32 × Int32 × Int32 × (Nat → Int32) × (Nat → Int32)) => (r = (planF k t c v told (pForce told (w 48)) q n)) ∧ (wNow w u.2.2.2.1)) (fun u => ((mG a (nI n) tx pl st va fy fa ry se u.1 u.2.1 u.2.2.1 bo bk) :: (aG c4 (a 2) 18 told) :: (aG c4 (a 1) 204 u.2.2.2.1) :: (aG c4 (a 7) 12 u.2.2.2.2) :: Ts)) := by
  refine cOi (cc := cX8_plan) (maxL := 9) (by decide) rfl (Nat.le_of_ble_eq_true rfl) rfl ?_
  rintro jp je js jm below meth jc ls args R Q H locs hRf hRl ⟨hx, hb, hml, hr, hts, hown, hlocks, hK, hX⟩ hw hl kr
  have hown : js.vm.findClass RX8 = some jm.cls := hown
  have f_0 := hts (.constantLong RX8 210 (8)) (by decide +kernel)
  have f_1 := hts (.constant RX8 83 (-1000000002)) (by decide +kernel)
  have f_2 := hts (.constantLong RX8 153 (30)) (by decide +kernel)
  have f_3 := hts (.fieldLink RX8 60 "IceSwayModel" "yards" "I") (by decide +kernel)
  have f_4 := hts (.constant RX8 212 (1000000000)) (by decide +kernel)
  have f_5 := hts (.constant RX8 189 (-1000000003)) (by decide +kernel)
  have hi8 : ∀ w ∈ u_ws RX8 TX8 28, w ∈ wsX8_plan := fun w h => List.mem_cons_of_mem _ (List.mem_append_right _ h)
  refine lv_iload_n hx hb dX8_plan_0 rfl (lv_at hl 1 rfl) ?_
  refine lv_i2l hx hb dX8_plan_1 rfl ?_
  refine lv_lconst (v := 1) hx hb dX8_plan_2 (by decide) ?_
  refine lv_ldc2 hx hb hown f_0 dX8_plan_3 ?_
  refine c_si (As := [.long k.toInt64, .long 1, .long 8]) (rest := []) ⟨hx, hb, hml, hown, hts⟩ (k_X8_in l D c4 A ((mG a (nI n) tx pl st va fy fa ry se bh mi fb bo bk) :: (aG c4 (a 2) 18 told) :: (aG c4 (a 1) 204 w) :: (aG c4 (a 7) 12 ba) :: Ts) k.toInt64 1 8) (va_cwS 3 hts gX8_plan_X8_in rfl rfl rfl (by decide +kernel) (rmv (Nat.le_of_ble_eq_true rfl) (Nat.le_of_ble_eq_true rfl) hRf hRl)) hK trivial hw rfl hl rfl (Nat.le_of_ble_eq_true rfl) ⟨Nat.zero_le _, Nat.zero_le _⟩ dX8_plan_6 (fun r_6 u_6 H locs hpq hw => ?_)
  obtain ⟨h0_6, h1_6, hz_6⟩ := hpq
  refine lv_if_eq (tgt := 42) hx hb dX8_plan_9 (by decide) (fun c_9 => ?_) (fun c_9 => ?_)
  · refine lv_ldc hx hb hown f_1 dX8_plan_42 ?_
    exact kr (-1000000002) (bh, mi, fb, w, ba) _ _ _ _ hw ⟨(by unfold planF; rw [if_neg (fun z => h0_6 c_9 ((inL (lo := 1) (hi := 8) rfl rfl).mpr z))]), (wNow.rf _)⟩ dX8_plan_44
  · refine lv_iload_n hx hb dX8_plan_12 rfl (lv_at hl 2 rfl) ?_
    refine c_si (As := [.int t]) (rest := []) ⟨hx, hb, hml, hown, hts⟩ (k_X8_isTime l D c4 A ((mG a (nI n) tx pl st va fy fa ry se bh mi fb bo bk) :: (aG c4 (a 2) 18 told) :: (aG c4 (a 1) 204 w) :: (aG c4 (a 7) 12 ba) :: Ts) t) (va_cwS 1 hts gX8_plan_X8_isTime rfl rfl rfl (by decide +kernel) (rmv (Nat.le_of_ble_eq_true rfl) (Nat.le_of_ble_eq_true rfl) hRf hRl)) hK trivial hw rfl hl rfl (Nat.le_of_ble_eq_true rfl) ⟨Nat.zero_le _, Nat.zero_le _⟩ dX8_plan_13 (fun r_13 u_13 H locs hpq hw => ?_)
    obtain ⟨h0_13, h1_13⟩ := hpq
    refine lv_if_eq (tgt := 42) hx hb dX8_plan_16 (by decide) (fun c_16 => ?_) (fun c_16 => ?_)
    · refine lv_ldc hx hb hown f_1 dX8_plan_42 ?_
      exact kr (-1000000002) (bh, mi, fb, w, ba) _ _ _ _ hw ⟨(by unfold planF; rw [if_pos ((inL (lo := 1) (hi := 8) rfl rfl).mp (h1_6 c_9)), if_neg (h0_13 c_16)]), (wNow.rf _)⟩ dX8_plan_44
    · refine lv_iload_n hx hb dX8_plan_19 rfl (lv_at hl 3 rfl) ?_
      refine lv_i2l hx hb dX8_plan_20 rfl ?_
      refine lv_lconst (v := 0) hx hb dX8_plan_21 (by decide) ?_
      refine lv_ldc2 hx hb hown f_2 dX8_plan_22 ?_
      refine c_si (As := [.long c.toInt64, .long 0, .long 30]) (rest := []) ⟨hx, hb, hml, hown, hts⟩ (k_X8_in l D c4 A ((mG a (nI n) tx pl st va fy fa ry se bh mi fb bo bk) :: (aG c4 (a 2) 18 told) :: (aG c4 (a 1) 204 w) :: (aG c4 (a 7) 12 ba) :: Ts) c.toInt64 0 30) (va_cwS 3 hts gX8_plan_X8_in rfl rfl rfl (by decide +kernel) (rmv (Nat.le_of_ble_eq_true rfl) (Nat.le_of_ble_eq_true rfl) hRf hRl)) hK trivial hw rfl hl rfl (Nat.le_of_ble_eq_true rfl) ⟨Nat.zero_le _, Nat.zero_le _⟩ dX8_plan_25 (fun r_25 u_25 H locs hpq hw => ?_)
      obtain ⟨h0_25, h1_25, hz_25⟩ := hpq
      refine lv_if_eq (tgt := 42) hx hb dX8_plan_28 (by decide) (fun c_28 => ?_) (fun c_28 => ?_)
      · refine lv_ldc hx hb hown f_1 dX8_plan_42 ?_
        exact kr (-1000000002) (bh, mi, fb, w, ba) _ _ _ _ hw ⟨(by unfold planF; rw [if_pos ((inL (lo := 1) (hi := 8) rfl rfl).mp (h1_6 c_9)), if_pos (h1_13 c_16), if_neg (fun z => h0_25 c_28 ((inL (lo := 0) (hi := 30) rfl rfl).mpr z))]), (wNow.rf _)⟩ dX8_plan_44
      · refine lv_iload hx hb dX8_plan_31 (lv_at hl 4 rfl) ?_
        refine lv_i2l hx hb dX8_plan_33 rfl ?_
        refine lv_lconst (v := 0) hx hb dX8_plan_34 (by decide) ?_
        refine lv_lconst (v := 1) hx hb dX8_plan_35 (by decide) ?_
        refine c_si (As := [.long v.toInt64, .long 0, .long 1]) (rest := []) ⟨hx, hb, hml, hown, hts⟩ (k_X8_in l D c4 A ((mG a (nI n) tx pl st va fy fa ry se bh mi fb bo bk) :: (aG c4 (a 2) 18 told) :: (aG c4 (a 1) 204 w) :: (aG c4 (a 7) 12 ba) :: Ts) v.toInt64 0 1) (va_cwS 3 hts gX8_plan_X8_in rfl rfl rfl (by decide +kernel) (rmv (Nat.le_of_ble_eq_true rfl) (Nat.le_of_ble_eq_true rfl) hRf hRl)) hK trivial hw rfl hl rfl (Nat.le_of_ble_eq_true rfl) ⟨Nat.zero_le _, Nat.zero_le _⟩ dX8_plan_36 (fun r_36 u_36 H locs hpq hw => ?_)
        obtain ⟨h0_36, h1_36, hz_36⟩ := hpq
        refine lv_if_ne (tgt := 45) hx hb dX8_plan_39 (by decide) (fun c_39 => ?_) (fun c_39 => ?_)
        · refine lv_aload_n hx hb dX8_plan_45 rfl (lv_at hl 0 rfl) ?_
          refine r_get (T := TX8) (v := .int (nI n)) hx hb hts hi8 hown hK hw 0 rfl rfl 2 (by decide) f_3 rfl dX8_plan_46 ?_
          refine r_zne hx hb n (by omega) (tgt := 55) dX8_plan_49 (by decide) (fun c_49 => ?_) (fun c_49 => ?_)
          · obtain ⟨j, hj1, hj8, ej⟩ := (show inR k 1 8 from ((inL (lo := 1) (hi := 8) rfl rfl).mp (h1_6 c_9))).nat (a := 1) (b := 8) rfl rfl
            have h2j : 2 ^ j ≤ 256 := Nat.pow_le_pow_right (by decide) hj8
            refine lv_iconst (v := 0) hx hb dX8_plan_55 (by decide) ?_
            refine lv_istore (lv' := [(5, .int 0), (0, .ref (a 0)), (1, .int k), (2, .int t), (3, .int c), (4, .int v)]) hx hb dX8_plan_56 hl (by decide) rfl (fun ls hl => ?_)
            refine lv_ldc hx hb hown f_4 dX8_plan_58 ?_
            refine lv_istore (lv' := [(6, .int 1000000000), (5, .int 0), (0, .ref (a 0)), (1, .int k), (2, .int t), (3, .int c), (4, .int v)]) hx hb dX8_plan_60 hl (by decide) rfl (fun ls hl => ?_)
            refine lv_iconst (v := 0) hx hb dX8_plan_62 (by decide) ?_
            refine lv_istore (lv' := [(7, .int 0), (6, .int 1000000000), (5, .int 0), (0, .ref (a 0)), (1, .int k), (2, .int t), (3, .int c), (4, .int v)]) hx hb dX8_plan_63 hl (by decide) rfl (fun ls hl => ?_)
            have loop_65 : ∀ (fuel : Nat) (s : Nat) (le : Int32) (be : Int32) (bh1 : Int32) (mi1 : Int32) (fb1 : Int32) (w1 : Nat → Int32) (ba1 : Nat → Int32), (2 ^ j - s) < fuel → (s ≤ 2 ^ j) → (isMin (fun p => ∃ u, u < s ∧ p = ((fun u => costL n (pForce told (w 48)) (told 5) t c (told 6) (told 7) (told 8) j u q (told 6) 0) u, nI u)) (1000000000, 0) (le, be)) → (wNow w w1) → ∀ (H : Heap) (locs : List Loc), gW D A js.heap ((mG a (nI n) tx pl st va fy fa ry se bh1 mi1 fb1 bo bk) :: (aG c4 (a 2) 18 told) :: (aG c4 (a 1) 204 w1) :: (aG c4 (a 7) 12 ba1) :: Ts) H locs → ∀ (ls : Array Slot), lv_has ls 9 [(7, .int (nI s)), (6, .int le), (5, .int be), (0, .ref (a 0)), (1, .int k), (2, .int t), (3, .int c), (4, .int v)] → W jp l je R js jm args below meth jc H locs 0 0 Q (F0 jm 65 ls []) := by
              intro fuel
              induction fuel with
              | zero => intro s le be bh1 mi1 fb1 w1 ba1 hm; exact absurd hm (Nat.not_lt_zero _)
              | succ fuel ih_65 =>
                intro s le be bh1 mi1 fb1 w1 ba1 hm_65 hs hm hW1 H locs hw ls hl
                refine lv_iload hx hb dX8_plan_65 (lv_at hl 0 rfl) ?_
                refine lv_iconst (v := 1) hx hb dX8_plan_67 (by decide) ?_
                refine lv_iload_n hx hb dX8_plan_68 rfl (lv_at hl 4 rfl) ?_
                refine r_top (y := nI j) ej ?_
                refine lv_ishl hx hb dX8_plan_69 ?_
                refine r_top (y := nI (2 ^ j)) (shl_one (by omega)) ?_
                refine r_cge hx hb s (2 ^ j) (by omega) (by omega) (tgt := 122) dX8_plan_70 (by decide) (fun c_70 => ?_) (fun c_70 => ?_)
                · refine lv_iload hx hb dX8_plan_122 (lv_at hl 7 rfl) ?_
                  refine lv_if_ne (tgt := 132) hx hb dX8_plan_124 (by decide) (fun c_124 => ?_) (fun c_124 => ?_)
                  · refine lv_iload hx hb dX8_plan_132 (lv_at hl 2 rfl) ?_
                    exact kr be (bh1, mi1, fb1, w1, ba1) _ _ _ _ hw ⟨(by unfold planF; rw [if_pos ((inL (lo := 1) (hi := 8) rfl rfl).mp (h1_6 c_9)), if_pos (h1_13 c_16), if_pos ((inL (lo := 0) (hi := 30) rfl rfl).mp (h1_25 c_28)), if_pos ((inL (lo := 0) (hi := 1) rfl rfl).mp (h1_36 c_39)), if_neg c_49, if_neg c_124, ej, nI_clamp (by omega), plan_is hT.2.2.2.2.2.2.2.2 hT.2.2.2.2.2.2.2.1 hj8 (m := (le, be)) (by rw [show 2 ^ j = s by omega]; exact hm)]), hW1⟩ dX8_plan_134
                  · refine lv_iload hx hb dX8_plan_127 (lv_at hl 1 rfl) ?_
                    refine lv_goto (tgt := 134) hx hb dX8_plan_129 (by decide) ?_
                    exact kr le (bh1, mi1, fb1, w1, ba1) _ _ _ _ hw ⟨(by unfold planF; rw [if_pos ((inL (lo := 1) (hi := 8) rfl rfl).mp (h1_6 c_9)), if_pos (h1_13 c_16), if_pos ((inL (lo := 0) (hi := 30) rfl rfl).mp (h1_25 c_28)), if_pos ((inL (lo := 0) (hi := 1) rfl rfl).mp (h1_36 c_39)), if_neg c_49, if_pos c_124, ej, nI_clamp (by omega), plan_is hT.2.2.2.2.2.2.2.2 hT.2.2.2.2.2.2.2.1 hj8 (m := (le, be)) (by rw [show 2 ^ j = s by omega]; exact hm)]), hW1⟩ dX8_plan_134
                · refine lv_aload_n hx hb dX8_plan_73 rfl (lv_at hl 3 rfl) ?_
                  refine lv_iload hx hb dX8_plan_74 (lv_at hl 0 rfl) ?_
                  refine lv_iload_n hx hb dX8_plan_76 rfl (lv_at hl 4 rfl) ?_
                  refine r_top (y := nI j) ej ?_
                  refine lv_iload_n hx hb dX8_plan_77 rfl (lv_at hl 5 rfl) ?_
                  refine lv_iload_n hx hb dX8_plan_78 rfl (lv_at hl 6 rfl) ?_
                  have hw := hw.m3
                  have hw := hw.m3
                  have hw := hw.m3
                  have hw := hw.m3
                  refine c_vi (As := [.int (nI s), .int (nI j), .int t, .int c]) (rest := []) ⟨hx, hb, hml, hown, hts⟩ (k_X8_costOf l D c4 A Ts a n tx pl st va fy fa ry se bh1 mi1 fb1 bo bk told w1 ba1 q s j t c hn (hY.now hn hW1) hT (by rw [hW1 48 (by omega)]; exact hbt) hj8 (by omega) (coldI ((inL (lo := 0) (hi := 30) rfl rfl).mp (h1_25 c_28)))) (cwV 4 hts gX8_plan_X8_costOf rfl rfl rfl (by decide +kernel) (rmv (Nat.le_of_ble_eq_true rfl) (Nat.le_of_ble_eq_true rfl) hRf hRl)) hK trivial hw rfl rfl rfl hl rfl (Nat.le_of_ble_eq_true rfl) ⟨Nat.zero_le _, Nat.zero_le _⟩ dX8_plan_79 (fun r_79 u_79 H locs hpq hw => ?_)
                  obtain ⟨bh2_79, mi2_79, fb2_79, w2_79, ba2_79⟩ := u_79
                  have hw : gW D A js.heap ((mG a (nI n) tx pl st va fy fa ry se bh2_79 mi2_79 fb2_79 bo bk) :: (aG c4 (a 2) 18 told) :: (aG c4 (a 1) 204 w2_79) :: (aG c4 (a 7) 12 ba2_79) :: Ts) H locs := hw
                  obtain ⟨er_79, hW_79⟩ := hpq
                  have er_79 : r_79 = (costL n (pForce told (w1 48)) (told 5) t c (told 6) (told 7) (told 8) j s q (told 6) 0) := er_79
                  have hW_79 : wNow w1 w2_79 := hW_79
                  subst er_79
                  refine r_top (y := costL n (pForce told (w 48)) (told 5) t c (told 6) (told 7) (told 8) j s q (told 6) 0) (by rw [hW1 48 (by omega)]) ?_
                  refine lv_istore (lv' := [(8, .int (costL n (pForce told (w 48)) (told 5) t c (told 6) (told 7) (told 8) j s q (told 6) 0)), (7, .int (nI s)), (6, .int le), (5, .int be), (0, .ref (a 0)), (1, .int k), (2, .int t), (3, .int c), (4, .int v)]) hx hb dX8_plan_82 hl (by decide) rfl (fun ls hl => ?_)
                  refine lv_iload hx hb dX8_plan_84 (lv_at hl 0 rfl) ?_
                  refine lv_iload hx hb dX8_plan_86 (lv_at hl 2 rfl) ?_
                  have kj_88 : ∀ (w_1 : Int32) (ls : Array Slot), w_1 = (if le ≤ (costL n (pForce told (w 48)) (told 5) t c (told 6) (told 7) (told 8) j s q (told 6) 0) then be else (nI s)) → lv_has ls 9 [(8, .int (costL n (pForce told (w 48)) (told 5) t c (told 6) (told 7) (told 8) j s q (told 6) 0)), (7, .int (nI s)), (6, .int le), (5, .int be), (0, .ref (a 0)), (1, .int k), (2, .int t), (3, .int c), (4, .int v)] → W jp l je R js jm args below meth jc H locs 0 0 Q (F0 jm 98 ls [.int w_1]) := by
                    intro w_1 ls e_w_1 hl
                    subst e_w_1
                    refine lv_istore (lv' := [(5, .int (if le ≤ (costL n (pForce told (w 48)) (told 5) t c (told 6) (told 7) (told 8) j s q (told 6) 0) then be else (nI s))), (8, .int (costL n (pForce told (w 48)) (told 5) t c (told 6) (told 7) (told 8) j s q (told 6) 0)), (7, .int (nI s)), (6, .int le), (0, .ref (a 0)), (1, .int k), (2, .int t), (3, .int c), (4, .int v)]) hx hb dX8_plan_98 hl (by decide) rfl (fun ls hl => ?_)
                    refine lv_iload hx hb dX8_plan_100 (lv_at hl 1 rfl) ?_
                    refine lv_iload hx hb dX8_plan_102 (lv_at hl 3 rfl) ?_
                    refine lv_icmp_ge (tgt := 112) hx hb dX8_plan_104 (by decide) (fun c_104 => ?_) (fun c_104 => ?_)
                    · refine lv_iload hx hb dX8_plan_112 (lv_at hl 3 rfl) ?_
                      refine lv_istore (lv' := [(6, .int le), (5, .int (if le ≤ (costL n (pForce told (w 48)) (told 5) t c (told 6) (told 7) (told 8) j s q (told 6) 0) then be else (nI s))), (8, .int (costL n (pForce told (w 48)) (told 5) t c (told 6) (told 7) (told 8) j s q (told 6) 0)), (7, .int (nI s)), (0, .ref (a 0)), (1, .int k), (2, .int t), (3, .int c), (4, .int v)]) hx hb dX8_plan_114 hl (by decide) rfl (fun ls hl => ?_)
                      refine lv_iinc (v := (nI (s + 1))) (lv' := [(7, .int (nI (s + 1))), (6, .int le), (5, .int (if le ≤ (costL n (pForce told (w 48)) (told 5) t c (told 6) (told 7) (told 8) j s q (told 6) 0) then be else (nI s))), (8, .int (costL n (pForce told (w 48)) (told 5) t c (told 6) (told 7) (told 8) j s q (told 6) 0)), (0, .ref (a 0)), (1, .int k), (2, .int t), (3, .int c), (4, .int v)]) hx hb dX8_plan_116 hl (k := 3) rfl (nI_add _ _) (by decide) rfl (fun ls hl => ?_)
                      refine lv_goto (tgt := 65) hx hb dX8_plan_119 (by decide) ?_
                      exact ih_65 (s + 1) le (if le ≤ (costL n (pForce told (w 48)) (told 5) t c (told 6) (told 7) (told 8) j s q (told 6) 0) then be else (nI s)) bh2_79 mi2_79 fb2_79 w2_79 ba2_79 (by omega) (by omega) (by have z := mn_s (j := s) (by omega) hm; first | (rw [if_pos c_104] at z; exact z) | (rw [if_neg c_104] at z; exact z)) (hW1.tr hW_79) _ _ hw ls (lv_sub hl [0, 1, 2, 4, 5, 6, 7, 8] rfl)
                    · refine lv_iload hx hb dX8_plan_107 (lv_at hl 1 rfl) ?_
                      refine lv_goto (tgt := 114) hx hb dX8_plan_109 (by decide) ?_
                      refine lv_istore (lv' := [(6, .int (costL n (pForce told (w 48)) (told 5) t c (told 6) (told 7) (told 8) j s q (told 6) 0)), (5, .int (if le ≤ (costL n (pForce told (w 48)) (told 5) t c (told 6) (told 7) (told 8) j s q (told 6) 0) then be else (nI s))), (8, .int (costL n (pForce told (w 48)) (told 5) t c (told 6) (told 7) (told 8) j s q (told 6) 0)), (7, .int (nI s)), (0, .ref (a 0)), (1, .int k), (2, .int t), (3, .int c), (4, .int v)]) hx hb dX8_plan_114 hl (by decide) rfl (fun ls hl => ?_)
                      refine lv_iinc (v := (nI (s + 1))) (lv' := [(7, .int (nI (s + 1))), (6, .int (costL n (pForce told (w 48)) (told 5) t c (told 6) (told 7) (told 8) j s q (told 6) 0)), (5, .int (if le ≤ (costL n (pForce told (w 48)) (told 5) t c (told 6) (told 7) (told 8) j s q (told 6) 0) then be else (nI s))), (8, .int (costL n (pForce told (w 48)) (told 5) t c (told 6) (told 7) (told 8) j s q (told 6) 0)), (0, .ref (a 0)), (1, .int k), (2, .int t), (3, .int c), (4, .int v)]) hx hb dX8_plan_116 hl (k := 3) rfl (nI_add _ _) (by decide) rfl (fun ls hl => ?_)
                      refine lv_goto (tgt := 65) hx hb dX8_plan_119 (by decide) ?_
                      exact ih_65 (s + 1) (costL n (pForce told (w 48)) (told 5) t c (told 6) (told 7) (told 8) j s q (told 6) 0) (if le ≤ (costL n (pForce told (w 48)) (told 5) t c (told 6) (told 7) (told 8) j s q (told 6) 0) then be else (nI s)) bh2_79 mi2_79 fb2_79 w2_79 ba2_79 (by omega) (by omega) (by have z := mn_s (j := s) (by omega) hm; first | (rw [if_pos c_104] at z; exact z) | (rw [if_neg c_104] at z; exact z)) (hW1.tr hW_79) _ _ hw ls (lv_sub hl [0, 1, 2, 4, 5, 6, 7, 8] rfl)
                  refine lv_icmp_ge (tgt := 96) hx hb dX8_plan_88 (by decide) (fun c_88 => ?_) (fun c_88 => ?_)
                  · refine lv_iload hx hb dX8_plan_96 (lv_at hl 3 rfl) ?_
                    exact kj_88 _ ls (by first | rfl | (rw [if_pos c_88]; done) | (simp only [if_pos c_88]; done) | simp [c_88]) (lv_sub hl [0, 1, 2, 3, 4, 5, 6, 7, 8] rfl)
                  · refine lv_iload hx hb dX8_plan_91 (lv_at hl 1 rfl) ?_
                    refine lv_goto (tgt := 98) hx hb dX8_plan_93 (by decide) ?_
                    exact kj_88 _ ls (by first | rfl | (rw [if_neg c_88]; done) | (simp only [if_neg c_88]; done) | simp [c_88]) (lv_sub hl [0, 1, 2, 3, 4, 5, 6, 7, 8] rfl)
            exact loop_65 ((2 ^ j - 0) + 1) 0 1000000000 0 bh mi fb w ba (Nat.lt_succ_self _) (Nat.zero_le _) (mn_0 _ _) (wNow.rf _) _ _ hw ls (lv_sub hl [0, 1, 2, 3, 4, 5, 6, 7] rfl)
          · refine lv_ldc hx hb hown f_5 dX8_plan_52 ?_
            exact kr (-1000000003) (bh, mi, fb, w, ba) _ _ _ _ hw ⟨(by unfold planF; rw [if_pos ((inL (lo := 1) (hi := 8) rfl rfl).mp (h1_6 c_9)), if_pos (h1_13 c_16), if_pos ((inL (lo := 0) (hi := 30) rfl rfl).mp (h1_25 c_28)), if_pos ((inL (lo := 0) (hi := 1) rfl rfl).mp (h1_36 c_39)), if_pos c_49]), (wNow.rf _)⟩ dX8_plan_54
        · refine lv_ldc hx hb hown f_1 dX8_plan_42 ?_
          exact kr (-1000000002) (bh, mi, fb, w, ba) _ _ _ _ hw ⟨(by unfold planF; rw [if_pos ((inL (lo := 1) (hi := 8) rfl rfl).mp (h1_6 c_9)), if_pos (h1_13 c_16), if_pos ((inL (lo := 0) (hi := 30) rfl rfl).mp (h1_25 c_28)), if_neg (fun z => h0_36 c_39 ((inL (lo := 0) (hi := 1) rfl rfl).mpr z))]), (wNow.rf _)⟩ dX8_plan_44
