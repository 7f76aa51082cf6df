set_option maxHeartbeats 4000000 in
set_option maxRecDepth 100000 in
theorem law_loop {jp : Program} {l : Launch} {je : Env} {js : State} {jm : MethodId} {below : List Frame} {meth : Method} {jc : Code} {D : va_G} {c4 : Nat → ClassId} {A : Nat → Prop} {t : Nat → Nat} {b L : Nat} {xs : Nat → Int32} {ad la : Nat → Nat → Nat} {a : Nat → Nat} {lv ig : Nat → Option Nat} (C0 : LC jp js jm meth jc D c4 A t b L xs) (hlv : ∀ k, k < 9 → lv k = some (la k 0)) (him0 : ig 0 = some (ad 12 0)) (him1 : ig 1 = some (ad 13 0)) (hfor : ∀ q, A q → js.heap.size ≤ q) : ∀ (fuel ix : Nat), L + 7 ≤ ix + fuel → ix ≤ L + 6 → ∀ (H : Heap) (locs : List Loc) (ls : Array Slot), LI D c4 A js.heap ad la a lv ig [] H locs → lv_has ls 4 [(0, .ref b), (1, .ref ((ad 0) 0)), (2, .ref (a 0)), (3, .int (nI ix))] → W jp l je room_1 js jm #[Value.ref b] below meth jc H locs 600000 7302250 (lw_Z below #[Value.ref b] js) (F0 jm 18 ls []) := by
  obtain ⟨hx, hb, hr, hml, hown, hts, hXs, hbl, hlocks, hK, hX, hbA, hL3⟩ := id C0
  intro fuel
  induction fuel with
  | zero => intro ix h1 h2; exact absurd h1 (by omega)
  | succ fuel ih =>
    intro ix h1 h2 H locs ls hI hl
    have hS := hI.S
    refine lv_iload_n hx hb dL_law_18 rfl (lv_at hl 3 rfl) ?_
    refine lv_aload_n hx hb dL_law_19 rfl (lv_at hl 0 rfl) ?_
    refine va_slen hx hb hXs hbl hbA hS dL_law_20 ?_
    refine lv_bipush (v := 6) hx hb dL_law_21 (by decide) ?_
    refine lv_isub hx hb dL_law_23 ?_
    refine lv_icmp_gt (tgt := 967) hx hb dL_law_24 (by decide) (fun c_24 => ?_) (fun c_24 => ?_)
    · refine lv_iconst (v := 1) hx hb dL_law_967 (by decide) ?_
      refine va_forget (fun q hq => hfor _ (hS.2.2 q hq)) ?_
      exact lw_ret hx hb hr hlocks dL_law_968
    · have hix : ix + 6 ≤ L := Nat.le_of_not_lt fun z => c_24 ((lenLe hL3 (by omega)).mpr z)
      refine lv_aload_n hx hb dL_law_27 rfl (lv_at hl 0 rfl) ?_
      refine lv_iload_n hx hb dL_law_28 rfl (lv_at hl 3 rfl) ?_
      refine va_sld hx hb hXs hbl hbA hS (vp_in_nI (by omega) (by omega)) dL_law_29 ?_
      refine lv_bipush (v := 31) hx hb dL_law_30 (by decide) ?_
      refine lv_iand hx hb dL_law_32 ?_
      obtain ⟨k, hk, ek⟩ := mask31 (xs (nI ix).toNatClampNeg)
      refine r_top (y := nI k) ek ?_
      have next : ∀ (H : Heap) (locs : List Loc) (ls : Array Slot), LI D c4 A js.heap ad la a lv ig [] H locs → lv_has ls 4 [(0, .ref b), (1, .ref ((ad 0) 0)), (2, .ref (a 0)), (3, .int (nI ix))] → W jp l je room_1 js jm #[Value.ref b] below meth jc H locs 600000 7302250 (lw_Z below #[Value.ref b] js) (F0 jm 961 ls []) := fun H locs ls hI hl => by
        refine lv_iinc (v := nI (ix + 6)) (lv' := [(3, .int (nI (ix + 6))), (0, .ref b), (1, .ref ((ad 0) 0)), (2, .ref (a 0))]) hx hb dL_law_961 hl (k := 3) rfl (nI_add _ _) (by decide) rfl (fun ls hl => ?_)
        refine lv_goto (tgt := 18) hx hb dL_law_964 (by decide) ?_
        exact ih (ix + 6) (by omega) (by omega) H locs ls hI (lv_sub hl [1, 2, 3, 0] rfl)
      have hI2 := hI
      obtain ⟨vi, vn, vf, vg, vq, hJ⟩ := hI2
      rcases (show k = 0 ∨ k = 1 ∨ k = 2 ∨ k = 3 ∨ k = 4 ∨ k = 5 ∨ k = 6 ∨ k = 7 ∨ k = 8 ∨ k = 9 ∨ k = 10 ∨ k = 11 ∨ k = 12 ∨ k = 13 ∨ k = 14 ∨ k = 15 ∨ k = 16 ∨ k = 17 ∨ k = 18 ∨ k = 19 ∨ k = 20 ∨ k = 21 ∨ k = 22 ∨ k = 23 ∨ k = 24 ∨ k = 25 ∨ k = 26 ∨ k = 27 ∨ k = 28 ∨ 28 < k by omega) with z | z | z | z | z | z | z | z | z | z | z | z | z | z | z | z | z | z | z | z | z | z | z | z | z | z | z | z | z | z
      · subst z
        refine lv_tableIn (tgt := 164) hx hb dL_law_33 (by decide) (by decide) rfl (by decide) ?_
        exact lc_0 C0 hlv him0 him1 hix hJ hl next
      · subst z
        refine lv_tableIn (tgt := 187) hx hb dL_law_33 (by decide) (by decide) rfl (by decide) ?_
        exact lc_1 C0 hlv him0 him1 hix hJ hl next
      · subst z
        refine lv_tableIn (tgt := 200) hx hb dL_law_33 (by decide) (by decide) rfl (by decide) ?_
        exact lc_2 C0 hlv him0 him1 hix hJ hl next
      · subst z
        refine lv_tableIn (tgt := 213) hx hb dL_law_33 (by decide) (by decide) rfl (by decide) ?_
        exact lc_3 C0 hlv him0 him1 hix hJ hl next
      · subst z
        refine lv_tableIn (tgt := 236) hx hb dL_law_33 (by decide) (by decide) rfl (by decide) ?_
        exact lc_4 C0 hlv him0 him1 hix hJ hl next
      · subst z
        refine lv_tableIn (tgt := 269) hx hb dL_law_33 (by decide) (by decide) rfl (by decide) ?_
        exact lc_5 C0 hlv him0 him1 hix hJ hl next
      · subst z
        refine lv_tableIn (tgt := 302) hx hb dL_law_33 (by decide) (by decide) rfl (by decide) ?_
        exact lc_6 C0 hlv him0 him1 hix hJ hl next
      · subst z
        refine lv_tableIn (tgt := 335) hx hb dL_law_33 (by decide) (by decide) rfl (by decide) ?_
        exact lc_7 C0 hlv him0 him1 hix hJ hl next
      · subst z
        refine lv_tableIn (tgt := 358) hx hb dL_law_33 (by decide) (by decide) rfl (by decide) ?_
        exact lc_8 C0 hlv him0 him1 hix hJ hl next
      · subst z
        refine lv_tableIn (tgt := 381) hx hb dL_law_33 (by decide) (by decide) rfl (by decide) ?_
        exact lc_9 C0 hlv him0 him1 hix hJ hl next
      · subst z
        refine lv_tableIn (tgt := 404) hx hb dL_law_33 (by decide) (by decide) rfl (by decide) ?_
        exact lc_10 C0 hlv him0 him1 hix hJ hl next
      · subst z
        refine lv_tableIn (tgt := 427) hx hb dL_law_33 (by decide) (by decide) rfl (by decide) ?_
        exact lc_11 C0 hlv him0 him1 hix hJ hl next
      · subst z
        refine lv_tableIn (tgt := 460) hx hb dL_law_33 (by decide) (by decide) rfl (by decide) ?_
        exact lc_12 C0 hlv him0 him1 hix hJ hl next
      · subst z
        refine lv_tableIn (tgt := 473) hx hb dL_law_33 (by decide) (by decide) rfl (by decide) ?_
        exact lc_13 C0 hlv him0 him1 hix hJ hl next
      · subst z
        refine lv_tableIn (tgt := 496) hx hb dL_law_33 (by decide) (by decide) rfl (by decide) ?_
        exact lc_14 C0 hlv him0 him1 hix hJ hl next
      · subst z
        refine lv_tableIn (tgt := 519) hx hb dL_law_33 (by decide) (by decide) rfl (by decide) ?_
        exact lc_15 C0 hlv him0 him1 hix hJ hl next
      · subst z
        refine lv_tableIn (tgt := 552) hx hb dL_law_33 (by decide) (by decide) rfl (by decide) ?_
        exact lc_16 C0 hlv him0 him1 hix hJ hl next
      · subst z
        refine lv_tableIn (tgt := 575) hx hb dL_law_33 (by decide) (by decide) rfl (by decide) ?_
        exact lc_17 C0 hlv him0 him1 hix hJ hl next
      · subst z
        refine lv_tableIn (tgt := 628) hx hb dL_law_33 (by decide) (by decide) rfl (by decide) ?_
        exact lc_18 C0 hlv him0 him1 hix hJ hl next
      · subst z
        refine lv_tableIn (tgt := 661) hx hb dL_law_33 (by decide) (by decide) rfl (by decide) ?_
        exact lc_19 C0 hlv him0 him1 hix hJ hl next
      · subst z
        refine lv_tableIn (tgt := 724) hx hb dL_law_33 (by decide) (by decide) rfl (by decide) ?_
        exact lc_20 C0 hlv him0 him1 hix hJ hl next
      · subst z
        refine lv_tableIn (tgt := 757) hx hb dL_law_33 (by decide) (by decide) rfl (by decide) ?_
        exact lc_21 C0 hlv him0 him1 hix hJ hl next
      · subst z
        refine lv_tableIn (tgt := 810) hx hb dL_law_33 (by decide) (by decide) rfl (by decide) ?_
        exact lc_22 C0 hlv him0 him1 hix hJ hl next
      · subst z
        refine lv_tableIn (tgt := 833) hx hb dL_law_33 (by decide) (by decide) rfl (by decide) ?_
        exact lc_23 C0 hlv him0 him1 hix hJ hl next
      · subst z
        refine lv_tableIn (tgt := 866) hx hb dL_law_33 (by decide) (by decide) rfl (by decide) ?_
        exact lc_24 C0 hlv him0 him1 hix hJ hl next
      · subst z
        refine lv_tableIn (tgt := 879) hx hb dL_law_33 (by decide) (by decide) rfl (by decide) ?_
        exact lc_25 C0 hlv him0 him1 hix hJ hl next
      · subst z
        refine lv_tableIn (tgt := 892) hx hb dL_law_33 (by decide) (by decide) rfl (by decide) ?_
        exact lc_26 C0 hlv him0 him1 hix hJ hl next
      · subst z
        refine lv_tableIn (tgt := 915) hx hb dL_law_33 (by decide) (by decide) rfl (by decide) ?_
        exact lc_27 C0 hlv him0 him1 hix hJ hl next
      · subst z
        refine lv_tableIn (tgt := 938) hx hb dL_law_33 (by decide) (by decide) rfl (by decide) ?_
        exact lc_28 C0 hlv him0 him1 hix hJ hl next
      · refine lv_tableOut (tgt := 961) hx hb dL_law_33 (Or.inr (by rw [nI_toInt (by omega)]; omega)) (by decide) ?_
        exact next _ _ _ hI hl
set_option maxHeartbeats 4000000 in
set_option maxRecDepth 100000 in
theorem whole_start {p : Program} {e : Env} {s : State} {m : MethodId} {below : List Frame} {meth : Method} {c : Code} (l : Launch) (hflags : l.flags = flags0) {b L : Nat} {xs : Nat → Int32} (hL : L ≤ 3072) (C0 : lw_At p s m meth c b L xs) : W p l e room_1 s m #[Value.ref b] below meth c s.heap [] 0 0 (lw_Z below #[Value.ref b] s) (entryFrame m ([Value.ref b] : List Value).toArray 4) := by
  obtain ⟨hx, hb, hr, hml, hown, hts0, hXs, hbl, hlocks, hgv⟩ := C0
  have hts : ∀ w ∈ wsL_law, w.before #[Value.ref b] s = true := fun w h => hts0 w (wl_in w h)
  have hRf : room_1.frames = 2048 := rfl
  have hRl : room_1.locals = 84000 := rfl
  obtain ⟨A, hAe⟩ : ∃ A : Nat → Prop, A = fun q => s.heap.size ≤ q := ⟨_, rfl⟩
  have hA : ∀ q, s.heap.size ≤ q → A q := fun q h => by rw [hAe]; exact h
  have hfor : ∀ q, A q → s.heap.size ≤ q := fun q h => by rw [hAe] at h; exact h
  have hbA : ¬ A b := fun h => Nat.not_le.mpr hbl (hfor b h)
  have hnA : ∀ a : Nat, a < s.heap.size → ¬ A a := fun a h z => Nat.not_le.mpr h (hfor a z)
  obtain ⟨t, hX⟩ := st_sX hgv hts0 hnA
  have hO := st_AO hts0
  obtain ⟨D, c4, hK⟩ := st_K hts hO
  have hown : s.vm.findClass RL = some m.cls := hown
  have hw : gW D A s.heap [] s.heap [] := ⟨fun k q h => by simp at h, ⟨fun i j p q h => by simp at h, fun k q h => by simp at h⟩, va_S.rf⟩
  have hl := lv_entry ([.ref b]) (n := 4) (Nat.le_of_ble_eq_true rfl)
  rw [lg_entry_eq]
  generalize (lg_sl ([.ref b]) ++ List.replicate (4 - (lg_sl ([.ref b])).length) Slot.unset).toArray = ls at hl ⊢
  have hl : lv_has ls 4 [(0, .ref b)] := hl
  refine r_new (ci := 7) (fs := [.null, .null, .null, .null, .null, .null, .null, .null, .null, .int 0]) (T := TX7) (N := 10) hx hb hts inlX7 tyX7 tyX7_ok hown (hts (.classLink RL 7 RX7) (by decide +kernel)) (hts (.instantiable RX7 10) (by decide +kernel)) (hts (.initialized RX7) (by decide +kernel)) hK hw hA rfl dfX7 (Nat.le_of_ble_eq_true rfl) (Nat.le_of_ble_eq_true rfl) dL_law_0 (fun q0 H hw => ?_)
  refine lv_dup hx hb dL_law_3 rfl ?_
  refine c_ini (As := []) (rest := [.ref q0]) ⟨hx, hb, hml, hown, hts⟩ (k_X7_init l D c4 A [] t q0) (cwI 0 hts gL_law_X7_init rfl rfl rfl (hts (.initialized RX7) (by decide +kernel)) (hts (.methodLink RL 9 yX7_init) (by decide +kernel)) (hts (.instanceMethod yX7_init) (by decide +kernel)) rfl (by decide +kernel) (rmv (Nat.le_of_ble_eq_true rfl) (Nat.le_of_ble_eq_true rfl) hRf hRl)) hK hX hw hA hO rfl hl rfl (Nat.le_of_ble_eq_true rfl) ⟨(Nat.le_of_ble_eq_true rfl), (Nat.le_of_ble_eq_true rfl)⟩ dL_law_4 (fun u H locs hp hw => ?_)
  obtain ⟨ad, la, lv, ig, nb⟩ := u
  obtain ⟨hb0, hlv, him0, him1, hN⟩ := hp
  have hb0 : ad 0 0 = q0 := hb0
  have hlv : ∀ k, k < 9 → lv k = some (la k 0) := hlv
  have him0 : ig 0 = some (ad 12 0) := him0
  have him1 : ig 1 = some (ad 13 0) := him1
  have hN : ∀ j, j < 9 → nb j = tbU.getD j 0 := hN
  have hwN := hw
  have hlN := hl
  subst hb0
  have hw : gW D A s.heap [(iG ad (-1)), (xG c4 (ad 1) 0 0 0 (-1) 0 0 (fun _ => 0) (fun _ => 0) (fun _ => 0) (fun _ => 0)), (wG ((ad 3) 0) ((ad 4) 0) 4 0 0), (bG c4 (ad 2) nb), (yG c4 (ad 4) 0 0 (fun _ => 0) (fun _ => 0) (fun _ => 0)), (rG c4 (ad 7) 0 0 (fun _ => 0) (fun _ => 0) (fun _ => 0) (fun _ => 0) (fun _ => 0) (fun _ => 0)), (tG c4 (ad 8) 0 0 0 (fun _ => 0)), (yG c4 (ad 9) 0 0 (fun _ => 0) (fun _ => 0) (fun _ => 0)), (sG c4 (ad 10) ((ad 11) 0) 0 0 0 0 0 0 0 0 0 0 0 0 lv), (tG c4 (ad 11) 0 0 0 (fun _ => 0)), (yG c4 (la 0) 0 0 (fun _ => 0) (fun _ => 0) (fun _ => 0)), (yG c4 (la 1) 0 0 (fun _ => 0) (fun _ => 0) (fun _ => 0)), (yG c4 (la 2) 0 0 (fun _ => 0) (fun _ => 0) (fun _ => 0)), (yG c4 (la 3) 0 0 (fun _ => 0) (fun _ => 0) (fun _ => 0)), (yG c4 (la 4) 0 0 (fun _ => 0) (fun _ => 0) (fun _ => 0)), (yG c4 (la 5) 0 0 (fun _ => 0) (fun _ => 0) (fun _ => 0)), (yG c4 (la 6) 0 0 (fun _ => 0) (fun _ => 0) (fun _ => 0)), (yG c4 (la 7) 0 0 (fun _ => 0) (fun _ => 0) (fun _ => 0)), (yG c4 (la 8) 0 0 (fun _ => 0) (fun _ => 0) (fun _ => 0)), (gG c4 ((ad 5) 0) ig), (zG c4 ((ad 6) 0) 2 (fun _ => 0)), (wG ((ad 12) 0) ((ad 14) 0) 4 0 0), (yG c4 (ad 14) 0 0 (fun _ => 0) (fun _ => 0) (fun _ => 0)), (wG ((ad 13) 0) ((ad 15) 0) 4 0 0), (yG c4 (ad 15) 0 0 (fun _ => 0) (fun _ => 0) (fun _ => 0))] _ _ := hwN
  have hl := hlN
  refine lv_astore_n (lv' := [(1, .ref ((ad 0) 0)), (0, .ref b)]) hx hb dL_law_7 rfl hl (by decide) rfl (fun ls hl => ?_)
  refine r_new (ci := 8) (fs := [.null, .null, .int 0, .null, .null, .int 0, .int 0, .int 0, .int 0, .int 0, .int 0, .int 0, .int 0, .null, .null, .null, .int 0, .int 0, .int 0, .null, .int 0, .null, .null, .null, .null, .int 0, .null, .null]) (T := TX8) (N := 28) hx hb hts inlX8 tyX8 tyX8_ok hown (hts (.classLink RL 10 RX8) (by decide +kernel)) (hts (.instantiable RX8 28) (by decide +kernel)) (hts (.initialized RX8) (by decide +kernel)) hK hw hA rfl dfX8 (Nat.le_of_ble_eq_true rfl) (Nat.le_of_ble_eq_true rfl) dL_law_8 (fun q1 H hw => ?_)
  refine lv_dup hx hb dL_law_11 rfl ?_
  refine c_ini (As := []) (rest := [.ref q1]) ⟨hx, hb, hml, hown, hts⟩ (k_X8_init l D c4 A [(iG ad (-1)), (xG c4 (ad 1) 0 0 0 (-1) 0 0 (fun _ => 0) (fun _ => 0) (fun _ => 0) (fun _ => 0)), (wG ((ad 3) 0) ((ad 4) 0) 4 0 0), (bG c4 (ad 2) nb), (yG c4 (ad 4) 0 0 (fun _ => 0) (fun _ => 0) (fun _ => 0)), (rG c4 (ad 7) 0 0 (fun _ => 0) (fun _ => 0) (fun _ => 0) (fun _ => 0) (fun _ => 0) (fun _ => 0)), (tG c4 (ad 8) 0 0 0 (fun _ => 0)), (yG c4 (ad 9) 0 0 (fun _ => 0) (fun _ => 0) (fun _ => 0)), (sG c4 (ad 10) ((ad 11) 0) 0 0 0 0 0 0 0 0 0 0 0 0 lv), (tG c4 (ad 11) 0 0 0 (fun _ => 0)), (yG c4 (la 0) 0 0 (fun _ => 0) (fun _ => 0) (fun _ => 0)), (yG c4 (la 1) 0 0 (fun _ => 0) (fun _ => 0) (fun _ => 0)), (yG c4 (la 2) 0 0 (fun _ => 0) (fun _ => 0) (fun _ => 0)), (yG c4 (la 3) 0 0 (fun _ => 0) (fun _ => 0) (fun _ => 0)), (yG c4 (la 4) 0 0 (fun _ => 0) (fun _ => 0) (fun _ => 0)), (yG c4 (la 5) 0 0 (fun _ => 0) (fun _ => 0) (fun _ => 0)), (yG c4 (la 6) 0 0 (fun _ => 0) (fun _ => 0) (fun _ => 0)), (yG c4 (la 7) 0 0 (fun _ => 0) (fun _ => 0) (fun _ => 0)), (yG c4 (la 8) 0 0 (fun _ => 0) (fun _ => 0) (fun _ => 0)), (gG c4 ((ad 5) 0) ig), (zG c4 ((ad 6) 0) 2 (fun _ => 0)), (wG ((ad 12) 0) ((ad 14) 0) 4 0 0), (yG c4 (ad 14) 0 0 (fun _ => 0) (fun _ => 0) (fun _ => 0)), (wG ((ad 13) 0) ((ad 15) 0) 4 0 0), (yG c4 (ad 15) 0 0 (fun _ => 0) (fun _ => 0) (fun _ => 0))] q1) (cwI 0 hts gL_law_X8_init rfl rfl rfl (hts (.initialized RX8) (by decide +kernel)) (hts (.methodLink RL 12 yX8_init) (by decide +kernel)) (hts (.instanceMethod yX8_init) (by decide +kernel)) rfl (by decide +kernel) (rmv (Nat.le_of_ble_eq_true rfl) (Nat.le_of_ble_eq_true rfl) hRf hRl)) hK trivial hw hA hO rfl hl rfl (Nat.le_of_ble_eq_true rfl) ⟨(Nat.le_of_ble_eq_true rfl), (Nat.le_of_ble_eq_true rfl)⟩ dL_law_12 (fun u H locs hp hw => ?_)
  obtain ⟨a, told⟩ := u
  obtain ⟨hb1, hT⟩ := hp
  have hb1 : a 0 = q1 := hb1
  have hT : ∀ j, j < 9 → told j = nb0 j := hT
  have hwM := hw
  have hlM := hl
  subst hb1
  have hw : gW D A s.heap ([(mG a 0 0 0 0 0 0 (-1) 0 0 0 0 0 0 0), (aG c4 (a 1) 204 (upd (fun _ => 0) 48 4)), (aG c4 (a 2) 18 told), (zG c4 (a 3) 2 (fun _ => 0)), (aG c4 (a 4) 230 (fun _ => 0)), (aG c4 (a 5) 12 (fun _ => 0)), (aG c4 (a 6) 12 (fun _ => 0)), (aG c4 (a 7) 12 (fun _ => 0)), (aG c4 (a 8) 51 (fun _ => 0)), (aG c4 (a 9) 10 (fun _ => 0)), (aG c4 (a 10) 10 (fun _ => 0)), (aG c4 (a 11) 10 (fun _ => 0)), (aG c4 (a 12) 10 (fun _ => 0)), (aG c4 (a 13) 15 (fun _ => 0)), (aG c4 (a 14) 15 (fun _ => 0))] ++ [(iG ad (-1)), (xG c4 (ad 1) 0 0 0 (-1) 0 0 (fun _ => 0) (fun _ => 0) (fun _ => 0) (fun _ => 0)), (wG ((ad 3) 0) ((ad 4) 0) 4 0 0), (bG c4 (ad 2) nb), (yG c4 (ad 4) 0 0 (fun _ => 0) (fun _ => 0) (fun _ => 0)), (rG c4 (ad 7) 0 0 (fun _ => 0) (fun _ => 0) (fun _ => 0) (fun _ => 0) (fun _ => 0) (fun _ => 0)), (tG c4 (ad 8) 0 0 0 (fun _ => 0)), (yG c4 (ad 9) 0 0 (fun _ => 0) (fun _ => 0) (fun _ => 0)), (sG c4 (ad 10) ((ad 11) 0) 0 0 0 0 0 0 0 0 0 0 0 0 lv), (tG c4 (ad 11) 0 0 0 (fun _ => 0)), (yG c4 (la 0) 0 0 (fun _ => 0) (fun _ => 0) (fun _ => 0)), (yG c4 (la 1) 0 0 (fun _ => 0) (fun _ => 0) (fun _ => 0)), (yG c4 (la 2) 0 0 (fun _ => 0) (fun _ => 0) (fun _ => 0)), (yG c4 (la 3) 0 0 (fun _ => 0) (fun _ => 0) (fun _ => 0)), (yG c4 (la 4) 0 0 (fun _ => 0) (fun _ => 0) (fun _ => 0)), (yG c4 (la 5) 0 0 (fun _ => 0) (fun _ => 0) (fun _ => 0)), (yG c4 (la 6) 0 0 (fun _ => 0) (fun _ => 0) (fun _ => 0)), (yG c4 (la 7) 0 0 (fun _ => 0) (fun _ => 0) (fun _ => 0)), (yG c4 (la 8) 0 0 (fun _ => 0) (fun _ => 0) (fun _ => 0)), (gG c4 ((ad 5) 0) ig), (zG c4 ((ad 6) 0) 2 (fun _ => 0)), (wG ((ad 12) 0) ((ad 14) 0) 4 0 0), (yG c4 (ad 14) 0 0 (fun _ => 0) (fun _ => 0) (fun _ => 0)), (wG ((ad 13) 0) ((ad 15) 0) 4 0 0), (yG c4 (ad 15) 0 0 (fun _ => 0) (fun _ => 0) (fun _ => 0))]) _ _ := hwM
  have hl := hlM
  have hw := hw.perm List.perm_append_comm
  have hw := gW.m3 hw
  have hw := hw.nb (g := told) (fun j hj => (hN j hj).trans (hT j hj).symm)
  have hw := hw.m3
  have hw := hw.m3
  have hw := hw.m3
  refine lv_astore_n (lv' := [(2, .ref (a 0)), (1, .ref ((ad 0) 0)), (0, .ref b)]) hx hb dL_law_15 rfl hl (by decide) rfl (fun ls hl => ?_)
  refine lv_iconst (v := 0) hx hb dL_law_16 (by decide) ?_
  refine lv_istore_n (lv' := [(3, .int 0), (2, .ref (a 0)), (1, .ref ((ad 0) 0)), (0, .ref b)]) hx hb dL_law_17 rfl hl (by decide) rfl (fun ls hl => ?_)
  refine W.widen (k := 600000) (n := 7302250) (Nat.le_of_ble_eq_true rfl) (Nat.le_of_ble_eq_true rfl) ?_
  refine law_loop (t := t) (xs := xs) (L := L) (ad := ad) (la := la) (a := a) (lv := lv) (ig := ig) (A := A) (D := D) (c4 := c4) ⟨hx, hb, hr, hml, hown, hts, hXs, hbl, hlocks, hK, hX, hbA, hL⟩ hlv him0 him1 hfor (L + 7) 0 (by omega) (by omega) _ _ ls ?_ (lv_sub hl [3, 2, 1, 0] rfl)
  exact LI.of (-1) 0 0 0 (-1) 0 0 (fun _ => 0) (fun _ => 0) (fun _ => 0) (fun _ => 0) 4 0 0 0 0 (fun _ => 0) (fun _ => 0) (fun _ => 0) 0 0 (fun _ => 0) (fun _ => 0) (fun _ => 0) (fun _ => 0) (fun _ => 0) (fun _ => 0) 0 0 0 (fun _ => 0) 0 0 (fun _ => 0) (fun _ => 0) (fun _ => 0) 0 0 0 0 0 0 0 0 0 0 0 0 0 0 0 (fun _ => 0) (fun _ => 0) (fun _ => 0) (fun _ _ => 0) (fun _ _ => 0) (fun _ _ => 0) (fun _ => 0) 0 0 4 0 0 (fun _ => 0) (fun _ => 0) (fun _ => 0) 0 0 4 0 0 (fun _ => 0) (fun _ => 0) (fun _ => 0) 0 0 0 0 0 0 0 0 0 (upd (fun _ => 0) 48 4) told (fun _ => 0) (fun _ => 0) (fun _ => 0) (fun _ => 0) (fun _ => 0) (fun _ => (0, 0, 0, false)) (fun _ => (0, 0, 0, false)) (fun _ => (0, 0, 0, false)) ⟨hw.cast rfl, ⟨by decide, ⟨fun y hy => absurd hy (Nat.not_lt_zero y), rfl⟩, fun y hy => absurd hy (Nat.not_lt_zero y), rfl, rfl, rfl, (by unfold rng; decide), ⟨0, by decide, rfl⟩⟩, tl_of ps0.2.2 hT, rl2_0 _, RL3.z (bc := 0) (ec := 0), ⟨rfl, fun c => absurd rfl c⟩, ⟨rfl, fun c => absurd rfl c⟩⟩
