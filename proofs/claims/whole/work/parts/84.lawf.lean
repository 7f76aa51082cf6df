set_option maxHeartbeats 4000000 in
set_option maxRecDepth 100000 in
theorem lc_20 {jp : Program} {l : Launch} {je : Env} {js : State} {jm : MethodId} {below : List Frame} {meth : Method} {jc : Code} {D : va_G} {c4 : Nat → ClassId} {A : Nat → Prop} {t : Nat → Nat} {b L : Nat} {xs : Nat → Int32} {ad la : Nat → Nat → Nat} {a : Nat → Nat} {lv ig : Nat → Option Nat} {Ts : List va_W} {Q : State → Prop} {H : Heap} {locs : List Loc} {ls : Array Slot} {ix : Nat} (C0 : LC jp js jm meth jc D c4 A t b L xs) (hlv : ∀ k, k < 9 → lv k = some (la k 0)) (him0 : ig 0 = some (ad 12 0)) (him1 : ig 1 = some (ad 13 0)) (hix : ix + 6 ≤ L) (hI : LI D c4 A js.heap ad la a lv ig Ts H locs) (hl : lv_has ls 4 [(0, .ref b), (1, .ref ((ad 0) 0)), (2, .ref (a 0)), (3, .int (nI ix))]) (next : ∀ (H : Heap) (locs : List Loc) (ls : Array Slot), LI D c4 A js.heap ad la a lv ig Ts H locs → lv_has ls 4 [(0, .ref b), (1, .ref ((ad 0) 0)), (2, .ref (a 0)), (3, .int (nI ix))] → W jp l je room_1 js jm #[Value.ref b] below meth jc H locs 600000 7302250 Q (F0 jm 961 ls [])) : W jp l je room_1 js jm #[Value.ref b] below meth jc H locs 600000 7302250 Q (F0 jm 724 ls []) := by
  obtain ⟨hx, hb, hr, hml, hown, hts, hXs, hbl, hlocks, hK, hX, hbA, hL3⟩ := C0
  have hRf : room_1.frames = 2048 := rfl
  have hRl : room_1.locals = 84000 := rfl
  have hRc : room_1.cells = 600000 := rfl
  have hRs : room_1.slots = 7302250 := rfl
  obtain ⟨fp, ln, xyc, xfn, xfp, xpl, xcs, lt, xnb, xyk, xyi, bt, nt, sd, n, os, kd, ic, br, bc, ec, by0, bn, bd, bi, ey, ei, bh, mi, fb, ba, n0, os0, kd0, ic0, br0, zlc, zlS, zdp, zmi, zfo, zax, zco, zth, zpe, zcd, zdc, zwc, tbh, tmi, tfb, tba, gn, go, gk, gi, gb, kp, in0, io0, ib0, it0, is0, ik0, ii0, ir0, in1, io1, ib1, it1, is1, ik1, ii1, ir1, mpl, mst, mva, mfy, mry, mse, mbh, mmi, mfb, w, told, mkp, rk, ri, mba, mhd, q, q0, q1, hw, hR1, htl, hR2, hR3, hRI0, hRI1⟩ := hI
  have hR1c := hR1
  obtain ⟨hn, hyR, hmY, h48, h49, h50, hbt0, hsd0⟩ := hR1c
  have hbt : rng (w 48) 1 9 := by rw [h48]; exact hbt0
  have hsd : sdOk (w 50) := by rw [h50]; exact hsd0
  have hln := hR2.1
  have hlt := hR2.2
  have hbc := hR3.1
  have hec := hR3.2.1
  have hbo := hR3.2.2.1
  have hen := hR3.2.2.2
  refine lv_aload_n hx hb dL_law_724 rfl (lv_at hl 1 rfl) ?_
  refine lv_aload_n hx hb dL_law_725 rfl (lv_at hl 0 rfl) ?_
  refine lv_iload_n hx hb dL_law_726 rfl (lv_at hl 3 rfl) ?_
  refine lv_iconst (v := 1) hx hb dL_law_727 (by decide) ?_
  refine r_addN hx hb ix 1 dL_law_728 ?_
  refine r_sld hx hb hXs hbl hbA hw (ix + 1) (by omega) hL3 dL_law_729 ?_
  refine lv_aload_n hx hb dL_law_730 rfl (lv_at hl 0 rfl) ?_
  refine lv_iload_n hx hb dL_law_731 rfl (lv_at hl 3 rfl) ?_
  refine lv_iconst (v := 2) hx hb dL_law_732 (by decide) ?_
  refine r_addN hx hb ix 2 dL_law_733 ?_
  refine r_sld hx hb hXs hbl hbA hw (ix + 2) (by omega) hL3 dL_law_734 ?_
  have hw := hw.m3
  have hw := hw.m1
  refine c_vi (As := [.int (xs (ix + 1)), .int (xs (ix + 2))]) (rest := []) ⟨hx, hb, hml, hown, hts⟩ (k_X7_noFall l D c4 A ((xG c4 (ad 1) (nI ln) xyc xfn xfp xpl xcs lt xnb xyk xyi) :: (wG ((ad 3) 0) ((ad 4) 0) bt nt sd) :: (yG c4 (ad 4) (nI n) os kd ic br) :: (rG c4 (ad 7) (nI bc) (nI ec) by0 bn bd bi ey ei) :: (tG c4 (ad 8) bh mi fb ba) :: (yG c4 (ad 9) n0 os0 kd0 ic0 br0) :: ((sG c4 (ad 10) ((ad 11) 0) zlc zlS zdp zmi zfo zax zco zth zpe zcd zdc zwc lv) ++ ((tG c4 (ad 11) tbh tmi tfb tba) ++ ((yG c4 (la 0) (gn 0) (go 0) (gk 0) (gi 0) (gb 0)) ++ ((yG c4 (la 1) (gn 1) (go 1) (gk 1) (gi 1) (gb 1)) ++ ((yG c4 (la 2) (gn 2) (go 2) (gk 2) (gi 2) (gb 2)) ++ ((yG c4 (la 3) (gn 3) (go 3) (gk 3) (gi 3) (gb 3)) ++ ((yG c4 (la 4) (gn 4) (go 4) (gk 4) (gi 4) (gb 4)) ++ ((yG c4 (la 5) (gn 5) (go 5) (gk 5) (gi 5) (gb 5)) ++ ((yG c4 (la 6) (gn 6) (go 6) (gk 6) (gi 6) (gb 6)) ++ ((yG c4 (la 7) (gn 7) (go 7) (gk 7) (gi 7) (gb 7)) ++ (yG c4 (la 8) (gn 8) (go 8) (gk 8) (gi 8) (gb 8)))))))))))) :: (gG c4 ((ad 5) 0) ig) :: (zG c4 ((ad 6) 0) 2 kp) :: ((wG ((ad 12) 0) ((ad 14) 0) ib0 it0 is0) ++ ((yG c4 (ad 14) in0 io0 ik0 ii0 ir0) ++ ((wG ((ad 13) 0) ((ad 15) 0) ib1 it1 is1) ++ (yG c4 (ad 15) in1 io1 ik1 ii1 ir1)))) :: (mG a (nI n) (nI ln) mpl mst mva mfy fp mry mse mbh mmi mfb (nI bc) (nI ec)) :: (aG c4 (a 1) 204 w) :: (aG c4 (a 2) 18 told) :: (zG c4 (a 3) 2 mkp) :: (aG c4 (a 4) 230 lt) :: (aG c4 (a 5) 12 rk) :: (aG c4 (a 6) 12 ri) :: (aG c4 (a 7) 12 mba) :: (aG c4 (a 8) 51 mhd) :: (aG c4 (a 9) 10 by0) :: (aG c4 (a 10) 10 bn) :: (aG c4 (a 11) 10 bd) :: (aG c4 (a 12) 10 bi) :: (aG c4 (a 13) 15 ey) :: (aG c4 (a 14) 15 ei) :: Ts) ad fp told (xs (ix + 1)) (xs (ix + 2)) htl) (cwV 2 hts gL_law_X7_noFall rfl rfl rfl (by decide +kernel) (rmv (Nat.le_of_ble_eq_true rfl) (Nat.le_of_ble_eq_true rfl) hRf hRl)) hK trivial hw rfl rfl rfl hl rfl (Nat.le_of_ble_eq_true rfl) ⟨(by rw [hRc]; exact Nat.le_of_ble_eq_true rfl), (by rw [hRs]; exact Nat.le_of_ble_eq_true rfl)⟩ dL_law_735 (fun r_735 u_735 H locs hpq hw => ?_)
  have er_735 := hpq
  subst er_735
  refine lv_aload_n hx hb dL_law_738 rfl (lv_at hl 2 rfl) ?_
  refine lv_aload_n hx hb dL_law_739 rfl (lv_at hl 0 rfl) ?_
  refine lv_iload_n hx hb dL_law_740 rfl (lv_at hl 3 rfl) ?_
  refine lv_iconst (v := 1) hx hb dL_law_741 (by decide) ?_
  refine r_addN hx hb ix 1 dL_law_742 ?_
  refine r_sld hx hb hXs hbl hbA hw (ix + 1) (by omega) hL3 dL_law_743 ?_
  refine lv_aload_n hx hb dL_law_744 rfl (lv_at hl 0 rfl) ?_
  refine lv_iload_n hx hb dL_law_745 rfl (lv_at hl 3 rfl) ?_
  refine lv_iconst (v := 2) hx hb dL_law_746 (by decide) ?_
  refine r_addN hx hb ix 2 dL_law_747 ?_
  refine r_sld hx hb hXs hbl hbA hw (ix + 2) (by omega) hL3 dL_law_748 ?_
  have hw := hw.m14
  have hw := hw.m13
  refine c_vi (As := [.int (xs (ix + 1)), .int (xs (ix + 2))]) (rest := [.int (noFF (xs (ix + 1)) (xs (ix + 2)) (told 0))]) ⟨hx, hb, hml, hown, hts⟩ (k_X8_noFall l D c4 A ((iG ad fp) :: (bG c4 (ad 2) told) :: (xG c4 (ad 1) (nI ln) xyc xfn xfp xpl xcs lt xnb xyk xyi) :: (wG ((ad 3) 0) ((ad 4) 0) bt nt sd) :: (yG c4 (ad 4) (nI n) os kd ic br) :: (rG c4 (ad 7) (nI bc) (nI ec) by0 bn bd bi ey ei) :: (tG c4 (ad 8) bh mi fb ba) :: (yG c4 (ad 9) n0 os0 kd0 ic0 br0) :: ((sG c4 (ad 10) ((ad 11) 0) zlc zlS zdp zmi zfo zax zco zth zpe zcd zdc zwc lv) ++ ((tG c4 (ad 11) tbh tmi tfb tba) ++ ((yG c4 (la 0) (gn 0) (go 0) (gk 0) (gi 0) (gb 0)) ++ ((yG c4 (la 1) (gn 1) (go 1) (gk 1) (gi 1) (gb 1)) ++ ((yG c4 (la 2) (gn 2) (go 2) (gk 2) (gi 2) (gb 2)) ++ ((yG c4 (la 3) (gn 3) (go 3) (gk 3) (gi 3) (gb 3)) ++ ((yG c4 (la 4) (gn 4) (go 4) (gk 4) (gi 4) (gb 4)) ++ ((yG c4 (la 5) (gn 5) (go 5) (gk 5) (gi 5) (gb 5)) ++ ((yG c4 (la 6) (gn 6) (go 6) (gk 6) (gi 6) (gb 6)) ++ ((yG c4 (la 7) (gn 7) (go 7) (gk 7) (gi 7) (gb 7)) ++ (yG c4 (la 8) (gn 8) (go 8) (gk 8) (gi 8) (gb 8)))))))))))) :: (gG c4 ((ad 5) 0) ig) :: (zG c4 ((ad 6) 0) 2 kp) :: ((wG ((ad 12) 0) ((ad 14) 0) ib0 it0 is0) ++ ((yG c4 (ad 14) in0 io0 ik0 ii0 ir0) ++ ((wG ((ad 13) 0) ((ad 15) 0) ib1 it1 is1) ++ (yG c4 (ad 15) in1 io1 ik1 ii1 ir1)))) :: (aG c4 (a 1) 204 w) :: (zG c4 (a 3) 2 mkp) :: (aG c4 (a 4) 230 lt) :: (aG c4 (a 5) 12 rk) :: (aG c4 (a 6) 12 ri) :: (aG c4 (a 7) 12 mba) :: (aG c4 (a 8) 51 mhd) :: (aG c4 (a 9) 10 by0) :: (aG c4 (a 10) 10 bn) :: (aG c4 (a 11) 10 bd) :: (aG c4 (a 12) 10 bi) :: (aG c4 (a 13) 15 ey) :: (aG c4 (a 14) 15 ei) :: Ts) a (nI n) (nI ln) mpl mst mva mfy fp mry mse mbh mmi mfb (nI bc) (nI ec) told (xs (ix + 1)) (xs (ix + 2)) htl) (cwV 2 hts gL_law_X8_noFall rfl rfl rfl (by decide +kernel) (rmv (Nat.le_of_ble_eq_true rfl) (Nat.le_of_ble_eq_true rfl) hRf hRl)) hK trivial hw rfl rfl rfl hl rfl (Nat.le_of_ble_eq_true rfl) ⟨(by rw [hRc]; exact Nat.le_of_ble_eq_true rfl), (by rw [hRs]; exact Nat.le_of_ble_eq_true rfl)⟩ dL_law_749 (fun r_749 u_749 H locs hpq hw => ?_)
  have er_749 := hpq
  subst er_749
  have er : ((noFF (xs (ix + 1)) (xs (ix + 2)) (told 0)) : Int32) = (noFF (xs (ix + 1)) (xs (ix + 2)) (told 0)) := rfl
  refine lv_icmp_eq (tgt := 961) hx hb dL_law_752 (by decide) (fun _ => ?_) (fun c_e => absurd er c_e)
  have hl := lv_sub (lv' := [(0, .ref b), (1, .ref ((ad 0) 0)), (2, .ref (a 0)), (3, .int (nI ix))]) hl [0, 1, 2, 3] rfl
  have hw := hw.m26
  have hw := hw.m26
  have hw := hw.m26
  have hw := hw.m26
  have hw := hw.m26
  have hw := hw.m26
  have hw := hw.m26
  have hw := hw.m26
  have hw := hw.m26
  have hw := hw.m26
  have hw := hw.m26
  have hw := hw.m26
  have hw := hw.m13
  have hw := hw.m26
  have hw := hw.m14
  have hw := hw.m26
  have hw := hw.m26
  have hw := hw.m26
  have hw := hw.m26
  have hw := hw.m26
  have hw := hw.m26
  have hw := hw.m26
  have hw := hw.m26
  have hw := hw.m24
  have hw := hw.m26
  have hw := hw.m26
  have hw := hw.m26
  exact next _ _ _ ⟨fp, ln, xyc, xfn, xfp, xpl, xcs, lt, xnb, xyk, xyi, bt, nt, sd, n, os, kd, ic, br, bc, ec, by0, bn, bd, bi, ey, ei, bh, mi, fb, ba, n0, os0, kd0, ic0, br0, zlc, zlS, zdp, zmi, zfo, zax, zco, zth, zpe, zcd, zdc, zwc, tbh, tmi, tfb, tba, gn, go, gk, gi, gb, kp, in0, io0, ib0, it0, is0, ik0, ii0, ir0, in1, io1, ib1, it1, is1, ik1, ii1, ir1, mpl, mst, mva, mfy, mry, mse, mbh, mmi, mfb, w, told, mkp, rk, ri, mba, mhd, q, q0, q1, hw, hR1, htl, hR2, hR3, hRI0, hRI1⟩ hl
set_option maxHeartbeats 4000000 in
set_option maxRecDepth 100000 in
theorem lc_22 {jp : Program} {l : Launch} {je : Env} {js : State} {jm : MethodId} {below : List Frame} {meth : Method} {jc : Code} {D : va_G} {c4 : Nat → ClassId} {A : Nat → Prop} {t : Nat → Nat} {b L : Nat} {xs : Nat → Int32} {ad la : Nat → Nat → Nat} {a : Nat → Nat} {lv ig : Nat → Option Nat} {Ts : List va_W} {Q : State → Prop} {H : Heap} {locs : List Loc} {ls : Array Slot} {ix : Nat} (C0 : LC jp js jm meth jc D c4 A t b L xs) (hlv : ∀ k, k < 9 → lv k = some (la k 0)) (him0 : ig 0 = some (ad 12 0)) (him1 : ig 1 = some (ad 13 0)) (hix : ix + 6 ≤ L) (hI : LI D c4 A js.heap ad la a lv ig Ts H locs) (hl : lv_has ls 4 [(0, .ref b), (1, .ref ((ad 0) 0)), (2, .ref (a 0)), (3, .int (nI ix))]) (next : ∀ (H : Heap) (locs : List Loc) (ls : Array Slot), LI D c4 A js.heap ad la a lv ig Ts H locs → lv_has ls 4 [(0, .ref b), (1, .ref ((ad 0) 0)), (2, .ref (a 0)), (3, .int (nI ix))] → W jp l je room_1 js jm #[Value.ref b] below meth jc H locs 600000 7302250 Q (F0 jm 961 ls [])) : W jp l je room_1 js jm #[Value.ref b] below meth jc H locs 600000 7302250 Q (F0 jm 810 ls []) := by
  obtain ⟨hx, hb, hr, hml, hown, hts, hXs, hbl, hlocks, hK, hX, hbA, hL3⟩ := C0
  have hRf : room_1.frames = 2048 := rfl
  have hRl : room_1.locals = 84000 := rfl
  have hRc : room_1.cells = 600000 := rfl
  have hRs : room_1.slots = 7302250 := rfl
  obtain ⟨fp, ln, xyc, xfn, xfp, xpl, xcs, lt, xnb, xyk, xyi, bt, nt, sd, n, os, kd, ic, br, bc, ec, by0, bn, bd, bi, ey, ei, bh, mi, fb, ba, n0, os0, kd0, ic0, br0, zlc, zlS, zdp, zmi, zfo, zax, zco, zth, zpe, zcd, zdc, zwc, tbh, tmi, tfb, tba, gn, go, gk, gi, gb, kp, in0, io0, ib0, it0, is0, ik0, ii0, ir0, in1, io1, ib1, it1, is1, ik1, ii1, ir1, mpl, mst, mva, mfy, mry, mse, mbh, mmi, mfb, w, told, mkp, rk, ri, mba, mhd, q, q0, q1, hw, hR1, htl, hR2, hR3, hRI0, hRI1⟩ := hI
  have hR1c := hR1
  obtain ⟨hn, hyR, hmY, h48, h49, h50, hbt0, hsd0⟩ := hR1c
  have hbt : rng (w 48) 1 9 := by rw [h48]; exact hbt0
  have hsd : sdOk (w 50) := by rw [h50]; exact hsd0
  have hln := hR2.1
  have hlt := hR2.2
  have hbc := hR3.1
  have hec := hR3.2.1
  have hbo := hR3.2.2.1
  have hen := hR3.2.2.2
  refine lv_aload_n hx hb dL_law_810 rfl (lv_at hl 1 rfl) ?_
  refine lv_aload_n hx hb dL_law_811 rfl (lv_at hl 0 rfl) ?_
  refine lv_iload_n hx hb dL_law_812 rfl (lv_at hl 3 rfl) ?_
  refine lv_iconst (v := 1) hx hb dL_law_813 (by decide) ?_
  refine r_addN hx hb ix 1 dL_law_814 ?_
  refine r_sld hx hb hXs hbl hbA hw (ix + 1) (by omega) hL3 dL_law_815 ?_
  have hw := hw.m5
  have hw := hw.m5
  have hw := hw.m4
  have hw := hw.m3
  refine c_vi (As := [.int (xs (ix + 1))]) (rest := []) ⟨hx, hb, hml, hown, hts⟩ (k_X7_kinds l D c4 A ((xG c4 (ad 1) (nI ln) xyc xfn xfp xpl xcs lt xnb xyk xyi) :: (bG c4 (ad 2) told) :: (tG c4 (ad 8) bh mi fb ba) :: (yG c4 (ad 9) n0 os0 kd0 ic0 br0) :: ((sG c4 (ad 10) ((ad 11) 0) zlc zlS zdp zmi zfo zax zco zth zpe zcd zdc zwc lv) ++ ((tG c4 (ad 11) tbh tmi tfb tba) ++ ((yG c4 (la 0) (gn 0) (go 0) (gk 0) (gi 0) (gb 0)) ++ ((yG c4 (la 1) (gn 1) (go 1) (gk 1) (gi 1) (gb 1)) ++ ((yG c4 (la 2) (gn 2) (go 2) (gk 2) (gi 2) (gb 2)) ++ ((yG c4 (la 3) (gn 3) (go 3) (gk 3) (gi 3) (gb 3)) ++ ((yG c4 (la 4) (gn 4) (go 4) (gk 4) (gi 4) (gb 4)) ++ ((yG c4 (la 5) (gn 5) (go 5) (gk 5) (gi 5) (gb 5)) ++ ((yG c4 (la 6) (gn 6) (go 6) (gk 6) (gi 6) (gb 6)) ++ ((yG c4 (la 7) (gn 7) (go 7) (gk 7) (gi 7) (gb 7)) ++ (yG c4 (la 8) (gn 8) (go 8) (gk 8) (gi 8) (gb 8)))))))))))) :: (gG c4 ((ad 5) 0) ig) :: (zG c4 ((ad 6) 0) 2 kp) :: ((wG ((ad 12) 0) ((ad 14) 0) ib0 it0 is0) ++ ((yG c4 (ad 14) in0 io0 ik0 ii0 ir0) ++ ((wG ((ad 13) 0) ((ad 15) 0) ib1 it1 is1) ++ (yG c4 (ad 15) in1 io1 ik1 ii1 ir1)))) :: (mG a (nI n) (nI ln) mpl mst mva mfy fp mry mse mbh mmi mfb (nI bc) (nI ec)) :: (aG c4 (a 1) 204 w) :: (aG c4 (a 2) 18 told) :: (zG c4 (a 3) 2 mkp) :: (aG c4 (a 4) 230 lt) :: (aG c4 (a 5) 12 rk) :: (aG c4 (a 6) 12 ri) :: (aG c4 (a 7) 12 mba) :: (aG c4 (a 8) 51 mhd) :: (aG c4 (a 9) 10 by0) :: (aG c4 (a 10) 10 bn) :: (aG c4 (a 11) 10 bd) :: (aG c4 (a 12) 10 bi) :: (aG c4 (a 13) 15 ey) :: (aG c4 (a 14) 15 ei) :: Ts) ad fp bt nt sd n os kd ic br q bc ec by0 bn bd bi ey ei (xs (ix + 1)) hn hyR hbc hbo) (cwV 1 hts gL_law_X7_kinds rfl rfl rfl (by decide +kernel) (rmv (Nat.le_of_ble_eq_true rfl) (Nat.le_of_ble_eq_true rfl) hRf hRl)) hK trivial hw rfl rfl rfl hl rfl (Nat.le_of_ble_eq_true rfl) ⟨(by rw [hRc]; exact Nat.le_of_ble_eq_true rfl), (by rw [hRs]; exact Nat.le_of_ble_eq_true rfl)⟩ dL_law_816 (fun r_816 u_816 H locs hpq hw => ?_)
  have hF_816 := hpq
  refine lv_aload_n hx hb dL_law_819 rfl (lv_at hl 2 rfl) ?_
  refine lv_aload_n hx hb dL_law_820 rfl (lv_at hl 0 rfl) ?_
  refine lv_iload_n hx hb dL_law_821 rfl (lv_at hl 3 rfl) ?_
  refine lv_iconst (v := 1) hx hb dL_law_822 (by decide) ?_
  refine r_addN hx hb ix 1 dL_law_823 ?_
  refine r_sld hx hb hXs hbl hbA hw (ix + 1) (by omega) hL3 dL_law_824 ?_
  have hw := hw.m24
  have hw := hw.m24
  have hw := hw.m24
  have hw := hw.m24
  have hw := hw.m17
  have hw := hw.m17
  refine c_vi (As := [.int (xs (ix + 1))]) (rest := [.int r_816]) ⟨hx, hb, hml, hown, hts⟩ (k_X8_kinds l D c4 A ((iG ad fp) :: (wG ((ad 3) 0) ((ad 4) 0) bt nt sd) :: (yG c4 (ad 4) (nI n) os kd ic br) :: (rG c4 (ad 7) (nI bc) (nI ec) by0 bn bd bi ey ei) :: (xG c4 (ad 1) (nI ln) xyc xfn xfp xpl xcs lt xnb xyk xyi) :: (bG c4 (ad 2) told) :: (tG c4 (ad 8) bh mi fb ba) :: (yG c4 (ad 9) n0 os0 kd0 ic0 br0) :: ((sG c4 (ad 10) ((ad 11) 0) zlc zlS zdp zmi zfo zax zco zth zpe zcd zdc zwc lv) ++ ((tG c4 (ad 11) tbh tmi tfb tba) ++ ((yG c4 (la 0) (gn 0) (go 0) (gk 0) (gi 0) (gb 0)) ++ ((yG c4 (la 1) (gn 1) (go 1) (gk 1) (gi 1) (gb 1)) ++ ((yG c4 (la 2) (gn 2) (go 2) (gk 2) (gi 2) (gb 2)) ++ ((yG c4 (la 3) (gn 3) (go 3) (gk 3) (gi 3) (gb 3)) ++ ((yG c4 (la 4) (gn 4) (go 4) (gk 4) (gi 4) (gb 4)) ++ ((yG c4 (la 5) (gn 5) (go 5) (gk 5) (gi 5) (gb 5)) ++ ((yG c4 (la 6) (gn 6) (go 6) (gk 6) (gi 6) (gb 6)) ++ ((yG c4 (la 7) (gn 7) (go 7) (gk 7) (gi 7) (gb 7)) ++ (yG c4 (la 8) (gn 8) (go 8) (gk 8) (gi 8) (gb 8)))))))))))) :: (gG c4 ((ad 5) 0) ig) :: (zG c4 ((ad 6) 0) 2 kp) :: ((wG ((ad 12) 0) ((ad 14) 0) ib0 it0 is0) ++ ((yG c4 (ad 14) in0 io0 ik0 ii0 ir0) ++ ((wG ((ad 13) 0) ((ad 15) 0) ib1 it1 is1) ++ (yG c4 (ad 15) in1 io1 ik1 ii1 ir1)))) :: (aG c4 (a 2) 18 told) :: (zG c4 (a 3) 2 mkp) :: (aG c4 (a 4) 230 lt) :: (aG c4 (a 5) 12 rk) :: (aG c4 (a 6) 12 ri) :: (aG c4 (a 7) 12 mba) :: (aG c4 (a 8) 51 mhd) :: (aG c4 (a 13) 15 ey) :: (aG c4 (a 14) 15 ei) :: Ts) a n (nI ln) mpl mst mva mfy fp mry mse mbh mmi mfb bc (nI ec) w q by0 bn bd bi (xs (ix + 1)) hn hmY hbc hbo) (cwV 1 hts gL_law_X8_kinds rfl rfl rfl (by decide +kernel) (rmv (Nat.le_of_ble_eq_true rfl) (Nat.le_of_ble_eq_true rfl) hRf hRl)) hK trivial hw rfl rfl rfl hl rfl (Nat.le_of_ble_eq_true rfl) ⟨(by rw [hRc]; exact Nat.le_of_ble_eq_true rfl), (by rw [hRs]; exact Nat.le_of_ble_eq_true rfl)⟩ dL_law_825 (fun r_825 u_825 H locs hpq hw => ?_)
  obtain ⟨w2_825, rfl⟩ : ∃ z, z = u_825 := ⟨_, rfl⟩
  have hw : gW D A js.heap ((mG a (nI n) (nI ln) mpl mst mva mfy fp mry mse mbh mmi mfb (nI bc) (nI ec)) :: (aG c4 (a 1) 204 w2_825) :: (aG c4 (a 9) 10 by0) :: (aG c4 (a 10) 10 bn) :: (aG c4 (a 11) 10 bd) :: (aG c4 (a 12) 10 bi) :: (iG ad fp) :: (wG ((ad 3) 0) ((ad 4) 0) bt nt sd) :: (yG c4 (ad 4) (nI n) os kd ic br) :: (rG c4 (ad 7) (nI bc) (nI ec) by0 bn bd bi ey ei) :: (xG c4 (ad 1) (nI ln) xyc xfn xfp xpl xcs lt xnb xyk xyi) :: (bG c4 (ad 2) told) :: (tG c4 (ad 8) bh mi fb ba) :: (yG c4 (ad 9) n0 os0 kd0 ic0 br0) :: ((sG c4 (ad 10) ((ad 11) 0) zlc zlS zdp zmi zfo zax zco zth zpe zcd zdc zwc lv) ++ ((tG c4 (ad 11) tbh tmi tfb tba) ++ ((yG c4 (la 0) (gn 0) (go 0) (gk 0) (gi 0) (gb 0)) ++ ((yG c4 (la 1) (gn 1) (go 1) (gk 1) (gi 1) (gb 1)) ++ ((yG c4 (la 2) (gn 2) (go 2) (gk 2) (gi 2) (gb 2)) ++ ((yG c4 (la 3) (gn 3) (go 3) (gk 3) (gi 3) (gb 3)) ++ ((yG c4 (la 4) (gn 4) (go 4) (gk 4) (gi 4) (gb 4)) ++ ((yG c4 (la 5) (gn 5) (go 5) (gk 5) (gi 5) (gb 5)) ++ ((yG c4 (la 6) (gn 6) (go 6) (gk 6) (gi 6) (gb 6)) ++ ((yG c4 (la 7) (gn 7) (go 7) (gk 7) (gi 7) (gb 7)) ++ (yG c4 (la 8) (gn 8) (go 8) (gk 8) (gi 8) (gb 8)))))))))))) :: (gG c4 ((ad 5) 0) ig) :: (zG c4 ((ad 6) 0) 2 kp) :: ((wG ((ad 12) 0) ((ad 14) 0) ib0 it0 is0) ++ ((yG c4 (ad 14) in0 io0 ik0 ii0 ir0) ++ ((wG ((ad 13) 0) ((ad 15) 0) ib1 it1 is1) ++ (yG c4 (ad 15) in1 io1 ik1 ii1 ir1)))) :: (aG c4 (a 2) 18 told) :: (zG c4 (a 3) 2 mkp) :: (aG c4 (a 4) 230 lt) :: (aG c4 (a 5) 12 rk) :: (aG c4 (a 6) 12 ri) :: (aG c4 (a 7) 12 mba) :: (aG c4 (a 8) 51 mhd) :: (aG c4 (a 13) 15 ey) :: (aG c4 (a 14) 15 ei) :: Ts) H locs := hw
  obtain ⟨hF_825, hW_825⟩ := hpq
  have hF_825 : kindP q n bc (xs (ix + 1)) by0 bn bd bi r_825 := hF_825
  have hW_825 : wNow w w2_825 := hW_825
  have er : (r_816 : Int32) = r_825 := (hF_816.one hF_825)
  refine lv_icmp_eq (tgt := 961) hx hb dL_law_828 (by decide) (fun _ => ?_) (fun c_e => absurd er c_e)
  have hl := lv_sub (lv' := [(0, .ref b), (1, .ref ((ad 0) 0)), (2, .ref (a 0)), (3, .int (nI ix))]) hl [0, 1, 2, 3] rfl
  have hw := hw.m26
  have hw := hw.m26
  have hw := hw.m7
  have hw := hw.m7
  have hw := hw.m7
  have hw := hw.m7
  have hw := hw.m26
  have hw := hw.m26
  have hw := hw.m26
  have hw := hw.m26
  have hw := hw.m26
  have hw := hw.m26
  have hw := hw.m26
  have hw := hw.m14
  have hw := hw.m14
  have hw := hw.m26
  have hw := hw.m26
  have hw := hw.m26
  have hw := hw.m26
  have hw := hw.m26
  have hw := hw.m26
  have hw := hw.m24
  have hw := hw.m24
  have hw := hw.m26
  have hw := hw.m25
  have hw := hw.m26
  have hw := hw.m26
  exact next _ _ _ ⟨fp, ln, xyc, xfn, xfp, xpl, xcs, lt, xnb, xyk, xyi, bt, nt, sd, n, os, kd, ic, br, bc, ec, by0, bn, bd, bi, ey, ei, bh, mi, fb, ba, n0, os0, kd0, ic0, br0, zlc, zlS, zdp, zmi, zfo, zax, zco, zth, zpe, zcd, zdc, zwc, tbh, tmi, tfb, tba, gn, go, gk, gi, gb, kp, in0, io0, ib0, it0, is0, ik0, ii0, ir0, in1, io1, ib1, it1, is1, ik1, ii1, ir1, mpl, mst, mva, mfy, mry, mse, mbh, mmi, mfb, w2_825, told, mkp, rk, ri, mba, mhd, q, q0, q1, hw, (hR1.now hW_825), htl, hR2, hR3, (hRI0.at (by decide) hW_825.hi), (hRI1.at (by decide) hW_825.hi)⟩ hl
set_option maxHeartbeats 4000000 in
set_option maxRecDepth 100000 in
theorem lc_25 {jp : Program} {l : Launch} {je : Env} {js : State} {jm : MethodId} {below : List Frame} {meth : Method} {jc : Code} {D : va_G} {c4 : Nat → ClassId} {A : Nat → Prop} {t : Nat → Nat} {b L : Nat} {xs : Nat → Int32} {ad la : Nat → Nat → Nat} {a : Nat → Nat} {lv ig : Nat → Option Nat} {Ts : List va_W} {Q : State → Prop} {H : Heap} {locs : List Loc} {ls : Array Slot} {ix : Nat} (C0 : LC jp js jm meth jc D c4 A t b L xs) (hlv : ∀ k, k < 9 → lv k = some (la k 0)) (him0 : ig 0 = some (ad 12 0)) (him1 : ig 1 = some (ad 13 0)) (hix : ix + 6 ≤ L) (hI : LI D c4 A js.heap ad la a lv ig Ts H locs) (hl : lv_has ls 4 [(0, .ref b), (1, .ref ((ad 0) 0)), (2, .ref (a 0)), (3, .int (nI ix))]) (next : ∀ (H : Heap) (locs : List Loc) (ls : Array Slot), LI D c4 A js.heap ad la a lv ig Ts H locs → lv_has ls 4 [(0, .ref b), (1, .ref ((ad 0) 0)), (2, .ref (a 0)), (3, .int (nI ix))] → W jp l je room_1 js jm #[Value.ref b] below meth jc H locs 600000 7302250 Q (F0 jm 961 ls [])) : W jp l je room_1 js jm #[Value.ref b] below meth jc H locs 600000 7302250 Q (F0 jm 879 ls []) := by
  obtain ⟨hx, hb, hr, hml, hown, hts, hXs, hbl, hlocks, hK, hX, hbA, hL3⟩ := C0
  have hRf : room_1.frames = 2048 := rfl
  have hRl : room_1.locals = 84000 := rfl
  have hRc : room_1.cells = 600000 := rfl
  have hRs : room_1.slots = 7302250 := rfl
  obtain ⟨fp, ln, xyc, xfn, xfp, xpl, xcs, lt, xnb, xyk, xyi, bt, nt, sd, n, os, kd, ic, br, bc, ec, by0, bn, bd, bi, ey, ei, bh, mi, fb, ba, n0, os0, kd0, ic0, br0, zlc, zlS, zdp, zmi, zfo, zax, zco, zth, zpe, zcd, zdc, zwc, tbh, tmi, tfb, tba, gn, go, gk, gi, gb, kp, in0, io0, ib0, it0, is0, ik0, ii0, ir0, in1, io1, ib1, it1, is1, ik1, ii1, ir1, mpl, mst, mva, mfy, mry, mse, mbh, mmi, mfb, w, told, mkp, rk, ri, mba, mhd, q, q0, q1, hw, hR1, htl, hR2, hR3, hRI0, hRI1⟩ := hI
  have hR1c := hR1
  obtain ⟨hn, hyR, hmY, h48, h49, h50, hbt0, hsd0⟩ := hR1c
  have hbt : rng (w 48) 1 9 := by rw [h48]; exact hbt0
  have hsd : sdOk (w 50) := by rw [h50]; exact hsd0
  have hln := hR2.1
  have hlt := hR2.2
  have hbc := hR3.1
  have hec := hR3.2.1
  have hbo := hR3.2.2.1
  have hen := hR3.2.2.2
  refine lv_aload_n hx hb dL_law_879 rfl (lv_at hl 1 rfl) ?_
  have hw := hw.m5
  have hw := hw.m5
  have hw := hw.m4
  have hw := hw.m3
  refine c_vi (As := []) (rest := []) ⟨hx, hb, hml, hown, hts⟩ (k_X7_judge l D c4 A ((xG c4 (ad 1) (nI ln) xyc xfn xfp xpl xcs lt xnb xyk xyi) :: (bG c4 (ad 2) told) :: (tG c4 (ad 8) bh mi fb ba) :: (yG c4 (ad 9) n0 os0 kd0 ic0 br0) :: ((sG c4 (ad 10) ((ad 11) 0) zlc zlS zdp zmi zfo zax zco zth zpe zcd zdc zwc lv) ++ ((tG c4 (ad 11) tbh tmi tfb tba) ++ ((yG c4 (la 0) (gn 0) (go 0) (gk 0) (gi 0) (gb 0)) ++ ((yG c4 (la 1) (gn 1) (go 1) (gk 1) (gi 1) (gb 1)) ++ ((yG c4 (la 2) (gn 2) (go 2) (gk 2) (gi 2) (gb 2)) ++ ((yG c4 (la 3) (gn 3) (go 3) (gk 3) (gi 3) (gb 3)) ++ ((yG c4 (la 4) (gn 4) (go 4) (gk 4) (gi 4) (gb 4)) ++ ((yG c4 (la 5) (gn 5) (go 5) (gk 5) (gi 5) (gb 5)) ++ ((yG c4 (la 6) (gn 6) (go 6) (gk 6) (gi 6) (gb 6)) ++ ((yG c4 (la 7) (gn 7) (go 7) (gk 7) (gi 7) (gb 7)) ++ (yG c4 (la 8) (gn 8) (go 8) (gk 8) (gi 8) (gb 8)))))))))))) :: (gG c4 ((ad 5) 0) ig) :: (zG c4 ((ad 6) 0) 2 kp) :: ((wG ((ad 12) 0) ((ad 14) 0) ib0 it0 is0) ++ ((yG c4 (ad 14) in0 io0 ik0 ii0 ir0) ++ ((wG ((ad 13) 0) ((ad 15) 0) ib1 it1 is1) ++ (yG c4 (ad 15) in1 io1 ik1 ii1 ir1)))) :: (mG a (nI n) (nI ln) mpl mst mva mfy fp mry mse mbh mmi mfb (nI bc) (nI ec)) :: (aG c4 (a 1) 204 w) :: (aG c4 (a 2) 18 told) :: (zG c4 (a 3) 2 mkp) :: (aG c4 (a 4) 230 lt) :: (aG c4 (a 5) 12 rk) :: (aG c4 (a 6) 12 ri) :: (aG c4 (a 7) 12 mba) :: (aG c4 (a 8) 51 mhd) :: (aG c4 (a 9) 10 by0) :: (aG c4 (a 10) 10 bn) :: (aG c4 (a 11) 10 bd) :: (aG c4 (a 12) 10 bi) :: (aG c4 (a 13) 15 ey) :: (aG c4 (a 14) 15 ei) :: Ts) ad fp bt nt sd n os kd ic br q bc ec by0 bn bd bi ey ei hn hyR hec hen) (cwV 0 hts gL_law_X7_judge rfl rfl rfl (by decide +kernel) (rmv (Nat.le_of_ble_eq_true rfl) (Nat.le_of_ble_eq_true rfl) hRf hRl)) hK trivial hw rfl rfl rfl hl rfl (Nat.le_of_ble_eq_true rfl) ⟨(by rw [hRc]; exact Nat.le_of_ble_eq_true rfl), (by rw [hRs]; exact Nat.le_of_ble_eq_true rfl)⟩ dL_law_880 (fun r_880 u_880 H locs hpq hw => ?_)
  have hF_880 := hpq
  refine lv_aload_n hx hb dL_law_883 rfl (lv_at hl 2 rfl) ?_
  have hw := hw.m26
  have hw := hw.m26
  have hw := hw.m15
  have hw := hw.m15
  refine c_vi (As := []) (rest := [.int r_880]) ⟨hx, hb, hml, hown, hts⟩ (k_X8_judge l D c4 A ((iG ad fp) :: (wG ((ad 3) 0) ((ad 4) 0) bt nt sd) :: (yG c4 (ad 4) (nI n) os kd ic br) :: (rG c4 (ad 7) (nI bc) (nI ec) by0 bn bd bi ey ei) :: (xG c4 (ad 1) (nI ln) xyc xfn xfp xpl xcs lt xnb xyk xyi) :: (bG c4 (ad 2) told) :: (tG c4 (ad 8) bh mi fb ba) :: (yG c4 (ad 9) n0 os0 kd0 ic0 br0) :: ((sG c4 (ad 10) ((ad 11) 0) zlc zlS zdp zmi zfo zax zco zth zpe zcd zdc zwc lv) ++ ((tG c4 (ad 11) tbh tmi tfb tba) ++ ((yG c4 (la 0) (gn 0) (go 0) (gk 0) (gi 0) (gb 0)) ++ ((yG c4 (la 1) (gn 1) (go 1) (gk 1) (gi 1) (gb 1)) ++ ((yG c4 (la 2) (gn 2) (go 2) (gk 2) (gi 2) (gb 2)) ++ ((yG c4 (la 3) (gn 3) (go 3) (gk 3) (gi 3) (gb 3)) ++ ((yG c4 (la 4) (gn 4) (go 4) (gk 4) (gi 4) (gb 4)) ++ ((yG c4 (la 5) (gn 5) (go 5) (gk 5) (gi 5) (gb 5)) ++ ((yG c4 (la 6) (gn 6) (go 6) (gk 6) (gi 6) (gb 6)) ++ ((yG c4 (la 7) (gn 7) (go 7) (gk 7) (gi 7) (gb 7)) ++ (yG c4 (la 8) (gn 8) (go 8) (gk 8) (gi 8) (gb 8)))))))))))) :: (gG c4 ((ad 5) 0) ig) :: (zG c4 ((ad 6) 0) 2 kp) :: ((wG ((ad 12) 0) ((ad 14) 0) ib0 it0 is0) ++ ((yG c4 (ad 14) in0 io0 ik0 ii0 ir0) ++ ((wG ((ad 13) 0) ((ad 15) 0) ib1 it1 is1) ++ (yG c4 (ad 15) in1 io1 ik1 ii1 ir1)))) :: (aG c4 (a 2) 18 told) :: (zG c4 (a 3) 2 mkp) :: (aG c4 (a 4) 230 lt) :: (aG c4 (a 5) 12 rk) :: (aG c4 (a 6) 12 ri) :: (aG c4 (a 7) 12 mba) :: (aG c4 (a 8) 51 mhd) :: (aG c4 (a 9) 10 by0) :: (aG c4 (a 10) 10 bn) :: (aG c4 (a 11) 10 bd) :: (aG c4 (a 12) 10 bi) :: Ts) a n (nI ln) mpl mst mva mfy fp mry mse mbh mmi mfb (nI bc) ec w q ey ei hn hmY hec hen) (cwV 0 hts gL_law_X8_judge rfl rfl rfl (by decide +kernel) (rmv (Nat.le_of_ble_eq_true rfl) (Nat.le_of_ble_eq_true rfl) hRf hRl)) hK trivial hw rfl rfl rfl hl rfl (Nat.le_of_ble_eq_true rfl) ⟨(by rw [hRc]; exact Nat.le_of_ble_eq_true rfl), (by rw [hRs]; exact Nat.le_of_ble_eq_true rfl)⟩ dL_law_884 (fun r_884 u_884 H locs hpq hw => ?_)
  have hF_884 := hpq
  have er : (r_880 : Int32) = r_884 := (hF_880.one hF_884)
  refine lv_icmp_eq (tgt := 961) hx hb dL_law_887 (by decide) (fun _ => ?_) (fun c_e => absurd er c_e)
  have hl := lv_sub (lv' := [(0, .ref b), (1, .ref ((ad 0) 0)), (2, .ref (a 0)), (3, .int (nI ix))]) hl [0, 1, 2, 3] rfl
  have hw := hw.m3
  have hw := hw.m3
  have hw := hw.m26
  have hw := hw.m26
  have hw := hw.m26
  have hw := hw.m26
  have hw := hw.m26
  have hw := hw.m26
  have hw := hw.m26
  have hw := hw.m26
  have hw := hw.m26
  have hw := hw.m26
  have hw := hw.m26
  have hw := hw.m14
  have hw := hw.m14
  have hw := hw.m26
  have hw := hw.m26
  have hw := hw.m26
  have hw := hw.m26
  have hw := hw.m26
  have hw := hw.m26
  have hw := hw.m24
  have hw := hw.m24
  have hw := hw.m26
  have hw := hw.m25
  have hw := hw.m26
  have hw := hw.m26
  exact next _ _ _ ⟨fp, ln, xyc, xfn, xfp, xpl, xcs, lt, xnb, xyk, xyi, bt, nt, sd, n, os, kd, ic, br, bc, ec, by0, bn, bd, bi, ey, ei, bh, mi, fb, ba, n0, os0, kd0, ic0, br0, zlc, zlS, zdp, zmi, zfo, zax, zco, zth, zpe, zcd, zdc, zwc, tbh, tmi, tfb, tba, gn, go, gk, gi, gb, kp, in0, io0, ib0, it0, is0, ik0, ii0, ir0, in1, io1, ib1, it1, is1, ik1, ii1, ir1, mpl, mst, mva, mfy, mry, mse, mbh, mmi, mfb, w, told, mkp, rk, ri, mba, mhd, q, q0, q1, hw, hR1, htl, hR2, hR3, hRI0, hRI1⟩ hl
