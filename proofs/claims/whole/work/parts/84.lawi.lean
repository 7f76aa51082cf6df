set_option maxHeartbeats 4000000 in
set_option maxRecDepth 100000 in
theorem lc_17 {jp : Program} {l : Launch} {je : Env} {js : State} {jm : MethodId} {below : List Frame} {meth : Method} {jc : Code} {D : va_G} {c4 : Nat → ClassId} {A : Nat → Prop} {t : Nat → Nat} {b L : Nat} {xs : Nat → Int32} {ad la : Nat → Nat → Nat} {a : Nat → Nat} {lv ig : Nat → Option Nat} {Ts : List va_W} {Q : State → Prop} {H : Heap} {locs : List Loc} {ls : Array Slot} {ix : Nat} (C0 : LC jp js jm meth jc D c4 A t b L xs) (hlv : ∀ k, k < 9 → lv k = some (la k 0)) (him0 : ig 0 = some (ad 12 0)) (him1 : ig 1 = some (ad 13 0)) (hix : ix + 6 ≤ L) {fp : Int32} {ln : Nat} {xyc : Int32} {xfn : Int32} {xfp : Int32} {xpl : Int32} {xcs : Int32} {lt : Nat → Int32} {xnb : Nat → Int32} {xyk : Nat → Int32} {xyi : Nat → Int32} {bt : Int32} {nt : Int32} {sd : Int32} {n : Nat} {os : Int32} {kd : Nat → Int32} {ic : Nat → Int32} {br : Nat → Int32} {bc : Nat} {ec : Nat} {by0 : Nat → Int32} {bn : Nat → Int32} {bd : Nat → Int32} {bi : Nat → Int32} {ey : Nat → Int32} {ei : Nat → Int32} {bh : Int32} {mi : Int32} {fb : Int32} {ba : Nat → Int32} {n0 : Int32} {os0 : Int32} {kd0 : Nat → Int32} {ic0 : Nat → Int32} {br0 : Nat → Int32} {zlc : Int32} {zlS : Int32} {zdp : Int32} {zmi : Int32} {zfo : Int32} {zax : Int32} {zco : Int32} {zth : Int32} {zpe : Int32} {zcd : Int32} {zdc : Int32} {zwc : Int32} {tbh : Int32} {tmi : Int32} {tfb : Int32} {tba : Nat → Int32} {gn : Nat → Int32} {go : Nat → Int32} {gk : Nat → Nat → Int32} {gi : Nat → Nat → Int32} {gb : Nat → Nat → Int32} {kp : Nat → Int32} {in0 : Int32} {io0 : Int32} {ib0 : Int32} {it0 : Int32} {is0 : Int32} {ik0 : Nat → Int32} {ii0 : Nat → Int32} {ir0 : Nat → Int32} {in1 : Int32} {io1 : Int32} {ib1 : Int32} {it1 : Int32} {is1 : Int32} {ik1 : Nat → Int32} {ii1 : Nat → Int32} {ir1 : Nat → Int32} {mpl : Int32} {mst : Int32} {mva : Int32} {mfy : Int32} {mry : Int32} {mse : Int32} {mbh : Int32} {mmi : Int32} {mfb : Int32} {w : Nat → Int32} {told : Nat → Int32} {mkp : Nat → Int32} {rk : Nat → Int32} {ri : Nat → Int32} {mba : Nat → Int32} {mhd : Nat → Int32} {q : Nat → Yq} {q0 : Nat → Yq} {q1 : Nat → Yq} (hI : LIb D c4 A js.heap ad la a lv ig Ts fp ln xyc xfn xfp xpl xcs lt xnb xyk xyi bt nt sd n os kd ic br bc ec by0 bn bd bi ey ei bh mi fb ba n0 os0 kd0 ic0 br0 zlc zlS zdp zmi zfo zax zco zth zpe zcd zdc zwc tbh tmi tfb tba gn go gk gi gb kp in0 io0 ib0 it0 is0 ik0 ii0 ir0 in1 io1 ib1 it1 is1 ik1 ii1 ir1 mpl mst mva mfy mry mse mbh mmi mfb w told mkp rk ri mba mhd q q0 q1 H locs) (hl : lv_has ls 4 [(0, .ref b), (1, .ref ((ad 0) 0)), (2, .ref (a 0)), (3, .int (nI ix))]) (next : ∀ (H : Heap) (locs : List Loc) (ls : Array Slot), LI D c4 A js.heap ad la a lv ig Ts H locs → lv_has ls 4 [(0, .ref b), (1, .ref ((ad 0) 0)), (2, .ref (a 0)), (3, .int (nI ix))] → W jp l je room_1 js jm #[Value.ref b] below meth jc H locs 600000 7302250 Q (F0 jm 961 ls [])) : W jp l je room_1 js jm #[Value.ref b] below meth jc H locs 600000 7302250 Q (F0 jm 575 ls []) := by
  obtain ⟨hx, hb, hr, hml, hown, hts, hXs, hbl, hlocks, hK, hX, hbA, hL3⟩ := C0
  have hRf : room_1.frames = 2048 := rfl
  have hRl : room_1.locals = 84000 := rfl
  have hRc : room_1.cells = 600000 := rfl
  have hRs : room_1.slots = 7302250 := rfl
  obtain ⟨hw, hR1, htl, hR2, hR3, hRI0, hRI1⟩ := hI
  have hR1c := hR1
  obtain ⟨hn, hyR, hmY, h48, h49, h50, hbt0, hsd0⟩ := hR1c
  have hbt : rng (w 48) 1 9 := by rw [h48]; exact hbt0
  have hsd : sdOk (w 50) := by rw [h50]; exact hsd0
  have hln := hR2.1
  have hlt := hR2.2
  have hbc := hR3.1
  have hec := hR3.2.1
  have hbo := hR3.2.2.1
  have hen := hR3.2.2.2
  have hw := hw.m8
  have hw := hw.m5
  have hw := hw.m5
  have hw := hw.m5
  have hw := hw.m4
  have hw : gW D A js.heap ((iG ad fp) :: (wG ((ad 3) 0) ((ad 4) 0) bt nt sd) :: (bG c4 (ad 2) told) :: (yG c4 (ad 4) (nI n) os kd ic br) :: (sG c4 (ad 10) ((ad 11) 0) zlc zlS zdp zmi zfo zax zco zth zpe zcd zdc zwc lv) :: (tG c4 (ad 11) tbh tmi tfb tba) :: (yG c4 (la 0) (gn 0) (go 0) (gk 0) (gi 0) (gb 0)) :: (yG c4 (la 1) (gn 1) (go 1) (gk 1) (gi 1) (gb 1)) :: (yG c4 (la 2) (gn 2) (go 2) (gk 2) (gi 2) (gb 2)) :: (yG c4 (la 3) (gn 3) (go 3) (gk 3) (gi 3) (gb 3)) :: (yG c4 (la 4) (gn 4) (go 4) (gk 4) (gi 4) (gb 4)) :: (yG c4 (la 5) (gn 5) (go 5) (gk 5) (gi 5) (gb 5)) :: (yG c4 (la 6) (gn 6) (go 6) (gk 6) (gi 6) (gb 6)) :: (yG c4 (la 7) (gn 7) (go 7) (gk 7) (gi 7) (gb 7)) :: (yG c4 (la 8) (gn 8) (go 8) (gk 8) (gi 8) (gb 8)) :: (xG c4 (ad 1) (nI ln) xyc xfn xfp xpl xcs lt xnb xyk xyi) :: (rG c4 (ad 7) (nI bc) (nI ec) by0 bn bd bi ey ei) :: (tG c4 (ad 8) bh mi fb ba) :: (yG c4 (ad 9) n0 os0 kd0 ic0 br0) :: (gG c4 ((ad 5) 0) ig) :: (zG c4 ((ad 6) 0) 2 kp) :: ((wG ((ad 12) 0) ((ad 14) 0) ib0 it0 is0) ++ ((yG c4 (ad 14) in0 io0 ik0 ii0 ir0) ++ ((wG ((ad 13) 0) ((ad 15) 0) ib1 it1 is1) ++ (yG c4 (ad 15) in1 io1 ik1 ii1 ir1)))) :: (mG a (nI n) (nI ln) mpl mst mva mfy fp mry mse mbh mmi mfb (nI bc) (nI ec)) :: (aG c4 (a 1) 204 w) :: (aG c4 (a 2) 18 told) :: (zG c4 (a 3) 2 mkp) :: (aG c4 (a 4) 230 lt) :: (aG c4 (a 5) 12 rk) :: (aG c4 (a 6) 12 ri) :: (aG c4 (a 7) 12 mba) :: (aG c4 (a 8) 51 mhd) :: (aG c4 (a 9) 10 by0) :: (aG c4 (a 10) 10 bn) :: (aG c4 (a 11) 10 bd) :: (aG c4 (a 12) 10 bi) :: (aG c4 (a 13) 15 ey) :: (aG c4 (a 14) 15 ei) :: Ts) H locs := hw.cast rfl
  refine lv_aload_n hx hb dL_law_575 rfl (lv_at hl 1 rfl) ?_
  refine lv_aload_n hx hb dL_law_576 rfl (lv_at hl 0 rfl) ?_
  refine lv_iload_n hx hb dL_law_577 rfl (lv_at hl 3 rfl) ?_
  refine lv_iconst (v := 1) hx hb dL_law_578 (by decide) ?_
  refine r_addN hx hb ix 1 dL_law_579 ?_
  refine r_sld hx hb hXs hbl hbA hw (ix + 1) (by omega) hL3 dL_law_580 ?_
  refine lv_aload_n hx hb dL_law_581 rfl (lv_at hl 0 rfl) ?_
  refine lv_iload_n hx hb dL_law_582 rfl (lv_at hl 3 rfl) ?_
  refine lv_iconst (v := 2) hx hb dL_law_583 (by decide) ?_
  refine r_addN hx hb ix 2 dL_law_584 ?_
  refine r_sld hx hb hXs hbl hbA hw (ix + 2) (by omega) hL3 dL_law_585 ?_
  refine lv_aload_n hx hb dL_law_586 rfl (lv_at hl 0 rfl) ?_
  refine lv_iload_n hx hb dL_law_587 rfl (lv_at hl 3 rfl) ?_
  refine lv_iconst (v := 3) hx hb dL_law_588 (by decide) ?_
  refine r_addN hx hb ix 3 dL_law_589 ?_
  refine r_sld hx hb hXs hbl hbA hw (ix + 3) (by omega) hL3 dL_law_590 ?_
  refine lv_aload_n hx hb dL_law_591 rfl (lv_at hl 0 rfl) ?_
  refine lv_iload_n hx hb dL_law_592 rfl (lv_at hl 3 rfl) ?_
  refine lv_iconst (v := 4) hx hb dL_law_593 (by decide) ?_
  refine r_addN hx hb ix 4 dL_law_594 ?_
  refine r_sld hx hb hXs hbl hbA hw (ix + 4) (by omega) hL3 dL_law_595 ?_
  refine c_vi (As := [.int (xs (ix + 1)), .int (xs (ix + 2)), .int (xs (ix + 3)), .int (xs (ix + 4))]) (rest := []) ⟨hx, hb, hml, hown, hts⟩ (k_X7_plan l D c4 A ((xG c4 (ad 1) (nI ln) xyc xfn xfp xpl xcs lt xnb xyk xyi) :: (rG c4 (ad 7) (nI bc) (nI ec) by0 bn bd bi ey ei) :: (tG c4 (ad 8) bh mi fb ba) :: (yG c4 (ad 9) n0 os0 kd0 ic0 br0) :: (gG c4 ((ad 5) 0) ig) :: (zG c4 ((ad 6) 0) 2 kp) :: ((wG ((ad 12) 0) ((ad 14) 0) ib0 it0 is0) ++ ((yG c4 (ad 14) in0 io0 ik0 ii0 ir0) ++ ((wG ((ad 13) 0) ((ad 15) 0) ib1 it1 is1) ++ (yG c4 (ad 15) in1 io1 ik1 ii1 ir1)))) :: (mG a (nI n) (nI ln) mpl mst mva mfy fp mry mse mbh mmi mfb (nI bc) (nI ec)) :: (aG c4 (a 1) 204 w) :: (aG c4 (a 2) 18 told) :: (zG c4 (a 3) 2 mkp) :: (aG c4 (a 4) 230 lt) :: (aG c4 (a 5) 12 rk) :: (aG c4 (a 6) 12 ri) :: (aG c4 (a 7) 12 mba) :: (aG c4 (a 8) 51 mhd) :: (aG c4 (a 9) 10 by0) :: (aG c4 (a 10) 10 bn) :: (aG c4 (a 11) 10 bd) :: (aG c4 (a 12) 10 bi) :: (aG c4 (a 13) 15 ey) :: (aG c4 (a 14) 15 ei) :: Ts) ad fp bt nt sd told n os kd ic br q tbh tmi tfb tba la lv zlc zlS zdp zmi zfo zax zco zth zpe zcd zdc zwc gn go gk gi gb (xs (ix + 1)) (xs (ix + 2)) (xs (ix + 3)) (xs (ix + 4)) hn hyR htl (by first | omega | decide)) (cwV 4 hts gL_law_X7_plan rfl rfl rfl (by decide +kernel) (rmv (Nat.le_of_ble_eq_true rfl) (Nat.le_of_ble_eq_true rfl) hRf hRl)) hK trivial hw rfl rfl rfl hl rfl (Nat.le_of_ble_eq_true rfl) ⟨Nat.le_refl _, Nat.le_refl _⟩ dL_law_596 (fun r_596 u_596 H locs hpq hw => ?_)
  obtain ⟨zlc2_596, zlS2_596, zdp2_596, zmi2_596, zfo2_596, zax2_596, zco2_596, zth2_596, zpe2_596, zcd2_596, zdc2_596, zwc2_596, bh2_596, mi2_596, fb2_596, ba2_596, gn2_596, go2_596, gk2_596, gi2_596, gb2_596⟩ := u_596
  have hw : gW D A js.heap ((iG ad fp) :: (wG ((ad 3) 0) ((ad 4) 0) bt nt sd) :: (bG c4 (ad 2) told) :: (yG c4 (ad 4) (nI n) os kd ic br) :: (sG c4 (ad 10) ((ad 11) 0) zlc2_596 zlS2_596 zdp2_596 zmi2_596 zfo2_596 zax2_596 zco2_596 zth2_596 zpe2_596 zcd2_596 zdc2_596 zwc2_596 lv) :: (tG c4 (ad 11) bh2_596 mi2_596 fb2_596 ba2_596) :: (yG c4 (la 0) (gn2_596 0) (go2_596 0) (gk2_596 0) (gi2_596 0) (gb2_596 0)) :: (yG c4 (la 1) (gn2_596 1) (go2_596 1) (gk2_596 1) (gi2_596 1) (gb2_596 1)) :: (yG c4 (la 2) (gn2_596 2) (go2_596 2) (gk2_596 2) (gi2_596 2) (gb2_596 2)) :: (yG c4 (la 3) (gn2_596 3) (go2_596 3) (gk2_596 3) (gi2_596 3) (gb2_596 3)) :: (yG c4 (la 4) (gn2_596 4) (go2_596 4) (gk2_596 4) (gi2_596 4) (gb2_596 4)) :: (yG c4 (la 5) (gn2_596 5) (go2_596 5) (gk2_596 5) (gi2_596 5) (gb2_596 5)) :: (yG c4 (la 6) (gn2_596 6) (go2_596 6) (gk2_596 6) (gi2_596 6) (gb2_596 6)) :: (yG c4 (la 7) (gn2_596 7) (go2_596 7) (gk2_596 7) (gi2_596 7) (gb2_596 7)) :: (yG c4 (la 8) (gn2_596 8) (go2_596 8) (gk2_596 8) (gi2_596 8) (gb2_596 8)) :: (xG c4 (ad 1) (nI ln) xyc xfn xfp xpl xcs lt xnb xyk xyi) :: (rG c4 (ad 7) (nI bc) (nI ec) by0 bn bd bi ey ei) :: (tG c4 (ad 8) bh mi fb ba) :: (yG c4 (ad 9) n0 os0 kd0 ic0 br0) :: (gG c4 ((ad 5) 0) ig) :: (zG c4 ((ad 6) 0) 2 kp) :: ((wG ((ad 12) 0) ((ad 14) 0) ib0 it0 is0) ++ ((yG c4 (ad 14) in0 io0 ik0 ii0 ir0) ++ ((wG ((ad 13) 0) ((ad 15) 0) ib1 it1 is1) ++ (yG c4 (ad 15) in1 io1 ik1 ii1 ir1)))) :: (mG a (nI n) (nI ln) mpl mst mva mfy fp mry mse mbh mmi mfb (nI bc) (nI ec)) :: (aG c4 (a 1) 204 w) :: (aG c4 (a 2) 18 told) :: (zG c4 (a 3) 2 mkp) :: (aG c4 (a 4) 230 lt) :: (aG c4 (a 5) 12 rk) :: (aG c4 (a 6) 12 ri) :: (aG c4 (a 7) 12 mba) :: (aG c4 (a 8) 51 mhd) :: (aG c4 (a 9) 10 by0) :: (aG c4 (a 10) 10 bn) :: (aG c4 (a 11) 10 bd) :: (aG c4 (a 12) 10 bi) :: (aG c4 (a 13) 15 ey) :: (aG c4 (a 14) 15 ei) :: Ts) H locs := hw
  have er_596 := hpq
  have er_596 : r_596 = (planF (xs (ix + 1)) (xs (ix + 2)) (xs (ix + 3)) (xs (ix + 4)) told (pForce told bt) q n) := er_596
  have er_596 := er_596.symm; subst er_596
  refine lv_aload_n hx hb dL_law_599 rfl (lv_at hl 2 rfl) ?_
  refine lv_aload_n hx hb dL_law_600 rfl (lv_at hl 0 rfl) ?_
  refine lv_iload_n hx hb dL_law_601 rfl (lv_at hl 3 rfl) ?_
  refine lv_iconst (v := 1) hx hb dL_law_602 (by decide) ?_
  refine r_addN hx hb ix 1 dL_law_603 ?_
  refine r_sld hx hb hXs hbl hbA hw (ix + 1) (by omega) hL3 dL_law_604 ?_
  refine lv_aload_n hx hb dL_law_605 rfl (lv_at hl 0 rfl) ?_
  refine lv_iload_n hx hb dL_law_606 rfl (lv_at hl 3 rfl) ?_
  refine lv_iconst (v := 2) hx hb dL_law_607 (by decide) ?_
  refine r_addN hx hb ix 2 dL_law_608 ?_
  refine r_sld hx hb hXs hbl hbA hw (ix + 2) (by omega) hL3 dL_law_609 ?_
  refine lv_aload_n hx hb dL_law_610 rfl (lv_at hl 0 rfl) ?_
  refine lv_iload_n hx hb dL_law_611 rfl (lv_at hl 3 rfl) ?_
  refine lv_iconst (v := 3) hx hb dL_law_612 (by decide) ?_
  refine r_addN hx hb ix 3 dL_law_613 ?_
  refine r_sld hx hb hXs hbl hbA hw (ix + 3) (by omega) hL3 dL_law_614 ?_
  refine lv_aload_n hx hb dL_law_615 rfl (lv_at hl 0 rfl) ?_
  refine lv_iload_n hx hb dL_law_616 rfl (lv_at hl 3 rfl) ?_
  refine lv_iconst (v := 4) hx hb dL_law_617 (by decide) ?_
  refine r_addN hx hb ix 4 dL_law_618 ?_
  refine r_sld hx hb hXs hbl hbA hw (ix + 4) (by omega) hL3 dL_law_619 ?_
  have hw := hw.m29
  have hw := hw.m24
  have hw := hw.m25
  have hw := hw.m25
  refine c_vi (As := [.int (xs (ix + 1)), .int (xs (ix + 2)), .int (xs (ix + 3)), .int (xs (ix + 4))]) (rest := [.int (planF (xs (ix + 1)) (xs (ix + 2)) (xs (ix + 3)) (xs (ix + 4)) told (pForce told bt) q n)]) ⟨hx, hb, hml, hown, hts⟩ (k_X8_plan l D c4 A ((iG ad fp) :: (wG ((ad 3) 0) ((ad 4) 0) bt nt sd) :: (bG c4 (ad 2) told) :: (yG c4 (ad 4) (nI n) os kd ic br) :: (sG c4 (ad 10) ((ad 11) 0) zlc2_596 zlS2_596 zdp2_596 zmi2_596 zfo2_596 zax2_596 zco2_596 zth2_596 zpe2_596 zcd2_596 zdc2_596 zwc2_596 lv) :: (tG c4 (ad 11) bh2_596 mi2_596 fb2_596 ba2_596) :: (yG c4 (la 0) (gn2_596 0) (go2_596 0) (gk2_596 0) (gi2_596 0) (gb2_596 0)) :: (yG c4 (la 1) (gn2_596 1) (go2_596 1) (gk2_596 1) (gi2_596 1) (gb2_596 1)) :: (yG c4 (la 2) (gn2_596 2) (go2_596 2) (gk2_596 2) (gi2_596 2) (gb2_596 2)) :: (yG c4 (la 3) (gn2_596 3) (go2_596 3) (gk2_596 3) (gi2_596 3) (gb2_596 3)) :: (yG c4 (la 4) (gn2_596 4) (go2_596 4) (gk2_596 4) (gi2_596 4) (gb2_596 4)) :: (yG c4 (la 5) (gn2_596 5) (go2_596 5) (gk2_596 5) (gi2_596 5) (gb2_596 5)) :: (yG c4 (la 6) (gn2_596 6) (go2_596 6) (gk2_596 6) (gi2_596 6) (gb2_596 6)) :: (yG c4 (la 7) (gn2_596 7) (go2_596 7) (gk2_596 7) (gi2_596 7) (gb2_596 7)) :: (yG c4 (la 8) (gn2_596 8) (go2_596 8) (gk2_596 8) (gi2_596 8) (gb2_596 8)) :: (xG c4 (ad 1) (nI ln) xyc xfn xfp xpl xcs lt xnb xyk xyi) :: (rG c4 (ad 7) (nI bc) (nI ec) by0 bn bd bi ey ei) :: (tG c4 (ad 8) bh mi fb ba) :: (yG c4 (ad 9) n0 os0 kd0 ic0 br0) :: (gG c4 ((ad 5) 0) ig) :: (zG c4 ((ad 6) 0) 2 kp) :: ((wG ((ad 12) 0) ((ad 14) 0) ib0 it0 is0) ++ ((yG c4 (ad 14) in0 io0 ik0 ii0 ir0) ++ ((wG ((ad 13) 0) ((ad 15) 0) ib1 it1 is1) ++ (yG c4 (ad 15) in1 io1 ik1 ii1 ir1)))) :: (zG c4 (a 3) 2 mkp) :: (aG c4 (a 4) 230 lt) :: (aG c4 (a 5) 12 rk) :: (aG c4 (a 6) 12 ri) :: (aG c4 (a 8) 51 mhd) :: (aG c4 (a 9) 10 by0) :: (aG c4 (a 10) 10 bn) :: (aG c4 (a 11) 10 bd) :: (aG c4 (a 12) 10 bi) :: (aG c4 (a 13) 15 ey) :: (aG c4 (a 14) 15 ei) :: Ts) a n (nI ln) mpl mst mva mfy fp mry mse mbh mmi mfb (nI bc) (nI ec) told w mba q (xs (ix + 1)) (xs (ix + 2)) (xs (ix + 3)) (xs (ix + 4)) hn hmY htl hbt) (cwV 4 hts gL_law_X8_plan rfl rfl rfl (by decide +kernel) (rmv (Nat.le_of_ble_eq_true rfl) (Nat.le_of_ble_eq_true rfl) hRf hRl)) hK trivial hw rfl rfl rfl hl rfl (Nat.le_of_ble_eq_true rfl) ⟨Nat.le_refl _, Nat.le_refl _⟩ dL_law_620 (fun r_620 u_620 H locs hpq hw => ?_)
  obtain ⟨bh2_620, mi2_620, fb2_620, w2_620, ba2_620⟩ := u_620
  have hw : gW D A js.heap ((mG a (nI n) (nI ln) mpl mst mva mfy fp mry mse bh2_620 mi2_620 fb2_620 (nI bc) (nI ec)) :: (aG c4 (a 2) 18 told) :: (aG c4 (a 1) 204 w2_620) :: (aG c4 (a 7) 12 ba2_620) :: (iG ad fp) :: (wG ((ad 3) 0) ((ad 4) 0) bt nt sd) :: (bG c4 (ad 2) told) :: (yG c4 (ad 4) (nI n) os kd ic br) :: (sG c4 (ad 10) ((ad 11) 0) zlc2_596 zlS2_596 zdp2_596 zmi2_596 zfo2_596 zax2_596 zco2_596 zth2_596 zpe2_596 zcd2_596 zdc2_596 zwc2_596 lv) :: (tG c4 (ad 11) bh2_596 mi2_596 fb2_596 ba2_596) :: (yG c4 (la 0) (gn2_596 0) (go2_596 0) (gk2_596 0) (gi2_596 0) (gb2_596 0)) :: (yG c4 (la 1) (gn2_596 1) (go2_596 1) (gk2_596 1) (gi2_596 1) (gb2_596 1)) :: (yG c4 (la 2) (gn2_596 2) (go2_596 2) (gk2_596 2) (gi2_596 2) (gb2_596 2)) :: (yG c4 (la 3) (gn2_596 3) (go2_596 3) (gk2_596 3) (gi2_596 3) (gb2_596 3)) :: (yG c4 (la 4) (gn2_596 4) (go2_596 4) (gk2_596 4) (gi2_596 4) (gb2_596 4)) :: (yG c4 (la 5) (gn2_596 5) (go2_596 5) (gk2_596 5) (gi2_596 5) (gb2_596 5)) :: (yG c4 (la 6) (gn2_596 6) (go2_596 6) (gk2_596 6) (gi2_596 6) (gb2_596 6)) :: (yG c4 (la 7) (gn2_596 7) (go2_596 7) (gk2_596 7) (gi2_596 7) (gb2_596 7)) :: (yG c4 (la 8) (gn2_596 8) (go2_596 8) (gk2_596 8) (gi2_596 8) (gb2_596 8)) :: (xG c4 (ad 1) (nI ln) xyc xfn xfp xpl xcs lt xnb xyk xyi) :: (rG c4 (ad 7) (nI bc) (nI ec) by0 bn bd bi ey ei) :: (tG c4 (ad 8) bh mi fb ba) :: (yG c4 (ad 9) n0 os0 kd0 ic0 br0) :: (gG c4 ((ad 5) 0) ig) :: (zG c4 ((ad 6) 0) 2 kp) :: ((wG ((ad 12) 0) ((ad 14) 0) ib0 it0 is0) ++ ((yG c4 (ad 14) in0 io0 ik0 ii0 ir0) ++ ((wG ((ad 13) 0) ((ad 15) 0) ib1 it1 is1) ++ (yG c4 (ad 15) in1 io1 ik1 ii1 ir1)))) :: (zG c4 (a 3) 2 mkp) :: (aG c4 (a 4) 230 lt) :: (aG c4 (a 5) 12 rk) :: (aG c4 (a 6) 12 ri) :: (aG c4 (a 8) 51 mhd) :: (aG c4 (a 9) 10 by0) :: (aG c4 (a 10) 10 bn) :: (aG c4 (a 11) 10 bd) :: (aG c4 (a 12) 10 bi) :: (aG c4 (a 13) 15 ey) :: (aG c4 (a 14) 15 ei) :: Ts) H locs := hw
  obtain ⟨er_620, hW_620⟩ := hpq
  have er_620 : r_620 = (planF (xs (ix + 1)) (xs (ix + 2)) (xs (ix + 3)) (xs (ix + 4)) told (pForce told (w 48)) q n) := er_620
  have hW_620 : wNow w w2_620 := hW_620
  have er_620 := er_620.symm; subst er_620
  have er : ((planF (xs (ix + 1)) (xs (ix + 2)) (xs (ix + 3)) (xs (ix + 4)) told (pForce told bt) q n) : Int32) = (planF (xs (ix + 1)) (xs (ix + 2)) (xs (ix + 3)) (xs (ix + 4)) told (pForce told (w 48)) q n) := (by rw [h48])
  refine lv_icmp_eq (tgt := 961) hx hb dL_law_623 (by decide) (fun _ => ?_) (fun c_e => absurd er c_e)
  have hl : lv_has ls 4 [(0, .ref b), (1, .ref ((ad 0) 0)), (2, .ref (a 0)), (3, .int (nI ix))] := lv_sub hl [0, 1, 2, 3] rfl
  have hw := hw.m18
  have hw := hw.m18
  have hw := hw.m18
  have hw := hw.m18
  have hw := hw.m18
  have hw := hw.m18
  have hw := hw.m18
  have hw := hw.m18
  have hw := hw.m18
  have hw := hw.m18
  have hw := hw.m18
  have hw : gW D A js.heap (((sG c4 (ad 10) ((ad 11) 0) zlc2_596 zlS2_596 zdp2_596 zmi2_596 zfo2_596 zax2_596 zco2_596 zth2_596 zpe2_596 zcd2_596 zdc2_596 zwc2_596 lv) ++ ((tG c4 (ad 11) bh2_596 mi2_596 fb2_596 ba2_596) ++ ((yG c4 (la 0) (gn2_596 0) (go2_596 0) (gk2_596 0) (gi2_596 0) (gb2_596 0)) ++ ((yG c4 (la 1) (gn2_596 1) (go2_596 1) (gk2_596 1) (gi2_596 1) (gb2_596 1)) ++ ((yG c4 (la 2) (gn2_596 2) (go2_596 2) (gk2_596 2) (gi2_596 2) (gb2_596 2)) ++ ((yG c4 (la 3) (gn2_596 3) (go2_596 3) (gk2_596 3) (gi2_596 3) (gb2_596 3)) ++ ((yG c4 (la 4) (gn2_596 4) (go2_596 4) (gk2_596 4) (gi2_596 4) (gb2_596 4)) ++ ((yG c4 (la 5) (gn2_596 5) (go2_596 5) (gk2_596 5) (gi2_596 5) (gb2_596 5)) ++ ((yG c4 (la 6) (gn2_596 6) (go2_596 6) (gk2_596 6) (gi2_596 6) (gb2_596 6)) ++ ((yG c4 (la 7) (gn2_596 7) (go2_596 7) (gk2_596 7) (gi2_596 7) (gb2_596 7)) ++ (yG c4 (la 8) (gn2_596 8) (go2_596 8) (gk2_596 8) (gi2_596 8) (gb2_596 8)))))))))))) :: (mG a (nI n) (nI ln) mpl mst mva mfy fp mry mse bh2_620 mi2_620 fb2_620 (nI bc) (nI ec)) :: (aG c4 (a 2) 18 told) :: (aG c4 (a 1) 204 w2_620) :: (aG c4 (a 7) 12 ba2_620) :: (iG ad fp) :: (wG ((ad 3) 0) ((ad 4) 0) bt nt sd) :: (bG c4 (ad 2) told) :: (yG c4 (ad 4) (nI n) os kd ic br) :: (xG c4 (ad 1) (nI ln) xyc xfn xfp xpl xcs lt xnb xyk xyi) :: (rG c4 (ad 7) (nI bc) (nI ec) by0 bn bd bi ey ei) :: (tG c4 (ad 8) bh mi fb ba) :: (yG c4 (ad 9) n0 os0 kd0 ic0 br0) :: (gG c4 ((ad 5) 0) ig) :: (zG c4 ((ad 6) 0) 2 kp) :: ((wG ((ad 12) 0) ((ad 14) 0) ib0 it0 is0) ++ ((yG c4 (ad 14) in0 io0 ik0 ii0 ir0) ++ ((wG ((ad 13) 0) ((ad 15) 0) ib1 it1 is1) ++ (yG c4 (ad 15) in1 io1 ik1 ii1 ir1)))) :: (zG c4 (a 3) 2 mkp) :: (aG c4 (a 4) 230 lt) :: (aG c4 (a 5) 12 rk) :: (aG c4 (a 6) 12 ri) :: (aG c4 (a 8) 51 mhd) :: (aG c4 (a 9) 10 by0) :: (aG c4 (a 10) 10 bn) :: (aG c4 (a 11) 10 bd) :: (aG c4 (a 12) 10 bi) :: (aG c4 (a 13) 15 ey) :: (aG c4 (a 14) 15 ei) :: Ts) _ _ := hw.cast rfl
  have hw := hw.m19
  have hw := hw.m19
  have hw := hw.m19
  have hw := hw.m19
  have hw := hw.m6
  have hw := hw.m7
  have hw := hw.m7
  have hw := hw.m19
  have hw := hw.m19
  have hw := hw.m19
  have hw := hw.m10
  have hw := hw.m19
  have hw := hw.m19
  have hw := hw.m19
  have hw := hw.m18
  have hw := hw.m18
  have hw := hw.m18
  have hw := hw.m19
  have hw := hw.m19
  exact next _ _ _ (LI.of fp ln xyc xfn xfp xpl xcs lt xnb xyk xyi bt nt sd n os kd ic br bc ec by0 bn bd bi ey ei bh mi fb ba n0 os0 kd0 ic0 br0 zlc2_596 zlS2_596 zdp2_596 zmi2_596 zfo2_596 zax2_596 zco2_596 zth2_596 zpe2_596 zcd2_596 zdc2_596 zwc2_596 bh2_596 mi2_596 fb2_596 ba2_596 gn2_596 go2_596 gk2_596 gi2_596 gb2_596 kp in0 io0 ib0 it0 is0 ik0 ii0 ir0 in1 io1 ib1 it1 is1 ik1 ii1 ir1 mpl mst mva mfy mry mse bh2_620 mi2_620 fb2_620 w2_620 told mkp rk ri ba2_620 mhd q q0 q1 ⟨hw, (hR1.now hW_620), htl, hR2, hR3, (hRI0.at (by decide) hW_620.hi), (hRI1.at (by decide) hW_620.hi)⟩) hl
set_option maxHeartbeats 4000000 in
set_option maxRecDepth 100000 in
theorem lc_19 {jp : Program} {l : Launch} {je : Env} {js : State} {jm : MethodId} {below : List Frame} {meth : Method} {jc : Code} {D : va_G} {c4 : Nat → ClassId} {A : Nat → Prop} {t : Nat → Nat} {b L : Nat} {xs : Nat → Int32} {ad la : Nat → Nat → Nat} {a : Nat → Nat} {lv ig : Nat → Option Nat} {Ts : List va_W} {Q : State → Prop} {H : Heap} {locs : List Loc} {ls : Array Slot} {ix : Nat} (C0 : LC jp js jm meth jc D c4 A t b L xs) (hlv : ∀ k, k < 9 → lv k = some (la k 0)) (him0 : ig 0 = some (ad 12 0)) (him1 : ig 1 = some (ad 13 0)) (hix : ix + 6 ≤ L) {fp : Int32} {ln : Nat} {xyc : Int32} {xfn : Int32} {xfp : Int32} {xpl : Int32} {xcs : Int32} {lt : Nat → Int32} {xnb : Nat → Int32} {xyk : Nat → Int32} {xyi : Nat → Int32} {bt : Int32} {nt : Int32} {sd : Int32} {n : Nat} {os : Int32} {kd : Nat → Int32} {ic : Nat → Int32} {br : Nat → Int32} {bc : Nat} {ec : Nat} {by0 : Nat → Int32} {bn : Nat → Int32} {bd : Nat → Int32} {bi : Nat → Int32} {ey : Nat → Int32} {ei : Nat → Int32} {bh : Int32} {mi : Int32} {fb : Int32} {ba : Nat → Int32} {n0 : Int32} {os0 : Int32} {kd0 : Nat → Int32} {ic0 : Nat → Int32} {br0 : Nat → Int32} {zlc : Int32} {zlS : Int32} {zdp : Int32} {zmi : Int32} {zfo : Int32} {zax : Int32} {zco : Int32} {zth : Int32} {zpe : Int32} {zcd : Int32} {zdc : Int32} {zwc : Int32} {tbh : Int32} {tmi : Int32} {tfb : Int32} {tba : Nat → Int32} {gn : Nat → Int32} {go : Nat → Int32} {gk : Nat → Nat → Int32} {gi : Nat → Nat → Int32} {gb : Nat → Nat → Int32} {kp : Nat → Int32} {in0 : Int32} {io0 : Int32} {ib0 : Int32} {it0 : Int32} {is0 : Int32} {ik0 : Nat → Int32} {ii0 : Nat → Int32} {ir0 : Nat → Int32} {in1 : Int32} {io1 : Int32} {ib1 : Int32} {it1 : Int32} {is1 : Int32} {ik1 : Nat → Int32} {ii1 : Nat → Int32} {ir1 : Nat → Int32} {mpl : Int32} {mst : Int32} {mva : Int32} {mfy : Int32} {mry : Int32} {mse : Int32} {mbh : Int32} {mmi : Int32} {mfb : Int32} {w : Nat → Int32} {told : Nat → Int32} {mkp : Nat → Int32} {rk : Nat → Int32} {ri : Nat → Int32} {mba : Nat → Int32} {mhd : Nat → Int32} {q : Nat → Yq} {q0 : Nat → Yq} {q1 : Nat → Yq} (hI : LIb D c4 A js.heap ad la a lv ig Ts fp ln xyc xfn xfp xpl xcs lt xnb xyk xyi bt nt sd n os kd ic br bc ec by0 bn bd bi ey ei bh mi fb ba n0 os0 kd0 ic0 br0 zlc zlS zdp zmi zfo zax zco zth zpe zcd zdc zwc tbh tmi tfb tba gn go gk gi gb kp in0 io0 ib0 it0 is0 ik0 ii0 ir0 in1 io1 ib1 it1 is1 ik1 ii1 ir1 mpl mst mva mfy mry mse mbh mmi mfb w told mkp rk ri mba mhd q q0 q1 H locs) (hl : lv_has ls 4 [(0, .ref b), (1, .ref ((ad 0) 0)), (2, .ref (a 0)), (3, .int (nI ix))]) (next : ∀ (H : Heap) (locs : List Loc) (ls : Array Slot), LI D c4 A js.heap ad la a lv ig Ts H locs → lv_has ls 4 [(0, .ref b), (1, .ref ((ad 0) 0)), (2, .ref (a 0)), (3, .int (nI ix))] → W jp l je room_1 js jm #[Value.ref b] below meth jc H locs 600000 7302250 Q (F0 jm 961 ls [])) : W jp l je room_1 js jm #[Value.ref b] below meth jc H locs 600000 7302250 Q (F0 jm 661 ls []) := by
  obtain ⟨hx, hb, hr, hml, hown, hts, hXs, hbl, hlocks, hK, hX, hbA, hL3⟩ := C0
  have hRf : room_1.frames = 2048 := rfl
  have hRl : room_1.locals = 84000 := rfl
  have hRc : room_1.cells = 600000 := rfl
  have hRs : room_1.slots = 7302250 := rfl
  obtain ⟨hw, hR1, htl, hR2, hR3, hRI0, hRI1⟩ := hI
  have hR1c := hR1
  obtain ⟨hn, hyR, hmY, h48, h49, h50, hbt0, hsd0⟩ := hR1c
  have hbt : rng (w 48) 1 9 := by rw [h48]; exact hbt0
  have hsd : sdOk (w 50) := by rw [h50]; exact hsd0
  have hln := hR2.1
  have hlt := hR2.2
  have hbc := hR3.1
  have hec := hR3.2.1
  have hbo := hR3.2.2.1
  have hen := hR3.2.2.2
  have hw := hw.m8
  have hw := hw.m5
  have hw := hw.m5
  have hw := hw.m5
  have hw := hw.m4
  have hw : gW D A js.heap ((iG ad fp) :: (wG ((ad 3) 0) ((ad 4) 0) bt nt sd) :: (bG c4 (ad 2) told) :: (yG c4 (ad 4) (nI n) os kd ic br) :: (sG c4 (ad 10) ((ad 11) 0) zlc zlS zdp zmi zfo zax zco zth zpe zcd zdc zwc lv) :: (tG c4 (ad 11) tbh tmi tfb tba) :: (yG c4 (la 0) (gn 0) (go 0) (gk 0) (gi 0) (gb 0)) :: (yG c4 (la 1) (gn 1) (go 1) (gk 1) (gi 1) (gb 1)) :: (yG c4 (la 2) (gn 2) (go 2) (gk 2) (gi 2) (gb 2)) :: (yG c4 (la 3) (gn 3) (go 3) (gk 3) (gi 3) (gb 3)) :: (yG c4 (la 4) (gn 4) (go 4) (gk 4) (gi 4) (gb 4)) :: (yG c4 (la 5) (gn 5) (go 5) (gk 5) (gi 5) (gb 5)) :: (yG c4 (la 6) (gn 6) (go 6) (gk 6) (gi 6) (gb 6)) :: (yG c4 (la 7) (gn 7) (go 7) (gk 7) (gi 7) (gb 7)) :: (yG c4 (la 8) (gn 8) (go 8) (gk 8) (gi 8) (gb 8)) :: (xG c4 (ad 1) (nI ln) xyc xfn xfp xpl xcs lt xnb xyk xyi) :: (rG c4 (ad 7) (nI bc) (nI ec) by0 bn bd bi ey ei) :: (tG c4 (ad 8) bh mi fb ba) :: (yG c4 (ad 9) n0 os0 kd0 ic0 br0) :: (gG c4 ((ad 5) 0) ig) :: (zG c4 ((ad 6) 0) 2 kp) :: ((wG ((ad 12) 0) ((ad 14) 0) ib0 it0 is0) ++ ((yG c4 (ad 14) in0 io0 ik0 ii0 ir0) ++ ((wG ((ad 13) 0) ((ad 15) 0) ib1 it1 is1) ++ (yG c4 (ad 15) in1 io1 ik1 ii1 ir1)))) :: (mG a (nI n) (nI ln) mpl mst mva mfy fp mry mse mbh mmi mfb (nI bc) (nI ec)) :: (aG c4 (a 1) 204 w) :: (aG c4 (a 2) 18 told) :: (zG c4 (a 3) 2 mkp) :: (aG c4 (a 4) 230 lt) :: (aG c4 (a 5) 12 rk) :: (aG c4 (a 6) 12 ri) :: (aG c4 (a 7) 12 mba) :: (aG c4 (a 8) 51 mhd) :: (aG c4 (a 9) 10 by0) :: (aG c4 (a 10) 10 bn) :: (aG c4 (a 11) 10 bd) :: (aG c4 (a 12) 10 bi) :: (aG c4 (a 13) 15 ey) :: (aG c4 (a 14) 15 ei) :: Ts) H locs := hw.cast rfl
  refine lv_aload_n hx hb dL_law_661 rfl (lv_at hl 1 rfl) ?_
  refine lv_aload_n hx hb dL_law_662 rfl (lv_at hl 0 rfl) ?_
  refine lv_iload_n hx hb dL_law_663 rfl (lv_at hl 3 rfl) ?_
  refine lv_iconst (v := 1) hx hb dL_law_664 (by decide) ?_
  refine r_addN hx hb ix 1 dL_law_665 ?_
  refine r_sld hx hb hXs hbl hbA hw (ix + 1) (by omega) hL3 dL_law_666 ?_
  refine lv_aload_n hx hb dL_law_667 rfl (lv_at hl 0 rfl) ?_
  refine lv_iload_n hx hb dL_law_668 rfl (lv_at hl 3 rfl) ?_
  refine lv_iconst (v := 2) hx hb dL_law_669 (by decide) ?_
  refine r_addN hx hb ix 2 dL_law_670 ?_
  refine r_sld hx hb hXs hbl hbA hw (ix + 2) (by omega) hL3 dL_law_671 ?_
  refine lv_aload_n hx hb dL_law_672 rfl (lv_at hl 0 rfl) ?_
  refine lv_iload_n hx hb dL_law_673 rfl (lv_at hl 3 rfl) ?_
  refine lv_iconst (v := 3) hx hb dL_law_674 (by decide) ?_
  refine r_addN hx hb ix 3 dL_law_675 ?_
  refine r_sld hx hb hXs hbl hbA hw (ix + 3) (by omega) hL3 dL_law_676 ?_
  refine lv_aload_n hx hb dL_law_677 rfl (lv_at hl 0 rfl) ?_
  refine lv_iload_n hx hb dL_law_678 rfl (lv_at hl 3 rfl) ?_
  refine lv_iconst (v := 4) hx hb dL_law_679 (by decide) ?_
  refine r_addN hx hb ix 4 dL_law_680 ?_
  refine r_sld hx hb hXs hbl hbA hw (ix + 4) (by omega) hL3 dL_law_681 ?_
  refine lv_aload_n hx hb dL_law_682 rfl (lv_at hl 0 rfl) ?_
  refine lv_iload_n hx hb dL_law_683 rfl (lv_at hl 3 rfl) ?_
  refine lv_iconst (v := 5) hx hb dL_law_684 (by decide) ?_
  refine r_addN hx hb ix 5 dL_law_685 ?_
  refine r_sld hx hb hXs hbl hbA hw (ix + 5) (by omega) hL3 dL_law_686 ?_
  refine c_vi (As := [.int (xs (ix + 1)), .int (xs (ix + 2)), .int (xs (ix + 3)), .int (xs (ix + 4)), .int (xs (ix + 5))]) (rest := []) ⟨hx, hb, hml, hown, hts⟩ (k_X7_odds l D c4 A ((xG c4 (ad 1) (nI ln) xyc xfn xfp xpl xcs lt xnb xyk xyi) :: (rG c4 (ad 7) (nI bc) (nI ec) by0 bn bd bi ey ei) :: (tG c4 (ad 8) bh mi fb ba) :: (yG c4 (ad 9) n0 os0 kd0 ic0 br0) :: (gG c4 ((ad 5) 0) ig) :: (zG c4 ((ad 6) 0) 2 kp) :: ((wG ((ad 12) 0) ((ad 14) 0) ib0 it0 is0) ++ ((yG c4 (ad 14) in0 io0 ik0 ii0 ir0) ++ ((wG ((ad 13) 0) ((ad 15) 0) ib1 it1 is1) ++ (yG c4 (ad 15) in1 io1 ik1 ii1 ir1)))) :: (mG a (nI n) (nI ln) mpl mst mva mfy fp mry mse mbh mmi mfb (nI bc) (nI ec)) :: (aG c4 (a 1) 204 w) :: (aG c4 (a 2) 18 told) :: (zG c4 (a 3) 2 mkp) :: (aG c4 (a 4) 230 lt) :: (aG c4 (a 5) 12 rk) :: (aG c4 (a 6) 12 ri) :: (aG c4 (a 7) 12 mba) :: (aG c4 (a 8) 51 mhd) :: (aG c4 (a 9) 10 by0) :: (aG c4 (a 10) 10 bn) :: (aG c4 (a 11) 10 bd) :: (aG c4 (a 12) 10 bi) :: (aG c4 (a 13) 15 ey) :: (aG c4 (a 14) 15 ei) :: Ts) ad fp bt nt sd told n os kd ic br q tbh tmi tfb tba la lv zlc zlS zdp zmi zfo zax zco zth zpe zcd zdc zwc gn go gk gi gb (xs (ix + 1)) (xs (ix + 2)) (xs (ix + 3)) (xs (ix + 4)) (xs (ix + 5)) hn hyR htl (by first | omega | decide)) (cwV 5 hts gL_law_X7_odds rfl rfl rfl (by decide +kernel) (rmv (Nat.le_of_ble_eq_true rfl) (Nat.le_of_ble_eq_true rfl) hRf hRl)) hK trivial hw rfl rfl rfl hl rfl (Nat.le_of_ble_eq_true rfl) ⟨Nat.le_refl _, Nat.le_refl _⟩ dL_law_687 (fun r_687 u_687 H locs hpq hw => ?_)
  obtain ⟨zlc2_687, zlS2_687, zdp2_687, zmi2_687, zfo2_687, zax2_687, zco2_687, zth2_687, zpe2_687, zcd2_687, zdc2_687, zwc2_687, bh2_687, mi2_687, fb2_687, ba2_687, gn2_687, go2_687, gk2_687, gi2_687, gb2_687⟩ := u_687
  have hw : gW D A js.heap ((iG ad fp) :: (wG ((ad 3) 0) ((ad 4) 0) bt nt sd) :: (bG c4 (ad 2) told) :: (yG c4 (ad 4) (nI n) os kd ic br) :: (sG c4 (ad 10) ((ad 11) 0) zlc2_687 zlS2_687 zdp2_687 zmi2_687 zfo2_687 zax2_687 zco2_687 zth2_687 zpe2_687 zcd2_687 zdc2_687 zwc2_687 lv) :: (tG c4 (ad 11) bh2_687 mi2_687 fb2_687 ba2_687) :: (yG c4 (la 0) (gn2_687 0) (go2_687 0) (gk2_687 0) (gi2_687 0) (gb2_687 0)) :: (yG c4 (la 1) (gn2_687 1) (go2_687 1) (gk2_687 1) (gi2_687 1) (gb2_687 1)) :: (yG c4 (la 2) (gn2_687 2) (go2_687 2) (gk2_687 2) (gi2_687 2) (gb2_687 2)) :: (yG c4 (la 3) (gn2_687 3) (go2_687 3) (gk2_687 3) (gi2_687 3) (gb2_687 3)) :: (yG c4 (la 4) (gn2_687 4) (go2_687 4) (gk2_687 4) (gi2_687 4) (gb2_687 4)) :: (yG c4 (la 5) (gn2_687 5) (go2_687 5) (gk2_687 5) (gi2_687 5) (gb2_687 5)) :: (yG c4 (la 6) (gn2_687 6) (go2_687 6) (gk2_687 6) (gi2_687 6) (gb2_687 6)) :: (yG c4 (la 7) (gn2_687 7) (go2_687 7) (gk2_687 7) (gi2_687 7) (gb2_687 7)) :: (yG c4 (la 8) (gn2_687 8) (go2_687 8) (gk2_687 8) (gi2_687 8) (gb2_687 8)) :: (xG c4 (ad 1) (nI ln) xyc xfn xfp xpl xcs lt xnb xyk xyi) :: (rG c4 (ad 7) (nI bc) (nI ec) by0 bn bd bi ey ei) :: (tG c4 (ad 8) bh mi fb ba) :: (yG c4 (ad 9) n0 os0 kd0 ic0 br0) :: (gG c4 ((ad 5) 0) ig) :: (zG c4 ((ad 6) 0) 2 kp) :: ((wG ((ad 12) 0) ((ad 14) 0) ib0 it0 is0) ++ ((yG c4 (ad 14) in0 io0 ik0 ii0 ir0) ++ ((wG ((ad 13) 0) ((ad 15) 0) ib1 it1 is1) ++ (yG c4 (ad 15) in1 io1 ik1 ii1 ir1)))) :: (mG a (nI n) (nI ln) mpl mst mva mfy fp mry mse mbh mmi mfb (nI bc) (nI ec)) :: (aG c4 (a 1) 204 w) :: (aG c4 (a 2) 18 told) :: (zG c4 (a 3) 2 mkp) :: (aG c4 (a 4) 230 lt) :: (aG c4 (a 5) 12 rk) :: (aG c4 (a 6) 12 ri) :: (aG c4 (a 7) 12 mba) :: (aG c4 (a 8) 51 mhd) :: (aG c4 (a 9) 10 by0) :: (aG c4 (a 10) 10 bn) :: (aG c4 (a 11) 10 bd) :: (aG c4 (a 12) 10 bi) :: (aG c4 (a 13) 15 ey) :: (aG c4 (a 14) 15 ei) :: Ts) H locs := hw
  have er_687 := hpq
  have er_687 : r_687 = (oddsF (xs (ix + 1)) (xs (ix + 2)) (xs (ix + 3)) (xs (ix + 4)) (xs (ix + 5)) (pForce told bt) (told 5) q n) := er_687
  have er_687 := er_687.symm; subst er_687
  refine lv_aload_n hx hb dL_law_690 rfl (lv_at hl 2 rfl) ?_
  refine lv_aload_n hx hb dL_law_691 rfl (lv_at hl 0 rfl) ?_
  refine lv_iload_n hx hb dL_law_692 rfl (lv_at hl 3 rfl) ?_
  refine lv_iconst (v := 1) hx hb dL_law_693 (by decide) ?_
  refine r_addN hx hb ix 1 dL_law_694 ?_
  refine r_sld hx hb hXs hbl hbA hw (ix + 1) (by omega) hL3 dL_law_695 ?_
  refine lv_aload_n hx hb dL_law_696 rfl (lv_at hl 0 rfl) ?_
  refine lv_iload_n hx hb dL_law_697 rfl (lv_at hl 3 rfl) ?_
  refine lv_iconst (v := 2) hx hb dL_law_698 (by decide) ?_
  refine r_addN hx hb ix 2 dL_law_699 ?_
  refine r_sld hx hb hXs hbl hbA hw (ix + 2) (by omega) hL3 dL_law_700 ?_
  refine lv_aload_n hx hb dL_law_701 rfl (lv_at hl 0 rfl) ?_
  refine lv_iload_n hx hb dL_law_702 rfl (lv_at hl 3 rfl) ?_
  refine lv_iconst (v := 3) hx hb dL_law_703 (by decide) ?_
  refine r_addN hx hb ix 3 dL_law_704 ?_
  refine r_sld hx hb hXs hbl hbA hw (ix + 3) (by omega) hL3 dL_law_705 ?_
  refine lv_aload_n hx hb dL_law_706 rfl (lv_at hl 0 rfl) ?_
  refine lv_iload_n hx hb dL_law_707 rfl (lv_at hl 3 rfl) ?_
  refine lv_iconst (v := 4) hx hb dL_law_708 (by decide) ?_
  refine r_addN hx hb ix 4 dL_law_709 ?_
  refine r_sld hx hb hXs hbl hbA hw (ix + 4) (by omega) hL3 dL_law_710 ?_
  refine lv_aload_n hx hb dL_law_711 rfl (lv_at hl 0 rfl) ?_
  refine lv_iload_n hx hb dL_law_712 rfl (lv_at hl 3 rfl) ?_
  refine lv_iconst (v := 5) hx hb dL_law_713 (by decide) ?_
  refine r_addN hx hb ix 5 dL_law_714 ?_
  refine r_sld hx hb hXs hbl hbA hw (ix + 5) (by omega) hL3 dL_law_715 ?_
  have hw := hw.m29
  have hw := hw.m24
  have hw := hw.m25
  have hw := hw.m25
  refine c_vi (As := [.int (xs (ix + 1)), .int (xs (ix + 2)), .int (xs (ix + 3)), .int (xs (ix + 4)), .int (xs (ix + 5))]) (rest := [.int (oddsF (xs (ix + 1)) (xs (ix + 2)) (xs (ix + 3)) (xs (ix + 4)) (xs (ix + 5)) (pForce told bt) (told 5) q n)]) ⟨hx, hb, hml, hown, hts⟩ (k_X8_odds l D c4 A ((iG ad fp) :: (wG ((ad 3) 0) ((ad 4) 0) bt nt sd) :: (bG c4 (ad 2) told) :: (yG c4 (ad 4) (nI n) os kd ic br) :: (sG c4 (ad 10) ((ad 11) 0) zlc2_687 zlS2_687 zdp2_687 zmi2_687 zfo2_687 zax2_687 zco2_687 zth2_687 zpe2_687 zcd2_687 zdc2_687 zwc2_687 lv) :: (tG c4 (ad 11) bh2_687 mi2_687 fb2_687 ba2_687) :: (yG c4 (la 0) (gn2_687 0) (go2_687 0) (gk2_687 0) (gi2_687 0) (gb2_687 0)) :: (yG c4 (la 1) (gn2_687 1) (go2_687 1) (gk2_687 1) (gi2_687 1) (gb2_687 1)) :: (yG c4 (la 2) (gn2_687 2) (go2_687 2) (gk2_687 2) (gi2_687 2) (gb2_687 2)) :: (yG c4 (la 3) (gn2_687 3) (go2_687 3) (gk2_687 3) (gi2_687 3) (gb2_687 3)) :: (yG c4 (la 4) (gn2_687 4) (go2_687 4) (gk2_687 4) (gi2_687 4) (gb2_687 4)) :: (yG c4 (la 5) (gn2_687 5) (go2_687 5) (gk2_687 5) (gi2_687 5) (gb2_687 5)) :: (yG c4 (la 6) (gn2_687 6) (go2_687 6) (gk2_687 6) (gi2_687 6) (gb2_687 6)) :: (yG c4 (la 7) (gn2_687 7) (go2_687 7) (gk2_687 7) (gi2_687 7) (gb2_687 7)) :: (yG c4 (la 8) (gn2_687 8) (go2_687 8) (gk2_687 8) (gi2_687 8) (gb2_687 8)) :: (xG c4 (ad 1) (nI ln) xyc xfn xfp xpl xcs lt xnb xyk xyi) :: (rG c4 (ad 7) (nI bc) (nI ec) by0 bn bd bi ey ei) :: (tG c4 (ad 8) bh mi fb ba) :: (yG c4 (ad 9) n0 os0 kd0 ic0 br0) :: (gG c4 ((ad 5) 0) ig) :: (zG c4 ((ad 6) 0) 2 kp) :: ((wG ((ad 12) 0) ((ad 14) 0) ib0 it0 is0) ++ ((yG c4 (ad 14) in0 io0 ik0 ii0 ir0) ++ ((wG ((ad 13) 0) ((ad 15) 0) ib1 it1 is1) ++ (yG c4 (ad 15) in1 io1 ik1 ii1 ir1)))) :: (zG c4 (a 3) 2 mkp) :: (aG c4 (a 4) 230 lt) :: (aG c4 (a 5) 12 rk) :: (aG c4 (a 6) 12 ri) :: (aG c4 (a 8) 51 mhd) :: (aG c4 (a 9) 10 by0) :: (aG c4 (a 10) 10 bn) :: (aG c4 (a 11) 10 bd) :: (aG c4 (a 12) 10 bi) :: (aG c4 (a 13) 15 ey) :: (aG c4 (a 14) 15 ei) :: Ts) a n (nI ln) mpl mst mva mfy fp mry mse mbh mmi mfb (nI bc) (nI ec) told w mba q (xs (ix + 1)) (xs (ix + 2)) (xs (ix + 3)) (xs (ix + 4)) (xs (ix + 5)) hn hmY htl hbt) (cwV 5 hts gL_law_X8_odds rfl rfl rfl (by decide +kernel) (rmv (Nat.le_of_ble_eq_true rfl) (Nat.le_of_ble_eq_true rfl) hRf hRl)) hK trivial hw rfl rfl rfl hl rfl (Nat.le_of_ble_eq_true rfl) ⟨Nat.le_refl _, Nat.le_refl _⟩ dL_law_716 (fun r_716 u_716 H locs hpq hw => ?_)
  obtain ⟨bh2_716, mi2_716, fb2_716, w2_716, ba2_716⟩ := u_716
  have hw : gW D A js.heap ((mG a (nI n) (nI ln) mpl mst mva mfy fp mry mse bh2_716 mi2_716 fb2_716 (nI bc) (nI ec)) :: (aG c4 (a 2) 18 told) :: (aG c4 (a 1) 204 w2_716) :: (aG c4 (a 7) 12 ba2_716) :: (iG ad fp) :: (wG ((ad 3) 0) ((ad 4) 0) bt nt sd) :: (bG c4 (ad 2) told) :: (yG c4 (ad 4) (nI n) os kd ic br) :: (sG c4 (ad 10) ((ad 11) 0) zlc2_687 zlS2_687 zdp2_687 zmi2_687 zfo2_687 zax2_687 zco2_687 zth2_687 zpe2_687 zcd2_687 zdc2_687 zwc2_687 lv) :: (tG c4 (ad 11) bh2_687 mi2_687 fb2_687 ba2_687) :: (yG c4 (la 0) (gn2_687 0) (go2_687 0) (gk2_687 0) (gi2_687 0) (gb2_687 0)) :: (yG c4 (la 1) (gn2_687 1) (go2_687 1) (gk2_687 1) (gi2_687 1) (gb2_687 1)) :: (yG c4 (la 2) (gn2_687 2) (go2_687 2) (gk2_687 2) (gi2_687 2) (gb2_687 2)) :: (yG c4 (la 3) (gn2_687 3) (go2_687 3) (gk2_687 3) (gi2_687 3) (gb2_687 3)) :: (yG c4 (la 4) (gn2_687 4) (go2_687 4) (gk2_687 4) (gi2_687 4) (gb2_687 4)) :: (yG c4 (la 5) (gn2_687 5) (go2_687 5) (gk2_687 5) (gi2_687 5) (gb2_687 5)) :: (yG c4 (la 6) (gn2_687 6) (go2_687 6) (gk2_687 6) (gi2_687 6) (gb2_687 6)) :: (yG c4 (la 7) (gn2_687 7) (go2_687 7) (gk2_687 7) (gi2_687 7) (gb2_687 7)) :: (yG c4 (la 8) (gn2_687 8) (go2_687 8) (gk2_687 8) (gi2_687 8) (gb2_687 8)) :: (xG c4 (ad 1) (nI ln) xyc xfn xfp xpl xcs lt xnb xyk xyi) :: (rG c4 (ad 7) (nI bc) (nI ec) by0 bn bd bi ey ei) :: (tG c4 (ad 8) bh mi fb ba) :: (yG c4 (ad 9) n0 os0 kd0 ic0 br0) :: (gG c4 ((ad 5) 0) ig) :: (zG c4 ((ad 6) 0) 2 kp) :: ((wG ((ad 12) 0) ((ad 14) 0) ib0 it0 is0) ++ ((yG c4 (ad 14) in0 io0 ik0 ii0 ir0) ++ ((wG ((ad 13) 0) ((ad 15) 0) ib1 it1 is1) ++ (yG c4 (ad 15) in1 io1 ik1 ii1 ir1)))) :: (zG c4 (a 3) 2 mkp) :: (aG c4 (a 4) 230 lt) :: (aG c4 (a 5) 12 rk) :: (aG c4 (a 6) 12 ri) :: (aG c4 (a 8) 51 mhd) :: (aG c4 (a 9) 10 by0) :: (aG c4 (a 10) 10 bn) :: (aG c4 (a 11) 10 bd) :: (aG c4 (a 12) 10 bi) :: (aG c4 (a 13) 15 ey) :: (aG c4 (a 14) 15 ei) :: Ts) H locs := hw
  obtain ⟨er_716, hW_716⟩ := hpq
  have er_716 : r_716 = (oddsF (xs (ix + 1)) (xs (ix + 2)) (xs (ix + 3)) (xs (ix + 4)) (xs (ix + 5)) (pForce told (w 48)) (told 5) q n) := er_716
  have hW_716 : wNow w w2_716 := hW_716
  have er_716 := er_716.symm; subst er_716
  have er : ((oddsF (xs (ix + 1)) (xs (ix + 2)) (xs (ix + 3)) (xs (ix + 4)) (xs (ix + 5)) (pForce told bt) (told 5) q n) : Int32) = (oddsF (xs (ix + 1)) (xs (ix + 2)) (xs (ix + 3)) (xs (ix + 4)) (xs (ix + 5)) (pForce told (w 48)) (told 5) q n) := (by rw [h48])
  refine lv_icmp_eq (tgt := 961) hx hb dL_law_719 (by decide) (fun _ => ?_) (fun c_e => absurd er c_e)
  have hl : lv_has ls 4 [(0, .ref b), (1, .ref ((ad 0) 0)), (2, .ref (a 0)), (3, .int (nI ix))] := lv_sub hl [0, 1, 2, 3] rfl
  have hw := hw.m18
  have hw := hw.m18
  have hw := hw.m18
  have hw := hw.m18
  have hw := hw.m18
  have hw := hw.m18
  have hw := hw.m18
  have hw := hw.m18
  have hw := hw.m18
  have hw := hw.m18
  have hw := hw.m18
  have hw : gW D A js.heap (((sG c4 (ad 10) ((ad 11) 0) zlc2_687 zlS2_687 zdp2_687 zmi2_687 zfo2_687 zax2_687 zco2_687 zth2_687 zpe2_687 zcd2_687 zdc2_687 zwc2_687 lv) ++ ((tG c4 (ad 11) bh2_687 mi2_687 fb2_687 ba2_687) ++ ((yG c4 (la 0) (gn2_687 0) (go2_687 0) (gk2_687 0) (gi2_687 0) (gb2_687 0)) ++ ((yG c4 (la 1) (gn2_687 1) (go2_687 1) (gk2_687 1) (gi2_687 1) (gb2_687 1)) ++ ((yG c4 (la 2) (gn2_687 2) (go2_687 2) (gk2_687 2) (gi2_687 2) (gb2_687 2)) ++ ((yG c4 (la 3) (gn2_687 3) (go2_687 3) (gk2_687 3) (gi2_687 3) (gb2_687 3)) ++ ((yG c4 (la 4) (gn2_687 4) (go2_687 4) (gk2_687 4) (gi2_687 4) (gb2_687 4)) ++ ((yG c4 (la 5) (gn2_687 5) (go2_687 5) (gk2_687 5) (gi2_687 5) (gb2_687 5)) ++ ((yG c4 (la 6) (gn2_687 6) (go2_687 6) (gk2_687 6) (gi2_687 6) (gb2_687 6)) ++ ((yG c4 (la 7) (gn2_687 7) (go2_687 7) (gk2_687 7) (gi2_687 7) (gb2_687 7)) ++ (yG c4 (la 8) (gn2_687 8) (go2_687 8) (gk2_687 8) (gi2_687 8) (gb2_687 8)))))))))))) :: (mG a (nI n) (nI ln) mpl mst mva mfy fp mry mse bh2_716 mi2_716 fb2_716 (nI bc) (nI ec)) :: (aG c4 (a 2) 18 told) :: (aG c4 (a 1) 204 w2_716) :: (aG c4 (a 7) 12 ba2_716) :: (iG ad fp) :: (wG ((ad 3) 0) ((ad 4) 0) bt nt sd) :: (bG c4 (ad 2) told) :: (yG c4 (ad 4) (nI n) os kd ic br) :: (xG c4 (ad 1) (nI ln) xyc xfn xfp xpl xcs lt xnb xyk xyi) :: (rG c4 (ad 7) (nI bc) (nI ec) by0 bn bd bi ey ei) :: (tG c4 (ad 8) bh mi fb ba) :: (yG c4 (ad 9) n0 os0 kd0 ic0 br0) :: (gG c4 ((ad 5) 0) ig) :: (zG c4 ((ad 6) 0) 2 kp) :: ((wG ((ad 12) 0) ((ad 14) 0) ib0 it0 is0) ++ ((yG c4 (ad 14) in0 io0 ik0 ii0 ir0) ++ ((wG ((ad 13) 0) ((ad 15) 0) ib1 it1 is1) ++ (yG c4 (ad 15) in1 io1 ik1 ii1 ir1)))) :: (zG c4 (a 3) 2 mkp) :: (aG c4 (a 4) 230 lt) :: (aG c4 (a 5) 12 rk) :: (aG c4 (a 6) 12 ri) :: (aG c4 (a 8) 51 mhd) :: (aG c4 (a 9) 10 by0) :: (aG c4 (a 10) 10 bn) :: (aG c4 (a 11) 10 bd) :: (aG c4 (a 12) 10 bi) :: (aG c4 (a 13) 15 ey) :: (aG c4 (a 14) 15 ei) :: Ts) _ _ := hw.cast rfl
  have hw := hw.m19
  have hw := hw.m19
  have hw := hw.m19
  have hw := hw.m19
  have hw := hw.m6
  have hw := hw.m7
  have hw := hw.m7
  have hw := hw.m19
  have hw := hw.m19
  have hw := hw.m19
  have hw := hw.m10
  have hw := hw.m19
  have hw := hw.m19
  have hw := hw.m19
  have hw := hw.m18
  have hw := hw.m18
  have hw := hw.m18
  have hw := hw.m19
  have hw := hw.m19
  exact next _ _ _ (LI.of fp ln xyc xfn xfp xpl xcs lt xnb xyk xyi bt nt sd n os kd ic br bc ec by0 bn bd bi ey ei bh mi fb ba n0 os0 kd0 ic0 br0 zlc2_687 zlS2_687 zdp2_687 zmi2_687 zfo2_687 zax2_687 zco2_687 zth2_687 zpe2_687 zcd2_687 zdc2_687 zwc2_687 bh2_687 mi2_687 fb2_687 ba2_687 gn2_687 go2_687 gk2_687 gi2_687 gb2_687 kp in0 io0 ib0 it0 is0 ik0 ii0 ir0 in1 io1 ib1 it1 is1 ik1 ii1 ir1 mpl mst mva mfy mry mse bh2_716 mi2_716 fb2_716 w2_716 told mkp rk ri ba2_716 mhd q q0 q1 ⟨hw, (hR1.now hW_716), htl, hR2, hR3, (hRI0.at (by decide) hW_716.hi), (hRI1.at (by decide) hW_716.hi)⟩) hl
