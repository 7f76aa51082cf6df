set_option maxHeartbeats 4000000 in
set_option maxRecDepth 100000 in
theorem lc_6 {jp : Program} {l : Launch} {je : Env} {js : State} {jm : MethodId} {below : List Frame} {meth : Method} {jc : Code} {D : va_G} {c4 : Nat → ClassId} {A : Nat → Prop} {t : Nat → Nat} {b L : Nat} {xs : Nat → Int32} {ad la : Nat → Nat → Nat} {a : Nat → Nat} {lv ig : Nat → Option Nat} {Ts : List va_W} {Q : State → Prop} {H : Heap} {locs : List Loc} {ls : Array Slot} {ix : Nat} (C0 : LC jp js jm meth jc D c4 A t b L xs) (hlv : ∀ k, k < 9 → lv k = some (la k 0)) (him0 : ig 0 = some (ad 12 0)) (him1 : ig 1 = some (ad 13 0)) (hix : ix + 6 ≤ L) {fp : Int32} {ln : Nat} {xyc : Int32} {xfn : Int32} {xfp : Int32} {xpl : Int32} {xcs : Int32} {lt : Nat → Int32} {xnb : Nat → Int32} {xyk : Nat → Int32} {xyi : Nat → Int32} {bt : Int32} {nt : Int32} {sd : Int32} {n : Nat} {os : Int32} {kd : Nat → Int32} {ic : Nat → Int32} {br : Nat → Int32} {bc : Nat} {ec : Nat} {by0 : Nat → Int32} {bn : Nat → Int32} {bd : Nat → Int32} {bi : Nat → Int32} {ey : Nat → Int32} {ei : Nat → Int32} {bh : Int32} {mi : Int32} {fb : Int32} {ba : Nat → Int32} {n0 : Int32} {os0 : Int32} {kd0 : Nat → Int32} {ic0 : Nat → Int32} {br0 : Nat → Int32} {zlc : Int32} {zlS : Int32} {zdp : Int32} {zmi : Int32} {zfo : Int32} {zax : Int32} {zco : Int32} {zth : Int32} {zpe : Int32} {zcd : Int32} {zdc : Int32} {zwc : Int32} {tbh : Int32} {tmi : Int32} {tfb : Int32} {tba : Nat → Int32} {gn : Nat → Int32} {go : Nat → Int32} {gk : Nat → Nat → Int32} {gi : Nat → Nat → Int32} {gb : Nat → Nat → Int32} {kp : Nat → Int32} {in0 : Int32} {io0 : Int32} {ib0 : Int32} {it0 : Int32} {is0 : Int32} {ik0 : Nat → Int32} {ii0 : Nat → Int32} {ir0 : Nat → Int32} {in1 : Int32} {io1 : Int32} {ib1 : Int32} {it1 : Int32} {is1 : Int32} {ik1 : Nat → Int32} {ii1 : Nat → Int32} {ir1 : Nat → Int32} {mpl : Int32} {mst : Int32} {mva : Int32} {mfy : Int32} {mry : Int32} {mse : Int32} {mbh : Int32} {mmi : Int32} {mfb : Int32} {w : Nat → Int32} {told : Nat → Int32} {mkp : Nat → Int32} {rk : Nat → Int32} {ri : Nat → Int32} {mba : Nat → Int32} {mhd : Nat → Int32} {q : Nat → Yq} {q0 : Nat → Yq} {q1 : Nat → Yq} (hI : LIb D c4 A js.heap ad la a lv ig Ts fp ln xyc xfn xfp xpl xcs lt xnb xyk xyi bt nt sd n os kd ic br bc ec by0 bn bd bi ey ei bh mi fb ba n0 os0 kd0 ic0 br0 zlc zlS zdp zmi zfo zax zco zth zpe zcd zdc zwc tbh tmi tfb tba gn go gk gi gb kp in0 io0 ib0 it0 is0 ik0 ii0 ir0 in1 io1 ib1 it1 is1 ik1 ii1 ir1 mpl mst mva mfy mry mse mbh mmi mfb w told mkp rk ri mba mhd q q0 q1 H locs) (hl : lv_has ls 4 [(0, .ref b), (1, .ref ((ad 0) 0)), (2, .ref (a 0)), (3, .int (nI ix))]) (next : ∀ (H : Heap) (locs : List Loc) (ls : Array Slot), LI D c4 A js.heap ad la a lv ig Ts H locs → lv_has ls 4 [(0, .ref b), (1, .ref ((ad 0) 0)), (2, .ref (a 0)), (3, .int (nI ix))] → W jp l je room_1 js jm #[Value.ref b] below meth jc H locs 600000 7302250 Q (F0 jm 961 ls [])) : W jp l je room_1 js jm #[Value.ref b] below meth jc H locs 600000 7302250 Q (F0 jm 302 ls []) := by
  obtain ⟨hx, hb, hr, hml, hown, hts, hXs, hbl, hlocks, hK, hX, hbA, hL3⟩ := C0
  have hRf : room_1.frames = 2048 := rfl
  have hRl : room_1.locals = 84000 := rfl
  have hRc : room_1.cells = 600000 := rfl
  have hRs : room_1.slots = 7302250 := rfl
  obtain ⟨hw, hR1, htl, hR2, hR3, hRI0, hRI1⟩ := hI
  have hR1c := hR1
  obtain ⟨hn, hyR, hmY, h48, h49, h50, hbt0, hsd0⟩ := hR1c
  have hbt : rng (w 48) 1 9 := by rw [h48]; exact hbt0
  have hsd : sdOk (w 50) := by rw [h50]; exact hsd0
  have hln := hR2.1
  have hlt := hR2.2
  have hbc := hR3.1
  have hec := hR3.2.1
  have hbo := hR3.2.2.1
  have hen := hR3.2.2.2
  refine lv_aload_n hx hb dL_law_302 rfl (lv_at hl 1 rfl) ?_
  refine lv_aload_n hx hb dL_law_303 rfl (lv_at hl 0 rfl) ?_
  refine lv_iload_n hx hb dL_law_304 rfl (lv_at hl 3 rfl) ?_
  refine lv_iconst (v := 1) hx hb dL_law_305 (by decide) ?_
  refine r_addN hx hb ix 1 dL_law_306 ?_
  refine r_sld hx hb hXs hbl hbA hw (ix + 1) (by omega) hL3 dL_law_307 ?_
  refine lv_aload_n hx hb dL_law_308 rfl (lv_at hl 0 rfl) ?_
  refine lv_iload_n hx hb dL_law_309 rfl (lv_at hl 3 rfl) ?_
  refine lv_iconst (v := 2) hx hb dL_law_310 (by decide) ?_
  refine r_addN hx hb ix 2 dL_law_311 ?_
  refine r_sld hx hb hXs hbl hbA hw (ix + 2) (by omega) hL3 dL_law_312 ?_
  have hw := hw.m4
  have hw := hw.m3
  have hw := hw.m2
  refine c_vi (As := [.int (xs (ix + 1)), .int (xs (ix + 2))]) (rest := []) ⟨hx, hb, hml, hown, hts⟩ (k_X7_night l D c4 A ((xG c4 (ad 1) (nI ln) xyc xfn xfp xpl xcs lt xnb xyk xyi) :: (bG c4 (ad 2) told) :: (rG c4 (ad 7) (nI bc) (nI ec) by0 bn bd bi ey ei) :: (tG c4 (ad 8) bh mi fb ba) :: (yG c4 (ad 9) n0 os0 kd0 ic0 br0) :: ((sG c4 (ad 10) ((ad 11) 0) zlc zlS zdp zmi zfo zax zco zth zpe zcd zdc zwc lv) ++ ((tG c4 (ad 11) tbh tmi tfb tba) ++ ((yG c4 (la 0) (gn 0) (go 0) (gk 0) (gi 0) (gb 0)) ++ ((yG c4 (la 1) (gn 1) (go 1) (gk 1) (gi 1) (gb 1)) ++ ((yG c4 (la 2) (gn 2) (go 2) (gk 2) (gi 2) (gb 2)) ++ ((yG c4 (la 3) (gn 3) (go 3) (gk 3) (gi 3) (gb 3)) ++ ((yG c4 (la 4) (gn 4) (go 4) (gk 4) (gi 4) (gb 4)) ++ ((yG c4 (la 5) (gn 5) (go 5) (gk 5) (gi 5) (gb 5)) ++ ((yG c4 (la 6) (gn 6) (go 6) (gk 6) (gi 6) (gb 6)) ++ ((yG c4 (la 7) (gn 7) (go 7) (gk 7) (gi 7) (gb 7)) ++ (yG c4 (la 8) (gn 8) (go 8) (gk 8) (gi 8) (gb 8)))))))))))) :: (gG c4 ((ad 5) 0) ig) :: (zG c4 ((ad 6) 0) 2 kp) :: ((wG ((ad 12) 0) ((ad 14) 0) ib0 it0 is0) ++ ((yG c4 (ad 14) in0 io0 ik0 ii0 ir0) ++ ((wG ((ad 13) 0) ((ad 15) 0) ib1 it1 is1) ++ (yG c4 (ad 15) in1 io1 ik1 ii1 ir1)))) :: (mG a (nI n) (nI ln) mpl mst mva mfy fp mry mse mbh mmi mfb (nI bc) (nI ec)) :: (aG c4 (a 1) 204 w) :: (aG c4 (a 2) 18 told) :: (zG c4 (a 3) 2 mkp) :: (aG c4 (a 4) 230 lt) :: (aG c4 (a 5) 12 rk) :: (aG c4 (a 6) 12 ri) :: (aG c4 (a 7) 12 mba) :: (aG c4 (a 8) 51 mhd) :: (aG c4 (a 9) 10 by0) :: (aG c4 (a 10) 10 bn) :: (aG c4 (a 11) 10 bd) :: (aG c4 (a 12) 10 bi) :: (aG c4 (a 13) 15 ey) :: (aG c4 (a 14) 15 ei) :: Ts) ad fp bt nt sd n os kd ic br q (xs (ix + 1)) (xs (ix + 2)) hn hyR) (cwV 2 hts gL_law_X7_night rfl rfl rfl (by decide +kernel) (rmv (Nat.le_of_ble_eq_true rfl) (Nat.le_of_ble_eq_true rfl) hRf hRl)) hK trivial hw rfl rfl rfl hl rfl (Nat.le_of_ble_eq_true rfl) ⟨Nat.le_refl _, Nat.le_refl _⟩ dL_law_313 (fun r_313 u_313 H locs hpq hw => ?_)
  obtain ⟨os2_313, kd2_313, ic2_313, br2_313, nt2_313⟩ := u_313
  have hw : gW D A js.heap ((iG ad fp) :: (wG ((ad 3) 0) ((ad 4) 0) bt nt2_313 sd) :: (yG c4 (ad 4) (nI n) os2_313 kd2_313 ic2_313 br2_313) :: (xG c4 (ad 1) (nI ln) xyc xfn xfp xpl xcs lt xnb xyk xyi) :: (bG c4 (ad 2) told) :: (rG c4 (ad 7) (nI bc) (nI ec) by0 bn bd bi ey ei) :: (tG c4 (ad 8) bh mi fb ba) :: (yG c4 (ad 9) n0 os0 kd0 ic0 br0) :: ((sG c4 (ad 10) ((ad 11) 0) zlc zlS zdp zmi zfo zax zco zth zpe zcd zdc zwc lv) ++ ((tG c4 (ad 11) tbh tmi tfb tba) ++ ((yG c4 (la 0) (gn 0) (go 0) (gk 0) (gi 0) (gb 0)) ++ ((yG c4 (la 1) (gn 1) (go 1) (gk 1) (gi 1) (gb 1)) ++ ((yG c4 (la 2) (gn 2) (go 2) (gk 2) (gi 2) (gb 2)) ++ ((yG c4 (la 3) (gn 3) (go 3) (gk 3) (gi 3) (gb 3)) ++ ((yG c4 (la 4) (gn 4) (go 4) (gk 4) (gi 4) (gb 4)) ++ ((yG c4 (la 5) (gn 5) (go 5) (gk 5) (gi 5) (gb 5)) ++ ((yG c4 (la 6) (gn 6) (go 6) (gk 6) (gi 6) (gb 6)) ++ ((yG c4 (la 7) (gn 7) (go 7) (gk 7) (gi 7) (gb 7)) ++ (yG c4 (la 8) (gn 8) (go 8) (gk 8) (gi 8) (gb 8)))))))))))) :: (gG c4 ((ad 5) 0) ig) :: (zG c4 ((ad 6) 0) 2 kp) :: ((wG ((ad 12) 0) ((ad 14) 0) ib0 it0 is0) ++ ((yG c4 (ad 14) in0 io0 ik0 ii0 ir0) ++ ((wG ((ad 13) 0) ((ad 15) 0) ib1 it1 is1) ++ (yG c4 (ad 15) in1 io1 ik1 ii1 ir1)))) :: (mG a (nI n) (nI ln) mpl mst mva mfy fp mry mse mbh mmi mfb (nI bc) (nI ec)) :: (aG c4 (a 1) 204 w) :: (aG c4 (a 2) 18 told) :: (zG c4 (a 3) 2 mkp) :: (aG c4 (a 4) 230 lt) :: (aG c4 (a 5) 12 rk) :: (aG c4 (a 6) 12 ri) :: (aG c4 (a 7) 12 mba) :: (aG c4 (a 8) 51 mhd) :: (aG c4 (a 9) 10 by0) :: (aG c4 (a 10) 10 bn) :: (aG c4 (a 11) 10 bd) :: (aG c4 (a 12) 10 bi) :: (aG c4 (a 13) 15 ey) :: (aG c4 (a 14) 15 ei) :: Ts) H locs := hw
  have hF_313 := hpq
  have hF_313 : ∃ q2, nightF (xs (ix + 1)) (xs (ix + 2)) nt q n = (r_313, nt2_313, q2) ∧ yR q2 n os2_313 kd2_313 ic2_313 br2_313 := hF_313
  refine lv_aload_n hx hb dL_law_316 rfl (lv_at hl 2 rfl) ?_
  refine lv_aload_n hx hb dL_law_317 rfl (lv_at hl 0 rfl) ?_
  refine lv_iload_n hx hb dL_law_318 rfl (lv_at hl 3 rfl) ?_
  refine lv_iconst (v := 1) hx hb dL_law_319 (by decide) ?_
  refine r_addN hx hb ix 1 dL_law_320 ?_
  refine r_sld hx hb hXs hbl hbA hw (ix + 1) (by omega) hL3 dL_law_321 ?_
  refine lv_aload_n hx hb dL_law_322 rfl (lv_at hl 0 rfl) ?_
  refine lv_iload_n hx hb dL_law_323 rfl (lv_at hl 3 rfl) ?_
  refine lv_iconst (v := 2) hx hb dL_law_324 (by decide) ?_
  refine r_addN hx hb ix 2 dL_law_325 ?_
  refine r_sld hx hb hXs hbl hbA hw (ix + 2) (by omega) hL3 dL_law_326 ?_
  have hw := hw.m13
  have hw := hw.m13
  refine c_vi (As := [.int (xs (ix + 1)), .int (xs (ix + 2))]) (rest := [.int r_313]) ⟨hx, hb, hml, hown, hts⟩ (k_X8_night l D c4 A ((iG ad fp) :: (wG ((ad 3) 0) ((ad 4) 0) bt nt2_313 sd) :: (yG c4 (ad 4) (nI n) os2_313 kd2_313 ic2_313 br2_313) :: (xG c4 (ad 1) (nI ln) xyc xfn xfp xpl xcs lt xnb xyk xyi) :: (bG c4 (ad 2) told) :: (rG c4 (ad 7) (nI bc) (nI ec) by0 bn bd bi ey ei) :: (tG c4 (ad 8) bh mi fb ba) :: (yG c4 (ad 9) n0 os0 kd0 ic0 br0) :: ((sG c4 (ad 10) ((ad 11) 0) zlc zlS zdp zmi zfo zax zco zth zpe zcd zdc zwc lv) ++ ((tG c4 (ad 11) tbh tmi tfb tba) ++ ((yG c4 (la 0) (gn 0) (go 0) (gk 0) (gi 0) (gb 0)) ++ ((yG c4 (la 1) (gn 1) (go 1) (gk 1) (gi 1) (gb 1)) ++ ((yG c4 (la 2) (gn 2) (go 2) (gk 2) (gi 2) (gb 2)) ++ ((yG c4 (la 3) (gn 3) (go 3) (gk 3) (gi 3) (gb 3)) ++ ((yG c4 (la 4) (gn 4) (go 4) (gk 4) (gi 4) (gb 4)) ++ ((yG c4 (la 5) (gn 5) (go 5) (gk 5) (gi 5) (gb 5)) ++ ((yG c4 (la 6) (gn 6) (go 6) (gk 6) (gi 6) (gb 6)) ++ ((yG c4 (la 7) (gn 7) (go 7) (gk 7) (gi 7) (gb 7)) ++ (yG c4 (la 8) (gn 8) (go 8) (gk 8) (gi 8) (gb 8)))))))))))) :: (gG c4 ((ad 5) 0) ig) :: (zG c4 ((ad 6) 0) 2 kp) :: ((wG ((ad 12) 0) ((ad 14) 0) ib0 it0 is0) ++ ((yG c4 (ad 14) in0 io0 ik0 ii0 ir0) ++ ((wG ((ad 13) 0) ((ad 15) 0) ib1 it1 is1) ++ (yG c4 (ad 15) in1 io1 ik1 ii1 ir1)))) :: (aG c4 (a 2) 18 told) :: (zG c4 (a 3) 2 mkp) :: (aG c4 (a 4) 230 lt) :: (aG c4 (a 5) 12 rk) :: (aG c4 (a 6) 12 ri) :: (aG c4 (a 7) 12 mba) :: (aG c4 (a 8) 51 mhd) :: (aG c4 (a 9) 10 by0) :: (aG c4 (a 10) 10 bn) :: (aG c4 (a 11) 10 bd) :: (aG c4 (a 12) 10 bi) :: (aG c4 (a 13) 15 ey) :: (aG c4 (a 14) 15 ei) :: Ts) a n (nI ln) mpl mst mva mfy fp mry mse mbh mmi mfb (nI bc) (nI ec) w q (xs (ix + 1)) (xs (ix + 2)) hn hmY) (cwV 2 hts gL_law_X8_night rfl rfl rfl (by decide +kernel) (rmv (Nat.le_of_ble_eq_true rfl) (Nat.le_of_ble_eq_true rfl) hRf hRl)) hK trivial hw rfl rfl rfl hl rfl (Nat.le_of_ble_eq_true rfl) ⟨Nat.le_refl _, Nat.le_refl _⟩ dL_law_327 (fun r_327 u_327 H locs hpq hw => ?_)
  obtain ⟨w2_327, rfl⟩ : ∃ z, z = u_327 := ⟨_, rfl⟩
  have hw : gW D A js.heap ((mG a (nI n) (nI ln) mpl mst mva mfy fp mry mse mbh mmi mfb (nI bc) (nI ec)) :: (aG c4 (a 1) 204 w2_327) :: (iG ad fp) :: (wG ((ad 3) 0) ((ad 4) 0) bt nt2_313 sd) :: (yG c4 (ad 4) (nI n) os2_313 kd2_313 ic2_313 br2_313) :: (xG c4 (ad 1) (nI ln) xyc xfn xfp xpl xcs lt xnb xyk xyi) :: (bG c4 (ad 2) told) :: (rG c4 (ad 7) (nI bc) (nI ec) by0 bn bd bi ey ei) :: (tG c4 (ad 8) bh mi fb ba) :: (yG c4 (ad 9) n0 os0 kd0 ic0 br0) :: ((sG c4 (ad 10) ((ad 11) 0) zlc zlS zdp zmi zfo zax zco zth zpe zcd zdc zwc lv) ++ ((tG c4 (ad 11) tbh tmi tfb tba) ++ ((yG c4 (la 0) (gn 0) (go 0) (gk 0) (gi 0) (gb 0)) ++ ((yG c4 (la 1) (gn 1) (go 1) (gk 1) (gi 1) (gb 1)) ++ ((yG c4 (la 2) (gn 2) (go 2) (gk 2) (gi 2) (gb 2)) ++ ((yG c4 (la 3) (gn 3) (go 3) (gk 3) (gi 3) (gb 3)) ++ ((yG c4 (la 4) (gn 4) (go 4) (gk 4) (gi 4) (gb 4)) ++ ((yG c4 (la 5) (gn 5) (go 5) (gk 5) (gi 5) (gb 5)) ++ ((yG c4 (la 6) (gn 6) (go 6) (gk 6) (gi 6) (gb 6)) ++ ((yG c4 (la 7) (gn 7) (go 7) (gk 7) (gi 7) (gb 7)) ++ (yG c4 (la 8) (gn 8) (go 8) (gk 8) (gi 8) (gb 8)))))))))))) :: (gG c4 ((ad 5) 0) ig) :: (zG c4 ((ad 6) 0) 2 kp) :: ((wG ((ad 12) 0) ((ad 14) 0) ib0 it0 is0) ++ ((yG c4 (ad 14) in0 io0 ik0 ii0 ir0) ++ ((wG ((ad 13) 0) ((ad 15) 0) ib1 it1 is1) ++ (yG c4 (ad 15) in1 io1 ik1 ii1 ir1)))) :: (aG c4 (a 2) 18 told) :: (zG c4 (a 3) 2 mkp) :: (aG c4 (a 4) 230 lt) :: (aG c4 (a 5) 12 rk) :: (aG c4 (a 6) 12 ri) :: (aG c4 (a 7) 12 mba) :: (aG c4 (a 8) 51 mhd) :: (aG c4 (a 9) 10 by0) :: (aG c4 (a 10) 10 bn) :: (aG c4 (a 11) 10 bd) :: (aG c4 (a 12) 10 bi) :: (aG c4 (a 13) 15 ey) :: (aG c4 (a 14) 15 ei) :: Ts) H locs := hw
  have hF_327 := hpq
  have hF_327 : ∃ q2, nightF (xs (ix + 1)) (xs (ix + 2)) (w 49) q n = (r_327, w2_327 49, q2) ∧ mY q2 n w2_327 0 ∧ wOt 0 w w2_327 := hF_327
  obtain ⟨q2, hF1, hY1⟩ := hF_313
  obtain ⟨q3, hF2, hM2, hO2⟩ := hF_327
  rw [h49, hF1] at hF2
  have er : (r_313 : Int32) = r_327 := (congrArg (fun z => z.1) hF2)
  refine lv_icmp_eq (tgt := 961) hx hb dL_law_330 (by decide) (fun _ => ?_) (fun c_e => absurd er c_e)
  have hl : lv_has ls 4 [(0, .ref b), (1, .ref ((ad 0) 0)), (2, .ref (a 0)), (3, .int (nI ix))] := lv_sub hl [0, 1, 2, 3] rfl
  have hw := hw.m13
  have hw := hw.m13
  have hw := hw.m13
  have hw := hw.m13
  have hw := hw.m13
  have hw := hw.m13
  have hw := hw.m13
  have hw := hw.m11
  have hw := hw.m13
  have hw := hw.m12
  have hw := hw.m13
  have hw := hw.m13
  exact next _ _ _ (LI.of fp ln xyc xfn xfp xpl xcs lt xnb xyk xyi bt nt2_313 sd n os2_313 kd2_313 ic2_313 br2_313 bc ec by0 bn bd bi ey ei bh mi fb ba n0 os0 kd0 ic0 br0 zlc zlS zdp zmi zfo zax zco zth zpe zcd zdc zwc tbh tmi tfb tba gn go gk gi gb kp in0 io0 ib0 it0 is0 ik0 ii0 ir0 in1 io1 ib1 it1 is1 ik1 ii1 ir1 mpl mst mva mfy mry mse mbh mmi mfb w2_327 told mkp rk ri mba mhd q2 q0 q1 ⟨hw, (hR1.up hY1 hM2 (congrArg (fun z => z.2.2) hF2).symm (hO2 48 (by omega)) (congrArg (fun z => z.2.1) hF2).symm (hO2 50 (by omega))), htl, hR2, hR3, (hRI0.at (by decide) (fun j hj => hO2 j (by omega))), (hRI1.at (by decide) (fun j hj => hO2 j (by omega)))⟩) hl
set_option maxHeartbeats 4000000 in
set_option maxRecDepth 100000 in
theorem lc_7 {jp : Program} {l : Launch} {je : Env} {js : State} {jm : MethodId} {below : List Frame} {meth : Method} {jc : Code} {D : va_G} {c4 : Nat → ClassId} {A : Nat → Prop} {t : Nat → Nat} {b L : Nat} {xs : Nat → Int32} {ad la : Nat → Nat → Nat} {a : Nat → Nat} {lv ig : Nat → Option Nat} {Ts : List va_W} {Q : State → Prop} {H : Heap} {locs : List Loc} {ls : Array Slot} {ix : Nat} (C0 : LC jp js jm meth jc D c4 A t b L xs) (hlv : ∀ k, k < 9 → lv k = some (la k 0)) (him0 : ig 0 = some (ad 12 0)) (him1 : ig 1 = some (ad 13 0)) (hix : ix + 6 ≤ L) {fp : Int32} {ln : Nat} {xyc : Int32} {xfn : Int32} {xfp : Int32} {xpl : Int32} {xcs : Int32} {lt : Nat → Int32} {xnb : Nat → Int32} {xyk : Nat → Int32} {xyi : Nat → Int32} {bt : Int32} {nt : Int32} {sd : Int32} {n : Nat} {os : Int32} {kd : Nat → Int32} {ic : Nat → Int32} {br : Nat → Int32} {bc : Nat} {ec : Nat} {by0 : Nat → Int32} {bn : Nat → Int32} {bd : Nat → Int32} {bi : Nat → Int32} {ey : Nat → Int32} {ei : Nat → Int32} {bh : Int32} {mi : Int32} {fb : Int32} {ba : Nat → Int32} {n0 : Int32} {os0 : Int32} {kd0 : Nat → Int32} {ic0 : Nat → Int32} {br0 : Nat → Int32} {zlc : Int32} {zlS : Int32} {zdp : Int32} {zmi : Int32} {zfo : Int32} {zax : Int32} {zco : Int32} {zth : Int32} {zpe : Int32} {zcd : Int32} {zdc : Int32} {zwc : Int32} {tbh : Int32} {tmi : Int32} {tfb : Int32} {tba : Nat → Int32} {gn : Nat → Int32} {go : Nat → Int32} {gk : Nat → Nat → Int32} {gi : Nat → Nat → Int32} {gb : Nat → Nat → Int32} {kp : Nat → Int32} {in0 : Int32} {io0 : Int32} {ib0 : Int32} {it0 : Int32} {is0 : Int32} {ik0 : Nat → Int32} {ii0 : Nat → Int32} {ir0 : Nat → Int32} {in1 : Int32} {io1 : Int32} {ib1 : Int32} {it1 : Int32} {is1 : Int32} {ik1 : Nat → Int32} {ii1 : Nat → Int32} {ir1 : Nat → Int32} {mpl : Int32} {mst : Int32} {mva : Int32} {mfy : Int32} {mry : Int32} {mse : Int32} {mbh : Int32} {mmi : Int32} {mfb : Int32} {w : Nat → Int32} {told : Nat → Int32} {mkp : Nat → Int32} {rk : Nat → Int32} {ri : Nat → Int32} {mba : Nat → Int32} {mhd : Nat → Int32} {q : Nat → Yq} {q0 : Nat → Yq} {q1 : Nat → Yq} (hI : LIb D c4 A js.heap ad la a lv ig Ts fp ln xyc xfn xfp xpl xcs lt xnb xyk xyi bt nt sd n os kd ic br bc ec by0 bn bd bi ey ei bh mi fb ba n0 os0 kd0 ic0 br0 zlc zlS zdp zmi zfo zax zco zth zpe zcd zdc zwc tbh tmi tfb tba gn go gk gi gb kp in0 io0 ib0 it0 is0 ik0 ii0 ir0 in1 io1 ib1 it1 is1 ik1 ii1 ir1 mpl mst mva mfy mry mse mbh mmi mfb w told mkp rk ri mba mhd q q0 q1 H locs) (hl : lv_has ls 4 [(0, .ref b), (1, .ref ((ad 0) 0)), (2, .ref (a 0)), (3, .int (nI ix))]) (next : ∀ (H : Heap) (locs : List Loc) (ls : Array Slot), LI D c4 A js.heap ad la a lv ig Ts H locs → lv_has ls 4 [(0, .ref b), (1, .ref ((ad 0) 0)), (2, .ref (a 0)), (3, .int (nI ix))] → W jp l je room_1 js jm #[Value.ref b] below meth jc H locs 600000 7302250 Q (F0 jm 961 ls [])) : W jp l je room_1 js jm #[Value.ref b] below meth jc H locs 600000 7302250 Q (F0 jm 335 ls []) := by
  obtain ⟨hx, hb, hr, hml, hown, hts, hXs, hbl, hlocks, hK, hX, hbA, hL3⟩ := C0
  have hRf : room_1.frames = 2048 := rfl
  have hRl : room_1.locals = 84000 := rfl
  have hRc : room_1.cells = 600000 := rfl
  have hRs : room_1.slots = 7302250 := rfl
  obtain ⟨hw, hR1, htl, hR2, hR3, hRI0, hRI1⟩ := hI
  have hR1c := hR1
  obtain ⟨hn, hyR, hmY, h48, h49, h50, hbt0, hsd0⟩ := hR1c
  have hbt : rng (w 48) 1 9 := by rw [h48]; exact hbt0
  have hsd : sdOk (w 50) := by rw [h50]; exact hsd0
  have hln := hR2.1
  have hlt := hR2.2
  have hbc := hR3.1
  have hec := hR3.2.1
  have hbo := hR3.2.2.1
  have hen := hR3.2.2.2
  refine lv_aload_n hx hb dL_law_335 rfl (lv_at hl 1 rfl) ?_
  refine lv_aload_n hx hb dL_law_336 rfl (lv_at hl 0 rfl) ?_
  refine lv_iload_n hx hb dL_law_337 rfl (lv_at hl 3 rfl) ?_
  refine lv_iconst (v := 1) hx hb dL_law_338 (by decide) ?_
  refine r_addN hx hb ix 1 dL_law_339 ?_
  refine r_sld hx hb hXs hbl hbA hw (ix + 1) (by omega) hL3 dL_law_340 ?_
  have hw := hw.m4
  have hw := hw.m3
  have hw := hw.m2
  refine c_vi (As := [.int (xs (ix + 1))]) (rest := []) ⟨hx, hb, hml, hown, hts⟩ (k_X7_thaw l D c4 A ((xG c4 (ad 1) (nI ln) xyc xfn xfp xpl xcs lt xnb xyk xyi) :: (bG c4 (ad 2) told) :: (rG c4 (ad 7) (nI bc) (nI ec) by0 bn bd bi ey ei) :: (tG c4 (ad 8) bh mi fb ba) :: (yG c4 (ad 9) n0 os0 kd0 ic0 br0) :: ((sG c4 (ad 10) ((ad 11) 0) zlc zlS zdp zmi zfo zax zco zth zpe zcd zdc zwc lv) ++ ((tG c4 (ad 11) tbh tmi tfb tba) ++ ((yG c4 (la 0) (gn 0) (go 0) (gk 0) (gi 0) (gb 0)) ++ ((yG c4 (la 1) (gn 1) (go 1) (gk 1) (gi 1) (gb 1)) ++ ((yG c4 (la 2) (gn 2) (go 2) (gk 2) (gi 2) (gb 2)) ++ ((yG c4 (la 3) (gn 3) (go 3) (gk 3) (gi 3) (gb 3)) ++ ((yG c4 (la 4) (gn 4) (go 4) (gk 4) (gi 4) (gb 4)) ++ ((yG c4 (la 5) (gn 5) (go 5) (gk 5) (gi 5) (gb 5)) ++ ((yG c4 (la 6) (gn 6) (go 6) (gk 6) (gi 6) (gb 6)) ++ ((yG c4 (la 7) (gn 7) (go 7) (gk 7) (gi 7) (gb 7)) ++ (yG c4 (la 8) (gn 8) (go 8) (gk 8) (gi 8) (gb 8)))))))))))) :: (gG c4 ((ad 5) 0) ig) :: (zG c4 ((ad 6) 0) 2 kp) :: ((wG ((ad 12) 0) ((ad 14) 0) ib0 it0 is0) ++ ((yG c4 (ad 14) in0 io0 ik0 ii0 ir0) ++ ((wG ((ad 13) 0) ((ad 15) 0) ib1 it1 is1) ++ (yG c4 (ad 15) in1 io1 ik1 ii1 ir1)))) :: (mG a (nI n) (nI ln) mpl mst mva mfy fp mry mse mbh mmi mfb (nI bc) (nI ec)) :: (aG c4 (a 1) 204 w) :: (aG c4 (a 2) 18 told) :: (zG c4 (a 3) 2 mkp) :: (aG c4 (a 4) 230 lt) :: (aG c4 (a 5) 12 rk) :: (aG c4 (a 6) 12 ri) :: (aG c4 (a 7) 12 mba) :: (aG c4 (a 8) 51 mhd) :: (aG c4 (a 9) 10 by0) :: (aG c4 (a 10) 10 bn) :: (aG c4 (a 11) 10 bd) :: (aG c4 (a 12) 10 bi) :: (aG c4 (a 13) 15 ey) :: (aG c4 (a 14) 15 ei) :: Ts) ad fp bt nt sd n os kd ic br q (xs (ix + 1)) hn hyR) (cwV 1 hts gL_law_X7_thaw rfl rfl rfl (by decide +kernel) (rmv (Nat.le_of_ble_eq_true rfl) (Nat.le_of_ble_eq_true rfl) hRf hRl)) hK trivial hw rfl rfl rfl hl rfl (Nat.le_of_ble_eq_true rfl) ⟨Nat.le_refl _, Nat.le_refl _⟩ dL_law_341 (fun r_341 u_341 H locs hpq hw => ?_)
  obtain ⟨os2_341, kd2_341, ic2_341, br2_341, nt2_341⟩ := u_341
  have hw : gW D A js.heap ((iG ad fp) :: (wG ((ad 3) 0) ((ad 4) 0) bt nt2_341 sd) :: (yG c4 (ad 4) (nI n) os2_341 kd2_341 ic2_341 br2_341) :: (xG c4 (ad 1) (nI ln) xyc xfn xfp xpl xcs lt xnb xyk xyi) :: (bG c4 (ad 2) told) :: (rG c4 (ad 7) (nI bc) (nI ec) by0 bn bd bi ey ei) :: (tG c4 (ad 8) bh mi fb ba) :: (yG c4 (ad 9) n0 os0 kd0 ic0 br0) :: ((sG c4 (ad 10) ((ad 11) 0) zlc zlS zdp zmi zfo zax zco zth zpe zcd zdc zwc lv) ++ ((tG c4 (ad 11) tbh tmi tfb tba) ++ ((yG c4 (la 0) (gn 0) (go 0) (gk 0) (gi 0) (gb 0)) ++ ((yG c4 (la 1) (gn 1) (go 1) (gk 1) (gi 1) (gb 1)) ++ ((yG c4 (la 2) (gn 2) (go 2) (gk 2) (gi 2) (gb 2)) ++ ((yG c4 (la 3) (gn 3) (go 3) (gk 3) (gi 3) (gb 3)) ++ ((yG c4 (la 4) (gn 4) (go 4) (gk 4) (gi 4) (gb 4)) ++ ((yG c4 (la 5) (gn 5) (go 5) (gk 5) (gi 5) (gb 5)) ++ ((yG c4 (la 6) (gn 6) (go 6) (gk 6) (gi 6) (gb 6)) ++ ((yG c4 (la 7) (gn 7) (go 7) (gk 7) (gi 7) (gb 7)) ++ (yG c4 (la 8) (gn 8) (go 8) (gk 8) (gi 8) (gb 8)))))))))))) :: (gG c4 ((ad 5) 0) ig) :: (zG c4 ((ad 6) 0) 2 kp) :: ((wG ((ad 12) 0) ((ad 14) 0) ib0 it0 is0) ++ ((yG c4 (ad 14) in0 io0 ik0 ii0 ir0) ++ ((wG ((ad 13) 0) ((ad 15) 0) ib1 it1 is1) ++ (yG c4 (ad 15) in1 io1 ik1 ii1 ir1)))) :: (mG a (nI n) (nI ln) mpl mst mva mfy fp mry mse mbh mmi mfb (nI bc) (nI ec)) :: (aG c4 (a 1) 204 w) :: (aG c4 (a 2) 18 told) :: (zG c4 (a 3) 2 mkp) :: (aG c4 (a 4) 230 lt) :: (aG c4 (a 5) 12 rk) :: (aG c4 (a 6) 12 ri) :: (aG c4 (a 7) 12 mba) :: (aG c4 (a 8) 51 mhd) :: (aG c4 (a 9) 10 by0) :: (aG c4 (a 10) 10 bn) :: (aG c4 (a 11) 10 bd) :: (aG c4 (a 12) 10 bi) :: (aG c4 (a 13) 15 ey) :: (aG c4 (a 14) 15 ei) :: Ts) H locs := hw
  have hF_341 := hpq
  have hF_341 : ∃ q2, thawF (xs (ix + 1)) nt q n = (r_341, nt2_341, q2) ∧ yR q2 n os2_341 kd2_341 ic2_341 br2_341 := hF_341
  refine lv_aload_n hx hb dL_law_344 rfl (lv_at hl 2 rfl) ?_
  refine lv_aload_n hx hb dL_law_345 rfl (lv_at hl 0 rfl) ?_
  refine lv_iload_n hx hb dL_law_346 rfl (lv_at hl 3 rfl) ?_
  refine lv_iconst (v := 1) hx hb dL_law_347 (by decide) ?_
  refine r_addN hx hb ix 1 dL_law_348 ?_
  refine r_sld hx hb hXs hbl hbA hw (ix + 1) (by omega) hL3 dL_law_349 ?_
  have hw := hw.m13
  have hw := hw.m13
  refine c_vi (As := [.int (xs (ix + 1))]) (rest := [.int r_341]) ⟨hx, hb, hml, hown, hts⟩ (k_X8_thaw l D c4 A ((iG ad fp) :: (wG ((ad 3) 0) ((ad 4) 0) bt nt2_341 sd) :: (yG c4 (ad 4) (nI n) os2_341 kd2_341 ic2_341 br2_341) :: (xG c4 (ad 1) (nI ln) xyc xfn xfp xpl xcs lt xnb xyk xyi) :: (bG c4 (ad 2) told) :: (rG c4 (ad 7) (nI bc) (nI ec) by0 bn bd bi ey ei) :: (tG c4 (ad 8) bh mi fb ba) :: (yG c4 (ad 9) n0 os0 kd0 ic0 br0) :: ((sG c4 (ad 10) ((ad 11) 0) zlc zlS zdp zmi zfo zax zco zth zpe zcd zdc zwc lv) ++ ((tG c4 (ad 11) tbh tmi tfb tba) ++ ((yG c4 (la 0) (gn 0) (go 0) (gk 0) (gi 0) (gb 0)) ++ ((yG c4 (la 1) (gn 1) (go 1) (gk 1) (gi 1) (gb 1)) ++ ((yG c4 (la 2) (gn 2) (go 2) (gk 2) (gi 2) (gb 2)) ++ ((yG c4 (la 3) (gn 3) (go 3) (gk 3) (gi 3) (gb 3)) ++ ((yG c4 (la 4) (gn 4) (go 4) (gk 4) (gi 4) (gb 4)) ++ ((yG c4 (la 5) (gn 5) (go 5) (gk 5) (gi 5) (gb 5)) ++ ((yG c4 (la 6) (gn 6) (go 6) (gk 6) (gi 6) (gb 6)) ++ ((yG c4 (la 7) (gn 7) (go 7) (gk 7) (gi 7) (gb 7)) ++ (yG c4 (la 8) (gn 8) (go 8) (gk 8) (gi 8) (gb 8)))))))))))) :: (gG c4 ((ad 5) 0) ig) :: (zG c4 ((ad 6) 0) 2 kp) :: ((wG ((ad 12) 0) ((ad 14) 0) ib0 it0 is0) ++ ((yG c4 (ad 14) in0 io0 ik0 ii0 ir0) ++ ((wG ((ad 13) 0) ((ad 15) 0) ib1 it1 is1) ++ (yG c4 (ad 15) in1 io1 ik1 ii1 ir1)))) :: (aG c4 (a 2) 18 told) :: (zG c4 (a 3) 2 mkp) :: (aG c4 (a 4) 230 lt) :: (aG c4 (a 5) 12 rk) :: (aG c4 (a 6) 12 ri) :: (aG c4 (a 7) 12 mba) :: (aG c4 (a 8) 51 mhd) :: (aG c4 (a 9) 10 by0) :: (aG c4 (a 10) 10 bn) :: (aG c4 (a 11) 10 bd) :: (aG c4 (a 12) 10 bi) :: (aG c4 (a 13) 15 ey) :: (aG c4 (a 14) 15 ei) :: Ts) a n (nI ln) mpl mst mva mfy fp mry mse mbh mmi mfb (nI bc) (nI ec) w q (xs (ix + 1)) hn hmY) (cwV 1 hts gL_law_X8_thaw rfl rfl rfl (by decide +kernel) (rmv (Nat.le_of_ble_eq_true rfl) (Nat.le_of_ble_eq_true rfl) hRf hRl)) hK trivial hw rfl rfl rfl hl rfl (Nat.le_of_ble_eq_true rfl) ⟨Nat.le_refl _, Nat.le_refl _⟩ dL_law_350 (fun r_350 u_350 H locs hpq hw => ?_)
  obtain ⟨w2_350, rfl⟩ : ∃ z, z = u_350 := ⟨_, rfl⟩
  have hw : gW D A js.heap ((mG a (nI n) (nI ln) mpl mst mva mfy fp mry mse mbh mmi mfb (nI bc) (nI ec)) :: (aG c4 (a 1) 204 w2_350) :: (iG ad fp) :: (wG ((ad 3) 0) ((ad 4) 0) bt nt2_341 sd) :: (yG c4 (ad 4) (nI n) os2_341 kd2_341 ic2_341 br2_341) :: (xG c4 (ad 1) (nI ln) xyc xfn xfp xpl xcs lt xnb xyk xyi) :: (bG c4 (ad 2) told) :: (rG c4 (ad 7) (nI bc) (nI ec) by0 bn bd bi ey ei) :: (tG c4 (ad 8) bh mi fb ba) :: (yG c4 (ad 9) n0 os0 kd0 ic0 br0) :: ((sG c4 (ad 10) ((ad 11) 0) zlc zlS zdp zmi zfo zax zco zth zpe zcd zdc zwc lv) ++ ((tG c4 (ad 11) tbh tmi tfb tba) ++ ((yG c4 (la 0) (gn 0) (go 0) (gk 0) (gi 0) (gb 0)) ++ ((yG c4 (la 1) (gn 1) (go 1) (gk 1) (gi 1) (gb 1)) ++ ((yG c4 (la 2) (gn 2) (go 2) (gk 2) (gi 2) (gb 2)) ++ ((yG c4 (la 3) (gn 3) (go 3) (gk 3) (gi 3) (gb 3)) ++ ((yG c4 (la 4) (gn 4) (go 4) (gk 4) (gi 4) (gb 4)) ++ ((yG c4 (la 5) (gn 5) (go 5) (gk 5) (gi 5) (gb 5)) ++ ((yG c4 (la 6) (gn 6) (go 6) (gk 6) (gi 6) (gb 6)) ++ ((yG c4 (la 7) (gn 7) (go 7) (gk 7) (gi 7) (gb 7)) ++ (yG c4 (la 8) (gn 8) (go 8) (gk 8) (gi 8) (gb 8)))))))))))) :: (gG c4 ((ad 5) 0) ig) :: (zG c4 ((ad 6) 0) 2 kp) :: ((wG ((ad 12) 0) ((ad 14) 0) ib0 it0 is0) ++ ((yG c4 (ad 14) in0 io0 ik0 ii0 ir0) ++ ((wG ((ad 13) 0) ((ad 15) 0) ib1 it1 is1) ++ (yG c4 (ad 15) in1 io1 ik1 ii1 ir1)))) :: (aG c4 (a 2) 18 told) :: (zG c4 (a 3) 2 mkp) :: (aG c4 (a 4) 230 lt) :: (aG c4 (a 5) 12 rk) :: (aG c4 (a 6) 12 ri) :: (aG c4 (a 7) 12 mba) :: (aG c4 (a 8) 51 mhd) :: (aG c4 (a 9) 10 by0) :: (aG c4 (a 10) 10 bn) :: (aG c4 (a 11) 10 bd) :: (aG c4 (a 12) 10 bi) :: (aG c4 (a 13) 15 ey) :: (aG c4 (a 14) 15 ei) :: Ts) H locs := hw
  have hF_350 := hpq
  have hF_350 : ∃ q2, thawF (xs (ix + 1)) (w 49) q n = (r_350, w2_350 49, q2) ∧ mY q2 n w2_350 0 ∧ wOt 0 w w2_350 := hF_350
  obtain ⟨q2, hF1, hY1⟩ := hF_341
  obtain ⟨q3, hF2, hM2, hO2⟩ := hF_350
  rw [h49, hF1] at hF2
  have er : (r_341 : Int32) = r_350 := (congrArg (fun z => z.1) hF2)
  refine lv_icmp_eq (tgt := 961) hx hb dL_law_353 (by decide) (fun _ => ?_) (fun c_e => absurd er c_e)
  have hl : lv_has ls 4 [(0, .ref b), (1, .ref ((ad 0) 0)), (2, .ref (a 0)), (3, .int (nI ix))] := lv_sub hl [0, 1, 2, 3] rfl
  have hw := hw.m13
  have hw := hw.m13
  have hw := hw.m13
  have hw := hw.m13
  have hw := hw.m13
  have hw := hw.m13
  have hw := hw.m13
  have hw := hw.m11
  have hw := hw.m13
  have hw := hw.m12
  have hw := hw.m13
  have hw := hw.m13
  exact next _ _ _ (LI.of fp ln xyc xfn xfp xpl xcs lt xnb xyk xyi bt nt2_341 sd n os2_341 kd2_341 ic2_341 br2_341 bc ec by0 bn bd bi ey ei bh mi fb ba n0 os0 kd0 ic0 br0 zlc zlS zdp zmi zfo zax zco zth zpe zcd zdc zwc tbh tmi tfb tba gn go gk gi gb kp in0 io0 ib0 it0 is0 ik0 ii0 ir0 in1 io1 ib1 it1 is1 ik1 ii1 ir1 mpl mst mva mfy mry mse mbh mmi mfb w2_350 told mkp rk ri mba mhd q2 q0 q1 ⟨hw, (hR1.up hY1 hM2 (congrArg (fun z => z.2.2) hF2).symm (hO2 48 (by omega)) (congrArg (fun z => z.2.1) hF2).symm (hO2 50 (by omega))), htl, hR2, hR3, (hRI0.at (by decide) (fun j hj => hO2 j (by omega))), (hRI1.at (by decide) (fun j hj => hO2 j (by omega)))⟩) hl
set_option maxHeartbeats 4000000 in
set_option maxRecDepth 100000 in
theorem lc_8 {jp : Program} {l : Launch} {je : Env} {js : State} {jm : MethodId} {below : List Frame} {meth : Method} {jc : Code} {D : va_G} {c4 : Nat → ClassId} {A : Nat → Prop} {t : Nat → Nat} {b L : Nat} {xs : Nat → Int32} {ad la : Nat → Nat → Nat} {a : Nat → Nat} {lv ig : Nat → Option Nat} {Ts : List va_W} {Q : State → Prop} {H : Heap} {locs : List Loc} {ls : Array Slot} {ix : Nat} (C0 : LC jp js jm meth jc D c4 A t b L xs) (hlv : ∀ k, k < 9 → lv k = some (la k 0)) (him0 : ig 0 = some (ad 12 0)) (him1 : ig 1 = some (ad 13 0)) (hix : ix + 6 ≤ L) {fp : Int32} {ln : Nat} {xyc : Int32} {xfn : Int32} {xfp : Int32} {xpl : Int32} {xcs : Int32} {lt : Nat → Int32} {xnb : Nat → Int32} {xyk : Nat → Int32} {xyi : Nat → Int32} {bt : Int32} {nt : Int32} {sd : Int32} {n : Nat} {os : Int32} {kd : Nat → Int32} {ic : Nat → Int32} {br : Nat → Int32} {bc : Nat} {ec : Nat} {by0 : Nat → Int32} {bn : Nat → Int32} {bd : Nat → Int32} {bi : Nat → Int32} {ey : Nat → Int32} {ei : Nat → Int32} {bh : Int32} {mi : Int32} {fb : Int32} {ba : Nat → Int32} {n0 : Int32} {os0 : Int32} {kd0 : Nat → Int32} {ic0 : Nat → Int32} {br0 : Nat → Int32} {zlc : Int32} {zlS : Int32} {zdp : Int32} {zmi : Int32} {zfo : Int32} {zax : Int32} {zco : Int32} {zth : Int32} {zpe : Int32} {zcd : Int32} {zdc : Int32} {zwc : Int32} {tbh : Int32} {tmi : Int32} {tfb : Int32} {tba : Nat → Int32} {gn : Nat → Int32} {go : Nat → Int32} {gk : Nat → Nat → Int32} {gi : Nat → Nat → Int32} {gb : Nat → Nat → Int32} {kp : Nat → Int32} {in0 : Int32} {io0 : Int32} {ib0 : Int32} {it0 : Int32} {is0 : Int32} {ik0 : Nat → Int32} {ii0 : Nat → Int32} {ir0 : Nat → Int32} {in1 : Int32} {io1 : Int32} {ib1 : Int32} {it1 : Int32} {is1 : Int32} {ik1 : Nat → Int32} {ii1 : Nat → Int32} {ir1 : Nat → Int32} {mpl : Int32} {mst : Int32} {mva : Int32} {mfy : Int32} {mry : Int32} {mse : Int32} {mbh : Int32} {mmi : Int32} {mfb : Int32} {w : Nat → Int32} {told : Nat → Int32} {mkp : Nat → Int32} {rk : Nat → Int32} {ri : Nat → Int32} {mba : Nat → Int32} {mhd : Nat → Int32} {q : Nat → Yq} {q0 : Nat → Yq} {q1 : Nat → Yq} (hI : LIb D c4 A js.heap ad la a lv ig Ts fp ln xyc xfn xfp xpl xcs lt xnb xyk xyi bt nt sd n os kd ic br bc ec by0 bn bd bi ey ei bh mi fb ba n0 os0 kd0 ic0 br0 zlc zlS zdp zmi zfo zax zco zth zpe zcd zdc zwc tbh tmi tfb tba gn go gk gi gb kp in0 io0 ib0 it0 is0 ik0 ii0 ir0 in1 io1 ib1 it1 is1 ik1 ii1 ir1 mpl mst mva mfy mry mse mbh mmi mfb w told mkp rk ri mba mhd q q0 q1 H locs) (hl : lv_has ls 4 [(0, .ref b), (1, .ref ((ad 0) 0)), (2, .ref (a 0)), (3, .int (nI ix))]) (next : ∀ (H : Heap) (locs : List Loc) (ls : Array Slot), LI D c4 A js.heap ad la a lv ig Ts H locs → lv_has ls 4 [(0, .ref b), (1, .ref ((ad 0) 0)), (2, .ref (a 0)), (3, .int (nI ix))] → W jp l je room_1 js jm #[Value.ref b] below meth jc H locs 600000 7302250 Q (F0 jm 961 ls [])) : W jp l je room_1 js jm #[Value.ref b] below meth jc H locs 600000 7302250 Q (F0 jm 358 ls []) := by
  obtain ⟨hx, hb, hr, hml, hown, hts, hXs, hbl, hlocks, hK, hX, hbA, hL3⟩ := C0
  have hRf : room_1.frames = 2048 := rfl
  have hRl : room_1.locals = 84000 := rfl
  have hRc : room_1.cells = 600000 := rfl
  have hRs : room_1.slots = 7302250 := rfl
  obtain ⟨hw, hR1, htl, hR2, hR3, hRI0, hRI1⟩ := hI
  have hR1c := hR1
  obtain ⟨hn, hyR, hmY, h48, h49, h50, hbt0, hsd0⟩ := hR1c
  have hbt : rng (w 48) 1 9 := by rw [h48]; exact hbt0
  have hsd : sdOk (w 50) := by rw [h50]; exact hsd0
  have hln := hR2.1
  have hlt := hR2.2
  have hbc := hR3.1
  have hec := hR3.2.1
  have hbo := hR3.2.2.1
  have hen := hR3.2.2.2
  refine lv_aload_n hx hb dL_law_358 rfl (lv_at hl 1 rfl) ?_
  refine lv_aload_n hx hb dL_law_359 rfl (lv_at hl 0 rfl) ?_
  refine lv_iload_n hx hb dL_law_360 rfl (lv_at hl 3 rfl) ?_
  refine lv_iconst (v := 1) hx hb dL_law_361 (by decide) ?_
  refine r_addN hx hb ix 1 dL_law_362 ?_
  refine r_sld hx hb hXs hbl hbA hw (ix + 1) (by omega) hL3 dL_law_363 ?_
  have hw := hw.m3
  have hw := hw.m3
  have hw := hw.m2
  refine c_vi (As := [.int (xs (ix + 1))]) (rest := []) ⟨hx, hb, hml, hown, hts⟩ (k_X7_beat l D c4 A ((xG c4 (ad 1) (nI ln) xyc xfn xfp xpl xcs lt xnb xyk xyi) :: (yG c4 (ad 4) (nI n) os kd ic br) :: (rG c4 (ad 7) (nI bc) (nI ec) by0 bn bd bi ey ei) :: (tG c4 (ad 8) bh mi fb ba) :: (yG c4 (ad 9) n0 os0 kd0 ic0 br0) :: ((sG c4 (ad 10) ((ad 11) 0) zlc zlS zdp zmi zfo zax zco zth zpe zcd zdc zwc lv) ++ ((tG c4 (ad 11) tbh tmi tfb tba) ++ ((yG c4 (la 0) (gn 0) (go 0) (gk 0) (gi 0) (gb 0)) ++ ((yG c4 (la 1) (gn 1) (go 1) (gk 1) (gi 1) (gb 1)) ++ ((yG c4 (la 2) (gn 2) (go 2) (gk 2) (gi 2) (gb 2)) ++ ((yG c4 (la 3) (gn 3) (go 3) (gk 3) (gi 3) (gb 3)) ++ ((yG c4 (la 4) (gn 4) (go 4) (gk 4) (gi 4) (gb 4)) ++ ((yG c4 (la 5) (gn 5) (go 5) (gk 5) (gi 5) (gb 5)) ++ ((yG c4 (la 6) (gn 6) (go 6) (gk 6) (gi 6) (gb 6)) ++ ((yG c4 (la 7) (gn 7) (go 7) (gk 7) (gi 7) (gb 7)) ++ (yG c4 (la 8) (gn 8) (go 8) (gk 8) (gi 8) (gb 8)))))))))))) :: (gG c4 ((ad 5) 0) ig) :: (zG c4 ((ad 6) 0) 2 kp) :: ((wG ((ad 12) 0) ((ad 14) 0) ib0 it0 is0) ++ ((yG c4 (ad 14) in0 io0 ik0 ii0 ir0) ++ ((wG ((ad 13) 0) ((ad 15) 0) ib1 it1 is1) ++ (yG c4 (ad 15) in1 io1 ik1 ii1 ir1)))) :: (mG a (nI n) (nI ln) mpl mst mva mfy fp mry mse mbh mmi mfb (nI bc) (nI ec)) :: (aG c4 (a 1) 204 w) :: (aG c4 (a 2) 18 told) :: (zG c4 (a 3) 2 mkp) :: (aG c4 (a 4) 230 lt) :: (aG c4 (a 5) 12 rk) :: (aG c4 (a 6) 12 ri) :: (aG c4 (a 7) 12 mba) :: (aG c4 (a 8) 51 mhd) :: (aG c4 (a 9) 10 by0) :: (aG c4 (a 10) 10 bn) :: (aG c4 (a 11) 10 bd) :: (aG c4 (a 12) 10 bi) :: (aG c4 (a 13) 15 ey) :: (aG c4 (a 14) 15 ei) :: Ts) ad fp bt nt sd told (xs (ix + 1))) (cwV 1 hts gL_law_X7_beat rfl rfl rfl (by decide +kernel) (rmv (Nat.le_of_ble_eq_true rfl) (Nat.le_of_ble_eq_true rfl) hRf hRl)) hK trivial hw rfl rfl rfl hl rfl (Nat.le_of_ble_eq_true rfl) ⟨Nat.le_refl _, Nat.le_refl _⟩ dL_law_364 (fun r_364 u_364 H locs hpq hw => ?_)
  obtain ⟨bt2_364, rfl⟩ : ∃ z, z = u_364 := ⟨_, rfl⟩
  have hw : gW D A js.heap ((iG ad fp) :: (wG ((ad 3) 0) ((ad 4) 0) bt2_364 nt sd) :: (bG c4 (ad 2) told) :: (xG c4 (ad 1) (nI ln) xyc xfn xfp xpl xcs lt xnb xyk xyi) :: (yG c4 (ad 4) (nI n) os kd ic br) :: (rG c4 (ad 7) (nI bc) (nI ec) by0 bn bd bi ey ei) :: (tG c4 (ad 8) bh mi fb ba) :: (yG c4 (ad 9) n0 os0 kd0 ic0 br0) :: ((sG c4 (ad 10) ((ad 11) 0) zlc zlS zdp zmi zfo zax zco zth zpe zcd zdc zwc lv) ++ ((tG c4 (ad 11) tbh tmi tfb tba) ++ ((yG c4 (la 0) (gn 0) (go 0) (gk 0) (gi 0) (gb 0)) ++ ((yG c4 (la 1) (gn 1) (go 1) (gk 1) (gi 1) (gb 1)) ++ ((yG c4 (la 2) (gn 2) (go 2) (gk 2) (gi 2) (gb 2)) ++ ((yG c4 (la 3) (gn 3) (go 3) (gk 3) (gi 3) (gb 3)) ++ ((yG c4 (la 4) (gn 4) (go 4) (gk 4) (gi 4) (gb 4)) ++ ((yG c4 (la 5) (gn 5) (go 5) (gk 5) (gi 5) (gb 5)) ++ ((yG c4 (la 6) (gn 6) (go 6) (gk 6) (gi 6) (gb 6)) ++ ((yG c4 (la 7) (gn 7) (go 7) (gk 7) (gi 7) (gb 7)) ++ (yG c4 (la 8) (gn 8) (go 8) (gk 8) (gi 8) (gb 8)))))))))))) :: (gG c4 ((ad 5) 0) ig) :: (zG c4 ((ad 6) 0) 2 kp) :: ((wG ((ad 12) 0) ((ad 14) 0) ib0 it0 is0) ++ ((yG c4 (ad 14) in0 io0 ik0 ii0 ir0) ++ ((wG ((ad 13) 0) ((ad 15) 0) ib1 it1 is1) ++ (yG c4 (ad 15) in1 io1 ik1 ii1 ir1)))) :: (mG a (nI n) (nI ln) mpl mst mva mfy fp mry mse mbh mmi mfb (nI bc) (nI ec)) :: (aG c4 (a 1) 204 w) :: (aG c4 (a 2) 18 told) :: (zG c4 (a 3) 2 mkp) :: (aG c4 (a 4) 230 lt) :: (aG c4 (a 5) 12 rk) :: (aG c4 (a 6) 12 ri) :: (aG c4 (a 7) 12 mba) :: (aG c4 (a 8) 51 mhd) :: (aG c4 (a 9) 10 by0) :: (aG c4 (a 10) 10 bn) :: (aG c4 (a 11) 10 bd) :: (aG c4 (a 12) 10 bi) :: (aG c4 (a 13) 15 ey) :: (aG c4 (a 14) 15 ei) :: Ts) H locs := hw
  have hF_364 := hpq
  have hF_364 : (r_364, bt2_364) = beatF (xs (ix + 1)) bt told := hF_364
  refine lv_aload_n hx hb dL_law_367 rfl (lv_at hl 2 rfl) ?_
  refine lv_aload_n hx hb dL_law_368 rfl (lv_at hl 0 rfl) ?_
  refine lv_iload_n hx hb dL_law_369 rfl (lv_at hl 3 rfl) ?_
  refine lv_iconst (v := 1) hx hb dL_law_370 (by decide) ?_
  refine r_addN hx hb ix 1 dL_law_371 ?_
  refine r_sld hx hb hXs hbl hbA hw (ix + 1) (by omega) hL3 dL_law_372 ?_
  have hw := hw.m13
  have hw := hw.m14
  have hw := hw.m14
  refine c_vi (As := [.int (xs (ix + 1))]) (rest := [.int r_364]) ⟨hx, hb, hml, hown, hts⟩ (k_X8_beat l D c4 A ((iG ad fp) :: (wG ((ad 3) 0) ((ad 4) 0) bt2_364 nt sd) :: (bG c4 (ad 2) told) :: (xG c4 (ad 1) (nI ln) xyc xfn xfp xpl xcs lt xnb xyk xyi) :: (yG c4 (ad 4) (nI n) os kd ic br) :: (rG c4 (ad 7) (nI bc) (nI ec) by0 bn bd bi ey ei) :: (tG c4 (ad 8) bh mi fb ba) :: (yG c4 (ad 9) n0 os0 kd0 ic0 br0) :: ((sG c4 (ad 10) ((ad 11) 0) zlc zlS zdp zmi zfo zax zco zth zpe zcd zdc zwc lv) ++ ((tG c4 (ad 11) tbh tmi tfb tba) ++ ((yG c4 (la 0) (gn 0) (go 0) (gk 0) (gi 0) (gb 0)) ++ ((yG c4 (la 1) (gn 1) (go 1) (gk 1) (gi 1) (gb 1)) ++ ((yG c4 (la 2) (gn 2) (go 2) (gk 2) (gi 2) (gb 2)) ++ ((yG c4 (la 3) (gn 3) (go 3) (gk 3) (gi 3) (gb 3)) ++ ((yG c4 (la 4) (gn 4) (go 4) (gk 4) (gi 4) (gb 4)) ++ ((yG c4 (la 5) (gn 5) (go 5) (gk 5) (gi 5) (gb 5)) ++ ((yG c4 (la 6) (gn 6) (go 6) (gk 6) (gi 6) (gb 6)) ++ ((yG c4 (la 7) (gn 7) (go 7) (gk 7) (gi 7) (gb 7)) ++ (yG c4 (la 8) (gn 8) (go 8) (gk 8) (gi 8) (gb 8)))))))))))) :: (gG c4 ((ad 5) 0) ig) :: (zG c4 ((ad 6) 0) 2 kp) :: ((wG ((ad 12) 0) ((ad 14) 0) ib0 it0 is0) ++ ((yG c4 (ad 14) in0 io0 ik0 ii0 ir0) ++ ((wG ((ad 13) 0) ((ad 15) 0) ib1 it1 is1) ++ (yG c4 (ad 15) in1 io1 ik1 ii1 ir1)))) :: (zG c4 (a 3) 2 mkp) :: (aG c4 (a 4) 230 lt) :: (aG c4 (a 5) 12 rk) :: (aG c4 (a 6) 12 ri) :: (aG c4 (a 7) 12 mba) :: (aG c4 (a 8) 51 mhd) :: (aG c4 (a 9) 10 by0) :: (aG c4 (a 10) 10 bn) :: (aG c4 (a 11) 10 bd) :: (aG c4 (a 12) 10 bi) :: (aG c4 (a 13) 15 ey) :: (aG c4 (a 14) 15 ei) :: Ts) a (nI n) (nI ln) mpl mst mva mfy fp mry mse mbh mmi mfb (nI bc) (nI ec) told w (xs (ix + 1)) htl hbt) (cwV 1 hts gL_law_X8_beat rfl rfl rfl (by decide +kernel) (rmv (Nat.le_of_ble_eq_true rfl) (Nat.le_of_ble_eq_true rfl) hRf hRl)) hK trivial hw rfl rfl rfl hl rfl (Nat.le_of_ble_eq_true rfl) ⟨Nat.le_refl _, Nat.le_refl _⟩ dL_law_373 (fun r_373 u_373 H locs hpq hw => ?_)
  obtain ⟨w2_373, rfl⟩ : ∃ z, z = u_373 := ⟨_, rfl⟩
  have hw : gW D A js.heap ((mG a (nI n) (nI ln) mpl mst mva mfy fp mry mse mbh mmi mfb (nI bc) (nI ec)) :: (aG c4 (a 2) 18 told) :: (aG c4 (a 1) 204 w2_373) :: (iG ad fp) :: (wG ((ad 3) 0) ((ad 4) 0) bt2_364 nt sd) :: (bG c4 (ad 2) told) :: (xG c4 (ad 1) (nI ln) xyc xfn xfp xpl xcs lt xnb xyk xyi) :: (yG c4 (ad 4) (nI n) os kd ic br) :: (rG c4 (ad 7) (nI bc) (nI ec) by0 bn bd bi ey ei) :: (tG c4 (ad 8) bh mi fb ba) :: (yG c4 (ad 9) n0 os0 kd0 ic0 br0) :: ((sG c4 (ad 10) ((ad 11) 0) zlc zlS zdp zmi zfo zax zco zth zpe zcd zdc zwc lv) ++ ((tG c4 (ad 11) tbh tmi tfb tba) ++ ((yG c4 (la 0) (gn 0) (go 0) (gk 0) (gi 0) (gb 0)) ++ ((yG c4 (la 1) (gn 1) (go 1) (gk 1) (gi 1) (gb 1)) ++ ((yG c4 (la 2) (gn 2) (go 2) (gk 2) (gi 2) (gb 2)) ++ ((yG c4 (la 3) (gn 3) (go 3) (gk 3) (gi 3) (gb 3)) ++ ((yG c4 (la 4) (gn 4) (go 4) (gk 4) (gi 4) (gb 4)) ++ ((yG c4 (la 5) (gn 5) (go 5) (gk 5) (gi 5) (gb 5)) ++ ((yG c4 (la 6) (gn 6) (go 6) (gk 6) (gi 6) (gb 6)) ++ ((yG c4 (la 7) (gn 7) (go 7) (gk 7) (gi 7) (gb 7)) ++ (yG c4 (la 8) (gn 8) (go 8) (gk 8) (gi 8) (gb 8)))))))))))) :: (gG c4 ((ad 5) 0) ig) :: (zG c4 ((ad 6) 0) 2 kp) :: ((wG ((ad 12) 0) ((ad 14) 0) ib0 it0 is0) ++ ((yG c4 (ad 14) in0 io0 ik0 ii0 ir0) ++ ((wG ((ad 13) 0) ((ad 15) 0) ib1 it1 is1) ++ (yG c4 (ad 15) in1 io1 ik1 ii1 ir1)))) :: (zG c4 (a 3) 2 mkp) :: (aG c4 (a 4) 230 lt) :: (aG c4 (a 5) 12 rk) :: (aG c4 (a 6) 12 ri) :: (aG c4 (a 7) 12 mba) :: (aG c4 (a 8) 51 mhd) :: (aG c4 (a 9) 10 by0) :: (aG c4 (a 10) 10 bn) :: (aG c4 (a 11) 10 bd) :: (aG c4 (a 12) 10 bi) :: (aG c4 (a 13) 15 ey) :: (aG c4 (a 14) 15 ei) :: Ts) H locs := hw
  obtain ⟨hF_373, hW_373⟩ := hpq
  have hF_373 : beatF (xs (ix + 1)) (w 48) told = (r_373, w2_373 48) := hF_373
  have hW_373 : ∀ j, ¬ j = 48 → w2_373 j = w j := hW_373
  have hF2 := hF_373
  rw [h48, ← hF_364] at hF2
  have er : (r_364 : Int32) = r_373 := (congrArg Prod.fst hF2)
  refine lv_icmp_eq (tgt := 961) hx hb dL_law_376 (by decide) (fun _ => ?_) (fun c_e => absurd er c_e)
  have hl : lv_has ls 4 [(0, .ref b), (1, .ref ((ad 0) 0)), (2, .ref (a 0)), (3, .int (nI ix))] := lv_sub hl [0, 1, 2, 3] rfl
  have hw := hw.m2
  have hw := hw.m1
  have hw := hw.m14
  have hw := hw.m14
  have hw := hw.m14
  have hw := hw.m14
  have hw := hw.m14
  have hw := hw.m14
  have hw := hw.m14
  have hw := hw.m14
  have hw := hw.m13
  have hw := hw.m13
  have hw := hw.m14
  have hw := hw.m14
  exact next _ _ _ (LI.of fp ln xyc xfn xfp xpl xcs lt xnb xyk xyi bt2_364 nt sd n os kd ic br bc ec by0 bn bd bi ey ei bh mi fb ba n0 os0 kd0 ic0 br0 zlc zlS zdp zmi zfo zax zco zth zpe zcd zdc zwc tbh tmi tfb tba gn go gk gi gb kp in0 io0 ib0 it0 is0 ik0 ii0 ir0 in1 io1 ib1 it1 is1 ik1 ii1 ir1 mpl mst mva mfy mry mse mbh mmi mfb w2_373 told mkp rk ri mba mhd q q0 q1 ⟨hw, (hR1.bt (congrArg Prod.snd hF2).symm hW_373 (bt_ok hbt0 hF_364)), htl, hR2, hR3, (hRI0.at (by decide) (fun j hj => hW_373 j (by omega))), (hRI1.at (by decide) (fun j hj => hW_373 j (by omega)))⟩) hl
set_option maxHeartbeats 4000000 in
set_option maxRecDepth 100000 in
theorem lc_9 {jp : Program} {l : Launch} {je : Env} {js : State} {jm : MethodId} {below : List Frame} {meth : Method} {jc : Code} {D : va_G} {c4 : Nat → ClassId} {A : Nat → Prop} {t : Nat → Nat} {b L : Nat} {xs : Nat → Int32} {ad la : Nat → Nat → Nat} {a : Nat → Nat} {lv ig : Nat → Option Nat} {Ts : List va_W} {Q : State → Prop} {H : Heap} {locs : List Loc} {ls : Array Slot} {ix : Nat} (C0 : LC jp js jm meth jc D c4 A t b L xs) (hlv : ∀ k, k < 9 → lv k = some (la k 0)) (him0 : ig 0 = some (ad 12 0)) (him1 : ig 1 = some (ad 13 0)) (hix : ix + 6 ≤ L) {fp : Int32} {ln : Nat} {xyc : Int32} {xfn : Int32} {xfp : Int32} {xpl : Int32} {xcs : Int32} {lt : Nat → Int32} {xnb : Nat → Int32} {xyk : Nat → Int32} {xyi : Nat → Int32} {bt : Int32} {nt : Int32} {sd : Int32} {n : Nat} {os : Int32} {kd : Nat → Int32} {ic : Nat → Int32} {br : Nat → Int32} {bc : Nat} {ec : Nat} {by0 : Nat → Int32} {bn : Nat → Int32} {bd : Nat → Int32} {bi : Nat → Int32} {ey : Nat → Int32} {ei : Nat → Int32} {bh : Int32} {mi : Int32} {fb : Int32} {ba : Nat → Int32} {n0 : Int32} {os0 : Int32} {kd0 : Nat → Int32} {ic0 : Nat → Int32} {br0 : Nat → Int32} {zlc : Int32} {zlS : Int32} {zdp : Int32} {zmi : Int32} {zfo : Int32} {zax : Int32} {zco : Int32} {zth : Int32} {zpe : Int32} {zcd : Int32} {zdc : Int32} {zwc : Int32} {tbh : Int32} {tmi : Int32} {tfb : Int32} {tba : Nat → Int32} {gn : Nat → Int32} {go : Nat → Int32} {gk : Nat → Nat → Int32} {gi : Nat → Nat → Int32} {gb : Nat → Nat → Int32} {kp : Nat → Int32} {in0 : Int32} {io0 : Int32} {ib0 : Int32} {it0 : Int32} {is0 : Int32} {ik0 : Nat → Int32} {ii0 : Nat → Int32} {ir0 : Nat → Int32} {in1 : Int32} {io1 : Int32} {ib1 : Int32} {it1 : Int32} {is1 : Int32} {ik1 : Nat → Int32} {ii1 : Nat → Int32} {ir1 : Nat → Int32} {mpl : Int32} {mst : Int32} {mva : Int32} {mfy : Int32} {mry : Int32} {mse : Int32} {mbh : Int32} {mmi : Int32} {mfb : Int32} {w : Nat → Int32} {told : Nat → Int32} {mkp : Nat → Int32} {rk : Nat → Int32} {ri : Nat → Int32} {mba : Nat → Int32} {mhd : Nat → Int32} {q : Nat → Yq} {q0 : Nat → Yq} {q1 : Nat → Yq} (hI : LIb D c4 A js.heap ad la a lv ig Ts fp ln xyc xfn xfp xpl xcs lt xnb xyk xyi bt nt sd n os kd ic br bc ec by0 bn bd bi ey ei bh mi fb ba n0 os0 kd0 ic0 br0 zlc zlS zdp zmi zfo zax zco zth zpe zcd zdc zwc tbh tmi tfb tba gn go gk gi gb kp in0 io0 ib0 it0 is0 ik0 ii0 ir0 in1 io1 ib1 it1 is1 ik1 ii1 ir1 mpl mst mva mfy mry mse mbh mmi mfb w told mkp rk ri mba mhd q q0 q1 H locs) (hl : lv_has ls 4 [(0, .ref b), (1, .ref ((ad 0) 0)), (2, .ref (a 0)), (3, .int (nI ix))]) (next : ∀ (H : Heap) (locs : List Loc) (ls : Array Slot), LI D c4 A js.heap ad la a lv ig Ts H locs → lv_has ls 4 [(0, .ref b), (1, .ref ((ad 0) 0)), (2, .ref (a 0)), (3, .int (nI ix))] → W jp l je room_1 js jm #[Value.ref b] below meth jc H locs 600000 7302250 Q (F0 jm 961 ls [])) : W jp l je room_1 js jm #[Value.ref b] below meth jc H locs 600000 7302250 Q (F0 jm 381 ls []) := by
  obtain ⟨hx, hb, hr, hml, hown, hts, hXs, hbl, hlocks, hK, hX, hbA, hL3⟩ := C0
  have hRf : room_1.frames = 2048 := rfl
  have hRl : room_1.locals = 84000 := rfl
  have hRc : room_1.cells = 600000 := rfl
  have hRs : room_1.slots = 7302250 := rfl
  obtain ⟨hw, hR1, htl, hR2, hR3, hRI0, hRI1⟩ := hI
  have hR1c := hR1
  obtain ⟨hn, hyR, hmY, h48, h49, h50, hbt0, hsd0⟩ := hR1c
  have hbt : rng (w 48) 1 9 := by rw [h48]; exact hbt0
  have hsd : sdOk (w 50) := by rw [h50]; exact hsd0
  have hln := hR2.1
  have hlt := hR2.2
  have hbc := hR3.1
  have hec := hR3.2.1
  have hbo := hR3.2.2.1
  have hen := hR3.2.2.2
  refine lv_aload_n hx hb dL_law_381 rfl (lv_at hl 1 rfl) ?_
  refine lv_aload_n hx hb dL_law_382 rfl (lv_at hl 0 rfl) ?_
  refine lv_iload_n hx hb dL_law_383 rfl (lv_at hl 3 rfl) ?_
  refine lv_iconst (v := 1) hx hb dL_law_384 (by decide) ?_
  refine r_addN hx hb ix 1 dL_law_385 ?_
  refine r_sld hx hb hXs hbl hbA hw (ix + 1) (by omega) hL3 dL_law_386 ?_
  have hw := hw.m6
  have hw := hw.m5
  have hw := hw.m5
  have hw := hw.m5
  have hw := hw.m4
  refine c_vi (As := [.int (xs (ix + 1))]) (rest := []) ⟨hx, hb, hml, hown, hts⟩ (k_X7_out l D c4 A ((xG c4 (ad 1) (nI ln) xyc xfn xfp xpl xcs lt xnb xyk xyi) :: (rG c4 (ad 7) (nI bc) (nI ec) by0 bn bd bi ey ei) :: (yG c4 (ad 9) n0 os0 kd0 ic0 br0) :: ((sG c4 (ad 10) ((ad 11) 0) zlc zlS zdp zmi zfo zax zco zth zpe zcd zdc zwc lv) ++ ((tG c4 (ad 11) tbh tmi tfb tba) ++ ((yG c4 (la 0) (gn 0) (go 0) (gk 0) (gi 0) (gb 0)) ++ ((yG c4 (la 1) (gn 1) (go 1) (gk 1) (gi 1) (gb 1)) ++ ((yG c4 (la 2) (gn 2) (go 2) (gk 2) (gi 2) (gb 2)) ++ ((yG c4 (la 3) (gn 3) (go 3) (gk 3) (gi 3) (gb 3)) ++ ((yG c4 (la 4) (gn 4) (go 4) (gk 4) (gi 4) (gb 4)) ++ ((yG c4 (la 5) (gn 5) (go 5) (gk 5) (gi 5) (gb 5)) ++ ((yG c4 (la 6) (gn 6) (go 6) (gk 6) (gi 6) (gb 6)) ++ ((yG c4 (la 7) (gn 7) (go 7) (gk 7) (gi 7) (gb 7)) ++ (yG c4 (la 8) (gn 8) (go 8) (gk 8) (gi 8) (gb 8)))))))))))) :: (gG c4 ((ad 5) 0) ig) :: (zG c4 ((ad 6) 0) 2 kp) :: ((wG ((ad 12) 0) ((ad 14) 0) ib0 it0 is0) ++ ((yG c4 (ad 14) in0 io0 ik0 ii0 ir0) ++ ((wG ((ad 13) 0) ((ad 15) 0) ib1 it1 is1) ++ (yG c4 (ad 15) in1 io1 ik1 ii1 ir1)))) :: (mG a (nI n) (nI ln) mpl mst mva mfy fp mry mse mbh mmi mfb (nI bc) (nI ec)) :: (aG c4 (a 1) 204 w) :: (aG c4 (a 2) 18 told) :: (zG c4 (a 3) 2 mkp) :: (aG c4 (a 4) 230 lt) :: (aG c4 (a 5) 12 rk) :: (aG c4 (a 6) 12 ri) :: (aG c4 (a 7) 12 mba) :: (aG c4 (a 8) 51 mhd) :: (aG c4 (a 9) 10 by0) :: (aG c4 (a 10) 10 bn) :: (aG c4 (a 11) 10 bd) :: (aG c4 (a 12) 10 bi) :: (aG c4 (a 13) 15 ey) :: (aG c4 (a 14) 15 ei) :: Ts) ad fp bt nt sd told n os kd ic br q bh mi fb ba (xs (ix + 1)) hn hyR htl) (cwV 1 hts gL_law_X7_out rfl rfl rfl (by decide +kernel) (rmv (Nat.le_of_ble_eq_true rfl) (Nat.le_of_ble_eq_true rfl) hRf hRl)) hK trivial hw rfl rfl rfl hl rfl (Nat.le_of_ble_eq_true rfl) ⟨Nat.le_refl _, Nat.le_refl _⟩ dL_law_387 (fun r_387 u_387 H locs hpq hw => ?_)
  obtain ⟨os2_387, ic2_387, br2_387, bh2_387, mi2_387, fb2_387, ba2_387⟩ := u_387
  have hw : gW D A js.heap ((iG ad fp) :: (wG ((ad 3) 0) ((ad 4) 0) bt nt sd) :: (bG c4 (ad 2) told) :: (yG c4 (ad 4) (nI n) os2_387 kd ic2_387 br2_387) :: (tG c4 (ad 8) bh2_387 mi2_387 fb2_387 ba2_387) :: (xG c4 (ad 1) (nI ln) xyc xfn xfp xpl xcs lt xnb xyk xyi) :: (rG c4 (ad 7) (nI bc) (nI ec) by0 bn bd bi ey ei) :: (yG c4 (ad 9) n0 os0 kd0 ic0 br0) :: ((sG c4 (ad 10) ((ad 11) 0) zlc zlS zdp zmi zfo zax zco zth zpe zcd zdc zwc lv) ++ ((tG c4 (ad 11) tbh tmi tfb tba) ++ ((yG c4 (la 0) (gn 0) (go 0) (gk 0) (gi 0) (gb 0)) ++ ((yG c4 (la 1) (gn 1) (go 1) (gk 1) (gi 1) (gb 1)) ++ ((yG c4 (la 2) (gn 2) (go 2) (gk 2) (gi 2) (gb 2)) ++ ((yG c4 (la 3) (gn 3) (go 3) (gk 3) (gi 3) (gb 3)) ++ ((yG c4 (la 4) (gn 4) (go 4) (gk 4) (gi 4) (gb 4)) ++ ((yG c4 (la 5) (gn 5) (go 5) (gk 5) (gi 5) (gb 5)) ++ ((yG c4 (la 6) (gn 6) (go 6) (gk 6) (gi 6) (gb 6)) ++ ((yG c4 (la 7) (gn 7) (go 7) (gk 7) (gi 7) (gb 7)) ++ (yG c4 (la 8) (gn 8) (go 8) (gk 8) (gi 8) (gb 8)))))))))))) :: (gG c4 ((ad 5) 0) ig) :: (zG c4 ((ad 6) 0) 2 kp) :: ((wG ((ad 12) 0) ((ad 14) 0) ib0 it0 is0) ++ ((yG c4 (ad 14) in0 io0 ik0 ii0 ir0) ++ ((wG ((ad 13) 0) ((ad 15) 0) ib1 it1 is1) ++ (yG c4 (ad 15) in1 io1 ik1 ii1 ir1)))) :: (mG a (nI n) (nI ln) mpl mst mva mfy fp mry mse mbh mmi mfb (nI bc) (nI ec)) :: (aG c4 (a 1) 204 w) :: (aG c4 (a 2) 18 told) :: (zG c4 (a 3) 2 mkp) :: (aG c4 (a 4) 230 lt) :: (aG c4 (a 5) 12 rk) :: (aG c4 (a 6) 12 ri) :: (aG c4 (a 7) 12 mba) :: (aG c4 (a 8) 51 mhd) :: (aG c4 (a 9) 10 by0) :: (aG c4 (a 10) 10 bn) :: (aG c4 (a 11) 10 bd) :: (aG c4 (a 12) 10 bi) :: (aG c4 (a 13) 15 ey) :: (aG c4 (a 14) 15 ei) :: Ts) H locs := hw
  have hF_387 := hpq
  have hF_387 : ∃ q2, outF (xs (ix + 1)) (pForce told bt) (told 5) q n = (r_387, q2) ∧ yR q2 n os2_387 kd ic2_387 br2_387 := hF_387
  refine lv_aload_n hx hb dL_law_390 rfl (lv_at hl 2 rfl) ?_
  refine lv_aload_n hx hb dL_law_391 rfl (lv_at hl 0 rfl) ?_
  refine lv_iload_n hx hb dL_law_392 rfl (lv_at hl 3 rfl) ?_
  refine lv_iconst (v := 1) hx hb dL_law_393 (by decide) ?_
  refine r_addN hx hb ix 1 dL_law_394 ?_
  refine r_sld hx hb hXs hbl hbA hw (ix + 1) (by omega) hL3 dL_law_395 ?_
  have hw := hw.m19
  have hw := hw.m14
  have hw := hw.m15
  have hw := hw.m15
  refine c_vi (As := [.int (xs (ix + 1))]) (rest := [.int r_387]) ⟨hx, hb, hml, hown, hts⟩ (k_X8_out l D c4 A ((iG ad fp) :: (wG ((ad 3) 0) ((ad 4) 0) bt nt sd) :: (bG c4 (ad 2) told) :: (yG c4 (ad 4) (nI n) os2_387 kd ic2_387 br2_387) :: (tG c4 (ad 8) bh2_387 mi2_387 fb2_387 ba2_387) :: (xG c4 (ad 1) (nI ln) xyc xfn xfp xpl xcs lt xnb xyk xyi) :: (rG c4 (ad 7) (nI bc) (nI ec) by0 bn bd bi ey ei) :: (yG c4 (ad 9) n0 os0 kd0 ic0 br0) :: ((sG c4 (ad 10) ((ad 11) 0) zlc zlS zdp zmi zfo zax zco zth zpe zcd zdc zwc lv) ++ ((tG c4 (ad 11) tbh tmi tfb tba) ++ ((yG c4 (la 0) (gn 0) (go 0) (gk 0) (gi 0) (gb 0)) ++ ((yG c4 (la 1) (gn 1) (go 1) (gk 1) (gi 1) (gb 1)) ++ ((yG c4 (la 2) (gn 2) (go 2) (gk 2) (gi 2) (gb 2)) ++ ((yG c4 (la 3) (gn 3) (go 3) (gk 3) (gi 3) (gb 3)) ++ ((yG c4 (la 4) (gn 4) (go 4) (gk 4) (gi 4) (gb 4)) ++ ((yG c4 (la 5) (gn 5) (go 5) (gk 5) (gi 5) (gb 5)) ++ ((yG c4 (la 6) (gn 6) (go 6) (gk 6) (gi 6) (gb 6)) ++ ((yG c4 (la 7) (gn 7) (go 7) (gk 7) (gi 7) (gb 7)) ++ (yG c4 (la 8) (gn 8) (go 8) (gk 8) (gi 8) (gb 8)))))))))))) :: (gG c4 ((ad 5) 0) ig) :: (zG c4 ((ad 6) 0) 2 kp) :: ((wG ((ad 12) 0) ((ad 14) 0) ib0 it0 is0) ++ ((yG c4 (ad 14) in0 io0 ik0 ii0 ir0) ++ ((wG ((ad 13) 0) ((ad 15) 0) ib1 it1 is1) ++ (yG c4 (ad 15) in1 io1 ik1 ii1 ir1)))) :: (zG c4 (a 3) 2 mkp) :: (aG c4 (a 4) 230 lt) :: (aG c4 (a 5) 12 rk) :: (aG c4 (a 6) 12 ri) :: (aG c4 (a 8) 51 mhd) :: (aG c4 (a 9) 10 by0) :: (aG c4 (a 10) 10 bn) :: (aG c4 (a 11) 10 bd) :: (aG c4 (a 12) 10 bi) :: (aG c4 (a 13) 15 ey) :: (aG c4 (a 14) 15 ei) :: Ts) a n (nI ln) mpl mst mva mfy fp mry mse mbh mmi mfb (nI bc) (nI ec) told w mba q (xs (ix + 1)) hn hmY htl hbt) (cwV 1 hts gL_law_X8_out rfl rfl rfl (by decide +kernel) (rmv (Nat.le_of_ble_eq_true rfl) (Nat.le_of_ble_eq_true rfl) hRf hRl)) hK trivial hw rfl rfl rfl hl rfl (Nat.le_of_ble_eq_true rfl) ⟨Nat.le_refl _, Nat.le_refl _⟩ dL_law_396 (fun r_396 u_396 H locs hpq hw => ?_)
  obtain ⟨bh2_396, mi2_396, fb2_396, w2_396, ba2_396⟩ := u_396
  have hw : gW D A js.heap ((mG a (nI n) (nI ln) mpl mst mva mfy fp mry mse bh2_396 mi2_396 fb2_396 (nI bc) (nI ec)) :: (aG c4 (a 2) 18 told) :: (aG c4 (a 1) 204 w2_396) :: (aG c4 (a 7) 12 ba2_396) :: (iG ad fp) :: (wG ((ad 3) 0) ((ad 4) 0) bt nt sd) :: (bG c4 (ad 2) told) :: (yG c4 (ad 4) (nI n) os2_387 kd ic2_387 br2_387) :: (tG c4 (ad 8) bh2_387 mi2_387 fb2_387 ba2_387) :: (xG c4 (ad 1) (nI ln) xyc xfn xfp xpl xcs lt xnb xyk xyi) :: (rG c4 (ad 7) (nI bc) (nI ec) by0 bn bd bi ey ei) :: (yG c4 (ad 9) n0 os0 kd0 ic0 br0) :: ((sG c4 (ad 10) ((ad 11) 0) zlc zlS zdp zmi zfo zax zco zth zpe zcd zdc zwc lv) ++ ((tG c4 (ad 11) tbh tmi tfb tba) ++ ((yG c4 (la 0) (gn 0) (go 0) (gk 0) (gi 0) (gb 0)) ++ ((yG c4 (la 1) (gn 1) (go 1) (gk 1) (gi 1) (gb 1)) ++ ((yG c4 (la 2) (gn 2) (go 2) (gk 2) (gi 2) (gb 2)) ++ ((yG c4 (la 3) (gn 3) (go 3) (gk 3) (gi 3) (gb 3)) ++ ((yG c4 (la 4) (gn 4) (go 4) (gk 4) (gi 4) (gb 4)) ++ ((yG c4 (la 5) (gn 5) (go 5) (gk 5) (gi 5) (gb 5)) ++ ((yG c4 (la 6) (gn 6) (go 6) (gk 6) (gi 6) (gb 6)) ++ ((yG c4 (la 7) (gn 7) (go 7) (gk 7) (gi 7) (gb 7)) ++ (yG c4 (la 8) (gn 8) (go 8) (gk 8) (gi 8) (gb 8)))))))))))) :: (gG c4 ((ad 5) 0) ig) :: (zG c4 ((ad 6) 0) 2 kp) :: ((wG ((ad 12) 0) ((ad 14) 0) ib0 it0 is0) ++ ((yG c4 (ad 14) in0 io0 ik0 ii0 ir0) ++ ((wG ((ad 13) 0) ((ad 15) 0) ib1 it1 is1) ++ (yG c4 (ad 15) in1 io1 ik1 ii1 ir1)))) :: (zG c4 (a 3) 2 mkp) :: (aG c4 (a 4) 230 lt) :: (aG c4 (a 5) 12 rk) :: (aG c4 (a 6) 12 ri) :: (aG c4 (a 8) 51 mhd) :: (aG c4 (a 9) 10 by0) :: (aG c4 (a 10) 10 bn) :: (aG c4 (a 11) 10 bd) :: (aG c4 (a 12) 10 bi) :: (aG c4 (a 13) 15 ey) :: (aG c4 (a 14) 15 ei) :: Ts) H locs := hw
  have hF_396 := hpq
  have hF_396 : ∃ q2, outF (xs (ix + 1)) (pForce told (w 48)) (told 5) q n = (r_396, q2) ∧ mY q2 n w2_396 0 ∧ wOut 0 w w2_396 := hF_396
  obtain ⟨q2, hF1, hY1⟩ := hF_387
  obtain ⟨q3, hF2, hM2, hO2⟩ := hF_396
  rw [h48, hF1] at hF2
  have er : (r_387 : Int32) = r_396 := (congrArg Prod.fst hF2)
  refine lv_icmp_eq (tgt := 961) hx hb dL_law_399 (by decide) (fun _ => ?_) (fun c_e => absurd er c_e)
  have hl : lv_has ls 4 [(0, .ref b), (1, .ref ((ad 0) 0)), (2, .ref (a 0)), (3, .int (nI ix))] := lv_sub hl [0, 1, 2, 3] rfl
  have hw := hw.m19
  have hw := hw.m19
  have hw := hw.m19
  have hw := hw.m19
  have hw := hw.m5
  have hw := hw.m6
  have hw := hw.m6
  have hw := hw.m19
  have hw := hw.m19
  have hw := hw.m19
  have hw := hw.m19
  have hw := hw.m19
  have hw := hw.m17
  have hw := hw.m19
  have hw := hw.m18
  have hw := hw.m18
  have hw := hw.m18
  have hw := hw.m19
  have hw := hw.m19
  exact next _ _ _ (LI.of fp ln xyc xfn xfp xpl xcs lt xnb xyk xyi bt nt sd n os2_387 kd ic2_387 br2_387 bc ec by0 bn bd bi ey ei bh2_387 mi2_387 fb2_387 ba2_387 n0 os0 kd0 ic0 br0 zlc zlS zdp zmi zfo zax zco zth zpe zcd zdc zwc tbh tmi tfb tba gn go gk gi gb kp in0 io0 ib0 it0 is0 ik0 ii0 ir0 in1 io1 ib1 it1 is1 ik1 ii1 ir1 mpl mst mva mfy mry mse bh2_396 mi2_396 fb2_396 w2_396 told mkp rk ri ba2_396 mhd q2 q0 q1 ⟨hw, (hR1.up hY1 hM2 (congrArg Prod.snd hF2).symm (hO2 48 (by omega)) ((hO2 49 (by omega)).trans h49) (hO2 50 (by omega))), htl, hR2, hR3, (hRI0.at (by decide) (fun j hj => hO2 j (by omega))), (hRI1.at (by decide) (fun j hj => hO2 j (by omega)))⟩) hl
set_option maxHeartbeats 4000000 in
set_option maxRecDepth 100000 in
theorem lc_10 {jp : Program} {l : Launch} {je : Env} {js : State} {jm : MethodId} {below : List Frame} {meth : Method} {jc : Code} {D : va_G} {c4 : Nat → ClassId} {A : Nat → Prop} {t : Nat → Nat} {b L : Nat} {xs : Nat → Int32} {ad la : Nat → Nat → Nat} {a : Nat → Nat} {lv ig : Nat → Option Nat} {Ts : List va_W} {Q : State → Prop} {H : Heap} {locs : List Loc} {ls : Array Slot} {ix : Nat} (C0 : LC jp js jm meth jc D c4 A t b L xs) (hlv : ∀ k, k < 9 → lv k = some (la k 0)) (him0 : ig 0 = some (ad 12 0)) (him1 : ig 1 = some (ad 13 0)) (hix : ix + 6 ≤ L) {fp : Int32} {ln : Nat} {xyc : Int32} {xfn : Int32} {xfp : Int32} {xpl : Int32} {xcs : Int32} {lt : Nat → Int32} {xnb : Nat → Int32} {xyk : Nat → Int32} {xyi : Nat → Int32} {bt : Int32} {nt : Int32} {sd : Int32} {n : Nat} {os : Int32} {kd : Nat → Int32} {ic : Nat → Int32} {br : Nat → Int32} {bc : Nat} {ec : Nat} {by0 : Nat → Int32} {bn : Nat → Int32} {bd : Nat → Int32} {bi : Nat → Int32} {ey : Nat → Int32} {ei : Nat → Int32} {bh : Int32} {mi : Int32} {fb : Int32} {ba : Nat → Int32} {n0 : Int32} {os0 : Int32} {kd0 : Nat → Int32} {ic0 : Nat → Int32} {br0 : Nat → Int32} {zlc : Int32} {zlS : Int32} {zdp : Int32} {zmi : Int32} {zfo : Int32} {zax : Int32} {zco : Int32} {zth : Int32} {zpe : Int32} {zcd : Int32} {zdc : Int32} {zwc : Int32} {tbh : Int32} {tmi : Int32} {tfb : Int32} {tba : Nat → Int32} {gn : Nat → Int32} {go : Nat → Int32} {gk : Nat → Nat → Int32} {gi : Nat → Nat → Int32} {gb : Nat → Nat → Int32} {kp : Nat → Int32} {in0 : Int32} {io0 : Int32} {ib0 : Int32} {it0 : Int32} {is0 : Int32} {ik0 : Nat → Int32} {ii0 : Nat → Int32} {ir0 : Nat → Int32} {in1 : Int32} {io1 : Int32} {ib1 : Int32} {it1 : Int32} {is1 : Int32} {ik1 : Nat → Int32} {ii1 : Nat → Int32} {ir1 : Nat → Int32} {mpl : Int32} {mst : Int32} {mva : Int32} {mfy : Int32} {mry : Int32} {mse : Int32} {mbh : Int32} {mmi : Int32} {mfb : Int32} {w : Nat → Int32} {told : Nat → Int32} {mkp : Nat → Int32} {rk : Nat → Int32} {ri : Nat → Int32} {mba : Nat → Int32} {mhd : Nat → Int32} {q : Nat → Yq} {q0 : Nat → Yq} {q1 : Nat → Yq} (hI : LIb D c4 A js.heap ad la a lv ig Ts fp ln xyc xfn xfp xpl xcs lt xnb xyk xyi bt nt sd n os kd ic br bc ec by0 bn bd bi ey ei bh mi fb ba n0 os0 kd0 ic0 br0 zlc zlS zdp zmi zfo zax zco zth zpe zcd zdc zwc tbh tmi tfb tba gn go gk gi gb kp in0 io0 ib0 it0 is0 ik0 ii0 ir0 in1 io1 ib1 it1 is1 ik1 ii1 ir1 mpl mst mva mfy mry mse mbh mmi mfb w told mkp rk ri mba mhd q q0 q1 H locs) (hl : lv_has ls 4 [(0, .ref b), (1, .ref ((ad 0) 0)), (2, .ref (a 0)), (3, .int (nI ix))]) (next : ∀ (H : Heap) (locs : List Loc) (ls : Array Slot), LI D c4 A js.heap ad la a lv ig Ts H locs → lv_has ls 4 [(0, .ref b), (1, .ref ((ad 0) 0)), (2, .ref (a 0)), (3, .int (nI ix))] → W jp l je room_1 js jm #[Value.ref b] below meth jc H locs 600000 7302250 Q (F0 jm 961 ls [])) : W jp l je room_1 js jm #[Value.ref b] below meth jc H locs 600000 7302250 Q (F0 jm 404 ls []) := by
  obtain ⟨hx, hb, hr, hml, hown, hts, hXs, hbl, hlocks, hK, hX, hbA, hL3⟩ := C0
  have hRf : room_1.frames = 2048 := rfl
  have hRl : room_1.locals = 84000 := rfl
  have hRc : room_1.cells = 600000 := rfl
  have hRs : room_1.slots = 7302250 := rfl
  obtain ⟨hw, hR1, htl, hR2, hR3, hRI0, hRI1⟩ := hI
  have hR1c := hR1
  obtain ⟨hn, hyR, hmY, h48, h49, h50, hbt0, hsd0⟩ := hR1c
  have hbt : rng (w 48) 1 9 := by rw [h48]; exact hbt0
  have hsd : sdOk (w 50) := by rw [h50]; exact hsd0
  have hln := hR2.1
  have hlt := hR2.2
  have hbc := hR3.1
  have hec := hR3.2.1
  have hbo := hR3.2.2.1
  have hen := hR3.2.2.2
  refine lv_aload_n hx hb dL_law_404 rfl (lv_at hl 1 rfl) ?_
  refine lv_aload_n hx hb dL_law_405 rfl (lv_at hl 0 rfl) ?_
  refine lv_iload_n hx hb dL_law_406 rfl (lv_at hl 3 rfl) ?_
  refine lv_iconst (v := 1) hx hb dL_law_407 (by decide) ?_
  refine r_addN hx hb ix 1 dL_law_408 ?_
  refine r_sld hx hb hXs hbl hbA hw (ix + 1) (by omega) hL3 dL_law_409 ?_
  have hw := hw.m4
  have hw := hw.m3
  have hw := hw.m2
  refine c_vi (As := [.int (xs (ix + 1))]) (rest := []) ⟨hx, hb, hml, hown, hts⟩ (k_X7_drift l D c4 A ((xG c4 (ad 1) (nI ln) xyc xfn xfp xpl xcs lt xnb xyk xyi) :: (bG c4 (ad 2) told) :: (rG c4 (ad 7) (nI bc) (nI ec) by0 bn bd bi ey ei) :: (tG c4 (ad 8) bh mi fb ba) :: (yG c4 (ad 9) n0 os0 kd0 ic0 br0) :: ((sG c4 (ad 10) ((ad 11) 0) zlc zlS zdp zmi zfo zax zco zth zpe zcd zdc zwc lv) ++ ((tG c4 (ad 11) tbh tmi tfb tba) ++ ((yG c4 (la 0) (gn 0) (go 0) (gk 0) (gi 0) (gb 0)) ++ ((yG c4 (la 1) (gn 1) (go 1) (gk 1) (gi 1) (gb 1)) ++ ((yG c4 (la 2) (gn 2) (go 2) (gk 2) (gi 2) (gb 2)) ++ ((yG c4 (la 3) (gn 3) (go 3) (gk 3) (gi 3) (gb 3)) ++ ((yG c4 (la 4) (gn 4) (go 4) (gk 4) (gi 4) (gb 4)) ++ ((yG c4 (la 5) (gn 5) (go 5) (gk 5) (gi 5) (gb 5)) ++ ((yG c4 (la 6) (gn 6) (go 6) (gk 6) (gi 6) (gb 6)) ++ ((yG c4 (la 7) (gn 7) (go 7) (gk 7) (gi 7) (gb 7)) ++ (yG c4 (la 8) (gn 8) (go 8) (gk 8) (gi 8) (gb 8)))))))))))) :: (gG c4 ((ad 5) 0) ig) :: (zG c4 ((ad 6) 0) 2 kp) :: ((wG ((ad 12) 0) ((ad 14) 0) ib0 it0 is0) ++ ((yG c4 (ad 14) in0 io0 ik0 ii0 ir0) ++ ((wG ((ad 13) 0) ((ad 15) 0) ib1 it1 is1) ++ (yG c4 (ad 15) in1 io1 ik1 ii1 ir1)))) :: (mG a (nI n) (nI ln) mpl mst mva mfy fp mry mse mbh mmi mfb (nI bc) (nI ec)) :: (aG c4 (a 1) 204 w) :: (aG c4 (a 2) 18 told) :: (zG c4 (a 3) 2 mkp) :: (aG c4 (a 4) 230 lt) :: (aG c4 (a 5) 12 rk) :: (aG c4 (a 6) 12 ri) :: (aG c4 (a 7) 12 mba) :: (aG c4 (a 8) 51 mhd) :: (aG c4 (a 9) 10 by0) :: (aG c4 (a 10) 10 bn) :: (aG c4 (a 11) 10 bd) :: (aG c4 (a 12) 10 bi) :: (aG c4 (a 13) 15 ey) :: (aG c4 (a 14) 15 ei) :: Ts) ad fp bt nt sd n os kd ic br q (xs (ix + 1)) hn hyR) (cwV 1 hts gL_law_X7_drift rfl rfl rfl (by decide +kernel) (rmv (Nat.le_of_ble_eq_true rfl) (Nat.le_of_ble_eq_true rfl) hRf hRl)) hK trivial hw rfl rfl rfl hl rfl (Nat.le_of_ble_eq_true rfl) ⟨Nat.le_refl _, Nat.le_refl _⟩ dL_law_410 (fun r_410 u_410 H locs hpq hw => ?_)
  obtain ⟨os2_410, kd2_410, ic2_410, br2_410, nt2_410, sd2_410⟩ := u_410
  have hw : gW D A js.heap ((iG ad fp) :: (wG ((ad 3) 0) ((ad 4) 0) bt nt2_410 sd2_410) :: (yG c4 (ad 4) (nI n) os2_410 kd2_410 ic2_410 br2_410) :: (xG c4 (ad 1) (nI ln) xyc xfn xfp xpl xcs lt xnb xyk xyi) :: (bG c4 (ad 2) told) :: (rG c4 (ad 7) (nI bc) (nI ec) by0 bn bd bi ey ei) :: (tG c4 (ad 8) bh mi fb ba) :: (yG c4 (ad 9) n0 os0 kd0 ic0 br0) :: ((sG c4 (ad 10) ((ad 11) 0) zlc zlS zdp zmi zfo zax zco zth zpe zcd zdc zwc lv) ++ ((tG c4 (ad 11) tbh tmi tfb tba) ++ ((yG c4 (la 0) (gn 0) (go 0) (gk 0) (gi 0) (gb 0)) ++ ((yG c4 (la 1) (gn 1) (go 1) (gk 1) (gi 1) (gb 1)) ++ ((yG c4 (la 2) (gn 2) (go 2) (gk 2) (gi 2) (gb 2)) ++ ((yG c4 (la 3) (gn 3) (go 3) (gk 3) (gi 3) (gb 3)) ++ ((yG c4 (la 4) (gn 4) (go 4) (gk 4) (gi 4) (gb 4)) ++ ((yG c4 (la 5) (gn 5) (go 5) (gk 5) (gi 5) (gb 5)) ++ ((yG c4 (la 6) (gn 6) (go 6) (gk 6) (gi 6) (gb 6)) ++ ((yG c4 (la 7) (gn 7) (go 7) (gk 7) (gi 7) (gb 7)) ++ (yG c4 (la 8) (gn 8) (go 8) (gk 8) (gi 8) (gb 8)))))))))))) :: (gG c4 ((ad 5) 0) ig) :: (zG c4 ((ad 6) 0) 2 kp) :: ((wG ((ad 12) 0) ((ad 14) 0) ib0 it0 is0) ++ ((yG c4 (ad 14) in0 io0 ik0 ii0 ir0) ++ ((wG ((ad 13) 0) ((ad 15) 0) ib1 it1 is1) ++ (yG c4 (ad 15) in1 io1 ik1 ii1 ir1)))) :: (mG a (nI n) (nI ln) mpl mst mva mfy fp mry mse mbh mmi mfb (nI bc) (nI ec)) :: (aG c4 (a 1) 204 w) :: (aG c4 (a 2) 18 told) :: (zG c4 (a 3) 2 mkp) :: (aG c4 (a 4) 230 lt) :: (aG c4 (a 5) 12 rk) :: (aG c4 (a 6) 12 ri) :: (aG c4 (a 7) 12 mba) :: (aG c4 (a 8) 51 mhd) :: (aG c4 (a 9) 10 by0) :: (aG c4 (a 10) 10 bn) :: (aG c4 (a 11) 10 bd) :: (aG c4 (a 12) 10 bi) :: (aG c4 (a 13) 15 ey) :: (aG c4 (a 14) 15 ei) :: Ts) H locs := hw
  have hF_410 := hpq
  have hF_410 : ∃ q2, driftF (xs (ix + 1)) nt sd q n = (r_410, nt2_410, sd2_410, q2) ∧ yR q2 n os2_410 kd2_410 ic2_410 br2_410 := hF_410
  refine lv_aload_n hx hb dL_law_413 rfl (lv_at hl 2 rfl) ?_
  refine lv_aload_n hx hb dL_law_414 rfl (lv_at hl 0 rfl) ?_
  refine lv_iload_n hx hb dL_law_415 rfl (lv_at hl 3 rfl) ?_
  refine lv_iconst (v := 1) hx hb dL_law_416 (by decide) ?_
  refine r_addN hx hb ix 1 dL_law_417 ?_
  refine r_sld hx hb hXs hbl hbA hw (ix + 1) (by omega) hL3 dL_law_418 ?_
  have hw := hw.m13
  have hw := hw.m13
  refine c_vi (As := [.int (xs (ix + 1))]) (rest := [.int r_410]) ⟨hx, hb, hml, hown, hts⟩ (k_X8_drift l D c4 A ((iG ad fp) :: (wG ((ad 3) 0) ((ad 4) 0) bt nt2_410 sd2_410) :: (yG c4 (ad 4) (nI n) os2_410 kd2_410 ic2_410 br2_410) :: (xG c4 (ad 1) (nI ln) xyc xfn xfp xpl xcs lt xnb xyk xyi) :: (bG c4 (ad 2) told) :: (rG c4 (ad 7) (nI bc) (nI ec) by0 bn bd bi ey ei) :: (tG c4 (ad 8) bh mi fb ba) :: (yG c4 (ad 9) n0 os0 kd0 ic0 br0) :: ((sG c4 (ad 10) ((ad 11) 0) zlc zlS zdp zmi zfo zax zco zth zpe zcd zdc zwc lv) ++ ((tG c4 (ad 11) tbh tmi tfb tba) ++ ((yG c4 (la 0) (gn 0) (go 0) (gk 0) (gi 0) (gb 0)) ++ ((yG c4 (la 1) (gn 1) (go 1) (gk 1) (gi 1) (gb 1)) ++ ((yG c4 (la 2) (gn 2) (go 2) (gk 2) (gi 2) (gb 2)) ++ ((yG c4 (la 3) (gn 3) (go 3) (gk 3) (gi 3) (gb 3)) ++ ((yG c4 (la 4) (gn 4) (go 4) (gk 4) (gi 4) (gb 4)) ++ ((yG c4 (la 5) (gn 5) (go 5) (gk 5) (gi 5) (gb 5)) ++ ((yG c4 (la 6) (gn 6) (go 6) (gk 6) (gi 6) (gb 6)) ++ ((yG c4 (la 7) (gn 7) (go 7) (gk 7) (gi 7) (gb 7)) ++ (yG c4 (la 8) (gn 8) (go 8) (gk 8) (gi 8) (gb 8)))))))))))) :: (gG c4 ((ad 5) 0) ig) :: (zG c4 ((ad 6) 0) 2 kp) :: ((wG ((ad 12) 0) ((ad 14) 0) ib0 it0 is0) ++ ((yG c4 (ad 14) in0 io0 ik0 ii0 ir0) ++ ((wG ((ad 13) 0) ((ad 15) 0) ib1 it1 is1) ++ (yG c4 (ad 15) in1 io1 ik1 ii1 ir1)))) :: (aG c4 (a 2) 18 told) :: (zG c4 (a 3) 2 mkp) :: (aG c4 (a 4) 230 lt) :: (aG c4 (a 5) 12 rk) :: (aG c4 (a 6) 12 ri) :: (aG c4 (a 7) 12 mba) :: (aG c4 (a 8) 51 mhd) :: (aG c4 (a 9) 10 by0) :: (aG c4 (a 10) 10 bn) :: (aG c4 (a 11) 10 bd) :: (aG c4 (a 12) 10 bi) :: (aG c4 (a 13) 15 ey) :: (aG c4 (a 14) 15 ei) :: Ts) a n (nI ln) mpl mst mva mfy fp mry mse mbh mmi mfb (nI bc) (nI ec) w q (xs (ix + 1)) hn hmY hsd) (cwV 1 hts gL_law_X8_drift rfl rfl rfl (by decide +kernel) (rmv (Nat.le_of_ble_eq_true rfl) (Nat.le_of_ble_eq_true rfl) hRf hRl)) hK trivial hw rfl rfl rfl hl rfl (Nat.le_of_ble_eq_true rfl) ⟨Nat.le_refl _, Nat.le_refl _⟩ dL_law_419 (fun r_419 u_419 H locs hpq hw => ?_)
  obtain ⟨w2_419, rfl⟩ : ∃ z, z = u_419 := ⟨_, rfl⟩
  have hw : gW D A js.heap ((mG a (nI n) (nI ln) mpl mst mva mfy fp mry mse mbh mmi mfb (nI bc) (nI ec)) :: (aG c4 (a 1) 204 w2_419) :: (iG ad fp) :: (wG ((ad 3) 0) ((ad 4) 0) bt nt2_410 sd2_410) :: (yG c4 (ad 4) (nI n) os2_410 kd2_410 ic2_410 br2_410) :: (xG c4 (ad 1) (nI ln) xyc xfn xfp xpl xcs lt xnb xyk xyi) :: (bG c4 (ad 2) told) :: (rG c4 (ad 7) (nI bc) (nI ec) by0 bn bd bi ey ei) :: (tG c4 (ad 8) bh mi fb ba) :: (yG c4 (ad 9) n0 os0 kd0 ic0 br0) :: ((sG c4 (ad 10) ((ad 11) 0) zlc zlS zdp zmi zfo zax zco zth zpe zcd zdc zwc lv) ++ ((tG c4 (ad 11) tbh tmi tfb tba) ++ ((yG c4 (la 0) (gn 0) (go 0) (gk 0) (gi 0) (gb 0)) ++ ((yG c4 (la 1) (gn 1) (go 1) (gk 1) (gi 1) (gb 1)) ++ ((yG c4 (la 2) (gn 2) (go 2) (gk 2) (gi 2) (gb 2)) ++ ((yG c4 (la 3) (gn 3) (go 3) (gk 3) (gi 3) (gb 3)) ++ ((yG c4 (la 4) (gn 4) (go 4) (gk 4) (gi 4) (gb 4)) ++ ((yG c4 (la 5) (gn 5) (go 5) (gk 5) (gi 5) (gb 5)) ++ ((yG c4 (la 6) (gn 6) (go 6) (gk 6) (gi 6) (gb 6)) ++ ((yG c4 (la 7) (gn 7) (go 7) (gk 7) (gi 7) (gb 7)) ++ (yG c4 (la 8) (gn 8) (go 8) (gk 8) (gi 8) (gb 8)))))))))))) :: (gG c4 ((ad 5) 0) ig) :: (zG c4 ((ad 6) 0) 2 kp) :: ((wG ((ad 12) 0) ((ad 14) 0) ib0 it0 is0) ++ ((yG c4 (ad 14) in0 io0 ik0 ii0 ir0) ++ ((wG ((ad 13) 0) ((ad 15) 0) ib1 it1 is1) ++ (yG c4 (ad 15) in1 io1 ik1 ii1 ir1)))) :: (aG c4 (a 2) 18 told) :: (zG c4 (a 3) 2 mkp) :: (aG c4 (a 4) 230 lt) :: (aG c4 (a 5) 12 rk) :: (aG c4 (a 6) 12 ri) :: (aG c4 (a 7) 12 mba) :: (aG c4 (a 8) 51 mhd) :: (aG c4 (a 9) 10 by0) :: (aG c4 (a 10) 10 bn) :: (aG c4 (a 11) 10 bd) :: (aG c4 (a 12) 10 bi) :: (aG c4 (a 13) 15 ey) :: (aG c4 (a 14) 15 ei) :: Ts) H locs := hw
  have hF_419 := hpq
  have hF_419 : ∃ q2, driftF (xs (ix + 1)) (w 49) (w 50) q n = (r_419, w2_419 49, w2_419 50, q2) ∧ mY q2 n w2_419 0 ∧ (∀ j, (j = 48 ∨ 51 ≤ j) → w2_419 j = w j) := hF_419
  obtain ⟨q2, hF1, hY1⟩ := hF_410
  obtain ⟨q3, hF2, hM2, hO2⟩ := hF_419
  rw [h49, h50, hF1] at hF2
  have er : (r_410 : Int32) = r_419 := (congrArg (fun z => z.1) hF2)
  refine lv_icmp_eq (tgt := 961) hx hb dL_law_422 (by decide) (fun _ => ?_) (fun c_e => absurd er c_e)
  have hl : lv_has ls 4 [(0, .ref b), (1, .ref ((ad 0) 0)), (2, .ref (a 0)), (3, .int (nI ix))] := lv_sub hl [0, 1, 2, 3] rfl
  have hw := hw.m13
  have hw := hw.m13
  have hw := hw.m13
  have hw := hw.m13
  have hw := hw.m13
  have hw := hw.m13
  have hw := hw.m13
  have hw := hw.m11
  have hw := hw.m13
  have hw := hw.m12
  have hw := hw.m13
  have hw := hw.m13
  exact next _ _ _ (LI.of fp ln xyc xfn xfp xpl xcs lt xnb xyk xyi bt nt2_410 sd2_410 n os2_410 kd2_410 ic2_410 br2_410 bc ec by0 bn bd bi ey ei bh mi fb ba n0 os0 kd0 ic0 br0 zlc zlS zdp zmi zfo zax zco zth zpe zcd zdc zwc tbh tmi tfb tba gn go gk gi gb kp in0 io0 ib0 it0 is0 ik0 ii0 ir0 in1 io1 ib1 it1 is1 ik1 ii1 ir1 mpl mst mva mfy mry mse mbh mmi mfb w2_419 told mkp rk ri mba mhd q2 q0 q1 ⟨hw, (hR1.dr hY1 hM2 (congrArg (fun z => z.2.2.2) hF2).symm (hO2 48 (by omega)) (congrArg (fun z => z.2.1) hF2).symm (congrArg (fun z => z.2.2.1) hF2).symm (df_sd hsd0 hF1)), htl, hR2, hR3, (hRI0.at (by decide) (fun j hj => hO2 j (by omega))), (hRI1.at (by decide) (fun j hj => hO2 j (by omega)))⟩) hl
