set_option maxHeartbeats 4000000 in
set_option maxRecDepth 100000 in
theorem lc_1 {jp : Program} {l : Launch} {je : Env} {js : State} {jm : MethodId} {below : List Frame} {meth : Method} {jc : Code} {D : va_G} {c4 : Nat → ClassId} {A : Nat → Prop} {t : Nat → Nat} {b L : Nat} {xs : Nat → Int32} {ad la : Nat → Nat → Nat} {a : Nat → Nat} {lv ig : Nat → Option Nat} {Ts : List va_W} {Q : State → Prop} {H : Heap} {locs : List Loc} {ls : Array Slot} {ix : Nat} (C0 : LC jp js jm meth jc D c4 A t b L xs) (hlv : ∀ k, k < 9 → lv k = some (la k 0)) (him0 : ig 0 = some (ad 12 0)) (him1 : ig 1 = some (ad 13 0)) (hix : ix + 6 ≤ L) {fp : Int32} {ln : Nat} {xyc : Int32} {xfn : Int32} {xfp : Int32} {xpl : Int32} {xcs : Int32} {lt : Nat → Int32} {xnb : Nat → Int32} {xyk : Nat → Int32} {xyi : Nat → Int32} {bt : Int32} {nt : Int32} {sd : Int32} {n : Nat} {os : Int32} {kd : Nat → Int32} {ic : Nat → Int32} {br : Nat → Int32} {bc : Nat} {ec : Nat} {by0 : Nat → Int32} {bn : Nat → Int32} {bd : Nat → Int32} {bi : Nat → Int32} {ey : Nat → Int32} {ei : Nat → Int32} {bh : Int32} {mi : Int32} {fb : Int32} {ba : Nat → Int32} {n0 : Int32} {os0 : Int32} {kd0 : Nat → Int32} {ic0 : Nat → Int32} {br0 : Nat → Int32} {zlc : Int32} {zlS : Int32} {zdp : Int32} {zmi : Int32} {zfo : Int32} {zax : Int32} {zco : Int32} {zth : Int32} {zpe : Int32} {zcd : Int32} {zdc : Int32} {zwc : Int32} {tbh : Int32} {tmi : Int32} {tfb : Int32} {tba : Nat → Int32} {gn : Nat → Int32} {go : Nat → Int32} {gk : Nat → Nat → Int32} {gi : Nat → Nat → Int32} {gb : Nat → Nat → Int32} {kp : Nat → Int32} {in0 : Int32} {io0 : Int32} {ib0 : Int32} {it0 : Int32} {is0 : Int32} {ik0 : Nat → Int32} {ii0 : Nat → Int32} {ir0 : Nat → Int32} {in1 : Int32} {io1 : Int32} {ib1 : Int32} {it1 : Int32} {is1 : Int32} {ik1 : Nat → Int32} {ii1 : Nat → Int32} {ir1 : Nat → Int32} {mpl : Int32} {mst : Int32} {mva : Int32} {mfy : Int32} {mry : Int32} {mse : Int32} {mbh : Int32} {mmi : Int32} {mfb : Int32} {w : Nat → Int32} {told : Nat → Int32} {mkp : Nat → Int32} {rk : Nat → Int32} {ri : Nat → Int32} {mba : Nat → Int32} {mhd : Nat → Int32} {q : Nat → Yq} {q0 : Nat → Yq} {q1 : Nat → Yq} (hI : LIb D c4 A js.heap ad la a lv ig Ts fp ln xyc xfn xfp xpl xcs lt xnb xyk xyi bt nt sd n os kd ic br bc ec by0 bn bd bi ey ei bh mi fb ba n0 os0 kd0 ic0 br0 zlc zlS zdp zmi zfo zax zco zth zpe zcd zdc zwc tbh tmi tfb tba gn go gk gi gb kp in0 io0 ib0 it0 is0 ik0 ii0 ir0 in1 io1 ib1 it1 is1 ik1 ii1 ir1 mpl mst mva mfy mry mse mbh mmi mfb w told mkp rk ri mba mhd q q0 q1 H locs) (hl : lv_has ls 4 [(0, .ref b), (1, .ref ((ad 0) 0)), (2, .ref (a 0)), (3, .int (nI ix))]) (next : ∀ (H : Heap) (locs : List Loc) (ls : Array Slot), LI D c4 A js.heap ad la a lv ig Ts H locs → lv_has ls 4 [(0, .ref b), (1, .ref ((ad 0) 0)), (2, .ref (a 0)), (3, .int (nI ix))] → W jp l je room_1 js jm #[Value.ref b] below meth jc H locs 600000 7302250 Q (F0 jm 961 ls [])) : W jp l je room_1 js jm #[Value.ref b] below meth jc H locs 600000 7302250 Q (F0 jm 187 ls []) := by
  obtain ⟨hx, hb, hr, hml, hown, hts, hXs, hbl, hlocks, hK, hX, hbA, hL3⟩ := C0
  have hRf : room_1.frames = 2048 := rfl
  have hRl : room_1.locals = 84000 := rfl
  have hRc : room_1.cells = 600000 := rfl
  have hRs : room_1.slots = 7302250 := rfl
  obtain ⟨hw, hR1, htl, hR2, hR3, hRI0, hRI1⟩ := hI
  have hR1c := hR1
  obtain ⟨hn, hyR, hmY, h48, h49, h50, hbt0, hsd0⟩ := hR1c
  have hbt : rng (w 48) 1 9 := by rw [h48]; exact hbt0
  have hsd : sdOk (w 50) := by rw [h50]; exact hsd0
  have hln := hR2.1
  have hlt := hR2.2
  have hbc := hR3.1
  have hec := hR3.2.1
  have hbo := hR3.2.2.1
  have hen := hR3.2.2.2
  refine lv_aload_n hx hb dL_law_187 rfl (lv_at hl 1 rfl) ?_
  have hw := hw.m10
  have hw := hw.m6
  have hw := hw.m6
  have hw := hw.m6
  have hw := hw.m6
  have hw := hw.m6
  have hw := hw.m6
  refine c_vi (As := []) (rest := []) ⟨hx, hb, hml, hown, hts⟩ (k_X7_cut l D c4 A ((tG c4 (ad 8) bh mi fb ba) :: (yG c4 (ad 9) n0 os0 kd0 ic0 br0) :: ((sG c4 (ad 10) ((ad 11) 0) zlc zlS zdp zmi zfo zax zco zth zpe zcd zdc zwc lv) ++ ((tG c4 (ad 11) tbh tmi tfb tba) ++ ((yG c4 (la 0) (gn 0) (go 0) (gk 0) (gi 0) (gb 0)) ++ ((yG c4 (la 1) (gn 1) (go 1) (gk 1) (gi 1) (gb 1)) ++ ((yG c4 (la 2) (gn 2) (go 2) (gk 2) (gi 2) (gb 2)) ++ ((yG c4 (la 3) (gn 3) (go 3) (gk 3) (gi 3) (gb 3)) ++ ((yG c4 (la 4) (gn 4) (go 4) (gk 4) (gi 4) (gb 4)) ++ ((yG c4 (la 5) (gn 5) (go 5) (gk 5) (gi 5) (gb 5)) ++ ((yG c4 (la 6) (gn 6) (go 6) (gk 6) (gi 6) (gb 6)) ++ ((yG c4 (la 7) (gn 7) (go 7) (gk 7) (gi 7) (gb 7)) ++ (yG c4 (la 8) (gn 8) (go 8) (gk 8) (gi 8) (gb 8)))))))))))) :: (gG c4 ((ad 5) 0) ig) :: ((wG ((ad 12) 0) ((ad 14) 0) ib0 it0 is0) ++ ((yG c4 (ad 14) in0 io0 ik0 ii0 ir0) ++ ((wG ((ad 13) 0) ((ad 15) 0) ib1 it1 is1) ++ (yG c4 (ad 15) in1 io1 ik1 ii1 ir1)))) :: (mG a (nI n) (nI ln) mpl mst mva mfy fp mry mse mbh mmi mfb (nI bc) (nI ec)) :: (aG c4 (a 1) 204 w) :: (aG c4 (a 2) 18 told) :: (zG c4 (a 3) 2 mkp) :: (aG c4 (a 4) 230 lt) :: (aG c4 (a 5) 12 rk) :: (aG c4 (a 6) 12 ri) :: (aG c4 (a 7) 12 mba) :: (aG c4 (a 8) 51 mhd) :: (aG c4 (a 9) 10 by0) :: (aG c4 (a 10) 10 bn) :: (aG c4 (a 11) 10 bd) :: (aG c4 (a 12) 10 bi) :: (aG c4 (a 13) 15 ey) :: (aG c4 (a 14) 15 ei) :: Ts) t ad fp ln xyc xfn xfp xpl xcs lt xnb xyk xyi bt nt sd told (nI n) os kd ic br bc ec by0 bn bd bi ey ei kp hln) (cwV 0 hts gL_law_X7_cut rfl rfl rfl (by decide +kernel) (rmv (Nat.le_of_ble_eq_true rfl) (Nat.le_of_ble_eq_true rfl) hRf hRl)) hK (by exact hX) hw rfl rfl rfl hl rfl (Nat.le_of_ble_eq_true rfl) ⟨Nat.le_refl _, Nat.le_refl _⟩ dL_law_188 (fun r_188 u_188 H locs hpq hw => ?_)
  obtain ⟨fp2_188, xyc2_188, xfn2_188, xfp2_188, xpl2_188, xcs2_188, xnb2_188, xyk2_188, xyi2_188, nb2_188, bt2_188, nt2_188, n2_188, os2_188, kd2_188, ic2_188, br2_188, bc2_188, ec2_188, kp2_188⟩ := u_188
  have hw : gW D A js.heap ((iG ad fp2_188) :: (xG c4 (ad 1) 0 xyc2_188 xfn2_188 xfp2_188 xpl2_188 xcs2_188 lt xnb2_188 xyk2_188 xyi2_188) :: (wG ((ad 3) 0) ((ad 4) 0) bt2_188 nt2_188 sd) :: (bG c4 (ad 2) nb2_188) :: (yG c4 (ad 4) n2_188 os2_188 kd2_188 ic2_188 br2_188) :: (rG c4 (ad 7) bc2_188 ec2_188 by0 bn bd bi ey ei) :: (zG c4 ((ad 6) 0) 2 kp2_188) :: (tG c4 (ad 8) bh mi fb ba) :: (yG c4 (ad 9) n0 os0 kd0 ic0 br0) :: ((sG c4 (ad 10) ((ad 11) 0) zlc zlS zdp zmi zfo zax zco zth zpe zcd zdc zwc lv) ++ ((tG c4 (ad 11) tbh tmi tfb tba) ++ ((yG c4 (la 0) (gn 0) (go 0) (gk 0) (gi 0) (gb 0)) ++ ((yG c4 (la 1) (gn 1) (go 1) (gk 1) (gi 1) (gb 1)) ++ ((yG c4 (la 2) (gn 2) (go 2) (gk 2) (gi 2) (gb 2)) ++ ((yG c4 (la 3) (gn 3) (go 3) (gk 3) (gi 3) (gb 3)) ++ ((yG c4 (la 4) (gn 4) (go 4) (gk 4) (gi 4) (gb 4)) ++ ((yG c4 (la 5) (gn 5) (go 5) (gk 5) (gi 5) (gb 5)) ++ ((yG c4 (la 6) (gn 6) (go 6) (gk 6) (gi 6) (gb 6)) ++ ((yG c4 (la 7) (gn 7) (go 7) (gk 7) (gi 7) (gb 7)) ++ (yG c4 (la 8) (gn 8) (go 8) (gk 8) (gi 8) (gb 8)))))))))))) :: (gG c4 ((ad 5) 0) ig) :: ((wG ((ad 12) 0) ((ad 14) 0) ib0 it0 is0) ++ ((yG c4 (ad 14) in0 io0 ik0 ii0 ir0) ++ ((wG ((ad 13) 0) ((ad 15) 0) ib1 it1 is1) ++ (yG c4 (ad 15) in1 io1 ik1 ii1 ir1)))) :: (mG a (nI n) (nI ln) mpl mst mva mfy fp mry mse mbh mmi mfb (nI bc) (nI ec)) :: (aG c4 (a 1) 204 w) :: (aG c4 (a 2) 18 told) :: (zG c4 (a 3) 2 mkp) :: (aG c4 (a 4) 230 lt) :: (aG c4 (a 5) 12 rk) :: (aG c4 (a 6) 12 ri) :: (aG c4 (a 7) 12 mba) :: (aG c4 (a 8) 51 mhd) :: (aG c4 (a 9) 10 by0) :: (aG c4 (a 10) 10 bn) :: (aG c4 (a 11) 10 bd) :: (aG c4 (a 12) 10 bi) :: (aG c4 (a 13) 15 ey) :: (aG c4 (a 14) 15 ei) :: Ts) H locs := hw
  have hC_188 := hpq
  have hC_188 : cutP lt ln (nI n) os bt nt bc ec kd ic br told kp r_188 fp2_188 n2_188 os2_188 bt2_188 nt2_188 bc2_188 ec2_188 kd2_188 ic2_188 br2_188 nb2_188 kp2_188 := hC_188
  refine lv_aload_n hx hb dL_law_191 rfl (lv_at hl 2 rfl) ?_
  have hw := hw.m15
  have hw := hw.m14
  have hw := hw.m18
  have hw := hw.m18
  have hw := hw.m17
  have hw := hw.m18
  have hw := hw.m18
  refine c_vi (As := []) (rest := [.int r_188]) ⟨hx, hb, hml, hown, hts⟩ (k_X8_cut l D c4 A ((iG ad fp2_188) :: (xG c4 (ad 1) 0 xyc2_188 xfn2_188 xfp2_188 xpl2_188 xcs2_188 lt xnb2_188 xyk2_188 xyi2_188) :: (wG ((ad 3) 0) ((ad 4) 0) bt2_188 nt2_188 sd) :: (bG c4 (ad 2) nb2_188) :: (yG c4 (ad 4) n2_188 os2_188 kd2_188 ic2_188 br2_188) :: (rG c4 (ad 7) bc2_188 ec2_188 by0 bn bd bi ey ei) :: (zG c4 ((ad 6) 0) 2 kp2_188) :: (tG c4 (ad 8) bh mi fb ba) :: (yG c4 (ad 9) n0 os0 kd0 ic0 br0) :: ((sG c4 (ad 10) ((ad 11) 0) zlc zlS zdp zmi zfo zax zco zth zpe zcd zdc zwc lv) ++ ((tG c4 (ad 11) tbh tmi tfb tba) ++ ((yG c4 (la 0) (gn 0) (go 0) (gk 0) (gi 0) (gb 0)) ++ ((yG c4 (la 1) (gn 1) (go 1) (gk 1) (gi 1) (gb 1)) ++ ((yG c4 (la 2) (gn 2) (go 2) (gk 2) (gi 2) (gb 2)) ++ ((yG c4 (la 3) (gn 3) (go 3) (gk 3) (gi 3) (gb 3)) ++ ((yG c4 (la 4) (gn 4) (go 4) (gk 4) (gi 4) (gb 4)) ++ ((yG c4 (la 5) (gn 5) (go 5) (gk 5) (gi 5) (gb 5)) ++ ((yG c4 (la 6) (gn 6) (go 6) (gk 6) (gi 6) (gb 6)) ++ ((yG c4 (la 7) (gn 7) (go 7) (gk 7) (gi 7) (gb 7)) ++ (yG c4 (la 8) (gn 8) (go 8) (gk 8) (gi 8) (gb 8)))))))))))) :: (gG c4 ((ad 5) 0) ig) :: ((wG ((ad 12) 0) ((ad 14) 0) ib0 it0 is0) ++ ((yG c4 (ad 14) in0 io0 ik0 ii0 ir0) ++ ((wG ((ad 13) 0) ((ad 15) 0) ib1 it1 is1) ++ (yG c4 (ad 15) in1 io1 ik1 ii1 ir1)))) :: (aG c4 (a 7) 12 mba) :: (aG c4 (a 8) 51 mhd) :: (aG c4 (a 9) 10 by0) :: (aG c4 (a 10) 10 bn) :: (aG c4 (a 11) 10 bd) :: (aG c4 (a 12) 10 bi) :: (aG c4 (a 13) 15 ey) :: (aG c4 (a 14) 15 ei) :: Ts) a (nI n) ln mpl mst mva mfy fp mry mse mbh mmi mfb (nI bc) (nI ec) lt told rk ri w mkp hln hlt) (cwV 0 hts gL_law_X8_cut rfl rfl rfl (by decide +kernel) (rmv (Nat.le_of_ble_eq_true rfl) (Nat.le_of_ble_eq_true rfl) hRf hRl)) hK trivial hw rfl rfl rfl hl rfl (Nat.le_of_ble_eq_true rfl) ⟨Nat.le_refl _, Nat.le_refl _⟩ dL_law_192 (fun r_192 u_192 H locs hpq hw => ?_)
  obtain ⟨yn2_192, pl2_192, st2_192, va2_192, fy2_192, fa2_192, ry2_192, se2_192, bo2_192, bk2_192, t2_192, rk2_192, ri2_192, w2_192, kp2_192⟩ := u_192
  have hw : gW D A js.heap ((mG a yn2_192 0 pl2_192 st2_192 va2_192 fy2_192 fa2_192 ry2_192 se2_192 mbh mmi mfb bo2_192 bk2_192) :: (aG c4 (a 4) 230 lt) :: (aG c4 (a 2) 18 t2_192) :: (aG c4 (a 5) 12 rk2_192) :: (aG c4 (a 6) 12 ri2_192) :: (aG c4 (a 1) 204 w2_192) :: (zG c4 (a 3) 2 kp2_192) :: (iG ad fp2_188) :: (xG c4 (ad 1) 0 xyc2_188 xfn2_188 xfp2_188 xpl2_188 xcs2_188 lt xnb2_188 xyk2_188 xyi2_188) :: (wG ((ad 3) 0) ((ad 4) 0) bt2_188 nt2_188 sd) :: (bG c4 (ad 2) nb2_188) :: (yG c4 (ad 4) n2_188 os2_188 kd2_188 ic2_188 br2_188) :: (rG c4 (ad 7) bc2_188 ec2_188 by0 bn bd bi ey ei) :: (zG c4 ((ad 6) 0) 2 kp2_188) :: (tG c4 (ad 8) bh mi fb ba) :: (yG c4 (ad 9) n0 os0 kd0 ic0 br0) :: ((sG c4 (ad 10) ((ad 11) 0) zlc zlS zdp zmi zfo zax zco zth zpe zcd zdc zwc lv) ++ ((tG c4 (ad 11) tbh tmi tfb tba) ++ ((yG c4 (la 0) (gn 0) (go 0) (gk 0) (gi 0) (gb 0)) ++ ((yG c4 (la 1) (gn 1) (go 1) (gk 1) (gi 1) (gb 1)) ++ ((yG c4 (la 2) (gn 2) (go 2) (gk 2) (gi 2) (gb 2)) ++ ((yG c4 (la 3) (gn 3) (go 3) (gk 3) (gi 3) (gb 3)) ++ ((yG c4 (la 4) (gn 4) (go 4) (gk 4) (gi 4) (gb 4)) ++ ((yG c4 (la 5) (gn 5) (go 5) (gk 5) (gi 5) (gb 5)) ++ ((yG c4 (la 6) (gn 6) (go 6) (gk 6) (gi 6) (gb 6)) ++ ((yG c4 (la 7) (gn 7) (go 7) (gk 7) (gi 7) (gb 7)) ++ (yG c4 (la 8) (gn 8) (go 8) (gk 8) (gi 8) (gb 8)))))))))))) :: (gG c4 ((ad 5) 0) ig) :: ((wG ((ad 12) 0) ((ad 14) 0) ib0 it0 is0) ++ ((yG c4 (ad 14) in0 io0 ik0 ii0 ir0) ++ ((wG ((ad 13) 0) ((ad 15) 0) ib1 it1 is1) ++ (yG c4 (ad 15) in1 io1 ik1 ii1 ir1)))) :: (aG c4 (a 7) 12 mba) :: (aG c4 (a 8) 51 mhd) :: (aG c4 (a 9) 10 by0) :: (aG c4 (a 10) 10 bn) :: (aG c4 (a 11) 10 bd) :: (aG c4 (a 12) 10 bi) :: (aG c4 (a 13) 15 ey) :: (aG c4 (a 14) 15 ei) :: Ts) H locs := hw
  have hC_192 := hpq
  have hC_192 : mcuP lt ln w told mkp w2_192 t2_192 kp2_192 (nI n) (nI bc) (nI ec) r_192 yn2_192 bo2_192 bk2_192 fa2_192 := hC_192
  have er : (r_188 : Int32) = r_192 := (cu_er hC_188 hC_192)
  refine lv_icmp_eq (tgt := 961) hx hb dL_law_195 (by decide) (fun _ => ?_) (fun c_e => absurd er c_e)
  have hl : lv_has ls 4 [(0, .ref b), (1, .ref ((ad 0) 0)), (2, .ref (a 0)), (3, .int (nI ix))] := lv_sub hl [0, 1, 2, 3] rfl
  rcases hC_188 with ⟨ys, np, hp, -, hfp, hn2, hy2, hnb2, hbt2, hnt2, hbc2, hec2, hk0, hk1⟩ | ⟨z, k, hp, -, hfp, hn2, hos, hkd, hic, hbr, hnb2, hbt2, hnt2, hbc2, hec2, hkp2⟩
  · rcases hC_192 with ⟨ys2, np2, hp2, -, hfa, hyn, hmY2, hnbt, e48, e49, e50, hbo2, hbk2, hk0b, hk1b⟩ | ⟨_, _, hp2, _⟩
    · obtain ⟨e1, e2⟩ := Prod.mk.inj (Sum.inl.inj (hp.symm.trans hp2))
      subst e1
      subst e2
      have hpo := parse_ok hp
      rw [hfp, hn2, hbt2, hnt2, hbc2, hec2, hfa, hyn, hbo2, hbk2] at hw
      have hw := hw.m10
      have hw := hw.nb (g := t2_192) (fun j hj => (hnb2 j hj).trans (hnbt j hj).symm)
      have hw := hw.m7
      have hw := hw.m4
      have hw := hw.m7
      have hw := hw.m4
      have hw := hw.m18
      have hw := hw.m14
      have hw := hw.m18
      have hw := hw.m18
      have hw := hw.m18
      have hw := hw.m18
      have hw := hw.m18
      have hw := hw.m18
      have hw := hw.m12
      have hw := hw.m18
      have hw := hw.m18
      have hw := hw.m18
      exact next _ _ _ (LI.of (-1) 0 xyc2_188 xfn2_188 xfp2_188 xpl2_188 xcs2_188 lt xnb2_188 xyk2_188 xyi2_188 4 0 sd ys.length os2_188 kd2_188 ic2_188 br2_188 0 0 by0 bn bd bi ey ei bh mi fb ba n0 os0 kd0 ic0 br0 zlc zlS zdp zmi zfo zax zco zth zpe zcd zdc zwc tbh tmi tfb tba gn go gk gi gb kp2_188 in0 io0 ib0 it0 is0 ik0 ii0 ir0 in1 io1 ib1 it1 is1 ik1 ii1 ir1 pl2_192 st2_192 va2_192 fy2_192 ry2_192 se2_192 mbh mmi mfb w2_192 t2_192 kp2_192 rk2_192 ri2_192 mba mhd (lsQ ys) q0 q1 ⟨hw, ⟨hpo.2.1, hy2, hmY2, e48, e49, e50.trans h50, (by unfold rng; decide), hsd0⟩, (tl_of hpo.2.2 hnbt), (rl2_0 lt), (RL3.z (bc := 0) (ec := 0)), ⟨hk0.trans hk0b.symm, fun c => absurd hk0 c⟩, ⟨hk1.trans hk1b.symm, fun c => absurd hk1 c⟩⟩) hl
    · cases hp.symm.trans hp2
  · rcases hC_192 with ⟨_, _, hp2, _⟩ | ⟨z2, k2, hp2, -, hfa, hyn, hw2, hlo, hbo2, hbk2, hmk⟩
    · cases hp.symm.trans hp2
    · obtain ⟨e1, e2⟩ := Prod.mk.inj (Sum.inr.inj (hp.symm.trans hp2))
      subst e1
      subst e2
      rw [hfp, hn2, hos, hkd, hic, hbr, hnb2, hbt2, hnt2, hbc2, hec2, hkp2, hfa, hyn, hw2, hbo2, hbk2, hmk] at hw
      have hw := hw.m10
      have hw := hw.nb (g := t2_192) (fun j hj => (hlo j hj).symm)
      have hw := hw.m7
      have hw := hw.m4
      have hw := hw.m7
      have hw := hw.m4
      have hw := hw.m18
      have hw := hw.m14
      have hw := hw.m18
      have hw := hw.m18
      have hw := hw.m18
      have hw := hw.m18
      have hw := hw.m18
      have hw := hw.m18
      have hw := hw.m12
      have hw := hw.m18
      have hw := hw.m18
      have hw := hw.m18
      exact next _ _ _ (LI.of (nI z) 0 xyc2_188 xfn2_188 xfp2_188 xpl2_188 xcs2_188 lt xnb2_188 xyk2_188 xyi2_188 bt nt sd n os kd ic br bc ec by0 bn bd bi ey ei bh mi fb ba n0 os0 kd0 ic0 br0 zlc zlS zdp zmi zfo zax zco zth zpe zcd zdc zwc tbh tmi tfb tba gn go gk gi gb kp in0 io0 ib0 it0 is0 ik0 ii0 ir0 in1 io1 ib1 it1 is1 ik1 ii1 ir1 pl2_192 st2_192 va2_192 fy2_192 ry2_192 se2_192 mbh mmi mfb w t2_192 mkp rk2_192 ri2_192 mba mhd q q0 q1 ⟨hw, hR1, (htl.cong hlo), (rl2_0 lt), hR3, hRI0, hRI1⟩) hl
