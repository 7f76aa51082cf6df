set_option maxHeartbeats 4000000 in
set_option maxRecDepth 100000 in
theorem lc_0 {jp : Program} {l : Launch} {je : Env} {js : State} {jm : MethodId} {below : List Frame} {meth : Method} {jc : Code} {D : va_G} {c4 : Nat → ClassId} {A : Nat → Prop} {t : Nat → Nat} {b L : Nat} {xs : Nat → Int32} {ad la : Nat → Nat → Nat} {a : Nat → Nat} {lv ig : Nat → Option Nat} {Ts : List va_W} {Q : State → Prop} {H : Heap} {locs : List Loc} {ls : Array Slot} {ix : Nat} (C0 : LC jp js jm meth jc D c4 A t b L xs) (hlv : ∀ k, k < 9 → lv k = some (la k 0)) (him0 : ig 0 = some (ad 12 0)) (him1 : ig 1 = some (ad 13 0)) (hix : ix + 6 ≤ L) {fp : Int32} {ln : Nat} {xyc : Int32} {xfn : Int32} {xfp : Int32} {xpl : Int32} {xcs : Int32} {lt : Nat → Int32} {xnb : Nat → Int32} {xyk : Nat → Int32} {xyi : Nat → Int32} {bt : Int32} {nt : Int32} {sd : Int32} {n : Nat} {os : Int32} {kd : Nat → Int32} {ic : Nat → Int32} {br : Nat → Int32} {bc : Nat} {ec : Nat} {by0 : Nat → Int32} {bn : Nat → Int32} {bd : Nat → Int32} {bi : Nat → Int32} {ey : Nat → Int32} {ei : Nat → Int32} {bh : Int32} {mi : Int32} {fb : Int32} {ba : Nat → Int32} {n0 : Int32} {os0 : Int32} {kd0 : Nat → Int32} {ic0 : Nat → Int32} {br0 : Nat → Int32} {zlc : Int32} {zlS : Int32} {zdp : Int32} {zmi : Int32} {zfo : Int32} {zax : Int32} {zco : Int32} {zth : Int32} {zpe : Int32} {zcd : Int32} {zdc : Int32} {zwc : Int32} {tbh : Int32} {tmi : Int32} {tfb : Int32} {tba : Nat → Int32} {gn : Nat → Int32} {go : Nat → Int32} {gk : Nat → Nat → Int32} {gi : Nat → Nat → Int32} {gb : Nat → Nat → Int32} {kp : Nat → Int32} {in0 : Int32} {io0 : Int32} {ib0 : Int32} {it0 : Int32} {is0 : Int32} {ik0 : Nat → Int32} {ii0 : Nat → Int32} {ir0 : Nat → Int32} {in1 : Int32} {io1 : Int32} {ib1 : Int32} {it1 : Int32} {is1 : Int32} {ik1 : Nat → Int32} {ii1 : Nat → Int32} {ir1 : Nat → Int32} {mpl : Int32} {mst : Int32} {mva : Int32} {mfy : Int32} {mry : Int32} {mse : Int32} {mbh : Int32} {mmi : Int32} {mfb : Int32} {w : Nat → Int32} {told : Nat → Int32} {mkp : Nat → Int32} {rk : Nat → Int32} {ri : Nat → Int32} {mba : Nat → Int32} {mhd : Nat → Int32} {q : Nat → Yq} {q0 : Nat → Yq} {q1 : Nat → Yq} (hI : LIb D c4 A js.heap ad la a lv ig Ts fp ln xyc xfn xfp xpl xcs lt xnb xyk xyi bt nt sd n os kd ic br bc ec by0 bn bd bi ey ei bh mi fb ba n0 os0 kd0 ic0 br0 zlc zlS zdp zmi zfo zax zco zth zpe zcd zdc zwc tbh tmi tfb tba gn go gk gi gb kp in0 io0 ib0 it0 is0 ik0 ii0 ir0 in1 io1 ib1 it1 is1 ik1 ii1 ir1 mpl mst mva mfy mry mse mbh mmi mfb w told mkp rk ri mba mhd q q0 q1 H locs) (hl : lv_has ls 4 [(0, .ref b), (1, .ref ((ad 0) 0)), (2, .ref (a 0)), (3, .int (nI ix))]) (next : ∀ (H : Heap) (locs : List Loc) (ls : Array Slot), LI D c4 A js.heap ad la a lv ig Ts H locs → lv_has ls 4 [(0, .ref b), (1, .ref ((ad 0) 0)), (2, .ref (a 0)), (3, .int (nI ix))] → W jp l je room_1 js jm #[Value.ref b] below meth jc H locs 600000 7302250 Q (F0 jm 961 ls [])) : W jp l je room_1 js jm #[Value.ref b] below meth jc H locs 600000 7302250 Q (F0 jm 164 ls []) := by
  obtain ⟨hx, hb, hr, hml, hown, hts, hXs, hbl, hlocks, hK, hX, hbA, hL3⟩ := C0
  have hRf : room_1.frames = 2048 := rfl
  have hRl : room_1.locals = 84000 := rfl
  have hRc : room_1.cells = 600000 := rfl
  have hRs : room_1.slots = 7302250 := rfl
  obtain ⟨hw, hR1, htl, hR2, hR3, hRI0, hRI1⟩ := hI
  have hR1c := hR1
  obtain ⟨hn, hyR, hmY, h48, h49, h50, hbt0, hsd0⟩ := hR1c
  have hbt : rng (w 48) 1 9 := by rw [h48]; exact hbt0
  have hsd : sdOk (w 50) := by rw [h50]; exact hsd0
  have hln := hR2.1
  have hlt := hR2.2
  have hbc := hR3.1
  have hec := hR3.2.1
  have hbo := hR3.2.2.1
  have hen := hR3.2.2.2
  refine lv_aload_n hx hb dL_law_164 rfl (lv_at hl 1 rfl) ?_
  refine lv_aload_n hx hb dL_law_165 rfl (lv_at hl 0 rfl) ?_
  refine lv_iload_n hx hb dL_law_166 rfl (lv_at hl 3 rfl) ?_
  refine lv_iconst (v := 1) hx hb dL_law_167 (by decide) ?_
  refine r_addN hx hb ix 1 dL_law_168 ?_
  refine r_sld hx hb hXs hbl hbA hw (ix + 1) (by omega) hL3 dL_law_169 ?_
  refine c_vi (As := [.int (xs (ix + 1))]) (rest := []) ⟨hx, hb, hml, hown, hts⟩ (k_X7_feed l D c4 A ((wG ((ad 3) 0) ((ad 4) 0) bt nt sd) :: (bG c4 (ad 2) told) :: (yG c4 (ad 4) (nI n) os kd ic br) :: (rG c4 (ad 7) (nI bc) (nI ec) by0 bn bd bi ey ei) :: (tG c4 (ad 8) bh mi fb ba) :: (yG c4 (ad 9) n0 os0 kd0 ic0 br0) :: ((sG c4 (ad 10) ((ad 11) 0) zlc zlS zdp zmi zfo zax zco zth zpe zcd zdc zwc lv) ++ ((tG c4 (ad 11) tbh tmi tfb tba) ++ ((yG c4 (la 0) (gn 0) (go 0) (gk 0) (gi 0) (gb 0)) ++ ((yG c4 (la 1) (gn 1) (go 1) (gk 1) (gi 1) (gb 1)) ++ ((yG c4 (la 2) (gn 2) (go 2) (gk 2) (gi 2) (gb 2)) ++ ((yG c4 (la 3) (gn 3) (go 3) (gk 3) (gi 3) (gb 3)) ++ ((yG c4 (la 4) (gn 4) (go 4) (gk 4) (gi 4) (gb 4)) ++ ((yG c4 (la 5) (gn 5) (go 5) (gk 5) (gi 5) (gb 5)) ++ ((yG c4 (la 6) (gn 6) (go 6) (gk 6) (gi 6) (gb 6)) ++ ((yG c4 (la 7) (gn 7) (go 7) (gk 7) (gi 7) (gb 7)) ++ (yG c4 (la 8) (gn 8) (go 8) (gk 8) (gi 8) (gb 8)))))))))))) :: (gG c4 ((ad 5) 0) ig) :: (zG c4 ((ad 6) 0) 2 kp) :: ((wG ((ad 12) 0) ((ad 14) 0) ib0 it0 is0) ++ ((yG c4 (ad 14) in0 io0 ik0 ii0 ir0) ++ ((wG ((ad 13) 0) ((ad 15) 0) ib1 it1 is1) ++ (yG c4 (ad 15) in1 io1 ik1 ii1 ir1)))) :: (mG a (nI n) (nI ln) mpl mst mva mfy fp mry mse mbh mmi mfb (nI bc) (nI ec)) :: (aG c4 (a 1) 204 w) :: (aG c4 (a 2) 18 told) :: (zG c4 (a 3) 2 mkp) :: (aG c4 (a 4) 230 lt) :: (aG c4 (a 5) 12 rk) :: (aG c4 (a 6) 12 ri) :: (aG c4 (a 7) 12 mba) :: (aG c4 (a 8) 51 mhd) :: (aG c4 (a 9) 10 by0) :: (aG c4 (a 10) 10 bn) :: (aG c4 (a 11) 10 bd) :: (aG c4 (a 12) 10 bi) :: (aG c4 (a 13) 15 ey) :: (aG c4 (a 14) 15 ei) :: Ts) ad fp ln xyc xfn xfp xpl xcs lt xnb xyk xyi (xs (ix + 1)) hln) (cwV 1 hts gL_law_X7_feed rfl rfl rfl (by decide +kernel) (rmv (Nat.le_of_ble_eq_true rfl) (Nat.le_of_ble_eq_true rfl) hRf hRl)) hK trivial hw rfl rfl rfl hl rfl (Nat.le_of_ble_eq_true rfl) ⟨Nat.le_refl _, Nat.le_refl _⟩ dL_law_170 (fun r_170 u_170 H locs hpq hw => ?_)
  obtain ⟨ln2_170, lt2_170⟩ := u_170
  have hw : gW D A js.heap ((iG ad fp) :: (xG c4 (ad 1) (nI ln2_170) xyc xfn xfp xpl xcs lt2_170 xnb xyk xyi) :: (wG ((ad 3) 0) ((ad 4) 0) bt nt sd) :: (bG c4 (ad 2) told) :: (yG c4 (ad 4) (nI n) os kd ic br) :: (rG c4 (ad 7) (nI bc) (nI ec) by0 bn bd bi ey ei) :: (tG c4 (ad 8) bh mi fb ba) :: (yG c4 (ad 9) n0 os0 kd0 ic0 br0) :: ((sG c4 (ad 10) ((ad 11) 0) zlc zlS zdp zmi zfo zax zco zth zpe zcd zdc zwc lv) ++ ((tG c4 (ad 11) tbh tmi tfb tba) ++ ((yG c4 (la 0) (gn 0) (go 0) (gk 0) (gi 0) (gb 0)) ++ ((yG c4 (la 1) (gn 1) (go 1) (gk 1) (gi 1) (gb 1)) ++ ((yG c4 (la 2) (gn 2) (go 2) (gk 2) (gi 2) (gb 2)) ++ ((yG c4 (la 3) (gn 3) (go 3) (gk 3) (gi 3) (gb 3)) ++ ((yG c4 (la 4) (gn 4) (go 4) (gk 4) (gi 4) (gb 4)) ++ ((yG c4 (la 5) (gn 5) (go 5) (gk 5) (gi 5) (gb 5)) ++ ((yG c4 (la 6) (gn 6) (go 6) (gk 6) (gi 6) (gb 6)) ++ ((yG c4 (la 7) (gn 7) (go 7) (gk 7) (gi 7) (gb 7)) ++ (yG c4 (la 8) (gn 8) (go 8) (gk 8) (gi 8) (gb 8)))))))))))) :: (gG c4 ((ad 5) 0) ig) :: (zG c4 ((ad 6) 0) 2 kp) :: ((wG ((ad 12) 0) ((ad 14) 0) ib0 it0 is0) ++ ((yG c4 (ad 14) in0 io0 ik0 ii0 ir0) ++ ((wG ((ad 13) 0) ((ad 15) 0) ib1 it1 is1) ++ (yG c4 (ad 15) in1 io1 ik1 ii1 ir1)))) :: (mG a (nI n) (nI ln) mpl mst mva mfy fp mry mse mbh mmi mfb (nI bc) (nI ec)) :: (aG c4 (a 1) 204 w) :: (aG c4 (a 2) 18 told) :: (zG c4 (a 3) 2 mkp) :: (aG c4 (a 4) 230 lt) :: (aG c4 (a 5) 12 rk) :: (aG c4 (a 6) 12 ri) :: (aG c4 (a 7) 12 mba) :: (aG c4 (a 8) 51 mhd) :: (aG c4 (a 9) 10 by0) :: (aG c4 (a 10) 10 bn) :: (aG c4 (a 11) 10 bd) :: (aG c4 (a 12) 10 bi) :: (aG c4 (a 13) 15 ey) :: (aG c4 (a 14) 15 ei) :: Ts) H locs := hw
  obtain ⟨hF_170, hL_170⟩ := hpq
  have hF_170 : (r_170, ln2_170) = fdF (xs (ix + 1)) ln := hF_170
  have hL_170 : lt2_170 = fdL (xs (ix + 1)) ln lt := hL_170
  refine lv_aload_n hx hb dL_law_173 rfl (lv_at hl 2 rfl) ?_
  refine lv_aload_n hx hb dL_law_174 rfl (lv_at hl 0 rfl) ?_
  refine lv_iload_n hx hb dL_law_175 rfl (lv_at hl 3 rfl) ?_
  refine lv_iconst (v := 1) hx hb dL_law_176 (by decide) ?_
  refine r_addN hx hb ix 1 dL_law_177 ?_
  refine r_sld hx hb hXs hbl hbA hw (ix + 1) (by omega) hL3 dL_law_178 ?_
  have hw := hw.m16
  have hw := hw.m13
  refine c_vi (As := [.int (xs (ix + 1))]) (rest := [.int r_170]) ⟨hx, hb, hml, hown, hts⟩ (k_X8_feed l D c4 A ((iG ad fp) :: (xG c4 (ad 1) (nI ln2_170) xyc xfn xfp xpl xcs lt2_170 xnb xyk xyi) :: (wG ((ad 3) 0) ((ad 4) 0) bt nt sd) :: (bG c4 (ad 2) told) :: (yG c4 (ad 4) (nI n) os kd ic br) :: (rG c4 (ad 7) (nI bc) (nI ec) by0 bn bd bi ey ei) :: (tG c4 (ad 8) bh mi fb ba) :: (yG c4 (ad 9) n0 os0 kd0 ic0 br0) :: ((sG c4 (ad 10) ((ad 11) 0) zlc zlS zdp zmi zfo zax zco zth zpe zcd zdc zwc lv) ++ ((tG c4 (ad 11) tbh tmi tfb tba) ++ ((yG c4 (la 0) (gn 0) (go 0) (gk 0) (gi 0) (gb 0)) ++ ((yG c4 (la 1) (gn 1) (go 1) (gk 1) (gi 1) (gb 1)) ++ ((yG c4 (la 2) (gn 2) (go 2) (gk 2) (gi 2) (gb 2)) ++ ((yG c4 (la 3) (gn 3) (go 3) (gk 3) (gi 3) (gb 3)) ++ ((yG c4 (la 4) (gn 4) (go 4) (gk 4) (gi 4) (gb 4)) ++ ((yG c4 (la 5) (gn 5) (go 5) (gk 5) (gi 5) (gb 5)) ++ ((yG c4 (la 6) (gn 6) (go 6) (gk 6) (gi 6) (gb 6)) ++ ((yG c4 (la 7) (gn 7) (go 7) (gk 7) (gi 7) (gb 7)) ++ (yG c4 (la 8) (gn 8) (go 8) (gk 8) (gi 8) (gb 8)))))))))))) :: (gG c4 ((ad 5) 0) ig) :: (zG c4 ((ad 6) 0) 2 kp) :: ((wG ((ad 12) 0) ((ad 14) 0) ib0 it0 is0) ++ ((yG c4 (ad 14) in0 io0 ik0 ii0 ir0) ++ ((wG ((ad 13) 0) ((ad 15) 0) ib1 it1 is1) ++ (yG c4 (ad 15) in1 io1 ik1 ii1 ir1)))) :: (aG c4 (a 1) 204 w) :: (aG c4 (a 2) 18 told) :: (zG c4 (a 3) 2 mkp) :: (aG c4 (a 5) 12 rk) :: (aG c4 (a 6) 12 ri) :: (aG c4 (a 7) 12 mba) :: (aG c4 (a 8) 51 mhd) :: (aG c4 (a 9) 10 by0) :: (aG c4 (a 10) 10 bn) :: (aG c4 (a 11) 10 bd) :: (aG c4 (a 12) 10 bi) :: (aG c4 (a 13) 15 ey) :: (aG c4 (a 14) 15 ei) :: Ts) a (nI n) ln mpl mst mva mfy fp mry mse mbh mmi mfb (nI bc) (nI ec) lt (xs (ix + 1)) hln) (cwV 1 hts gL_law_X8_feed rfl rfl rfl (by decide +kernel) (rmv (Nat.le_of_ble_eq_true rfl) (Nat.le_of_ble_eq_true rfl) hRf hRl)) hK trivial hw rfl rfl rfl hl rfl (Nat.le_of_ble_eq_true rfl) ⟨Nat.le_refl _, Nat.le_refl _⟩ dL_law_179 (fun r_179 u_179 H locs hpq hw => ?_)
  obtain ⟨ln2_179, lt2_179⟩ := u_179
  have hw : gW D A js.heap ((mG a (nI n) (nI ln2_179) mpl mst mva mfy fp mry mse mbh mmi mfb (nI bc) (nI ec)) :: (aG c4 (a 4) 230 lt2_179) :: (iG ad fp) :: (xG c4 (ad 1) (nI ln2_170) xyc xfn xfp xpl xcs lt2_170 xnb xyk xyi) :: (wG ((ad 3) 0) ((ad 4) 0) bt nt sd) :: (bG c4 (ad 2) told) :: (yG c4 (ad 4) (nI n) os kd ic br) :: (rG c4 (ad 7) (nI bc) (nI ec) by0 bn bd bi ey ei) :: (tG c4 (ad 8) bh mi fb ba) :: (yG c4 (ad 9) n0 os0 kd0 ic0 br0) :: ((sG c4 (ad 10) ((ad 11) 0) zlc zlS zdp zmi zfo zax zco zth zpe zcd zdc zwc lv) ++ ((tG c4 (ad 11) tbh tmi tfb tba) ++ ((yG c4 (la 0) (gn 0) (go 0) (gk 0) (gi 0) (gb 0)) ++ ((yG c4 (la 1) (gn 1) (go 1) (gk 1) (gi 1) (gb 1)) ++ ((yG c4 (la 2) (gn 2) (go 2) (gk 2) (gi 2) (gb 2)) ++ ((yG c4 (la 3) (gn 3) (go 3) (gk 3) (gi 3) (gb 3)) ++ ((yG c4 (la 4) (gn 4) (go 4) (gk 4) (gi 4) (gb 4)) ++ ((yG c4 (la 5) (gn 5) (go 5) (gk 5) (gi 5) (gb 5)) ++ ((yG c4 (la 6) (gn 6) (go 6) (gk 6) (gi 6) (gb 6)) ++ ((yG c4 (la 7) (gn 7) (go 7) (gk 7) (gi 7) (gb 7)) ++ (yG c4 (la 8) (gn 8) (go 8) (gk 8) (gi 8) (gb 8)))))))))))) :: (gG c4 ((ad 5) 0) ig) :: (zG c4 ((ad 6) 0) 2 kp) :: ((wG ((ad 12) 0) ((ad 14) 0) ib0 it0 is0) ++ ((yG c4 (ad 14) in0 io0 ik0 ii0 ir0) ++ ((wG ((ad 13) 0) ((ad 15) 0) ib1 it1 is1) ++ (yG c4 (ad 15) in1 io1 ik1 ii1 ir1)))) :: (aG c4 (a 1) 204 w) :: (aG c4 (a 2) 18 told) :: (zG c4 (a 3) 2 mkp) :: (aG c4 (a 5) 12 rk) :: (aG c4 (a 6) 12 ri) :: (aG c4 (a 7) 12 mba) :: (aG c4 (a 8) 51 mhd) :: (aG c4 (a 9) 10 by0) :: (aG c4 (a 10) 10 bn) :: (aG c4 (a 11) 10 bd) :: (aG c4 (a 12) 10 bi) :: (aG c4 (a 13) 15 ey) :: (aG c4 (a 14) 15 ei) :: Ts) H locs := hw
  obtain ⟨hF_179, hL_179⟩ := hpq
  have hF_179 : (r_179, ln2_179) = fdF (xs (ix + 1)) ln := hF_179
  have hL_179 : lt2_179 = fdL (xs (ix + 1)) ln lt := hL_179
  have er : (r_170 : Int32) = r_179 := (congrArg Prod.fst (hF_170.trans hF_179.symm))
  refine lv_icmp_eq (tgt := 961) hx hb dL_law_182 (by decide) (fun _ => ?_) (fun c_e => absurd er c_e)
  have hl : lv_has ls 4 [(0, .ref b), (1, .ref ((ad 0) 0)), (2, .ref (a 0)), (3, .int (nI ix))] := lv_sub hl [0, 1, 2, 3] rfl
  have e2 : ln2_179 = ln2_170 := congrArg Prod.snd (hF_179.trans hF_170.symm)
  have e3 : lt2_179 = lt2_170 := hL_179.trans hL_170.symm
  have hwN := hw
  subst e2
  subst e3
  have hw := hwN
  have hw := hw.m16
  have hw := hw.m16
  have hw := hw.m16
  have hw := hw.m3
  have hw := hw.m16
  have hw := hw.m16
  have hw := hw.m16
  have hw := hw.m16
  have hw := hw.m16
  have hw := hw.m16
  have hw := hw.m16
  have hw := hw.m16
  have hw := hw.m16
  have hw := hw.m16
  have hw := hw.m16
  have hw := hw.m16
  exact next _ _ _ (LI.of fp ln2_179 xyc xfn xfp xpl xcs lt2_179 xnb xyk xyi bt nt sd n os kd ic br bc ec by0 bn bd bi ey ei bh mi fb ba n0 os0 kd0 ic0 br0 zlc zlS zdp zmi zfo zax zco zth zpe zcd zdc zwc tbh tmi tfb tba gn go gk gi gb kp in0 io0 ib0 it0 is0 ik0 ii0 ir0 in1 io1 ib1 it1 is1 ik1 ii1 ir1 mpl mst mva mfy mry mse mbh mmi mfb w told mkp rk ri mba mhd q q0 q1 ⟨hw, hR1, htl, (fd_ok hR2 hF_179 hL_179), hR3, hRI0, hRI1⟩) hl
set_option maxHeartbeats 4000000 in
set_option maxRecDepth 100000 in
theorem lc_3 {jp : Program} {l : Launch} {je : Env} {js : State} {jm : MethodId} {below : List Frame} {meth : Method} {jc : Code} {D : va_G} {c4 : Nat → ClassId} {A : Nat → Prop} {t : Nat → Nat} {b L : Nat} {xs : Nat → Int32} {ad la : Nat → Nat → Nat} {a : Nat → Nat} {lv ig : Nat → Option Nat} {Ts : List va_W} {Q : State → Prop} {H : Heap} {locs : List Loc} {ls : Array Slot} {ix : Nat} (C0 : LC jp js jm meth jc D c4 A t b L xs) (hlv : ∀ k, k < 9 → lv k = some (la k 0)) (him0 : ig 0 = some (ad 12 0)) (him1 : ig 1 = some (ad 13 0)) (hix : ix + 6 ≤ L) {fp : Int32} {ln : Nat} {xyc : Int32} {xfn : Int32} {xfp : Int32} {xpl : Int32} {xcs : Int32} {lt : Nat → Int32} {xnb : Nat → Int32} {xyk : Nat → Int32} {xyi : Nat → Int32} {bt : Int32} {nt : Int32} {sd : Int32} {n : Nat} {os : Int32} {kd : Nat → Int32} {ic : Nat → Int32} {br : Nat → Int32} {bc : Nat} {ec : Nat} {by0 : Nat → Int32} {bn : Nat → Int32} {bd : Nat → Int32} {bi : Nat → Int32} {ey : Nat → Int32} {ei : Nat → Int32} {bh : Int32} {mi : Int32} {fb : Int32} {ba : Nat → Int32} {n0 : Int32} {os0 : Int32} {kd0 : Nat → Int32} {ic0 : Nat → Int32} {br0 : Nat → Int32} {zlc : Int32} {zlS : Int32} {zdp : Int32} {zmi : Int32} {zfo : Int32} {zax : Int32} {zco : Int32} {zth : Int32} {zpe : Int32} {zcd : Int32} {zdc : Int32} {zwc : Int32} {tbh : Int32} {tmi : Int32} {tfb : Int32} {tba : Nat → Int32} {gn : Nat → Int32} {go : Nat → Int32} {gk : Nat → Nat → Int32} {gi : Nat → Nat → Int32} {gb : Nat → Nat → Int32} {kp : Nat → Int32} {in0 : Int32} {io0 : Int32} {ib0 : Int32} {it0 : Int32} {is0 : Int32} {ik0 : Nat → Int32} {ii0 : Nat → Int32} {ir0 : Nat → Int32} {in1 : Int32} {io1 : Int32} {ib1 : Int32} {it1 : Int32} {is1 : Int32} {ik1 : Nat → Int32} {ii1 : Nat → Int32} {ir1 : Nat → Int32} {mpl : Int32} {mst : Int32} {mva : Int32} {mfy : Int32} {mry : Int32} {mse : Int32} {mbh : Int32} {mmi : Int32} {mfb : Int32} {w : Nat → Int32} {told : Nat → Int32} {mkp : Nat → Int32} {rk : Nat → Int32} {ri : Nat → Int32} {mba : Nat → Int32} {mhd : Nat → Int32} {q : Nat → Yq} {q0 : Nat → Yq} {q1 : Nat → Yq} (hI : LIb D c4 A js.heap ad la a lv ig Ts fp ln xyc xfn xfp xpl xcs lt xnb xyk xyi bt nt sd n os kd ic br bc ec by0 bn bd bi ey ei bh mi fb ba n0 os0 kd0 ic0 br0 zlc zlS zdp zmi zfo zax zco zth zpe zcd zdc zwc tbh tmi tfb tba gn go gk gi gb kp in0 io0 ib0 it0 is0 ik0 ii0 ir0 in1 io1 ib1 it1 is1 ik1 ii1 ir1 mpl mst mva mfy mry mse mbh mmi mfb w told mkp rk ri mba mhd q q0 q1 H locs) (hl : lv_has ls 4 [(0, .ref b), (1, .ref ((ad 0) 0)), (2, .ref (a 0)), (3, .int (nI ix))]) (next : ∀ (H : Heap) (locs : List Loc) (ls : Array Slot), LI D c4 A js.heap ad la a lv ig Ts H locs → lv_has ls 4 [(0, .ref b), (1, .ref ((ad 0) 0)), (2, .ref (a 0)), (3, .int (nI ix))] → W jp l je room_1 js jm #[Value.ref b] below meth jc H locs 600000 7302250 Q (F0 jm 961 ls [])) : W jp l je room_1 js jm #[Value.ref b] below meth jc H locs 600000 7302250 Q (F0 jm 213 ls []) := by
  obtain ⟨hx, hb, hr, hml, hown, hts, hXs, hbl, hlocks, hK, hX, hbA, hL3⟩ := C0
  have hRf : room_1.frames = 2048 := rfl
  have hRl : room_1.locals = 84000 := rfl
  have hRc : room_1.cells = 600000 := rfl
  have hRs : room_1.slots = 7302250 := rfl
  obtain ⟨hw, hR1, htl, hR2, hR3, hRI0, hRI1⟩ := hI
  have hR1c := hR1
  obtain ⟨hn, hyR, hmY, h48, h49, h50, hbt0, hsd0⟩ := hR1c
  have hbt : rng (w 48) 1 9 := by rw [h48]; exact hbt0
  have hsd : sdOk (w 50) := by rw [h50]; exact hsd0
  have hln := hR2.1
  have hlt := hR2.2
  have hbc := hR3.1
  have hec := hR3.2.1
  have hbo := hR3.2.2.1
  have hen := hR3.2.2.2
  refine lv_aload_n hx hb dL_law_213 rfl (lv_at hl 1 rfl) ?_
  refine lv_aload_n hx hb dL_law_214 rfl (lv_at hl 0 rfl) ?_
  refine lv_iload_n hx hb dL_law_215 rfl (lv_at hl 3 rfl) ?_
  refine lv_iconst (v := 1) hx hb dL_law_216 (by decide) ?_
  refine r_addN hx hb ix 1 dL_law_217 ?_
  refine r_sld hx hb hXs hbl hbA hw (ix + 1) (by omega) hL3 dL_law_218 ?_
  refine c_vi (As := [.int (xs (ix + 1))]) (rest := []) ⟨hx, hb, hml, hown, hts⟩ (k_X7_told l D c4 A ((tG c4 (ad 8) bh mi fb ba) :: (yG c4 (ad 9) n0 os0 kd0 ic0 br0) :: ((sG c4 (ad 10) ((ad 11) 0) zlc zlS zdp zmi zfo zax zco zth zpe zcd zdc zwc lv) ++ ((tG c4 (ad 11) tbh tmi tfb tba) ++ ((yG c4 (la 0) (gn 0) (go 0) (gk 0) (gi 0) (gb 0)) ++ ((yG c4 (la 1) (gn 1) (go 1) (gk 1) (gi 1) (gb 1)) ++ ((yG c4 (la 2) (gn 2) (go 2) (gk 2) (gi 2) (gb 2)) ++ ((yG c4 (la 3) (gn 3) (go 3) (gk 3) (gi 3) (gb 3)) ++ ((yG c4 (la 4) (gn 4) (go 4) (gk 4) (gi 4) (gb 4)) ++ ((yG c4 (la 5) (gn 5) (go 5) (gk 5) (gi 5) (gb 5)) ++ ((yG c4 (la 6) (gn 6) (go 6) (gk 6) (gi 6) (gb 6)) ++ ((yG c4 (la 7) (gn 7) (go 7) (gk 7) (gi 7) (gb 7)) ++ (yG c4 (la 8) (gn 8) (go 8) (gk 8) (gi 8) (gb 8)))))))))))) :: (gG c4 ((ad 5) 0) ig) :: (zG c4 ((ad 6) 0) 2 kp) :: ((wG ((ad 12) 0) ((ad 14) 0) ib0 it0 is0) ++ ((yG c4 (ad 14) in0 io0 ik0 ii0 ir0) ++ ((wG ((ad 13) 0) ((ad 15) 0) ib1 it1 is1) ++ (yG c4 (ad 15) in1 io1 ik1 ii1 ir1)))) :: (mG a (nI n) (nI ln) mpl mst mva mfy fp mry mse mbh mmi mfb (nI bc) (nI ec)) :: (aG c4 (a 1) 204 w) :: (aG c4 (a 2) 18 told) :: (zG c4 (a 3) 2 mkp) :: (aG c4 (a 4) 230 lt) :: (aG c4 (a 5) 12 rk) :: (aG c4 (a 6) 12 ri) :: (aG c4 (a 7) 12 mba) :: (aG c4 (a 8) 51 mhd) :: (aG c4 (a 9) 10 by0) :: (aG c4 (a 10) 10 bn) :: (aG c4 (a 11) 10 bd) :: (aG c4 (a 12) 10 bi) :: (aG c4 (a 13) 15 ey) :: (aG c4 (a 14) 15 ei) :: Ts) ad fp ln xyc xfn xfp xpl xcs lt xnb xyk xyi bt nt sd told n os kd ic br bc ec by0 bn bd bi ey ei (xs (ix + 1))) (cwV 1 hts gL_law_X7_told rfl rfl rfl (by decide +kernel) (rmv (Nat.le_of_ble_eq_true rfl) (Nat.le_of_ble_eq_true rfl) hRf hRl)) hK trivial hw rfl rfl rfl hl rfl (Nat.le_of_ble_eq_true rfl) ⟨Nat.le_refl _, Nat.le_refl _⟩ dL_law_219 (fun r_219 u_219 H locs hpq hw => ?_)
  have er_219 := hpq
  have er_219 := er_219.symm; subst er_219
  refine lv_aload_n hx hb dL_law_222 rfl (lv_at hl 2 rfl) ?_
  refine lv_aload_n hx hb dL_law_223 rfl (lv_at hl 0 rfl) ?_
  refine lv_iload_n hx hb dL_law_224 rfl (lv_at hl 3 rfl) ?_
  refine lv_iconst (v := 1) hx hb dL_law_225 (by decide) ?_
  refine r_addN hx hb ix 1 dL_law_226 ?_
  refine r_sld hx hb hXs hbl hbA hw (ix + 1) (by omega) hL3 dL_law_227 ?_
  have hw := hw.m13
  have hw := hw.m14
  have hw := hw.m14
  refine c_vi (As := [.int (xs (ix + 1))]) (rest := [.int (toldF n told ln nt bt os bc ec (xs (ix + 1)))]) ⟨hx, hb, hml, hown, hts⟩ (k_X8_told l D c4 A ((iG ad fp) :: (xG c4 (ad 1) (nI ln) xyc xfn xfp xpl xcs lt xnb xyk xyi) :: (wG ((ad 3) 0) ((ad 4) 0) bt nt sd) :: (bG c4 (ad 2) told) :: (yG c4 (ad 4) (nI n) os kd ic br) :: (rG c4 (ad 7) (nI bc) (nI ec) by0 bn bd bi ey ei) :: (tG c4 (ad 8) bh mi fb ba) :: (yG c4 (ad 9) n0 os0 kd0 ic0 br0) :: ((sG c4 (ad 10) ((ad 11) 0) zlc zlS zdp zmi zfo zax zco zth zpe zcd zdc zwc lv) ++ ((tG c4 (ad 11) tbh tmi tfb tba) ++ ((yG c4 (la 0) (gn 0) (go 0) (gk 0) (gi 0) (gb 0)) ++ ((yG c4 (la 1) (gn 1) (go 1) (gk 1) (gi 1) (gb 1)) ++ ((yG c4 (la 2) (gn 2) (go 2) (gk 2) (gi 2) (gb 2)) ++ ((yG c4 (la 3) (gn 3) (go 3) (gk 3) (gi 3) (gb 3)) ++ ((yG c4 (la 4) (gn 4) (go 4) (gk 4) (gi 4) (gb 4)) ++ ((yG c4 (la 5) (gn 5) (go 5) (gk 5) (gi 5) (gb 5)) ++ ((yG c4 (la 6) (gn 6) (go 6) (gk 6) (gi 6) (gb 6)) ++ ((yG c4 (la 7) (gn 7) (go 7) (gk 7) (gi 7) (gb 7)) ++ (yG c4 (la 8) (gn 8) (go 8) (gk 8) (gi 8) (gb 8)))))))))))) :: (gG c4 ((ad 5) 0) ig) :: (zG c4 ((ad 6) 0) 2 kp) :: ((wG ((ad 12) 0) ((ad 14) 0) ib0 it0 is0) ++ ((yG c4 (ad 14) in0 io0 ik0 ii0 ir0) ++ ((wG ((ad 13) 0) ((ad 15) 0) ib1 it1 is1) ++ (yG c4 (ad 15) in1 io1 ik1 ii1 ir1)))) :: (zG c4 (a 3) 2 mkp) :: (aG c4 (a 4) 230 lt) :: (aG c4 (a 5) 12 rk) :: (aG c4 (a 6) 12 ri) :: (aG c4 (a 7) 12 mba) :: (aG c4 (a 8) 51 mhd) :: (aG c4 (a 9) 10 by0) :: (aG c4 (a 10) 10 bn) :: (aG c4 (a 11) 10 bd) :: (aG c4 (a 12) 10 bi) :: (aG c4 (a 13) 15 ey) :: (aG c4 (a 14) 15 ei) :: Ts) a n ln mpl mst mva mfy fp mry mse mbh mmi mfb bc ec told w q (xs (ix + 1)) hn hmY htl hbt) (cwV 1 hts gL_law_X8_told rfl rfl rfl (by decide +kernel) (rmv (Nat.le_of_ble_eq_true rfl) (Nat.le_of_ble_eq_true rfl) hRf hRl)) hK trivial hw rfl rfl rfl hl rfl (Nat.le_of_ble_eq_true rfl) ⟨Nat.le_refl _, Nat.le_refl _⟩ dL_law_228 (fun r_228 u_228 H locs hpq hw => ?_)
  have er_228 := hpq
  have er_228 := er_228.symm; subst er_228
  have er : ((toldF n told ln nt bt os bc ec (xs (ix + 1))) : Int32) = (toldF n told ln (w 49) (w 48) (nI (oset q n)) bc ec (xs (ix + 1))) := (by rw [h48, h49, hyR.2])
  refine lv_icmp_eq (tgt := 961) hx hb dL_law_231 (by decide) (fun _ => ?_) (fun c_e => absurd er c_e)
  have hl : lv_has ls 4 [(0, .ref b), (1, .ref ((ad 0) 0)), (2, .ref (a 0)), (3, .int (nI ix))] := lv_sub hl [0, 1, 2, 3] rfl
  have hw := hw.m2
  have hw := hw.m1
  have hw := hw.m14
  have hw := hw.m14
  have hw := hw.m14
  have hw := hw.m14
  have hw := hw.m14
  have hw := hw.m14
  have hw := hw.m14
  have hw := hw.m14
  have hw := hw.m14
  have hw := hw.m14
  have hw := hw.m14
  have hw := hw.m14
  exact next _ _ _ (LI.of fp ln xyc xfn xfp xpl xcs lt xnb xyk xyi bt nt sd n os kd ic br bc ec by0 bn bd bi ey ei bh mi fb ba n0 os0 kd0 ic0 br0 zlc zlS zdp zmi zfo zax zco zth zpe zcd zdc zwc tbh tmi tfb tba gn go gk gi gb kp in0 io0 ib0 it0 is0 ik0 ii0 ir0 in1 io1 ib1 it1 is1 ik1 ii1 ir1 mpl mst mva mfy mry mse mbh mmi mfb w told mkp rk ri mba mhd q q0 q1 ⟨hw, hR1, htl, hR2, hR3, hRI0, hRI1⟩) hl
set_option maxHeartbeats 4000000 in
set_option maxRecDepth 100000 in
theorem lc_4 {jp : Program} {l : Launch} {je : Env} {js : State} {jm : MethodId} {below : List Frame} {meth : Method} {jc : Code} {D : va_G} {c4 : Nat → ClassId} {A : Nat → Prop} {t : Nat → Nat} {b L : Nat} {xs : Nat → Int32} {ad la : Nat → Nat → Nat} {a : Nat → Nat} {lv ig : Nat → Option Nat} {Ts : List va_W} {Q : State → Prop} {H : Heap} {locs : List Loc} {ls : Array Slot} {ix : Nat} (C0 : LC jp js jm meth jc D c4 A t b L xs) (hlv : ∀ k, k < 9 → lv k = some (la k 0)) (him0 : ig 0 = some (ad 12 0)) (him1 : ig 1 = some (ad 13 0)) (hix : ix + 6 ≤ L) {fp : Int32} {ln : Nat} {xyc : Int32} {xfn : Int32} {xfp : Int32} {xpl : Int32} {xcs : Int32} {lt : Nat → Int32} {xnb : Nat → Int32} {xyk : Nat → Int32} {xyi : Nat → Int32} {bt : Int32} {nt : Int32} {sd : Int32} {n : Nat} {os : Int32} {kd : Nat → Int32} {ic : Nat → Int32} {br : Nat → Int32} {bc : Nat} {ec : Nat} {by0 : Nat → Int32} {bn : Nat → Int32} {bd : Nat → Int32} {bi : Nat → Int32} {ey : Nat → Int32} {ei : Nat → Int32} {bh : Int32} {mi : Int32} {fb : Int32} {ba : Nat → Int32} {n0 : Int32} {os0 : Int32} {kd0 : Nat → Int32} {ic0 : Nat → Int32} {br0 : Nat → Int32} {zlc : Int32} {zlS : Int32} {zdp : Int32} {zmi : Int32} {zfo : Int32} {zax : Int32} {zco : Int32} {zth : Int32} {zpe : Int32} {zcd : Int32} {zdc : Int32} {zwc : Int32} {tbh : Int32} {tmi : Int32} {tfb : Int32} {tba : Nat → Int32} {gn : Nat → Int32} {go : Nat → Int32} {gk : Nat → Nat → Int32} {gi : Nat → Nat → Int32} {gb : Nat → Nat → Int32} {kp : Nat → Int32} {in0 : Int32} {io0 : Int32} {ib0 : Int32} {it0 : Int32} {is0 : Int32} {ik0 : Nat → Int32} {ii0 : Nat → Int32} {ir0 : Nat → Int32} {in1 : Int32} {io1 : Int32} {ib1 : Int32} {it1 : Int32} {is1 : Int32} {ik1 : Nat → Int32} {ii1 : Nat → Int32} {ir1 : Nat → Int32} {mpl : Int32} {mst : Int32} {mva : Int32} {mfy : Int32} {mry : Int32} {mse : Int32} {mbh : Int32} {mmi : Int32} {mfb : Int32} {w : Nat → Int32} {told : Nat → Int32} {mkp : Nat → Int32} {rk : Nat → Int32} {ri : Nat → Int32} {mba : Nat → Int32} {mhd : Nat → Int32} {q : Nat → Yq} {q0 : Nat → Yq} {q1 : Nat → Yq} (hI : LIb D c4 A js.heap ad la a lv ig Ts fp ln xyc xfn xfp xpl xcs lt xnb xyk xyi bt nt sd n os kd ic br bc ec by0 bn bd bi ey ei bh mi fb ba n0 os0 kd0 ic0 br0 zlc zlS zdp zmi zfo zax zco zth zpe zcd zdc zwc tbh tmi tfb tba gn go gk gi gb kp in0 io0 ib0 it0 is0 ik0 ii0 ir0 in1 io1 ib1 it1 is1 ik1 ii1 ir1 mpl mst mva mfy mry mse mbh mmi mfb w told mkp rk ri mba mhd q q0 q1 H locs) (hl : lv_has ls 4 [(0, .ref b), (1, .ref ((ad 0) 0)), (2, .ref (a 0)), (3, .int (nI ix))]) (next : ∀ (H : Heap) (locs : List Loc) (ls : Array Slot), LI D c4 A js.heap ad la a lv ig Ts H locs → lv_has ls 4 [(0, .ref b), (1, .ref ((ad 0) 0)), (2, .ref (a 0)), (3, .int (nI ix))] → W jp l je room_1 js jm #[Value.ref b] below meth jc H locs 600000 7302250 Q (F0 jm 961 ls [])) : W jp l je room_1 js jm #[Value.ref b] below meth jc H locs 600000 7302250 Q (F0 jm 236 ls []) := by
  obtain ⟨hx, hb, hr, hml, hown, hts, hXs, hbl, hlocks, hK, hX, hbA, hL3⟩ := C0
  have hRf : room_1.frames = 2048 := rfl
  have hRl : room_1.locals = 84000 := rfl
  have hRc : room_1.cells = 600000 := rfl
  have hRs : room_1.slots = 7302250 := rfl
  obtain ⟨hw, hR1, htl, hR2, hR3, hRI0, hRI1⟩ := hI
  have hR1c := hR1
  obtain ⟨hn, hyR, hmY, h48, h49, h50, hbt0, hsd0⟩ := hR1c
  have hbt : rng (w 48) 1 9 := by rw [h48]; exact hbt0
  have hsd : sdOk (w 50) := by rw [h50]; exact hsd0
  have hln := hR2.1
  have hlt := hR2.2
  have hbc := hR3.1
  have hec := hR3.2.1
  have hbo := hR3.2.2.1
  have hen := hR3.2.2.2
  refine lv_aload_n hx hb dL_law_236 rfl (lv_at hl 1 rfl) ?_
  refine lv_aload_n hx hb dL_law_237 rfl (lv_at hl 0 rfl) ?_
  refine lv_iload_n hx hb dL_law_238 rfl (lv_at hl 3 rfl) ?_
  refine lv_iconst (v := 1) hx hb dL_law_239 (by decide) ?_
  refine r_addN hx hb ix 1 dL_law_240 ?_
  refine r_sld hx hb hXs hbl hbA hw (ix + 1) (by omega) hL3 dL_law_241 ?_
  refine lv_aload_n hx hb dL_law_242 rfl (lv_at hl 0 rfl) ?_
  refine lv_iload_n hx hb dL_law_243 rfl (lv_at hl 3 rfl) ?_
  refine lv_iconst (v := 2) hx hb dL_law_244 (by decide) ?_
  refine r_addN hx hb ix 2 dL_law_245 ?_
  refine r_sld hx hb hXs hbl hbA hw (ix + 2) (by omega) hL3 dL_law_246 ?_
  have hw := hw.m4
  have hw := hw.m3
  have hw := hw.m2
  refine c_vi (As := [.int (xs (ix + 1)), .int (xs (ix + 2))]) (rest := []) ⟨hx, hb, hml, hown, hts⟩ (k_X7_yard l D c4 A ((xG c4 (ad 1) (nI ln) xyc xfn xfp xpl xcs lt xnb xyk xyi) :: (bG c4 (ad 2) told) :: (rG c4 (ad 7) (nI bc) (nI ec) by0 bn bd bi ey ei) :: (tG c4 (ad 8) bh mi fb ba) :: (yG c4 (ad 9) n0 os0 kd0 ic0 br0) :: ((sG c4 (ad 10) ((ad 11) 0) zlc zlS zdp zmi zfo zax zco zth zpe zcd zdc zwc lv) ++ ((tG c4 (ad 11) tbh tmi tfb tba) ++ ((yG c4 (la 0) (gn 0) (go 0) (gk 0) (gi 0) (gb 0)) ++ ((yG c4 (la 1) (gn 1) (go 1) (gk 1) (gi 1) (gb 1)) ++ ((yG c4 (la 2) (gn 2) (go 2) (gk 2) (gi 2) (gb 2)) ++ ((yG c4 (la 3) (gn 3) (go 3) (gk 3) (gi 3) (gb 3)) ++ ((yG c4 (la 4) (gn 4) (go 4) (gk 4) (gi 4) (gb 4)) ++ ((yG c4 (la 5) (gn 5) (go 5) (gk 5) (gi 5) (gb 5)) ++ ((yG c4 (la 6) (gn 6) (go 6) (gk 6) (gi 6) (gb 6)) ++ ((yG c4 (la 7) (gn 7) (go 7) (gk 7) (gi 7) (gb 7)) ++ (yG c4 (la 8) (gn 8) (go 8) (gk 8) (gi 8) (gb 8)))))))))))) :: (gG c4 ((ad 5) 0) ig) :: (zG c4 ((ad 6) 0) 2 kp) :: ((wG ((ad 12) 0) ((ad 14) 0) ib0 it0 is0) ++ ((yG c4 (ad 14) in0 io0 ik0 ii0 ir0) ++ ((wG ((ad 13) 0) ((ad 15) 0) ib1 it1 is1) ++ (yG c4 (ad 15) in1 io1 ik1 ii1 ir1)))) :: (mG a (nI n) (nI ln) mpl mst mva mfy fp mry mse mbh mmi mfb (nI bc) (nI ec)) :: (aG c4 (a 1) 204 w) :: (aG c4 (a 2) 18 told) :: (zG c4 (a 3) 2 mkp) :: (aG c4 (a 4) 230 lt) :: (aG c4 (a 5) 12 rk) :: (aG c4 (a 6) 12 ri) :: (aG c4 (a 7) 12 mba) :: (aG c4 (a 8) 51 mhd) :: (aG c4 (a 9) 10 by0) :: (aG c4 (a 10) 10 bn) :: (aG c4 (a 11) 10 bd) :: (aG c4 (a 12) 10 bi) :: (aG c4 (a 13) 15 ey) :: (aG c4 (a 14) 15 ei) :: Ts) ad fp bt nt sd n os kd ic br q (xs (ix + 1)) (xs (ix + 2)) hn hyR) (cwV 2 hts gL_law_X7_yard rfl rfl rfl (by decide +kernel) (rmv (Nat.le_of_ble_eq_true rfl) (Nat.le_of_ble_eq_true rfl) hRf hRl)) hK trivial hw rfl rfl rfl hl rfl (Nat.le_of_ble_eq_true rfl) ⟨Nat.le_refl _, Nat.le_refl _⟩ dL_law_247 (fun r_247 u_247 H locs hpq hw => ?_)
  have er_247 := hpq
  have er_247 := er_247.symm; subst er_247
  refine lv_aload_n hx hb dL_law_250 rfl (lv_at hl 2 rfl) ?_
  refine lv_aload_n hx hb dL_law_251 rfl (lv_at hl 0 rfl) ?_
  refine lv_iload_n hx hb dL_law_252 rfl (lv_at hl 3 rfl) ?_
  refine lv_iconst (v := 1) hx hb dL_law_253 (by decide) ?_
  refine r_addN hx hb ix 1 dL_law_254 ?_
  refine r_sld hx hb hXs hbl hbA hw (ix + 1) (by omega) hL3 dL_law_255 ?_
  refine lv_aload_n hx hb dL_law_256 rfl (lv_at hl 0 rfl) ?_
  refine lv_iload_n hx hb dL_law_257 rfl (lv_at hl 3 rfl) ?_
  refine lv_iconst (v := 2) hx hb dL_law_258 (by decide) ?_
  refine r_addN hx hb ix 2 dL_law_259 ?_
  refine r_sld hx hb hXs hbl hbA hw (ix + 2) (by omega) hL3 dL_law_260 ?_
  have hw := hw.m13
  have hw := hw.m13
  refine c_vi (As := [.int (xs (ix + 1)), .int (xs (ix + 2))]) (rest := [.int (yardF q n (xs (ix + 1)) (xs (ix + 2)))]) ⟨hx, hb, hml, hown, hts⟩ (k_X8_yard l D c4 A ((iG ad fp) :: (wG ((ad 3) 0) ((ad 4) 0) bt nt sd) :: (yG c4 (ad 4) (nI n) os kd ic br) :: (xG c4 (ad 1) (nI ln) xyc xfn xfp xpl xcs lt xnb xyk xyi) :: (bG c4 (ad 2) told) :: (rG c4 (ad 7) (nI bc) (nI ec) by0 bn bd bi ey ei) :: (tG c4 (ad 8) bh mi fb ba) :: (yG c4 (ad 9) n0 os0 kd0 ic0 br0) :: ((sG c4 (ad 10) ((ad 11) 0) zlc zlS zdp zmi zfo zax zco zth zpe zcd zdc zwc lv) ++ ((tG c4 (ad 11) tbh tmi tfb tba) ++ ((yG c4 (la 0) (gn 0) (go 0) (gk 0) (gi 0) (gb 0)) ++ ((yG c4 (la 1) (gn 1) (go 1) (gk 1) (gi 1) (gb 1)) ++ ((yG c4 (la 2) (gn 2) (go 2) (gk 2) (gi 2) (gb 2)) ++ ((yG c4 (la 3) (gn 3) (go 3) (gk 3) (gi 3) (gb 3)) ++ ((yG c4 (la 4) (gn 4) (go 4) (gk 4) (gi 4) (gb 4)) ++ ((yG c4 (la 5) (gn 5) (go 5) (gk 5) (gi 5) (gb 5)) ++ ((yG c4 (la 6) (gn 6) (go 6) (gk 6) (gi 6) (gb 6)) ++ ((yG c4 (la 7) (gn 7) (go 7) (gk 7) (gi 7) (gb 7)) ++ (yG c4 (la 8) (gn 8) (go 8) (gk 8) (gi 8) (gb 8)))))))))))) :: (gG c4 ((ad 5) 0) ig) :: (zG c4 ((ad 6) 0) 2 kp) :: ((wG ((ad 12) 0) ((ad 14) 0) ib0 it0 is0) ++ ((yG c4 (ad 14) in0 io0 ik0 ii0 ir0) ++ ((wG ((ad 13) 0) ((ad 15) 0) ib1 it1 is1) ++ (yG c4 (ad 15) in1 io1 ik1 ii1 ir1)))) :: (aG c4 (a 2) 18 told) :: (zG c4 (a 3) 2 mkp) :: (aG c4 (a 4) 230 lt) :: (aG c4 (a 5) 12 rk) :: (aG c4 (a 6) 12 ri) :: (aG c4 (a 7) 12 mba) :: (aG c4 (a 8) 51 mhd) :: (aG c4 (a 9) 10 by0) :: (aG c4 (a 10) 10 bn) :: (aG c4 (a 11) 10 bd) :: (aG c4 (a 12) 10 bi) :: (aG c4 (a 13) 15 ey) :: (aG c4 (a 14) 15 ei) :: Ts) a n (nI ln) mpl mst mva mfy fp mry mse mbh mmi mfb (nI bc) (nI ec) w q (xs (ix + 1)) (xs (ix + 2)) hn hmY) (cwV 2 hts gL_law_X8_yard rfl rfl rfl (by decide +kernel) (rmv (Nat.le_of_ble_eq_true rfl) (Nat.le_of_ble_eq_true rfl) hRf hRl)) hK trivial hw rfl rfl rfl hl rfl (Nat.le_of_ble_eq_true rfl) ⟨Nat.le_refl _, Nat.le_refl _⟩ dL_law_261 (fun r_261 u_261 H locs hpq hw => ?_)
  have er_261 := hpq
  have er_261 := er_261.symm; subst er_261
  have er : ((yardF q n (xs (ix + 1)) (xs (ix + 2))) : Int32) = (yardF q n (xs (ix + 1)) (xs (ix + 2))) := rfl
  refine lv_icmp_eq (tgt := 961) hx hb dL_law_264 (by decide) (fun _ => ?_) (fun c_e => absurd er c_e)
  have hl : lv_has ls 4 [(0, .ref b), (1, .ref ((ad 0) 0)), (2, .ref (a 0)), (3, .int (nI ix))] := lv_sub hl [0, 1, 2, 3] rfl
  have hw := hw.m13
  have hw := hw.m13
  have hw := hw.m13
  have hw := hw.m13
  have hw := hw.m13
  have hw := hw.m13
  have hw := hw.m13
  have hw := hw.m11
  have hw := hw.m13
  have hw := hw.m12
  have hw := hw.m13
  have hw := hw.m13
  exact next _ _ _ (LI.of fp ln xyc xfn xfp xpl xcs lt xnb xyk xyi bt nt sd n os kd ic br bc ec by0 bn bd bi ey ei bh mi fb ba n0 os0 kd0 ic0 br0 zlc zlS zdp zmi zfo zax zco zth zpe zcd zdc zwc tbh tmi tfb tba gn go gk gi gb kp in0 io0 ib0 it0 is0 ik0 ii0 ir0 in1 io1 ib1 it1 is1 ik1 ii1 ir1 mpl mst mva mfy mry mse mbh mmi mfb w told mkp rk ri mba mhd q q0 q1 ⟨hw, hR1, htl, hR2, hR3, hRI0, hRI1⟩) hl
set_option maxHeartbeats 4000000 in
set_option maxRecDepth 100000 in
theorem lc_5 {jp : Program} {l : Launch} {je : Env} {js : State} {jm : MethodId} {below : List Frame} {meth : Method} {jc : Code} {D : va_G} {c4 : Nat → ClassId} {A : Nat → Prop} {t : Nat → Nat} {b L : Nat} {xs : Nat → Int32} {ad la : Nat → Nat → Nat} {a : Nat → Nat} {lv ig : Nat → Option Nat} {Ts : List va_W} {Q : State → Prop} {H : Heap} {locs : List Loc} {ls : Array Slot} {ix : Nat} (C0 : LC jp js jm meth jc D c4 A t b L xs) (hlv : ∀ k, k < 9 → lv k = some (la k 0)) (him0 : ig 0 = some (ad 12 0)) (him1 : ig 1 = some (ad 13 0)) (hix : ix + 6 ≤ L) {fp : Int32} {ln : Nat} {xyc : Int32} {xfn : Int32} {xfp : Int32} {xpl : Int32} {xcs : Int32} {lt : Nat → Int32} {xnb : Nat → Int32} {xyk : Nat → Int32} {xyi : Nat → Int32} {bt : Int32} {nt : Int32} {sd : Int32} {n : Nat} {os : Int32} {kd : Nat → Int32} {ic : Nat → Int32} {br : Nat → Int32} {bc : Nat} {ec : Nat} {by0 : Nat → Int32} {bn : Nat → Int32} {bd : Nat → Int32} {bi : Nat → Int32} {ey : Nat → Int32} {ei : Nat → Int32} {bh : Int32} {mi : Int32} {fb : Int32} {ba : Nat → Int32} {n0 : Int32} {os0 : Int32} {kd0 : Nat → Int32} {ic0 : Nat → Int32} {br0 : Nat → Int32} {zlc : Int32} {zlS : Int32} {zdp : Int32} {zmi : Int32} {zfo : Int32} {zax : Int32} {zco : Int32} {zth : Int32} {zpe : Int32} {zcd : Int32} {zdc : Int32} {zwc : Int32} {tbh : Int32} {tmi : Int32} {tfb : Int32} {tba : Nat → Int32} {gn : Nat → Int32} {go : Nat → Int32} {gk : Nat → Nat → Int32} {gi : Nat → Nat → Int32} {gb : Nat → Nat → Int32} {kp : Nat → Int32} {in0 : Int32} {io0 : Int32} {ib0 : Int32} {it0 : Int32} {is0 : Int32} {ik0 : Nat → Int32} {ii0 : Nat → Int32} {ir0 : Nat → Int32} {in1 : Int32} {io1 : Int32} {ib1 : Int32} {it1 : Int32} {is1 : Int32} {ik1 : Nat → Int32} {ii1 : Nat → Int32} {ir1 : Nat → Int32} {mpl : Int32} {mst : Int32} {mva : Int32} {mfy : Int32} {mry : Int32} {mse : Int32} {mbh : Int32} {mmi : Int32} {mfb : Int32} {w : Nat → Int32} {told : Nat → Int32} {mkp : Nat → Int32} {rk : Nat → Int32} {ri : Nat → Int32} {mba : Nat → Int32} {mhd : Nat → Int32} {q : Nat → Yq} {q0 : Nat → Yq} {q1 : Nat → Yq} (hI : LIb D c4 A js.heap ad la a lv ig Ts fp ln xyc xfn xfp xpl xcs lt xnb xyk xyi bt nt sd n os kd ic br bc ec by0 bn bd bi ey ei bh mi fb ba n0 os0 kd0 ic0 br0 zlc zlS zdp zmi zfo zax zco zth zpe zcd zdc zwc tbh tmi tfb tba gn go gk gi gb kp in0 io0 ib0 it0 is0 ik0 ii0 ir0 in1 io1 ib1 it1 is1 ik1 ii1 ir1 mpl mst mva mfy mry mse mbh mmi mfb w told mkp rk ri mba mhd q q0 q1 H locs) (hl : lv_has ls 4 [(0, .ref b), (1, .ref ((ad 0) 0)), (2, .ref (a 0)), (3, .int (nI ix))]) (next : ∀ (H : Heap) (locs : List Loc) (ls : Array Slot), LI D c4 A js.heap ad la a lv ig Ts H locs → lv_has ls 4 [(0, .ref b), (1, .ref ((ad 0) 0)), (2, .ref (a 0)), (3, .int (nI ix))] → W jp l je room_1 js jm #[Value.ref b] below meth jc H locs 600000 7302250 Q (F0 jm 961 ls [])) : W jp l je room_1 js jm #[Value.ref b] below meth jc H locs 600000 7302250 Q (F0 jm 269 ls []) := by
  obtain ⟨hx, hb, hr, hml, hown, hts, hXs, hbl, hlocks, hK, hX, hbA, hL3⟩ := C0
  have hRf : room_1.frames = 2048 := rfl
  have hRl : room_1.locals = 84000 := rfl
  have hRc : room_1.cells = 600000 := rfl
  have hRs : room_1.slots = 7302250 := rfl
  obtain ⟨hw, hR1, htl, hR2, hR3, hRI0, hRI1⟩ := hI
  have hR1c := hR1
  obtain ⟨hn, hyR, hmY, h48, h49, h50, hbt0, hsd0⟩ := hR1c
  have hbt : rng (w 48) 1 9 := by rw [h48]; exact hbt0
  have hsd : sdOk (w 50) := by rw [h50]; exact hsd0
  have hln := hR2.1
  have hlt := hR2.2
  have hbc := hR3.1
  have hec := hR3.2.1
  have hbo := hR3.2.2.1
  have hen := hR3.2.2.2
  refine lv_aload_n hx hb dL_law_269 rfl (lv_at hl 1 rfl) ?_
  refine lv_aload_n hx hb dL_law_270 rfl (lv_at hl 0 rfl) ?_
  refine lv_iload_n hx hb dL_law_271 rfl (lv_at hl 3 rfl) ?_
  refine lv_iconst (v := 1) hx hb dL_law_272 (by decide) ?_
  refine r_addN hx hb ix 1 dL_law_273 ?_
  refine r_sld hx hb hXs hbl hbA hw (ix + 1) (by omega) hL3 dL_law_274 ?_
  refine lv_aload_n hx hb dL_law_275 rfl (lv_at hl 0 rfl) ?_
  refine lv_iload_n hx hb dL_law_276 rfl (lv_at hl 3 rfl) ?_
  refine lv_iconst (v := 2) hx hb dL_law_277 (by decide) ?_
  refine r_addN hx hb ix 2 dL_law_278 ?_
  refine r_sld hx hb hXs hbl hbA hw (ix + 2) (by omega) hL3 dL_law_279 ?_
  have hw := hw.m4
  have hw := hw.m3
  have hw := hw.m2
  refine c_vi (As := [.int (xs (ix + 1)), .int (xs (ix + 2))]) (rest := []) ⟨hx, hb, hml, hown, hts⟩ (k_X7_grows l D c4 A ((xG c4 (ad 1) (nI ln) xyc xfn xfp xpl xcs lt xnb xyk xyi) :: (bG c4 (ad 2) told) :: (rG c4 (ad 7) (nI bc) (nI ec) by0 bn bd bi ey ei) :: (tG c4 (ad 8) bh mi fb ba) :: (yG c4 (ad 9) n0 os0 kd0 ic0 br0) :: ((sG c4 (ad 10) ((ad 11) 0) zlc zlS zdp zmi zfo zax zco zth zpe zcd zdc zwc lv) ++ ((tG c4 (ad 11) tbh tmi tfb tba) ++ ((yG c4 (la 0) (gn 0) (go 0) (gk 0) (gi 0) (gb 0)) ++ ((yG c4 (la 1) (gn 1) (go 1) (gk 1) (gi 1) (gb 1)) ++ ((yG c4 (la 2) (gn 2) (go 2) (gk 2) (gi 2) (gb 2)) ++ ((yG c4 (la 3) (gn 3) (go 3) (gk 3) (gi 3) (gb 3)) ++ ((yG c4 (la 4) (gn 4) (go 4) (gk 4) (gi 4) (gb 4)) ++ ((yG c4 (la 5) (gn 5) (go 5) (gk 5) (gi 5) (gb 5)) ++ ((yG c4 (la 6) (gn 6) (go 6) (gk 6) (gi 6) (gb 6)) ++ ((yG c4 (la 7) (gn 7) (go 7) (gk 7) (gi 7) (gb 7)) ++ (yG c4 (la 8) (gn 8) (go 8) (gk 8) (gi 8) (gb 8)))))))))))) :: (gG c4 ((ad 5) 0) ig) :: (zG c4 ((ad 6) 0) 2 kp) :: ((wG ((ad 12) 0) ((ad 14) 0) ib0 it0 is0) ++ ((yG c4 (ad 14) in0 io0 ik0 ii0 ir0) ++ ((wG ((ad 13) 0) ((ad 15) 0) ib1 it1 is1) ++ (yG c4 (ad 15) in1 io1 ik1 ii1 ir1)))) :: (mG a (nI n) (nI ln) mpl mst mva mfy fp mry mse mbh mmi mfb (nI bc) (nI ec)) :: (aG c4 (a 1) 204 w) :: (aG c4 (a 2) 18 told) :: (zG c4 (a 3) 2 mkp) :: (aG c4 (a 4) 230 lt) :: (aG c4 (a 5) 12 rk) :: (aG c4 (a 6) 12 ri) :: (aG c4 (a 7) 12 mba) :: (aG c4 (a 8) 51 mhd) :: (aG c4 (a 9) 10 by0) :: (aG c4 (a 10) 10 bn) :: (aG c4 (a 11) 10 bd) :: (aG c4 (a 12) 10 bi) :: (aG c4 (a 13) 15 ey) :: (aG c4 (a 14) 15 ei) :: Ts) ad fp bt nt sd n os kd ic br q (xs (ix + 1)) (xs (ix + 2)) hn hyR) (cwV 2 hts gL_law_X7_grows rfl rfl rfl (by decide +kernel) (rmv (Nat.le_of_ble_eq_true rfl) (Nat.le_of_ble_eq_true rfl) hRf hRl)) hK trivial hw rfl rfl rfl hl rfl (Nat.le_of_ble_eq_true rfl) ⟨Nat.le_refl _, Nat.le_refl _⟩ dL_law_280 (fun r_280 u_280 H locs hpq hw => ?_)
  have er_280 := hpq
  have er_280 := er_280.symm; subst er_280
  refine lv_aload_n hx hb dL_law_283 rfl (lv_at hl 2 rfl) ?_
  refine lv_aload_n hx hb dL_law_284 rfl (lv_at hl 0 rfl) ?_
  refine lv_iload_n hx hb dL_law_285 rfl (lv_at hl 3 rfl) ?_
  refine lv_iconst (v := 1) hx hb dL_law_286 (by decide) ?_
  refine r_addN hx hb ix 1 dL_law_287 ?_
  refine r_sld hx hb hXs hbl hbA hw (ix + 1) (by omega) hL3 dL_law_288 ?_
  refine lv_aload_n hx hb dL_law_289 rfl (lv_at hl 0 rfl) ?_
  refine lv_iload_n hx hb dL_law_290 rfl (lv_at hl 3 rfl) ?_
  refine lv_iconst (v := 2) hx hb dL_law_291 (by decide) ?_
  refine r_addN hx hb ix 2 dL_law_292 ?_
  refine r_sld hx hb hXs hbl hbA hw (ix + 2) (by omega) hL3 dL_law_293 ?_
  have hw := hw.m13
  have hw := hw.m13
  refine c_vi (As := [.int (xs (ix + 1)), .int (xs (ix + 2))]) (rest := [.int (growF q n (xs (ix + 1)) (xs (ix + 2)))]) ⟨hx, hb, hml, hown, hts⟩ (k_X8_grows l D c4 A ((iG ad fp) :: (wG ((ad 3) 0) ((ad 4) 0) bt nt sd) :: (yG c4 (ad 4) (nI n) os kd ic br) :: (xG c4 (ad 1) (nI ln) xyc xfn xfp xpl xcs lt xnb xyk xyi) :: (bG c4 (ad 2) told) :: (rG c4 (ad 7) (nI bc) (nI ec) by0 bn bd bi ey ei) :: (tG c4 (ad 8) bh mi fb ba) :: (yG c4 (ad 9) n0 os0 kd0 ic0 br0) :: ((sG c4 (ad 10) ((ad 11) 0) zlc zlS zdp zmi zfo zax zco zth zpe zcd zdc zwc lv) ++ ((tG c4 (ad 11) tbh tmi tfb tba) ++ ((yG c4 (la 0) (gn 0) (go 0) (gk 0) (gi 0) (gb 0)) ++ ((yG c4 (la 1) (gn 1) (go 1) (gk 1) (gi 1) (gb 1)) ++ ((yG c4 (la 2) (gn 2) (go 2) (gk 2) (gi 2) (gb 2)) ++ ((yG c4 (la 3) (gn 3) (go 3) (gk 3) (gi 3) (gb 3)) ++ ((yG c4 (la 4) (gn 4) (go 4) (gk 4) (gi 4) (gb 4)) ++ ((yG c4 (la 5) (gn 5) (go 5) (gk 5) (gi 5) (gb 5)) ++ ((yG c4 (la 6) (gn 6) (go 6) (gk 6) (gi 6) (gb 6)) ++ ((yG c4 (la 7) (gn 7) (go 7) (gk 7) (gi 7) (gb 7)) ++ (yG c4 (la 8) (gn 8) (go 8) (gk 8) (gi 8) (gb 8)))))))))))) :: (gG c4 ((ad 5) 0) ig) :: (zG c4 ((ad 6) 0) 2 kp) :: ((wG ((ad 12) 0) ((ad 14) 0) ib0 it0 is0) ++ ((yG c4 (ad 14) in0 io0 ik0 ii0 ir0) ++ ((wG ((ad 13) 0) ((ad 15) 0) ib1 it1 is1) ++ (yG c4 (ad 15) in1 io1 ik1 ii1 ir1)))) :: (aG c4 (a 2) 18 told) :: (zG c4 (a 3) 2 mkp) :: (aG c4 (a 4) 230 lt) :: (aG c4 (a 5) 12 rk) :: (aG c4 (a 6) 12 ri) :: (aG c4 (a 7) 12 mba) :: (aG c4 (a 8) 51 mhd) :: (aG c4 (a 9) 10 by0) :: (aG c4 (a 10) 10 bn) :: (aG c4 (a 11) 10 bd) :: (aG c4 (a 12) 10 bi) :: (aG c4 (a 13) 15 ey) :: (aG c4 (a 14) 15 ei) :: Ts) a n (nI ln) mpl mst mva mfy fp mry mse mbh mmi mfb (nI bc) (nI ec) w q (xs (ix + 1)) (xs (ix + 2)) hn hmY) (cwV 2 hts gL_law_X8_grows rfl rfl rfl (by decide +kernel) (rmv (Nat.le_of_ble_eq_true rfl) (Nat.le_of_ble_eq_true rfl) hRf hRl)) hK trivial hw rfl rfl rfl hl rfl (Nat.le_of_ble_eq_true rfl) ⟨Nat.le_refl _, Nat.le_refl _⟩ dL_law_294 (fun r_294 u_294 H locs hpq hw => ?_)
  have er_294 := hpq
  have er_294 := er_294.symm; subst er_294
  have er : ((growF q n (xs (ix + 1)) (xs (ix + 2))) : Int32) = (growF q n (xs (ix + 1)) (xs (ix + 2))) := rfl
  refine lv_icmp_eq (tgt := 961) hx hb dL_law_297 (by decide) (fun _ => ?_) (fun c_e => absurd er c_e)
  have hl : lv_has ls 4 [(0, .ref b), (1, .ref ((ad 0) 0)), (2, .ref (a 0)), (3, .int (nI ix))] := lv_sub hl [0, 1, 2, 3] rfl
  have hw := hw.m13
  have hw := hw.m13
  have hw := hw.m13
  have hw := hw.m13
  have hw := hw.m13
  have hw := hw.m13
  have hw := hw.m13
  have hw := hw.m11
  have hw := hw.m13
  have hw := hw.m12
  have hw := hw.m13
  have hw := hw.m13
  exact next _ _ _ (LI.of fp ln xyc xfn xfp xpl xcs lt xnb xyk xyi bt nt sd n os kd ic br bc ec by0 bn bd bi ey ei bh mi fb ba n0 os0 kd0 ic0 br0 zlc zlS zdp zmi zfo zax zco zth zpe zcd zdc zwc tbh tmi tfb tba gn go gk gi gb kp in0 io0 ib0 it0 is0 ik0 ii0 ir0 in1 io1 ib1 it1 is1 ik1 ii1 ir1 mpl mst mva mfy mry mse mbh mmi mfb w told mkp rk ri mba mhd q q0 q1 ⟨hw, hR1, htl, hR2, hR3, hRI0, hRI1⟩) hl
