set_option maxHeartbeats 4000000 in
set_option maxRecDepth 100000 in
theorem lc_23 {jp : Program} {l : Launch} {je : Env} {js : State} {jm : MethodId} {below : List Frame} {meth : Method} {jc : Code} {D : va_G} {c4 : Nat → ClassId} {A : Nat → Prop} {t : Nat → Nat} {b L : Nat} {xs : Nat → Int32} {ad la : Nat → Nat → Nat} {a : Nat → Nat} {lv ig : Nat → Option Nat} {Ts : List va_W} {Q : State → Prop} {H : Heap} {locs : List Loc} {ls : Array Slot} {ix : Nat} (C0 : LC jp js jm meth jc D c4 A t b L xs) (hlv : ∀ k, k < 9 → lv k = some (la k 0)) (him0 : ig 0 = some (ad 12 0)) (him1 : ig 1 = some (ad 13 0)) (hix : ix + 6 ≤ L) {fp : Int32} {ln : Nat} {xyc : Int32} {xfn : Int32} {xfp : Int32} {xpl : Int32} {xcs : Int32} {lt : Nat → Int32} {xnb : Nat → Int32} {xyk : Nat → Int32} {xyi : Nat → Int32} {bt : Int32} {nt : Int32} {sd : Int32} {n : Nat} {os : Int32} {kd : Nat → Int32} {ic : Nat → Int32} {br : Nat → Int32} {bc : Nat} {ec : Nat} {by0 : Nat → Int32} {bn : Nat → Int32} {bd : Nat → Int32} {bi : Nat → Int32} {ey : Nat → Int32} {ei : Nat → Int32} {bh : Int32} {mi : Int32} {fb : Int32} {ba : Nat → Int32} {n0 : Int32} {os0 : Int32} {kd0 : Nat → Int32} {ic0 : Nat → Int32} {br0 : Nat → Int32} {zlc : Int32} {zlS : Int32} {zdp : Int32} {zmi : Int32} {zfo : Int32} {zax : Int32} {zco : Int32} {zth : Int32} {zpe : Int32} {zcd : Int32} {zdc : Int32} {zwc : Int32} {tbh : Int32} {tmi : Int32} {tfb : Int32} {tba : Nat → Int32} {gn : Nat → Int32} {go : Nat → Int32} {gk : Nat → Nat → Int32} {gi : Nat → Nat → Int32} {gb : Nat → Nat → Int32} {kp : Nat → Int32} {in0 : Int32} {io0 : Int32} {ib0 : Int32} {it0 : Int32} {is0 : Int32} {ik0 : Nat → Int32} {ii0 : Nat → Int32} {ir0 : Nat → Int32} {in1 : Int32} {io1 : Int32} {ib1 : Int32} {it1 : Int32} {is1 : Int32} {ik1 : Nat → Int32} {ii1 : Nat → Int32} {ir1 : Nat → Int32} {mpl : Int32} {mst : Int32} {mva : Int32} {mfy : Int32} {mry : Int32} {mse : Int32} {mbh : Int32} {mmi : Int32} {mfb : Int32} {w : Nat → Int32} {told : Nat → Int32} {mkp : Nat → Int32} {rk : Nat → Int32} {ri : Nat → Int32} {mba : Nat → Int32} {mhd : Nat → Int32} {q : Nat → Yq} {q0 : Nat → Yq} {q1 : Nat → Yq} (hI : LIb D c4 A js.heap ad la a lv ig Ts fp ln xyc xfn xfp xpl xcs lt xnb xyk xyi bt nt sd n os kd ic br bc ec by0 bn bd bi ey ei bh mi fb ba n0 os0 kd0 ic0 br0 zlc zlS zdp zmi zfo zax zco zth zpe zcd zdc zwc tbh tmi tfb tba gn go gk gi gb kp in0 io0 ib0 it0 is0 ik0 ii0 ir0 in1 io1 ib1 it1 is1 ik1 ii1 ir1 mpl mst mva mfy mry mse mbh mmi mfb w told mkp rk ri mba mhd q q0 q1 H locs) (hl : lv_has ls 4 [(0, .ref b), (1, .ref ((ad 0) 0)), (2, .ref (a 0)), (3, .int (nI ix))]) (next : ∀ (H : Heap) (locs : List Loc) (ls : Array Slot), LI D c4 A js.heap ad la a lv ig Ts H locs → lv_has ls 4 [(0, .ref b), (1, .ref ((ad 0) 0)), (2, .ref (a 0)), (3, .int (nI ix))] → W jp l je room_1 js jm #[Value.ref b] below meth jc H locs 600000 7302250 Q (F0 jm 961 ls [])) : W jp l je room_1 js jm #[Value.ref b] below meth jc H locs 600000 7302250 Q (F0 jm 833 ls []) := by
  obtain ⟨hx, hb, hr, hml, hown, hts, hXs, hbl, hlocks, hK, hX, hbA, hL3⟩ := C0
  have hRf : room_1.frames = 2048 := rfl
  have hRl : room_1.locals = 84000 := rfl
  have hRc : room_1.cells = 600000 := rfl
  have hRs : room_1.slots = 7302250 := rfl
  obtain ⟨hw, hR1, htl, hR2, hR3, hRI0, hRI1⟩ := hI
  have hR1c := hR1
  obtain ⟨hn, hyR, hmY, h48, h49, h50, hbt0, hsd0⟩ := hR1c
  have hbt : rng (w 48) 1 9 := by rw [h48]; exact hbt0
  have hsd : sdOk (w 50) := by rw [h50]; exact hsd0
  have hln := hR2.1
  have hlt := hR2.2
  have hbc := hR3.1
  have hec := hR3.2.1
  have hbo := hR3.2.2.1
  have hen := hR3.2.2.2
  refine lv_aload_n hx hb dL_law_833 rfl (lv_at hl 1 rfl) ?_
  refine lv_aload_n hx hb dL_law_834 rfl (lv_at hl 0 rfl) ?_
  refine lv_iload_n hx hb dL_law_835 rfl (lv_at hl 3 rfl) ?_
  refine lv_iconst (v := 1) hx hb dL_law_836 (by decide) ?_
  refine r_addN hx hb ix 1 dL_law_837 ?_
  refine r_sld hx hb hXs hbl hbA hw (ix + 1) (by omega) hL3 dL_law_838 ?_
  refine lv_aload_n hx hb dL_law_839 rfl (lv_at hl 0 rfl) ?_
  refine lv_iload_n hx hb dL_law_840 rfl (lv_at hl 3 rfl) ?_
  refine lv_iconst (v := 2) hx hb dL_law_841 (by decide) ?_
  refine r_addN hx hb ix 2 dL_law_842 ?_
  refine r_sld hx hb hXs hbl hbA hw (ix + 2) (by omega) hL3 dL_law_843 ?_
  have hw := hw.m5
  have hw := hw.m5
  have hw := hw.m4
  have hw := hw.m3
  refine c_vi (As := [.int (xs (ix + 1)), .int (xs (ix + 2))]) (rest := []) ⟨hx, hb, hml, hown, hts⟩ (k_X7_write l D c4 A ((xG c4 (ad 1) (nI ln) xyc xfn xfp xpl xcs lt xnb xyk xyi) :: (bG c4 (ad 2) told) :: (tG c4 (ad 8) bh mi fb ba) :: (yG c4 (ad 9) n0 os0 kd0 ic0 br0) :: ((sG c4 (ad 10) ((ad 11) 0) zlc zlS zdp zmi zfo zax zco zth zpe zcd zdc zwc lv) ++ ((tG c4 (ad 11) tbh tmi tfb tba) ++ ((yG c4 (la 0) (gn 0) (go 0) (gk 0) (gi 0) (gb 0)) ++ ((yG c4 (la 1) (gn 1) (go 1) (gk 1) (gi 1) (gb 1)) ++ ((yG c4 (la 2) (gn 2) (go 2) (gk 2) (gi 2) (gb 2)) ++ ((yG c4 (la 3) (gn 3) (go 3) (gk 3) (gi 3) (gb 3)) ++ ((yG c4 (la 4) (gn 4) (go 4) (gk 4) (gi 4) (gb 4)) ++ ((yG c4 (la 5) (gn 5) (go 5) (gk 5) (gi 5) (gb 5)) ++ ((yG c4 (la 6) (gn 6) (go 6) (gk 6) (gi 6) (gb 6)) ++ ((yG c4 (la 7) (gn 7) (go 7) (gk 7) (gi 7) (gb 7)) ++ (yG c4 (la 8) (gn 8) (go 8) (gk 8) (gi 8) (gb 8)))))))))))) :: (gG c4 ((ad 5) 0) ig) :: (zG c4 ((ad 6) 0) 2 kp) :: ((wG ((ad 12) 0) ((ad 14) 0) ib0 it0 is0) ++ ((yG c4 (ad 14) in0 io0 ik0 ii0 ir0) ++ ((wG ((ad 13) 0) ((ad 15) 0) ib1 it1 is1) ++ (yG c4 (ad 15) in1 io1 ik1 ii1 ir1)))) :: (mG a (nI n) (nI ln) mpl mst mva mfy fp mry mse mbh mmi mfb (nI bc) (nI ec)) :: (aG c4 (a 1) 204 w) :: (aG c4 (a 2) 18 told) :: (zG c4 (a 3) 2 mkp) :: (aG c4 (a 4) 230 lt) :: (aG c4 (a 5) 12 rk) :: (aG c4 (a 6) 12 ri) :: (aG c4 (a 7) 12 mba) :: (aG c4 (a 8) 51 mhd) :: (aG c4 (a 9) 10 by0) :: (aG c4 (a 10) 10 bn) :: (aG c4 (a 11) 10 bd) :: (aG c4 (a 12) 10 bi) :: (aG c4 (a 13) 15 ey) :: (aG c4 (a 14) 15 ei) :: Ts) ad fp bt nt sd n os kd ic br q bc ec by0 bn bd bi ey ei (xs (ix + 1)) (xs (ix + 2)) hn hyR hec) (cwV 2 hts gL_law_X7_write rfl rfl rfl (by decide +kernel) (rmv (Nat.le_of_ble_eq_true rfl) (Nat.le_of_ble_eq_true rfl) hRf hRl)) hK trivial hw rfl rfl rfl hl rfl (Nat.le_of_ble_eq_true rfl) ⟨Nat.le_refl _, Nat.le_refl _⟩ dL_law_844 (fun r_844 u_844 H locs hpq hw => ?_)
  obtain ⟨ec2_844, ey2_844, ei2_844⟩ := u_844
  have hw : gW D A js.heap ((iG ad fp) :: (wG ((ad 3) 0) ((ad 4) 0) bt nt sd) :: (yG c4 (ad 4) (nI n) os kd ic br) :: (rG c4 (ad 7) (nI bc) (nI ec2_844) by0 bn bd bi ey2_844 ei2_844) :: (xG c4 (ad 1) (nI ln) xyc xfn xfp xpl xcs lt xnb xyk xyi) :: (bG c4 (ad 2) told) :: (tG c4 (ad 8) bh mi fb ba) :: (yG c4 (ad 9) n0 os0 kd0 ic0 br0) :: ((sG c4 (ad 10) ((ad 11) 0) zlc zlS zdp zmi zfo zax zco zth zpe zcd zdc zwc lv) ++ ((tG c4 (ad 11) tbh tmi tfb tba) ++ ((yG c4 (la 0) (gn 0) (go 0) (gk 0) (gi 0) (gb 0)) ++ ((yG c4 (la 1) (gn 1) (go 1) (gk 1) (gi 1) (gb 1)) ++ ((yG c4 (la 2) (gn 2) (go 2) (gk 2) (gi 2) (gb 2)) ++ ((yG c4 (la 3) (gn 3) (go 3) (gk 3) (gi 3) (gb 3)) ++ ((yG c4 (la 4) (gn 4) (go 4) (gk 4) (gi 4) (gb 4)) ++ ((yG c4 (la 5) (gn 5) (go 5) (gk 5) (gi 5) (gb 5)) ++ ((yG c4 (la 6) (gn 6) (go 6) (gk 6) (gi 6) (gb 6)) ++ ((yG c4 (la 7) (gn 7) (go 7) (gk 7) (gi 7) (gb 7)) ++ (yG c4 (la 8) (gn 8) (go 8) (gk 8) (gi 8) (gb 8)))))))))))) :: (gG c4 ((ad 5) 0) ig) :: (zG c4 ((ad 6) 0) 2 kp) :: ((wG ((ad 12) 0) ((ad 14) 0) ib0 it0 is0) ++ ((yG c4 (ad 14) in0 io0 ik0 ii0 ir0) ++ ((wG ((ad 13) 0) ((ad 15) 0) ib1 it1 is1) ++ (yG c4 (ad 15) in1 io1 ik1 ii1 ir1)))) :: (mG a (nI n) (nI ln) mpl mst mva mfy fp mry mse mbh mmi mfb (nI bc) (nI ec)) :: (aG c4 (a 1) 204 w) :: (aG c4 (a 2) 18 told) :: (zG c4 (a 3) 2 mkp) :: (aG c4 (a 4) 230 lt) :: (aG c4 (a 5) 12 rk) :: (aG c4 (a 6) 12 ri) :: (aG c4 (a 7) 12 mba) :: (aG c4 (a 8) 51 mhd) :: (aG c4 (a 9) 10 by0) :: (aG c4 (a 10) 10 bn) :: (aG c4 (a 11) 10 bd) :: (aG c4 (a 12) 10 bi) :: (aG c4 (a 13) 15 ey) :: (aG c4 (a 14) 15 ei) :: Ts) H locs := hw
  obtain ⟨hF_844, hR_844⟩ := hpq
  have hF_844 : (r_844, ec2_844) = writF n ec (xs (ix + 1)) (xs (ix + 2)) := hF_844
  have hR_844 : rowB (okW n ec (xs (ix + 1)) (xs (ix + 2))) ey ey2_844 ec (xs (ix + 1)) ∧ rowB (okW n ec (xs (ix + 1)) (xs (ix + 2))) ei ei2_844 ec (xs (ix + 2)) := hR_844
  refine lv_aload_n hx hb dL_law_847 rfl (lv_at hl 2 rfl) ?_
  refine lv_aload_n hx hb dL_law_848 rfl (lv_at hl 0 rfl) ?_
  refine lv_iload_n hx hb dL_law_849 rfl (lv_at hl 3 rfl) ?_
  refine lv_iconst (v := 1) hx hb dL_law_850 (by decide) ?_
  refine r_addN hx hb ix 1 dL_law_851 ?_
  refine r_sld hx hb hXs hbl hbA hw (ix + 1) (by omega) hL3 dL_law_852 ?_
  refine lv_aload_n hx hb dL_law_853 rfl (lv_at hl 0 rfl) ?_
  refine lv_iload_n hx hb dL_law_854 rfl (lv_at hl 3 rfl) ?_
  refine lv_iconst (v := 2) hx hb dL_law_855 (by decide) ?_
  refine r_addN hx hb ix 2 dL_law_856 ?_
  refine r_sld hx hb hXs hbl hbA hw (ix + 2) (by omega) hL3 dL_law_857 ?_
  have hw := hw.m26
  have hw := hw.m26
  have hw := hw.m14
  refine c_vi (As := [.int (xs (ix + 1)), .int (xs (ix + 2))]) (rest := [.int r_844]) ⟨hx, hb, hml, hown, hts⟩ (k_X8_write l D c4 A ((iG ad fp) :: (wG ((ad 3) 0) ((ad 4) 0) bt nt sd) :: (yG c4 (ad 4) (nI n) os kd ic br) :: (rG c4 (ad 7) (nI bc) (nI ec2_844) by0 bn bd bi ey2_844 ei2_844) :: (xG c4 (ad 1) (nI ln) xyc xfn xfp xpl xcs lt xnb xyk xyi) :: (bG c4 (ad 2) told) :: (tG c4 (ad 8) bh mi fb ba) :: (yG c4 (ad 9) n0 os0 kd0 ic0 br0) :: ((sG c4 (ad 10) ((ad 11) 0) zlc zlS zdp zmi zfo zax zco zth zpe zcd zdc zwc lv) ++ ((tG c4 (ad 11) tbh tmi tfb tba) ++ ((yG c4 (la 0) (gn 0) (go 0) (gk 0) (gi 0) (gb 0)) ++ ((yG c4 (la 1) (gn 1) (go 1) (gk 1) (gi 1) (gb 1)) ++ ((yG c4 (la 2) (gn 2) (go 2) (gk 2) (gi 2) (gb 2)) ++ ((yG c4 (la 3) (gn 3) (go 3) (gk 3) (gi 3) (gb 3)) ++ ((yG c4 (la 4) (gn 4) (go 4) (gk 4) (gi 4) (gb 4)) ++ ((yG c4 (la 5) (gn 5) (go 5) (gk 5) (gi 5) (gb 5)) ++ ((yG c4 (la 6) (gn 6) (go 6) (gk 6) (gi 6) (gb 6)) ++ ((yG c4 (la 7) (gn 7) (go 7) (gk 7) (gi 7) (gb 7)) ++ (yG c4 (la 8) (gn 8) (go 8) (gk 8) (gi 8) (gb 8)))))))))))) :: (gG c4 ((ad 5) 0) ig) :: (zG c4 ((ad 6) 0) 2 kp) :: ((wG ((ad 12) 0) ((ad 14) 0) ib0 it0 is0) ++ ((yG c4 (ad 14) in0 io0 ik0 ii0 ir0) ++ ((wG ((ad 13) 0) ((ad 15) 0) ib1 it1 is1) ++ (yG c4 (ad 15) in1 io1 ik1 ii1 ir1)))) :: (aG c4 (a 1) 204 w) :: (aG c4 (a 2) 18 told) :: (zG c4 (a 3) 2 mkp) :: (aG c4 (a 4) 230 lt) :: (aG c4 (a 5) 12 rk) :: (aG c4 (a 6) 12 ri) :: (aG c4 (a 7) 12 mba) :: (aG c4 (a 8) 51 mhd) :: (aG c4 (a 9) 10 by0) :: (aG c4 (a 10) 10 bn) :: (aG c4 (a 11) 10 bd) :: (aG c4 (a 12) 10 bi) :: Ts) a n (nI ln) mpl mst mva mfy fp mry mse mbh mmi mfb (nI bc) ec ey ei (xs (ix + 1)) (xs (ix + 2)) hn hec) (cwV 2 hts gL_law_X8_write rfl rfl rfl (by decide +kernel) (rmv (Nat.le_of_ble_eq_true rfl) (Nat.le_of_ble_eq_true rfl) hRf hRl)) hK trivial hw rfl rfl rfl hl rfl (Nat.le_of_ble_eq_true rfl) ⟨Nat.le_refl _, Nat.le_refl _⟩ dL_law_858 (fun r_858 u_858 H locs hpq hw => ?_)
  obtain ⟨ec2_858, ey2_858, ei2_858⟩ := u_858
  have hw : gW D A js.heap ((mG a (nI n) (nI ln) mpl mst mva mfy fp mry mse mbh mmi mfb (nI bc) (nI ec2_858)) :: (aG c4 (a 13) 15 ey2_858) :: (aG c4 (a 14) 15 ei2_858) :: (iG ad fp) :: (wG ((ad 3) 0) ((ad 4) 0) bt nt sd) :: (yG c4 (ad 4) (nI n) os kd ic br) :: (rG c4 (ad 7) (nI bc) (nI ec2_844) by0 bn bd bi ey2_844 ei2_844) :: (xG c4 (ad 1) (nI ln) xyc xfn xfp xpl xcs lt xnb xyk xyi) :: (bG c4 (ad 2) told) :: (tG c4 (ad 8) bh mi fb ba) :: (yG c4 (ad 9) n0 os0 kd0 ic0 br0) :: ((sG c4 (ad 10) ((ad 11) 0) zlc zlS zdp zmi zfo zax zco zth zpe zcd zdc zwc lv) ++ ((tG c4 (ad 11) tbh tmi tfb tba) ++ ((yG c4 (la 0) (gn 0) (go 0) (gk 0) (gi 0) (gb 0)) ++ ((yG c4 (la 1) (gn 1) (go 1) (gk 1) (gi 1) (gb 1)) ++ ((yG c4 (la 2) (gn 2) (go 2) (gk 2) (gi 2) (gb 2)) ++ ((yG c4 (la 3) (gn 3) (go 3) (gk 3) (gi 3) (gb 3)) ++ ((yG c4 (la 4) (gn 4) (go 4) (gk 4) (gi 4) (gb 4)) ++ ((yG c4 (la 5) (gn 5) (go 5) (gk 5) (gi 5) (gb 5)) ++ ((yG c4 (la 6) (gn 6) (go 6) (gk 6) (gi 6) (gb 6)) ++ ((yG c4 (la 7) (gn 7) (go 7) (gk 7) (gi 7) (gb 7)) ++ (yG c4 (la 8) (gn 8) (go 8) (gk 8) (gi 8) (gb 8)))))))))))) :: (gG c4 ((ad 5) 0) ig) :: (zG c4 ((ad 6) 0) 2 kp) :: ((wG ((ad 12) 0) ((ad 14) 0) ib0 it0 is0) ++ ((yG c4 (ad 14) in0 io0 ik0 ii0 ir0) ++ ((wG ((ad 13) 0) ((ad 15) 0) ib1 it1 is1) ++ (yG c4 (ad 15) in1 io1 ik1 ii1 ir1)))) :: (aG c4 (a 1) 204 w) :: (aG c4 (a 2) 18 told) :: (zG c4 (a 3) 2 mkp) :: (aG c4 (a 4) 230 lt) :: (aG c4 (a 5) 12 rk) :: (aG c4 (a 6) 12 ri) :: (aG c4 (a 7) 12 mba) :: (aG c4 (a 8) 51 mhd) :: (aG c4 (a 9) 10 by0) :: (aG c4 (a 10) 10 bn) :: (aG c4 (a 11) 10 bd) :: (aG c4 (a 12) 10 bi) :: Ts) H locs := hw
  obtain ⟨hF_858, hR_858⟩ := hpq
  have hF_858 : (r_858, ec2_858) = writF n ec (xs (ix + 1)) (xs (ix + 2)) := hF_858
  have hR_858 : rowB (okW n ec (xs (ix + 1)) (xs (ix + 2))) ey ey2_858 ec (xs (ix + 1)) ∧ rowB (okW n ec (xs (ix + 1)) (xs (ix + 2))) ei ei2_858 ec (xs (ix + 2)) := hR_858
  have er : (r_844 : Int32) = r_858 := (congrArg Prod.fst (hF_844.trans hF_858.symm))
  refine lv_icmp_eq (tgt := 961) hx hb dL_law_861 (by decide) (fun _ => ?_) (fun c_e => absurd er c_e)
  have hl : lv_has ls 4 [(0, .ref b), (1, .ref ((ad 0) 0)), (2, .ref (a 0)), (3, .int (nI ix))] := lv_sub hl [0, 1, 2, 3] rfl
  have e0 : ec2_858 = ec2_844 := congrArg Prod.snd (hF_858.trans hF_844.symm)
  have e1 : ey2_858 = ey2_844 := hR_858.1.one hR_844.1
  have e2 : ei2_858 = ei2_844 := hR_858.2.one hR_844.2
  have hwN := hw
  subst e0
  subst e1
  subst e2
  have hw := hwN
  have hw := hw.m26
  have hw := hw.m26
  have hw := hw.m26
  have hw := hw.m26
  have hw := hw.m26
  have hw := hw.m26
  have hw := hw.m26
  have hw := hw.m26
  have hw := hw.m26
  have hw := hw.m26
  have hw := hw.m26
  have hw := hw.m26
  have hw := hw.m12
  have hw := hw.m26
  have hw := hw.m26
  have hw := hw.m26
  have hw := hw.m26
  have hw := hw.m26
  have hw := hw.m26
  have hw := hw.m24
  have hw := hw.m24
  have hw := hw.m26
  have hw := hw.m25
  have hw := hw.m26
  have hw := hw.m26
  exact next _ _ _ (LI.of fp ln xyc xfn xfp xpl xcs lt xnb xyk xyi bt nt sd n os kd ic br bc ec2_858 by0 bn bd bi ey2_858 ei2_858 bh mi fb ba n0 os0 kd0 ic0 br0 zlc zlS zdp zmi zfo zax zco zth zpe zcd zdc zwc tbh tmi tfb tba gn go gk gi gb kp in0 io0 ib0 it0 is0 ik0 ii0 ir0 in1 io1 ib1 it1 is1 ik1 ii1 ir1 mpl mst mva mfy mry mse mbh mmi mfb w told mkp rk ri mba mhd q q0 q1 ⟨hw, hR1, htl, hR2, (hR3.wr hn hF_858 hR_858.1), hRI0, hRI1⟩) hl
set_option maxHeartbeats 4000000 in
set_option maxRecDepth 100000 in
theorem lc_24 {jp : Program} {l : Launch} {je : Env} {js : State} {jm : MethodId} {below : List Frame} {meth : Method} {jc : Code} {D : va_G} {c4 : Nat → ClassId} {A : Nat → Prop} {t : Nat → Nat} {b L : Nat} {xs : Nat → Int32} {ad la : Nat → Nat → Nat} {a : Nat → Nat} {lv ig : Nat → Option Nat} {Ts : List va_W} {Q : State → Prop} {H : Heap} {locs : List Loc} {ls : Array Slot} {ix : Nat} (C0 : LC jp js jm meth jc D c4 A t b L xs) (hlv : ∀ k, k < 9 → lv k = some (la k 0)) (him0 : ig 0 = some (ad 12 0)) (him1 : ig 1 = some (ad 13 0)) (hix : ix + 6 ≤ L) {fp : Int32} {ln : Nat} {xyc : Int32} {xfn : Int32} {xfp : Int32} {xpl : Int32} {xcs : Int32} {lt : Nat → Int32} {xnb : Nat → Int32} {xyk : Nat → Int32} {xyi : Nat → Int32} {bt : Int32} {nt : Int32} {sd : Int32} {n : Nat} {os : Int32} {kd : Nat → Int32} {ic : Nat → Int32} {br : Nat → Int32} {bc : Nat} {ec : Nat} {by0 : Nat → Int32} {bn : Nat → Int32} {bd : Nat → Int32} {bi : Nat → Int32} {ey : Nat → Int32} {ei : Nat → Int32} {bh : Int32} {mi : Int32} {fb : Int32} {ba : Nat → Int32} {n0 : Int32} {os0 : Int32} {kd0 : Nat → Int32} {ic0 : Nat → Int32} {br0 : Nat → Int32} {zlc : Int32} {zlS : Int32} {zdp : Int32} {zmi : Int32} {zfo : Int32} {zax : Int32} {zco : Int32} {zth : Int32} {zpe : Int32} {zcd : Int32} {zdc : Int32} {zwc : Int32} {tbh : Int32} {tmi : Int32} {tfb : Int32} {tba : Nat → Int32} {gn : Nat → Int32} {go : Nat → Int32} {gk : Nat → Nat → Int32} {gi : Nat → Nat → Int32} {gb : Nat → Nat → Int32} {kp : Nat → Int32} {in0 : Int32} {io0 : Int32} {ib0 : Int32} {it0 : Int32} {is0 : Int32} {ik0 : Nat → Int32} {ii0 : Nat → Int32} {ir0 : Nat → Int32} {in1 : Int32} {io1 : Int32} {ib1 : Int32} {it1 : Int32} {is1 : Int32} {ik1 : Nat → Int32} {ii1 : Nat → Int32} {ir1 : Nat → Int32} {mpl : Int32} {mst : Int32} {mva : Int32} {mfy : Int32} {mry : Int32} {mse : Int32} {mbh : Int32} {mmi : Int32} {mfb : Int32} {w : Nat → Int32} {told : Nat → Int32} {mkp : Nat → Int32} {rk : Nat → Int32} {ri : Nat → Int32} {mba : Nat → Int32} {mhd : Nat → Int32} {q : Nat → Yq} {q0 : Nat → Yq} {q1 : Nat → Yq} (hI : LIb D c4 A js.heap ad la a lv ig Ts fp ln xyc xfn xfp xpl xcs lt xnb xyk xyi bt nt sd n os kd ic br bc ec by0 bn bd bi ey ei bh mi fb ba n0 os0 kd0 ic0 br0 zlc zlS zdp zmi zfo zax zco zth zpe zcd zdc zwc tbh tmi tfb tba gn go gk gi gb kp in0 io0 ib0 it0 is0 ik0 ii0 ir0 in1 io1 ib1 it1 is1 ik1 ii1 ir1 mpl mst mva mfy mry mse mbh mmi mfb w told mkp rk ri mba mhd q q0 q1 H locs) (hl : lv_has ls 4 [(0, .ref b), (1, .ref ((ad 0) 0)), (2, .ref (a 0)), (3, .int (nI ix))]) (next : ∀ (H : Heap) (locs : List Loc) (ls : Array Slot), LI D c4 A js.heap ad la a lv ig Ts H locs → lv_has ls 4 [(0, .ref b), (1, .ref ((ad 0) 0)), (2, .ref (a 0)), (3, .int (nI ix))] → W jp l je room_1 js jm #[Value.ref b] below meth jc H locs 600000 7302250 Q (F0 jm 961 ls [])) : W jp l je room_1 js jm #[Value.ref b] below meth jc H locs 600000 7302250 Q (F0 jm 866 ls []) := by
  obtain ⟨hx, hb, hr, hml, hown, hts, hXs, hbl, hlocks, hK, hX, hbA, hL3⟩ := C0
  have hRf : room_1.frames = 2048 := rfl
  have hRl : room_1.locals = 84000 := rfl
  have hRc : room_1.cells = 600000 := rfl
  have hRs : room_1.slots = 7302250 := rfl
  obtain ⟨hw, hR1, htl, hR2, hR3, hRI0, hRI1⟩ := hI
  have hR1c := hR1
  obtain ⟨hn, hyR, hmY, h48, h49, h50, hbt0, hsd0⟩ := hR1c
  have hbt : rng (w 48) 1 9 := by rw [h48]; exact hbt0
  have hsd : sdOk (w 50) := by rw [h50]; exact hsd0
  have hln := hR2.1
  have hlt := hR2.2
  have hbc := hR3.1
  have hec := hR3.2.1
  have hbo := hR3.2.2.1
  have hen := hR3.2.2.2
  refine lv_aload_n hx hb dL_law_866 rfl (lv_at hl 1 rfl) ?_
  have hw := hw.m5
  have hw := hw.m1
  refine c_vi (As := []) (rest := []) ⟨hx, hb, hml, hown, hts⟩ (k_X7_tear l D c4 A ((xG c4 (ad 1) (nI ln) xyc xfn xfp xpl xcs lt xnb xyk xyi) :: (wG ((ad 3) 0) ((ad 4) 0) bt nt sd) :: (bG c4 (ad 2) told) :: (yG c4 (ad 4) (nI n) os kd ic br) :: (tG c4 (ad 8) bh mi fb ba) :: (yG c4 (ad 9) n0 os0 kd0 ic0 br0) :: ((sG c4 (ad 10) ((ad 11) 0) zlc zlS zdp zmi zfo zax zco zth zpe zcd zdc zwc lv) ++ ((tG c4 (ad 11) tbh tmi tfb tba) ++ ((yG c4 (la 0) (gn 0) (go 0) (gk 0) (gi 0) (gb 0)) ++ ((yG c4 (la 1) (gn 1) (go 1) (gk 1) (gi 1) (gb 1)) ++ ((yG c4 (la 2) (gn 2) (go 2) (gk 2) (gi 2) (gb 2)) ++ ((yG c4 (la 3) (gn 3) (go 3) (gk 3) (gi 3) (gb 3)) ++ ((yG c4 (la 4) (gn 4) (go 4) (gk 4) (gi 4) (gb 4)) ++ ((yG c4 (la 5) (gn 5) (go 5) (gk 5) (gi 5) (gb 5)) ++ ((yG c4 (la 6) (gn 6) (go 6) (gk 6) (gi 6) (gb 6)) ++ ((yG c4 (la 7) (gn 7) (go 7) (gk 7) (gi 7) (gb 7)) ++ (yG c4 (la 8) (gn 8) (go 8) (gk 8) (gi 8) (gb 8)))))))))))) :: (gG c4 ((ad 5) 0) ig) :: (zG c4 ((ad 6) 0) 2 kp) :: ((wG ((ad 12) 0) ((ad 14) 0) ib0 it0 is0) ++ ((yG c4 (ad 14) in0 io0 ik0 ii0 ir0) ++ ((wG ((ad 13) 0) ((ad 15) 0) ib1 it1 is1) ++ (yG c4 (ad 15) in1 io1 ik1 ii1 ir1)))) :: (mG a (nI n) (nI ln) mpl mst mva mfy fp mry mse mbh mmi mfb (nI bc) (nI ec)) :: (aG c4 (a 1) 204 w) :: (aG c4 (a 2) 18 told) :: (zG c4 (a 3) 2 mkp) :: (aG c4 (a 4) 230 lt) :: (aG c4 (a 5) 12 rk) :: (aG c4 (a 6) 12 ri) :: (aG c4 (a 7) 12 mba) :: (aG c4 (a 8) 51 mhd) :: (aG c4 (a 9) 10 by0) :: (aG c4 (a 10) 10 bn) :: (aG c4 (a 11) 10 bd) :: (aG c4 (a 12) 10 bi) :: (aG c4 (a 13) 15 ey) :: (aG c4 (a 14) 15 ei) :: Ts) ad fp bc ec by0 bn bd bi ey ei) (cwV 0 hts gL_law_X7_tear rfl rfl rfl (by decide +kernel) (rmv (Nat.le_of_ble_eq_true rfl) (Nat.le_of_ble_eq_true rfl) hRf hRl)) hK trivial hw rfl rfl rfl hl rfl (Nat.le_of_ble_eq_true rfl) ⟨Nat.le_refl _, Nat.le_refl _⟩ dL_law_867 (fun r_867 u_867 H locs hpq hw => ?_)
  have er_867 := hpq
  have er_867 := er_867.symm; subst er_867
  refine lv_aload_n hx hb dL_law_870 rfl (lv_at hl 2 rfl) ?_
  have hw := hw.m12
  refine c_vi (As := []) (rest := [.int (nI (bc + ec))]) ⟨hx, hb, hml, hown, hts⟩ (k_X8_tear l D c4 A ((iG ad fp) :: (rG c4 (ad 7) 0 0 by0 bn bd bi ey ei) :: (xG c4 (ad 1) (nI ln) xyc xfn xfp xpl xcs lt xnb xyk xyi) :: (wG ((ad 3) 0) ((ad 4) 0) bt nt sd) :: (bG c4 (ad 2) told) :: (yG c4 (ad 4) (nI n) os kd ic br) :: (tG c4 (ad 8) bh mi fb ba) :: (yG c4 (ad 9) n0 os0 kd0 ic0 br0) :: ((sG c4 (ad 10) ((ad 11) 0) zlc zlS zdp zmi zfo zax zco zth zpe zcd zdc zwc lv) ++ ((tG c4 (ad 11) tbh tmi tfb tba) ++ ((yG c4 (la 0) (gn 0) (go 0) (gk 0) (gi 0) (gb 0)) ++ ((yG c4 (la 1) (gn 1) (go 1) (gk 1) (gi 1) (gb 1)) ++ ((yG c4 (la 2) (gn 2) (go 2) (gk 2) (gi 2) (gb 2)) ++ ((yG c4 (la 3) (gn 3) (go 3) (gk 3) (gi 3) (gb 3)) ++ ((yG c4 (la 4) (gn 4) (go 4) (gk 4) (gi 4) (gb 4)) ++ ((yG c4 (la 5) (gn 5) (go 5) (gk 5) (gi 5) (gb 5)) ++ ((yG c4 (la 6) (gn 6) (go 6) (gk 6) (gi 6) (gb 6)) ++ ((yG c4 (la 7) (gn 7) (go 7) (gk 7) (gi 7) (gb 7)) ++ (yG c4 (la 8) (gn 8) (go 8) (gk 8) (gi 8) (gb 8)))))))))))) :: (gG c4 ((ad 5) 0) ig) :: (zG c4 ((ad 6) 0) 2 kp) :: ((wG ((ad 12) 0) ((ad 14) 0) ib0 it0 is0) ++ ((yG c4 (ad 14) in0 io0 ik0 ii0 ir0) ++ ((wG ((ad 13) 0) ((ad 15) 0) ib1 it1 is1) ++ (yG c4 (ad 15) in1 io1 ik1 ii1 ir1)))) :: (aG c4 (a 1) 204 w) :: (aG c4 (a 2) 18 told) :: (zG c4 (a 3) 2 mkp) :: (aG c4 (a 4) 230 lt) :: (aG c4 (a 5) 12 rk) :: (aG c4 (a 6) 12 ri) :: (aG c4 (a 7) 12 mba) :: (aG c4 (a 8) 51 mhd) :: (aG c4 (a 9) 10 by0) :: (aG c4 (a 10) 10 bn) :: (aG c4 (a 11) 10 bd) :: (aG c4 (a 12) 10 bi) :: (aG c4 (a 13) 15 ey) :: (aG c4 (a 14) 15 ei) :: Ts) a (nI n) (nI ln) mpl mst mva mfy fp mry mse mbh mmi mfb bc ec) (cwV 0 hts gL_law_X8_tear rfl rfl rfl (by decide +kernel) (rmv (Nat.le_of_ble_eq_true rfl) (Nat.le_of_ble_eq_true rfl) hRf hRl)) hK trivial hw rfl rfl rfl hl rfl (Nat.le_of_ble_eq_true rfl) ⟨Nat.le_refl _, Nat.le_refl _⟩ dL_law_871 (fun r_871 u_871 H locs hpq hw => ?_)
  have er_871 := hpq
  have er_871 := er_871.symm; subst er_871
  have er : ((nI (bc + ec)) : Int32) = (nI (bc + ec)) := rfl
  refine lv_icmp_eq (tgt := 961) hx hb dL_law_874 (by decide) (fun _ => ?_) (fun c_e => absurd er c_e)
  have hl : lv_has ls 4 [(0, .ref b), (1, .ref ((ad 0) 0)), (2, .ref (a 0)), (3, .int (nI ix))] := lv_sub hl [0, 1, 2, 3] rfl
  have hw := hw.m12
  have hw := hw.m12
  have hw := hw.m12
  have hw := hw.m12
  have hw := hw.m12
  have hw := hw.m12
  have hw := hw.m8
  have hw := hw.m12
  have hw := hw.m12
  have hw := hw.m12
  have hw := hw.m12
  have hw := hw.m12
  exact next _ _ _ (LI.of fp ln xyc xfn xfp xpl xcs lt xnb xyk xyi bt nt sd n os kd ic br 0 0 by0 bn bd bi ey ei bh mi fb ba n0 os0 kd0 ic0 br0 zlc zlS zdp zmi zfo zax zco zth zpe zcd zdc zwc tbh tmi tfb tba gn go gk gi gb kp in0 io0 ib0 it0 is0 ik0 ii0 ir0 in1 io1 ib1 it1 is1 ik1 ii1 ir1 mpl mst mva mfy mry mse mbh mmi mfb w told mkp rk ri mba mhd q q0 q1 ⟨hw, hR1, htl, hR2, (RL3.z (bc := 0) (ec := 0)), hRI0, hRI1⟩) hl
set_option maxHeartbeats 4000000 in
set_option maxRecDepth 100000 in
theorem lc_25 {jp : Program} {l : Launch} {je : Env} {js : State} {jm : MethodId} {below : List Frame} {meth : Method} {jc : Code} {D : va_G} {c4 : Nat → ClassId} {A : Nat → Prop} {t : Nat → Nat} {b L : Nat} {xs : Nat → Int32} {ad la : Nat → Nat → Nat} {a : Nat → Nat} {lv ig : Nat → Option Nat} {Ts : List va_W} {Q : State → Prop} {H : Heap} {locs : List Loc} {ls : Array Slot} {ix : Nat} (C0 : LC jp js jm meth jc D c4 A t b L xs) (hlv : ∀ k, k < 9 → lv k = some (la k 0)) (him0 : ig 0 = some (ad 12 0)) (him1 : ig 1 = some (ad 13 0)) (hix : ix + 6 ≤ L) {fp : Int32} {ln : Nat} {xyc : Int32} {xfn : Int32} {xfp : Int32} {xpl : Int32} {xcs : Int32} {lt : Nat → Int32} {xnb : Nat → Int32} {xyk : Nat → Int32} {xyi : Nat → Int32} {bt : Int32} {nt : Int32} {sd : Int32} {n : Nat} {os : Int32} {kd : Nat → Int32} {ic : Nat → Int32} {br : Nat → Int32} {bc : Nat} {ec : Nat} {by0 : Nat → Int32} {bn : Nat → Int32} {bd : Nat → Int32} {bi : Nat → Int32} {ey : Nat → Int32} {ei : Nat → Int32} {bh : Int32} {mi : Int32} {fb : Int32} {ba : Nat → Int32} {n0 : Int32} {os0 : Int32} {kd0 : Nat → Int32} {ic0 : Nat → Int32} {br0 : Nat → Int32} {zlc : Int32} {zlS : Int32} {zdp : Int32} {zmi : Int32} {zfo : Int32} {zax : Int32} {zco : Int32} {zth : Int32} {zpe : Int32} {zcd : Int32} {zdc : Int32} {zwc : Int32} {tbh : Int32} {tmi : Int32} {tfb : Int32} {tba : Nat → Int32} {gn : Nat → Int32} {go : Nat → Int32} {gk : Nat → Nat → Int32} {gi : Nat → Nat → Int32} {gb : Nat → Nat → Int32} {kp : Nat → Int32} {in0 : Int32} {io0 : Int32} {ib0 : Int32} {it0 : Int32} {is0 : Int32} {ik0 : Nat → Int32} {ii0 : Nat → Int32} {ir0 : Nat → Int32} {in1 : Int32} {io1 : Int32} {ib1 : Int32} {it1 : Int32} {is1 : Int32} {ik1 : Nat → Int32} {ii1 : Nat → Int32} {ir1 : Nat → Int32} {mpl : Int32} {mst : Int32} {mva : Int32} {mfy : Int32} {mry : Int32} {mse : Int32} {mbh : Int32} {mmi : Int32} {mfb : Int32} {w : Nat → Int32} {told : Nat → Int32} {mkp : Nat → Int32} {rk : Nat → Int32} {ri : Nat → Int32} {mba : Nat → Int32} {mhd : Nat → Int32} {q : Nat → Yq} {q0 : Nat → Yq} {q1 : Nat → Yq} (hI : LIb D c4 A js.heap ad la a lv ig Ts fp ln xyc xfn xfp xpl xcs lt xnb xyk xyi bt nt sd n os kd ic br bc ec by0 bn bd bi ey ei bh mi fb ba n0 os0 kd0 ic0 br0 zlc zlS zdp zmi zfo zax zco zth zpe zcd zdc zwc tbh tmi tfb tba gn go gk gi gb kp in0 io0 ib0 it0 is0 ik0 ii0 ir0 in1 io1 ib1 it1 is1 ik1 ii1 ir1 mpl mst mva mfy mry mse mbh mmi mfb w told mkp rk ri mba mhd q q0 q1 H locs) (hl : lv_has ls 4 [(0, .ref b), (1, .ref ((ad 0) 0)), (2, .ref (a 0)), (3, .int (nI ix))]) (next : ∀ (H : Heap) (locs : List Loc) (ls : Array Slot), LI D c4 A js.heap ad la a lv ig Ts H locs → lv_has ls 4 [(0, .ref b), (1, .ref ((ad 0) 0)), (2, .ref (a 0)), (3, .int (nI ix))] → W jp l je room_1 js jm #[Value.ref b] below meth jc H locs 600000 7302250 Q (F0 jm 961 ls [])) : W jp l je room_1 js jm #[Value.ref b] below meth jc H locs 600000 7302250 Q (F0 jm 879 ls []) := by
  obtain ⟨hx, hb, hr, hml, hown, hts, hXs, hbl, hlocks, hK, hX, hbA, hL3⟩ := C0
  have hRf : room_1.frames = 2048 := rfl
  have hRl : room_1.locals = 84000 := rfl
  have hRc : room_1.cells = 600000 := rfl
  have hRs : room_1.slots = 7302250 := rfl
  obtain ⟨hw, hR1, htl, hR2, hR3, hRI0, hRI1⟩ := hI
  have hR1c := hR1
  obtain ⟨hn, hyR, hmY, h48, h49, h50, hbt0, hsd0⟩ := hR1c
  have hbt : rng (w 48) 1 9 := by rw [h48]; exact hbt0
  have hsd : sdOk (w 50) := by rw [h50]; exact hsd0
  have hln := hR2.1
  have hlt := hR2.2
  have hbc := hR3.1
  have hec := hR3.2.1
  have hbo := hR3.2.2.1
  have hen := hR3.2.2.2
  refine lv_aload_n hx hb dL_law_879 rfl (lv_at hl 1 rfl) ?_
  have hw := hw.m5
  have hw := hw.m5
  have hw := hw.m4
  have hw := hw.m3
  refine c_vi (As := []) (rest := []) ⟨hx, hb, hml, hown, hts⟩ (k_X7_judge l D c4 A ((xG c4 (ad 1) (nI ln) xyc xfn xfp xpl xcs lt xnb xyk xyi) :: (bG c4 (ad 2) told) :: (tG c4 (ad 8) bh mi fb ba) :: (yG c4 (ad 9) n0 os0 kd0 ic0 br0) :: ((sG c4 (ad 10) ((ad 11) 0) zlc zlS zdp zmi zfo zax zco zth zpe zcd zdc zwc lv) ++ ((tG c4 (ad 11) tbh tmi tfb tba) ++ ((yG c4 (la 0) (gn 0) (go 0) (gk 0) (gi 0) (gb 0)) ++ ((yG c4 (la 1) (gn 1) (go 1) (gk 1) (gi 1) (gb 1)) ++ ((yG c4 (la 2) (gn 2) (go 2) (gk 2) (gi 2) (gb 2)) ++ ((yG c4 (la 3) (gn 3) (go 3) (gk 3) (gi 3) (gb 3)) ++ ((yG c4 (la 4) (gn 4) (go 4) (gk 4) (gi 4) (gb 4)) ++ ((yG c4 (la 5) (gn 5) (go 5) (gk 5) (gi 5) (gb 5)) ++ ((yG c4 (la 6) (gn 6) (go 6) (gk 6) (gi 6) (gb 6)) ++ ((yG c4 (la 7) (gn 7) (go 7) (gk 7) (gi 7) (gb 7)) ++ (yG c4 (la 8) (gn 8) (go 8) (gk 8) (gi 8) (gb 8)))))))))))) :: (gG c4 ((ad 5) 0) ig) :: (zG c4 ((ad 6) 0) 2 kp) :: ((wG ((ad 12) 0) ((ad 14) 0) ib0 it0 is0) ++ ((yG c4 (ad 14) in0 io0 ik0 ii0 ir0) ++ ((wG ((ad 13) 0) ((ad 15) 0) ib1 it1 is1) ++ (yG c4 (ad 15) in1 io1 ik1 ii1 ir1)))) :: (mG a (nI n) (nI ln) mpl mst mva mfy fp mry mse mbh mmi mfb (nI bc) (nI ec)) :: (aG c4 (a 1) 204 w) :: (aG c4 (a 2) 18 told) :: (zG c4 (a 3) 2 mkp) :: (aG c4 (a 4) 230 lt) :: (aG c4 (a 5) 12 rk) :: (aG c4 (a 6) 12 ri) :: (aG c4 (a 7) 12 mba) :: (aG c4 (a 8) 51 mhd) :: (aG c4 (a 9) 10 by0) :: (aG c4 (a 10) 10 bn) :: (aG c4 (a 11) 10 bd) :: (aG c4 (a 12) 10 bi) :: (aG c4 (a 13) 15 ey) :: (aG c4 (a 14) 15 ei) :: Ts) ad fp bt nt sd n os kd ic br q bc ec by0 bn bd bi ey ei hn hyR hec hen) (cwV 0 hts gL_law_X7_judge rfl rfl rfl (by decide +kernel) (rmv (Nat.le_of_ble_eq_true rfl) (Nat.le_of_ble_eq_true rfl) hRf hRl)) hK trivial hw rfl rfl rfl hl rfl (Nat.le_of_ble_eq_true rfl) ⟨Nat.le_refl _, Nat.le_refl _⟩ dL_law_880 (fun r_880 u_880 H locs hpq hw => ?_)
  have hF_880 := hpq
  refine lv_aload_n hx hb dL_law_883 rfl (lv_at hl 2 rfl) ?_
  have hw := hw.m26
  have hw := hw.m26
  have hw := hw.m15
  have hw := hw.m15
  refine c_vi (As := []) (rest := [.int r_880]) ⟨hx, hb, hml, hown, hts⟩ (k_X8_judge l D c4 A ((iG ad fp) :: (wG ((ad 3) 0) ((ad 4) 0) bt nt sd) :: (yG c4 (ad 4) (nI n) os kd ic br) :: (rG c4 (ad 7) (nI bc) (nI ec) by0 bn bd bi ey ei) :: (xG c4 (ad 1) (nI ln) xyc xfn xfp xpl xcs lt xnb xyk xyi) :: (bG c4 (ad 2) told) :: (tG c4 (ad 8) bh mi fb ba) :: (yG c4 (ad 9) n0 os0 kd0 ic0 br0) :: ((sG c4 (ad 10) ((ad 11) 0) zlc zlS zdp zmi zfo zax zco zth zpe zcd zdc zwc lv) ++ ((tG c4 (ad 11) tbh tmi tfb tba) ++ ((yG c4 (la 0) (gn 0) (go 0) (gk 0) (gi 0) (gb 0)) ++ ((yG c4 (la 1) (gn 1) (go 1) (gk 1) (gi 1) (gb 1)) ++ ((yG c4 (la 2) (gn 2) (go 2) (gk 2) (gi 2) (gb 2)) ++ ((yG c4 (la 3) (gn 3) (go 3) (gk 3) (gi 3) (gb 3)) ++ ((yG c4 (la 4) (gn 4) (go 4) (gk 4) (gi 4) (gb 4)) ++ ((yG c4 (la 5) (gn 5) (go 5) (gk 5) (gi 5) (gb 5)) ++ ((yG c4 (la 6) (gn 6) (go 6) (gk 6) (gi 6) (gb 6)) ++ ((yG c4 (la 7) (gn 7) (go 7) (gk 7) (gi 7) (gb 7)) ++ (yG c4 (la 8) (gn 8) (go 8) (gk 8) (gi 8) (gb 8)))))))))))) :: (gG c4 ((ad 5) 0) ig) :: (zG c4 ((ad 6) 0) 2 kp) :: ((wG ((ad 12) 0) ((ad 14) 0) ib0 it0 is0) ++ ((yG c4 (ad 14) in0 io0 ik0 ii0 ir0) ++ ((wG ((ad 13) 0) ((ad 15) 0) ib1 it1 is1) ++ (yG c4 (ad 15) in1 io1 ik1 ii1 ir1)))) :: (aG c4 (a 2) 18 told) :: (zG c4 (a 3) 2 mkp) :: (aG c4 (a 4) 230 lt) :: (aG c4 (a 5) 12 rk) :: (aG c4 (a 6) 12 ri) :: (aG c4 (a 7) 12 mba) :: (aG c4 (a 8) 51 mhd) :: (aG c4 (a 9) 10 by0) :: (aG c4 (a 10) 10 bn) :: (aG c4 (a 11) 10 bd) :: (aG c4 (a 12) 10 bi) :: Ts) a n (nI ln) mpl mst mva mfy fp mry mse mbh mmi mfb (nI bc) ec w q ey ei hn hmY hec hen) (cwV 0 hts gL_law_X8_judge rfl rfl rfl (by decide +kernel) (rmv (Nat.le_of_ble_eq_true rfl) (Nat.le_of_ble_eq_true rfl) hRf hRl)) hK trivial hw rfl rfl rfl hl rfl (Nat.le_of_ble_eq_true rfl) ⟨Nat.le_refl _, Nat.le_refl _⟩ dL_law_884 (fun r_884 u_884 H locs hpq hw => ?_)
  have hF_884 := hpq
  have er : (r_880 : Int32) = r_884 := (hF_880.one hF_884)
  refine lv_icmp_eq (tgt := 961) hx hb dL_law_887 (by decide) (fun _ => ?_) (fun c_e => absurd er c_e)
  have hl : lv_has ls 4 [(0, .ref b), (1, .ref ((ad 0) 0)), (2, .ref (a 0)), (3, .int (nI ix))] := lv_sub hl [0, 1, 2, 3] rfl
  have hw := hw.m26
  have hw := hw.m26
  have hw := hw.m26
  have hw := hw.m26
  have hw := hw.m26
  have hw := hw.m26
  have hw := hw.m26
  have hw := hw.m26
  have hw := hw.m26
  have hw := hw.m26
  have hw := hw.m26
  have hw := hw.m12
  have hw := hw.m12
  have hw := hw.m26
  have hw := hw.m26
  have hw := hw.m26
  have hw := hw.m26
  have hw := hw.m26
  have hw := hw.m26
  have hw := hw.m24
  have hw := hw.m24
  have hw := hw.m26
  have hw := hw.m25
  have hw := hw.m26
  have hw := hw.m26
  exact next _ _ _ (LI.of fp ln xyc xfn xfp xpl xcs lt xnb xyk xyi bt nt sd n os kd ic br bc ec by0 bn bd bi ey ei bh mi fb ba n0 os0 kd0 ic0 br0 zlc zlS zdp zmi zfo zax zco zth zpe zcd zdc zwc tbh tmi tfb tba gn go gk gi gb kp in0 io0 ib0 it0 is0 ik0 ii0 ir0 in1 io1 ib1 it1 is1 ik1 ii1 ir1 mpl mst mva mfy mry mse mbh mmi mfb w told mkp rk ri mba mhd q q0 q1 ⟨hw, hR1, htl, hR2, hR3, hRI0, hRI1⟩) hl
set_option maxHeartbeats 4000000 in
set_option maxRecDepth 100000 in
theorem lc_26 {jp : Program} {l : Launch} {je : Env} {js : State} {jm : MethodId} {below : List Frame} {meth : Method} {jc : Code} {D : va_G} {c4 : Nat → ClassId} {A : Nat → Prop} {t : Nat → Nat} {b L : Nat} {xs : Nat → Int32} {ad la : Nat → Nat → Nat} {a : Nat → Nat} {lv ig : Nat → Option Nat} {Ts : List va_W} {Q : State → Prop} {H : Heap} {locs : List Loc} {ls : Array Slot} {ix : Nat} (C0 : LC jp js jm meth jc D c4 A t b L xs) (hlv : ∀ k, k < 9 → lv k = some (la k 0)) (him0 : ig 0 = some (ad 12 0)) (him1 : ig 1 = some (ad 13 0)) (hix : ix + 6 ≤ L) {fp : Int32} {ln : Nat} {xyc : Int32} {xfn : Int32} {xfp : Int32} {xpl : Int32} {xcs : Int32} {lt : Nat → Int32} {xnb : Nat → Int32} {xyk : Nat → Int32} {xyi : Nat → Int32} {bt : Int32} {nt : Int32} {sd : Int32} {n : Nat} {os : Int32} {kd : Nat → Int32} {ic : Nat → Int32} {br : Nat → Int32} {bc : Nat} {ec : Nat} {by0 : Nat → Int32} {bn : Nat → Int32} {bd : Nat → Int32} {bi : Nat → Int32} {ey : Nat → Int32} {ei : Nat → Int32} {bh : Int32} {mi : Int32} {fb : Int32} {ba : Nat → Int32} {n0 : Int32} {os0 : Int32} {kd0 : Nat → Int32} {ic0 : Nat → Int32} {br0 : Nat → Int32} {zlc : Int32} {zlS : Int32} {zdp : Int32} {zmi : Int32} {zfo : Int32} {zax : Int32} {zco : Int32} {zth : Int32} {zpe : Int32} {zcd : Int32} {zdc : Int32} {zwc : Int32} {tbh : Int32} {tmi : Int32} {tfb : Int32} {tba : Nat → Int32} {gn : Nat → Int32} {go : Nat → Int32} {gk : Nat → Nat → Int32} {gi : Nat → Nat → Int32} {gb : Nat → Nat → Int32} {kp : Nat → Int32} {in0 : Int32} {io0 : Int32} {ib0 : Int32} {it0 : Int32} {is0 : Int32} {ik0 : Nat → Int32} {ii0 : Nat → Int32} {ir0 : Nat → Int32} {in1 : Int32} {io1 : Int32} {ib1 : Int32} {it1 : Int32} {is1 : Int32} {ik1 : Nat → Int32} {ii1 : Nat → Int32} {ir1 : Nat → Int32} {mpl : Int32} {mst : Int32} {mva : Int32} {mfy : Int32} {mry : Int32} {mse : Int32} {mbh : Int32} {mmi : Int32} {mfb : Int32} {w : Nat → Int32} {told : Nat → Int32} {mkp : Nat → Int32} {rk : Nat → Int32} {ri : Nat → Int32} {mba : Nat → Int32} {mhd : Nat → Int32} {q : Nat → Yq} {q0 : Nat → Yq} {q1 : Nat → Yq} (hI : LIb D c4 A js.heap ad la a lv ig Ts fp ln xyc xfn xfp xpl xcs lt xnb xyk xyi bt nt sd n os kd ic br bc ec by0 bn bd bi ey ei bh mi fb ba n0 os0 kd0 ic0 br0 zlc zlS zdp zmi zfo zax zco zth zpe zcd zdc zwc tbh tmi tfb tba gn go gk gi gb kp in0 io0 ib0 it0 is0 ik0 ii0 ir0 in1 io1 ib1 it1 is1 ik1 ii1 ir1 mpl mst mva mfy mry mse mbh mmi mfb w told mkp rk ri mba mhd q q0 q1 H locs) (hl : lv_has ls 4 [(0, .ref b), (1, .ref ((ad 0) 0)), (2, .ref (a 0)), (3, .int (nI ix))]) (next : ∀ (H : Heap) (locs : List Loc) (ls : Array Slot), LI D c4 A js.heap ad la a lv ig Ts H locs → lv_has ls 4 [(0, .ref b), (1, .ref ((ad 0) 0)), (2, .ref (a 0)), (3, .int (nI ix))] → W jp l je room_1 js jm #[Value.ref b] below meth jc H locs 600000 7302250 Q (F0 jm 961 ls [])) : W jp l je room_1 js jm #[Value.ref b] below meth jc H locs 600000 7302250 Q (F0 jm 892 ls []) := by
  obtain ⟨hx, hb, hr, hml, hown, hts, hXs, hbl, hlocks, hK, hX, hbA, hL3⟩ := C0
  have hRf : room_1.frames = 2048 := rfl
  have hRl : room_1.locals = 84000 := rfl
  have hRc : room_1.cells = 600000 := rfl
  have hRs : room_1.slots = 7302250 := rfl
  obtain ⟨hw, hR1, htl, hR2, hR3, hRI0, hRI1⟩ := hI
  have hR1c := hR1
  obtain ⟨hn, hyR, hmY, h48, h49, h50, hbt0, hsd0⟩ := hR1c
  have hbt : rng (w 48) 1 9 := by rw [h48]; exact hbt0
  have hsd : sdOk (w 50) := by rw [h50]; exact hsd0
  have hln := hR2.1
  have hlt := hR2.2
  have hbc := hR3.1
  have hec := hR3.2.1
  have hbo := hR3.2.2.1
  have hen := hR3.2.2.2
  refine lv_aload_n hx hb dL_law_892 rfl (lv_at hl 1 rfl) ?_
  refine lv_aload_n hx hb dL_law_893 rfl (lv_at hl 0 rfl) ?_
  refine lv_iload_n hx hb dL_law_894 rfl (lv_at hl 3 rfl) ?_
  refine lv_iconst (v := 1) hx hb dL_law_895 (by decide) ?_
  refine r_addN hx hb ix 1 dL_law_896 ?_
  refine r_sld hx hb hXs hbl hbA hw (ix + 1) (by omega) hL3 dL_law_897 ?_
  have hw := hw.m2
  have hw := hw.m1
  refine c_vi (As := [.int (xs (ix + 1))]) (rest := []) ⟨hx, hb, hml, hown, hts⟩ (k_X7_seed l D c4 A ((xG c4 (ad 1) (nI ln) xyc xfn xfp xpl xcs lt xnb xyk xyi) :: (bG c4 (ad 2) told) :: (yG c4 (ad 4) (nI n) os kd ic br) :: (rG c4 (ad 7) (nI bc) (nI ec) by0 bn bd bi ey ei) :: (tG c4 (ad 8) bh mi fb ba) :: (yG c4 (ad 9) n0 os0 kd0 ic0 br0) :: ((sG c4 (ad 10) ((ad 11) 0) zlc zlS zdp zmi zfo zax zco zth zpe zcd zdc zwc lv) ++ ((tG c4 (ad 11) tbh tmi tfb tba) ++ ((yG c4 (la 0) (gn 0) (go 0) (gk 0) (gi 0) (gb 0)) ++ ((yG c4 (la 1) (gn 1) (go 1) (gk 1) (gi 1) (gb 1)) ++ ((yG c4 (la 2) (gn 2) (go 2) (gk 2) (gi 2) (gb 2)) ++ ((yG c4 (la 3) (gn 3) (go 3) (gk 3) (gi 3) (gb 3)) ++ ((yG c4 (la 4) (gn 4) (go 4) (gk 4) (gi 4) (gb 4)) ++ ((yG c4 (la 5) (gn 5) (go 5) (gk 5) (gi 5) (gb 5)) ++ ((yG c4 (la 6) (gn 6) (go 6) (gk 6) (gi 6) (gb 6)) ++ ((yG c4 (la 7) (gn 7) (go 7) (gk 7) (gi 7) (gb 7)) ++ (yG c4 (la 8) (gn 8) (go 8) (gk 8) (gi 8) (gb 8)))))))))))) :: (gG c4 ((ad 5) 0) ig) :: (zG c4 ((ad 6) 0) 2 kp) :: ((wG ((ad 12) 0) ((ad 14) 0) ib0 it0 is0) ++ ((yG c4 (ad 14) in0 io0 ik0 ii0 ir0) ++ ((wG ((ad 13) 0) ((ad 15) 0) ib1 it1 is1) ++ (yG c4 (ad 15) in1 io1 ik1 ii1 ir1)))) :: (mG a (nI n) (nI ln) mpl mst mva mfy fp mry mse mbh mmi mfb (nI bc) (nI ec)) :: (aG c4 (a 1) 204 w) :: (aG c4 (a 2) 18 told) :: (zG c4 (a 3) 2 mkp) :: (aG c4 (a 4) 230 lt) :: (aG c4 (a 5) 12 rk) :: (aG c4 (a 6) 12 ri) :: (aG c4 (a 7) 12 mba) :: (aG c4 (a 8) 51 mhd) :: (aG c4 (a 9) 10 by0) :: (aG c4 (a 10) 10 bn) :: (aG c4 (a 11) 10 bd) :: (aG c4 (a 12) 10 bi) :: (aG c4 (a 13) 15 ey) :: (aG c4 (a 14) 15 ei) :: Ts) ad fp ((ad 4) 0) bt nt sd (xs (ix + 1))) (cwV 1 hts gL_law_X7_seed rfl rfl rfl (by decide +kernel) (rmv (Nat.le_of_ble_eq_true rfl) (Nat.le_of_ble_eq_true rfl) hRf hRl)) hK trivial hw rfl rfl rfl hl rfl (Nat.le_of_ble_eq_true rfl) ⟨Nat.le_refl _, Nat.le_refl _⟩ dL_law_898 (fun r_898 u_898 H locs hpq hw => ?_)
  obtain ⟨sd2_898, rfl⟩ : ∃ z, z = u_898 := ⟨_, rfl⟩
  have hw : gW D A js.heap ((iG ad fp) :: (wG ((ad 3) 0) ((ad 4) 0) bt nt sd2_898) :: (xG c4 (ad 1) (nI ln) xyc xfn xfp xpl xcs lt xnb xyk xyi) :: (bG c4 (ad 2) told) :: (yG c4 (ad 4) (nI n) os kd ic br) :: (rG c4 (ad 7) (nI bc) (nI ec) by0 bn bd bi ey ei) :: (tG c4 (ad 8) bh mi fb ba) :: (yG c4 (ad 9) n0 os0 kd0 ic0 br0) :: ((sG c4 (ad 10) ((ad 11) 0) zlc zlS zdp zmi zfo zax zco zth zpe zcd zdc zwc lv) ++ ((tG c4 (ad 11) tbh tmi tfb tba) ++ ((yG c4 (la 0) (gn 0) (go 0) (gk 0) (gi 0) (gb 0)) ++ ((yG c4 (la 1) (gn 1) (go 1) (gk 1) (gi 1) (gb 1)) ++ ((yG c4 (la 2) (gn 2) (go 2) (gk 2) (gi 2) (gb 2)) ++ ((yG c4 (la 3) (gn 3) (go 3) (gk 3) (gi 3) (gb 3)) ++ ((yG c4 (la 4) (gn 4) (go 4) (gk 4) (gi 4) (gb 4)) ++ ((yG c4 (la 5) (gn 5) (go 5) (gk 5) (gi 5) (gb 5)) ++ ((yG c4 (la 6) (gn 6) (go 6) (gk 6) (gi 6) (gb 6)) ++ ((yG c4 (la 7) (gn 7) (go 7) (gk 7) (gi 7) (gb 7)) ++ (yG c4 (la 8) (gn 8) (go 8) (gk 8) (gi 8) (gb 8)))))))))))) :: (gG c4 ((ad 5) 0) ig) :: (zG c4 ((ad 6) 0) 2 kp) :: ((wG ((ad 12) 0) ((ad 14) 0) ib0 it0 is0) ++ ((yG c4 (ad 14) in0 io0 ik0 ii0 ir0) ++ ((wG ((ad 13) 0) ((ad 15) 0) ib1 it1 is1) ++ (yG c4 (ad 15) in1 io1 ik1 ii1 ir1)))) :: (mG a (nI n) (nI ln) mpl mst mva mfy fp mry mse mbh mmi mfb (nI bc) (nI ec)) :: (aG c4 (a 1) 204 w) :: (aG c4 (a 2) 18 told) :: (zG c4 (a 3) 2 mkp) :: (aG c4 (a 4) 230 lt) :: (aG c4 (a 5) 12 rk) :: (aG c4 (a 6) 12 ri) :: (aG c4 (a 7) 12 mba) :: (aG c4 (a 8) 51 mhd) :: (aG c4 (a 9) 10 by0) :: (aG c4 (a 10) 10 bn) :: (aG c4 (a 11) 10 bd) :: (aG c4 (a 12) 10 bi) :: (aG c4 (a 13) 15 ey) :: (aG c4 (a 14) 15 ei) :: Ts) H locs := hw
  have hF_898 := hpq
  have hF_898 : (r_898, sd2_898) = seedF (xs (ix + 1)) sd := hF_898
  refine lv_aload_n hx hb dL_law_901 rfl (lv_at hl 2 rfl) ?_
  refine lv_aload_n hx hb dL_law_902 rfl (lv_at hl 0 rfl) ?_
  refine lv_iload_n hx hb dL_law_903 rfl (lv_at hl 3 rfl) ?_
  refine lv_iconst (v := 1) hx hb dL_law_904 (by decide) ?_
  refine r_addN hx hb ix 1 dL_law_905 ?_
  refine r_sld hx hb hXs hbl hbA hw (ix + 1) (by omega) hL3 dL_law_906 ?_
  have hw := hw.m13
  have hw := hw.m13
  refine c_vi (As := [.int (xs (ix + 1))]) (rest := [.int r_898]) ⟨hx, hb, hml, hown, hts⟩ (k_X8_seed l D c4 A ((iG ad fp) :: (wG ((ad 3) 0) ((ad 4) 0) bt nt sd2_898) :: (xG c4 (ad 1) (nI ln) xyc xfn xfp xpl xcs lt xnb xyk xyi) :: (bG c4 (ad 2) told) :: (yG c4 (ad 4) (nI n) os kd ic br) :: (rG c4 (ad 7) (nI bc) (nI ec) by0 bn bd bi ey ei) :: (tG c4 (ad 8) bh mi fb ba) :: (yG c4 (ad 9) n0 os0 kd0 ic0 br0) :: ((sG c4 (ad 10) ((ad 11) 0) zlc zlS zdp zmi zfo zax zco zth zpe zcd zdc zwc lv) ++ ((tG c4 (ad 11) tbh tmi tfb tba) ++ ((yG c4 (la 0) (gn 0) (go 0) (gk 0) (gi 0) (gb 0)) ++ ((yG c4 (la 1) (gn 1) (go 1) (gk 1) (gi 1) (gb 1)) ++ ((yG c4 (la 2) (gn 2) (go 2) (gk 2) (gi 2) (gb 2)) ++ ((yG c4 (la 3) (gn 3) (go 3) (gk 3) (gi 3) (gb 3)) ++ ((yG c4 (la 4) (gn 4) (go 4) (gk 4) (gi 4) (gb 4)) ++ ((yG c4 (la 5) (gn 5) (go 5) (gk 5) (gi 5) (gb 5)) ++ ((yG c4 (la 6) (gn 6) (go 6) (gk 6) (gi 6) (gb 6)) ++ ((yG c4 (la 7) (gn 7) (go 7) (gk 7) (gi 7) (gb 7)) ++ (yG c4 (la 8) (gn 8) (go 8) (gk 8) (gi 8) (gb 8)))))))))))) :: (gG c4 ((ad 5) 0) ig) :: (zG c4 ((ad 6) 0) 2 kp) :: ((wG ((ad 12) 0) ((ad 14) 0) ib0 it0 is0) ++ ((yG c4 (ad 14) in0 io0 ik0 ii0 ir0) ++ ((wG ((ad 13) 0) ((ad 15) 0) ib1 it1 is1) ++ (yG c4 (ad 15) in1 io1 ik1 ii1 ir1)))) :: (aG c4 (a 2) 18 told) :: (zG c4 (a 3) 2 mkp) :: (aG c4 (a 4) 230 lt) :: (aG c4 (a 5) 12 rk) :: (aG c4 (a 6) 12 ri) :: (aG c4 (a 7) 12 mba) :: (aG c4 (a 8) 51 mhd) :: (aG c4 (a 9) 10 by0) :: (aG c4 (a 10) 10 bn) :: (aG c4 (a 11) 10 bd) :: (aG c4 (a 12) 10 bi) :: (aG c4 (a 13) 15 ey) :: (aG c4 (a 14) 15 ei) :: Ts) a (nI n) (nI ln) mpl mst mva mfy fp mry mse mbh mmi mfb (nI bc) (nI ec) w (xs (ix + 1))) (cwV 1 hts gL_law_X8_seed rfl rfl rfl (by decide +kernel) (rmv (Nat.le_of_ble_eq_true rfl) (Nat.le_of_ble_eq_true rfl) hRf hRl)) hK trivial hw rfl rfl rfl hl rfl (Nat.le_of_ble_eq_true rfl) ⟨Nat.le_refl _, Nat.le_refl _⟩ dL_law_907 (fun r_907 u_907 H locs hpq hw => ?_)
  obtain ⟨w2_907, rfl⟩ : ∃ z, z = u_907 := ⟨_, rfl⟩
  have hw : gW D A js.heap ((mG a (nI n) (nI ln) mpl mst mva mfy fp mry mse mbh mmi mfb (nI bc) (nI ec)) :: (aG c4 (a 1) 204 w2_907) :: (iG ad fp) :: (wG ((ad 3) 0) ((ad 4) 0) bt nt sd2_898) :: (xG c4 (ad 1) (nI ln) xyc xfn xfp xpl xcs lt xnb xyk xyi) :: (bG c4 (ad 2) told) :: (yG c4 (ad 4) (nI n) os kd ic br) :: (rG c4 (ad 7) (nI bc) (nI ec) by0 bn bd bi ey ei) :: (tG c4 (ad 8) bh mi fb ba) :: (yG c4 (ad 9) n0 os0 kd0 ic0 br0) :: ((sG c4 (ad 10) ((ad 11) 0) zlc zlS zdp zmi zfo zax zco zth zpe zcd zdc zwc lv) ++ ((tG c4 (ad 11) tbh tmi tfb tba) ++ ((yG c4 (la 0) (gn 0) (go 0) (gk 0) (gi 0) (gb 0)) ++ ((yG c4 (la 1) (gn 1) (go 1) (gk 1) (gi 1) (gb 1)) ++ ((yG c4 (la 2) (gn 2) (go 2) (gk 2) (gi 2) (gb 2)) ++ ((yG c4 (la 3) (gn 3) (go 3) (gk 3) (gi 3) (gb 3)) ++ ((yG c4 (la 4) (gn 4) (go 4) (gk 4) (gi 4) (gb 4)) ++ ((yG c4 (la 5) (gn 5) (go 5) (gk 5) (gi 5) (gb 5)) ++ ((yG c4 (la 6) (gn 6) (go 6) (gk 6) (gi 6) (gb 6)) ++ ((yG c4 (la 7) (gn 7) (go 7) (gk 7) (gi 7) (gb 7)) ++ (yG c4 (la 8) (gn 8) (go 8) (gk 8) (gi 8) (gb 8)))))))))))) :: (gG c4 ((ad 5) 0) ig) :: (zG c4 ((ad 6) 0) 2 kp) :: ((wG ((ad 12) 0) ((ad 14) 0) ib0 it0 is0) ++ ((yG c4 (ad 14) in0 io0 ik0 ii0 ir0) ++ ((wG ((ad 13) 0) ((ad 15) 0) ib1 it1 is1) ++ (yG c4 (ad 15) in1 io1 ik1 ii1 ir1)))) :: (aG c4 (a 2) 18 told) :: (zG c4 (a 3) 2 mkp) :: (aG c4 (a 4) 230 lt) :: (aG c4 (a 5) 12 rk) :: (aG c4 (a 6) 12 ri) :: (aG c4 (a 7) 12 mba) :: (aG c4 (a 8) 51 mhd) :: (aG c4 (a 9) 10 by0) :: (aG c4 (a 10) 10 bn) :: (aG c4 (a 11) 10 bd) :: (aG c4 (a 12) 10 bi) :: (aG c4 (a 13) 15 ey) :: (aG c4 (a 14) 15 ei) :: Ts) H locs := hw
  have hF_907 := hpq
  have hF_907 : (0 ≤ (xs (ix + 1)) ∧ r_907 = w 50 ∧ w2_907 = upd w 50 (xs (ix + 1))) ∨ (¬ 0 ≤ (xs (ix + 1)) ∧ r_907 = OUT ∧ w2_907 = w) := hF_907
  obtain ⟨er0, hA1, hA2⟩ := sd_case hR1 hF_898 hF_907
  have er : (r_898 : Int32) = r_907 := er0
  refine lv_icmp_eq (tgt := 961) hx hb dL_law_910 (by decide) (fun _ => ?_) (fun c_e => absurd er c_e)
  have hl : lv_has ls 4 [(0, .ref b), (1, .ref ((ad 0) 0)), (2, .ref (a 0)), (3, .int (nI ix))] := lv_sub hl [0, 1, 2, 3] rfl
  have hw := hw.m13
  have hw := hw.m13
  have hw := hw.m13
  have hw := hw.m13
  have hw := hw.m13
  have hw := hw.m13
  have hw := hw.m13
  have hw := hw.m13
  have hw := hw.m13
  have hw := hw.m12
  have hw := hw.m13
  have hw := hw.m13
  exact next _ _ _ (LI.of fp ln xyc xfn xfp xpl xcs lt xnb xyk xyi bt nt sd2_898 n os kd ic br bc ec by0 bn bd bi ey ei bh mi fb ba n0 os0 kd0 ic0 br0 zlc zlS zdp zmi zfo zax zco zth zpe zcd zdc zwc tbh tmi tfb tba gn go gk gi gb kp in0 io0 ib0 it0 is0 ik0 ii0 ir0 in1 io1 ib1 it1 is1 ik1 ii1 ir1 mpl mst mva mfy mry mse mbh mmi mfb w2_907 told mkp rk ri mba mhd q q0 q1 ⟨hw, hA1, htl, hR2, hR3, (hRI0.at (by decide) hA2), (hRI1.at (by decide) hA2)⟩) hl
