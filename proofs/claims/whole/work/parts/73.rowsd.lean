/-! things are made -/
section NEWS
variable {p : Program} {l : Launch} {e : Env} {R : Room} {s : State} {m : MethodId} {args : Array Value} {below : List Frame} {meth : Method} {c : Code} {H : Heap} {locs : List Loc} {cells slots : Nat} {Q : State → Prop}
variable {cc : ByteArray} {pc : Nat} {ls : Array Slot} {rest : List Value} {D : va_G} {A : Nat → Prop} {a : Nat} {tys : List (ClassId × FieldType)} {G : List va_W} {H0 : Heap} {c4 : Nat → ClassId}
theorem gW.push {x : Nat × va_E} (hP : va_P D vwCl (G.flatten ++ [x]) H) (hD : va_D A (G.flatten ++ [x])) (hS : va_S A H0 H locs) : gW D A H0 ([x] :: G) H locs :=
  ⟨gp_perm List.perm_append_comm hP, gd_perm List.perm_append_comm hD, hS⟩
theorem r_newI (hexec : p.tables.exec = Jvm.exec) (hb : c.code = cc) (harr : (Cond.arrayClass .int).before args s = true) (hK : va_K D vwCl (tyA c4) s) (hw : gW D A H0 G H locs) (hA : ∀ q, H0.size ≤ q → A q) (N : Nat) {n : Int32} (hn : ¬ n < 0) (hN : n.toNatClampNeg = N) (hbytes : N * 4 ≤ 536870912) (hcells : cells + 1 ≤ R.cells) (hslots : slots + N ≤ R.slots) (hdg : decode cc pc = .ok (.newarray .int, 2))
    (kk : ∀ (q : Nat) (H1 : Heap), gW D A H0 (aG c4 q N (fun _ => 0) :: G) H1 locs → W p l e R s m args below meth c H1 locs (cells + 1) (slots + N) Q (F0 m (pc + 2) ls (.ref q :: rest))) : W p l e R s m args below meth c H locs cells slots Q (F0 m pc ls (.int n :: rest)) := by
  refine va_newa (atype := .int) (ty := .int) (a0 := (N, .inl (fun _ => 0))) hexec hb harr rfl hK hw.1 hw.2.1 hw.2.2 hA (fun cA => rfl) hn hN hbytes hcells hslots hdg (fun q cA H1 hK1 hP hD hS => ?_)
  have e : cA = c4 0 := Option.some.inj ((va_nm_int (hK1.2 4 _ rfl).2).symm.trans (va_nm_int (hK.2 0 _ rfl).2))
  subst e
  exact kk q H1 (gW.push hP hD hS)
theorem r_newZ (hexec : p.tables.exec = Jvm.exec) (hb : c.code = cc) (harr : (Cond.arrayClass .boolean).before args s = true) (hK : va_K D vwCl (tyA c4) s) (hw : gW D A H0 G H locs) (hA : ∀ q, H0.size ≤ q → A q) (N : Nat) {n : Int32} (hn : ¬ n < 0) (hN : n.toNatClampNeg = N) (hbytes : N * 1 ≤ 536870912) (hcells : cells + 1 ≤ R.cells) (hslots : slots + N ≤ R.slots) (hdg : decode cc pc = .ok (.newarray .boolean, 2))
    (kk : ∀ (q : Nat) (H1 : Heap), gW D A H0 (zG c4 q N (fun _ => 0) :: G) H1 locs → W p l e R s m args below meth c H1 locs (cells + 1) (slots + N) Q (F0 m (pc + 2) ls (.ref q :: rest))) : W p l e R s m args below meth c H locs cells slots Q (F0 m pc ls (.int n :: rest)) := by
  refine va_newa (atype := .boolean) (ty := .boolean) (a0 := (N, .inl (fun _ => 0))) hexec hb harr rfl hK hw.1 hw.2.1 hw.2.2 hA (fun cA => rfl) hn hN hbytes hcells hslots hdg (fun q cA H1 hK1 hP hD hS => ?_)
  have e : cA = c4 1 := Option.some.inj ((va_nm_boolean (hK1.2 4 _ rfl).2).symm.trans (va_nm_boolean (hK.2 1 _ rfl).2))
  subst e
  exact kk q H1 (gW.push hP hD hS)
theorem r_newQ {own C : String} {index : Nat} (t0 : Nat) (hexec : p.tables.exec = Jvm.exec) (hb : c.code = cc) (hown : s.vm.findClass own = some m.cls) (hcl : (Cond.classLink own index C).before args s = true) (hover : va_AO C s) (hK : va_K D vwCl (tyA c4) s) (ht : (tyA c4)[t0]? = some (c4 t0, .object C)) (hw : gW D A H0 G H locs) (hA : ∀ q, H0.size ≤ q → A q) (N : Nat) {n : Int32} (hn : ¬ n < 0) (hN : n.toNatClampNeg = N) (hbytes : N * 4 ≤ 536870912) (hcells : cells + 1 ≤ R.cells) (hslots : slots + N ≤ R.slots) (hdg : decode cc pc = .ok (.anewarray index, 3))
    (kk : ∀ (q : Nat) (H1 : Heap), gW D A H0 ([(q, .inl (c4 t0, N, .inr (.inr (.inr (.inr (fun _ => none))))))] :: G) H1 locs → W p l e R s m args below meth c H1 locs (cells + 1) (slots + N) Q (F0 m (pc + 3) ls (.ref q :: rest))) : W p l e R s m args below meth c H locs cells slots Q (F0 m pc ls (.int n :: rest)) := by
  refine va_newq hexec hb hown hcl hover hK hw.1 hw.2.1 hw.2.2 hA hn hN hbytes hcells hslots hdg (fun q cA H1 hK1 hP hD hS => ?_)
  have e : cA = c4 t0 := Option.some.inj ((va_nmO (hK1.2 4 _ rfl).2 rfl).symm.trans (va_nmO (hK.2 t0 _ ht).2 rfl))
  subst e
  exact kk q H1 (gW.push hP hD hS)
theorem r_new {own C : String} {T : u_T} {N ci index : Nat} {Ts : List Cond} (hexec : p.tables.exec = Jvm.exec) (hb : c.code = cc) (hts : ∀ w ∈ Ts, w.before args s = true) (hin : ∀ w ∈ u_ws C T N, w ∈ Ts) (ty : Nat → FieldType) (hty : ∀ k, k < N → parseFieldDescriptor (T k).2.2.1 = some (ty k)) (hown : s.vm.findClass own = some m.cls) (hcl : (Cond.classLink own index C).before args s = true) (hinst : (Cond.instantiable C N).before args s = true) (hini : (Cond.initialized C).before args s = true)
    (hK : va_K D vwCl tys s) (hw : gW D A H0 G H locs) (hA : ∀ q, H0.size ≤ q → A q) (hc : vwCl[ci]? = some (C, T, N)) {fs : List Value} (hfs : ∀ j, j < N → defaultValue (ty j) = vp_V fs j) (hcells : cells + 1 ≤ R.cells) (hslots : slots + N ≤ R.slots) (hdg : decode cc pc = .ok (.new index, 3))
    (kk : ∀ (q : Nat) (H1 : Heap), gW D A H0 ([(q, .inr (ci, fs))] :: G) H1 locs → W p l e R s m args below meth c H1 locs (cells + 1) (slots + N) Q (F0 m (pc + 3) ls (.ref q :: rest))) : W p l e R s m args below meth c H locs cells slots Q (F0 m pc ls rest) :=
  va_new hexec hb hts hin ty hty hown hcl hinst hini hK hw.1 hw.2.1 hw.2.2 hA hc hfs hcells hslots hdg (fun q H1 hP hD hS => kk q H1 (gW.push hP hD hS))
theorem r_aast (hexec : p.tables.exec = Jvm.exec) (hb : c.code = cc) (hK : va_K D vwCl tys s) (hw : gW D A H0 G H locs) (q0 t0 qk ci : Nat) {cA : ClassId} {r : vw_C} {n v : Nat} {vs : List Value} {f : Nat → Option Nat} (ha : G.flatten[q0]? = some (a, .inl (cA, n, .inr (.inr (.inr (.inr f)))))) (ht : tys[t0]? = some (cA, .object r.1)) (hv : G.flatten[qk]? = some (v, .inr (ci, vs))) (hc : vwCl[ci]? = some r) (k : Nat) (hk : k < n) (hn : n < 2 ^ 31) {G' : List va_W} (hG : G.flatten.set q0 (a, .inl (cA, n, .inr (.inr (.inr (.inr (va_up f k (some v))))))) = G'.flatten) (hdg : decode cc pc = .ok (.aastore, 1))
    (kk : ∀ (H1 : Heap) (locs1 : List Loc), gW D A H0 G' H1 locs1 → W p l e R s m args below meth c H1 locs1 cells slots Q (F0 m (pc + 1) ls rest)) : W p l e R s m args below meth c H locs cells slots Q (F0 m pc ls (.ref v :: .int (nI k) :: .ref a :: rest)) := by
  refine va_astq hexec hb hK hw.1 hw.2.1 hw.2.2 q0 t0 qk ci ha ht hv hc (vp_in_nI hk hn) hdg (fun H1 locs1 a1 a2 a3 => ?_)
  rw [nI_clamp (Nat.lt_trans hk hn)] at a1 a2
  exact kk H1 locs1 ⟨hG ▸ a1, hG ▸ a2, a3⟩
end NEWS
/-! constructors: cells are made -/
abbrev cPreN (av : List Value) (D : va_G) (tys : List (ClassId × FieldType)) (A : Nat → Prop) (o : Option (Nat → Nat)) (G : List va_W) : Array Value → State → Prop := va_Pc av (fun U => va_P D vwCl G.flatten U.heap ∧ va_K D vwCl tys U ∧ va_D A G.flatten ∧ sX o A U U.heap ∧ (∀ q, U.heap.size ≤ q → A q) ∧ va_AO RX5 U ∧ va_AO RX6 U)
def Cn (l : Launch) (y : MethodName) (ws : List Cond) (fr lo mc ms : Nat) (av : List Value) (D : va_G) (tys : List (ClassId × FieldType)) (A : Nat → Prop) (o : Option (Nat → Nat)) (G : List va_W) {S : Type} (post : S → Prop) (G' : S → List va_W) : Prop :=
  Met l y ws { frames := fr, cells := mc, slots := ms, locals := lo } (cPreN av D tys A o G) (va_Qv post (cB D A G') A) mc ms A
theorem cPreN_blind (av : List Value) (D : va_G) (tys : List (ClassId × FieldType)) (A : Nat → Prop) (o : Option (Nat → Nat)) (G : List va_W) : FrameBlind (cPreN av D tys A o G) := fun a U g mk q => by
  obtain ⟨q0, qP, qK, qD, qX, qA, q5, q6⟩ := q
  exact ⟨q0, qP, va_K.moved (u := U) (U := U.calling g mk a) (Vm.Alike.refl U.vm) qK, qD, sX.same (u := U) (U := U.calling g mk a) rfl qX, qA, va_AO.moved (u := U) (U := U.calling g mk a) (Vm.Alike.refl U.vm) q5, va_AO.moved (u := U) (U := U.calling g mk a) (Vm.Alike.refl U.vm) q6⟩
theorem cOn {l : Launch} {y : MethodName} {ws ws' : List Cond} {fr lo mc ms : Nat} {av : List Value} {D : va_G} {tys : List (ClassId × FieldType)} {A : Nat → Prop} {o : Option (Nat → Nat)} {G : List va_W} {S : Type} {post : S → Prop} {G' : S → List va_W} {cc : ByteArray} {maxL : Nat} {lv : List (Nat × Value)}
    (hy : plainName y.cls = true) (hy1 : y.name = "<init>") (hw : ws = Cond.code y cc maxL none :: ws') (hn : (lg_sl av).length ≤ maxL) (hlv : lv_args 0 av = lv)
    (body : ∀ (p : Program) (e : Env) (s : State) (m : MethodId) (below : List Frame) (meth : Method) (c : Code) (ls : Array Slot) (args : Array Value) (R : Room) (Q : State → Prop) (H : Heap) (locs : List Loc), R.frames = fr → R.locals = lo → R.cells = mc → R.slots = ms → cGo p s m meth c args cc maxL none ws y.cls D tys A o → gW D A s.heap G H locs → lv_has ls maxL lv → (∀ q, s.heap.size ≤ q → A q) → (va_AO RX5 s ∧ va_AO RX6 s) → meth.name = "<init>" →
      (∀ (u : S) (H : Heap) (locs : List Loc) (pc : Nat) (ls : Array Slot) (cells slots : Nat), cells ≤ mc → slots ≤ ms → gW D A s.heap (G' u) H locs → post u → decode cc pc = .ok (.return_, 1) → W p l e R s m args below meth c H locs cells slots Q (F0 m pc ls [])) →
      W p l e R s m args below meth c H locs 0 0 Q (F0 m 0 ls [])) : Cn l y ws fr lo mc ms av D tys A o G post G' := by
  refine Met.ofW (cc := cc) (maxL := maxL) (ret := none) hy hw ?_
  intro p e s m args below meth c s₁ B hml hv
  obtain ⟨rfl, hP, hK, hD, hX, hA, hO⟩ := hv
  have hl := lv_entry av (n := maxL) hn
  have hin : meth.name = "<init>" := (name_of_methodNamed B.named B.method).1.trans hy1
  have hr := B.returns
  have hexec := B.exec
  have hbytes := B.bytes
  have hlocks := B.notSynchronized
  rw [lg_entry_eq]
  exact body p e s m below meth c _ _ _ _ _ [] rfl rfl rfl rfl ⟨B.exec, B.bytes, hml, B.returns, atoms_spec (ws := ws) B.pre, findClass_of_methodNamed B.named, B.notSynchronized, hK, hX⟩ ⟨hP, hD, va_S.rf⟩ (hlv ▸ hl) hA hO hin
    (fun u H locs pc ls cells slots h1 h2 hw hp hd => W.widen h1 h2 (W.vret hexec hbytes hr (fun t ht hW => ⟨⟨u, rfl, hp, by rw [ht]; exact hw.1, hw.2.1⟩, hw.2.2.F ht⟩) hw.2.2.2.2 hd hlocks))
section CALLN
variable {p : Program} {l : Launch} {e : Env} {R : Room} {s : State} {m : MethodId} {args : Array Value} {below : List Frame} {meth : Method} {c : Code} {H : Heap} {locs : List Loc} {cells slots : Nat} {Q : State → Prop}
variable {cc : ByteArray} {pc : Nat} {ls : Array Slot} {rest : List Value} {D : va_G} {A : Nat → Prop} {tys : List (ClassId × FieldType)} {G : List va_W}
variable {o : Option (Nat → Nat)} {y : MethodName} {bytes : ByteArray} {maxL nL n index mc ms : Nat} {wsc Ts : List Cond} {own : String} {b fr lo : Nat} {As st0 : List Value} {S : Type} {G' : S → List va_W}
theorem c_preN (hK : va_K D vwCl tys s) (hX : sX o A s s.heap) (hw : gW D A s.heap G H locs) (hA : ∀ q, s.heap.size ≤ q → A q) (hO : va_AO RX5 s ∧ va_AO RX6 s) {av : List Value} : PreS s H (cPreN av D tys A o G) av :=
  ⟨cPreN_blind av D tys A o G, fun U hU hW => ⟨rfl, by rw [hU]; exact hw.1, va_K.moved hW.alike hK, hw.2.1, by rw [hU]; exact (hX.warm hW).kept hw.2.2.2.1, by rw [hU]; exact fun q h => hA q (Nat.le_trans hw.2.2.1 h), hO.1.moved hW.alike, hO.2.moved hW.alike⟩⟩
theorem c_ini {post : S → Prop} (fx : CallFix p m c cc nL s args Ts own) (hM : Cn l y wsc fr lo mc ms (.ref b :: As) D tys A o G post G') (cw : CallB R s args own index y bytes maxL none wsc { frames := fr, cells := mc, slots := ms, locals := lo } mc ms n ∧ y.name = "<init>" ∧ (Cond.instanceMethod y).before args s = true) (hK : va_K D vwCl tys s) (hX : sX o A s s.heap) (hw : gW D A s.heap G H locs) (hA : ∀ q, s.heap.size ≤ q → A q) (hO : va_AO RX5 s ∧ va_AO RX6 s) (hn : As.length = n) {lv0 : List (Nat × Value)} (hsz : lv_has ls nL lv0) (hst : st0 = As.reverse ++ .ref b :: rest) (hW : (rest.map fun v => v.category).sum ≤ 8) (hcs : cells + mc ≤ R.cells ∧ slots + ms ≤ R.slots) (hdg : decode cc pc = .ok (.invokespecial index, 3))
    (kk : ∀ (u : S) (H1 : Heap) (locs1 : List Loc), post u → gW D A s.heap (G' u) H1 locs1 → W p l e R s m args below meth c H1 locs1 (cells + mc) (slots + ms) Q (F0 m (pc + 3) ls rest)) : W p l e R s m args below meth c H locs cells slots Q (F0 m pc ls st0) := by
  subst hst
  refine va_callv (va_runI (As := As) (rest := rest) fx hM cw (c_preN hK hX hw hA hO) rfl hn hsz.1 rfl (lv_room hW) hdg hcs) hw.2.2 (fun q _ h => h) (fun q h => h) (fun u t H1 locs1 ht _ hp hB _ _ hS => ?_)
  exact kk u H1 locs1 hp ⟨by rw [← ht]; exact hB.1, hB.2, hS⟩
theorem c_iniN {post : S → Prop} {host : String} (fx : CallFix p m c cc nL s args Ts own) (hM : Cn l y wsc fr lo mc ms (.ref b :: As) D tys A o G post G') (cw : va_CN R s args own index y host bytes maxL none wsc { frames := fr, cells := mc, slots := ms, locals := lo } mc ms n) (hy1 : y.name = "<init>") (him : (Cond.instanceMethod y).before args s = true) (hK : va_K D vwCl tys s) (hX : sX o A s s.heap) (hw : gW D A s.heap G H locs) (hA : ∀ q, s.heap.size ≤ q → A q) (hO : va_AO RX5 s ∧ va_AO RX6 s) (hn : As.length = n) {lv0 : List (Nat × Value)} (hsz : lv_has ls nL lv0) (hst : st0 = As.reverse ++ .ref b :: rest) (hW : (rest.map fun v => v.category).sum ≤ 8) (hcs : cells + mc ≤ R.cells ∧ slots + ms ≤ R.slots) (hdg : decode cc pc = .ok (.invokespecial index, 3))
    (kk : ∀ (u : S) (H1 : Heap) (locs1 : List Loc), post u → gW D A s.heap (G' u) H1 locs1 → W p l e R s m args below meth c H1 locs1 (cells + mc) (slots + ms) Q (F0 m (pc + 3) ls rest)) : W p l e R s m args below meth c H locs cells slots Q (F0 m pc ls st0) := by
  subst hst
  refine va_callv (va_runIN (As := As) (rest := rest) fx hM ⟨cw, hy1, him⟩ (c_preN hK hX hw hA hO) rfl hn hsz.1 rfl (lv_room hW) hdg hcs) hw.2.2 (fun q _ h => h) (fun q h => h) (fun u t H1 locs1 ht _ hp hB _ _ hS => ?_)
  exact kk u H1 locs1 hp ⟨by rw [← ht]; exact hB.1, hB.2, hS⟩
end CALLN
theorem gW.pk {D : va_G} {A : Nat → Prop} {H0 : Heap} {G : List va_W} {H : Heap} {locs : List Loc} (h : gW D A H0 G H locs) (n : Nat) (hn : G.length = n) (ps : List Nat) (hp : ps.isPerm (List.range n) = true) : gW D A H0 (ps.map (fun i => G.getD i [])) H locs := by
  refine h.perm ?_
  have e : G = (List.range n).map (fun i => G.getD i []) := by
    refine List.ext_getElem? fun k => ?_
    rw [List.getElem?_map]
    by_cases hk : k < n
    · rw [List.getElem?_range hk]
      show G[k]? = some (G.getD k [])
      rw [List.getD_eq_getElem?_getD, List.getElem?_eq_getElem (by omega)]
      rfl
    · rw [List.getElem?_eq_none (by omega), List.getElem?_eq_none (by rw [List.length_range]; omega)]
      rfl
  have hq : (List.range n).Perm ps := ((List.isPerm_iff).mp hp).symm
  have h2 := hq.map (fun i => G.getD i [])
  rw [← e] at h2
  exact h2
theorem gW.pkT {D : va_G} {A : Nat → Prop} {H0 : Heap} {Ts : List va_W} {H : Heap} {locs : List Loc} (G : List va_W) (h : gW D A H0 (G ++ Ts) H locs) (n : Nat) (hn : G.length = n) (ps : List Nat) (hp : ps.isPerm (List.range n) = true) : gW D A H0 (ps.map (fun i => G.getD i []) ++ Ts) H locs := by
  refine h.perm (List.Perm.append_right Ts ?_)
  have e : G = (List.range n).map (fun i => G.getD i []) := by
    refine List.ext_getElem? fun k => ?_
    rw [List.getElem?_map]
    by_cases hk : k < n
    · rw [List.getElem?_range hk]
      show G[k]? = some (G.getD k [])
      rw [List.getD_eq_getElem?_getD, List.getElem?_eq_getElem (by omega)]
      rfl
    · rw [List.getElem?_eq_none (by omega), List.getElem?_eq_none (by rw [List.length_range]; omega)]
      rfl
  have hq : (List.range n).Perm ps := ((List.isPerm_iff).mp hp).symm
  have h2 := hq.map (fun i => G.getD i [])
  rw [← e] at h2
  exact h2
