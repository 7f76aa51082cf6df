/-! worlds in groups: a world is a list of groups of cells; a contract speaks of the groups that it reaches, and keeps every other -/
theorem gp_mem {D : va_G} {cl : List vw_C} {ws : va_W} {H : Heap} : va_P D cl ws H ↔ ∀ q ∈ ws, va_at D cl q H :=
  ⟨fun h q hq => by
    obtain ⟨k, hk⟩ := List.getElem?_of_mem hq
    exact h k q hk, fun h k q hk => h q (List.mem_of_getElem? hk)⟩
theorem gp_perm {D : va_G} {cl : List vw_C} {ws ws' : va_W} {H : Heap} (p : ws.Perm ws') (h : va_P D cl ws H) : va_P D cl ws' H :=
  gp_mem.mpr fun q hq => gp_mem.mp h q (p.mem_iff.mpr hq)
theorem gd_nd {A : Nat → Prop} {ws : va_W} : va_D A ws ↔ (ws.map Prod.fst).Nodup ∧ ∀ q ∈ ws, A q.1 := by
  constructor
  · rintro ⟨h1, h2⟩
    refine ⟨?_, fun q hq => ?_⟩
    · rw [List.nodup_iff_pairwise_ne, List.pairwise_iff_getElem]
      intro i j hi hj hij he
      rw [List.length_map] at hi hj
      have h3 := h1 i j _ _ (List.getElem?_eq_getElem hi) (List.getElem?_eq_getElem hj) (by simpa using he)
      omega
    · obtain ⟨k, hk⟩ := List.getElem?_of_mem hq
      exact h2 k q hk
  · rintro ⟨h1, h2⟩
    refine ⟨fun i j p q hi hj he => ?_, fun k q hk => h2 q (List.mem_of_getElem? hk)⟩
    have hl : i < (ws.map Prod.fst).length := by rw [List.length_map]; exact (List.getElem?_eq_some_iff.mp hi).1
    refine (List.getElem?_inj hl h1).mp ?_
    rw [List.getElem?_map, List.getElem?_map, hi, hj]
    exact congrArg some he
theorem gd_perm {A : Nat → Prop} {ws ws' : va_W} (p : ws.Perm ws') (h : va_D A ws) : va_D A ws' := by
  rw [gd_nd] at h ⊢
  exact ⟨(p.map Prod.fst).nodup h.1, fun q hq => h.2 q (p.mem_iff.mpr hq)⟩
def gW (D : va_G) (A : Nat → Prop) (H0 : Heap) (G : List va_W) (H : Heap) (locs : List Loc) : Prop := va_P D vwCl G.flatten H ∧ va_D A G.flatten ∧ va_S A H0 H locs
theorem gW.perm {D : va_G} {A : Nat → Prop} {H0 : Heap} {G G' : List va_W} {H : Heap} {locs : List Loc} (h : gW D A H0 G H locs) (p : G.Perm G') : gW D A H0 G' H locs := ⟨gp_perm p.flatten h.1, gd_perm p.flatten h.2.1, h.2.2⟩
section GMOVES
variable {D : va_G} {A : Nat → Prop} {H0 : Heap} {G : List va_W} {H : Heap} {locs : List Loc} {g0 g1 g2 g3 g4 g5 g6 g7 g8 g9 : va_W}
theorem gW.m1 (h : gW D A H0 (g0 :: g1 :: G) H locs) : gW D A H0 (g1 :: g0 :: G) H locs := h.perm (List.Perm.swap _ _ _)
theorem pm2 : (g0 :: g1 :: g2 :: G).Perm (g2 :: g0 :: g1 :: G) := (List.Perm.cons _ (List.Perm.swap _ _ _)).trans (List.Perm.swap _ _ _)
theorem pm3 : (g0 :: g1 :: g2 :: g3 :: G).Perm (g3 :: g0 :: g1 :: g2 :: G) := (List.Perm.cons _ pm2).trans (List.Perm.swap _ _ _)
theorem pm4 : (g0 :: g1 :: g2 :: g3 :: g4 :: G).Perm (g4 :: g0 :: g1 :: g2 :: g3 :: G) := (List.Perm.cons _ pm3).trans (List.Perm.swap _ _ _)
theorem pm5 : (g0 :: g1 :: g2 :: g3 :: g4 :: g5 :: G).Perm (g5 :: g0 :: g1 :: g2 :: g3 :: g4 :: G) := (List.Perm.cons _ pm4).trans (List.Perm.swap _ _ _)
theorem pm6 : (g0 :: g1 :: g2 :: g3 :: g4 :: g5 :: g6 :: G).Perm (g6 :: g0 :: g1 :: g2 :: g3 :: g4 :: g5 :: G) := (List.Perm.cons _ pm5).trans (List.Perm.swap _ _ _)
theorem pm7 : (g0 :: g1 :: g2 :: g3 :: g4 :: g5 :: g6 :: g7 :: G).Perm (g7 :: g0 :: g1 :: g2 :: g3 :: g4 :: g5 :: g6 :: G) := (List.Perm.cons _ pm6).trans (List.Perm.swap _ _ _)
theorem pm8 : (g0 :: g1 :: g2 :: g3 :: g4 :: g5 :: g6 :: g7 :: g8 :: G).Perm (g8 :: g0 :: g1 :: g2 :: g3 :: g4 :: g5 :: g6 :: g7 :: G) := (List.Perm.cons _ pm7).trans (List.Perm.swap _ _ _)
theorem pm9 : (g0 :: g1 :: g2 :: g3 :: g4 :: g5 :: g6 :: g7 :: g8 :: g9 :: G).Perm (g9 :: g0 :: g1 :: g2 :: g3 :: g4 :: g5 :: g6 :: g7 :: g8 :: G) := (List.Perm.cons _ pm8).trans (List.Perm.swap _ _ _)
theorem gW.m2 (h : gW D A H0 (g0 :: g1 :: g2 :: G) H locs) : gW D A H0 (g2 :: g0 :: g1 :: G) H locs := h.perm pm2
theorem gW.m3 (h : gW D A H0 (g0 :: g1 :: g2 :: g3 :: G) H locs) : gW D A H0 (g3 :: g0 :: g1 :: g2 :: G) H locs := h.perm pm3
theorem gW.m4 (h : gW D A H0 (g0 :: g1 :: g2 :: g3 :: g4 :: G) H locs) : gW D A H0 (g4 :: g0 :: g1 :: g2 :: g3 :: G) H locs := h.perm pm4
theorem gW.m5 (h : gW D A H0 (g0 :: g1 :: g2 :: g3 :: g4 :: g5 :: G) H locs) : gW D A H0 (g5 :: g0 :: g1 :: g2 :: g3 :: g4 :: G) H locs := h.perm pm5
theorem gW.m6 (h : gW D A H0 (g0 :: g1 :: g2 :: g3 :: g4 :: g5 :: g6 :: G) H locs) : gW D A H0 (g6 :: g0 :: g1 :: g2 :: g3 :: g4 :: g5 :: G) H locs := h.perm pm6
theorem gW.m7 (h : gW D A H0 (g0 :: g1 :: g2 :: g3 :: g4 :: g5 :: g6 :: g7 :: G) H locs) : gW D A H0 (g7 :: g0 :: g1 :: g2 :: g3 :: g4 :: g5 :: g6 :: G) H locs := h.perm pm7
theorem gW.m8 (h : gW D A H0 (g0 :: g1 :: g2 :: g3 :: g4 :: g5 :: g6 :: g7 :: g8 :: G) H locs) : gW D A H0 (g8 :: g0 :: g1 :: g2 :: g3 :: g4 :: g5 :: g6 :: g7 :: G) H locs := h.perm pm8
theorem gW.m9 (h : gW D A H0 (g0 :: g1 :: g2 :: g3 :: g4 :: g5 :: g6 :: g7 :: g8 :: g9 :: G) H locs) : gW D A H0 (g9 :: g0 :: g1 :: g2 :: g3 :: g4 :: g5 :: g6 :: g7 :: g8 :: G) H locs := h.perm pm9
/-- two groups become one, and back -/
theorem gW.join (h : gW D A H0 (g0 :: g1 :: G) H locs) : gW D A H0 ((g0 ++ g1) :: G) H locs := by
  have e : ((g0 ++ g1) :: G).flatten = (g0 :: g1 :: G).flatten := by simp
  unfold gW at h ⊢
  rw [e]; exact h
theorem gW.cut (h : gW D A H0 ((g0 ++ g1) :: G) H locs) : gW D A H0 (g0 :: g1 :: G) H locs := by
  have e : ((g0 ++ g1) :: G).flatten = (g0 :: g1 :: G).flatten := by simp
  unfold gW at h ⊢
  rw [← e]; exact h
/-- the whole tail becomes one group, and back -/
theorem gW.tail (h : gW D A H0 (g0 :: G) H locs) : gW D A H0 [g0, G.flatten] H locs := by
  have e : [g0, G.flatten].flatten = (g0 :: G).flatten := by simp
  unfold gW at h ⊢
  rw [e]; exact h
theorem gW.cast {G' : List va_W} (h : gW D A H0 G H locs) (e : G.flatten = G'.flatten) : gW D A H0 G' H locs := by
  unfold gW at h ⊢
  rw [← e]; exact h
end GMOVES
/-! the static rows of the class: what the Statement gives of them -/
def tbU : List Int32 := [4, 10, 4, 0, 60, 20, 3, 10, 50]
def tbL : List Int32 := [1, 0, 2, 0, 1, 0, 0, 0, 0]
def tbM : List Int32 := [12, 20, 9, 20, 999, 99, 20, 99, 999]
def tbF : List Int32 := [0, 0, 4, 6]
def tbE : List Int32 := [0, 4, 6, 9]
/-- what the class links as a nest mate's -/
def nX (U : State) : Prop := (va_Nw (.methodLinkNest RX3 103 yX7_isOut "IceSway") U ∧ va_Nw (.methodLinkNest RX7 9 yX3_init "IceSway") U ∧ va_Nw (.methodLinkNest RX7 25 yX5_init "IceSway") U) ∧ (va_Nw (.methodLinkNest RX7 40 yX1_init "IceSway") U ∧ va_Nw (.methodLinkNest RX7 47 yX4_init "IceSway") U ∧ va_Nw (.methodLinkNest RX7 54 yX6_init "IceSway") U) ∧ (va_Nw (.methodLinkNest RX5 9 yX6_init "IceSway") U ∧ va_Nw (.methodLinkNest RX2 11 yX4_init "IceSway") U ∧ va_Nw (.methodLinkNest RX2 24 yX6_init "IceSway") U)
theorem nX.warm {u U : State} (hW : u.WarmedH U.vm) (h : nX u) : nX U := ⟨⟨h.1.1.warmM hW, h.1.2.1.warmM hW, h.1.2.2.warmM hW⟩, ⟨h.2.1.1.warmM hW, h.2.1.2.1.warmM hW, h.2.1.2.2.warmM hW⟩, h.2.2.1.warmM hW, h.2.2.2.1.warmM hW, h.2.2.2.2.warmM hW⟩
theorem nX.same {u U : State} (e : u.vm = U.vm) (h : nX u) : nX U := ⟨⟨h.1.1.same rfl e, h.1.2.1.same rfl e, h.1.2.2.same rfl e⟩, ⟨h.2.1.1.same rfl e, h.2.1.2.1.same rfl e, h.2.1.2.2.same rfl e⟩, h.2.2.1.same rfl e, h.2.2.2.1.same rfl e, h.2.2.2.2.same rfl e⟩
def sX (o : Option (Nat → Nat)) (A : Nat → Prop) (U : State) (H : Heap) : Prop := match o with
  | none => True
  | some t => nX U ∧ (va_Z "IceSway$Boat" "UNTOLD" "[I" (.ref (t 0)) A U H ∧ va_T .int (t 0) 9 (fun j => .int (tbU.getD j 0)) A U H) ∧ (va_Z "IceSway$Boat" "LEAST" "[I" (.ref (t 1)) A U H ∧ va_T .int (t 1) 9 (fun j => .int (tbL.getD j 0)) A U H) ∧ (va_Z "IceSway$Boat" "GREATEST" "[I" (.ref (t 2)) A U H ∧ va_T .int (t 2) 9 (fun j => .int (tbM.getD j 0)) A U H) ∧ (va_Z "IceSway$Text" "FIRST" "[I" (.ref (t 3)) A U H ∧ va_T .int (t 3) 4 (fun j => .int (tbF.getD j 0)) A U H) ∧ (va_Z "IceSway$Text" "END" "[I" (.ref (t 4)) A U H ∧ va_T .int (t 4) 4 (fun j => .int (tbE.getD j 0)) A U H)
theorem sX.warm {o : Option (Nat → Nat)} {A : Nat → Prop} {u U : State} {H : Heap} (hW : u.WarmedH U.vm) (h : sX o A u H) : sX o A U H := by
  cases o with
  | none => trivial
  | some t =>
    have hvm := hW.alike
    obtain ⟨n, ⟨a1, a2⟩, ⟨b1, b2⟩, ⟨c1, c2⟩, ⟨d1, d2⟩, e1, e2⟩ := h
    exact ⟨n.warm hW, ⟨a1.moved hvm, a2.moved hvm⟩, ⟨b1.moved hvm, b2.moved hvm⟩, ⟨c1.moved hvm, c2.moved hvm⟩, ⟨d1.moved hvm, d2.moved hvm⟩, e1.moved hvm, e2.moved hvm⟩
theorem sX.same {o : Option (Nat → Nat)} {A : Nat → Prop} {u U : State} {H : Heap} (e : u.vm = U.vm) (h : sX o A u H) : sX o A U H := by
  cases o with
  | none => trivial
  | some t =>
    have hvm : u.vm.Alike U.vm := by rw [e]; exact Vm.Alike.refl _
    obtain ⟨n, ⟨a1, a2⟩, ⟨b1, b2⟩, ⟨c1, c2⟩, ⟨d1, d2⟩, e1, e2⟩ := h
    exact ⟨n.same e, ⟨a1.moved hvm, a2.moved hvm⟩, ⟨b1.moved hvm, b2.moved hvm⟩, ⟨c1.moved hvm, c2.moved hvm⟩, ⟨d1.moved hvm, d2.moved hvm⟩, e1.moved hvm, e2.moved hvm⟩
theorem sX.kept {o : Option (Nat → Nat)} {A : Nat → Prop} {U : State} {H H1 : Heap} (h : sX o A U H) (hq : ∀ a : Nat, a < H.size → ¬ A a → H1[a]? = H[a]?) : sX o A U H1 := by
  cases o with
  | none => trivial
  | some t =>
    obtain ⟨n, ⟨a1, a2⟩, ⟨b1, b2⟩, ⟨c1, c2⟩, ⟨d1, d2⟩, e1, e2⟩ := h
    exact ⟨n, ⟨a1.kept hq, a2.kept hq⟩, ⟨b1.kept hq, b2.kept hq⟩, ⟨c1.kept hq, c2.kept hq⟩, ⟨d1.kept hq, d2.kept hq⟩, e1.kept hq, e2.kept hq⟩
/-! contracts: int (and boolean), long, void; no cell is made -/
abbrev cPre (av : List Value) (D : va_G) (tys : List (ClassId × FieldType)) (A : Nat → Prop) (o : Option (Nat → Nat)) (G : List va_W) : Array Value → State → Prop := va_Pc av (fun U => va_P D vwCl G.flatten U.heap ∧ va_K D vwCl tys U ∧ va_D A G.flatten ∧ sX o A U U.heap)
abbrev cB {S : Type} (D : va_G) (A : Nat → Prop) (G' : S → List va_W) : S → State → Prop := fun u t => va_P D vwCl (G' u).flatten t.heap ∧ va_D A (G' u).flatten
def Ci (l : Launch) (y : MethodName) (ws : List Cond) (fr lo : Nat) (av : List Value) (D : va_G) (tys : List (ClassId × FieldType)) (A : Nat → Prop) (o : Option (Nat → Nat)) (G : List va_W) {S : Type} (post : Int32 → S → Prop) (G' : S → List va_W) : Prop :=
  Met l y ws { frames := fr, cells := 0, slots := 0, locals := lo } (cPre av D tys A o G) (va_Qi post (cB D A G') A) 0 0 A
def Cl (l : Launch) (y : MethodName) (ws : List Cond) (fr lo : Nat) (av : List Value) (D : va_G) (tys : List (ClassId × FieldType)) (A : Nat → Prop) (o : Option (Nat → Nat)) (G : List va_W) {S : Type} (post : Int64 → S → Prop) (G' : S → List va_W) : Prop :=
  Met l y ws { frames := fr, cells := 0, slots := 0, locals := lo } (cPre av D tys A o G) (va_Ql post (cB D A G') A) 0 0 A
def Cv (l : Launch) (y : MethodName) (ws : List Cond) (fr lo : Nat) (av : List Value) (D : va_G) (tys : List (ClassId × FieldType)) (A : Nat → Prop) (o : Option (Nat → Nat)) (G : List va_W) {S : Type} (post : S → Prop) (G' : S → List va_W) : Prop :=
  Met l y ws { frames := fr, cells := 0, slots := 0, locals := lo } (cPre av D tys A o G) (va_Qv post (cB D A G') A) 0 0 A
theorem cPre_blind (av : List Value) (D : va_G) (tys : List (ClassId × FieldType)) (A : Nat → Prop) (o : Option (Nat → Nat)) (G : List va_W) : FrameBlind (cPre av D tys A o G) := fun a U g mk q => by
  obtain ⟨q0, qP, qK, qD, qX⟩ := q
  exact ⟨q0, qP, va_K.moved (u := U) (U := U.calling g mk a) (Vm.Alike.refl U.vm) qK, qD, sX.same (u := U) (U := U.calling g mk a) rfl qX⟩
/-- what a method's walk begins with -/
abbrev cGo (p : Program) (s : State) (m : MethodId) (meth : Method) (c : Code) (args : Array Value) (cc : ByteArray) (maxL : Nat) (ret : Option FieldType) (ws : List Cond) (own : String) (D : va_G) (tys : List (ClassId × FieldType)) (A : Nat → Prop) (o : Option (Nat → Nat)) : Prop :=
  p.tables.exec = Jvm.exec ∧ c.code = cc ∧ c.maxLocals = maxL ∧ meth.sig.returnType = ret ∧ (∀ w ∈ ws, w.before args s = true) ∧ s.vm.findClass own = some m.cls ∧ meth.locks = false ∧ va_K D vwCl tys s ∧ sX o A s s.heap
theorem cOf {l : Launch} {y : MethodName} {ws ws' : List Cond} {rm : Room} {av : List Value} {D : va_G} {tys : List (ClassId × FieldType)} {A : Nat → Prop} {o : Option (Nat → Nat)} {G : List va_W} {Qc : Array Value → State → Outcome → State → Prop} {mc ms : Nat} {cc : ByteArray} {maxL : Nat} {ret : Option FieldType} {lv : List (Nat × Value)}
    (hy : plainName y.cls = true) (hw : ws = Cond.code y cc maxL ret :: ws') (hn : (lg_sl av).length ≤ maxL) (hlv : lv_args 0 av = lv)
    (body : ∀ (p : Program) (e : Env) (s : State) (m : MethodId) (below : List Frame) (meth : Method) (c : Code) (ls : Array Slot), cGo p s m meth c av.toArray cc maxL ret ws y.cls D tys A o → gW D A s.heap G s.heap [] → lv_has ls maxL lv →
      W p l e rm s m av.toArray below meth c s.heap [] 0 0 (MQ below Qc av.toArray s mc ms A) (F0 m 0 ls [])) : Met l y ws rm (cPre av D tys A o G) Qc mc ms A := by
  refine Met.ofW (cc := cc) (maxL := maxL) (ret := ret) hy hw ?_
  intro p e s m args below meth c s₁ B hml hv
  obtain ⟨rfl, hP, hK, hD, hX⟩ := hv
  have hl := lv_entry av (n := maxL) hn
  rw [lg_entry_eq]
  exact body p e s m below meth c _ ⟨B.exec, B.bytes, hml, B.returns, atoms_spec (ws := ws) B.pre, findClass_of_methodNamed B.named, B.notSynchronized, hK, hX⟩ ⟨hP, hD, va_S.rf⟩ (hlv ▸ hl)
