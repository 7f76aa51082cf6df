theorem st_tbU {s : State} {b : Nat} {A : Nat → Prop} (hgv : (Jvm.Cond.and given_1 narrow_1).before #[Value.ref b] s = true) (hts0 : ∀ w ∈ lw_tbl, w.before #[Value.ref b] s = true) (hnA : ∀ a : Nat, a < s.heap.size → ¬ A a) : ∃ t : Nat, va_Z "IceSway$Boat" "UNTOLD" "[I" (.ref t) A s s.heap ∧ va_T .int t 9 (fun j => .int (tbU.getD j 0)) A s s.heap := by
  have hs := flat_of_before _ hgv
  have hel : ∀ j : Nat, j < 9 → (Term.elem (.static "IceSway$Boat" "UNTOLD" "[I") (.int (Int32.ofNat j))).eval #[Value.ref b] s none [] s = some (.int (tbU.getD j 0)) := fun j hj => by
    rcases (show j = 0 ∨ j = 1 ∨ j = 2 ∨ j = 3 ∨ j = 4 ∨ j = 5 ∨ j = 6 ∨ j = 7 ∨ j = 8 by omega) with z | z | z | z | z | z | z | z | z
    · subst z; exact va_eqt (hs (.eq (.elem (.static "IceSway$Boat" "UNTOLD" "[I") (.int 0)) (.int 4)) (by decide +kernel))
    · subst z; exact va_eqt (hs (.eq (.elem (.static "IceSway$Boat" "UNTOLD" "[I") (.int 1)) (.int 10)) (by decide +kernel))
    · subst z; exact va_eqt (hs (.eq (.elem (.static "IceSway$Boat" "UNTOLD" "[I") (.int 2)) (.int 4)) (by decide +kernel))
    · subst z; exact va_eqt (hs (.eq (.elem (.static "IceSway$Boat" "UNTOLD" "[I") (.int 3)) (.int 0)) (by decide +kernel))
    · subst z; exact va_eqt (hs (.eq (.elem (.static "IceSway$Boat" "UNTOLD" "[I") (.int 4)) (.int 60)) (by decide +kernel))
    · subst z; exact va_eqt (hs (.eq (.elem (.static "IceSway$Boat" "UNTOLD" "[I") (.int 5)) (.int 20)) (by decide +kernel))
    · subst z; exact va_eqt (hs (.eq (.elem (.static "IceSway$Boat" "UNTOLD" "[I") (.int 6)) (.int 3)) (by decide +kernel))
    · subst z; exact va_eqt (hs (.eq (.elem (.static "IceSway$Boat" "UNTOLD" "[I") (.int 7)) (.int 10)) (by decide +kernel))
    · subst z; exact va_eqt (hs (.eq (.elem (.static "IceSway$Boat" "UNTOLD" "[I") (.int 8)) (.int 50)) (by decide +kernel))
  obtain ⟨t, h0, hT⟩ := va_Tof (tm := (.static "IceSway$Boat" "UNTOLD" "[I")) (ty := .int) (N := 9) (f := fun j => .int (tbU.getD j 0)) (A := A) (by decide) (hs (.arrayOf (.static "IceSway$Boat" "UNTOLD" "[I") .int) (by decide +kernel)) (va_eqt (hs (.eq (.length (.static "IceSway$Boat" "UNTOLD" "[I")) (.int 9)) (by decide +kernel))) hel hnA
  exact ⟨t, va_Zof (hts0 (.laysStatic "IceSway$Boat" "UNTOLD" "[I") (List.mem_of_getElem? (i := 111) (by decide +kernel))) (hts0 (.initialized "IceSway$Boat") (List.mem_of_getElem? (i := 43) (by decide +kernel))) h0 hnA, hT⟩
theorem st_tbL {s : State} {b : Nat} {A : Nat → Prop} (hgv : (Jvm.Cond.and given_1 narrow_1).before #[Value.ref b] s = true) (hts0 : ∀ w ∈ lw_tbl, w.before #[Value.ref b] s = true) (hnA : ∀ a : Nat, a < s.heap.size → ¬ A a) : ∃ t : Nat, va_Z "IceSway$Boat" "LEAST" "[I" (.ref t) A s s.heap ∧ va_T .int t 9 (fun j => .int (tbL.getD j 0)) A s s.heap := by
  have hs := flat_of_before _ hgv
  have hel : ∀ j : Nat, j < 9 → (Term.elem (.static "IceSway$Boat" "LEAST" "[I") (.int (Int32.ofNat j))).eval #[Value.ref b] s none [] s = some (.int (tbL.getD j 0)) := fun j hj => by
    rcases (show j = 0 ∨ j = 1 ∨ j = 2 ∨ j = 3 ∨ j = 4 ∨ j = 5 ∨ j = 6 ∨ j = 7 ∨ j = 8 by omega) with z | z | z | z | z | z | z | z | z
    · subst z; exact va_eqt (hs (.eq (.elem (.static "IceSway$Boat" "LEAST" "[I") (.int 0)) (.int 1)) (by decide +kernel))
    · subst z; exact va_eqt (hs (.eq (.elem (.static "IceSway$Boat" "LEAST" "[I") (.int 1)) (.int 0)) (by decide +kernel))
    · subst z; exact va_eqt (hs (.eq (.elem (.static "IceSway$Boat" "LEAST" "[I") (.int 2)) (.int 2)) (by decide +kernel))
    · subst z; exact va_eqt (hs (.eq (.elem (.static "IceSway$Boat" "LEAST" "[I") (.int 3)) (.int 0)) (by decide +kernel))
    · subst z; exact va_eqt (hs (.eq (.elem (.static "IceSway$Boat" "LEAST" "[I") (.int 4)) (.int 1)) (by decide +kernel))
    · subst z; exact va_eqt (hs (.eq (.elem (.static "IceSway$Boat" "LEAST" "[I") (.int 5)) (.int 0)) (by decide +kernel))
    · subst z; exact va_eqt (hs (.eq (.elem (.static "IceSway$Boat" "LEAST" "[I") (.int 6)) (.int 0)) (by decide +kernel))
    · subst z; exact va_eqt (hs (.eq (.elem (.static "IceSway$Boat" "LEAST" "[I") (.int 7)) (.int 0)) (by decide +kernel))
    · subst z; exact va_eqt (hs (.eq (.elem (.static "IceSway$Boat" "LEAST" "[I") (.int 8)) (.int 0)) (by decide +kernel))
  obtain ⟨t, h0, hT⟩ := va_Tof (tm := (.static "IceSway$Boat" "LEAST" "[I")) (ty := .int) (N := 9) (f := fun j => .int (tbL.getD j 0)) (A := A) (by decide) (hs (.arrayOf (.static "IceSway$Boat" "LEAST" "[I") .int) (by decide +kernel)) (va_eqt (hs (.eq (.length (.static "IceSway$Boat" "LEAST" "[I")) (.int 9)) (by decide +kernel))) hel hnA
  exact ⟨t, va_Zof (hts0 (.laysStatic "IceSway$Boat" "LEAST" "[I") (List.mem_of_getElem? (i := 395) (by decide +kernel))) (hts0 (.initialized "IceSway$Boat") (List.mem_of_getElem? (i := 43) (by decide +kernel))) h0 hnA, hT⟩
theorem st_tbM {s : State} {b : Nat} {A : Nat → Prop} (hgv : (Jvm.Cond.and given_1 narrow_1).before #[Value.ref b] s = true) (hts0 : ∀ w ∈ lw_tbl, w.before #[Value.ref b] s = true) (hnA : ∀ a : Nat, a < s.heap.size → ¬ A a) : ∃ t : Nat, va_Z "IceSway$Boat" "GREATEST" "[I" (.ref t) A s s.heap ∧ va_T .int t 9 (fun j => .int (tbM.getD j 0)) A s s.heap := by
  have hs := flat_of_before _ hgv
  have hel : ∀ j : Nat, j < 9 → (Term.elem (.static "IceSway$Boat" "GREATEST" "[I") (.int (Int32.ofNat j))).eval #[Value.ref b] s none [] s = some (.int (tbM.getD j 0)) := fun j hj => by
    rcases (show j = 0 ∨ j = 1 ∨ j = 2 ∨ j = 3 ∨ j = 4 ∨ j = 5 ∨ j = 6 ∨ j = 7 ∨ j = 8 by omega) with z | z | z | z | z | z | z | z | z
    · subst z; exact va_eqt (hs (.eq (.elem (.static "IceSway$Boat" "GREATEST" "[I") (.int 0)) (.int 12)) (by decide +kernel))
    · subst z; exact va_eqt (hs (.eq (.elem (.static "IceSway$Boat" "GREATEST" "[I") (.int 1)) (.int 20)) (by decide +kernel))
    · subst z; exact va_eqt (hs (.eq (.elem (.static "IceSway$Boat" "GREATEST" "[I") (.int 2)) (.int 9)) (by decide +kernel))
    · subst z; exact va_eqt (hs (.eq (.elem (.static "IceSway$Boat" "GREATEST" "[I") (.int 3)) (.int 20)) (by decide +kernel))
    · subst z; exact va_eqt (hs (.eq (.elem (.static "IceSway$Boat" "GREATEST" "[I") (.int 4)) (.int 999)) (by decide +kernel))
    · subst z; exact va_eqt (hs (.eq (.elem (.static "IceSway$Boat" "GREATEST" "[I") (.int 5)) (.int 99)) (by decide +kernel))
    · subst z; exact va_eqt (hs (.eq (.elem (.static "IceSway$Boat" "GREATEST" "[I") (.int 6)) (.int 20)) (by decide +kernel))
    · subst z; exact va_eqt (hs (.eq (.elem (.static "IceSway$Boat" "GREATEST" "[I") (.int 7)) (.int 99)) (by decide +kernel))
    · subst z; exact va_eqt (hs (.eq (.elem (.static "IceSway$Boat" "GREATEST" "[I") (.int 8)) (.int 999)) (by decide +kernel))
  obtain ⟨t, h0, hT⟩ := va_Tof (tm := (.static "IceSway$Boat" "GREATEST" "[I")) (ty := .int) (N := 9) (f := fun j => .int (tbM.getD j 0)) (A := A) (by decide) (hs (.arrayOf (.static "IceSway$Boat" "GREATEST" "[I") .int) (by decide +kernel)) (va_eqt (hs (.eq (.length (.static "IceSway$Boat" "GREATEST" "[I")) (.int 9)) (by decide +kernel))) hel hnA
  exact ⟨t, va_Zof (hts0 (.laysStatic "IceSway$Boat" "GREATEST" "[I") (List.mem_of_getElem? (i := 397) (by decide +kernel))) (hts0 (.initialized "IceSway$Boat") (List.mem_of_getElem? (i := 43) (by decide +kernel))) h0 hnA, hT⟩
theorem st_tbF {s : State} {b : Nat} {A : Nat → Prop} (hgv : (Jvm.Cond.and given_1 narrow_1).before #[Value.ref b] s = true) (hts0 : ∀ w ∈ lw_tbl, w.before #[Value.ref b] s = true) (hnA : ∀ a : Nat, a < s.heap.size → ¬ A a) : ∃ t : Nat, va_Z "IceSway$Text" "FIRST" "[I" (.ref t) A s s.heap ∧ va_T .int t 4 (fun j => .int (tbF.getD j 0)) A s s.heap := by
  have hs := flat_of_before _ hgv
  have hel : ∀ j : Nat, j < 4 → (Term.elem (.static "IceSway$Text" "FIRST" "[I") (.int (Int32.ofNat j))).eval #[Value.ref b] s none [] s = some (.int (tbF.getD j 0)) := fun j hj => by
    rcases (show j = 0 ∨ j = 1 ∨ j = 2 ∨ j = 3 by omega) with z | z | z | z
    · subst z; exact va_eqt (hs (.eq (.elem (.static "IceSway$Text" "FIRST" "[I") (.int 0)) (.int 0)) (by decide +kernel))
    · subst z; exact va_eqt (hs (.eq (.elem (.static "IceSway$Text" "FIRST" "[I") (.int 1)) (.int 0)) (by decide +kernel))
    · subst z; exact va_eqt (hs (.eq (.elem (.static "IceSway$Text" "FIRST" "[I") (.int 2)) (.int 4)) (by decide +kernel))
    · subst z; exact va_eqt (hs (.eq (.elem (.static "IceSway$Text" "FIRST" "[I") (.int 3)) (.int 6)) (by decide +kernel))
  obtain ⟨t, h0, hT⟩ := va_Tof (tm := (.static "IceSway$Text" "FIRST" "[I")) (ty := .int) (N := 4) (f := fun j => .int (tbF.getD j 0)) (A := A) (by decide) (hs (.arrayOf (.static "IceSway$Text" "FIRST" "[I") .int) (by decide +kernel)) (va_eqt (hs (.eq (.length (.static "IceSway$Text" "FIRST" "[I")) (.int 4)) (by decide +kernel))) hel hnA
  exact ⟨t, va_Zof (hts0 (.laysStatic "IceSway$Text" "FIRST" "[I") (List.mem_of_getElem? (i := 391) (by decide +kernel))) (hts0 (.initialized "IceSway$Text") (List.mem_of_getElem? (i := 42) (by decide +kernel))) h0 hnA, hT⟩
theorem st_tbE {s : State} {b : Nat} {A : Nat → Prop} (hgv : (Jvm.Cond.and given_1 narrow_1).before #[Value.ref b] s = true) (hts0 : ∀ w ∈ lw_tbl, w.before #[Value.ref b] s = true) (hnA : ∀ a : Nat, a < s.heap.size → ¬ A a) : ∃ t : Nat, va_Z "IceSway$Text" "END" "[I" (.ref t) A s s.heap ∧ va_T .int t 4 (fun j => .int (tbE.getD j 0)) A s s.heap := by
  have hs := flat_of_before _ hgv
  have hel : ∀ j : Nat, j < 4 → (Term.elem (.static "IceSway$Text" "END" "[I") (.int (Int32.ofNat j))).eval #[Value.ref b] s none [] s = some (.int (tbE.getD j 0)) := fun j hj => by
    rcases (show j = 0 ∨ j = 1 ∨ j = 2 ∨ j = 3 by omega) with z | z | z | z
    · subst z; exact va_eqt (hs (.eq (.elem (.static "IceSway$Text" "END" "[I") (.int 0)) (.int 0)) (by decide +kernel))
    · subst z; exact va_eqt (hs (.eq (.elem (.static "IceSway$Text" "END" "[I") (.int 1)) (.int 4)) (by decide +kernel))
    · subst z; exact va_eqt (hs (.eq (.elem (.static "IceSway$Text" "END" "[I") (.int 2)) (.int 6)) (by decide +kernel))
    · subst z; exact va_eqt (hs (.eq (.elem (.static "IceSway$Text" "END" "[I") (.int 3)) (.int 9)) (by decide +kernel))
  obtain ⟨t, h0, hT⟩ := va_Tof (tm := (.static "IceSway$Text" "END" "[I")) (ty := .int) (N := 4) (f := fun j => .int (tbE.getD j 0)) (A := A) (by decide) (hs (.arrayOf (.static "IceSway$Text" "END" "[I") .int) (by decide +kernel)) (va_eqt (hs (.eq (.length (.static "IceSway$Text" "END" "[I")) (.int 4)) (by decide +kernel))) hel hnA
  exact ⟨t, va_Zof (hts0 (.laysStatic "IceSway$Text" "END" "[I") (List.mem_of_getElem? (i := 393) (by decide +kernel))) (hts0 (.initialized "IceSway$Text") (List.mem_of_getElem? (i := 42) (by decide +kernel))) h0 hnA, hT⟩
theorem st_sX {s : State} {b : Nat} {A : Nat → Prop} (hgv : (Jvm.Cond.and given_1 narrow_1).before #[Value.ref b] s = true) (hts0 : ∀ w ∈ lw_tbl, w.before #[Value.ref b] s = true) (hnA : ∀ a : Nat, a < s.heap.size → ¬ A a) : ∃ t : Nat → Nat, sX (some t) A s s.heap := by
  obtain ⟨t0, h0⟩ := st_tbU hgv hts0 hnA
  obtain ⟨t1, h1⟩ := st_tbL hgv hts0 hnA
  obtain ⟨t2, h2⟩ := st_tbM hgv hts0 hnA
  obtain ⟨t3, h3⟩ := st_tbF hgv hts0 hnA
  obtain ⟨t4, h4⟩ := st_tbE hgv hts0 hnA
  refine ⟨fun k => ([t0, t1, t2, t3, t4] : List Nat).getD k 0, ⟨⟨(va_Nw.of rfl (hts0 (.methodLinkNest RX3 103 yX7_isOut "IceSway") (List.mem_of_getElem? (i := 381) (by decide +kernel)))), (va_Nw.of rfl (hts0 (.methodLinkNest RX7 9 yX3_init "IceSway") (List.mem_of_getElem? (i := 61) (by decide +kernel)))), (va_Nw.of rfl (hts0 (.methodLinkNest RX7 25 yX5_init "IceSway") (List.mem_of_getElem? (i := 119) (by decide +kernel))))⟩, ⟨(va_Nw.of rfl (hts0 (.methodLinkNest RX7 40 yX1_init "IceSway") (List.mem_of_getElem? (i := 176) (by decide +kernel)))), (va_Nw.of rfl (hts0 (.methodLinkNest RX7 47 yX4_init "IceSway") (List.mem_of_getElem? (i := 210) (by decide +kernel)))), (va_Nw.of rfl (hts0 (.methodLinkNest RX7 54 yX6_init "IceSway") (List.mem_of_getElem? (i := 232) (by decide +kernel))))⟩, (va_Nw.of rfl (hts0 (.methodLinkNest RX5 9 yX6_init "IceSway") (List.mem_of_getElem? (i := 125) (by decide +kernel)))), (va_Nw.of rfl (hts0 (.methodLinkNest RX2 11 yX4_init "IceSway") (List.mem_of_getElem? (i := 240) (by decide +kernel)))), (va_Nw.of rfl (hts0 (.methodLinkNest RX2 24 yX6_init "IceSway") (List.mem_of_getElem? (i := 243) (by decide +kernel))))⟩, h0, h1, h2, h3, h4⟩
theorem st_AO {s : State} {b : Nat} (hts0 : ∀ w ∈ lw_tbl, w.before #[Value.ref b] s = true) : va_AO RX5 s ∧ va_AO RX6 s := ⟨va_AO.of (hts0 (.arrayOver (.object RX5)) (List.mem_of_getElem? (i := 173) (by decide +kernel))), va_AO.of (hts0 (.arrayOver (.object RX6)) (List.mem_of_getElem? (i := 242) (by decide +kernel)))⟩
theorem arr_p {s : State} {b : Nat} {ty : FieldType} (h : (Cond.arrayClass ty).before #[Value.ref b] s = true) : ∃ cA : ClassId, ArrOfT s cA ty ∧ s.vm.findClass ("[" ++ ty.toString) = some cA := by
  obtain ⟨c, k, comp, h1, h2, h3⟩ := Cond.arrayClass_spec h
  exact ⟨c, fun n z => ⟨fun k h => (by cases h), k, h2, comp, h3⟩, h1⟩
theorem arr_q {s : State} {C : String} (h : va_AO C s) : ∃ cA : ClassId, ArrOfT s cA (.object C) ∧ va_RA s cA (.object C) := by
  obtain ⟨comp, c, k, h1, h2, h3, h4, h5⟩ := Cond.arrayOver_spec h
  exact ⟨c, fun n z => ⟨fun k h => (by cases h), k, h3, comp, h4⟩, k, comp, h3, h4, h1, h5⟩
theorem st_K {s : State} {b : Nat} (hts : ∀ w ∈ wsL_law, w.before #[Value.ref b] s = true) (hO : va_AO RX5 s ∧ va_AO RX6 s) : ∃ (D : va_G) (c4 : Nat → ClassId), va_K D vwCl (tyA c4) s := by
  obtain ⟨c0, i0, k0⟩ := u_known (C := RX0) (T := TX0) (N := 1) (n := 1) hts inlX0 (hts (.instantiable RX0 1) (by decide +kernel))
  obtain ⟨c1, i1, k1⟩ := u_known (C := RX1) (T := TX1) (N := 8) (n := 8) hts inlX1 (hts (.instantiable RX1 8) (by decide +kernel))
  obtain ⟨c2, i2, k2⟩ := u_known (C := RX2) (T := TX2) (N := 14) (n := 14) hts inlX2 (hts (.instantiable RX2 14) (by decide +kernel))
  obtain ⟨c3, i3, k3⟩ := u_known (C := RX3) (T := TX3) (N := 10) (n := 10) hts inlX3 (hts (.instantiable RX3 10) (by decide +kernel))
  obtain ⟨c4, i4, k4⟩ := u_known (C := RX4) (T := TX4) (N := 4) (n := 4) hts inlX4 (hts (.instantiable RX4 4) (by decide +kernel))
  obtain ⟨c5, i5, k5⟩ := u_known (C := RX5) (T := TX5) (N := 4) (n := 4) hts inlX5 (hts (.instantiable RX5 4) (by decide +kernel))
  obtain ⟨c6, i6, k6⟩ := u_known (C := RX6) (T := TX6) (N := 5) (n := 5) hts inlX6 (hts (.instantiable RX6 5) (by decide +kernel))
  obtain ⟨c7, i7, k7⟩ := u_known (C := RX7) (T := TX7) (N := 10) (n := 10) hts inlX7 (hts (.instantiable RX7 10) (by decide +kernel))
  obtain ⟨c8, i8, k8⟩ := u_known (C := RX8) (T := TX8) (N := 28) (n := 28) hts inlX8 (hts (.instantiable RX8 28) (by decide +kernel))
  obtain ⟨a0, p0, r0⟩ := arr_p (ty := .int) (hts (.arrayClass .int) (by decide +kernel))
  obtain ⟨a1, p1, r1⟩ := arr_p (ty := .boolean) (hts (.arrayClass .boolean) (by decide +kernel))
  obtain ⟨a2, p2, r2⟩ := arr_q hO.1
  obtain ⟨a3, p3, r3⟩ := arr_q hO.2
  refine ⟨(fun k => ([c0, c1, c2, c3, c4, c5, c6, c7, c8] : List ClassId).getD k c0, fun k => ([i0, i1, i2, i3, i4, i5, i6, i7, i8] : List (Nat → Nat)).getD k i0), fun k => ([a0, a1, a2, a3] : List ClassId).getD k a0, ?_, ?_⟩
  · intro k q hq
    match k, hq with
    | 0, hq => cases hq; exact k0
    | 1, hq => cases hq; exact k1
    | 2, hq => cases hq; exact k2
    | 3, hq => cases hq; exact k3
    | 4, hq => cases hq; exact k4
    | 5, hq => cases hq; exact k5
    | 6, hq => cases hq; exact k6
    | 7, hq => cases hq; exact k7
    | 8, hq => cases hq; exact k8
    | k + 9, hq => simp [vwCl] at hq
  · intro k q hq
    match k, hq with
    | 0, hq => cases hq; exact ⟨p0, r0⟩
    | 1, hq => cases hq; exact ⟨p1, r1⟩
    | 2, hq => cases hq; exact ⟨p2, r2⟩
    | 3, hq => cases hq; exact ⟨p3, r3⟩
    | k + 4, hq => simp [tyA] at hq
