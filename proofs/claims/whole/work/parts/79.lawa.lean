/-! the law: what class and reference share -/
theorem arrV_cong {cA : ClassId} {N : Nat} {f g : Nat → Value} (h : ∀ j, j < N → f j = g j) : arrV cA N f = arrV cA N g := by
  have e : (fun j : Fin N => f j.val) = (fun j : Fin N => g j.val) := funext fun j => h j.val j.isLt
  unfold arrV
  rw [e]
theorem gW.nb {D : va_G} {A : Nat → Prop} {H0 : Heap} {c4 : Nat → ClassId} {G : List va_W} {H : Heap} {locs : List Loc} {a : Nat → Nat} {f g : Nat → Int32} (h : gW D A H0 (bG c4 a f :: G) H locs) (e : ∀ j, j < 9 → f j = g j) : gW D A H0 (bG c4 a g :: G) H locs := by
  obtain ⟨h1, h2, h3⟩ := h
  refine ⟨?_, ?_, h3⟩
  · rw [gp_mem] at h1 ⊢
    intro q hq
    have hc : vp_cell (c4 0) (9, .inl f) = vp_cell (c4 0) (9, .inl g) := by rw [vp_cell_i, vp_cell_i]; exact arrV_cong fun j hj => congrArg Value.int (e j hj)
    rcases List.mem_cons.mp hq with z | hq
    · exact h1 q (List.mem_cons.mpr (Or.inl z))
    · rcases List.mem_cons.mp hq with z | hq
      · subst z
        have h4 := h1 (a 1, .inl (c4 0, 9, .inl f)) (List.mem_cons_of_mem _ List.mem_cons_self)
        show H[a 1]? = some (vp_cell (c4 0) (9, .inl g))
        rw [← hc]
        exact h4
      · exact h1 q (List.mem_cons_of_mem _ (List.mem_cons_of_mem _ hq))
  · rw [gd_nd] at h2 ⊢
    refine ⟨h2.1, fun q hq => ?_⟩
    rcases List.mem_cons.mp hq with z | hq
    · exact h2.2 q (List.mem_cons.mpr (Or.inl z))
    · rcases List.mem_cons.mp hq with z | hq
      · subst z
        exact h2.2 (a 1, .inl (c4 0, 9, .inl f)) (List.mem_cons_of_mem _ List.mem_cons_self)
      · exact h2.2 q (List.mem_cons_of_mem _ (List.mem_cons_of_mem _ hq))
theorem r_sld {p : Program} {l : Launch} {e : Env} {R : Room} {s : State} {m : MethodId} {args : Array Value} {below : List Frame} {meth : Method} {c : Code} {H : Heap} {locs : List Loc} {cells slots : Nat} {Q : State → Prop} {cc : ByteArray} {pc : Nat} {ls : Array Slot} {rest : List Value} {D : va_G} {A : Nat → Prop} {G : List va_W} {b L : Nat} {xs : Nat → Int32}
    (hexec : p.tables.exec = Jvm.exec) (hb : c.code = cc) (hX : va_X b L xs s s.heap) (hbl : b < s.heap.size) (hbA : ¬ A b) (hw : gW D A s.heap G H locs) (k : Nat) (hk : k < L) (hL : L ≤ 3072) (hdg : decode cc pc = .ok (.iaload, 1)) (kk : W p l e R s m args below meth c H locs cells slots Q (F0 m (pc + 1) ls (.int (xs k) :: rest))) : W p l e R s m args below meth c H locs cells slots Q (F0 m pc ls (.int (nI k) :: .ref b :: rest)) := by
  refine va_sld hexec hb hX hbl hbA hw.2.2 (vp_in_nI hk (by omega)) hdg ?_
  rw [nI_clamp (by omega)]
  exact kk
def LC (jp : Program) (js : State) (jm : MethodId) (meth : Method) (jc : Code) (D : va_G) (c4 : Nat → ClassId) (A : Nat → Prop) (t : Nat → Nat) (b L : Nat) (xs : Nat → Int32) : Prop :=
  jp.tables.exec = Jvm.exec ∧ jc.code = cL_law ∧ meth.sig.returnType = ret ∧ jc.maxLocals = 4 ∧ js.vm.findClass RL = some jm.cls ∧ (∀ w ∈ wsL_law, w.before #[Value.ref b] js = true) ∧ va_X b L xs js js.heap ∧ b < js.heap.size ∧ meth.locks = false ∧ va_K D vwCl (tyA c4) js ∧ sX (some t) A js js.heap ∧ ¬ A b ∧ L ≤ 3072
/-- now -/
def RL1 (n : Nat) (q : Nat → Yq) (os : Int32) (kd ic br w : Nat → Int32) (bt nt sd : Int32) : Prop := n ≤ 12 ∧ yR q n os kd ic br ∧ mY q n w 0 ∧ w 48 = bt ∧ w 49 = nt ∧ w 50 = sd ∧ rng bt 1 9 ∧ sdOk sd
/-- the letters -/
def RL2 (ln : Nat) (lt : Nat → Int32) : Prop := ln ≤ 230 ∧ ∀ i, i < ln → ¬ lt i = -1
/-- what was bored and written -/
def RL3 (n bc ec : Nat) (bn bd ey : Nat → Int32) : Prop := bc ≤ 10 ∧ ec ≤ 15 ∧ boOk bc bn bd ∧ ∀ i, i < ec → ∃ k, k < n ∧ ey i = nI k
/-- an image -/
def RLI (n h k : Nat) (kp mkp w : Nat → Int32) (qi : Nat → Yq) (jn io ib it iz : Int32) (ik ii ir : Nat → Int32) : Prop := kp k = mkp k ∧ (¬ kp k = 0 → jn = nI n ∧ yR qi n io ik ii ir ∧ mY qi n w h ∧ w (h + 48) = ib ∧ w (h + 49) = it ∧ w (h + 50) = iz ∧ rng ib 1 9 ∧ sdOk iz)
theorem RL1.now {n : Nat} {q : Nat → Yq} {os : Int32} {kd ic br w w2 : Nat → Int32} {bt nt sd : Int32} (h : RL1 n q os kd ic br w bt nt sd) (e : wNow w w2) : RL1 n q os kd ic br w2 bt nt sd := by
  obtain ⟨h1, h2, h3, h4, h5, h6, h7⟩ := h
  exact ⟨h1, h2, h3.now h1 e, (e 48 (by omega)).trans h4, (e 49 (by omega)).trans h5, (e 50 (by omega)).trans h6, h7⟩
theorem RLI.at {n h k : Nat} {kp mkp w w2 : Nat → Int32} {qi : Nat → Yq} {jn io ib it iz : Int32} {ik ii ir : Nat → Int32} (g : RLI n h k kp mkp w qi jn io ib it iz ik ii ir) (hh : 102 ≤ h) (e : ∀ j, 102 ≤ j → w2 j = w j) : RLI n h k kp mkp w2 qi jn io ib it iz ik ii ir := by
  refine ⟨g.1, fun c => ?_⟩
  obtain ⟨h0, h1, h2, h3, h4, h5, h6⟩ := g.2 c
  exact ⟨h0, h1, fun y hy => by rw [e _ (by omega), e _ (by omega), e _ (by omega), e _ (by omega)]; exact h2 y hy, (e _ (by omega)).trans h3, (e _ (by omega)).trans h4, (e _ (by omega)).trans h5, h6⟩
theorem wNow.hi {w w2 : Nat → Int32} (e : wNow w w2) : ∀ j, 102 ≤ j → w2 j = w j := fun j hj => e j (Or.inr hj)
theorem fd_ok {ln ln2 : Nat} {lt lt2 : Nat → Int32} {v r : Int32} (h : RL2 ln lt) (e1 : (r, ln2) = fdF v ln) (e2 : lt2 = fdL v ln lt) : RL2 ln2 lt2 := by
  unfold fdF at e1
  unfold fdL at e2
  by_cases c : inR v 0 255
  · rw [if_pos c] at e1 e2
    by_cases d : ln < 230
    · rw [if_pos d] at e1 e2
      have e3 : ln2 = ln + 1 := congrArg Prod.snd e1
      subst e3; subst e2
      refine ⟨by omega, fun i hi => ?_⟩
      by_cases f : i = ln
      · subst f
        rw [pk_us']
        intro z
        exact c.1 (by rw [z]; decide)
      · rw [pk_un' _ _ f]; exact h.2 i (by omega)
    · rw [if_neg d] at e1 e2
      have e3 : ln2 = ln := congrArg Prod.snd e1
      subst e3; subst e2
      exact h
  · rw [if_neg c] at e1 e2
    have e3 : ln2 = ln := congrArg Prod.snd e1
    subst e3; subst e2
    exact h
theorem laggP.one {t bt : Int32} {nb : Nat → Int32} {q : Nat → Yq} {n : Nat} {r r2 : Int32} (h : laggP t nb bt q n r) (h2 : laggP t nb bt q n r2) : r = r2 := by
  by_cases c : inR t 1 999
  · exact (h.1 c).one (h2.1 c)
  · rw [h.2 c, h2.2 c]
theorem horsP.one {t bt : Int32} {nb : Nat → Int32} {q : Nat → Yq} {n : Nat} {r r2 : Int32} (h : horsP t nb bt q n r) (h2 : horsP t nb bt q n r2) : r = r2 := by
  by_cases c : inR t 1 999
  · exact (h.1 c).one (h2.1 c)
  · rw [h.2 c, h2.2 c]
theorem turnP.one {t f x g : Int32} {q : Nat → Yq} {n : Nat} {r r2 : Int32} (h : turnP t f x g q n r) (h2 : turnP t f x g q n r2) : r = r2 := by
  by_cases c : inR t 1 999
  · obtain ⟨k, e, hk⟩ := h.1 c
    obtain ⟨k2, e2, hk2⟩ := h2.1 c
    rw [e, e2, hk.one hk2]
  · rw [h.2 c, h2.2 c]
theorem lostP.one {c t f x : Int32} {q : Nat → Yq} {n : Nat} {r r2 : Int32} (h : lostP c t f x q n r) (h2 : lostP c t f x q n r2) : r = r2 := by
  by_cases d : inR c 0 30 ∧ inR t 1 999
  · exact (h.1 d.1 d.2).one (h2.1 d.1 d.2)
  · rw [h.2 d, h2.2 d]
theorem rowB.one {c : Prop} {f g g2 : Nat → Int32} {i : Nat} {x : Int32} (h : rowB c f g i x) (h2 : rowB c f g2 i x) : g = g2 := by
  by_cases d : c
  · rw [h.1 d, h2.1 d]
  · rw [h.2 d, h2.2 d]
/-- nights, thaws, drift, out, beat: now -/
theorem RL1.up {n : Nat} {q q2 q3 : Nat → Yq} {os os2 : Int32} {kd ic br kd2 ic2 br2 w w2 : Nat → Int32} {bt nt sd nt2 : Int32} (h : RL1 n q os kd ic br w bt nt sd) (hy : yR q2 n os2 kd2 ic2 br2) (hm : mY q3 n w2 0) (eq : q3 = q2) (h48 : w2 48 = w 48) (h49 : w2 49 = nt2) (h50 : w2 50 = w 50) : RL1 n q2 os2 kd2 ic2 br2 w2 bt nt2 sd :=
  ⟨h.1, hy, eq ▸ hm, h48.trans h.2.2.2.1, h49, h50.trans h.2.2.2.2.2.1, h.2.2.2.2.2.2.1, h.2.2.2.2.2.2.2⟩
theorem RL1.dr {n : Nat} {q q2 q3 : Nat → Yq} {os os2 : Int32} {kd ic br kd2 ic2 br2 w w2 : Nat → Int32} {bt nt sd nt2 sd2 : Int32} (h : RL1 n q os kd ic br w bt nt sd) (hy : yR q2 n os2 kd2 ic2 br2) (hm : mY q3 n w2 0) (eq : q3 = q2) (h48 : w2 48 = w 48) (h49 : w2 49 = nt2) (h50 : w2 50 = sd2) (hs : sdOk sd2) : RL1 n q2 os2 kd2 ic2 br2 w2 bt nt2 sd2 :=
  ⟨h.1, hy, eq ▸ hm, h48.trans h.2.2.2.1, h49, h50, h.2.2.2.2.2.2.1, hs⟩
theorem df_sd {k nt sd r nt2 sd2 : Int32} {q q2 : Nat → Yq} {n : Nat} (h : sdOk sd) (e : driftF k nt sd q n = (r, nt2, sd2, q2)) : sdOk sd2 := by
  unfold driftF at e
  by_cases c : inR k 1 99
  · rw [if_pos c] at e
    by_cases d : nt ≤ 9000
    · rw [if_pos d] at e
      have e3 := congrArg (fun z => z.2.2.1) e
      rw [show sd2 = sdI sd k.toNatClampNeg from e3.symm]
      exact sdI_ok h _
    · rw [if_neg d] at e
      rw [show sd2 = sd from (congrArg (fun z => z.2.2.1) e).symm]; exact h
  · rw [if_neg c] at e
    rw [show sd2 = sd from (congrArg (fun z => z.2.2.1) e).symm]; exact h
theorem bt_ok {b bt r bt2 : Int32} {nb : Nat → Int32} (h : rng bt 1 9) (e : (r, bt2) = beatF b bt nb) : rng bt2 1 9 := by
  unfold beatF at e
  by_cases c : inR b 1 9
  · rw [if_pos c] at e
    rw [show bt2 = b from congrArg Prod.snd e]; exact c.I
  · rw [if_neg c] at e
    rw [show bt2 = bt from congrArg Prod.snd e]; exact h
theorem RL1.bt {n : Nat} {q : Nat → Yq} {os : Int32} {kd ic br w w2 : Nat → Int32} {bt nt sd bt2 : Int32} (h : RL1 n q os kd ic br w bt nt sd) (e48 : w2 48 = bt2) (hw : ∀ j, ¬ j = 48 → w2 j = w j) (hb : rng bt2 1 9) : RL1 n q os kd ic br w2 bt2 nt sd :=
  ⟨h.1, h.2.1, h.2.2.1.out h.1 (fun j _ hj => hw j (by omega)), e48, (hw 49 (by decide)).trans h.2.2.2.2.1, (hw 50 (by decide)).trans h.2.2.2.2.2.1, hb, h.2.2.2.2.2.2.2⟩
theorem RL1.sd {n : Nat} {q : Nat → Yq} {os : Int32} {kd ic br w : Nat → Int32} {bt nt sd v : Int32} (h : RL1 n q os kd ic br w bt nt sd) (hv : 0 ≤ v) : RL1 n q os kd ic br (upd w 50 v) bt nt v := by
  refine ⟨h.1, h.2.1, h.2.2.1.out h.1 (fun j _ hj => pk_un' _ _ (by omega)), (pk_un' _ _ (by decide)).trans h.2.2.2.1, (pk_un' _ _ (by decide)).trans h.2.2.2.2.1, pk_us' _ _ _, h.2.2.2.2.2.2.1, ?_⟩
  obtain ⟨k, hk, e⟩ := nI_of (x := v) (by rw [fa_lt, show (0 : Int32).toInt = 0 from rfl]; rw [fa_le, show (0 : Int32).toInt = 0 from rfl] at hv; omega)
  exact ⟨k, hk, e⟩
/-- bored, written -/
theorem RL3.bo {n bc ec bc2 : Nat} {by0 bn bd ey bn2 bd2 : Nat → Int32} {y k c v r : Int32} (h : RL3 n bc ec bn bd ey) (e : (r, bc2) = boreF n bc y k c v) (h1 : rowB (okB n bc y k c v) bn bn2 bc k) (h2 : rowB (okB n bc y k c v) bd bd2 bc c) : RL3 n bc2 ec bn2 bd2 ey := by
  by_cases d : okB n bc y k c v
  · rw [bo_ok d] at e
    have e2 : bc2 = bc + 1 := congrArg Prod.snd e
    subst e2
    have q1 := h1.1 d
    have q2 := h2.1 d
    subst q1; subst q2
    have hd := d.2.2.2.2
    refine ⟨by omega, h.2.1, fun i hi => ?_, h.2.2.2⟩
    by_cases z : i = bc
    · subst z
      rw [pk_us', pk_us']
      obtain ⟨j, -, hj, ej⟩ := d.2.1.nat (a := 0) (b := 9) rfl rfl
      exact ⟨⟨j, hj, ej⟩, coldI d.2.2.1⟩
    · rw [pk_un' _ _ z, pk_un' _ _ z]; exact h.2.2.1 i (by omega)
  · have q1 := h1.2 d
    have q2 := h2.2 d
    subst q1; subst q2
    have e2 : bc2 = bc := by
      have e3 := congrArg Prod.snd e
      rw [show bc2 = (boreF n bc y k c v).2 from e3]
      unfold boreF
      by_cases a1 : isY n y
      · rw [if_pos a1]
        by_cases a2 : inR k 0 9
        · rw [if_pos a2]
          by_cases a3 : inR c 0 30
          · rw [if_pos a3]
            by_cases a4 : inR v 0 300
            · rw [if_pos a4]
              by_cases a5 : bc < 10
              · exact absurd ⟨a1, a2, a3, a4, a5⟩ d
              · rw [if_neg a5]
            · rw [if_neg a4]
          · rw [if_neg a3]
        · rw [if_neg a2]
      · rw [if_neg a1]
    subst e2
    exact h
theorem RL3.wr {n bc ec ec2 : Nat} {bn bd ey ey2 : Nat → Int32} {y v r : Int32} (hn : n ≤ 12) (h : RL3 n bc ec bn bd ey) (e : (r, ec2) = writF n ec y v) (h1 : rowB (okW n ec y v) ey ey2 ec y) : RL3 n bc ec2 bn bd ey2 := by
  by_cases d : okW n ec y v
  · rw [wr_ok d] at e
    have e2 : ec2 = ec + 1 := congrArg Prod.snd e
    subst e2
    have q1 := h1.1 d
    subst q1
    have hd := d.2.2
    refine ⟨h.1, by omega, h.2.2.1, fun i hi => ?_⟩
    by_cases z : i = ec
    · subst z
      rw [pk_us']
      obtain ⟨j, hj, ej⟩ := isY_k d.1
      exact ⟨j, hj, ej⟩
    · rw [pk_un' _ _ z]; exact h.2.2.2 i (by omega)
  · have q1 := h1.2 d
    subst q1
    have e2 : ec2 = ec := by
      have e3 := congrArg Prod.snd e
      rw [show ec2 = (writF n ec y v).2 from e3]
      unfold writF
      by_cases a1 : isY n y
      · rw [if_pos a1]
        by_cases a4 : inR v 0 300
        · rw [if_pos a4]
          by_cases a5 : ec < 15
          · exact absurd ⟨a1, a4, a5⟩ d
          · rw [if_neg a5]
        · rw [if_neg a4]
      · rw [if_neg a1]
    subst e2
    exact h
theorem RL3.z {n bc ec : Nat} {bn bd ey : Nat → Int32} : RL3 n 0 0 bn bd ey := ⟨by omega, by omega, fun i hi => absurd hi (by omega), fun i hi => absurd hi (by omega)⟩
