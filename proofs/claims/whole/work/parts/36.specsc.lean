theorem it_succ {c : Int32} {q : Nat → Yq} {n d : Nat} {os : Int32} {kd ic br : Nat → Int32} (hd : 0 < d) (h : yR (fun y => nightQ c (itQ (nightQ c) (d - 1) (q y))) n os kd ic br) : yR (fun y => itQ (nightQ c) d (q y)) n os kd ic br := by
  obtain ⟨j, rfl⟩ : ∃ j, d = j + 1 := ⟨d - 1, by omega⟩
  exact h
theorem it_zero {c : Int32} {q : Nat → Yq} {n d : Nat} {os : Int32} {kd ic br : Nat → Int32} (hd : d = 0) (h : yR (fun y => itQ (nightQ c) (d - 1) (q y)) n os kd ic br) : yR (fun y => itQ (nightQ c) d (q y)) n os kd ic br := by
  subst hd
  exact h
abbrev okB (n bc : Nat) (y k c v : Int32) : Prop := isY n y ∧ inR k 0 9 ∧ inR c 0 30 ∧ inR v 0 300 ∧ bc < 10
abbrev okW (n ec : Nat) (y v : Int32) : Prop := isY n y ∧ inR v 0 300 ∧ ec < 15
def rowB (c : Prop) (f g : Nat → Int32) (i : Nat) (x : Int32) : Prop := (c → g = upd f i x) ∧ (¬ c → g = f)
theorem bo_ok {n bc : Nat} {y k c v : Int32} (h : okB n bc y k c v) : boreF n bc y k c v = (nI (bc + 1), bc + 1) := by
  unfold boreF; rw [if_pos h.1, if_pos h.2.1, if_pos h.2.2.1, if_pos h.2.2.2.1, if_pos h.2.2.2.2]
theorem wr_ok {n ec : Nat} {y v : Int32} (h : okW n ec y v) : writF n ec y v = (nI (ec + 1), ec + 1) := by
  unfold writF; rw [if_pos h.1, if_pos h.2.1, if_pos h.2.2]
theorem rowB.no {c : Prop} {f : Nat → Int32} {i : Nat} {x : Int32} (h : ¬ c) : rowB c f f i x := ⟨fun z => absurd z h, fun _ => rfl⟩
theorem rowB.yes {c : Prop} {f g : Nat → Int32} {i : Nat} {x : Int32} (h : c) (e : g = upd f i x) : rowB c f g i x := ⟨fun _ => e, fun z => absurd h z⟩
def lsQ (ys : List (Int32 × Int32)) : Nat → Yq := fun y => ((ys.getD y (0, 0)).2, (ys.getD y (0, 0)).1, 0, false)
theorem getD_some {ys : List (Int32 × Int32)} {y : Nat} (h : y < ys.length) : ys[y]? = some (ys.getD y (0, 0)) := by
  rw [List.getElem?_eq_getElem h]
  show some ys[y] = some ((ys[y]?).getD (0, 0))
  rw [List.getElem?_eq_getElem h]
  rfl
theorem new_of {ys : List (Int32 × Int32)} {yk yi : Nat → Int32} (h : ysOk ys) (hr : ysR ys yk yi) : newOk ys.length yk yi := fun y hy => by
  have e := getD_some hy
  obtain ⟨e1, e2⟩ := hr y _ e
  rw [e1, e2]
  exact h _ (List.mem_of_getElem? e)
theorem yR.cong {q q2 : Nat → Yq} {n : Nat} {os : Int32} {kd ic br : Nat → Int32} (h : yR q n os kd ic br) (e : ∀ y, y < n → q y = q2 y) : yR q2 n os kd ic br := by
  refine ⟨fun y hy => by rw [← e y hy]; exact h.1 y hy, ?_⟩
  rw [h.2]
  exact congrArg nI (oset_congr fun y hy => by rw [e y hy])
theorem new_ls {ys : List (Int32 × Int32)} {yk yi : Nat → Int32} (hr : ysR ys yk yi) : ∀ y, y < ys.length → newQ yk yi y = lsQ ys y := fun y hy => by
  obtain ⟨e1, e2⟩ := hr y _ (getD_some hy)
  unfold newQ lsQ
  rw [e1, e2]
theorem tl_of {nb np : Nat → Int32} (h : nbOk np) (e : nbR nb np) : tlOk nb := by
  have g : ∀ i, i < 9 → (tbL.getD i 0).toInt ≤ (nb i).toInt ∧ (nb i).toInt ≤ (tbM.getD i 0).toInt := fun i hi => by
    have h1 := h i hi
    rw [fa_lt, fa_lt] at h1
    rw [e i hi]
    omega
  exact ⟨g 0 (by decide), g 1 (by decide), g 2 (by decide), g 3 (by decide), g 4 (by decide), g 5 (by decide), g 6 (by decide), g 7 (by decide), g 8 (by decide)⟩
/-! cut, keep, goBack -/
def cutP (lt : Nat → Int32) (ln : Nat) (n0 os0 bt nt : Int32) (bc ec : Nat) (kd0 ic0 br0 nb kp : Nat → Int32) (r fp2 n2 os2 bt2 nt2 bc2 ec2 : Int32) (kd2 ic2 br2 nb2 kp2 : Nat → Int32) : Prop :=
  (∃ ys np, parse lt ln = .inl (ys, np) ∧ r = nI ys.length ∧ fp2 = -1 ∧ n2 = nI ys.length ∧ yR (lsQ ys) ys.length os2 kd2 ic2 br2 ∧ nbR nb2 np ∧ bt2 = 4 ∧ nt2 = 0 ∧ bc2 = 0 ∧ ec2 = 0 ∧ kp2 0 = 0 ∧ kp2 1 = 0) ∨
  (∃ w k, parse lt ln = .inr (w, k) ∧ r = -10 - k ∧ fp2 = nI w ∧ n2 = n0 ∧ os2 = os0 ∧ kd2 = kd0 ∧ ic2 = ic0 ∧ br2 = br0 ∧ nb2 = nb ∧ bt2 = bt ∧ nt2 = nt ∧ bc2 = nI bc ∧ ec2 = nI ec ∧ kp2 = kp)
abbrev Im : Type := Int32 × Int32 × Int32 × Int32 × Int32 × (Nat → Int32) × (Nat → Int32) × (Nat → Int32)
/-- an image that holds what is so -/
def imN (n : Nat) (q : Nat → Yq) (bt nt sd : Int32) (m : Im) : Prop := m.1 = nI n ∧ yR q n m.2.1 m.2.2.2.2.2.1 m.2.2.2.2.2.2.1 m.2.2.2.2.2.2.2 ∧ m.2.2.1 = bt ∧ m.2.2.2.1 = nt ∧ m.2.2.2.2.1 = sd
def keepP (n : Nat) (q : Nat → Yq) (bt nt sd v r : Int32) (kp kp2 : Nat → Int32) (m0 m1 z0 z1 : Im) : Prop :=
  (v = 0 ∧ r = 1 ∧ kp2 = upd kp 0 1 ∧ imN n q bt nt sd z0 ∧ z1 = m1) ∨ (v = 1 ∧ r = 1 ∧ kp2 = upd kp 1 1 ∧ z0 = m0 ∧ imN n q bt nt sd z1) ∨ (¬ inR v 0 1 ∧ r = UNK ∧ kp2 = kp ∧ z0 = m0 ∧ z1 = m1)
def backP (n : Nat) (q q0 q1 : Nat → Yq) (bt nt sd b0 t0 s0 b1 t1 s1 v r : Int32) (kp : Nat → Int32) (bt2 nt2 sd2 os2 : Int32) (kd2 ic2 br2 : Nat → Int32) : Prop :=
  (v = 0 ∧ ¬ kp 0 = 0 ∧ r = 1 ∧ bt2 = b0 ∧ nt2 = t0 ∧ sd2 = s0 ∧ yR q0 n os2 kd2 ic2 br2) ∨ (v = 1 ∧ ¬ kp 1 = 0 ∧ r = 1 ∧ bt2 = b1 ∧ nt2 = t1 ∧ sd2 = s1 ∧ yR q1 n os2 kd2 ic2 br2) ∨ (inR v 0 1 ∧ kp v.toNatClampNeg = 0 ∧ r = NOTc ∧ bt2 = bt ∧ nt2 = nt ∧ sd2 = sd ∧ yR q n os2 kd2 ic2 br2) ∨ (¬ inR v 0 1 ∧ r = UNK ∧ bt2 = bt ∧ nt2 = nt ∧ sd2 = sd ∧ yR q n os2 kd2 ic2 br2)
theorem in01 {v : Int32} (h : inR v 0 1) : v = 0 ∨ v = 1 := by
  obtain ⟨k, -, hk, e⟩ := h.nat (a := 0) (b := 1) rfl rfl
  have h4 : k = 0 ∨ k = 1 := by omega
  rw [e]
  rcases h4 with z | z <;> subst z <;> decide
theorem kz_step {i : Nat} {kp : Nat → Int32} (h : ∀ j, j < i → kp j = 0) : ∀ j, j < i + 1 → upd kp i 0 j = 0 := fun j hj => by
  by_cases c : j = i
  · subst c; exact pk_us' _ _ _
  · rw [pk_un' _ _ c]; exact h j (by omega)
