/-! days of a plan: every set of days -/
def ltP (a b : Int32 × Int32) : Prop := a.1.toInt < b.1.toInt ∨ (a.1.toInt = b.1.toInt ∧ a.2.toInt < b.2.toInt)
def isMin (L : Int32 × Int32 → Prop) (b m : Int32 × Int32) : Prop := (m = b ∨ L m) ∧ ¬ ltP b m ∧ ∀ p, L p → ¬ ltP p m
theorem ltP_tr {a b c : Int32 × Int32} (h1 : ¬ ltP a b) (h2 : ¬ ltP b c) : ¬ ltP a c := by unfold ltP at *; omega
theorem ltP_rf (a : Int32 × Int32) : ¬ ltP a a := by unfold ltP; omega
theorem isMin.two {L1 L2 : Int32 × Int32 → Prop} {b m1 m : Int32 × Int32} (h1 : isMin L1 b m1) (h2 : isMin L2 m1 m) : isMin (fun p => L1 p ∨ L2 p) b m := by
  refine ⟨?_, ltP_tr h1.2.1 h2.2.1, fun p hp => ?_⟩
  · rcases h2.1 with e | e
    · rcases h1.1 with e2 | e2
      · exact Or.inl (e.trans e2)
      · exact Or.inr (Or.inl (by rw [e]; exact e2))
    · exact Or.inr (Or.inr e)
  · rcases hp with hp | hp
    · exact ltP_tr (h1.2.2 p hp) h2.2.1
    · exact h2.2.2 p hp
theorem isMin.cong {L1 L2 : Int32 × Int32 → Prop} {b m : Int32 × Int32} (h : isMin L1 b m) (e : ∀ p, L1 p ↔ L2 p) : isMin L2 b m := by
  refine ⟨?_, h.2.1, fun p hp => h.2.2 p ((e p).mpr hp)⟩
  rcases h.1 with z | z
  · exact Or.inl z
  · exact Or.inr ((e _).mp z)
theorem isMin.one {L : Int32 × Int32 → Prop} {b1 b2 m1 m2 p : Int32 × Int32} (h1 : isMin L b1 m1) (h2 : isMin L b2 m2) (hp : L p) (g1 : ltP p b1) (g2 : ltP p b2) : m1 = m2 := by
  have a1 : L m1 := by
    rcases h1.1 with z | z
    · exact absurd (by rw [z]; exact g1) (h1.2.2 p hp)
    · exact z
  have a2 : L m2 := by
    rcases h2.1 with z | z
    · exact absurd (by rw [z]; exact g2) (h2.2.2 p hp)
    · exact z
  have c1 := h1.2.2 m2 a2
  have c2 := h2.2.2 m1 a1
  unfold ltP at c1 c2
  have e1 : m1.1 = m2.1 := by rw [fa_eq]; omega
  have e2 : m1.2 = m2.2 := by rw [fa_eq]; omega
  exact Prod.ext e1 e2
theorem bet_min (cost set : Int32) (b : Int32 × Int32) : isMin (fun p => p = (cost, set)) b (betP cost set b) := by
  unfold betP
  by_cases c1 : cost < b.1
  · rw [if_pos c1]
    rw [fa_lt] at c1
    refine ⟨Or.inr rfl, ?_, fun p hp => ?_⟩
    · unfold ltP; show ¬ (b.1.toInt < cost.toInt ∨ (b.1.toInt = cost.toInt ∧ b.2.toInt < set.toInt)); omega
    · rw [hp]; exact ltP_rf _
  · rw [if_neg c1]
    rw [fa_lt] at c1
    by_cases c2 : cost = b.1
    · rw [if_pos c2]
      by_cases c3 : b.2 ≤ set
      · rw [if_pos c3]
        rw [fa_le] at c3
        refine ⟨Or.inl rfl, ltP_rf _, fun p hp => ?_⟩
        rw [hp]; unfold ltP; show ¬ (cost.toInt < b.1.toInt ∨ (cost.toInt = b.1.toInt ∧ set.toInt < b.2.toInt)); omega
      · rw [if_neg c3]
        rw [fa_le] at c3
        rw [fa_eq] at c2
        refine ⟨Or.inr rfl, ?_, fun p hp => ?_⟩
        · unfold ltP; show ¬ (b.1.toInt < cost.toInt ∨ (b.1.toInt = cost.toInt ∧ b.2.toInt < set.toInt)); omega
        · rw [hp]; exact ltP_rf _
    · rw [if_neg c2]
      rw [fa_eq] at c2
      refine ⟨Or.inl rfl, ltP_rf _, fun p hp => ?_⟩
      rw [hp]; unfold ltP; show ¬ (cost.toInt < b.1.toInt ∨ (cost.toInt = b.1.toInt ∧ set.toInt < b.2.toInt)); omega
def costL (n : Nat) (f x t c cd dc wc : Int32) : Nat → Nat → (Nat → Yq) → Int32 → Int32 → Int32
  | 0, _, _, _, cost => cost
  | r + 1, s, q, coal, cost => if s % 2 = 1 then costL n f x t c cd dc wc r (s / 2) (goneQ f x t c n q) (if bhQ f x t q n = n then cd else coL coal) (coW coal cost wc + dc) else costL n f x t c cd dc wc r (s / 2) (fun y => nightQ c (q y)) (coL coal) (coW coal cost wc)
theorem coW_rng {coal cost wc : Int32} (hw : rng wc 0 999) (h0 : 0 ≤ cost.toInt) (h1 : cost.toInt ≤ 1000000) : cost.toInt ≤ (coW coal cost wc).toInt ∧ (coW coal cost wc).toInt ≤ cost.toInt + 999 := by
  unfold rng at hw
  unfold coW
  split
  · rw [fb_addI (by omega) (by omega)]; omega
  · omega
theorem coD_rng {coal cost dc wc : Int32} (hw : rng wc 0 999) (hd : rng dc 0 99) (h0 : 0 ≤ cost.toInt) (h1 : cost.toInt ≤ 1000000) : cost.toInt ≤ (coW coal cost wc + dc).toInt ∧ (coW coal cost wc + dc).toInt ≤ cost.toInt + 1098 := by
  have h := coW_rng (coal := coal) hw h0 h1
  unfold rng at hd
  rw [fb_addI (by omega) (by omega)]; omega
section PLANS
variable {n : Nat} {f x t c cd dc wc : Int32}
theorem costL_ge (hw : rng wc 0 999) (hd : rng dc 0 99) : ∀ (r s : Nat) (q : Nat → Yq) (coal cost : Int32), 0 ≤ cost.toInt → cost.toInt + 1098 * (r : Int) ≤ 1000000 → cost.toInt ≤ (costL n f x t c cd dc wc r s q coal cost).toInt ∧ (costL n f x t c cd dc wc r s q coal cost).toInt ≤ cost.toInt + 1098 * (r : Int)
  | 0, s, q, coal, cost, h0, h1 => by unfold costL; omega
  | r + 1, s, q, coal, cost, h0, h1 => by
    have g1 := coW_rng (coal := coal) hw h0 (by omega)
    have g2 := coD_rng (coal := coal) hw hd h0 (by omega)
    unfold costL
    split
    · have g := costL_ge hw hd r (s / 2) (goneQ f x t c n q) (if bhQ f x t q n = n then cd else coL coal) (coW coal cost wc + dc) (by omega) (by omega)
      omega
    · have g := costL_ge hw hd r (s / 2) (fun y => nightQ c (q y)) (coL coal) (coW coal cost wc) (by omega) (by omega)
      omega
theorem set_bit {sv d : Nat} (h : sv < 2 ^ d) (hd : d < 31) : nI sv ||| ((1 : Int32) <<< (nI d &&& 31)) = nI (sv + 2 ^ d) := by
  rw [shl_one hd, fa_or, Nat.or_comm]
  have e := Nat.two_pow_add_eq_or_of_lt h 1
  rw [Nat.mul_one] at e
  rw [← e, Nat.add_comm]
theorem leaf_split {r sv d : Nat} {q : Nat → Yq} {coal cost : Int32} (p : Int32 × Int32) :
    ((∃ s, s < 2 ^ r ∧ p = (costL n f x t c cd dc wc r s (fun y => nightQ c (q y)) (coL coal) (coW coal cost wc), nI (sv + 2 ^ (d + 1) * s))) ∨ (∃ s, s < 2 ^ r ∧ p = (costL n f x t c cd dc wc r s (goneQ f x t c n q) (if bhQ f x t q n = n then cd else coL coal) (coW coal cost wc + dc), nI (sv + 2 ^ d + 2 ^ (d + 1) * s)))) ↔ (∃ s, s < 2 ^ (r + 1) ∧ p = (costL n f x t c cd dc wc (r + 1) s q coal cost, nI (sv + 2 ^ d * s))) := by
  have e2 : 2 ^ (r + 1) = 2 * 2 ^ r := by rw [Nat.pow_succ, Nat.mul_comm]
  have ed : ∀ s, 2 ^ (d + 1) * s = 2 ^ d * (2 * s) := fun s => by rw [Nat.pow_succ, Nat.mul_assoc]
  constructor
  · rintro (⟨s, hs, e⟩ | ⟨s, hs, e⟩)
    · refine ⟨2 * s, by omega, ?_⟩
      rw [e, ed]
      conv => rhs; unfold costL
      rw [if_neg (show ¬ 2 * s % 2 = 1 by omega), show 2 * s / 2 = s by omega]
    · refine ⟨2 * s + 1, by omega, ?_⟩
      rw [e, ed, Nat.mul_add, Nat.mul_one, Nat.add_assoc, Nat.add_comm (2 ^ d) (2 ^ d * (2 * s))]
      conv => rhs; unfold costL
      rw [if_pos (show (2 * s + 1) % 2 = 1 by omega), show (2 * s + 1) / 2 = s by omega]
  · rintro ⟨s, hs, e⟩
    by_cases h : s % 2 = 1
    · refine Or.inr ⟨s / 2, by omega, ?_⟩
      rw [e, ed, show sv + 2 ^ d + 2 ^ d * (2 * (s / 2)) = sv + 2 ^ d * s from by
        rw [Nat.add_assoc, show 2 ^ d + 2 ^ d * (2 * (s / 2)) = 2 ^ d * (2 * (s / 2) + 1) from by rw [Nat.mul_add, Nat.mul_one, Nat.add_comm], show 2 * (s / 2) + 1 = s by omega]]
      conv => lhs; unfold costL
      rw [if_pos h]
    · refine Or.inl ⟨s / 2, by omega, ?_⟩
      rw [e, ed, show 2 * (s / 2) = s by omega]
      conv => lhs; unfold costL
      rw [if_neg h]
theorem srch_min (hw : rng wc 0 999) (hd : rng dc 0 99) : ∀ (r d sv : Nat) (q : Nat → Yq) (coal cost : Int32) (b : Int32 × Int32), 0 ≤ cost.toInt → cost.toInt + 1098 * (r : Int) ≤ 1000000 → sv < 2 ^ d → d + r ≤ 8 →
    isMin (fun p => ∃ s, s < 2 ^ r ∧ p = (costL n f x t c cd dc wc r s q coal cost, nI (sv + 2 ^ d * s))) b (srch n f x t c cd dc wc r d q coal cost (nI sv) b)
  | 0, d, sv, q, coal, cost, b, h0, h1, hs, hr => by
    have e : ∀ p : Int32 × Int32, p = (cost, nI sv) ↔ (∃ s, s < 2 ^ 0 ∧ p = (costL n f x t c cd dc wc 0 s q coal cost, nI (sv + 2 ^ d * s))) := fun p => by
      constructor
      · intro z; exact ⟨0, by decide, by rw [z]; rfl⟩
      · rintro ⟨s, hs, z⟩
        have e0 : s = 0 := by rw [Nat.pow_zero] at hs; omega
        subst e0
        rw [z]; rfl
    unfold srch
    by_cases c1 : cost ≤ b.1
    · rw [if_pos c1]
      exact (bet_min cost (nI sv) b).cong e
    · rw [if_neg c1]
      rw [fa_le] at c1
      refine ⟨Or.inl rfl, ltP_rf _, fun p hp => ?_⟩
      rw [(e p).mpr hp]; unfold ltP; show ¬ (cost.toInt < b.1.toInt ∨ (cost.toInt = b.1.toInt ∧ _)); omega
  | r + 1, d, sv, q, coal, cost, b, h0, h1, hs, hr => by
    have g1 := coW_rng (coal := coal) hw h0 (by omega)
    have g2 := coD_rng (coal := coal) hw hd h0 (by omega)
    have hs2 : sv + 2 ^ d < 2 ^ (d + 1) := by rw [Nat.pow_succ]; omega
    unfold srch
    by_cases c1 : cost ≤ b.1
    · rw [if_pos c1, set_bit hs (by omega)]
      have i1 := srch_min hw hd r (d + 1) sv (fun y => nightQ c (q y)) (coL coal) (coW coal cost wc) b (by omega) (by omega) (by omega) (by omega)
      have i2 := srch_min hw hd r (d + 1) (sv + 2 ^ d) (goneQ f x t c n q) (if bhQ f x t q n = n then cd else coL coal) (coW coal cost wc + dc) (srch n f x t c cd dc wc r (d + 1) (fun y => nightQ c (q y)) (coL coal) (coW coal cost wc) (nI sv) b) (by omega) (by omega) (by omega) (by omega)
      exact (i1.two i2).cong leaf_split
    · rw [if_neg c1]
      rw [fa_le] at c1
      refine ⟨Or.inl rfl, ltP_rf _, fun p hp => ?_⟩
      obtain ⟨s, -, e⟩ := hp
      have g := costL_ge (n := n) (f := f) (x := x) (t := t) (c := c) (cd := cd) hw hd (r + 1) s q coal cost h0 h1
      rw [e]; unfold ltP
      show ¬ ((costL n f x t c cd dc wc (r + 1) s q coal cost).toInt < b.1.toInt ∨ ((costL n f x t c cd dc wc (r + 1) s q coal cost).toInt = b.1.toInt ∧ _))
      omega
theorem plan_is {k : Nat} {q : Nat → Yq} {coal : Int32} {m : Int32 × Int32} (hw : rng wc 0 999) (hd : rng dc 0 99) (hk : k ≤ 8) (hm : isMin (fun p => ∃ s, s < 2 ^ k ∧ p = (costL n f x t c cd dc wc k s q coal 0, nI s)) (1000000000, 0) m) : srch n f x t c cd dc wc k 0 q coal 0 0 (1000000000, 0) = m := by
  have e0 : (0 : Int32).toInt = 0 := rfl
  have h := srch_min (n := n) (f := f) (x := x) (t := t) (c := c) (cd := cd) hw hd k 0 0 q coal 0 (1000000000, 0) (by rw [e0]; omega) (by rw [e0]; omega) (by decide) (by omega)
  have h2 := h.cong (L2 := fun p => ∃ s, s < 2 ^ k ∧ p = (costL n f x t c cd dc wc k s q coal 0, nI s)) (fun p => by simp only [Nat.pow_zero, Nat.one_mul, Nat.zero_add])
  have g := costL_ge (n := n) (f := f) (x := x) (t := t) (c := c) (cd := cd) hw hd k 0 q coal 0 (by rw [e0]; omega) (by rw [e0]; omega)
  rw [e0] at g
  refine h2.one hm ⟨0, Nat.two_pow_pos k, rfl⟩ ?_ ?_
  · unfold ltP; left; show (costL n f x t c cd dc wc k 0 q coal 0).toInt < (1000000000 : Int32).toInt; rw [show (1000000000 : Int32).toInt = 1000000000 from rfl]; omega
  · unfold ltP; left; show (costL n f x t c cd dc wc k 0 q coal 0).toInt < (1000000000 : Int32).toInt; rw [show (1000000000 : Int32).toInt = 1000000000 from rfl]; omega
theorem mn_0 (C : Nat → Int32) (b : Int32 × Int32) : isMin (fun p => ∃ s, s < 0 ∧ p = (C s, nI s)) b b := ⟨Or.inl rfl, ltP_rf _, fun p ⟨s, hs, _⟩ => absurd hs (Nat.not_lt_zero s)⟩
theorem mn_s {C : Nat → Int32} {j : Nat} {b1 least best : Int32} (hj : j < 256) (h : isMin (fun p => ∃ s, s < j ∧ p = (C s, nI s)) (b1, 0) (least, best)) : isMin (fun p => ∃ s, s < j + 1 ∧ p = (C s, nI s)) (b1, 0) (if least ≤ C j then least else C j, if least ≤ C j then best else nI j) := by
  have hj2 : (nI j).toInt = j := nI_toInt (by omega)
  by_cases c1 : least ≤ C j
  · rw [if_pos c1, if_pos c1]
    rw [fa_le] at c1
    refine ⟨?_, h.2.1, fun p ⟨s, hs, e⟩ => ?_⟩
    · rcases h.1 with z | ⟨s, hs, z⟩
      · exact Or.inl z
      · exact Or.inr ⟨s, by omega, z⟩
    · by_cases c2 : s = j
      · subst c2
        have hb : best.toInt ≤ s := by
          rcases h.1 with z | ⟨u, hu, z⟩
          · rw [show best = 0 from congrArg Prod.snd z, show (0 : Int32).toInt = 0 from rfl]; omega
          · rw [show best = nI u from congrArg Prod.snd z, nI_toInt (by omega)]; omega
        rw [e]; unfold ltP
        show ¬ ((C s).toInt < least.toInt ∨ ((C s).toInt = least.toInt ∧ (nI s).toInt < best.toInt))
        omega
      · exact h.2.2 p ⟨s, by omega, e⟩
  · rw [if_neg c1, if_neg c1]
    rw [fa_le] at c1
    have hl : ¬ ltP (least, best) (C j, nI j) := by unfold ltP; show ¬ (least.toInt < (C j).toInt ∨ (least.toInt = (C j).toInt ∧ best.toInt < (nI j).toInt)); omega
    refine ⟨Or.inr ⟨j, by omega, rfl⟩, ltP_tr h.2.1 hl, fun p ⟨s, hs, e⟩ => ?_⟩
    by_cases c2 : s = j
    · subst c2; rw [e]; exact ltP_rf _
    · exact ltP_tr (h.2.2 p ⟨s, by omega, e⟩) hl
theorem mco_w {coal cost wc : Int32} (h : rng coal 0 20) : cost + (if coal = 0 then wc else 0) = coW coal cost wc := by
  unfold rng at h
  unfold coW
  by_cases e : coal = 0
  · rw [if_pos e, if_pos (by rw [e]; decide)]
  · rw [if_neg e, if_neg (by rw [fa_le, show (0 : Int32).toInt = 0 from rfl]; rw [fa_eq, show (0 : Int32).toInt = 0 from rfl] at e; omega), Int32.add_zero]
theorem mco_l {coal : Int32} (h : rng coal 0 20) : coal - (if coal = 0 then 0 else 1) = coL coal := by
  have e0 : (0 : Int32).toInt = 0 := rfl
  have e1 : (1 : Int32).toInt = 1 := rfl
  unfold rng at h
  have es : (coal - 1).toInt = coal.toInt - 1 := by rw [fb_subI (by rw [e1]; omega) (by rw [e1]; omega), e1]
  unfold coL
  by_cases e : coal = 0
  · subst e; decide
  · rw [if_neg e]
    rw [fa_eq, e0] at e
    by_cases g : 0 < coal - 1
    · rw [if_pos g]
    · rw [if_neg g, fa_eq, es, e0]
      rw [fa_lt, es, e0] at g
      omega
theorem coL_rng {coal : Int32} (h : rng coal 0 20) : rng (coL coal) 0 20 := by
  have e1 : (1 : Int32).toInt = 1 := rfl
  unfold rng at *
  have es : (coal - 1).toInt = coal.toInt - 1 := by rw [fb_subI (by rw [e1]; omega) (by rw [e1]; omega), e1]
  unfold coL
  split
  · rename_i g; rw [fa_lt, es, show (0 : Int32).toInt = 0 from rfl] at g; rw [es]; omega
  · rw [show (0 : Int32).toInt = 0 from rfl]; omega
theorem coT_rng {coal cd : Int32} {p : Prop} [Decidable p] (h : rng coal 0 20) (h2 : rng cd 0 20) : rng (if p then cd else coL coal) 0 20 := by
  split
  · exact h2
  · exact coL_rng h
theorem mbit {s d : Nat} (hs : s < 256) (hd : d < 32) : (nI s >>> (nI d &&& 31)) &&& 1 = 1 ↔ s / 2 ^ d % 2 = 1 := by
  rw [bit_at (by omega) hd, nI_one, nI_eq (by omega) (by decide)]
theorem div_s (s d : Nat) : s / 2 ^ (d + 1) = s / 2 ^ d / 2 := by rw [Nat.pow_succ, Nat.div_div_eq_div_mul]
theorem cl_init {k s : Nat} {q : Nat → Yq} {coal cost : Int32} : costL n f x t c cd dc wc (k - 0) (s / 2 ^ 0) q coal cost = costL n f x t c cd dc wc k s q coal cost := by rw [Nat.pow_zero, Nat.div_one, Nat.sub_zero]
theorem cl_no {k d s : Nat} {q : Nat → Yq} {coal cost T : Int32} (hs : s < 256) (hd : d < k) (hk : k ≤ 8) (hb : ¬ (nI s >>> (nI d &&& 31)) &&& 1 = 1) (h : costL n f x t c cd dc wc (k - d) (s / 2 ^ d) q coal cost = T) : costL n f x t c cd dc wc (k - (d + 1)) (s / 2 ^ (d + 1)) (fun y => nightQ c (q y)) (coL coal) (coW coal cost wc) = T := by
  rw [mbit hs (by omega)] at hb
  rw [show k - d = (k - (d + 1)) + 1 by omega] at h
  conv at h => lhs; unfold costL
  rw [if_neg hb] at h
  rw [div_s]
  exact h
theorem cl_yes {k d s b2 : Nat} {q : Nat → Yq} {coal cost T : Int32} (hs : s < 256) (hd : d < k) (hk : k ≤ 8) (hb : (nI s >>> (nI d &&& 31)) &&& 1 = 1) (hb2 : b2 = bhQ f x t q n) (h : costL n f x t c cd dc wc (k - d) (s / 2 ^ d) q coal cost = T) : costL n f x t c cd dc wc (k - (d + 1)) (s / 2 ^ (d + 1)) (fun y => nightQ c (mixQ openQ q b2 y)) (if b2 = n then cd else coL coal) (coW coal cost wc + dc) = T := by
  subst hb2
  rw [mbit hs (by omega)] at hb
  rw [show k - d = (k - (d + 1)) + 1 by omega] at h
  conv at h => lhs; unfold costL
  rw [if_pos hb] at h
  rw [div_s]
  exact h
theorem cl_end {r s : Nat} {q : Nat → Yq} {coal cost T : Int32} (hr : r = 0) (h : costL n f x t c cd dc wc r s q coal cost = T) : cost = T := by
  subst hr
  exact h
end PLANS
/-! nights of the odds: every row -/
section ODDS
variable {n : Nat} {f x t c th pe : Int32}
def oddL (n : Nat) (f x t c th pe : Int32) : Nat → Nat → (Nat → Yq) → Int64 → Int64
  | 0, _, q, p => if bhQ f x t q n = n then p else 0
  | r + 1, s, q, p => if s % 2 = 1 then oddL n f x t c th pe r (s / 2) (fun y => thawQ th (q y)) (p * pe.toInt64 / 100) else oddL n f x t c th pe r (s / 2) (fun y => nightQ c (q y)) (p - p * pe.toInt64 / 100)
def oddS (n : Nat) (f x t c th pe : Int32) (r : Nat) (q : Nat → Yq) (p : Int64) : Nat → Int64
  | 0 => 0
  | j + 1 => oddS n f x t c th pe r q p j + oddL n f x t c th pe r j q p
theorem oddL_0 : ∀ (r s : Nat) (q : Nat → Yq), oddL n f x t c th pe r s q 0 = 0
  | 0, s, q => by unfold oddL; split <;> rfl
  | r + 1, s, q => by
    unfold oddL
    rw [Int64.zero_mul, show (0 : Int64) / 100 = 0 by decide, show (0 : Int64) - 0 = 0 by decide]
    split
    · exact oddL_0 r _ _
    · exact oddL_0 r _ _
theorem oddS_0 {r : Nat} {q : Nat → Yq} : ∀ j, oddS n f x t c th pe r q 0 j = 0
  | 0 => rfl
  | j + 1 => by unfold oddS; rw [oddS_0 j, oddL_0]; decide
theorem oddS_2 {r : Nat} {q : Nat → Yq} {p : Int64} : ∀ j, oddS n f x t c th pe (r + 1) q p (2 * j) = oddS n f x t c th pe r (fun y => thawQ th (q y)) (p * pe.toInt64 / 100) j + oddS n f x t c th pe r (fun y => nightQ c (q y)) (p - p * pe.toInt64 / 100) j
  | 0 => by show (0 : Int64) = 0 + 0; decide
  | j + 1 => by
    have h := oddS_2 (r := r) (q := q) (p := p) j
    have e1 : oddL n f x t c th pe (r + 1) (2 * j) q p = oddL n f x t c th pe r j (fun y => nightQ c (q y)) (p - p * pe.toInt64 / 100) := by
      conv => lhs; unfold oddL
      rw [if_neg (show ¬ 2 * j % 2 = 1 by omega), show 2 * j / 2 = j by omega]
    have e2 : oddL n f x t c th pe (r + 1) (2 * j + 1) q p = oddL n f x t c th pe r j (fun y => thawQ th (q y)) (p * pe.toInt64 / 100) := by
      conv => lhs; unfold oddL
      rw [if_pos (show (2 * j + 1) % 2 = 1 by omega), show (2 * j + 1) / 2 = j by omega]
    show oddS n f x t c th pe (r + 1) q p (2 * j) + oddL n f x t c th pe (r + 1) (2 * j) q p + oddL n f x t c th pe (r + 1) (2 * j + 1) q p = (oddS n f x t c th pe r (fun y => thawQ th (q y)) (p * pe.toInt64 / 100) j + oddL n f x t c th pe r j (fun y => thawQ th (q y)) (p * pe.toInt64 / 100)) + (oddS n f x t c th pe r (fun y => nightQ c (q y)) (p - p * pe.toInt64 / 100) j + oddL n f x t c th pe r j (fun y => nightQ c (q y)) (p - p * pe.toInt64 / 100))
    rw [h, e1, e2]
    generalize oddS n f x t c th pe r (fun y => thawQ th (q y)) (p * pe.toInt64 / 100) j = A
    generalize oddS n f x t c th pe r (fun y => nightQ c (q y)) (p - p * pe.toInt64 / 100) j = B
    generalize oddL n f x t c th pe r j (fun y => thawQ th (q y)) (p * pe.toInt64 / 100) = C
    generalize oddL n f x t c th pe r j (fun y => nightQ c (q y)) (p - p * pe.toInt64 / 100) = E
    rw [Int64.add_assoc A C, ← Int64.add_assoc C B E, Int64.add_comm C B, Int64.add_assoc A B E, Int64.add_assoc A (B + E) C, Int64.add_assoc B E C, Int64.add_assoc B C E, Int64.add_comm E C]
theorem odd_sum : ∀ (r : Nat) (q : Nat → Yq) (p : Int64), oddS n f x t c th pe r q p (2 ^ r) = oddP n f x t c th pe r q p
  | 0, q, p => by
    unfold oddP
    show (0 : Int64) + oddL n f x t c th pe 0 0 q p = _
    rw [Int64.zero_add]
    unfold oddL
    by_cases h : p = 0
    · rw [if_pos h, h]; split <;> rfl
    · rw [if_neg h]
  | r + 1, q, p => by
    conv => rhs; unfold oddP
    by_cases h : p = 0
    · rw [if_pos h, h]; exact oddS_0 _
    · rw [if_neg h, ← odd_sum r, ← odd_sum r, Nat.pow_succ, Nat.mul_comm, oddS_2]
theorem ol_init {k s : Nat} {q : Nat → Yq} {p : Int64} : oddL n f x t c th pe (k - 0) (s / 2 ^ 0) q p = oddL n f x t c th pe k s q p := by rw [Nat.pow_zero, Nat.div_one, Nat.sub_zero]
theorem ol_no {k d s : Nat} {q : Nat → Yq} {p T : Int64} (hs : s < 256) (hd : d < k) (hk : k ≤ 8) (hb : ¬ (nI s >>> (nI d &&& 31)) &&& 1 = 1) (h : oddL n f x t c th pe (k - d) (s / 2 ^ d) q p = T) : oddL n f x t c th pe (k - (d + 1)) (s / 2 ^ (d + 1)) (fun y => nightQ c (q y)) (p - p * pe.toInt64 / 100) = T := by
  rw [mbit hs (by omega)] at hb
  rw [show k - d = (k - (d + 1)) + 1 by omega] at h
  conv at h => lhs; unfold oddL
  rw [if_neg hb] at h
  rw [div_s]
  exact h
theorem ol_yes {k d s : Nat} {q : Nat → Yq} {p T : Int64} (hs : s < 256) (hd : d < k) (hk : k ≤ 8) (hb : (nI s >>> (nI d &&& 31)) &&& 1 = 1) (h : oddL n f x t c th pe (k - d) (s / 2 ^ d) q p = T) : oddL n f x t c th pe (k - (d + 1)) (s / 2 ^ (d + 1)) (fun y => thawQ th (q y)) (p * pe.toInt64 / 100) = T := by
  rw [mbit hs (by omega)] at hb
  rw [show k - d = (k - (d + 1)) + 1 by omega] at h
  conv at h => lhs; unfold oddL
  rw [if_pos hb] at h
  rw [div_s]
  exact h
theorem ol_end {r s b2 : Nat} {q : Nat → Yq} {p T : Int64} (hr : r = 0) (hb : b2 = bhQ f x t q n) (h : oddL n f x t c th pe r s q p = T) : (if b2 = n then p else 0) = T := by
  subst hr
  rw [hb]
  exact h
end ODDS
/-! what stays of now, the held row, another kind -/
theorem wNow.o {w w1 w2 : Nat → Int32} (h : wNow w w1) (g : wOut 51 w1 w2) : wNow w w2 := fun j hj => (g j (by omega)).trans (h j hj)
theorem wNow.t {w w1 w2 : Nat → Int32} (h : wNow w w1) (g : wOt 51 w1 w2) : wNow w w2 := fun j hj => (g j (by omega)).trans (h j hj)
theorem wNow.c {w : Nat → Int32} {f : Nat} : wNow w (fb_put w (fun k => w (f + k)) 51 51) := wNow.of (wOut.rf _ _)
theorem hd_s {i : Nat} {w h1 : Nat → Int32} (h : ∀ j, j < i → h1 j = w (51 + j)) : ∀ j, j < i + 1 → upd h1 i (w (51 + i)) j = w (51 + j) := fun j hj => by
  by_cases c : j = i
  · subst c; exact pk_us' _ _ _
  · rw [pk_un' _ _ c]; exact h j (by omega)
/-- the first i of the held ones are back -/
def bkW (i : Nat) (w1 w3 : Nat → Int32) : Prop := (∀ j, j < i → w3 (51 + j) = w1 (51 + j)) ∧ (∀ j, (j < 51 ∨ 102 ≤ j) → w3 j = w1 j)
theorem bkW_0 {w1 w2 : Nat → Int32} (g : wOut 51 w1 w2) : bkW 0 w1 w2 := ⟨fun j h => absurd h (Nat.not_lt_zero j), fun j hj => g j (by omega)⟩
theorem bkW_s {i : Nat} {w1 w3 : Nat → Int32} {v : Int32} (hi : i < 51) (e : v = w1 (51 + i)) (h : bkW i w1 w3) : bkW (i + 1) w1 (upd w3 (51 + i) v) := by
  refine ⟨fun j hj => ?_, fun j hj => ?_⟩
  · by_cases c : j = i
    · subst c; rw [pk_us', e]
    · rw [pk_un' _ _ (by omega)]; exact h.1 j (by omega)
  · rw [pk_un' _ _ (by omega)]; exact h.2 j hj
theorem bkW_e {i : Nat} {w1 w3 : Nat → Int32} (hi : 51 ≤ i) (h : bkW i w1 w3) : ∀ j, w3 j = w1 j := fun j => by
  by_cases c : j < 51 ∨ 102 ≤ j
  · exact h.2 j c
  · have e := h.1 (j - 51) (by omega)
    rw [show 51 + (j - 51) = j by omega] at e
    exact e
/-- one yard is of another kind -/
def kdQ (k y0 : Nat) (q : Nat → Yq) : Nat → Yq := fun y => if y = y0 then setK (nI k) (q y) else q y
theorem kdQ_at (k y0 : Nat) (q : Nat → Yq) : kdQ k y0 q y0 = setK (nI k) (q y0) := by unfold kdQ; rw [if_pos rfl]
theorem kd_mY {q : Nat → Yq} {n k y0 : Nat} {w : Nat → Int32} (hn : n ≤ 12) (hy : y0 < n) (hk : k ≤ 3) (hY : mY q n w 51) : mY (kdQ k y0 q) n (upd w (63 + y0) (nI k)) 51 := by
  have hz := (hY y0 hy).2
  refine hY.set hn hy (fun y h => by unfold kdQ; rw [if_neg h]) (by rw [kdQ_at]; exact kk_ok (hY y0 hy).1 hk) ?_ ?_ ?_ ?_ (fun j a b d e => pk_un' _ _ (by omega))
  · rw [kdQ_at, pk_un' _ _ (by omega)]; exact hz.1
  · rw [kdQ_at, show 51 + (12 + y0) = 63 + y0 by omega, pk_us']; rfl
  · rw [kdQ_at, pk_un' _ _ (by omega)]; exact hz.2.2.1
  · rw [kdQ_at, pk_un' _ _ (by omega)]; exact hz.2.2.2
theorem ft_one {z : Yq} {y k e : Nat} {by0 bn bd bi : Nat → Int32} {v : Int32} {i : Nat} (hi : bn e = nI i) (hi9 : i ≤ 9) (hv : v = qI (itQ (nightQ (bd e)) i (setK (nI k) z))) (h : v = bi e) : fitAt z y (nI k) by0 bn bd bi e := fun _ => by
  rw [hi, nI_clamp (by omega), ← hv, h]
theorem ft_not {z : Yq} {y k e : Nat} {by0 bn bd bi : Nat → Int32} {v : Int32} {i : Nat} (hy : by0 e = nI y) (hi : bn e = nI i) (hi9 : i ≤ 9) (hv : v = qI (itQ (nightQ (bd e)) i (setK (nI k) z))) (h : ¬ v = bi e) : ¬ fitAt z y (nI k) by0 bn bd bi e := fun g => h (by
  have g2 := g hy
  rw [hi, nI_clamp (by omega), ← hv] at g2
  exact g2)
theorem or_0 (v : Int32) : v ||| 0 = v := by simp
theorem all_s {P : Nat → Prop} {e : Nat} (h : ∀ j, j < e → P j) (h2 : P e) : ∀ j, j < e + 1 → P j := fun j hj => by
  by_cases c : j = e
  · subst c; exact h2
  · exact h j (by omega)
