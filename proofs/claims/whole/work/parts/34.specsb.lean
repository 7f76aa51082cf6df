theorem coldI {c : Int32} (h : inR c 0 30) : 0 ≤ c.toInt ∧ c.toInt ≤ 30 := by have g := h.I; rw [show (0 : Int32).toInt = 0 from rfl, show (30 : Int32).toInt = 30 from rfl] at g; exact g
theorem thawI {c : Int32} (h : inR c 0 60) : 0 ≤ c.toInt ∧ c.toInt ≤ 60 := by have g := h.I; rw [show (0 : Int32).toInt = 0 from rfl, show (60 : Int32).toInt = 60 from rfl] at g; exact g
theorem told_cases {v : Int32} (h : inR v 0 17) (h2 : ¬ inR v 1 9) : v = 0 ∨ v = 10 ∨ v = 11 ∨ v = 12 ∨ v = 13 ∨ v = 14 ∨ v = 15 ∨ v = 16 ∨ v = 17 := by
  obtain ⟨k, -, hk, e⟩ := h.nat (a := 0) (b := 17) rfl rfl
  have h3 : ¬ (1 ≤ k ∧ k ≤ 9) := fun z => h2 (by
    rw [e]
    refine ⟨?_, ?_⟩
    · rw [show (1 : Int32) = nI 1 from rfl, nI_ltI (by omega) (by decide)]; omega
    · rw [show (9 : Int32) = nI 9 from rfl, nI_ltI (by decide) (by omega)]; omega)
  have h4 : k = 0 ∨ k = 10 ∨ k = 11 ∨ k = 12 ∨ k = 13 ∨ k = 14 ∨ k = 15 ∨ k = 16 ∨ k = 17 := by omega
  rw [e]
  rcases h4 with z | z | z | z | z | z | z | z | z <;> subst z <;> decide
theorem what3 (v : Int32) : v = 0 ∨ v = 1 ∨ v = 2 ∨ (¬ v = 0 ∧ ¬ v = 1 ∧ ¬ v = 2) := by
  by_cases a : v = 0
  · exact Or.inl a
  · by_cases b : v = 1
    · exact Or.inr (Or.inl b)
    · by_cases c : v = 2
      · exact Or.inr (Or.inr (Or.inl c))
      · exact Or.inr (Or.inr (Or.inr ⟨a, b, c⟩))
theorem what3_out {v : Int32} (h1 : ¬ v = 0) (h2 : ¬ v = 1) (h3 : ¬ v = 2) : v.toInt < 0 ∨ 2 < v.toInt := by
  rw [fa_eq, show (0 : Int32).toInt = 0 from rfl] at h1
  rw [fa_eq, show (1 : Int32).toInt = 1 from rfl] at h2
  rw [fa_eq, show (2 : Int32).toInt = 2 from rfl] at h3
  omega
theorem yd_at {q : Nat → Yq} {n k : Nat} {y v : Int32} (e : y = nI k) (hk : k < n) (hn : n ≤ 12) : yardF q n y v = (if v = 0 then qK (q k) else if v = 1 then qI (q k) else if v = 2 then qB (q k) else OUT) := by
  unfold yardF
  rw [e, if_pos (isY_nI hk hn), nI_clamp (by omega)]
theorem gr_at {q : Nat → Yq} {n k : Nat} {y c : Int32} (e : y = nI k) (hk : k < n) (hn : n ≤ 12) : growF q n y c = (if inR c 0 30 then pGrow (qK (q k)) (qI (q k)) c else OUT) := by
  unfold growF
  rw [e, if_pos (isY_nI hk hn), nI_clamp (by omega)]
theorem ntF_ok {c k nt : Int32} {q : Nat → Yq} {n j i : Nat} (h1 : inR c 0 30) (h2 : inR k 1 99) (h3 : nt ≤ 9000) (e : k = nI j) (hj : j ≤ 99) (hi : i = j) : nightF c k nt q n = (sumI (fun y => itQ (nightQ c) i (q y)) n, nt + nI i, fun y => itQ (nightQ c) i (q y)) := by
  unfold nightF
  rw [if_pos h1, if_pos h2, if_pos h3, e, nI_clamp (by omega), hi]
theorem df_ok {k nt sd : Int32} {q : Nat → Yq} {n j i : Nat} (h2 : inR k 1 99) (h3 : nt ≤ 9000) (e : k = nI j) (hj : j ≤ 99) (hi : i = j) : driftF k nt sd q n = (sumI (fun y => drI sd i (q y)) n, nt + nI i, sdI sd i, fun y => drI sd i (q y)) := by
  unfold driftF
  rw [if_pos h2, if_pos h3, e, nI_clamp (by omega), hi]
theorem add_n0 (a : Int32) : a = a + nI 0 := by rw [show nI 0 = (0 : Int32) from rfl, Int32.add_zero]
theorem rng_nI {k a b : Nat} (h1 : a ≤ k) (h2 : k ≤ b) (h3 : b < 2 ^ 31) : rng (nI k) a b := by
  unfold rng
  rw [nI_toInt (by omega)]
  omega
theorem isLast.congr {P P2 : Nat → Prop} {b r : Nat} (h : isLast P b r) (e : ∀ m, 1 ≤ m → m ≤ b → (P m ↔ P2 m)) : isLast P2 b r := by
  refine ⟨?_, fun m h1 h2 h3 => h.2 m h1 h2 ((e m (by omega) h2).mpr h3)⟩
  rcases h.1 with z | z
  · exact Or.inl z
  · by_cases c : r = 0
    · exact Or.inl c
    · exact Or.inr ⟨z.1, (e r (by omega) z.1).mp z.2⟩
theorem tn_congr {ba ba2 : Nat → Int32} {fb t g : Int32} {b : Nat} (hb : b ≤ 12) (h : ∀ k, k < b → ba k = ba2 k) (hf : fb = -1 ∨ ∃ j, j < b ∧ fb = nI j) : ∀ m, 1 ≤ m → m ≤ b → (tnOk ba fb t g m ↔ tnOk ba2 fb t g m) := fun m h1 h2 => by
  unfold tnOk bkOk
  rw [h (m - 1) (by omega)]
  rcases hf with z | ⟨j, hj, z⟩
  · simp [z]
  · rw [show fb.toNatClampNeg = j by rw [z, nI_clamp (by omega)], h j hj]
theorem fb_12 {q : Nat → Yq} {b : Nat} (hb : b ≤ 12) : fbQ q b = -1 ∨ ∃ j, j < 12 ∧ fbQ q b = nI j := by
  rcases fb_is q b with h | ⟨j, hj, e⟩
  · exact Or.inl h
  · exact Or.inr ⟨j, by omega, e⟩
theorem ra_nat {x : Int32} {a b : Nat} (h : rng x a b) : ∃ k, a ≤ k ∧ k ≤ b ∧ x = nI k := by
  have h1 := h.1; have h2 := h.2
  obtain ⟨k, hk, e⟩ := nI_of (x := x) (by rw [fa_lt, show (0 : Int32).toInt = 0 from rfl]; omega)
  rw [e, nI_toInt hk] at h1 h2
  exact ⟨k, by omega, by omega, e⟩
theorem kk_ok {z : Yq} {k : Nat} (h : okQ z) (hk : k ≤ 3) : okQ (setK (nI k) z) := ⟨h.1, by show 0 ≤ (nI k).toInt ∧ (nI k).toInt ≤ 3; rw [nI_toInt (by omega)]; omega, h.2.2.1, h.2.2.2⟩
/-- the set of kinds, so far -/
def kdS (z : Yq) (y bc : Nat) (by0 bn bd bi : Nat → Int32) (k : Nat) (v : Int32) : Prop := ∃ s : Nat → Int32, s 0 = 0 ∧ (∀ j, j < k → (fitAll z y bc (nI j) by0 bn bd bi ∧ s (j + 1) = s j ||| ((1 : Int32) <<< (nI j &&& 31))) ∨ (¬ fitAll z y bc (nI j) by0 bn bd bi ∧ s (j + 1) = s j)) ∧ v = s k
theorem kdS_0 {z : Yq} {y bc : Nat} {by0 bn bd bi : Nat → Int32} : kdS z y bc by0 bn bd bi 0 0 := ⟨fun _ => 0, rfl, fun j h => absurd h (Nat.not_lt_zero j), rfl⟩
theorem kdS_y {z : Yq} {y bc k : Nat} {by0 bn bd bi : Nat → Int32} {v : Int32} (h : kdS z y bc by0 bn bd bi k v) (hf : fitAll z y bc (nI k) by0 bn bd bi) : kdS z y bc by0 bn bd bi (k + 1) (v ||| ((1 : Int32) <<< (nI k &&& 31))) := by
  obtain ⟨s, s0, hs, e⟩ := h
  refine ⟨fun j => if j = k + 1 then s k ||| ((1 : Int32) <<< (nI k &&& 31)) else s j, by simp [s0], fun j hj => ?_, by simp [e]⟩
  by_cases c : j = k
  · subst c; exact Or.inl ⟨hf, by simp⟩
  · have h1 : ¬ j = k + 1 := by omega
    have h2 : ¬ j + 1 = k + 1 := by omega
    simp only [if_neg h1, if_neg h2]
    exact hs j (by omega)
theorem kdS_n {z : Yq} {y bc k : Nat} {by0 bn bd bi : Nat → Int32} {v : Int32} (h : kdS z y bc by0 bn bd bi k v) (hf : ¬ fitAll z y bc (nI k) by0 bn bd bi) : kdS z y bc by0 bn bd bi (k + 1) v := by
  obtain ⟨s, s0, hs, e⟩ := h
  refine ⟨fun j => if j = k + 1 then s k else s j, by simp [s0], fun j hj => ?_, by simp [e]⟩
  by_cases c : j = k
  · subst c; exact Or.inr ⟨hf, by simp⟩
  · have h1 : ¬ j = k + 1 := by omega
    have h2 : ¬ j + 1 = k + 1 := by omega
    simp only [if_neg h1, if_neg h2]
    exact hs j (by omega)
theorem kd_end {q : Nat → Yq} {n bc k y0 : Nat} {y : Int32} {by0 bn bd bi : Nat → Int32} {v : Int32} (e : y = nI y0) (hy : y0 < n) (hn : n ≤ 12) (hk : k = 4) (h : kdS (q y0) y0 bc by0 bn bd bi k v) : kindP q n bc y by0 bn bd bi v := by
  subst hk
  refine ⟨fun _ => ?_, fun c => absurd (e ▸ isY_nI hy hn) c⟩
  rw [show y.toNatClampNeg = y0 by rw [e, nI_clamp (by omega)]]
  exact h
