/-! the reference: what it holds -/
theorem lgc_lt (x y : Int64) : lg_cmp x y < 0 ↔ x < y := by
  unfold lg_cmp
  by_cases h : y < x
  · rw [if_pos h]
    constructor
    · intro z; exact absurd z (by decide)
    · intro z; rw [fa_lt64] at h z; omega
  · rw [if_neg h]
    by_cases h2 : x = y
    · rw [if_pos h2]
      constructor
      · intro z; exact absurd z (by decide)
      · intro z; rw [h2, fa_lt64] at z; omega
    · rw [if_neg h2]
      constructor
      · intro _; rw [fa_lt64] at h ⊢; rw [fa_eq64] at h2; omega
      · intro _; decide
theorem lgc_gt (x y : Int64) : 0 < lg_cmp x y ↔ y < x := by
  unfold lg_cmp
  by_cases h : y < x
  · rw [if_pos h]
    constructor
    · intro _; exact h
    · intro _; decide
  · rw [if_neg h]
    by_cases h2 : x = y
    · rw [if_pos h2]
      constructor
      · intro z; exact absurd z (by decide)
      · intro z; exact absurd z h
    · rw [if_neg h2]
      constructor
      · intro z; exact absurd z (by decide)
      · intro z; exact absurd z h
theorem inL {v lo hi : Int32} {a b : Int64} (ha : lo.toInt64 = a) (hb : hi.toInt64 = b) : (¬ v.toInt64 < a ∧ ¬ b < v.toInt64) ↔ inR v lo hi := by
  rw [← ha, ← hb, fa_wide_lt, fa_wide_lt]
theorem isY_L {n : Nat} {y : Int32} (hn : n ≤ 12) : (¬ y.toInt64 < 0 ∧ ¬ (nI n - 1).toInt64 < y.toInt64) ↔ isY n y := by
  rw [show (0 : Int64) = (0 : Int32).toInt64 from rfl, fa_wide_lt, fa_wide_lt, fa_lt, fa_lt, show (0 : Int32).toInt = 0 from rfl]
  have e : (nI n - 1).toInt = (n : Int) - 1 := pk_sub_toInt (a := n) (b := 1) (by omega) (by decide)
  rw [e]
  unfold isY
  omega
theorem isY_k {n : Nat} {y : Int32} (h : isY n y) : ∃ k, k < n ∧ y = nI k := by
  obtain ⟨k, hk, e⟩ := nI_of (x := y) (by rw [fa_lt, show (0 : Int32).toInt = 0 from rfl]; have := h.1; omega)
  refine ⟨k, ?_, e⟩
  have h2 := h.2
  rw [e, nI_toInt hk] at h2
  omega
def ltA (lt : Nat → Int32) (ln k : Nat) : Int32 := if k < ln then lt k else -1
theorem ltA_in {lt : Nat → Int32} {ln k : Nat} (h : k < ln) : ltA lt ln k = lt k := by unfold ltA; rw [if_pos h]
theorem ltA_out {lt : Nat → Int32} {ln k : Nat} (h : ln ≤ k) : ltA lt ln k = -1 := by unfold ltA; rw [if_neg (by omega)]
theorem ltA_eq {lt : Nat → Int32} {ln k : Nat} {v : Int32} (h : ltA lt ln k = v) (hv : ¬ v = -1) : k < ln ∧ lt k = v := by
  unfold ltA at h
  by_cases c : k < ln
  · rw [if_pos c] at h; exact ⟨c, h⟩
  · rw [if_neg c] at h; exact absurd h.symm hv
theorem ltA_fg {lt : Nat → Int32} {ln k : Nat} (h : isFg (ltA lt ln k)) : k < ln ∧ isFg (lt k) := by
  unfold ltA at h
  by_cases c : k < ln
  · rw [if_pos c] at h; exact ⟨c, h⟩
  · rw [if_neg c] at h; exact absurd h (by decide)
theorem ltA_nf {lt : Nat → Int32} {ln k : Nat} (h : ¬ isFg (ltA lt ln k)) : ¬ (k < ln ∧ isFg (lt k)) := fun z => h (by rw [ltA_in z.1]; exact z.2)
theorem fgL {v : Int32} : (¬ v.toInt64 < 48 ∧ ¬ 57 < v.toInt64) ↔ isFg v := by
  rw [show (48 : Int64) = (48 : Int32).toInt64 from rfl, show (57 : Int64) = (57 : Int32).toInt64 from rfl, fa_wide_lt, fa_wide_lt]
  unfold isFg
  rw [fa_lt, fa_lt, fa_le, fa_le]
  omega
/-- a number, read by the reference -/
def tmP (lt : Nat → Int32) (ln : Nat) (lo hi : Int32) (p pl2 : Nat) (va2 r fy fa fy2 fa2 : Int32) : Prop := (rdNum lt ln lo hi p = .inl (pl2, va2) ∧ r = 1 ∧ fy2 = fy ∧ fa2 = fa) ∨ (bad (rdNum lt ln lo hi p) fy2 fa2 ∧ r = 0)
theorem tmP.z {lt : Nat → Int32} {ln : Nat} {lo hi : Int32} {p pl2 : Nat} {va2 r fy fa fy2 fa2 : Int32} (h : tmP lt ln lo hi p pl2 va2 r fy fa fy2 fa2) : r = 1 ∨ r = 0 := by
  rcases h with z | z
  · exact Or.inl z.2.1
  · exact Or.inr z.2
theorem tmP.ok {lt : Nat → Int32} {ln : Nat} {lo hi : Int32} {p pl2 : Nat} {va2 r fy fa fy2 fa2 : Int32} (h : tmP lt ln lo hi p pl2 va2 r fy fa fy2 fa2) (c : ¬ r = 0) : rdNum lt ln lo hi p = .inl (pl2, va2) ∧ fy2 = fy ∧ fa2 = fa := by
  rcases h with h | h
  · exact ⟨h.1, h.2.2⟩
  · exact absurd h.2 c
theorem tmP.no {lt : Nat → Int32} {ln : Nat} {lo hi : Int32} {p pl2 : Nat} {va2 r fy fa fy2 fa2 : Int32} (h : tmP lt ln lo hi p pl2 va2 r fy fa fy2 fa2) (c : r = 0) : bad (rdNum lt ln lo hi p) fy2 fa2 := by
  rcases h with h | h
  · rw [c] at h; exact absurd h.2.1 (by decide)
  · exact h.1
/-- nine numbers in the row's second half; the first half stays -/
def toR (told nbp : Nat → Int32) : Prop := ∀ j, j < 9 → told (9 + j) = nbp j
def loSame (told t2 : Nat → Int32) : Prop := ∀ j, j < 9 → t2 j = told j
theorem rd_told (told : Nat → Int32) : toR (upd (upd (upd (upd (upd (upd (upd (upd (upd told 9 4) 10 10) 11 4) 12 0) 13 60) 14 20) 15 3) 16 10) 17 50) nb0 ∧ loSame told (upd (upd (upd (upd (upd (upd (upd (upd (upd told 9 4) 10 10) 11 4) 12 0) 13 60) 14 20) 15 3) 16 10) 17 50) := by
  constructor
  · intro j hj
    have h : j = 0 ∨ j = 1 ∨ j = 2 ∨ j = 3 ∨ j = 4 ∨ j = 5 ∨ j = 6 ∨ j = 7 ∨ j = 8 := by omega
    rcases h with h | h | h | h | h | h | h | h | h <;> subst h <;> rfl
  · intro j hj
    repeat rw [pk_un' _ _ (by omega)]
/-- a number, told by the reference -/
def tlP (lt : Nat → Int32) (ln : Nat) (lo hi : Int32) (p pl2 k : Nat) (told t2 : Nat → Int32) (r fy fa fy2 fa2 : Int32) : Prop := loSame told t2 ∧ ((∃ v, rdNum lt ln lo hi p = .inl (pl2, v) ∧ r = 1 ∧ (∀ j, j < 9 → t2 (9 + j) = upd (fun i => told (9 + i)) k v j) ∧ fy2 = fy ∧ fa2 = fa) ∨ (bad (rdNum lt ln lo hi p) fy2 fa2 ∧ r = 0))
theorem tl_row {told : Nat → Int32} {k : Nat} {v : Int32} : (∀ j, j < 9 → upd told (9 + k) v (9 + j) = upd (fun i => told (9 + i)) k v j) ∧ loSame told (upd told (9 + k) v) := by
  constructor
  · intro j _
    by_cases c : j = k
    · subst c; rw [pk_us', pk_us']
    · rw [pk_un' _ _ c, pk_un' _ _ (by omega)]
  · intro j hj
    exact pk_un' _ _ (by omega)
theorem tl_fin {lt : Nat → Int32} {ln : Nat} {lo hi : Int32} {p pl2 k : Nat} {told : Nat → Int32} {va2 r fy fa fy2 fa2 : Int32} (h : tmP lt ln lo hi p pl2 va2 r fy fa fy2 fa2) : tlP lt ln lo hi p pl2 k told (upd told (9 + k) (if r = 0 then told (9 + k) else va2)) r fy fa fy2 fa2 := by
  refine ⟨tl_row.2, ?_⟩
  rcases h with ⟨h1, h2, h3⟩ | h
  · refine Or.inl ⟨va2, h1, h2, ?_, h3⟩
    rw [if_neg (by rw [h2]; decide)]
    exact tl_row.1
  · exact Or.inr h
/-- a yard, taken by the reference -/
def tyP (lt : Nat → Int32) (ln p y pl2 : Nat) (ry2 : Int32) (rk ri rk2 ri2 : Nat → Int32) (r fy fa fy2 fa2 : Int32) : Prop := (∃ a b, rdYard lt ln p = .inl (pl2, a, b) ∧ r = 1 ∧ ry2 = nI (y + 1) ∧ rk2 = upd rk y a ∧ ri2 = upd ri y b ∧ fy2 = fy ∧ fa2 = fa) ∨ (bad (rdYard lt ln p) fy2 fa2 ∧ r = 0)
theorem nin {v lo hi : Int32} (h : ¬ inR v lo hi) : v < lo ∨ hi < v := by
  by_cases a : v < lo
  · exact Or.inl a
  · by_cases b : hi < v
    · exact Or.inr b
    · exact absurd ⟨a, b⟩ h
