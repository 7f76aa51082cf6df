/-! facts of yards -/
theorem s_l : ∀ n, n < 32 → ((nI n &&& 31).toBitVec.smod 32).toNat = n := by decide +kernel
theorem nI_one : (1 : Int32) = nI 1 := rfl
/-- bit k of a set -/
theorem bit_at {b k : Nat} (hb : b < 2 ^ 31) (hk : k < 32) : (nI b >>> (nI k &&& 31)) &&& 1 = nI (b / 2 ^ k % 2) := by
  rw [pk_shrN hb _ k (s_l k hk), show (1 : Int32) = nI (2 ^ 1 - 1) from rfl, fa_mask]
theorem bit_one {b k : Nat} (hb : b < 2 ^ 31) (hk : k < 32) : (nI b >>> (nI k &&& 31)) &&& 1 = 1 ↔ b.testBit k = true := by
  rw [bit_at hb hk, nI_one, nI_eq (by omega) (by decide), Nat.testBit_eq_decide_div_mod_eq, decide_eq_true_eq]
theorem shl_one {k : Nat} (hk : k < 31) : (1 : Int32) <<< (nI k &&& 31) = nI (2 ^ k) := by
  have h := pk_shlN (n := 1) (nI k &&& 31) k (s_l k (by omega)) (by rw [Nat.one_mul]; exact Nat.pow_lt_pow_right (by decide) (by omega))
  rw [Nat.one_mul] at h
  exact h
theorem oset_small {q : Nat → Yq} {n : Nat} (hn : n ≤ 12) : oset q n < 2 ^ 31 :=
  Nat.lt_of_lt_of_le (oset_lt q n) (Nat.pow_le_pow_right (by decide) (by omega))
theorem open_bit {q : Nat → Yq} {n k : Nat} (hn : n ≤ 12) (hk : k < n) : (nI (oset q n) >>> (nI k &&& 31)) &&& 1 = 1 ↔ qO (q k) = true := by
  rw [bit_one (oset_small hn) (by omega), oset_bit]
  simp [hk]
theorem oset_zero {q : Nat → Yq} {n : Nat} (hn : n ≤ 12) : nI (oset q n) = 0 ↔ ∀ y, y < n → qO (q y) = false := by
  rw [show (0 : Int32) = nI 0 from rfl, nI_eq (oset_small hn) (by decide)]
  constructor
  · intro h y hy
    have h2 := oset_bit q n y
    rw [h] at h2
    simpa [hy] using h2.symm
  · intro h
    exact (oset_eq (q := q) (n := n) (b := 0) (fun y => by
      by_cases hy : y < n
      · simp [h y hy]
      · simp [hy])).symm
theorem oset_congr {q z : Nat → Yq} {n : Nat} (h : ∀ y, y < n → qO (q y) = qO (z y)) : oset q n = oset z n :=
  oset_eq fun y => by
    rw [oset_bit]
    by_cases hy : y < n
    · simp [hy, h y hy]
    · simp [hy]
/-- the rows hold the yards q -/
def yA (q : Nat → Yq) (n : Nat) (kd ic br : Nat → Int32) : Prop := ∀ y, y < n → ic y = qI (q y) ∧ kd y = qK (q y) ∧ br y = qB (q y)
def mixQ (f : Yq → Yq) (q : Nat → Yq) (i : Nat) : Nat → Yq := fun y => if y < i then f (q y) else q y
theorem mixQ_0 (f : Yq → Yq) (q : Nat → Yq) : mixQ f q 0 = q := by funext y; simp [mixQ]
theorem mixQ_at (f : Yq → Yq) (q : Nat → Yq) (i : Nat) : mixQ f q i i = q i := by simp [mixQ]
theorem mixQ_lt {f : Yq → Yq} {q : Nat → Yq} {i y : Nat} (h : y < i) : mixQ f q i y = f (q y) := by simp [mixQ, h]
theorem mixQ_ne {f : Yq → Yq} {q : Nat → Yq} {i y : Nat} (h : y ≠ i) : mixQ f q (i + 1) y = mixQ f q i y := by
  unfold mixQ
  by_cases e : y < i
  · rw [if_pos e, if_pos (by omega)]
  · rw [if_neg e, if_neg (by omega)]
theorem yA.step {f : Yq → Yq} {q : Nat → Yq} {n i : Nat} {kd ic br kd2 ic2 br2 : Nat → Int32} (h : yA (mixQ f q i) n kd ic br)
    (ho : ∀ y, y ≠ i → kd2 y = kd y ∧ ic2 y = ic y ∧ br2 y = br y) (hn : ic2 i = qI (f (q i)) ∧ kd2 i = qK (f (q i)) ∧ br2 i = qB (f (q i))) : yA (mixQ f q (i + 1)) n kd2 ic2 br2 := by
  intro y hy
  by_cases e : y = i
  · subst e
    rw [mixQ_lt (Nat.lt_succ_self _)]
    exact hn
  · rw [mixQ_ne e, (ho y e).1, (ho y e).2.1, (ho y e).2.2]
    exact h y hy
theorem yA.done {f : Yq → Yq} {q : Nat → Yq} {n : Nat} {kd ic br : Nat → Int32} (h : yA (mixQ f q n) n kd ic br) : yA (fun y => f (q y)) n kd ic br := fun y hy => by
  have h2 := h y hy
  rw [mixQ_lt hy] at h2
  exact h2
theorem yR.rows {q : Nat → Yq} {n : Nat} {os : Int32} {kd ic br : Nat → Int32} (h : yR q n os kd ic br) : yA q n kd ic br := fun y hy => (h.1 y hy).2
theorem yR.ok {q : Nat → Yq} {n : Nat} {os : Int32} {kd ic br : Nat → Int32} (h : yR q n os kd ic br) {y : Nat} (hy : y < n) : okQ (q y) := (h.1 y hy).1
theorem yR.of {q : Nat → Yq} {n : Nat} {os : Int32} {kd ic br : Nat → Int32} (ho : ∀ y, y < n → okQ (q y)) (h : yA q n kd ic br) (hs : os = nI (oset q n)) : yR q n os kd ic br := ⟨fun y hy => ⟨ho y hy, h y hy⟩, hs⟩
/-! numbers -/
theorem toI_lit (n : Nat) (h : n < 2 ^ 31) : (nI n).toInt = n := nI_toInt h
theorem ice_add {i : Int32} (h : iceOk i) : (10 + i).toInt = 10 + i.toInt := by
  have e : (10 : Int32).toInt = 10 := rfl
  have h2 := fb_addI (x := 10) (y := i) (by rw [e]; have := h.1; omega) (by rw [e]; have := h.2; omega)
  rw [e] at h2
  exact h2
theorem ice_nz {i : Int32} (h : iceOk i) : ¬ (10 + i) = 0 := by
  intro e
  have h2 := ice_add h
  rw [e, show (0 : Int32).toInt = 0 from rfl] at h2
  have := h.1
  omega
theorem ice_ge {i : Int32} (h : iceOk i) : (1 : Int32) ≤ 10 + i := by
  rw [fa_le, ice_add h, show (1 : Int32).toInt = 1 from rfl]
  have := h.1
  omega
theorem iceOk0 : iceOk 0 := by unfold iceOk; rw [show (0 : Int32).toInt = 0 from rfl]; omega
theorem iceOk300 : iceOk 300 := by unfold iceOk; rw [show (300 : Int32).toInt = 300 from rfl]; omega
/-- a division that stays whole -/
theorem div_I {x y : Int32} (hx : 0 ≤ x.toInt) (hy : 0 < y.toInt) : (x / y).toInt = x.toInt / y.toInt := by
  have hne : x ≠ Int32.minValue := by
    rintro rfl
    exact absurd hx (by decide)
  rw [Int32.toInt_div_of_ne_left _ _ hne, Int.tdiv_eq_ediv_of_nonneg hx]
theorem ice_third {b : Int32} (h : iceOk b) : iceOk (b / 3) := by
  have e := div_I (x := b) (y := 3) h.1 (by decide)
  rw [show (3 : Int32).toInt = 3 from rfl] at e
  unfold iceOk
  rw [e]
  have h1 := h.1
  have h2 := h.2
  omega
/-- what grows is between 0 and some hundred -/
theorem grow_rng {k i c : Int32} (hi : iceOk i) (hc : 0 ≤ c.toInt ∧ c.toInt ≤ 30) : 0 ≤ (pGrow k i c).toInt ∧ (pGrow k i c).toInt ≤ 90 := by
  have e20 : (20 : Int32).toInt = 20 := rfl
  have e2 : (2 : Int32).toInt = 2 := rfl
  have hm : (20 * c).toInt = 20 * c.toInt := by
    have h2 := fb_mulI (x := 20) (y := c) (by rw [e20]; omega) (by rw [e20]; omega)
    rw [e20] at h2
    exact h2
  have hd : (20 * c / (10 + i)).toInt = 20 * c.toInt / (10 + i.toInt) := by
    rw [div_I (by rw [hm]; omega) (by rw [ice_add hi]; have := hi.1; omega), hm, ice_add hi]
  have hb : 0 ≤ 20 * c.toInt / (10 + i.toInt) ∧ 20 * c.toInt / (10 + i.toInt) ≤ 60 := by
    have h1 := hi.1
    constructor
    · exact Int.ediv_nonneg (by omega) (by omega)
    · have h3 : 20 * c.toInt / (10 + i.toInt) ≤ 20 * c.toInt / 10 := by
        apply Int.le_ediv_of_mul_le (by decide)
        have h4 : 20 * c.toInt / (10 + i.toInt) * (10 + i.toInt) ≤ 20 * c.toInt := Int.ediv_mul_le _ (by omega)
        have h5 : 0 ≤ 20 * c.toInt / (10 + i.toInt) := Int.ediv_nonneg (by omega) (by omega)
        have h6 : 20 * c.toInt / (10 + i.toInt) * 10 ≤ 20 * c.toInt / (10 + i.toInt) * (10 + i.toInt) := Int.mul_le_mul_of_nonneg_left (by omega) h5
        omega
      omega
  have hh : (20 * c / (10 + i) / 2).toInt = 20 * c.toInt / (10 + i.toInt) / 2 := by
    rw [div_I (by rw [hd]; omega) (by decide), hd, e2]
  unfold pGrow
  split
  · rw [fb_addI (by rw [hd, hh]; omega) (by rw [hd, hh]; omega), hd, hh]; omega
  · split
    · rw [hh]; omega
    · rw [hd]; omega
theorem thick_ok {k i c : Int32} (hi : iceOk i) (hc : 0 ≤ c.toInt ∧ c.toInt ≤ 30) : iceOk (pThick k i c) := by
  have hg := grow_rng (k := k) hi hc
  have h1 := hi.1
  have h2 := hi.2
  have ha : (i + pGrow k i c).toInt = i.toInt + (pGrow k i c).toInt := fb_addI (by omega) (by omega)
  unfold pThick
  split
  · rename_i h
    rw [fa_lt, ha, show (300 : Int32).toInt = 300 from rfl] at h
    unfold iceOk
    rw [ha]
    omega
  · exact iceOk300
theorem less_ok {i d : Int32} (hi : iceOk i) (hd : 0 ≤ d.toInt ∧ d.toInt ≤ 60) : iceOk (pLess i d) := by
  have h1 := hi.1
  have h2 := hi.2
  have ha : (i - d).toInt = i.toInt - d.toInt := fb_subI (by omega) (by omega)
  unfold pLess
  split
  · rename_i h
    rw [fa_lt, ha, show (0 : Int32).toInt = 0 from rfl] at h
    unfold iceOk
    rw [ha]
    omega
  · exact iceOk0
theorem shut_ok {q : Yq} (h : okQ q) : okQ (shutQ q) := by
  unfold shutQ
  split
  · refine ⟨ice_third h.2.2.1, ?_, iceOk0, fun _ => rfl⟩
    show 0 ≤ (pShut (qK q)).toInt ∧ (pShut (qK q)).toInt ≤ 3
    unfold pShut
    split
    · decide
    · exact h.2.1
  · exact h
theorem shut_no (q : Yq) (h : okQ q) : qO (shutQ q) = false := by
  unfold shutQ
  split
  · rfl
  · rename_i h2
    simpa using h2
theorem night_ok {q : Yq} {c : Int32} (h : okQ q) (hc : 0 ≤ c.toInt ∧ c.toInt ≤ 30) : okQ (nightQ c q) :=
  ⟨thick_ok (shut_ok h).1 hc, (shut_ok h).2.1, (shut_ok h).2.2.1, (shut_ok h).2.2.2⟩
theorem thaw_ok {q : Yq} {d : Int32} (h : okQ q) (hd : 0 ≤ d.toInt ∧ d.toInt ≤ 60) : okQ (thawQ d q) :=
  ⟨less_ok (shut_ok h).1 hd, (shut_ok h).2.1, (shut_ok h).2.2.1, (shut_ok h).2.2.2⟩
theorem open_ok {q : Yq} (h : okQ q) : okQ (openQ q) := by
  unfold openQ
  split
  · exact ⟨iceOk0, h.2.1, h.1, fun e => Bool.noConfusion e⟩
  · exact h
