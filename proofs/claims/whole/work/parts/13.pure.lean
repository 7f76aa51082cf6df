/-! the document's numbers, plain -/
def iceOk (i : Int32) : Prop := 0 ≤ i.toInt ∧ i.toInt ≤ 300
def pGrow (k i c : Int32) : Int32 := if k = 1 then 20 * c / (10 + i) + 20 * c / (10 + i) / 2 else if k = 3 then 20 * c / (10 + i) / 2 else 20 * c / (10 + i)
def pThick (k i c : Int32) : Int32 := if i + pGrow k i c < 300 then i + pGrow k i c else 300
def pShut (k : Int32) : Int32 := if k = 0 then 1 else k
def pLess (i d : Int32) : Int32 := if 0 < i - d then i - d else 0
/-- a yard: ice, kind, what was broken, open -/
abbrev Yq : Type := Int32 × Int32 × Int32 × Bool
abbrev qI (q : Yq) : Int32 := q.1
abbrev qK (q : Yq) : Int32 := q.2.1
abbrev qB (q : Yq) : Int32 := q.2.2.1
abbrev qO (q : Yq) : Bool := q.2.2.2
def shutQ (q : Yq) : Yq := if qO q = true then (qB q / 3, pShut (qK q), 0, false) else q
def nightQ (c : Int32) (q : Yq) : Yq := (pThick (qK (shutQ q)) (qI (shutQ q)) c, (shutQ q).2)
def thawQ (d : Int32) (q : Yq) : Yq := (pLess (qI (shutQ q)) d, (shutQ q).2)
def openQ (q : Yq) : Yq := if 0 < qI q then (0, qK q, qI q, true) else q
/-- what a yard may be -/
def okQ (q : Yq) : Prop := iceOk (qI q) ∧ (0 ≤ (qK q).toInt ∧ (qK q).toInt ≤ 3) ∧ iceOk (qB q) ∧ (qO q = false → qB q = 0)
/-- the open ones as a set -/
def oset (q : Nat → Yq) : Nat → Nat
  | 0 => 0
  | n + 1 => oset q n + (if qO (q n) = true then 2 ^ n else 0)
/-- the class's Yards hold the yards q -/
def yR (q : Nat → Yq) (n : Nat) (os : Int32) (kd ic br : Nat → Int32) : Prop :=
  (∀ y, y < n → okQ (q y) ∧ ic y = qI (q y) ∧ kd y = qK (q y) ∧ br y = qB (q y)) ∧ os = nI (oset q n)
theorem oset_lt (q : Nat → Yq) : ∀ n, oset q n < 2 ^ n
  | 0 => by simp [oset]
  | n + 1 => by
    have h := oset_lt q n
    simp only [oset, Nat.pow_succ]
    split <;> omega
theorem oset_bit (q : Nat → Yq) : ∀ n y, (oset q n).testBit y = (decide (y < n) && qO (q y))
  | 0, y => by simp [oset]
  | n + 1, y => by
    have h := oset_bit q n y
    have hl := oset_lt q n
    simp only [oset]
    by_cases hq : qO (q n) = true
    · rw [if_pos hq, Nat.add_comm]
      rcases Nat.lt_trichotomy y n with e | e | e
      · rw [Nat.testBit_two_pow_add_gt e, h]
        simp [e, Nat.lt_succ_of_lt e]
      · subst e
        rw [Nat.testBit_two_pow_add_eq, Nat.testBit_lt_two_pow hl]
        simp [hq]
      · have e3 : ¬ y < n + 1 := by omega
        have e4 : 2 ^ n + oset q n < 2 ^ y := Nat.lt_of_lt_of_le (by rw [Nat.pow_succ]; omega : 2 ^ n + oset q n < 2 ^ (n + 1)) (Nat.pow_le_pow_right (by decide) e)
        rw [Nat.testBit_lt_two_pow e4]
        simp [e3]
    · rw [if_neg hq, Nat.add_zero, h]
      by_cases e : y = n
      · subst e
        simp [hq]
      · by_cases e2 : y < n
        · simp [e2, Nat.lt_succ_of_lt e2]
        · have e3 : ¬ y < n + 1 := by omega
          simp [e2, e3]
theorem oset_eq {q : Nat → Yq} {n b : Nat} (h : ∀ y, b.testBit y = (decide (y < n) && qO (q y))) : b = oset q n :=
  Nat.eq_of_testBit_eq fun y => by rw [h, oset_bit]
