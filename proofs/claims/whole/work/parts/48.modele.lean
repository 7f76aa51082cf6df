theorem mY.am {f : Yq → Yq} {q : Nat → Yq} {n k h : Nat} {w : Nat → Int32} (hY : mY (mixQ f q k) n w h) (hk : k < n) : w (h + 0 + k) = qI (q k) ∧ w (h + 12 + k) = qK (q k) := by
  have g := hY.ah hk
  rw [mixQ_at] at g
  exact ⟨g.1, g.2.1⟩
/-- all but the yards and the nights stays -/
def wOt (h : Nat) (w w2 : Nat → Int32) : Prop := ∀ j, (j < h ∨ j = h + 48 ∨ h + 50 ≤ j) → w2 j = w j
theorem wOt.rf (h : Nat) (w : Nat → Int32) : wOt h w w := fun _ _ => rfl
theorem wOt.tr {h : Nat} {a b c : Nat → Int32} (x : wOt h a b) (y : wOt h b c) : wOt h a c := fun j hj => (y j hj).trans (x j hj)
