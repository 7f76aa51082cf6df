/-! told, turning, in the reference -/
theorem mtold_cases (v : Int32) : v = 0 ∨ v = 1 ∨ v = 2 ∨ v = 3 ∨ v = 4 ∨ v = 5 ∨ v = 6 ∨ v = 7 ∨ v = 8 ∨ v = 9 ∨ v = 10 ∨ v = 11 ∨ v = 12 ∨ v = 13 ∨ v = 14 ∨ v = 15 ∨ v = 16 ∨ v = 17 ∨ ¬ inR v 0 17 := by
  by_cases h : inR v 0 17
  · obtain ⟨k, -, hk, e⟩ := h.nat (a := 0) (b := 17) rfl rfl
    have h4 : k = 0 ∨ k = 1 ∨ k = 2 ∨ k = 3 ∨ k = 4 ∨ k = 5 ∨ k = 6 ∨ k = 7 ∨ k = 8 ∨ k = 9 ∨ k = 10 ∨ k = 11 ∨ k = 12 ∨ k = 13 ∨ k = 14 ∨ k = 15 ∨ k = 16 ∨ k = 17 := by omega
    rw [e]
    rcases h4 with z | z | z | z | z | z | z | z | z | z | z | z | z | z | z | z | z | z <;> subst z
    · exact Or.inl rfl
    · exact Or.inr (Or.inl rfl)
    · exact Or.inr (Or.inr (Or.inl rfl))
    · exact Or.inr (Or.inr (Or.inr (Or.inl rfl)))
    · exact Or.inr (Or.inr (Or.inr (Or.inr (Or.inl rfl))))
    · exact Or.inr (Or.inr (Or.inr (Or.inr (Or.inr (Or.inl rfl)))))
    · exact Or.inr (Or.inr (Or.inr (Or.inr (Or.inr (Or.inr (Or.inl rfl))))))
    · exact Or.inr (Or.inr (Or.inr (Or.inr (Or.inr (Or.inr (Or.inr (Or.inl rfl)))))))
    · exact Or.inr (Or.inr (Or.inr (Or.inr (Or.inr (Or.inr (Or.inr (Or.inr (Or.inl rfl))))))))
    · exact Or.inr (Or.inr (Or.inr (Or.inr (Or.inr (Or.inr (Or.inr (Or.inr (Or.inr (Or.inl rfl)))))))))
    · exact Or.inr (Or.inr (Or.inr (Or.inr (Or.inr (Or.inr (Or.inr (Or.inr (Or.inr (Or.inr (Or.inl rfl))))))))))
    · exact Or.inr (Or.inr (Or.inr (Or.inr (Or.inr (Or.inr (Or.inr (Or.inr (Or.inr (Or.inr (Or.inr (Or.inl rfl)))))))))))
    · exact Or.inr (Or.inr (Or.inr (Or.inr (Or.inr (Or.inr (Or.inr (Or.inr (Or.inr (Or.inr (Or.inr (Or.inr (Or.inl rfl))))))))))))
    · exact Or.inr (Or.inr (Or.inr (Or.inr (Or.inr (Or.inr (Or.inr (Or.inr (Or.inr (Or.inr (Or.inr (Or.inr (Or.inr (Or.inl rfl)))))))))))))
    · exact Or.inr (Or.inr (Or.inr (Or.inr (Or.inr (Or.inr (Or.inr (Or.inr (Or.inr (Or.inr (Or.inr (Or.inr (Or.inr (Or.inr (Or.inl rfl))))))))))))))
    · exact Or.inr (Or.inr (Or.inr (Or.inr (Or.inr (Or.inr (Or.inr (Or.inr (Or.inr (Or.inr (Or.inr (Or.inr (Or.inr (Or.inr (Or.inr (Or.inl rfl)))))))))))))))
    · exact Or.inr (Or.inr (Or.inr (Or.inr (Or.inr (Or.inr (Or.inr (Or.inr (Or.inr (Or.inr (Or.inr (Or.inr (Or.inr (Or.inr (Or.inr (Or.inr (Or.inl rfl))))))))))))))))
    · exact Or.inr (Or.inr (Or.inr (Or.inr (Or.inr (Or.inr (Or.inr (Or.inr (Or.inr (Or.inr (Or.inr (Or.inr (Or.inr (Or.inr (Or.inr (Or.inr (Or.inr (Or.inl rfl)))))))))))))))))
  · exact Or.inr (Or.inr (Or.inr (Or.inr (Or.inr (Or.inr (Or.inr (Or.inr (Or.inr (Or.inr (Or.inr (Or.inr (Or.inr (Or.inr (Or.inr (Or.inr (Or.inr (Or.inr h)))))))))))))))))
theorem told_out {v : Int32} (h : ¬ inR v 0 17) : v.toInt < 0 ∨ 17 < v.toInt := by
  rcases nin h with z | z
  · rw [fa_lt, show (0 : Int32).toInt = 0 from rfl] at z; exact Or.inl z
  · rw [fa_lt, show (17 : Int32).toInt = 17 from rfl] at z; exact Or.inr z
theorem in19 {v : Int32} (h : inR v 1 9) : inR v 0 17 := by
  have g := h.I
  rw [show (1 : Int32).toInt = 1 from rfl, show (9 : Int32).toInt = 9 from rfl] at g
  refine ⟨?_, ?_⟩
  · rw [fa_lt, show (0 : Int32).toInt = 0 from rfl]; omega
  · rw [fa_lt, show (17 : Int32).toInt = 17 from rfl]; omega
theorem fa_le_of_nlt {a b : Int32} (h : ¬ a < b) : b ≤ a := by rw [fa_lt] at h; rw [fa_le]; omega
theorem il_0 (P : Nat → Prop) : isLast P (1 - 1) 0 := ⟨Or.inl rfl, fun m h1 h2 => absurd h1 (by omega)⟩
theorem il_y {P : Nat → Prop} {m mo : Nat} (hm : 1 ≤ m) (h : isLast P (m - 1) mo) (hp : P m) : isLast P (m + 1 - 1) m := ⟨Or.inr ⟨by omega, hp⟩, fun k h1 h2 => absurd h1 (by omega)⟩
theorem il_n {P : Nat → Prop} {m mo : Nat} (hm : 1 ≤ m) (h : isLast P (m - 1) mo) (hp : ¬ P m) : isLast P (m + 1 - 1) mo := by
  refine ⟨?_, fun k h1 h2 => ?_⟩
  · rcases h.1 with z | z
    · exact Or.inl z
    · exact Or.inr ⟨by omega, z.2⟩
  · by_cases c : k = m
    · subst c; exact hp
    · exact h.2 k h1 (by omega)
theorem il_to {P : Nat → Prop} {b b2 r : Nat} (h : isLast P b r) (e : b = b2) : isLast P b2 r := by subst e; exact h
