theorem pf_le {nb : Nat → Int32} (h : tlOk nb) (x y : Int32) : pForce nb x ≤ pForce nb y ↔ pSway (nb 1) (nb 2) (nb 3) x ≤ pSway (nb 1) (nb 2) (nb 3) y := by
  have a := sway_rng (w := nb 2) (b := x) h.2.1 h.2.2.2.1
  have b := sway_rng (w := nb 2) (b := y) h.2.1 h.2.2.2.1
  have h0 := h.1
  unfold pForce
  generalize pSway (nb 1) (nb 2) (nb 3) x = s at a ⊢
  generalize pSway (nb 1) (nb 2) (nb 3) y = t at b ⊢
  unfold rng at a b h0
  have e4 : (4 : Int32).toInt = 4 := rfl
  have em : (4 * nb 0).toInt = 4 * (nb 0).toInt := by rw [fb_mulI (by rw [e4]; omega) (by rw [e4]; omega), e4]
  rw [fa_le, fa_le, fb_addI (by rw [em]; omega) (by rw [em]; omega), fb_addI (by rw [em]; omega) (by rw [em]; omega), em]
  omega
theorem bb_rng (g : Int32 → Int32) : ∀ k, k ≤ 8 → rng (bbF g k) 0 9
  | 0, _ => (⟨by decide, by decide⟩ : rng 1 0 9)
  | k + 1, h => by
    have i := bb_rng g k (by omega)
    unfold bbF
    split
    · exact i
    · unfold rng; rw [nI_toInt (by omega)]; omega
theorem rngN {k : Nat} (h : k ≤ 9) : rng (nI k) 0 9 := by unfold rng; rw [nI_toInt (by omega)]; omega
