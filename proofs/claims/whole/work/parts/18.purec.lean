theorem cp_one {i : Nat} {f g : Nat → Int32} (h : ∀ k, k < i → g k = f k) : ∀ k, k < i + 1 → upd g i (f i) k = f k := fun k hk => by
  by_cases e : k = i
  · subst e; exact pk_us' _ _ _
  · rw [pk_un' _ _ e]; exact h k (by omega)
theorem nlt_le {x y : Int32} (h : x ≤ y) (h2 : y < x) : False := by rw [fa_le] at h; rw [fa_lt] at h2; omega
theorem mt_ite {i f a b : Int32} : (if i ≤ f then a else b) = if f < i then b else a := by
  by_cases h : i ≤ f
  · rw [if_pos h, if_neg fun z => nlt_le h z]
  · rw [if_neg h, if_pos (fa_of_nle h)]
theorem mt_0 {k f x : Int32} (hf : fOk f x) : pGo k 0 f x = 1 := by
  unfold pGo pTake
  rw [if_neg (by rw [fa_lt, two_f hf.1, show (0 : Int32).toInt = 0 from rfl]; have := hf.1.1; omega), if_pos rfl]
theorem mt_st {k i f x : Int32} (h : ¬ i ≤ 2 * f) : pGo k i f x = -1 := by
  unfold pGo
  rw [if_pos (fa_of_nle h)]
theorem mt_go {k i f x v : Int32} (h : i ≤ 2 * f) (e : v = pTake k i f x) : v = pGo k i f x := by
  unfold pGo
  rw [if_neg fun z => nlt_le h z, e]
theorem bk_no {ba : Nat → Int32} {fb g : Int32} {m j : Nat} (ej : fb = nI j) (hj : j < 12) (c1 : ¬ fb = -1) (c2 : fb < nI m) (c3 : g ≤ ba (m - 1) + nI m - fb - ba j) : ¬ bkOk ba fb g m := by
  rintro (h | h | h)
  · exact c1 h
  · exact h c2
  · rw [show fb.toNatClampNeg = j by rw [ej, nI_clamp (by omega)]] at h
    exact nlt_le c3 h
theorem bk_yes {ba : Nat → Int32} {fb g : Int32} {m j : Nat} (ej : fb = nI j) (hj : j < 12) (c3 : ba (m - 1) + nI m - fb - ba j < g) : bkOk ba fb g m :=
  Or.inr (Or.inr (by rw [show fb.toNatClampNeg = j by rw [ej, nI_clamp (by omega)]]; exact c3))
theorem tn_down {P : Nat → Prop} {m b : Nat} (h : ∀ k, m < k → k ≤ b → ¬ P k) (hm : ¬ P m) : ∀ k, m - 1 < k → k ≤ b → ¬ P k := fun k h1 h2 => by
  rcases Nat.lt_trichotomy m k with e | e | e
  · exact h k e h2
  · subst e; exact hm
  · omega
theorem dr_t {sd os : Int32} {q : Nat → Yq} {n : Nat} {kd ic br : Nat → Int32} (c : drawV sd 5 = 0) (h : yR (fun y => thawQ (drawV (drawS sd) 40) (q y)) n os kd ic br) : yR (fun y => driftQ sd (q y)) n os kd ic br := by
  rw [show (fun y => driftQ sd (q y)) = fun y => thawQ (drawV (drawS sd) 40) (q y) from funext fun y => by unfold driftQ; rw [if_pos c]]
  exact h
theorem dr_n {sd os : Int32} {q : Nat → Yq} {n : Nat} {kd ic br : Nat → Int32} (c : ¬ drawV sd 5 = 0) (h : yR (fun y => nightQ (drawV (drawS sd) 31) (q y)) n os kd ic br) : yR (fun y => driftQ sd (q y)) n os kd ic br := by
  rw [show (fun y => driftQ sd (q y)) = fun y => nightQ (drawV (drawS sd) 31) (q y) from funext fun y => by unfold driftQ; rw [if_neg c]]
  exact h
/-! what was bored -/
def boOk (bc : Nat) (bn bd : Nat → Int32) : Prop := ∀ i, i < bc → (∃ k, k ≤ 9 ∧ bn i = nI k) ∧ (0 ≤ (bd i).toInt ∧ (bd i).toInt ≤ 30)
def fitAt (z : Yq) (y : Nat) (kn : Int32) (by0 bn bd bi : Nat → Int32) (i : Nat) : Prop := by0 i = nI y → qI (itQ (nightQ (bd i)) (bn i).toNatClampNeg (setK kn z)) = bi i
