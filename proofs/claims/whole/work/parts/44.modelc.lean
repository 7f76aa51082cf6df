/-! the reference: what it holds of the yards, and its cut -/
def mY (q : Nat → Yq) (n : Nat) (w : Nat → Int32) (h : Nat) : Prop := ∀ y, y < n → okQ (q y) ∧ w (h + y) = qI (q y) ∧ w (h + (12 + y)) = qK (q y) ∧ w (h + (24 + y)) = qB (q y) ∧ w (h + (36 + y)) = if qO (q y) = true then 1 else 0
theorem skp_idem (lt : Nat → Int32) (ln p : Nat) : skp lt ln (skp lt ln p) = skp lt ln p := skp_skp lt ln p
def cuG (lt : Nat → Int32) (ln p1 : Nat) (sn ry : Int32) (rk ri t1 : Nat → Int32) (ys : List (Int32 × Int32)) (np : Nat → Int32) (K : Nat) : Prop := snOk sn ∧ (sn &&& 1 = 0 → ys = []) ∧ ry = nI ys.length ∧ ysR ys rk ri ∧ toR t1 np ∧ psOk ys np ∧ p1 ≤ ln ∧ ln - skp lt ln p1 ≤ K ∧ rdAll lt ln K (skp lt ln p1) sn ys np = parse lt ln
theorem cu_init {lt told : Nat → Int32} {ln : Nat} {rk ri : Nat → Int32} (hln : ln ≤ 230) (ht : toR told nb0) : ∃ ys np K, cuG lt ln 0 0 0 rk ri told ys np K ∧ (-1 : Int32) = -1 :=
  ⟨[], nb0, 231, ⟨⟨0, by decide, rfl⟩, fun _ => rfl, rfl, fun j e he => by simp at he, ht, ps0, Nat.zero_le _, by omega, rfl⟩, rfl⟩
theorem cu_step {lt : Nat → Int32} {ln p1 pl2 K : Nat} {sn sn2 ry ry2 : Int32} {rk ri rk2 ri2 t1 t2 np : Nat → Int32} {ys : List (Int32 × Int32)} {r fy fa fy2 fa2 : Int32} (hG : cuG lt ln p1 sn ry rk ri t1 ys np K) (hlt : skp lt ln p1 < ln) (hC : mcP lt ln (skp lt ln p1) pl2 sn sn2 ys np t1 t2 ry2 rk2 ri2 r fy fa fy2 fa2) (c : ¬ r = 0) (hfa : fa = -1) : (∃ ys np K, cuG lt ln pl2 sn2 ry2 rk2 ri2 t2 ys np K ∧ fa2 = -1) ∧ p1 < pl2 := by
  obtain ⟨_, _, _, _, _, hpo, _, hK, hR⟩ := hG
  obtain ⟨ys2, np2, h1, -, h3, h4, h5, h6, h7, -, h9⟩ := hC.2.resolve_right (fun z => c z.2)
  obtain ⟨g1, g2, g3⟩ := rcl_inl h1 hlt hpo
  have g1 : skp lt ln p1 < pl2 := g1
  have g2 : pl2 ≤ ln := g2
  have s1 := skp_ge lt ln p1
  have s2 := skp_ge lt ln pl2
  exact ⟨⟨ys2, np2, K - 1, ⟨h3, h4, h5, h6, h7, g3, g2, by omega, (ra_step (by omega) hlt h1).symm.trans hR⟩, h9.trans hfa⟩, by omega⟩
theorem cu_bad {lt : Nat → Int32} {ln p1 pl2 K : Nat} {sn sn2 ry ry2 : Int32} {rk ri rk2 ri2 t1 t2 np : Nat → Int32} {ys : List (Int32 × Int32)} {r fy fa fy2 fa2 : Int32} (hG : cuG lt ln p1 sn ry rk ri t1 ys np K) (hlt : skp lt ln p1 < ln) (hC : mcP lt ln (skp lt ln p1) pl2 sn sn2 ys np t1 t2 ry2 rk2 ri2 r fy fa fy2 fa2) (c : r = 0) : bad (parse lt ln) fy2 fa2 := by
  obtain ⟨_, _, _, _, _, _, _, hK, hR⟩ := hG
  rcases hC.2 with ⟨_, _, _, z, _⟩ | z
  · rw [c] at z; exact absurd z (by decide)
  · exact (ra_bad (by omega) hlt z.1).eq hR
theorem mcP.z {lt : Nat → Int32} {ln p pl2 : Nat} {sn sn2 : Int32} {ys : List (Int32 × Int32)} {nbp told t2 : Nat → Int32} {ry2 : Int32} {rk2 ri2 : Nat → Int32} {r fy fa fy2 fa2 : Int32} (h : mcP lt ln p pl2 sn sn2 ys nbp told t2 ry2 rk2 ri2 r fy fa fy2 fa2) : r = 1 ∨ r = 0 := by
  rcases h.2 with ⟨_, _, _, z, _⟩ | z
  · exact Or.inl z
  · exact Or.inr z.2
def cuA (lt : Nat → Int32) (ln : Nat) (ry : Int32) (rk ri t1 : Nat → Int32) (fa : Int32) : Prop := ∃ ys np, parse lt ln = .inl (ys, np) ∧ ry = nI ys.length ∧ ysR ys rk ri ∧ toR t1 np ∧ psOk ys np ∧ fa = -1
def cuI (i : Nat) (v : Int32) (rk ri w : Nat → Int32) : Prop := (∀ j, j < i → w j = ri j ∧ w (12 + j) = rk j) ∧ (∀ j, 24 ≤ j → j < 48 → w j = 0) ∧ w 48 = 4 ∧ w 49 = 0 ∧ w 50 = v
theorem cuI_0 {v : Int32} {rk ri w : Nat → Int32} (h : ∀ j, j < 51 → w j = 0) : cuI 0 v rk ri (upd (upd w 50 v) 48 4) := by
  refine ⟨fun j hj => absurd hj (Nat.not_lt_zero _), fun j h1 h2 => ?_, pk_us' _ _ _, ?_, ?_⟩
  · rw [pk_un' _ _ (by omega), pk_un' _ _ (by omega)]; exact h j (by omega)
  · rw [pk_un' _ _ (by omega), pk_un' _ _ (by omega)]; exact h 49 (by omega)
  · rw [pk_un' _ _ (by omega)]; exact pk_us' _ _ _
theorem cuI_s {i : Nat} {v : Int32} {rk ri w : Nat → Int32} (hi : i < 12) (h : cuI i v rk ri w) : cuI (i + 1) v rk ri (upd (upd w (12 + i) (rk i)) i (ri i)) := by
  obtain ⟨h1, h2, h3, h4, h5⟩ := h
  refine ⟨fun j hj => ?_, fun j a b => ?_, ?_, ?_, ?_⟩
  · by_cases c : j = i
    · subst c
      exact ⟨pk_us' _ _ _, by rw [pk_un' _ _ (by omega)]; exact pk_us' _ _ _⟩
    · refine ⟨?_, ?_⟩
      · rw [pk_un' _ _ c, pk_un' _ _ (by omega)]; exact (h1 j (by omega)).1
      · rw [pk_un' _ _ (by omega), pk_un' _ _ (by omega)]; exact (h1 j (by omega)).2
  · rw [pk_un' _ _ (by omega), pk_un' _ _ (by omega)]; exact h2 j a b
  · rw [pk_un' _ _ (by omega), pk_un' _ _ (by omega)]; exact h3
  · rw [pk_un' _ _ (by omega), pk_un' _ _ (by omega)]; exact h4
  · rw [pk_un' _ _ (by omega), pk_un' _ _ (by omega)]; exact h5
theorem cuI_mY {v : Int32} {ys : List (Int32 × Int32)} {rk ri w : Nat → Int32} (hn : ys.length ≤ 12) (hk : ysOk ys) (hr : ysR ys rk ri) (h : cuI ys.length v rk ri w) : mY (lsQ ys) ys.length w 0 := fun y hy => by
  obtain ⟨e1, e2⟩ := hr y _ (getD_some hy)
  have g := hk _ (List.mem_of_getElem? (getD_some hy))
  obtain ⟨h1, h2, _⟩ := h
  refine ⟨⟨g.1, g.2, (⟨by decide, by decide⟩ : iceOk 0), fun _ => rfl⟩, ?_, ?_, ?_, ?_⟩
  · rw [Nat.zero_add, (h1 y hy).1, e2]; rfl
  · rw [Nat.zero_add, (h1 y hy).2, e1]; rfl
  · rw [Nat.zero_add, h2 _ (by omega) (by omega)]; rfl
  · rw [Nat.zero_add, h2 _ (by omega) (by omega)]; rfl
def cuT (i : Nat) (t1 t2 : Nat → Int32) : Prop := (∀ j, j < i → t2 j = t1 (9 + j)) ∧ (∀ j, 9 ≤ j → t2 j = t1 j)
theorem cuT_0 (t1 : Nat → Int32) : cuT 0 t1 t1 := ⟨fun j hj => absurd hj (Nat.not_lt_zero _), fun _ _ => rfl⟩
theorem cuT_s {i : Nat} {t1 t2 : Nat → Int32} (hi : i < 9) (h : cuT i t1 t2) : cuT (i + 1) t1 (upd t2 i (t2 (9 + i))) := by
  refine ⟨fun j hj => ?_, fun j hj => ?_⟩
  · by_cases c : j = i
    · subst c; rw [pk_us']; exact h.2 _ (by omega)
    · rw [pk_un' _ _ c]; exact h.1 j (by omega)
  · rw [pk_un' _ _ (by omega)]; exact h.2 j hj
def mcuP (lt : Nat → Int32) (ln : Nat) (w told kp w2 t2 kp2 : Nat → Int32) (yn bo bk r yn2 bo2 bk2 fa2 : Int32) : Prop :=
  (∃ ys np, parse lt ln = .inl (ys, np) ∧ r = nI ys.length ∧ fa2 = -1 ∧ yn2 = nI ys.length ∧ mY (lsQ ys) ys.length w2 0 ∧ nbR t2 np ∧ w2 48 = 4 ∧ w2 49 = 0 ∧ w2 50 = w 50 ∧ bo2 = 0 ∧ bk2 = 0 ∧ kp2 0 = 0 ∧ kp2 1 = 0) ∨
  (∃ z k, parse lt ln = .inr (z, k) ∧ r = -10 - k ∧ fa2 = nI z ∧ yn2 = yn ∧ w2 = w ∧ loSame told t2 ∧ bo2 = bo ∧ bk2 = bk ∧ kp2 = kp)
theorem zz_step {i : Nat} {w : Nat → Int32} (h : ∀ j, j < i → w j = 0) : ∀ j, j < i + 1 → upd w i 0 j = 0 := kz_step h
