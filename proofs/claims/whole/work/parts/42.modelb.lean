/-! the reference's clauses -/
def rdY2 (lt : Nat → Int32) (ln k p1 : Nat) (ys : List (Int32 × Int32)) : (Nat × List (Int32 × Int32)) ⊕ Fl := if ¬ k = 0 ∧ skp lt ln p1 < ln ∧ lt (skp lt ln p1) = 44 then rdYs lt ln k (skp lt ln p1 + 1) ys else Sum.elim (fun p2 => .inl (p2, ys)) (fun f => .inr f) (rdEnd lt ln p1)
theorem rdYs_2 {lt : Nat → Int32} {ln k p p1 : Nat} {ys : List (Int32 × Int32)} {a b : Int32} (hk : 0 < k) (h : rdYard lt ln p = .inl (p1, a, b)) : rdYs lt ln k p ys = rdY2 lt ln (k - 1) p1 (ys ++ [(a, b)]) := by
  obtain ⟨j, rfl⟩ : ∃ j, k = j + 1 := ⟨k - 1, by omega⟩
  conv => lhs; unfold rdYs
  rw [h]
  rfl
def ysG (lt : Nat → Int32) (ln p p1 : Nat) (ys : List (Int32 × Int32)) (ry : Int32) (rk ri : Nat → Int32) : Prop := ry = nI ys.length ∧ 1 ≤ ys.length ∧ ys.length ≤ 12 ∧ p1 ≤ ln ∧ ysR ys rk ri ∧ rdYs lt ln 12 p [] = rdY2 lt ln (12 - ys.length) p1 ys
theorem tyP.z {lt : Nat → Int32} {ln p y pl2 : Nat} {ry2 : Int32} {rk ri rk2 ri2 : Nat → Int32} {r fy fa fy2 fa2 : Int32} (h : tyP lt ln p y pl2 ry2 rk ri rk2 ri2 r fy fa fy2 fa2) : r = 1 ∨ r = 0 := by
  rcases h with ⟨_, _, _, z, _⟩ | z
  · exact Or.inl z
  · exact Or.inr z.2
theorem ty_init {lt : Nat → Int32} {ln p pl2 : Nat} {ry2 : Int32} {rk ri rk2 ri2 : Nat → Int32} {r fy fa fy2 fa2 : Int32} (hp : p ≤ ln) (h : tyP lt ln p 0 pl2 ry2 rk ri rk2 ri2 r fy fa fy2 fa2) (c : ¬ r = 0) : ∃ ys, ysG lt ln p pl2 ys ry2 rk2 ri2 ∧ fy2 = fy ∧ fa2 = fa := by
  rcases h with ⟨a, b, h1, -, h3, h4, h5, h6, h7⟩ | z
  · refine ⟨[(a, b)], ⟨h3, Nat.le_refl 1, (by show 1 ≤ 12; decide), (ry_inl h1).2.1 hp, ?_, ?_⟩, h6, h7⟩
    · rw [h4, h5]
      exact (ysR.push (ys := []) (y := 0) (fun j e he => by simp at he) rfl)
    · exact rdYs_2 (by decide) h1
  · exact absurd z.2 c
theorem ty_initB {lt : Nat → Int32} {ln p pl2 : Nat} {ry2 : Int32} {rk ri rk2 ri2 : Nat → Int32} {r fy fa fy2 fa2 : Int32} (h : tyP lt ln p 0 pl2 ry2 rk ri rk2 ri2 r fy fa fy2 fa2) (c : r = 0) : bad (rdYs lt ln 12 p []) fy2 fa2 := by
  rcases h with ⟨_, _, _, z, _⟩ | z
  · rw [c] at z; exact absurd z (by decide)
  · exact rys_bad z.1 (by decide)
theorem ty_full {lt : Nat → Int32} {ln p p1 : Nat} {ys : List (Int32 × Int32)} (hR : rdYs lt ln 12 p [] = rdY2 lt ln (12 - ys.length) p1 ys) (hl : 12 ≤ ys.length) (h : lt (skp lt ln p1) = 44) : bad (rdYs lt ln 12 p []) 1 (nI (skp lt ln p1)) := by
  refine ⟨skp lt ln p1, 1, ?_, rfl, rfl⟩
  rw [hR]
  unfold rdY2
  rw [if_neg (fun z => z.1 (by omega))]
  unfold rdEnd
  rw [if_neg (fun z => by rw [h] at z; exact absurd z.2 (by decide))]
  rfl
theorem ty_more {lt : Nat → Int32} {ln p p1 : Nat} {ys : List (Int32 × Int32)} (hR : rdYs lt ln 12 p [] = rdY2 lt ln (12 - ys.length) p1 ys) (hl : ys.length < 12) (h0 : skp lt ln p1 < ln) (h : lt (skp lt ln p1) = 44) : rdYs lt ln 12 p [] = rdYs lt ln (12 - ys.length) (skp lt ln p1 + 1) ys := by
  rw [hR]
  unfold rdY2
  rw [if_pos ⟨by omega, h0, h⟩]
theorem ty_next {lt : Nat → Int32} {ln p p1 pl2 : Nat} {ys : List (Int32 × Int32)} {ry2 : Int32} {rk ri rk2 ri2 : Nat → Int32} {r fy fa fy2 fa2 : Int32} (hR : rdYs lt ln 12 p [] = rdYs lt ln (12 - ys.length) p1 ys) (hl : ys.length < 12) (hp : p1 ≤ ln) (hrow : ysR ys rk ri) (h : tyP lt ln p1 ys.length pl2 ry2 rk ri rk2 ri2 r fy fa fy2 fa2) (c : ¬ r = 0) : ∃ ys, ysG lt ln p pl2 ys ry2 rk2 ri2 ∧ fy2 = fy ∧ fa2 = fa := by
  rcases h with ⟨a, b, h1, -, h3, h4, h5, h6, h7⟩ | z
  · have e : (ys ++ [(a, b)]).length = ys.length + 1 := by rw [List.length_append]; rfl
    refine ⟨ys ++ [(a, b)], ⟨by rw [h3, e], by omega, by omega, (ry_inl h1).2.1 hp, ?_, ?_⟩, h6, h7⟩
    · rw [h4, h5]; exact hrow.push rfl
    · rw [hR, rdYs_2 (by omega) h1, e]; rfl
  · exact absurd z.2 c
theorem ty_nextB {lt : Nat → Int32} {ln p p1 pl2 : Nat} {ys : List (Int32 × Int32)} {ry2 : Int32} {rk ri rk2 ri2 : Nat → Int32} {r fy fa fy2 fa2 : Int32} (hR : rdYs lt ln 12 p [] = rdYs lt ln (12 - ys.length) p1 ys) (hl : ys.length < 12) (h : tyP lt ln p1 ys.length pl2 ry2 rk ri rk2 ri2 r fy fa fy2 fa2) (c : r = 0) : bad (rdYs lt ln 12 p []) fy2 fa2 := by
  rcases h with ⟨_, _, _, z, _⟩ | z
  · rw [c] at z; exact absurd z (by decide)
  · exact (rys_bad z.1 (by omega)).eq hR.symm
theorem ty_gt {lt : Nat → Int32} {ln p1 pl2 y : Nat} {ry2 : Int32} {rk ri rk2 ri2 : Nat → Int32} {r fy fa fy2 fa2 : Int32} (h : tyP lt ln p1 y pl2 ry2 rk ri rk2 ri2 r fy fa fy2 fa2) (c : ¬ r = 0) : p1 < pl2 := by
  rcases h with ⟨a, b, h1, _⟩ | z
  · exact (ry_inl h1).1
  · exact absurd z.2 c
/-- the yards, taken; the clause's end is still to come -/
def tysP (lt : Nat → Int32) (ln p pl2 : Nat) (ry2 : Int32) (rk2 ri2 : Nat → Int32) (r fy fa fy2 fa2 : Int32) : Prop := (∃ ys, rdYs lt ln 12 p [] = Sum.elim (fun p2 => .inl (p2, ys)) (fun f => .inr f) (rdEnd lt ln pl2) ∧ r = 1 ∧ pl2 ≤ ln ∧ ry2 = nI ys.length ∧ ysR ys rk2 ri2 ∧ fy2 = fy ∧ fa2 = fa) ∨ (bad (rdYs lt ln 12 p []) fy2 fa2 ∧ r = 0)
theorem tys_fin {lt : Nat → Int32} {ln p p1 : Nat} {ys : List (Int32 × Int32)} (hR : rdYs lt ln 12 p [] = rdY2 lt ln (12 - ys.length) p1 ys) (h : ¬ ltA lt ln (skp lt ln p1) = 44) : rdYs lt ln 12 p [] = Sum.elim (fun p2 => .inl (p2, ys)) (fun f => .inr f) (rdEnd lt ln (skp lt ln p1)) := by
  rw [hR, rdEnd_skp]
  unfold rdY2
  rw [if_neg (fun z => h (by rw [ltA_in z.2.1]; exact z.2.2))]
def snOk (sn : Int32) : Prop := ∃ b, b < 16 ∧ sn = nI b
theorem sn_bit {sn : Int32} (h : snOk sn) : (((sn >>> ((0 : Int32) &&& 31)) &&& 1 = 1) ↔ ¬ sn &&& 1 = 0) ∧ (((sn >>> ((1 : Int32) &&& 31)) &&& 1 = 1) ↔ ¬ sn &&& 2 = 0) ∧ (((sn >>> ((2 : Int32) &&& 31)) &&& 1 = 1) ↔ ¬ sn &&& 4 = 0) ∧ (((sn >>> ((3 : Int32) &&& 31)) &&& 1 = 1) ↔ ¬ sn &&& 8 = 0) := by
  obtain ⟨b, hb, e⟩ := h
  subst e
  exact (by decide +kernel : ∀ b, b < 16 → (((nI b >>> ((0 : Int32) &&& 31)) &&& 1 = 1) ↔ ¬ nI b &&& 1 = 0) ∧ (((nI b >>> ((1 : Int32) &&& 31)) &&& 1 = 1) ↔ ¬ nI b &&& 2 = 0) ∧ (((nI b >>> ((2 : Int32) &&& 31)) &&& 1 = 1) ↔ ¬ nI b &&& 4 = 0) ∧ (((nI b >>> ((3 : Int32) &&& 31)) &&& 1 = 1) ↔ ¬ nI b &&& 8 = 0)) b hb
theorem sn_or {sn : Int32} (h : snOk sn) : (snOk (sn ||| 1) ∧ ¬ (sn ||| 1) &&& 1 = 0) ∧ (snOk (sn ||| 2) ∧ ((sn ||| 2) &&& 1 = 0 ↔ sn &&& 1 = 0)) ∧ (snOk (sn ||| 4) ∧ ((sn ||| 4) &&& 1 = 0 ↔ sn &&& 1 = 0)) ∧ (snOk (sn ||| 8) ∧ ((sn ||| 8) &&& 1 = 0 ↔ sn &&& 1 = 0)) := by
  obtain ⟨b, hb, e⟩ := h
  subst e
  have g := (by decide +kernel : ∀ b, b < 16 → ((b ||| 1) < 16 ∧ nI b ||| 1 = nI (b ||| 1) ∧ ¬ (nI b ||| 1) &&& 1 = 0) ∧ ((b ||| 2) < 16 ∧ nI b ||| 2 = nI (b ||| 2) ∧ ((nI b ||| 2) &&& 1 = 0 ↔ nI b &&& 1 = 0)) ∧ ((b ||| 4) < 16 ∧ nI b ||| 4 = nI (b ||| 4) ∧ ((nI b ||| 4) &&& 1 = 0 ↔ nI b &&& 1 = 0)) ∧ ((b ||| 8) < 16 ∧ nI b ||| 8 = nI (b ||| 8) ∧ ((nI b ||| 8) &&& 1 = 0 ↔ nI b &&& 1 = 0))) b hb
  exact ⟨⟨⟨_, g.1.1, g.1.2.1⟩, g.1.2.2⟩, ⟨⟨_, g.2.1.1, g.2.1.2.1⟩, g.2.1.2.2⟩, ⟨⟨_, g.2.2.1.1, g.2.2.1.2.1⟩, g.2.2.1.2.2⟩, ⟨_, g.2.2.2.1, g.2.2.2.2.1⟩, g.2.2.2.2.2⟩
/-- a clause, taken by the reference -/
def mcP (lt : Nat → Int32) (ln p pl2 : Nat) (sn sn2 : Int32) (ys : List (Int32 × Int32)) (nbp told t2 : Nat → Int32) (ry2 : Int32) (rk2 ri2 : Nat → Int32) (r fy fa fy2 fa2 : Int32) : Prop := loSame told t2 ∧ ((∃ ys2 np2, rdCl lt ln p sn ys nbp = .inl (pl2, sn2, ys2, np2) ∧ r = 1 ∧ snOk sn2 ∧ (sn2 &&& 1 = 0 → ys2 = []) ∧ ry2 = nI ys2.length ∧ ysR ys2 rk2 ri2 ∧ toR t2 np2 ∧ fy2 = fy ∧ fa2 = fa) ∨ (bad (rdCl lt ln p sn ys nbp) fy2 fa2 ∧ r = 0))
theorem clO_v {v : Int32} : (v = 121 → clO v = 0) ∧ (v = 98 → clO v = 1) ∧ (v = 103 → clO v = 2) ∧ (v = 99 → clO v = 3) ∧ (¬ v = 121 → ¬ v = 98 → ¬ v = 103 → ¬ v = 99 → clO v = -1) := by
  refine ⟨?_, ?_, ?_, ?_, ?_⟩
  · intro h; subst h; rfl
  · intro h; subst h; rfl
  · intro h; subst h; rfl
  · intro h; subst h; rfl
  · intro a b c d; unfold clO; rw [if_neg a, if_neg b, if_neg c, if_neg d]
theorem loSame.rf (t : Nat → Int32) : loSame t t := fun _ _ => rfl
theorem loSame.tr {a b c : Nat → Int32} (h : loSame a b) (h2 : loSame b c) : loSame a c := fun j hj => (h2 j hj).trans (h j hj)
/-- the y clause -/
theorem mc_y {lt : Nat → Int32} {ln s pl2 pl3 : Nat} {sn : Int32} {ys : List (Int32 × Int32)} {nbp told : Nat → Int32} {ry2 : Int32} {rk2 ri2 : Nat → Int32} {r r2 fy fa fy2 fa2 fy3 fa3 : Int32} (hs : snOk sn) (hc : lt s = 121) (hb : sn &&& 1 = 0) (ht : toR told nbp) (hy : tysP lt ln (s + 1) pl2 ry2 rk2 ri2 r fy fa fy2 fa2) (hr : ¬ r = 0) (he : reP lt ln pl2 pl3 r2 fy2 fa2 fy3 fa3) : mcP lt ln s pl3 sn (sn ||| 1) ys nbp told told ry2 rk2 ri2 r2 fy fa fy3 fa3 := by
  have e0 : clO (lt s) = 0 := clO_v.1 hc
  have e : rdCl lt ln s sn ys nbp = Sum.elim (fun e => .inl (e.1, sn ||| ((1 : Int32) <<< ((0 : Int32) &&& 31)), e.2, nbp)) (fun f => .inr f) (rdYs lt ln 12 (s + 1) []) := by
    unfold rdCl
    rw [e0, if_neg (by rintro (z | z); { exact absurd z (by decide) }; { exact z.2 rfl }), if_neg (fun z => ((sn_bit hs).1.mp z) hb), if_pos rfl]
  refine ⟨loSame.rf _, ?_⟩
  rcases hy with ⟨ys2, h1, -, -, h3, h4, h5, h6⟩ | z
  · rw [h1] at e
    rcases he with ⟨e1, e2, e3, e4⟩ | ⟨⟨w, z, e1, e2⟩, e3⟩
    · rw [e1] at e
      exact Or.inl ⟨ys2, nbp, e, e2, (sn_or hs).1.1, fun z => absurd z (sn_or hs).1.2, h3, h4, ht, e3.trans h5, e4.trans h6⟩
    · rw [e1] at e
      exact Or.inr ⟨⟨w, z, e, e2⟩, e3⟩
  · exact absurd z.2 hr
theorem mc_yb {lt : Nat → Int32} {ln s pl2 : Nat} {sn : Int32} {ys : List (Int32 × Int32)} {nbp : Nat → Int32} {ry2 : Int32} {rk2 ri2 : Nat → Int32} {r fy fa fy2 fa2 : Int32} (hs : snOk sn) (hc : lt s = 121) (hb : sn &&& 1 = 0) (hy : tysP lt ln (s + 1) pl2 ry2 rk2 ri2 r fy fa fy2 fa2) (hr : r = 0) : bad (rdCl lt ln s sn ys nbp) fy2 fa2 := by
  have e0 : clO (lt s) = 0 := clO_v.1 hc
  have e : rdCl lt ln s sn ys nbp = Sum.elim (fun e => .inl (e.1, sn ||| ((1 : Int32) <<< ((0 : Int32) &&& 31)), e.2, nbp)) (fun f => .inr f) (rdYs lt ln 12 (s + 1) []) := by
    unfold rdCl
    rw [e0, if_neg (by rintro (z | z); { exact absurd z (by decide) }; { exact z.2 rfl }), if_neg (fun z => ((sn_bit hs).1.mp z) hb), if_pos rfl]
  rcases hy with ⟨_, _, z, _⟩ | ⟨⟨w, z, e1, e2⟩, _⟩
  · rw [hr] at z; exact absurd z (by decide)
  · rw [e1] at e; exact ⟨w, z, e, e2⟩
/-- the clauses of numbers: what rdCl is there -/
theorem mc_ne {lt : Nat → Int32} {ln s k : Nat} {sn m : Int32} {ys : List (Int32 × Int32)} {nbp : Nat → Int32} (hk : 1 ≤ k) (hk3 : k ≤ 3) (e0 : clO (lt s) = nI k) (hsn : ¬ sn = 0) (hb : ¬ (sn >>> (nI k &&& 31)) &&& 1 = 1) (hm : (1 : Int32) <<< (nI k &&& 31) = m) : rdCl lt ln s sn ys nbp = Sum.elim (fun e => .inl (e.1, sn ||| m, ys, e.2)) (fun f => .inr f) (rdNs lt ln (tE k - tF k) (tF k) (s + 1) nbp) := by
  have h0 : ¬ nI k = 0 := nI_ne0 (by omega) (by omega)
  have h1 : ¬ nI k = -1 := fun z => by
    have g := congrArg Int32.toInt z
    rw [nI_toInt (by omega), show (-1 : Int32).toInt = -1 from rfl] at g
    omega
  unfold rdCl
  rw [e0, if_neg (by rintro (z | z); { exact h1 z }; { exact hsn z.1 }), if_neg hb, if_neg h0, nI_clamp (by omega), hm]
theorem mc_fst {lt : Nat → Int32} {ln s : Nat} {sn : Int32} {ys : List (Int32 × Int32)} {nbp : Nat → Int32} (h0 : sn = 0) (h : ¬ clO (lt s) = 0) : bad (rdCl lt ln s sn ys nbp) 1 (nI s) := ⟨s, 1, by unfold rdCl; rw [if_pos (Or.inr ⟨h0, h⟩)], rfl, rfl⟩
theorem mc_no {lt : Nat → Int32} {ln s : Nat} {sn : Int32} {ys : List (Int32 × Int32)} {nbp : Nat → Int32} (h : clO (lt s) = -1) : bad (rdCl lt ln s sn ys nbp) 1 (nI s) := ⟨s, 1, by unfold rdCl; rw [if_pos (Or.inl h)], rfl, rfl⟩
theorem mc_agn {lt : Nat → Int32} {ln s : Nat} {sn : Int32} {ys : List (Int32 × Int32)} {nbp : Nat → Int32} (h1 : ¬ clO (lt s) = -1) (h2 : sn = 0 → clO (lt s) = 0) (h3 : (sn >>> (clO (lt s) &&& 31)) &&& 1 = 1) : bad (rdCl lt ln s sn ys nbp) 3 (nI s) := ⟨s, 3, by unfold rdCl; rw [if_neg (by rintro (z | z); { exact h1 z }; { exact z.2 (h2 z.1) }), if_pos h3], rfl, rfl⟩
/-- one number of a clause -/
theorem mn_ok {lt : Nat → Int32} {ln i k p pl2 : Nat} {lo hi : Int32} {told t2 np : Nat → Int32} {r fy fa fy2 fa2 : Int32} (h : tlP lt ln lo hi p pl2 i told t2 r fy fa fy2 fa2) (hr : ¬ r = 0) (hl : lo = tbL.getD i 0) (hh : hi = tbM.getD i 0) (ht : toR told np) : ∃ np2, rdNs lt ln (k + 1) i p np = rdNs lt ln k (i + 1) pl2 np2 ∧ toR t2 np2 ∧ loSame told t2 ∧ fy2 = fy ∧ fa2 = fa ∧ (p ≤ ln → pl2 ≤ ln) := by
  subst hl; subst hh
  rcases h with ⟨hs, ⟨v, h1, -, h3, h4, h5⟩ | z⟩
  · refine ⟨upd np i v, ?_, fun j hj => ?_, hs, h4, h5, (rn_inl h1).2.1⟩
    · conv => lhs; unfold rdNs
      rw [h1]
      rfl
    · rw [h3 j hj]
      by_cases c : j = i
      · subst c; rw [pk_us', pk_us']
      · rw [pk_un' _ _ c, pk_un' _ _ c]; exact ht j hj
  · exact absurd z.2 hr
theorem mn_no {lt : Nat → Int32} {ln i k p pl2 : Nat} {lo hi : Int32} {told t2 np : Nat → Int32} {r fy fa fy2 fa2 : Int32} (h : tlP lt ln lo hi p pl2 i told t2 r fy fa fy2 fa2) (hr : r = 0) (hl : lo = tbL.getD i 0) (hh : hi = tbM.getD i 0) : bad (rdNs lt ln (k + 1) i p np) fy2 fa2 ∧ loSame told t2 := by
  subst hl; subst hh
  rcases h with ⟨hs, ⟨v, _, z, _⟩ | ⟨⟨w, z, e1, e2⟩, _⟩⟩
  · rw [hr] at z; exact absurd z (by decide)
  · exact ⟨⟨w, z, by unfold rdNs; rw [e1]; rfl, e2⟩, hs⟩
theorem mn_bad {lt : Nat → Int32} {ln s : Nat} {sn m : Int32} {ys : List (Int32 × Int32)} {nbp : Nat → Int32} {o : (Nat × (Nat → Int32)) ⊕ Fl} {fy2 fa2 : Int32} (e : rdCl lt ln s sn ys nbp = Sum.elim (fun e => .inl (e.1, sn ||| m, ys, e.2)) (fun f => .inr f) o) (h : bad o fy2 fa2) : bad (rdCl lt ln s sn ys nbp) fy2 fa2 := by
  obtain ⟨w, z, e1, e2⟩ := h
  rw [e1] at e
  exact ⟨w, z, e, e2⟩
theorem mn_fin {lt : Nat → Int32} {ln s p i pl3 : Nat} {sn m : Int32} {ys : List (Int32 × Int32)} {nbp np told t2 : Nat → Int32} {ry : Int32} {rk ri : Nat → Int32} {r2 fy fa fy2 fa2 fy3 fa3 : Int32} (e : rdCl lt ln s sn ys nbp = Sum.elim (fun e => .inl (e.1, sn ||| m, ys, e.2)) (fun f => .inr f) (rdNs lt ln 0 i p np)) (hs : loSame told t2) (ho : snOk (sn ||| m)) (hye : (sn ||| m) &&& 1 = 0 → ys = []) (hry : ry = nI ys.length) (hrow : ysR ys rk ri) (ht : toR t2 np) (hfy : fy2 = fy) (hfa : fa2 = fa) (he : reP lt ln p pl3 r2 fy2 fa2 fy3 fa3) : mcP lt ln s pl3 sn (sn ||| m) ys nbp told t2 ry rk ri r2 fy fa fy3 fa3 := by
  refine ⟨hs, ?_⟩
  have e2 : rdNs lt ln 0 i p np = Sum.elim (fun p2 => .inl (p2, np)) (fun f => .inr f) (rdEnd lt ln p) := by unfold rdNs; rfl
  rw [e2] at e
  rcases he with ⟨e1, h2, h3, h4⟩ | ⟨⟨w, z, e1, h2⟩, h3⟩
  · rw [e1] at e
    exact Or.inl ⟨ys, np, e, h2, ho, hye, hry, hrow, ht, h3.trans hfy, h4.trans hfa⟩
  · rw [e1] at e
    exact Or.inr ⟨⟨w, z, e, h2⟩, h3⟩
