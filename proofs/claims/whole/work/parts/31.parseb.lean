theorem k13 {k : Nat} (h1 : 1 ≤ k) (h3 : k ≤ 3) : k = 1 ∨ k = 2 ∨ k = 3 := by omega
theorem tF_eq {k : Nat} (h1 : 1 ≤ k) (h3 : k ≤ 3) : tbF.getD k 0 = nI (tF k) := by rcases k13 h1 h3 with rfl | rfl | rfl <;> rfl
theorem tE_eq {k : Nat} (h1 : 1 ≤ k) (h3 : k ≤ 3) : tbE.getD k 0 = nI (tE k) := by rcases k13 h1 h3 with rfl | rfl | rfl <;> rfl
theorem tE_le {k : Nat} (h1 : 1 ≤ k) (h3 : k ≤ 3) : tF k ≤ tE k ∧ tE k ≤ 9 := by rcases k13 h1 h3 with rfl | rfl | rfl <;> decide
theorem tbL_nn (i : Nat) : 0 ≤ (tbL.getD i 0).toInt := by
  by_cases h : i < 9
  · exact (by decide : ∀ j, j < 9 → 0 ≤ (tbL.getD j 0).toInt) i h
  · have e : tbL[i]? = none := List.getElem?_eq_none (by show 9 ≤ i; omega)
    show 0 ≤ ((tbL[i]?).getD 0).toInt
    rw [e]; decide
theorem rns_step {lt : Nat → Int32} {ln k i p p1 : Nat} {nb : Nat → Int32} {r : Int32} (hk : 0 < k) (h : rdNum lt ln (tbL.getD i 0) (tbM.getD i 0) p = .inl (p1, r)) : rdNs lt ln k i p nb = rdNs lt ln (k - 1) (i + 1) p1 (upd nb i r) := by
  obtain ⟨j, rfl⟩ : ∃ j, k = j + 1 := ⟨k - 1, by omega⟩
  conv => lhs; unfold rdNs
  rw [h]
  rfl
theorem rns_bad {lt : Nat → Int32} {ln k i p : Nat} {nb : Nat → Int32} {fn2 fp2 : Int32} (hk : 0 < k) (h : bad (rdNum lt ln (tbL.getD i 0) (tbM.getD i 0) p) fn2 fp2) : bad (rdNs lt ln k i p nb) fn2 fp2 := by
  obtain ⟨w, z, e, h2⟩ := h
  obtain ⟨j, rfl⟩ : ∃ j, k = j + 1 := ⟨k - 1, by omega⟩
  exact ⟨w, z, by unfold rdNs; rw [e]; rfl, h2⟩
theorem rns_fin {lt : Nat → Int32} {ln k i p p0 m pl2 : Nat} {np nbp nb2 : Nat → Int32} {r fn fp fn2 fp2 : Int32} (hm : m = 0) (hR : rdNs lt ln m i p np = rdNs lt ln (tE k - tF k) (tF k) p0 nbp) (hnb : nbR nb2 np) (he : reP lt ln p pl2 r fn fp fn2 fp2) : rnsP lt ln k p0 pl2 nbp nb2 r fn fp fn2 fp2 := by
  subst hm
  have e : rdNs lt ln 0 i p np = Sum.elim (fun p2 => .inl (p2, np)) (fun f => .inr f) (rdEnd lt ln p) := by unfold rdNs; rfl
  rw [hR] at e
  rcases he with ⟨e1, e2, e3, e4⟩ | ⟨⟨w, z, e1, e2⟩, e3⟩
  · rw [e1] at e
    exact Or.inl ⟨np, e, e2, hnb, e3, e4⟩
  · rw [e1] at e
    exact Or.inr ⟨⟨w, z, e, e2⟩, e3⟩
theorem nbR.step {nb np : Nat → Int32} (h : nbR nb np) (i : Nat) (v : Int32) : nbR (upd nb i v) (upd np i v) := fun j hj => by
  by_cases c : j = i
  · subst c; rw [pk_us', pk_us']
  · rw [pk_un' _ _ c, pk_un' _ _ c]; exact h j hj
theorem reP.z {lt : Nat → Int32} {ln p pl2 : Nat} {r fn fp fn2 fp2 : Int32} (h : reP lt ln p pl2 r fn fp fn2 fp2) : r = 1 ∨ r = 0 := by
  rcases h with z | z
  · exact Or.inl z.2.1
  · exact Or.inr z.2
theorem clO_pos {v : Int32} (h1 : ¬ clO v = -1) (h2 : ¬ clO v = 0) : ∃ k, 1 ≤ k ∧ k ≤ 3 ∧ clO v = nI k := by
  unfold clO at *
  by_cases a : v = 121
  · rw [if_pos a] at h2; exact absurd rfl h2
  · rw [if_neg a] at h1 h2 ⊢
    by_cases b : v = 98
    · rw [if_pos b]; exact ⟨1, by decide, by decide, rfl⟩
    · rw [if_neg b] at h1 h2 ⊢
      by_cases c : v = 103
      · rw [if_pos c]; exact ⟨2, by decide, by decide, rfl⟩
      · rw [if_neg c] at h1 h2 ⊢
        by_cases d : v = 99
        · rw [if_pos d]; exact ⟨3, by decide, by decide, rfl⟩
        · rw [if_neg d] at h1; exact absurd rfl h1
theorem rc_1a {lt : Nat → Int32} {ln p : Nat} {sn : Int32} {ys : List (Int32 × Int32)} {nb : Nat → Int32} (h : clO (lt p) = -1) : bad (rdCl lt ln p sn ys nb) 1 (nI p) := ⟨p, 1, by unfold rdCl; rw [if_pos (Or.inl h)], rfl, rfl⟩
theorem rc_1b {lt : Nat → Int32} {ln p : Nat} {sn : Int32} {ys : List (Int32 × Int32)} {nb : Nat → Int32} (h : (if sn = 0 then (if clO (lt p) = 0 then 1 else 0) else 1) = (0 : Int32)) : bad (rdCl lt ln p sn ys nb) 1 (nI p) := by
  refine ⟨p, 1, ?_, rfl, rfl⟩
  unfold rdCl
  rw [if_pos (Or.inr ?_)]
  split at h
  · rename_i a
    split at h
    · exact absurd h (by decide)
    · rename_i b; exact ⟨a, b⟩
  · exact absurd h (by decide)
theorem rc_ok {lt : Nat → Int32} {p : Nat} {sn : Int32} (h1 : ¬ clO (lt p) = -1) (h : ¬ (if sn = 0 then (if clO (lt p) = 0 then 1 else 0) else 1) = (0 : Int32)) : ¬ (clO (lt p) = -1 ∨ (sn = 0 ∧ ¬ clO (lt p) = 0)) := by
  rintro (z | z)
  · exact h1 z
  · rw [if_pos z.1, if_neg z.2] at h; exact h rfl
theorem rc_3 {lt : Nat → Int32} {ln p : Nat} {sn : Int32} {ys : List (Int32 × Int32)} {nb : Nat → Int32} (h0 : ¬ (clO (lt p) = -1 ∨ (sn = 0 ∧ ¬ clO (lt p) = 0))) (h : (sn >>> (clO (lt p) &&& 31)) &&& 1 = 1) : bad (rdCl lt ln p sn ys nb) 3 (nI p) := ⟨p, 3, by unfold rdCl; rw [if_neg h0, if_pos h], rfl, rfl⟩
theorem rc_y {lt : Nat → Int32} {ln p pl2 : Nat} {sn : Int32} {ys : List (Int32 × Int32)} {nb nbp : Nat → Int32} {yc2 r fn fp fn2 fp2 : Int32} {yk2 yi2 : Nat → Int32} (h0 : ¬ (clO (lt p) = -1 ∨ (sn = 0 ∧ ¬ clO (lt p) = 0))) (h : ¬ (sn >>> (clO (lt p) &&& 31)) &&& 1 = 1) (hc : clO (lt p) = 0) (hnb : nbR nb nbp) (hy : rysP lt ln (p + 1) pl2 yc2 yk2 yi2 r fn fp fn2 fp2) : rcP lt ln p pl2 sn (sn ||| ((1 : Int32) <<< (clO (lt p) &&& 31))) ys nbp yc2 yk2 yi2 nb r fn fp fn2 fp2 := by
  have e : rdCl lt ln p sn ys nbp = Sum.elim (fun e => .inl (e.1, sn ||| ((1 : Int32) <<< (clO (lt p) &&& 31)), e.2, nbp)) (fun f => .inr f) (rdYs lt ln 12 (p + 1) []) := by unfold rdCl; rw [if_neg h0, if_neg h, if_pos hc]
  rcases hy with ⟨ys2, e1, e2, e3, e4, e5, e6⟩ | ⟨⟨w, z, e1, e2⟩, e3⟩
  · rw [e1] at e; exact Or.inl ⟨ys2, nbp, e, e2, e3, e4, hnb, e5, e6⟩
  · rw [e1] at e; exact Or.inr ⟨⟨w, z, e, e2⟩, e3⟩
theorem rc_n {lt : Nat → Int32} {ln p pl2 k : Nat} {sn : Int32} {ys : List (Int32 × Int32)} {nbp nb2 : Nat → Int32} {yc r fn fp fn2 fp2 : Int32} {yk yi : Nat → Int32} (h0 : ¬ (clO (lt p) = -1 ∨ (sn = 0 ∧ ¬ clO (lt p) = 0))) (h : ¬ (sn >>> (clO (lt p) &&& 31)) &&& 1 = 1) (hc : ¬ clO (lt p) = 0) (ek : clO (lt p) = nI k) (hk : k ≤ 3) (hyc : yc = nI ys.length) (hrow : ysR ys yk yi) (hy : rnsP lt ln k (p + 1) pl2 nbp nb2 r fn fp fn2 fp2) : rcP lt ln p pl2 sn (sn ||| ((1 : Int32) <<< (clO (lt p) &&& 31))) ys nbp yc yk yi nb2 r fn fp fn2 fp2 := by
  have e : rdCl lt ln p sn ys nbp = Sum.elim (fun e => .inl (e.1, sn ||| ((1 : Int32) <<< (clO (lt p) &&& 31)), ys, e.2)) (fun f => .inr f) (rdNs lt ln (tE k - tF k) (tF k) (p + 1) nbp) := by
    unfold rdCl
    rw [if_neg h0, if_neg h, if_neg hc, show (clO (lt p)).toNatClampNeg = k by rw [ek, nI_clamp (by omega)]]
  rcases hy with ⟨np2, e1, e2, e3, e4, e5⟩ | ⟨⟨w, z, e1, e2⟩, e3⟩
  · rw [e1] at e; exact Or.inl ⟨ys, np2, e, e2, hyc, hrow, e3, e4, e5⟩
  · rw [e1] at e; exact Or.inr ⟨⟨w, z, e, e2⟩, e3⟩
theorem rcP.z {lt : Nat → Int32} {ln p pl2 : Nat} {sn sn2 : Int32} {ys : List (Int32 × Int32)} {nbp : Nat → Int32} {yc2 : Int32} {yk2 yi2 nb2 : Nat → Int32} {r fn fp fn2 fp2 : Int32} (h : rcP lt ln p pl2 sn sn2 ys nbp yc2 yk2 yi2 nb2 r fn fp fn2 fp2) : r = 1 ∨ r = 0 := by
  rcases h with ⟨_, _, _, z, _⟩ | z
  · exact Or.inl z
  · exact Or.inr z.2
theorem rysP.z {lt : Nat → Int32} {ln p pl2 : Nat} {yc2 : Int32} {yk2 yi2 : Nat → Int32} {r fn fp fn2 fp2 : Int32} (h : rysP lt ln p pl2 yc2 yk2 yi2 r fn fp fn2 fp2) : r = 1 ∨ r = 0 := by
  rcases h with ⟨_, _, z, _⟩ | z
  · exact Or.inl z
  · exact Or.inr z.2
theorem rnsP.z {lt : Nat → Int32} {ln k p pl2 : Nat} {nbp nb2 : Nat → Int32} {r fn fp fn2 fp2 : Int32} (h : rnsP lt ln k p pl2 nbp nb2 r fn fp fn2 fp2) : r = 1 ∨ r = 0 := by
  rcases h with ⟨_, _, z, _⟩ | z
  · exact Or.inl z
  · exact Or.inr z.2
/-! all clauses -/
def psOk (ys : List (Int32 × Int32)) (nb : Nat → Int32) : Prop := ysOk ys ∧ ys.length ≤ 12 ∧ nbOk nb
theorem rcl_inl {lt : Nat → Int32} {ln p : Nat} {sn : Int32} {ys : List (Int32 × Int32)} {nb : Nat → Int32} {s : Ps} (h : rdCl lt ln p sn ys nb = .inl s) (hp : p < ln) (ho : psOk ys nb) : p < s.1 ∧ s.1 ≤ ln ∧ psOk s.2.2.1 s.2.2.2 := by
  unfold rdCl at h
  split at h
  · cases h
  · rename_i h0
    split at h
    · cases h
    · split at h
      · cases h1 : rdYs lt ln 12 (p + 1) [] with
        | inr f => rw [h1] at h; cases h
        | inl e =>
          rw [h1] at h
          cases h
          have a := rys_inl 12 (p + 1) [] e (fun z hz => absurd hz List.not_mem_nil) h1
          have a4 := a.2.2.2
          rw [List.length_nil, Nat.zero_add] at a4
          exact ⟨by show p < e.1; omega, a.2.1 (by omega), a.2.2.1, a4, ho.2.2⟩
      · rename_i hc
        obtain ⟨k, hk1, hk3, ek⟩ := clO_pos (fun z => h0 (Or.inl z)) hc
        rw [show (clO (lt p)).toNatClampNeg = k by rw [ek, nI_clamp (by omega)]] at h
        cases h1 : rdNs lt ln (tE k - tF k) (tF k) (p + 1) nb with
        | inr f => rw [h1] at h; cases h
        | inl e =>
          rw [h1] at h
          cases h
          have t := tE_le hk1 hk3
          have a := rns_inl _ _ _ _ e (by omega) ho.2.2 h1
          exact ⟨by show p < e.1; omega, a.2.1 (by omega), ho.1, ho.2.1, a.2.2⟩
theorem ra_end {lt : Nat → Int32} {ln K p : Nat} {sn : Int32} {ys : List (Int32 × Int32)} {nb : Nat → Int32} (h : ln ≤ p) : rdAll lt ln K p sn ys nb = .inl (ys, nb) := by
  cases K with
  | zero => rfl
  | succ k => unfold rdAll; rw [if_neg (by omega)]
theorem ra_bad {lt : Nat → Int32} {ln K p : Nat} {sn : Int32} {ys : List (Int32 × Int32)} {nb : Nat → Int32} {fn2 fp2 : Int32} (hK : 0 < K) (hp : p < ln) (h : bad (rdCl lt ln p sn ys nb) fn2 fp2) : bad (rdAll lt ln K p sn ys nb) fn2 fp2 := by
  obtain ⟨w, z, e, h2⟩ := h
  obtain ⟨j, rfl⟩ : ∃ j, K = j + 1 := ⟨K - 1, by omega⟩
  exact ⟨w, z, by unfold rdAll; rw [if_pos hp, e]; rfl, h2⟩
theorem ra_step {lt : Nat → Int32} {ln K p p1 : Nat} {sn sn1 : Int32} {ys ys1 : List (Int32 × Int32)} {nb nb1 : Nat → Int32} (hK : 0 < K) (hp : p < ln) (h : rdCl lt ln p sn ys nb = .inl (p1, sn1, ys1, nb1)) : rdAll lt ln K p sn ys nb = rdAll lt ln (K - 1) (skp lt ln p1) sn1 ys1 nb1 := by
  obtain ⟨j, rfl⟩ : ∃ j, K = j + 1 := ⟨K - 1, by omega⟩
  conv => lhs; unfold rdAll
  rw [if_pos hp, h]
  rfl
theorem ps0 : psOk [] nb0 := ⟨fun z hz => absurd hz List.not_mem_nil, by decide, fun i hi => (by decide : ∀ j, j < 9 → ¬ nb0 j < tbL.getD j 0 ∧ ¬ tbM.getD j 0 < nb0 j) i hi⟩
theorem rdAll_ok {lt : Nat → Int32} {ln : Nat} : ∀ (K p : Nat) (sn : Int32) (ys : List (Int32 × Int32)) (nb : Nat → Int32) (e : List (Int32 × Int32) × (Nat → Int32)), psOk ys nb → rdAll lt ln K p sn ys nb = .inl e → psOk e.1 e.2
  | 0, p, sn, ys, nb, e, ho, h => by unfold rdAll at h; cases h; exact ho
  | K + 1, p, sn, ys, nb, e, ho, h => by
    unfold rdAll at h
    split at h
    · rename_i hp
      cases h1 : rdCl lt ln p sn ys nb with
      | inr f => rw [h1] at h; cases h
      | inl s =>
        rw [h1] at h
        exact rdAll_ok K _ _ _ _ e (rcl_inl h1 hp ho).2.2 h
    · cases h; exact ho
theorem parse_ok {lt : Nat → Int32} {ln : Nat} {e : List (Int32 × Int32) × (Nat → Int32)} (h : parse lt ln = .inl e) : psOk e.1 e.2 := rdAll_ok _ _ _ _ _ e ps0 h
theorem un_step {i : Nat} {nb : Nat → Int32} (h : ∀ j, j < i → nb j = nb0 j) : ∀ j, j < i + 1 → upd nb i (tbU.getD i 0) j = nb0 j := fun j hj => by
  by_cases c : j = i
  · subst c; exact pk_us' _ _ _
  · rw [pk_un' _ _ c]; exact h j (by omega)
