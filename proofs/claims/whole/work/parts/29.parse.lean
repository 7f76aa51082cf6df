/-! the text, read: plain -/
abbrev Fl : Type := Nat × Int32
def skpF (lt : Nat → Int32) (ln : Nat) : Nat → Nat → Nat
  | 0, p => p
  | k + 1, p => if p < ln ∧ lt p = 32 then skpF lt ln k (p + 1) else p
def skp (lt : Nat → Int32) (ln p : Nat) : Nat := skpF lt ln (ln - p) p
theorem skp_go {lt : Nat → Int32} {ln p : Nat} (h : p < ln) (h2 : lt p = 32) : skp lt ln (p + 1) = skp lt ln p := by
  unfold skp
  rw [show ln - p = (ln - (p + 1)) + 1 by omega]
  conv => rhs; unfold skpF
  rw [if_pos ⟨h, h2⟩]
theorem skp_no {lt : Nat → Int32} {ln p : Nat} (h : ¬ (p < ln ∧ lt p = 32)) : p = skp lt ln p := by
  unfold skp
  cases ln - p with
  | zero => rfl
  | succ k => unfold skpF; rw [if_neg h]
theorem skpF_spec (lt : Nat → Int32) (ln : Nat) : ∀ k p, ln - p ≤ k → p ≤ skpF lt ln k p ∧ (p ≤ ln → skpF lt ln k p ≤ ln) ∧ ¬ (skpF lt ln k p < ln ∧ lt (skpF lt ln k p) = 32)
  | 0, p, h => ⟨Nat.le_refl p, id, fun z => by have := z.1; simp only [skpF] at this; omega⟩
  | k + 1, p, h => by
    unfold skpF
    by_cases c : p < ln ∧ lt p = 32
    · rw [if_pos c]
      have ih := skpF_spec lt ln k (p + 1) (by omega)
      exact ⟨by omega, fun _ => ih.2.1 (by omega), ih.2.2⟩
    · rw [if_neg c]
      exact ⟨Nat.le_refl p, id, c⟩
theorem skp_ge (lt : Nat → Int32) (ln p : Nat) : p ≤ skp lt ln p := (skpF_spec lt ln _ p (Nat.le_refl _)).1
theorem skp_le {lt : Nat → Int32} {ln p : Nat} (h : p ≤ ln) : skp lt ln p ≤ ln := (skpF_spec lt ln _ p (Nat.le_refl _)).2.1 h
theorem skp_stop (lt : Nat → Int32) (ln p : Nat) : ¬ (skp lt ln p < ln ∧ lt (skp lt ln p) = 32) := (skpF_spec lt ln _ p (Nat.le_refl _)).2.2
theorem skp_skp (lt : Nat → Int32) (ln p : Nat) : skp lt ln (skp lt ln p) = skp lt ln p := (skp_no (skp_stop lt ln p)).symm
abbrev isFg (v : Int32) : Prop := 48 ≤ v ∧ v ≤ 57
def nmF (lt : Nat → Int32) (ln s : Nat) : Nat → Nat → Int32 → Nat × Int32
  | 0, p, v => (p, v)
  | k + 1, p, v => if p < ln ∧ isFg (lt p) then nmF lt ln s k (p + 1) (if p - s < 3 then 10 * v + lt p - 48 else v) else (p, v)
def nmW (lt : Nat → Int32) (ln s p : Nat) (v : Int32) : Nat × Int32 := nmF lt ln s (ln - p) p v
theorem nm_go {lt : Nat → Int32} {ln s p : Nat} {v : Int32} (h : p < ln) (h2 : isFg (lt p)) : nmW lt ln s (p + 1) (if p - s < 3 then 10 * v + lt p - 48 else v) = nmW lt ln s p v := by
  unfold nmW
  rw [show ln - p = (ln - (p + 1)) + 1 by omega]
  conv => rhs; unfold nmF
  rw [if_pos (show p < ln ∧ isFg (lt p) from ⟨h, h2⟩)]
theorem nm_no {lt : Nat → Int32} {ln s p : Nat} {v : Int32} (h : ¬ (p < ln ∧ isFg (lt p))) : (p, v) = nmW lt ln s p v := by
  unfold nmW
  cases ln - p with
  | zero => rfl
  | succ k => unfold nmF; rw [if_neg h]
theorem nmF_ge (lt : Nat → Int32) (ln s : Nat) : ∀ k p v, ln - p ≤ k → p ≤ (nmF lt ln s k p v).1 ∧ (p ≤ ln → (nmF lt ln s k p v).1 ≤ ln)
  | 0, p, v, _ => ⟨Nat.le_refl p, id⟩
  | k + 1, p, v, h => by
    unfold nmF
    by_cases c : p < ln ∧ isFg (lt p)
    · rw [if_pos c]
      have ih := nmF_ge lt ln s k (p + 1) (if p - s < 3 then 10 * v + lt p - 48 else v) (by omega)
      exact ⟨by omega, fun _ => ih.2 (by omega)⟩
    · rw [if_neg c]
      exact ⟨Nat.le_refl p, id⟩
def rdNum (lt : Nat → Int32) (ln : Nat) (lo hi : Int32) (p : Nat) : (Nat × Int32) ⊕ Fl :=
  if (nmW lt ln (skp lt ln p) (skp lt ln p) 0).1 = skp lt ln p then .inr (skp lt ln p, 1) else if 3 < (nmW lt ln (skp lt ln p) (skp lt ln p) 0).1 - skp lt ln p ∨ (nmW lt ln (skp lt ln p) (skp lt ln p) 0).2 < lo ∨ hi < (nmW lt ln (skp lt ln p) (skp lt ln p) 0).2 then .inr (skp lt ln p, 2) else .inl (nmW lt ln (skp lt ln p) (skp lt ln p) 0)
theorem rn_1 {lt : Nat → Int32} {ln p : Nat} {lo hi : Int32} {v : Int32} (h : nmW lt ln (skp lt ln p) (skp lt ln p) 0 = (skp lt ln p, v)) : rdNum lt ln lo hi p = .inr (skp lt ln p, 1) := by
  unfold rdNum
  rw [h, if_pos rfl]
theorem rn_2 {lt : Nat → Int32} {ln p e : Nat} {lo hi : Int32} {v : Int32} (h : nmW lt ln (skp lt ln p) (skp lt ln p) 0 = (e, v)) (h1 : ¬ e = skp lt ln p) (h2 : 3 < e - skp lt ln p ∨ v < lo ∨ hi < v) : rdNum lt ln lo hi p = .inr (skp lt ln p, 2) := by
  unfold rdNum
  rw [h, if_neg h1, if_pos h2]
theorem rn_3 {lt : Nat → Int32} {ln p e : Nat} {lo hi : Int32} {v : Int32} (h : nmW lt ln (skp lt ln p) (skp lt ln p) 0 = (e, v)) (h1 : ¬ e = skp lt ln p) (h2 : ¬ (3 < e - skp lt ln p ∨ v < lo ∨ hi < v)) : rdNum lt ln lo hi p = .inl (e, v) := by
  unfold rdNum
  rw [h, if_neg h1, if_neg h2]
theorem rn_inl {lt : Nat → Int32} {ln p : Nat} {lo hi : Int32} {e : Nat × Int32} (h : rdNum lt ln lo hi p = .inl e) : p < e.1 ∧ (p ≤ ln → e.1 ≤ ln) ∧ ¬ e.2 < lo ∧ ¬ hi < e.2 := by
  unfold rdNum at h
  split at h
  · cases h
  · rename_i h1
    split at h
    · cases h
    · rename_i h2
      have he : nmW lt ln (skp lt ln p) (skp lt ln p) 0 = e := Sum.inl.inj h
      rw [he] at h1 h2
      have g := nmF_ge lt ln (skp lt ln p) (ln - skp lt ln p) (skp lt ln p) 0 (Nat.le_refl _)
      have g1 : skp lt ln p ≤ e.1 := by rw [← he]; exact g.1
      have g2 : skp lt ln p ≤ ln → e.1 ≤ ln := by rw [← he]; exact g.2
      have g3 := skp_ge lt ln p
      exact ⟨by omega, fun z => g2 (skp_le z), fun z => h2 (Or.inr (Or.inl z)), fun z => h2 (Or.inr (Or.inr z))⟩
def rdYard (lt : Nat → Int32) (ln p : Nat) : (Nat × Int32 × Int32) ⊕ Fl := Sum.elim (fun e => Sum.elim (fun e2 => .inl (e2.1, e.2, e2.2)) (fun f => .inr f) (rdNum lt ln 0 99 e.1)) (fun f => .inr f) (rdNum lt ln 0 3 p)
def rdEnd (lt : Nat → Int32) (ln p : Nat) : Nat ⊕ Fl := if skp lt ln p < ln ∧ lt (skp lt ln p) = 59 then .inl (skp lt ln p + 1) else .inr (skp lt ln p, 1)
def rdYs (lt : Nat → Int32) (ln : Nat) : Nat → Nat → List (Int32 × Int32) → (Nat × List (Int32 × Int32)) ⊕ Fl
  | 0, p, _ => .inr (p, 0)
  | k + 1, p, ys => Sum.elim (fun e => if ¬ k = 0 ∧ skp lt ln e.1 < ln ∧ lt (skp lt ln e.1) = 44 then rdYs lt ln k (skp lt ln e.1 + 1) (ys ++ [e.2]) else Sum.elim (fun p2 => .inl (p2, ys ++ [e.2])) (fun f => .inr f) (rdEnd lt ln e.1)) (fun f => .inr f) (rdYard lt ln p)
def rdNs (lt : Nat → Int32) (ln : Nat) : Nat → Nat → Nat → (Nat → Int32) → (Nat × (Nat → Int32)) ⊕ Fl
  | 0, _, p, nb => Sum.elim (fun p2 => .inl (p2, nb)) (fun f => .inr f) (rdEnd lt ln p)
  | k + 1, i, p, nb => Sum.elim (fun e => rdNs lt ln k (i + 1) e.1 (upd nb i e.2)) (fun f => .inr f) (rdNum lt ln (tbL.getD i 0) (tbM.getD i 0) p)
def clO (v : Int32) : Int32 := if v = 121 then 0 else if v = 98 then 1 else if v = 103 then 2 else if v = 99 then 3 else -1
def tF (k : Nat) : Nat := if k = 2 then 4 else if k = 3 then 6 else 0
def tE (k : Nat) : Nat := if k = 1 then 4 else if k = 2 then 6 else if k = 3 then 9 else 0
abbrev Ps : Type := Nat × Int32 × List (Int32 × Int32) × (Nat → Int32)
def rdCl (lt : Nat → Int32) (ln p : Nat) (sn : Int32) (ys : List (Int32 × Int32)) (nb : Nat → Int32) : Ps ⊕ Fl :=
  if clO (lt p) = -1 ∨ (sn = 0 ∧ ¬ clO (lt p) = 0) then .inr (p, 1) else if (sn >>> (clO (lt p) &&& 31)) &&& 1 = 1 then .inr (p, 3)
  else if clO (lt p) = 0 then Sum.elim (fun e => .inl (e.1, sn ||| ((1 : Int32) <<< (clO (lt p) &&& 31)), e.2, nb)) (fun f => .inr f) (rdYs lt ln 12 (p + 1) [])
  else Sum.elim (fun e => .inl (e.1, sn ||| ((1 : Int32) <<< (clO (lt p) &&& 31)), ys, e.2)) (fun f => .inr f) (rdNs lt ln (tE (clO (lt p)).toNatClampNeg - tF (clO (lt p)).toNatClampNeg) (tF (clO (lt p)).toNatClampNeg) (p + 1) nb)
def rdAll (lt : Nat → Int32) (ln : Nat) : Nat → Nat → Int32 → List (Int32 × Int32) → (Nat → Int32) → (List (Int32 × Int32) × (Nat → Int32)) ⊕ Fl
  | 0, _, _, ys, nb => .inl (ys, nb)
  | k + 1, p, sn, ys, nb => if p < ln then Sum.elim (fun s => rdAll lt ln k (skp lt ln s.1) s.2.1 s.2.2.1 s.2.2.2) (fun f => .inr f) (rdCl lt ln p sn ys nb) else .inl (ys, nb)
def nb0 : Nat → Int32 := fun k => tbU.getD k 0
def parse (lt : Nat → Int32) (ln : Nat) : (List (Int32 × Int32) × (Nat → Int32)) ⊕ Fl := rdAll lt ln 231 (skp lt ln 0) 0 [] nb0
/-! the places grow -/
theorem re_inl {lt : Nat → Int32} {ln p e : Nat} (h : rdEnd lt ln p = .inl e) : p < e ∧ e ≤ ln ∧ e = skp lt ln p + 1 := by
  unfold rdEnd at h
  split at h
  · rename_i c
    have g := skp_ge lt ln p
    have e1 : skp lt ln p + 1 = e := Sum.inl.inj h
    omega
  · cases h
theorem ry_inl {lt : Nat → Int32} {ln p : Nat} {e : Nat × Int32 × Int32} (h : rdYard lt ln p = .inl e) : p < e.1 ∧ (p ≤ ln → e.1 ≤ ln) ∧ iceOk e.2.2 ∧ 0 ≤ e.2.1.toInt ∧ e.2.1.toInt ≤ 3 := by
  unfold rdYard at h
  cases h1 : rdNum lt ln 0 3 p with
  | inr f => rw [h1] at h; cases h
  | inl e1 =>
    rw [h1] at h
    change Sum.elim (fun e2 : Nat × Int32 => Sum.inl (e2.1, e1.2, e2.2)) (fun f => Sum.inr f) (rdNum lt ln 0 99 e1.1) = _ at h
    cases h2 : rdNum lt ln 0 99 e1.1 with
    | inr f => rw [h2] at h; cases h
    | inl e2 =>
      rw [h2] at h
      cases h
      have a := rn_inl h1
      have b := rn_inl h2
      rw [fa_lt, fa_lt, show (0 : Int32).toInt = 0 from rfl, show (3 : Int32).toInt = 3 from rfl] at a
      rw [fa_lt, fa_lt, show (0 : Int32).toInt = 0 from rfl, show (99 : Int32).toInt = 99 from rfl] at b
      exact ⟨by show p < e2.1; omega, fun z => b.2.1 (a.2.1 z), ⟨by show 0 ≤ e2.2.toInt; omega, by show e2.2.toInt ≤ 300; omega⟩, by show 0 ≤ e1.2.toInt; omega, by show e1.2.toInt ≤ 3; omega⟩
def ysOk (ys : List (Int32 × Int32)) : Prop := ∀ e ∈ ys, iceOk e.2 ∧ 0 ≤ e.1.toInt ∧ e.1.toInt ≤ 3
theorem ysOk.push {ys : List (Int32 × Int32)} {e : Int32 × Int32} (h : ysOk ys) (he : iceOk e.2 ∧ 0 ≤ e.1.toInt ∧ e.1.toInt ≤ 3) : ysOk (ys ++ [e]) := fun z hz => by
  rcases List.mem_append.mp hz with h1 | h1
  · exact h z h1
  · rw [List.mem_singleton.mp h1]; exact he
theorem rys_inl {lt : Nat → Int32} {ln : Nat} : ∀ (k p : Nat) (ys : List (Int32 × Int32)) (e : Nat × List (Int32 × Int32)), ysOk ys → rdYs lt ln k p ys = .inl e → p < e.1 ∧ (p ≤ ln → e.1 ≤ ln) ∧ ysOk e.2 ∧ e.2.length ≤ ys.length + k
  | 0, p, ys, e, _, h => by unfold rdYs at h; cases h
  | k + 1, p, ys, e, hy, h => by
    unfold rdYs at h
    cases h1 : rdYard lt ln p with
    | inr f => rw [h1] at h; cases h
    | inl e1 =>
      rw [h1] at h
      have a := ry_inl h1
      have hy2 := hy.push (e := e1.2) a.2.2
      change (if ¬ k = 0 ∧ skp lt ln e1.1 < ln ∧ lt (skp lt ln e1.1) = 44 then rdYs lt ln k (skp lt ln e1.1 + 1) (ys ++ [e1.2]) else Sum.elim (fun p2 => .inl (p2, ys ++ [e1.2])) (fun f => .inr f) (rdEnd lt ln e1.1)) = _ at h
      split at h
      · rename_i c
        have ih := rys_inl k _ _ e hy2 h
        have g := skp_ge lt ln e1.1
        rw [List.length_append, List.length_singleton] at ih
        exact ⟨by omega, fun z => ih.2.1 (by omega), ih.2.2.1, by omega⟩
      · cases h2 : rdEnd lt ln e1.1 with
        | inr f => rw [h2] at h; cases h
        | inl p2 =>
          rw [h2] at h
          cases h
          have b := re_inl h2
          refine ⟨by show p < p2; omega, fun _ => b.2.1, hy2, ?_⟩
          show (ys ++ [e1.2]).length ≤ _
          rw [List.length_append, List.length_singleton]
          omega
def nbOk (nb : Nat → Int32) : Prop := ∀ i, i < 9 → ¬ nb i < tbL.getD i 0 ∧ ¬ tbM.getD i 0 < nb i
theorem rns_inl {lt : Nat → Int32} {ln : Nat} : ∀ (k i p : Nat) (nb : Nat → Int32) (e : Nat × (Nat → Int32)), i + k ≤ 9 → nbOk nb → rdNs lt ln k i p nb = .inl e → p < e.1 ∧ (p ≤ ln → e.1 ≤ ln) ∧ nbOk e.2
  | 0, i, p, nb, e, _, hb, h => by
    unfold rdNs at h
    cases h2 : rdEnd lt ln p with
    | inr f => rw [h2] at h; cases h
    | inl p2 =>
      rw [h2] at h
      cases h
      have b := re_inl h2
      exact ⟨b.1, fun _ => b.2.1, hb⟩
  | k + 1, i, p, nb, e, hi, hb, h => by
    unfold rdNs at h
    cases h1 : rdNum lt ln (tbL.getD i 0) (tbM.getD i 0) p with
    | inr f => rw [h1] at h; cases h
    | inl e1 =>
      rw [h1] at h
      have a := rn_inl h1
      have ih := rns_inl k (i + 1) e1.1 (upd nb i e1.2) e (by omega) (fun j hj => by
        by_cases c : j = i
        · subst c; rw [pk_us']; exact a.2.2
        · rw [pk_un' _ _ c]; exact hb j hj) h
      exact ⟨by omega, fun z => ih.2.1 (a.2.1 z), ih.2.2⟩
theorem nm_go2 {lt : Nat → Int32} {ln s p : Nat} {v : Int32} (h : p < ln) (h2 : isFg (lt p)) : nmW lt ln s (p + 1) (if 3 ≤ p - s then v else 10 * v + lt p - 48) = nmW lt ln s p v := by
  rw [← nm_go h h2]
  by_cases c : 3 ≤ p - s
  · rw [if_pos c, if_neg (by omega)]
  · rw [if_neg c, if_pos (by omega)]
/-! what the readers tell -/
def bad {α : Type} (o : α ⊕ Fl) (fn2 fp2 : Int32) : Prop := ∃ w k, o = .inr (w, k) ∧ fn2 = k ∧ fp2 = nI w
def rnP (lt : Nat → Int32) (ln : Nat) (lo hi : Int32) (p pl2 : Nat) (r fn fp fn2 fp2 : Int32) : Prop := (rdNum lt ln lo hi p = .inl (pl2, r) ∧ fn2 = fn ∧ fp2 = fp ∧ ¬ r = -1) ∨ (bad (rdNum lt ln lo hi p) fn2 fp2 ∧ r = -1)
theorem rnP.ok {lt : Nat → Int32} {ln : Nat} {lo hi : Int32} {p pl2 : Nat} {r fn fp fn2 fp2 : Int32} (h : rnP lt ln lo hi p pl2 r fn fp fn2 fp2) (c : ¬ r = -1) : rdNum lt ln lo hi p = .inl (pl2, r) ∧ fn2 = fn ∧ fp2 = fp := by
  rcases h with h | h
  · exact ⟨h.1, h.2.1, h.2.2.1⟩
  · exact absurd h.2 c
theorem rnP.no {lt : Nat → Int32} {ln : Nat} {lo hi : Int32} {p pl2 : Nat} {r fn fp fn2 fp2 : Int32} (h : rnP lt ln lo hi p pl2 r fn fp fn2 fp2) (c : r = -1) : bad (rdNum lt ln lo hi p) fn2 fp2 := by
  rcases h with h | h
  · exact absurd c h.2.2.2
  · exact h.1
theorem neg1 {v lo : Int32} (h : ¬ v < lo) (hl : 0 ≤ lo.toInt) : ¬ v = -1 := fun e => h (by rw [fa_lt, e, show (-1 : Int32).toInt = -1 from rfl]; omega)
def reP (lt : Nat → Int32) (ln p pl2 : Nat) (r fn fp fn2 fp2 : Int32) : Prop := (rdEnd lt ln p = .inl pl2 ∧ r = 1 ∧ fn2 = fn ∧ fp2 = fp) ∨ (bad (rdEnd lt ln p) fn2 fp2 ∧ r = 0)
def ryP (lt : Nat → Int32) (ln p y pl2 : Nat) (yc2 : Int32) (yk yi yk2 yi2 : Nat → Int32) (r fn fp fn2 fp2 : Int32) : Prop := (∃ a b, rdYard lt ln p = .inl (pl2, a, b) ∧ r = 1 ∧ yc2 = nI (y + 1) ∧ yk2 = upd yk y a ∧ yi2 = upd yi y b ∧ fn2 = fn ∧ fp2 = fp) ∨ (bad (rdYard lt ln p) fn2 fp2 ∧ r = 0)
def ysR (ys : List (Int32 × Int32)) (yk yi : Nat → Int32) : Prop := ∀ (j : Nat) (e : Int32 × Int32), ys[j]? = some e → yk j = e.1 ∧ yi j = e.2
def rysP (lt : Nat → Int32) (ln p pl2 : Nat) (yc2 : Int32) (yk2 yi2 : Nat → Int32) (r fn fp fn2 fp2 : Int32) : Prop := (∃ ys, rdYs lt ln 12 p [] = .inl (pl2, ys) ∧ r = 1 ∧ yc2 = nI ys.length ∧ ysR ys yk2 yi2 ∧ fn2 = fn ∧ fp2 = fp) ∨ (bad (rdYs lt ln 12 p []) fn2 fp2 ∧ r = 0)
def nbR (nb nbp : Nat → Int32) : Prop := ∀ j, j < 9 → nb j = nbp j
def rnsP (lt : Nat → Int32) (ln k p pl2 : Nat) (nbp nb2 : Nat → Int32) (r fn fp fn2 fp2 : Int32) : Prop := (∃ np2, rdNs lt ln (tE k - tF k) (tF k) p nbp = .inl (pl2, np2) ∧ r = 1 ∧ nbR nb2 np2 ∧ fn2 = fn ∧ fp2 = fp) ∨ (bad (rdNs lt ln (tE k - tF k) (tF k) p nbp) fn2 fp2 ∧ r = 0)
def rcP (lt : Nat → Int32) (ln p pl2 : Nat) (sn sn2 : Int32) (ys : List (Int32 × Int32)) (nbp : Nat → Int32) (yc2 : Int32) (yk2 yi2 nb2 : Nat → Int32) (r fn fp fn2 fp2 : Int32) : Prop := (∃ ys2 np2, rdCl lt ln p sn ys nbp = .inl (pl2, sn2, ys2, np2) ∧ r = 1 ∧ yc2 = nI ys2.length ∧ ysR ys2 yk2 yi2 ∧ nbR nb2 np2 ∧ fn2 = fn ∧ fp2 = fp) ∨ (bad (rdCl lt ln p sn ys nbp) fn2 fp2 ∧ r = 0)
def prP (lt : Nat → Int32) (ln : Nat) (yc2 : Int32) (yk2 yi2 nb2 : Nat → Int32) (r fn2 fp2 : Int32) : Prop := (∃ ys np, parse lt ln = .inl (ys, np) ∧ r = 1 ∧ yc2 = nI ys.length ∧ ysR ys yk2 yi2 ∧ nbR nb2 np ∧ fp2 = -1) ∨ (bad (parse lt ln) fn2 fp2 ∧ r = 0)
theorem z01 {r : Int32} (h : r = 1 ∨ r = 0) : narrow .boolean (.int r) = .int r := by rcases h with rfl | rfl <;> rfl
/-! one step of each -/
theorem ry_bad1 {lt : Nat → Int32} {ln p : Nat} {fn2 fp2 : Int32} (h : bad (rdNum lt ln 0 3 p) fn2 fp2) : bad (rdYard lt ln p) fn2 fp2 := by
  obtain ⟨w, k, e, h2⟩ := h
  exact ⟨w, k, by unfold rdYard; rw [e]; rfl, h2⟩
theorem ry_bad2 {lt : Nat → Int32} {ln p p1 : Nat} {a fn2 fp2 : Int32} (h1 : rdNum lt ln 0 3 p = .inl (p1, a)) (h : bad (rdNum lt ln 0 99 p1) fn2 fp2) : bad (rdYard lt ln p) fn2 fp2 := by
  obtain ⟨w, k, e, h2⟩ := h
  exact ⟨w, k, by unfold rdYard; rw [h1]; show Sum.elim _ _ (rdNum lt ln 0 99 p1) = _; rw [e]; rfl, h2⟩
theorem ry_good {lt : Nat → Int32} {ln p p1 p2 : Nat} {a b : Int32} (h1 : rdNum lt ln 0 3 p = .inl (p1, a)) (h2 : rdNum lt ln 0 99 p1 = .inl (p2, b)) : rdYard lt ln p = .inl (p2, a, b) := by
  unfold rdYard; rw [h1]; show Sum.elim _ _ (rdNum lt ln 0 99 p1) = _; rw [h2]; rfl
theorem rys_bad {lt : Nat → Int32} {ln k p : Nat} {ys : List (Int32 × Int32)} {fn2 fp2 : Int32} (h : bad (rdYard lt ln p) fn2 fp2) (hk : 0 < k) : bad (rdYs lt ln k p ys) fn2 fp2 := by
  obtain ⟨w, z, e, h2⟩ := h
  obtain ⟨j, rfl⟩ : ∃ j, k = j + 1 := ⟨k - 1, by omega⟩
  exact ⟨w, z, by unfold rdYs; rw [e]; rfl, h2⟩
theorem rys_more {lt : Nat → Int32} {ln k p p1 : Nat} {ys : List (Int32 × Int32)} {a b : Int32} (h : rdYard lt ln p = .inl (p1, a, b)) (hk : 0 < k) (c : 1 < k ∧ skp lt ln p1 < ln ∧ lt (skp lt ln p1) = 44) : rdYs lt ln k p ys = rdYs lt ln (k - 1) (skp lt ln p1 + 1) (ys ++ [(a, b)]) := by
  obtain ⟨j, rfl⟩ : ∃ j, k = j + 1 := ⟨k - 1, by omega⟩
  conv => lhs; unfold rdYs
  rw [h]
  show (if ¬ j = 0 ∧ skp lt ln p1 < ln ∧ lt (skp lt ln p1) = 44 then _ else _) = _
  rw [if_pos ⟨by omega, c.2⟩]
  rfl
theorem rys_end {lt : Nat → Int32} {ln k p p1 : Nat} {ys : List (Int32 × Int32)} {a b : Int32} (h : rdYard lt ln p = .inl (p1, a, b)) (hk : 0 < k) (c : ¬ (1 < k ∧ skp lt ln p1 < ln ∧ lt (skp lt ln p1) = 44)) : rdYs lt ln k p ys = Sum.elim (fun p2 => .inl (p2, ys ++ [(a, b)])) (fun f => .inr f) (rdEnd lt ln p1) := by
  obtain ⟨j, rfl⟩ : ∃ j, k = j + 1 := ⟨k - 1, by omega⟩
  conv => lhs; unfold rdYs
  rw [h]
  show (if ¬ j = 0 ∧ skp lt ln p1 < ln ∧ lt (skp lt ln p1) = 44 then _ else _) = _
  rw [if_neg (fun z => c ⟨by omega, z.2⟩)]
theorem rdEnd_skp (lt : Nat → Int32) (ln p : Nat) : rdEnd lt ln (skp lt ln p) = rdEnd lt ln p := by unfold rdEnd; rw [skp_skp]
theorem ysR.push {ys : List (Int32 × Int32)} {yk yi : Nat → Int32} {y : Nat} {a b : Int32} (h : ysR ys yk yi) (hl : ys.length = y) : ysR (ys ++ [(a, b)]) (upd yk y a) (upd yi y b) := fun j e he => by
  by_cases c : j = y
  · subst c
    rw [pk_us', pk_us']
    rw [← hl, List.getElem?_append_right (Nat.le_refl _), Nat.sub_self] at he
    cases he
    exact ⟨rfl, rfl⟩
  · rw [pk_un' _ _ c, pk_un' _ _ c]
    have hj : j < (ys ++ [(a, b)]).length := (List.getElem?_eq_some_iff.mp he).1
    rw [List.length_append, List.length_singleton] at hj
    rw [List.getElem?_append_left (by omega)] at he
    exact h j e he
theorem rys_fin {lt : Nat → Int32} {ln k p p0 p1 pl2 : Nat} {ys : List (Int32 × Int32)} {a b r fn fp fn2 fp2 yc2 : Int32} {yk2 yi2 : Nat → Int32} (hR : rdYs lt ln k p ys = rdYs lt ln 12 p0 []) (h : rdYard lt ln p = .inl (p1, a, b)) (hk : 0 < k) (c : ¬ (1 < k ∧ skp lt ln p1 < ln ∧ lt (skp lt ln p1) = 44)) (hy : yc2 = nI (ys ++ [(a, b)]).length) (hr : ysR (ys ++ [(a, b)]) yk2 yi2) (he : reP lt ln (skp lt ln p1) pl2 r fn fp fn2 fp2) : rysP lt ln p0 pl2 yc2 yk2 yi2 r fn fp fn2 fp2 := by
  unfold reP at he
  rw [rdEnd_skp] at he
  have e := rys_end (ys := ys) h hk c
  rw [hR] at e
  rcases he with ⟨e1, e2, e3, e4⟩ | ⟨⟨w, z, e1, e2⟩, e3⟩
  · rw [e1] at e
    exact Or.inl ⟨_, e, e2, hy, hr, e3, e4⟩
  · rw [e1] at e
    exact Or.inr ⟨⟨w, z, e, e2⟩, e3⟩
theorem bad.eq {α : Type} {o o2 : α ⊕ Fl} {fn2 fp2 : Int32} (h : bad o fn2 fp2) (e : o = o2) : bad o2 fn2 fp2 := e ▸ h
theorem clO_cases (v : Int32) : v = 98 ∨ v = 99 ∨ v = 103 ∨ v = 121 ∨ (¬ v = 98 ∧ ¬ v = 99 ∧ ¬ v = 103 ∧ ¬ v = 121) := by
  by_cases h1 : v = 98
  · exact Or.inl h1
  · by_cases h2 : v = 99
    · exact Or.inr (Or.inl h2)
    · by_cases h3 : v = 103
      · exact Or.inr (Or.inr (Or.inl h3))
      · by_cases h4 : v = 121
        · exact Or.inr (Or.inr (Or.inr (Or.inl h4)))
        · exact Or.inr (Or.inr (Or.inr (Or.inr ⟨h1, h2, h3, h4⟩)))
