/-! what a yard's ice would be, of another kind -/
def ifJ (c kn : Int32) (k i : Nat) (z : Yq) (g th : Int32) : Prop := iceOk th ∧ (k = 0 → th = qI z) ∧ (0 < k → th = qI (itQ (nfQ c) i (shutQ (setK kn z))) ∧ g = qK (shutQ (setK kn z)))
theorem if_a {c kn : Int32} {k : Nat} {z : Yq} (h : okQ z) (hk : k = 0) {th : Int32} (e : th = qI z) : ifJ c kn k 0 z kn th := ⟨by rw [e]; exact h.1, fun _ => e, fun h2 => absurd h2 (by omega)⟩
theorem if_b {c kn : Int32} {k : Nat} {z : Yq} (h : okQ z) (ho : qO z = false) {th : Int32} (e : th = qI z) : ifJ c kn k 0 z kn th := by
  have e2 : shutQ (setK kn z) = setK kn z := by unfold shutQ; rw [if_neg (by show ¬ qO z = true; rw [ho]; decide)]
  exact ⟨by rw [e]; exact h.1, fun _ => e, fun _ => by rw [e2]; exact ⟨e, rfl⟩⟩
theorem if_c {c kn : Int32} {k : Nat} {z : Yq} (h : okQ z) (hk : 0 < k) (ho : qO z = true) {th : Int32} (e : th = qB z) : ifJ c kn k 0 z (pShut kn) (th / 3) := by
  have e2 : shutQ (setK kn z) = (qB z / 3, pShut kn, 0, false) := by unfold shutQ; rw [if_pos (by show qO z = true; exact ho)]; rfl
  exact ⟨by rw [e]; exact ice_third h.2.2.1, fun h2 => absurd h2 (by omega), fun _ => by rw [e2, e]; exact ⟨rfl, rfl⟩⟩
theorem if_step {c kn : Int32} {k i : Nat} {z : Yq} {g th : Int32} (h : ifJ c kn k i z g th) (hc : 0 ≤ c.toInt ∧ c.toInt ≤ 30) (hi : i < k) : ifJ c kn k (i + 1) z g (pThick g th c) := by
  obtain ⟨h1, -, h3⟩ := h
  obtain ⟨h4, h5⟩ := h3 (by omega)
  refine ⟨thick_ok h1 hc, fun e => absurd e (by omega), fun _ => ⟨?_, h5⟩⟩
  rw [h4, h5]
  show _ = pThick (qK (itQ (nfQ c) i (shutQ (setK kn z)))) (qI (itQ (nfQ c) i (shutQ (setK kn z)))) c
  have e := itQ_kind c (shutQ (setK kn z)) i
  rw [show qK (itQ (nfQ c) i (shutQ (setK kn z))) = qK (shutQ (setK kn z)) from congrArg Prod.fst e]
theorem if_end {c kn : Int32} {k i : Nat} {z : Yq} {g th : Int32} (h : ifJ c kn k i z g th) (hz : okQ (setK kn z)) (hi : i = k) : th = qI (itQ (nightQ c) k (setK kn z)) := by
  subst hi
  obtain ⟨-, h2, h3⟩ := h
  cases i with
  | zero => exact h2 rfl
  | succ j => rw [itQ_night hz]; exact (h3 (by omega)).1
/-! draws -/
theorem wb_of (x : Int64) : ∃ n, n < 2 ^ 64 ∧ x = lN n := ⟨x.toBitVec.toNat, x.toBitVec.isLt, Int64.toBitVec_inj.mp (by show _ = BitVec.ofNat 64 _; simp)⟩
theorem drawS_nat (sd : Int32) : ∃ k, k < 2 ^ 31 ∧ drawS sd = nI k := by
  obtain ⟨n, -, e⟩ := wb_of (sd.toInt64 * 1103515245 + 12345)
  refine ⟨n % 2 ^ 31, Nat.mod_lt _ (by decide), ?_⟩
  unfold drawS
  rw [e, show (2147483647 : Int64) = lN (2 ^ 31 - 1) from rfl, fb_maskL, lN_i]
theorem drawV_nat (sd : Int32) {d : Nat} (h0 : 0 < d) (hd : d < 2 ^ 31) : ∃ k, k < d ∧ drawV sd (nI d) = nI k := by
  obtain ⟨k, hk, e⟩ := drawS_nat sd
  refine ⟨k / 65536 % d, Nat.mod_lt _ h0, ?_⟩
  unfold drawV
  rw [e, show (65536 : Int32) = nI 65536 from rfl, pk_div hk (by decide) (by decide), pk_rem (Nat.lt_of_le_of_lt (Nat.div_le_self _ _) hk) h0 hd]
theorem draw40 (sd : Int32) : 0 ≤ (drawV sd 40).toInt ∧ (drawV sd 40).toInt ≤ 60 := by
  obtain ⟨k, hk, e⟩ := drawV_nat sd (d := 40) (by decide) (by decide)
  rw [show (40 : Int32) = nI 40 from rfl, e, nI_toInt (by omega)]
  omega
theorem draw31 (sd : Int32) : 0 ≤ (drawV sd 31).toInt ∧ (drawV sd 31).toInt ≤ 30 := by
  obtain ⟨k, hk, e⟩ := drawV_nat sd (d := 31) (by decide) (by decide)
  rw [show (31 : Int32) = nI 31 from rfl, e, nI_toInt (by omega)]
  omega
/-! the crew -/
def rng (x : Int32) (lo hi : Int) : Prop := lo ≤ x.toInt ∧ x.toInt ≤ hi
def tlOk (nb : Nat → Int32) : Prop := rng (nb 0) 1 12 ∧ rng (nb 1) 0 20 ∧ rng (nb 2) 2 9 ∧ rng (nb 3) 0 20 ∧ rng (nb 4) 1 999 ∧ rng (nb 5) 0 99 ∧ rng (nb 6) 0 20 ∧ rng (nb 7) 0 99 ∧ rng (nb 8) 0 999
def pMen (m l : Int32) : Int32 := if 0 < m - l then m - l else 0
def pAp (b w : Int32) : Int32 := if 0 ≤ b - w then b - w else 0 - (b - w)
def pSw (m w l b : Int32) : Int32 := if pAp b w = 0 then 3 * pMen m l else if pAp b w = 1 then pMen m l else pMen m l / 3
def pSway (m w l b : Int32) : Int32 := if 0 < pSw m w l b - 2 * l then pSw m w l b - 2 * l else 0
theorem men_rng {m l : Int32} (hm : rng m 0 20) (hl : rng l 0 20) : rng (pMen m l) 0 20 := by
  unfold rng at *
  have e : (m - l).toInt = m.toInt - l.toInt := fb_subI (by omega) (by omega)
  unfold pMen
  split
  · rename_i h
    rw [fa_lt, e, show (0 : Int32).toInt = 0 from rfl] at h
    rw [e]; omega
  · rw [show (0 : Int32).toInt = 0 from rfl]; omega
theorem sw_rng {m w l b : Int32} (hm : rng m 0 20) (hl : rng l 0 20) : rng (pSw m w l b) 0 60 := by
  have h := men_rng hm hl
  unfold pSw
  generalize pMen m l = x at h ⊢
  unfold rng at *
  have e3 : (3 : Int32).toInt = 3 := rfl
  split
  · rw [fb_mulI (by rw [e3]; omega) (by rw [e3]; omega), e3]; omega
  · split
    · omega
    · rw [div_I (by omega) (by decide), e3]; omega
theorem sway_rng {m w l b : Int32} (hm : rng m 0 20) (hl : rng l 0 20) : rng (pSway m w l b) 0 60 := by
  have h := sw_rng (w := w) (b := b) hm hl
  unfold pSway
  generalize pSw m w l b = x at h ⊢
  unfold rng at *
  have e2 : (2 : Int32).toInt = 2 := rfl
  have em : (2 * l).toInt = 2 * l.toInt := by rw [fb_mulI (by rw [e2]; omega) (by rw [e2]; omega), e2]
  have e : (x - 2 * l).toInt = x.toInt - 2 * l.toInt := by rw [fb_subI (by rw [em]; omega) (by rw [em]; omega), em]
  split
  · rename_i h2
    rw [fa_lt, e, show (0 : Int32).toInt = 0 from rfl] at h2
    rw [e]; omega
  · rw [show (0 : Int32).toInt = 0 from rfl]; omega
def pForce (nb : Nat → Int32) (b : Int32) : Int32 := 4 * nb 0 + pSway (nb 1) (nb 2) (nb 3) b
theorem force_of {h x : Int32} (hh : rng h 1 12) (hx : rng x 0 60) : rng (4 * h + x) 4 108 := by
  unfold rng at *
  have e4 : (4 : Int32).toInt = 4 := rfl
  have em : (4 * h).toInt = 4 * h.toInt := by rw [fb_mulI (by rw [e4]; omega) (by rw [e4]; omega), e4]
  rw [fb_addI (by rw [em]; omega) (by rw [em]; omega), em]; omega
theorem force_rng {nb : Nat → Int32} (h : tlOk nb) (b : Int32) : rng (pForce nb b) 4 108 := force_of h.1 (sway_rng h.2.1 h.2.2.2.1)
/-! a day out -/
def pTake (k i f x : Int32) : Int32 := if i = 0 then 1 else if k = 2 then (if f < i then 2 * (1 + 10 * i / f) else 1 + 10 * i / f) + x else (if f < i then 2 * (1 + 10 * i / f) else 1 + 10 * i / f)
def pGo (k i f x : Int32) : Int32 := if 2 * f < i then -1 else pTake k i f x
def fOk (f x : Int32) : Prop := rng f 4 108 ∧ rng x 0 99
theorem two_f {f : Int32} (h : rng f 4 108) : (2 * f).toInt = 2 * f.toInt := by
  have e2 : (2 : Int32).toInt = 2 := rfl
  unfold rng at h
  rw [fb_mulI (by rw [e2]; omega) (by rw [e2]; omega), e2]
theorem take_rng {k i f x : Int32} (hi : iceOk i) (hf : fOk f x) : rng (pTake k i f x) 1 2000 := by
  obtain ⟨h1, h2⟩ := hf
  unfold rng iceOk at *
  have e10 : (10 : Int32).toInt = 10 := rfl
  have e1 : (1 : Int32).toInt = 1 := rfl
  have e2 : (2 : Int32).toInt = 2 := rfl
  have em : (10 * i).toInt = 10 * i.toInt := by rw [fb_mulI (by rw [e10]; omega) (by rw [e10]; omega), e10]
  have ed : (10 * i / f).toInt = 10 * i.toInt / f.toInt := by rw [div_I (by rw [em]; omega) (by omega), em]
  have hd : 0 ≤ 10 * i.toInt / f.toInt ∧ 10 * i.toInt / f.toInt ≤ 750 := by
    refine ⟨Int.ediv_nonneg (by omega) (by omega), ?_⟩
    have h3 : 10 * i.toInt / f.toInt ≤ 10 * i.toInt / 4 := by
      apply Int.le_ediv_of_mul_le (by decide)
      have h4 : 10 * i.toInt / f.toInt * f.toInt ≤ 10 * i.toInt := Int.ediv_mul_le _ (by omega)
      have h5 : 0 ≤ 10 * i.toInt / f.toInt := Int.ediv_nonneg (by omega) (by omega)
      have h6 : 10 * i.toInt / f.toInt * 4 ≤ 10 * i.toInt / f.toInt * f.toInt := Int.mul_le_mul_of_nonneg_left (by omega) h5
      omega
    omega
  have ea : (1 + 10 * i / f).toInt = 1 + 10 * i.toInt / f.toInt := by rw [fb_addI (by rw [e1, ed]; omega) (by rw [e1, ed]; omega), e1, ed]
  have eb : (2 * (1 + 10 * i / f)).toInt = 2 * (1 + 10 * i.toInt / f.toInt) := by rw [fb_mulI (by rw [e2, ea]; omega) (by rw [e2, ea]; omega), e2, ea]
  have hc : 1 ≤ (if f < i then 2 * (1 + 10 * i / f) else 1 + 10 * i / f).toInt ∧ (if f < i then 2 * (1 + 10 * i / f) else 1 + 10 * i / f).toInt ≤ 1502 := by
    split
    · rw [eb]; omega
    · rw [ea]; omega
  unfold pTake
  split
  · rw [e1]; omega
  · split
    · rw [fb_addI (by omega) (by omega)]; omega
    · omega
theorem take_pos {k i f x : Int32} (hi : iceOk i) (hf : fOk f x) : ¬ pTake k i f x = -1 := by
  have h := (take_rng (k := k) hi hf).1
  intro e
  rw [e, show (-1 : Int32).toInt = -1 from rfl] at h
  omega
abbrev tkQ (f x : Int32) (z : Yq) : Int32 := pTake (qK z) (qI z) f x
def cumQ (f x : Int32) (q : Nat → Yq) : Nat → Int32
  | 0 => 0
  | y + 1 => cumQ f x q y + tkQ f x (q y)
abbrev okGo (f x t : Int32) (q : Nat → Yq) (y : Nat) : Prop := ¬ 2 * f < qI (q y) ∧ ¬ t < cumQ f x q y + tkQ f x (q y)
def bhQ (f x t : Int32) (q : Nat → Yq) : Nat → Nat
  | 0 => 0
  | n + 1 => if bhQ f x t q n = n ∧ okGo f x t q n then n + 1 else bhQ f x t q n
def fbQ (q : Nat → Yq) : Nat → Int32
  | 0 => -1
  | y + 1 => if fbQ q y = -1 ∧ 0 < qI (q y) then nI y else fbQ q y
theorem bh_le (f x t : Int32) (q : Nat → Yq) : ∀ n, bhQ f x t q n ≤ n
  | 0 => Nat.le_refl 0
  | n + 1 => by
    have h := bh_le f x t q n
    unfold bhQ
    split <;> omega
theorem bh_go {f x t : Int32} {q : Nat → Yq} {i : Nat} (h : bhQ f x t q i = i) (ho : okGo f x t q i) : bhQ f x t q (i + 1) = i + 1 := by
  unfold bhQ
  rw [if_pos ⟨h, ho⟩]
theorem bh_stop {f x t : Int32} {q : Nat → Yq} {i : Nat} (h : bhQ f x t q i = i) (ho : ¬ okGo f x t q i) : ∀ k, bhQ f x t q (i + 1 + k) = i
  | 0 => by show bhQ f x t q (i + 1) = i; unfold bhQ; rw [if_neg fun z => ho z.2]; exact h
  | k + 1 => by
    have e := bh_stop h ho k
    show bhQ f x t q ((i + 1 + k) + 1) = i
    unfold bhQ
    rw [e, if_neg fun z => absurd z.1 (by omega)]
theorem bh_stop' {f x t : Int32} {q : Nat → Yq} {i n : Nat} (h : bhQ f x t q i = i) (ho : ¬ okGo f x t q i) (hn : i < n) : i = bhQ f x t q n := by
  have e := bh_stop h ho (n - (i + 1))
  rw [show i + 1 + (n - (i + 1)) = n by omega] at e
  exact e.symm
theorem go_mi {f x : Int32} {q : Nat → Yq} {i : Nat} (h : ¬ pGo (qK (q i)) (qI (q i)) f x = -1) : cumQ f x q i + pGo (qK (q i)) (qI (q i)) f x = cumQ f x q (i + 1) := by
  unfold pGo at h ⊢
  split
  · rename_i h2
    rw [if_pos h2] at h
    exact absurd rfl h
  · rfl
theorem go_st {f x t : Int32} {q : Nat → Yq} {i : Nat} (hq : okQ (q i)) (hf : fOk f x) (h : pGo (qK (q i)) (qI (q i)) f x = -1) : ¬ okGo f x t q i := by
  intro ho
  unfold pGo at h
  rw [if_neg ho.1] at h
  exact take_pos hq.1 hf h
theorem go_late {f x t : Int32} {q : Nat → Yq} {i : Nat} (h : ¬ pGo (qK (q i)) (qI (q i)) f x = -1) (h2 : ¬ cumQ f x q i + pGo (qK (q i)) (qI (q i)) f x ≤ t) : ¬ okGo f x t q i := by
  intro ho
  rw [go_mi h] at h2
  have h3 := ho.2
  change ¬ t < cumQ f x q (i + 1) at h3
  rw [fa_lt] at h3
  rw [fa_le] at h2
  omega
theorem go_on {f x t : Int32} {q : Nat → Yq} {i : Nat} (h : ¬ pGo (qK (q i)) (qI (q i)) f x = -1) (h2 : cumQ f x q i + pGo (qK (q i)) (qI (q i)) f x ≤ t) : okGo f x t q i := by
  refine ⟨fun h3 => ?_, ?_⟩
  · unfold pGo at h
    rw [if_pos h3] at h
    exact h rfl
  · rw [go_mi h] at h2
    show ¬ t < cumQ f x q (i + 1)
    rw [fa_lt]
    rw [fa_le] at h2
    omega
theorem fb_a {q : Nat → Yq} {i : Nat} (h : ¬ fbQ q i = -1) : fbQ q i = fbQ q (i + 1) := by
  show _ = (if fbQ q i = -1 ∧ 0 < qI (q i) then nI i else fbQ q i)
  rw [if_neg fun z => h z.1]
theorem fb_b {q : Nat → Yq} {i : Nat} {v : Int32} (e : v = qI (q i)) (h : v ≤ 0) : fbQ q i = fbQ q (i + 1) := by
  show _ = (if fbQ q i = -1 ∧ 0 < qI (q i) then nI i else fbQ q i)
  rw [if_neg fun z => by rw [← e, fa_lt] at z; rw [fa_le] at h; omega]
theorem fb_c {q : Nat → Yq} {i : Nat} {v : Int32} (e : v = qI (q i)) (h0 : fbQ q i = -1) (h : ¬ v ≤ 0) : nI i = fbQ q (i + 1) := by
  show _ = (if fbQ q i = -1 ∧ 0 < qI (q i) then nI i else fbQ q i)
  rw [if_pos ⟨h0, by rw [← e, fa_lt]; rw [fa_le] at h; omega⟩]
theorem fb_is (q : Nat → Yq) : ∀ b, fbQ q b = -1 ∨ ∃ j, j < b ∧ fbQ q b = nI j
  | 0 => Or.inl rfl
  | b + 1 => by
    have h := fb_is q b
    show (if fbQ q b = -1 ∧ 0 < qI (q b) then nI b else fbQ q b) = -1 ∨ ∃ j, j < b + 1 ∧ (if fbQ q b = -1 ∧ 0 < qI (q b) then nI b else fbQ q b) = nI j
    split
    · exact Or.inr ⟨b, Nat.lt_succ_self b, rfl⟩
    · rcases h with h | ⟨j, hj, e⟩
      · exact Or.inl h
      · exact Or.inr ⟨j, by omega, e⟩
theorem ba_step {f x : Int32} {q : Nat → Yq} {i : Nat} {ba : Nat → Int32} (h : ∀ k, k < i → ba k = cumQ f x q (k + 1)) : ∀ k, k < i + 1 → upd ba i (cumQ f x q (i + 1)) k = cumQ f x q (k + 1) := fun k hk => by
  by_cases e : k = i
  · subst e; exact pk_us' _ _ _
  · rw [pk_un' _ _ e]; exact h k (by omega)
/-! turning -/
def bkOk (ba : Nat → Int32) (fb g : Int32) (m : Nat) : Prop := fb = -1 ∨ ¬ fb < nI m ∨ ba (m - 1) + nI m - fb - ba fb.toNatClampNeg < g
def tnOk (ba : Nat → Int32) (fb t g : Int32) (m : Nat) : Prop := ba (m - 1) + nI m ≤ t ∧ bkOk ba fb g m
/-- the last of 1 to b, else 0 -/
def isLast (P : Nat → Prop) (b r : Nat) : Prop := (r = 0 ∨ (r ≤ b ∧ P r)) ∧ ∀ m, r < m → m ≤ b → ¬ P m
theorem isLast.one {P : Nat → Prop} {b r r2 : Nat} (h : isLast P b r) (h2 : isLast P b r2) : r = r2 := by
  rcases Nat.lt_trichotomy r r2 with e | e | e
  · rcases h2.1 with z | z
    · omega
    · exact absurd z.2 (h.2 r2 e z.1)
  · exact e
  · rcases h.1 with z | z
    · omega
    · exact absurd z.2 (h2.2 r e z.1)
/-- the first of all below n, else none -/
def isFirst (P : Nat → Prop) (n : Nat) (r : Int32) : Prop := (∃ i, i < n ∧ P i ∧ (∀ j, j < i → ¬ P j) ∧ r = nI i) ∨ ((∀ j, j < n → ¬ P j) ∧ r = -1)
theorem isFirst.one {P : Nat → Prop} {n : Nat} {r r2 : Int32} (h : isFirst P n r) (h2 : isFirst P n r2) : r = r2 := by
  rcases h with ⟨i, hi, hp, ha, e⟩ | ⟨ha, e⟩ <;> rcases h2 with ⟨i2, hi2, hp2, ha2, e2⟩ | ⟨ha2, e2⟩
  · rw [e, e2, fb_first_one hp ha hp2 ha2]
  · exact absurd hp (ha2 i hi)
  · exact absurd hp2 (ha i2 hi2)
  · rw [e, e2]
theorem isFirst.congr {P P2 : Nat → Prop} {n : Nat} {r : Int32} (h : isFirst P n r) (e : ∀ j, j < n → (P j ↔ P2 j)) : isFirst P2 n r := by
  rcases h with ⟨i, hi, hp, ha, er⟩ | ⟨ha, er⟩
  · exact Or.inl ⟨i, hi, (e i hi).mp hp, fun j hj h2 => ha j hj ((e j (by omega)).mpr h2), er⟩
  · exact Or.inr ⟨fun j hj h2 => ha j hj ((e j hj).mpr h2), er⟩
