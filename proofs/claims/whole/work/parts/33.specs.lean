/-! what each call answers and does: plain -/
abbrev UNK : Int32 := -1000000001
abbrev OUT : Int32 := -1000000002
abbrev NOTc : Int32 := -1000000003
abbrev FUL : Int32 := -1000000004
abbrev inR (v lo hi : Int32) : Prop := ¬ v < lo ∧ ¬ hi < v
theorem notR {v lo hi : Int32} (h : v < lo ∨ hi < v) : ¬ inR v lo hi := fun z => h.elim z.1 z.2
theorem inR.I {v lo hi : Int32} (h : inR v lo hi) : lo.toInt ≤ v.toInt ∧ v.toInt ≤ hi.toInt := by
  have h1 := h.1; have h2 := h.2
  rw [fa_lt] at h1 h2
  omega
theorem inR.nat {v lo hi : Int32} {a b : Nat} (h : inR v lo hi) (ha : lo.toInt = a) (hb : hi.toInt = b) : ∃ k, a ≤ k ∧ k ≤ b ∧ v = nI k := by
  have g := h.I
  obtain ⟨k, hk, e⟩ := nI_of (x := v) (by rw [fa_lt, show (0 : Int32).toInt = 0 from rfl]; omega)
  rw [e, nI_toInt hk] at g
  exact ⟨k, by omega, by omega, e⟩
abbrev isY (n : Nat) (y : Int32) : Prop := 0 ≤ y.toInt ∧ y.toInt < n
theorem isY_nI {n k : Nat} (hk : k < n) (hn : n ≤ 12) : isY n (nI k) := by
  unfold isY
  rw [nI_toInt (by omega)]
  omega
def fdF (v : Int32) (ln : Nat) : Int32 × Nat := if inR v 0 255 then (if ln < 230 then (nI (ln + 1), ln + 1) else (FUL, ln)) else (OUT, ln)
def fdL (v : Int32) (ln : Nat) (lt : Nat → Int32) : Nat → Int32 := if inR v 0 255 then (if ln < 230 then upd lt ln v else lt) else lt
def toldF (n : Nat) (nb : Nat → Int32) (ln : Nat) (nt bt os : Int32) (bc ec : Nat) (v : Int32) : Int32 :=
  if inR v 0 17 then (if inR v 1 9 then nb (v.toNatClampNeg - 1) else if v = 0 then nI n else if v = 10 then nI ln else if v = 11 then nt else if v = 12 then bt else if v = 13 then pSway (nb 1) (nb 2) (nb 3) bt else if v = 14 then pForce nb bt else if v = 15 then os else if v = 16 then nI bc else nI ec) else OUT
def yardF (q : Nat → Yq) (n : Nat) (y v : Int32) : Int32 := if isY n y then (if v = 0 then qK (q y.toNatClampNeg) else if v = 1 then qI (q y.toNatClampNeg) else if v = 2 then qB (q y.toNatClampNeg) else OUT) else UNK
def growF (q : Nat → Yq) (n : Nat) (y c : Int32) : Int32 := if isY n y then (if inR c 0 30 then pGrow (qK (q y.toNatClampNeg)) (qI (q y.toNatClampNeg)) c else OUT) else UNK
def nightF (c k nt : Int32) (q : Nat → Yq) (n : Nat) : Int32 × Int32 × (Nat → Yq) := if inR c 0 30 then (if inR k 1 99 then (if nt ≤ 9000 then (sumI (fun y => itQ (nightQ c) k.toNatClampNeg (q y)) n, nt + k, fun y => itQ (nightQ c) k.toNatClampNeg (q y)) else (FUL, nt, q)) else (OUT, nt, q)) else (OUT, nt, q)
def thawF (d nt : Int32) (q : Nat → Yq) (n : Nat) : Int32 × Int32 × (Nat → Yq) := if inR d 0 60 then (if nt ≤ 9000 then (sumI (fun y => thawQ d (q y)) n, nt + 1, fun y => thawQ d (q y)) else (FUL, nt, q)) else (OUT, nt, q)
def sdI (sd : Int32) : Nat → Int32
  | 0 => sd
  | k + 1 => drawS (drawS (sdI sd k))
def drI (sd : Int32) : Nat → Yq → Yq
  | 0, z => z
  | k + 1, z => driftQ (sdI sd k) (drI sd k z)
def driftF (k nt sd : Int32) (q : Nat → Yq) (n : Nat) : Int32 × Int32 × Int32 × (Nat → Yq) := if inR k 1 99 then (if nt ≤ 9000 then (sumI (fun y => drI sd k.toNatClampNeg (q y)) n, nt + k, sdI sd k.toNatClampNeg, fun y => drI sd k.toNatClampNeg (q y)) else (FUL, nt, sd, q)) else (OUT, nt, sd, q)
def beatF (b bt : Int32) (nb : Nat → Int32) : Int32 × Int32 := if inR b 1 9 then (pForce nb b, b) else (OUT, bt)
def outF (t f x : Int32) (q : Nat → Yq) (n : Nat) : Int32 × (Nat → Yq) := if inR t 1 999 then (if n = 0 then (NOTc, q) else (nI (bhQ f x t q n), mixQ openQ q (bhQ f x t q n))) else (OUT, q)
def todayF (t v f x : Int32) (q : Nat → Yq) (n : Nat) : Int32 := if inR t 1 999 then (if inR v 0 1 then (if v = 0 then nI (bhQ f x t q n) else cumQ f x q (bhQ f x t q n)) else OUT) else OUT
def bbF (g : Int32 → Int32) : Nat → Int32
  | 0 => 1
  | k + 1 => if g (nI (k + 2)) ≤ g (bbF g k) then bbF g k else nI (k + 2)
abbrev psQ (f x t : Int32) (q : Nat → Yq) (n : Nat) : Prop := bhQ f x t q n = n
def laggP (t : Int32) (nb : Nat → Int32) (bt : Int32) (q : Nat → Yq) (n : Nat) (r : Int32) : Prop := (inR t 1 999 → isFirst (fun l => ¬ psQ (4 * nb 0 + pSway (nb 1) (nb 2) (nI l) bt) (nb 5) t q n) 21 r) ∧ (¬ inR t 1 999 → r = OUT)
def horsP (t : Int32) (nb : Nat → Int32) (bt : Int32) (q : Nat → Yq) (n : Nat) (r : Int32) : Prop := (inR t 1 999 → isFirst (fun h => 1 ≤ h ∧ psQ (4 * nI h + pSway (nb 1) (nb 2) (nb 3) bt) (nb 5) t q n) 13 r) ∧ (¬ inR t 1 999 → r = OUT)
def strF (t k f x g : Int32) (q : Nat → Yq) (n : Nat) : Int32 := if inR t 1 999 then (if inR k 1 99 then (if fbQ q (bhQ f x t q n) = -1 then -1 else (g - 1) / k) else OUT) else OUT
def turnP (t f x g : Int32) (q : Nat → Yq) (n : Nat) (r : Int32) : Prop := (inR t 1 999 → ∃ k, r = nI k ∧ isLast (tnOk (fun j => cumQ f x q (j + 1)) (fbQ q (bhQ f x t q n)) t g) (bhQ f x t q n) k) ∧ (¬ inR t 1 999 → r = OUT)
def planF (k t c v : Int32) (nb : Nat → Int32) (f : Int32) (q : Nat → Yq) (n : Nat) : Int32 := if inR k 1 8 then (if inR t 1 999 then (if inR c 0 30 then (if inR v 0 1 then (if n = 0 then NOTc else (if v = 0 then (srch n f (nb 5) t c (nb 6) (nb 7) (nb 8) k.toNatClampNeg 0 q (nb 6) 0 0 (1000000000, 0)).1 else (srch n f (nb 5) t c (nb 6) (nb 7) (nb 8) k.toNatClampNeg 0 q (nb 6) 0 0 (1000000000, 0)).2)) else OUT) else OUT) else OUT) else OUT
def lostP (c t f x : Int32) (q : Nat → Yq) (n : Nat) (r : Int32) : Prop := (inR c 0 30 → inR t 1 999 → isFirst (fun d => ¬ psQ f x t (fun y => itQ (nightQ c) d (q y)) n) 61 r) ∧ (¬ (inR c 0 30 ∧ inR t 1 999) → r = OUT)
def oddsF (k c d e t f x : Int32) (q : Nat → Yq) (n : Nat) : Int32 := if inR k 1 8 then (if inR c 0 30 then (if inR d 0 60 then (if inR e 0 100 then (if inR t 1 999 then (oddP n f x t c d e k.toNatClampNeg q 1000000000).toInt32 else OUT) else OUT) else OUT) else OUT) else OUT
def nfI (e : Int32) : Nat → Int64
  | 0 => 1000000000
  | k + 1 => nfI e k * (1000 - e).toInt64 / 1000
def noFF (m e h : Int32) : Int32 := if inR m 0 99 then (if inR e 0 1000 then (nfI e (m * h).toNatClampNeg).toInt32 else OUT) else OUT
def boreF (n bc : Nat) (y k c v : Int32) : Int32 × Nat := if isY n y then (if inR k 0 9 then (if inR c 0 30 then (if inR v 0 300 then (if bc < 10 then (nI (bc + 1), bc + 1) else (FUL, bc)) else (OUT, bc)) else (OUT, bc)) else (OUT, bc)) else (UNK, bc)
def writF (n ec : Nat) (y v : Int32) : Int32 × Nat := if isY n y then (if inR v 0 300 then (if ec < 15 then (nI (ec + 1), ec + 1) else (FUL, ec)) else (OUT, ec)) else (UNK, ec)
def fitAll (z : Yq) (y bc : Nat) (kn : Int32) (by0 bn bd bi : Nat → Int32) : Prop := ∀ i, i < bc → fitAt z y kn by0 bn bd bi i
def kdI (P : Nat → Prop) [DecidablePred P] : Nat → Int32
  | 0 => 0
  | k + 1 => if P k then kdI P k ||| ((1 : Int32) <<< (nI k &&& 31)) else kdI P k
def kindP (q : Nat → Yq) (n bc : Nat) (y : Int32) (by0 bn bd bi : Nat → Int32) (r : Int32) : Prop := (isY n y → ∃ s : Nat → Int32, s 0 = 0 ∧ (∀ k, k < 4 → (fitAll (q y.toNatClampNeg) y.toNatClampNeg bc (nI k) by0 bn bd bi ∧ s (k + 1) = s k ||| ((1 : Int32) <<< (nI k &&& 31))) ∨ (¬ fitAll (q y.toNatClampNeg) y.toNatClampNeg bc (nI k) by0 bn bd bi ∧ s (k + 1) = s k)) ∧ r = s 4) ∧ (¬ isY n y → r = UNK)
def seedF (v sd : Int32) : Int32 × Int32 := if 0 ≤ v then (sd, v) else (OUT, sd)
theorem kindP.one {q : Nat → Yq} {n bc : Nat} {y : Int32} {by0 bn bd bi : Nat → Int32} {r r2 : Int32} (h : kindP q n bc y by0 bn bd bi r) (h2 : kindP q n bc y by0 bn bd bi r2) : r = r2 := by
  by_cases c : isY n y
  · obtain ⟨s, s0, hs, e⟩ := h.1 c
    obtain ⟨z, z0, hz, e2⟩ := h2.1 c
    have g : ∀ k, k ≤ 4 → s k = z k := by
      intro k
      induction k with
      | zero => intro _; rw [s0, z0]
      | succ k ih =>
        intro hk
        have e3 := ih (by omega)
        rcases hs k (by omega) with ⟨a, b⟩ | ⟨a, b⟩ <;> rcases hz k (by omega) with ⟨a2, b2⟩ | ⟨a2, b2⟩
        · rw [b, b2, e3]
        · exact absurd a a2
        · exact absurd a2 a
        · rw [b, b2, e3]
    rw [e, e2, g 4 (by omega)]
  · rw [h.2 c, h2.2 c]
theorem fo_of {nb : Nat → Int32} (h : tlOk nb) (b : Int32) : fOk (pForce nb b) (nb 5) := ⟨force_rng h b, h.2.2.2.2.2.1⟩
theorem int_add1 (a : Int32) (k : Nat) : a + nI k + 1 = a + nI (k + 1) := by rw [Int32.add_assoc, nI_1]
