/-! days of a plan, nights of the odds -/
def betP (cost set : Int32) (b : Int32 × Int32) : Int32 × Int32 := if cost < b.1 then (cost, set) else if cost = b.1 then (if b.2 ≤ set then b else (cost, set)) else b
def coL (coal : Int32) : Int32 := if 0 < coal - 1 then coal - 1 else 0
def coW (coal cost wc : Int32) : Int32 := if coal ≤ 0 then cost + wc else cost
def goneQ (f x t c : Int32) (n : Nat) (q : Nat → Yq) : Nat → Yq := fun y => nightQ c (mixQ openQ q (bhQ f x t q n) y)
def srch (n : Nat) (f x t c cd dc wc : Int32) : Nat → Nat → (Nat → Yq) → Int32 → Int32 → Int32 → Int32 × Int32 → Int32 × Int32
  | 0, _, _, _, cost, set, b => if cost ≤ b.1 then betP cost set b else b
  | r + 1, d, q, coal, cost, set, b => if cost ≤ b.1 then srch n f x t c cd dc wc r (d + 1) (goneQ f x t c n q) (if bhQ f x t q n = n then cd else coL coal) (coW coal cost wc + dc) (set ||| ((1 : Int32) <<< (nI d &&& 31))) (srch n f x t c cd dc wc r (d + 1) (fun y => nightQ c (q y)) (coL coal) (coW coal cost wc) set b) else b
def oddP (n : Nat) (f x t c th pe : Int32) : Nat → (Nat → Yq) → Int64 → Int64
  | 0, q, p => if p = 0 then 0 else if bhQ f x t q n = n then p else 0
  | r + 1, q, p => if p = 0 then 0 else oddP n f x t c th pe r (fun y => thawQ th (q y)) (p * pe.toInt64 / 100) + oddP n f x t c th pe r (fun y => nightQ c (q y)) (p - p * pe.toInt64 / 100)
theorem sr_out {n : Nat} {f x t c cd dc wc : Int32} {r d : Nat} {q : Nat → Yq} {coal cost set : Int32} {b : Int32 × Int32} (h : ¬ cost ≤ b.1) : b = srch n f x t c cd dc wc r d q coal cost set b := by
  cases r with
  | zero => unfold srch; rw [if_neg h]
  | succ r => unfold srch; rw [if_neg h]
theorem sr_leaf {n : Nat} {f x t c cd dc wc : Int32} {dp d : Nat} {q : Nat → Yq} {coal cost set lc lS lc2 lS2 : Int32} (hd : dp ≤ d) (h : cost ≤ lc) (e : (lc2, lS2) = betP cost set (lc, lS)) : (lc2, lS2) = srch n f x t c cd dc wc (dp - d) d q coal cost set (lc, lS) := by
  rw [show dp - d = 0 by omega, e]
  unfold srch
  rw [if_pos (show cost ≤ (lc, lS).1 from h)]
theorem sr_node {n : Nat} {f x t c cd dc wc : Int32} {dp d b2 : Nat} {q : Nat → Yq} {coal cost set lc lS lc1 lS1 lc2 lS2 r : Int32} (hd : d < dp) (h : cost ≤ lc)
    (e1 : (lc1, lS1) = srch n f x t c cd dc wc (dp - (d + 1)) (d + 1) (fun y => nightQ c (q y)) (if 0 < coal - 1 then coal - 1 else 0) (if coal ≤ 0 then cost + wc else cost) set (lc, lS))
    (hb : b2 = bhQ f x t q n) (h0 : r = 0 → ¬ b2 = n) (h1 : ¬ r = 0 → b2 = n)
    (e2 : (lc2, lS2) = srch n f x t c cd dc wc (dp - (d + 1)) (d + 1) (fun y => nightQ c (mixQ openQ q b2 y)) (if r = 0 then (if 0 < coal - 1 then coal - 1 else 0) else cd) ((if coal ≤ 0 then cost + wc else cost) + dc) (set ||| ((1 : Int32) <<< (nI d &&& 31))) (lc1, lS1)) :
    (lc2, lS2) = srch n f x t c cd dc wc (dp - d) d q coal cost set (lc, lS) := by
  rw [show dp - d = (dp - (d + 1)) + 1 by omega]
  unfold srch
  rw [if_pos (show cost ≤ (lc, lS).1 from h), e2, e1]
  have e3 : (if r = 0 then (if 0 < coal - 1 then coal - 1 else 0) else cd) = (if bhQ f x t q n = n then cd else coL coal) := by
    rw [← hb]
    by_cases hr : r = 0
    · rw [if_pos hr, if_neg (h0 hr)]; rfl
    · rw [if_neg hr, if_pos (h1 hr)]
  rw [e3, hb]
  rfl
theorem lg_zero (p : Int64) : lg_cmp p 0 = 0 ↔ p = 0 := by
  unfold lg_cmp
  by_cases h : (0 : Int64) < p
  · rw [if_pos h]
    constructor
    · intro z; exact absurd z (by decide)
    · intro z; subst z; exact absurd h (by decide)
  · rw [if_neg h]
    by_cases h2 : p = 0
    · rw [if_pos h2]; exact ⟨fun _ => h2, fun _ => rfl⟩
    · rw [if_neg h2]
      constructor
      · intro z; exact absurd z (by decide)
      · intro z; exact absurd z h2
theorem od_0 {n : Nat} {f x t c th pe : Int32} {r : Nat} {q : Nat → Yq} {p : Int64} (h : p = 0) : 0 = oddP n f x t c th pe r q p := by
  cases r with
  | zero => unfold oddP; rw [if_pos h]
  | succ r => unfold oddP; rw [if_pos h]
theorem od_leaf {n : Nat} {f x t c th pe : Int32} {dp d b2 : Nat} {q : Nat → Yq} {p : Int64} {r : Int32} (hd : dp ≤ d) (h : ¬ p = 0) (hb : b2 = bhQ f x t q n) (h0 : r = 0 → ¬ b2 = n) (h1 : ¬ r = 0 → b2 = n) : (if r = 0 then (0 : Int64) else p) = oddP n f x t c th pe (dp - d) q p := by
  rw [show dp - d = 0 by omega]
  unfold oddP
  rw [if_neg h, ← hb]
  by_cases hr : r = 0
  · rw [if_pos hr, if_neg (h0 hr)]
  · rw [if_neg hr, if_pos (h1 hr)]
theorem od_node {n : Nat} {f x t c th pe : Int32} {dp d : Nat} {q : Nat → Yq} {p : Int64} (hd : d < dp) (h : ¬ p = 0) : oddP n f x t c th pe (dp - (d + 1)) (fun y => thawQ th (q y)) (p * pe.toInt64 / 100) + oddP n f x t c th pe (dp - (d + 1)) (fun y => nightQ c (q y)) (p - p * pe.toInt64 / 100) = oddP n f x t c th pe (dp - d) q p := by
  rw [show dp - d = (dp - (d + 1)) + 1 by omega]
  conv => rhs; unfold oddP
  rw [if_neg h]
theorem min8 {n : Nat} (hn : n ≤ 8) : (if nI n < 8 then nI n else 8) = nI n := by
  split
  · rfl
  · rename_i h
    rw [show (8 : Int32) = nI 8 from rfl, nI_ltI (by omega) (by decide)] at h
    have e : n = 8 := by omega
    subst e
    rfl
