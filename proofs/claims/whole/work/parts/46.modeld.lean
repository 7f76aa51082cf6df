/-! the reference's sway -/
abbrev mMen (m l : Int32) : Int32 := if m ≤ l then 0 else m - l
abbrev mAp (b w : Int32) : Int32 := if b ≤ w then w - b else b - w
abbrev mSw (m w l b : Int32) : Int32 := if mAp b w = 0 then 3 * mMen m l else if mAp b w = 1 then mMen m l else mMen m l / 3
theorem men_eq {m l : Int32} (hm : rng m 0 20) (hl : rng l 0 20) : mMen m l = pMen m l := by
  unfold rng at *
  have e : (m - l).toInt = m.toInt - l.toInt := fb_subI (by omega) (by omega)
  unfold mMen pMen
  by_cases c : m ≤ l
  · rw [if_pos c, if_neg (by rw [fa_lt, e, show (0 : Int32).toInt = 0 from rfl]; rw [fa_le] at c; omega)]
  · rw [if_neg c, if_pos (by rw [fa_lt, e, show (0 : Int32).toInt = 0 from rfl]; rw [fa_le] at c; omega)]
theorem ap_eq {b w : Int32} (hw : rng w 2 9) (hb : rng b 0 9) : mAp b w = pAp b w := by
  unfold rng at *
  have e : (b - w).toInt = b.toInt - w.toInt := fb_subI (by omega) (by omega)
  have e2 : (w - b).toInt = w.toInt - b.toInt := fb_subI (by omega) (by omega)
  have e0 : (0 : Int32).toInt = 0 := rfl
  unfold mAp pAp
  by_cases c : b ≤ w
  · rw [if_pos c]
    have c2 := c
    rw [fa_le] at c2
    by_cases d : (0 : Int32) ≤ b - w
    · rw [if_pos d]
      rw [fa_le, e, e0] at d
      rw [fa_eq, e, e2]; omega
    · rw [if_neg d, fa_eq, e2, fb_subI (by rw [e, e0]; omega) (by rw [e, e0]; omega), e, e0]; omega
  · rw [if_neg c, if_pos (by rw [fa_le, e, e0]; rw [fa_le] at c; omega)]
theorem msw_eq {m w l b : Int32} (hm : rng m 0 20) (hl : rng l 0 20) (hw : rng w 2 9) (hb : rng b 0 9) : mSw m w l b = pSw m w l b := by
  unfold mSw pSw
  rw [men_eq hm hl, ap_eq hw hb]
theorem msw_1 {m w l b : Int32} (hm : rng m 0 20) (hl : rng l 0 20) (hw : rng w 2 9) (hb : rng b 0 9) (c : 0 ≤ mSw m w l b - 2 * l) : mSw m w l b - 2 * l = pSway m w l b := by
  rw [msw_eq hm hl hw hb] at c ⊢
  unfold pSway
  by_cases d : 0 < pSw m w l b - 2 * l
  · rw [if_pos d]
  · rw [if_neg d]
    rw [fa_eq]
    rw [fa_lt] at d
    rw [fa_le] at c
    omega
theorem msw_0 {m w l b : Int32} (hm : rng m 0 20) (hl : rng l 0 20) (hw : rng w 2 9) (hb : rng b 0 9) (c : ¬ 0 ≤ mSw m w l b - 2 * l) : (0 : Int32) = pSway m w l b := by
  rw [msw_eq hm hl hw hb] at c
  unfold pSway
  rw [if_neg (fun d => c (by rw [fa_le]; rw [fa_lt] at d; omega))]
theorem rng.w {x : Int32} {a b c d : Int} (h : rng x a b) (h1 : c ≤ a) (h2 : b ≤ d) : rng x c d := by
  unfold rng at *; omega
/-! rows of the yards -/
theorem mY.a0 {q : Nat → Yq} {n y : Nat} {w : Nat → Int32} (h : mY q n w 0) (hy : y < n) : w (0 + y) = qI (q y) ∧ w (12 + y) = qK (q y) ∧ w (24 + y) = qB (q y) ∧ w (36 + y) = if qO (q y) = true then 1 else 0 := by
  have g := (h y hy).2
  rw [Nat.zero_add (12 + y), Nat.zero_add (24 + y), Nat.zero_add (36 + y)] at g
  exact g
theorem mY.ah {q : Nat → Yq} {n y h : Nat} {w : Nat → Int32} (hY : mY q n w h) (hy : y < n) : w (h + 0 + y) = qI (q y) ∧ w (h + 12 + y) = qK (q y) ∧ w (h + 24 + y) = qB (q y) ∧ w (h + 36 + y) = if qO (q y) = true then 1 else 0 := by
  have g := (hY y hy).2
  rw [Nat.add_zero, Nat.add_assoc h 12, Nat.add_assoc h 24, Nat.add_assoc h 36]
  exact g
theorem mY.set {q q2 : Nat → Yq} {n k h : Nat} {w w2 : Nat → Int32} (hY : mY q n w h) (hn : n ≤ 12) (hk : k < n) (hq : ∀ y, y ≠ k → q2 y = q y) (hz : okQ (q2 k)) (e0 : w2 (h + k) = qI (q2 k)) (e1 : w2 (h + (12 + k)) = qK (q2 k)) (e2 : w2 (h + (24 + k)) = qB (q2 k)) (e3 : w2 (h + (36 + k)) = if qO (q2 k) = true then 1 else 0) (ho : ∀ j, j ≠ h + k → j ≠ h + (12 + k) → j ≠ h + (24 + k) → j ≠ h + (36 + k) → w2 j = w j) : mY q2 n w2 h := fun y hy => by
  by_cases c : y = k
  · subst c; exact ⟨hz, e0, e1, e2, e3⟩
  · rw [hq y c, ho _ (by omega) (by omega) (by omega) (by omega), ho _ (by omega) (by omega) (by omega) (by omega), ho _ (by omega) (by omega) (by omega) (by omega), ho _ (by omega) (by omega) (by omega) (by omega)]
    exact hY y hy
theorem mY.cong {q q2 : Nat → Yq} {n h : Nat} {w : Nat → Int32} (hY : mY q n w h) (e : ∀ y, y < n → q2 y = q y) : mY q2 n w h := fun y hy => by rw [e y hy]; exact hY y hy
theorem mY.out {q : Nat → Yq} {n h : Nat} {w w2 : Nat → Int32} (hY : mY q n w h) (hn : n ≤ 12) (e : ∀ j, h ≤ j → j < h + 48 → w2 j = w j) : mY q n w2 h := fun y hy => by
  rw [e _ (by omega) (by omega), e _ (by omega) (by omega), e _ (by omega) (by omega), e _ (by omega) (by omega)]
  exact hY y hy
/-- what lies elsewhere stays -/
def wOut (h : Nat) (w w2 : Nat → Int32) : Prop := ∀ j, (j < h ∨ h + 48 ≤ j) → w2 j = w j
theorem wOut.rf (h : Nat) (w : Nat → Int32) : wOut h w w := fun _ _ => rfl
theorem wOut.up {h i : Nat} {w w2 : Nat → Int32} {v : Int32} (g : wOut h w w2) (h1 : h ≤ i) (h2 : i < h + 48) : wOut h w (upd w2 i v) := fun j hj => by rw [pk_un' _ _ (by omega)]; exact g j hj
theorem op_bit {q : Nat → Yq} {n k : Nat} (hn : n ≤ 12) (hk : k < n) : nI (oset q k) ||| ((if qO (q k) = true then (1 : Int32) else 0) <<< (nI k &&& 31)) = nI (oset q (k + 1)) := by
  by_cases c : qO (q k) = true
  · rw [if_pos c, shl_one (by omega), fa_or]
    refine congrArg nI (oset_eq fun y => ?_)
    rw [fb_bit_set, oset_bit]
    by_cases d : y = k
    · subst d; simp [c]
    · by_cases e : y < k
      · simp [d, e, show y < k + 1 by omega]
      · simp [d, e, show ¬ y < k + 1 by omega]
  · rw [if_neg c, show (0 : Int32) <<< (nI k &&& 31) = nI 0 from by rw [show (0 : Int32) = nI 0 from rfl, pk_shlN (n := 0) (nI k &&& 31) k (s_l k (by omega)) (by rw [Nat.zero_mul]; exact Nat.two_pow_pos _), Nat.zero_mul], fa_or, Nat.or_zero]
    refine congrArg nI ?_
    show oset q k = oset q k + _
    rw [if_neg c]; rfl
theorem yb_mul {z : Yq} (h : okQ z) : (if qO z = true then (1 : Int32) else 0) * qB z = qB z := by
  by_cases c : qO z = true
  · rw [if_pos c, Int32.one_mul]
  · rw [if_neg c, h.2.2.2 (by simpa using c)]; rfl
/-- shutting, in the reference -/
theorem ms_no {q : Nat → Yq} {n k h : Nat} {w : Nat → Int32} (hk : k < n) (hY : mY (mixQ shutQ q k) n w h) (c : ¬ w (h + 36 + k) = 1) : mY (mixQ shutQ q (k + 1)) n w h := by
  refine hY.cong fun y hy => ?_
  by_cases d : y = k
  · subst d
    rw [mixQ_lt (Nat.lt_succ_self y), mixQ_at]
    unfold shutQ
    rw [if_neg (fun z => c (by rw [(hY.ah hk).2.2.2, mixQ_at, if_pos z]))]
  · exact mixQ_ne d
theorem ms_yes {q : Nat → Yq} {n k h : Nat} {w w2 : Nat → Int32} {v1 v2 : Int32} (hn : n ≤ 12) (hk : k < n) (hY : mY (mixQ shutQ q k) n w h) (c : w (h + 36 + k) = 1) (e1 : v1 = w (h + 24 + k) / 3) (e2 : v2 = pShut (w (h + 12 + k))) (ew : w2 = upd (upd (upd (upd w (h + 36 + k) 0) (h + 0 + k) v1) (h + 24 + k) 0) (h + 12 + k) v2) : mY (mixQ shutQ q (k + 1)) n w2 h := by
  have hz := hY k hk
  have hr := hY.ah hk
  rw [mixQ_at] at hz hr
  have ho : qO (q k) = true := by
    by_cases d : qO (q k) = true
    · exact d
    · rw [hr.2.2.2, if_neg d] at c; exact absurd c (by decide)
  have es : shutQ (q k) = (qB (q k) / 3, pShut (qK (q k)), 0, false) := by unfold shutQ; rw [if_pos ho]
  have e5 : mixQ shutQ q (k + 1) k = (qB (q k) / 3, pShut (qK (q k)), 0, false) := by rw [mixQ_lt (Nat.lt_succ_self k), es]
  subst ew
  refine hY.set hn hk (fun y hy => mixQ_ne hy) (by rw [mixQ_lt (Nat.lt_succ_self k)]; exact shut_ok hz.1) ?_ ?_ ?_ ?_ (fun j a b d e => ?_)
  · rw [e5, pk_un' _ _ (by omega), pk_un' _ _ (by omega), show h + k = h + 0 + k by omega, pk_us', e1, hr.2.2.1]
  · rw [e5, show h + (12 + k) = h + 12 + k by omega, pk_us', e2, hr.2.1]
  · rw [e5, pk_un' _ _ (by omega), show h + (24 + k) = h + 24 + k by omega, pk_us']
  · rw [e5, pk_un' _ _ (by omega), pk_un' _ _ (by omega), pk_un' _ _ (by omega), show h + (36 + k) = h + 36 + k by omega, pk_us']; rfl
  · rw [pk_un' _ _ (by omega), pk_un' _ _ (by omega), pk_un' _ _ (by omega), pk_un' _ _ (by omega)]
theorem mY.fin {f : Yq → Yq} {q : Nat → Yq} {n k h : Nat} {w : Nat → Int32} (hY : mY (mixQ f q k) n w h) (hk : n ≤ k) : mY (fun y => f (q y)) n w h := hY.cong fun y hy => (mixQ_lt (by omega)).symm
/-- ice alone changes -/
theorem mi_set {f : Yq → Yq} {q : Nat → Yq} {n k h : Nat} {w : Nat → Int32} {v : Int32} (hn : n ≤ 12) (hk : k < n) (hY : mY (mixQ f q k) n w h) (ho : okQ (f (q k))) (e1 : v = qI (f (q k))) (e2 : (f (q k)).2 = (q k).2) : mY (mixQ f q (k + 1)) n (upd w (h + 0 + k) v) h := by
  have hz := (hY k hk).2
  rw [mixQ_at] at hz
  have e5 : mixQ f q (k + 1) k = f (q k) := mixQ_lt (Nat.lt_succ_self k)
  refine hY.set hn hk (fun y hy => mixQ_ne hy) (by rw [e5]; exact ho) ?_ ?_ ?_ ?_ (fun j a b d e => pk_un' _ _ (by omega))
  · rw [e5, show h + k = h + 0 + k by omega, pk_us', e1]
  · rw [e5, pk_un' _ _ (by omega), hz.2.1]; show (q k).2.1 = (f (q k)).2.1; rw [e2]
  · rw [e5, pk_un' _ _ (by omega), hz.2.2.1]; show (q k).2.2.1 = (f (q k)).2.2.1; rw [e2]
  · rw [e5, pk_un' _ _ (by omega), hz.2.2.2, show qO (f (q k)) = qO (q k) from by show (f (q k)).2.2.2 = (q k).2.2.2; rw [e2]]
theorem mth_eq {k i c : Int32} : (if i + pGrow k i c ≤ 300 then i + pGrow k i c else 300) = pThick k i c := by
  unfold pThick
  generalize i + pGrow k i c = x
  by_cases a : x < 300
  · rw [if_pos a, if_pos (by rw [fa_le]; rw [fa_lt] at a; omega)]
  · rw [if_neg a]
    by_cases b : x ≤ 300
    · rw [if_pos b, fa_eq]; rw [fa_lt] at a; rw [fa_le] at b; omega
    · rw [if_neg b]
theorem mle_eq {i d : Int32} : (if 0 ≤ i - d then i - d else 0) = pLess i d := by
  unfold pLess
  generalize i - d = x
  by_cases a : 0 < x
  · rw [if_pos a, if_pos (by rw [fa_le]; rw [fa_lt] at a; omega)]
  · rw [if_neg a]
    by_cases b : 0 ≤ x
    · rw [if_pos b, fa_eq]; rw [fa_lt] at a; rw [fa_le] at b; omega
    · rw [if_neg b]
