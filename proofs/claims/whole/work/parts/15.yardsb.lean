/-! steps of the rows' loops -/
theorem pk_us' (f : Nat → Int32) (k : Nat) (x : Int32) : upd f k x k = x := by simp [upd]
theorem pk_un' (f : Nat → Int32) {k j : Nat} (x : Int32) (h : j ≠ k) : upd f k x j = f j := by simp [upd, h]
theorem yA.at {f : Yq → Yq} {q : Nat → Yq} {n i : Nat} {kd ic br : Nat → Int32} (h : yA (mixQ f q i) n kd ic br) (hi : i < n) : ic i = qI (q i) ∧ kd i = qK (q i) ∧ br i = qB (q i) := by
  have h2 := h i hi
  rw [mixQ_at] at h2
  exact h2
theorem sh_no {q : Nat → Yq} {n i : Nat} {kd ic br : Nat → Int32} (h : yA (mixQ shutQ q i) n kd ic br) (hi : i < n) (ho : qO (q i) = false) : yA (mixQ shutQ q (i + 1)) n kd ic br := by
  refine h.step (fun y _ => ⟨rfl, rfl, rfl⟩) ?_
  have e : shutQ (q i) = q i := by unfold shutQ; rw [if_neg (by rw [ho]; decide)]
  rw [e]
  exact h.at hi
theorem sh_yes {q : Nat → Yq} {n i : Nat} {kd ic br : Nat → Int32} (h : yA (mixQ shutQ q i) n kd ic br) (hi : i < n) (ho : qO (q i) = true) : yA (mixQ shutQ q (i + 1)) n (upd kd i (pShut (kd i))) (upd ic i (br i / 3)) (upd br i 0) := by
  refine h.step (fun y hy => ⟨pk_un' _ _ hy, pk_un' _ _ hy, pk_un' _ _ hy⟩) ?_
  have e : shutQ (q i) = (qB (q i) / 3, pShut (qK (q i)), 0, false) := by unfold shutQ; rw [if_pos ho]
  rw [e, pk_us', pk_us', pk_us', (h.at hi).2.1, (h.at hi).2.2]
  exact ⟨rfl, rfl, rfl⟩
theorem sh_none {q : Nat → Yq} {n : Nat} {os : Int32} {kd ic br : Nat → Int32} (hn : n ≤ 12) (h : yR q n os kd ic br) (h0 : os = 0) : yR (fun y => shutQ (q y)) n os kd ic br := by
  have hz : ∀ y, y < n → qO (q y) = false := (oset_zero hn).mp (h.2 ▸ h0)
  have e : ∀ y, y < n → shutQ (q y) = q y := fun y hy => by unfold shutQ; rw [if_neg (by rw [hz y hy]; decide)]
  refine yR.of (fun y hy => shut_ok (h.ok hy)) (fun y hy => by show _ = qI (shutQ (q y)) ∧ _ = qK (shutQ (q y)) ∧ _ = qB (shutQ (q y)); rw [e y hy]; exact h.rows y hy) ?_
  rw [h.2]
  exact congrArg nI (oset_congr fun y hy => by rw [e y hy])
theorem oset_none {q : Nat → Yq} {n : Nat} (h : ∀ y, y < n → qO (q y) = false) : oset q n = 0 :=
  (oset_eq (q := q) (n := n) (b := 0) (fun y => by
    by_cases hy : y < n
    · simp [h y hy]
    · simp [hy])).symm
theorem sh_end {q : Nat → Yq} {n : Nat} {os : Int32} {kd ic br kd1 ic1 br1 : Nat → Int32} (h : yR q n os kd ic br) (hA : yA (fun y => shutQ (q y)) n kd1 ic1 br1) : yR (fun y => shutQ (q y)) n 0 kd1 ic1 br1 :=
  yR.of (fun y hy => shut_ok (h.ok hy)) hA (by rw [oset_none fun y hy => shut_no _ (h.ok hy)]; rfl)
def nfQ (c : Int32) (z : Yq) : Yq := (pThick (qK z) (qI z) c, z.2)
def tfQ (d : Int32) (z : Yq) : Yq := (pLess (qI z) d, z.2)
theorem yA.ice {f : Yq → Yq} {q : Nat → Yq} {n i : Nat} {os : Int32} {kd ic br kd1 ic1 br1 : Nat → Int32} (h : yA (mixQ f q i) n kd1 ic1 br1) (hY : yR q n os kd ic br) (hi : i < n) : iceOk (ic1 i) := by
  rw [(h.at hi).1]
  exact (hY.ok hi).1
theorem fr_step {q : Nat → Yq} {n i : Nat} {c : Int32} {kd ic br : Nat → Int32} (h : yA (mixQ (nfQ c) q i) n kd ic br) (hi : i < n) : yA (mixQ (nfQ c) q (i + 1)) n kd (upd ic i (pThick (kd i) (ic i) c)) br := by
  refine h.step (fun y hy => ⟨rfl, pk_un' _ _ hy, rfl⟩) ?_
  rw [pk_us', (h.at hi).1, (h.at hi).2.1, (h.at hi).2.2]
  exact ⟨rfl, rfl, rfl⟩
theorem th_step {q : Nat → Yq} {n i : Nat} {d : Int32} {kd ic br : Nat → Int32} (h : yA (mixQ (tfQ d) q i) n kd ic br) (hi : i < n) : yA (mixQ (tfQ d) q (i + 1)) n kd (upd ic i (pLess (ic i) d)) br := by
  refine h.step (fun y hy => ⟨rfl, pk_un' _ _ hy, rfl⟩) ?_
  rw [pk_us', (h.at hi).1, (h.at hi).2.1, (h.at hi).2.2]
  exact ⟨rfl, rfl, rfl⟩
theorem fr_end {q : Nat → Yq} {n : Nat} {os c : Int32} {kd ic br ic1 : Nat → Int32} (hc : 0 ≤ c.toInt ∧ c.toInt ≤ 30) (h : yR (fun y => shutQ (q y)) n os kd ic br) (hq : ∀ y, y < n → okQ (q y)) (hA : yA (fun y => nfQ c (shutQ (q y))) n kd ic1 br) : yR (fun y => nightQ c (q y)) n os kd ic1 br :=
  yR.of (fun y hy => night_ok (hq y hy) hc) hA (by rw [h.2]; exact congrArg nI (oset_congr fun y hy => rfl))
theorem th_end {q : Nat → Yq} {n : Nat} {os d : Int32} {kd ic br ic1 : Nat → Int32} (hd : 0 ≤ d.toInt ∧ d.toInt ≤ 60) (h : yR (fun y => shutQ (q y)) n os kd ic br) (hq : ∀ y, y < n → okQ (q y)) (hA : yA (fun y => tfQ d (shutQ (q y))) n kd ic1 br) : yR (fun y => thawQ d (q y)) n os kd ic1 br :=
  yR.of (fun y hy => thaw_ok (hq y hy) hd) hA (by rw [h.2]; exact congrArg nI (oset_congr fun y hy => rfl))
/-- openFirst -/
theorem op_no {q : Nat → Yq} {n i : Nat} {kd ic br : Nat → Int32} (h : yA (mixQ openQ q i) n kd ic br) (hi : i < n) (ho : ic i ≤ 0) : yA (mixQ openQ q (i + 1)) n kd ic br ∧ oset (mixQ openQ q (i + 1)) n = oset (mixQ openQ q i) n := by
  have e : openQ (q i) = q i := by
    unfold openQ
    rw [if_neg]
    rw [← (h.at hi).1]
    rw [fa_lt]; rw [fa_le] at ho; omega
  refine ⟨h.step (fun y _ => ⟨rfl, rfl, rfl⟩) (by rw [e]; exact h.at hi), oset_congr fun y _ => ?_⟩
  by_cases hy : y = i
  · subst hy
    rw [mixQ_lt (Nat.lt_succ_self _), mixQ_at, e]
  · rw [mixQ_ne hy]
theorem op_yes {q : Nat → Yq} {n i : Nat} {kd ic br : Nat → Int32} (hn : n ≤ 12) (h : yA (mixQ openQ q i) n kd ic br) (hi : i < n) (ho : ¬ ic i ≤ 0) : yA (mixQ openQ q (i + 1)) n kd (upd ic i 0) (upd br i (ic i)) ∧ nI (oset (mixQ openQ q i) n) ||| ((1 : Int32) <<< (nI i &&& 31)) = nI (oset (mixQ openQ q (i + 1)) n) := by
  have e : openQ (q i) = (0, qK (q i), qI (q i), true) := by
    unfold openQ
    rw [if_pos]
    rw [← (h.at hi).1]
    rw [fa_lt]; rw [fa_le] at ho; omega
  constructor
  · refine h.step (fun y hy => ⟨rfl, pk_un' _ _ hy, pk_un' _ _ hy⟩) ?_
    rw [e, pk_us', pk_us', (h.at hi).1]
    exact ⟨rfl, (h.at hi).2.1, rfl⟩
  · rw [shl_one (by omega), fa_or]
    refine congrArg nI (oset_eq fun y => ?_)
    rw [Nat.testBit_or, oset_bit, Nat.testBit_two_pow]
    by_cases hy : y = i
    · subst hy
      rw [mixQ_lt (Nat.lt_succ_self _), e]
      simp [hi]
    · rw [mixQ_ne hy]
      have h2 : ¬ i = y := fun z => hy z.symm
      simp [h2]
theorem mix_ok {f : Yq → Yq} {q : Nat → Yq} {n i : Nat} (hf : ∀ z, okQ z → okQ (f z)) (hq : ∀ y, y < n → okQ (q y)) : ∀ y, y < n → okQ (mixQ f q i y) := fun y hy => by
  unfold mixQ
  split
  · exact hf _ (hq y hy)
  · exact hq y hy
/-- copyFrom, begin -/
def cpR (i : Nat) (kd ic br kd1 ic1 br1 : Nat → Int32) : Prop := ∀ y, y < i → kd1 y = kd y ∧ ic1 y = ic y ∧ br1 y = br y
theorem cpR.step {i : Nat} {kd ic br kd1 ic1 br1 : Nat → Int32} (h : cpR i kd ic br kd1 ic1 br1) : cpR (i + 1) kd ic br (upd kd1 i (kd i)) (upd ic1 i (ic i)) (upd br1 i (br i)) := fun y hy => by
  by_cases e : y = i
  · subst e
    rw [pk_us', pk_us', pk_us']
    exact ⟨rfl, rfl, rfl⟩
  · rw [pk_un' _ _ e, pk_un' _ _ e, pk_un' _ _ e]
    exact h y (by omega)
theorem cp_end {q : Nat → Yq} {n : Nat} {os : Int32} {kd ic br kd1 ic1 br1 : Nat → Int32} (h : yR q n os kd ic br) (hc : cpR n kd ic br kd1 ic1 br1) : yR q n os kd1 ic1 br1 :=
  ⟨fun y hy => ⟨h.ok hy, by rw [(hc y hy).2.1]; exact (h.rows y hy).1, by rw [(hc y hy).1]; exact (h.rows y hy).2.1, by rw [(hc y hy).2.2]; exact (h.rows y hy).2.2⟩, h.2⟩
def newQ (yk yi : Nat → Int32) : Nat → Yq := fun y => (yi y, yk y, 0, false)
def newOk (n : Nat) (yk yi : Nat → Int32) : Prop := ∀ y, y < n → iceOk (yi y) ∧ 0 ≤ (yk y).toInt ∧ (yk y).toInt ≤ 3
theorem new_ok {n : Nat} {yk yi : Nat → Int32} (h : newOk n yk yi) {y : Nat} (hy : y < n) : okQ (newQ yk yi y) := ⟨(h y hy).1, (h y hy).2, iceOk0, fun _ => rfl⟩
theorem bg_end {n : Nat} {yk yi kd1 ic1 br1 : Nat → Int32} (h : newOk n yk yi) (hc : cpR n yk yi (fun _ => 0) kd1 ic1 br1) : yR (newQ yk yi) n 0 kd1 ic1 br1 :=
  ⟨fun y hy => ⟨new_ok h hy, (hc y hy).2.1, (hc y hy).1, (hc y hy).2.2⟩, by rw [oset_none fun y hy => rfl]; rfl⟩
theorem min12 {n : Nat} (hn : n ≤ 12) : (if nI n < 12 then nI n else 12) = nI n := by
  split
  · rfl
  · rename_i h
    rw [show (12 : Int32) = nI 12 from rfl, nI_ltI (by omega) (by decide)] at h
    have e : n = 12 := by omega
    subst e
    rfl
/-- the ice of all yards -/
def sumI (q : Nat → Yq) : Nat → Int32
  | 0 => 0
  | n + 1 => sumI q n + qI (q n)
/-- nights in a row -/
def itQ (f : Yq → Yq) : Nat → Yq → Yq
  | 0, z => z
  | k + 1, z => f (itQ f k z)
def setK (k : Int32) (z : Yq) : Yq := (qI z, k, z.2.2)
theorem itQ_kind (c : Int32) (z : Yq) : ∀ k, (itQ (nfQ c) k z).2 = z.2
  | 0 => rfl
  | k + 1 => by show (itQ (nfQ c) k z).2 = z.2; exact itQ_kind c z k
theorem itQ_night {c : Int32} {z : Yq} (h : okQ z) : ∀ k, itQ (nightQ c) (k + 1) z = itQ (nfQ c) (k + 1) (shutQ z)
  | 0 => rfl
  | k + 1 => by
    have e := itQ_night (c := c) h k
    show nightQ c (itQ (nightQ c) (k + 1) z) = nfQ c (itQ (nfQ c) (k + 1) (shutQ z))
    rw [e]
    have ho : qO (itQ (nfQ c) (k + 1) (shutQ z)) = false := by
      show (itQ (nfQ c) (k + 1) (shutQ z)).2.2.2 = false
      rw [itQ_kind]
      exact shut_no z h
    unfold nightQ
    have e2 : shutQ (itQ (nfQ c) (k + 1) (shutQ z)) = itQ (nfQ c) (k + 1) (shutQ z) := by
      unfold shutQ
      rw [if_neg (by rw [show (if qO z = true then (qB z / 3, pShut (qK z), 0, false) else z) = shutQ z from rfl, ho]; decide)]
    rw [e2]
    rfl
theorem itQ_ok {f : Yq → Yq} (hf : ∀ z, okQ z → okQ (f z)) {z : Yq} (h : okQ z) : ∀ k, okQ (itQ f k z)
  | 0 => h
  | k + 1 => hf _ (itQ_ok hf h k)
theorem nf_ok {c : Int32} {z : Yq} (h : okQ z) (hc : 0 ≤ c.toInt ∧ c.toInt ≤ 30) : okQ (nfQ c z) := ⟨thick_ok h.1 hc, h.2.1, h.2.2.1, h.2.2.2⟩
/-! draws -/
def drawS (sd : Int32) : Int32 := ((sd.toInt64 * 1103515245 + 12345) &&& 2147483647).toInt32
def drawV (sd n : Int32) : Int32 := drawS sd / 65536 - drawS sd / 65536 / n * n
def driftQ (sd : Int32) (z : Yq) : Yq := if drawV sd 5 = 0 then thawQ (drawV (drawS sd) 40) z else nightQ (drawV (drawS sd) 31) z
theorem yA.fin {f : Yq → Yq} {q : Nat → Yq} {n i : Nat} {kd ic br : Nat → Int32} (h : yA (mixQ f q i) n kd ic br) (hi : n ≤ i) : yA (fun y => f (q y)) n kd ic br := fun y hy => by
  have h2 := h y hy
  rw [mixQ_lt (Nat.lt_of_lt_of_le hy hi)] at h2
  exact h2
