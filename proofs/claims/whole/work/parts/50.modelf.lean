/-! a day out, in the reference -/
theorem mtk_eq {k i f x : Int32} (hi : iceOk i) (hf : rng f 4 108) : (if i ≤ f then (if i = 0 then 1 else 1 + 10 * i / f) else 2 * (if i = 0 then 1 else 1 + 10 * i / f)) + (if i ≤ 0 then 0 else if k = 2 then x else 0) = pTake k i f x := by
  unfold pTake
  have e0 : (0 : Int32).toInt = 0 := rfl
  unfold iceOk at hi
  unfold rng at hf
  by_cases c : i = 0
  · subst c
    rw [if_pos (show (0 : Int32) ≤ f by rw [fa_le, e0]; omega), if_pos rfl, if_pos (show (0 : Int32) ≤ 0 by decide), if_pos rfl]; rfl
  · have c2 : ¬ i ≤ 0 := fun z => c (by rw [fa_eq, e0]; rw [fa_le, e0] at z; omega)
    rw [if_neg c, if_neg c, if_neg c2]
    by_cases d : i ≤ f
    · rw [if_pos d, if_neg (show ¬ f < i by rw [fa_lt]; rw [fa_le] at d; omega)]
      by_cases e : k = 2
      · rw [if_pos e, if_pos e]
      · rw [if_neg e, if_neg e, Int32.add_zero]
    · rw [if_neg d, if_pos (show f < i by rw [fa_lt]; rw [fa_le] at d; omega)]
      by_cases e : k = 2
      · rw [if_pos e, if_pos e]
      · rw [if_neg e, if_neg e, Int32.add_zero]
theorem f_nz {f : Int32} (h : rng f 4 108) : ¬ f = 0 := fun z => by
  subst z; unfold rng at h; rw [show (0 : Int32).toInt = 0 from rfl] at h; omega
theorem mo_no {q : Nat → Yq} {n k h : Nat} {w : Nat → Int32} (hY : mY (mixQ openQ q k) n w h) (c : qI (q k) ≤ 0) : mY (mixQ openQ q (k + 1)) n w h := by
  refine hY.cong fun y hy => ?_
  by_cases d : y = k
  · subst d
    rw [mixQ_lt (Nat.lt_succ_self y), mixQ_at]
    unfold openQ
    rw [if_neg (fun z => by rw [fa_lt] at z; rw [fa_le] at c; omega)]
  · exact mixQ_ne d
theorem mo_yes {q : Nat → Yq} {n k h : Nat} {w : Nat → Int32} (hn : n ≤ 12) (hk : k < n) (hY : mY (mixQ openQ q k) n w h) (c : ¬ qI (q k) ≤ 0) : mY (mixQ openQ q (k + 1)) n (upd (upd (upd w (h + 24 + k) (qI (q k))) (h + 0 + k) 0) (h + 36 + k) 1) h := by
  have hz := hY k hk
  rw [mixQ_at] at hz
  have es : openQ (q k) = (0, qK (q k), qI (q k), true) := by unfold openQ; rw [if_pos (by rw [fa_lt]; rw [fa_le] at c; omega)]
  have e5 : mixQ openQ q (k + 1) k = (0, qK (q k), qI (q k), true) := by rw [mixQ_lt (Nat.lt_succ_self k), es]
  refine hY.set hn hk (fun y hy => mixQ_ne hy) (by rw [mixQ_lt (Nat.lt_succ_self k)]; exact open_ok hz.1) ?_ ?_ ?_ ?_ (fun j a b d e => ?_)
  · rw [e5, pk_un' _ _ (by omega), show h + k = h + 0 + k by omega, pk_us']
  · rw [e5, pk_un' _ _ (by omega), pk_un' _ _ (by omega), pk_un' _ _ (by omega)]; exact hz.2.2.1
  · rw [e5, pk_un' _ _ (by omega), pk_un' _ _ (by omega), show h + (24 + k) = h + 24 + k by omega, pk_us']
  · rw [e5, show h + (36 + k) = h + 36 + k by omega, pk_us']; rfl
  · rw [pk_un' _ _ (by omega), pk_un' _ _ (by omega), pk_un' _ _ (by omega)]
theorem mba_step {f x : Int32} {q : Nat → Yq} {ba : Nat → Int32} {k : Nat} (h : ∀ j, j < k → ba j = cumQ f x q (j + 1)) : ∀ j, j < k + 1 → upd ba k (cumQ f x q (k + 1)) j = cumQ f x q (j + 1) := fun j hj => by
  by_cases c : j = k
  · subst c; exact pk_us' _ _ _
  · rw [pk_un' _ _ c]; exact h j (by omega)
theorem cp_in {w : Nat → Int32} {f g j : Nat} (h : j < 51) : fb_put w (fun k => w (f + k)) g 51 (g + j) = w (f + j) := by rw [fb_put_in (by omega) (by omega), Nat.add_sub_cancel_left]
theorem cp_mY {q : Nat → Yq} {n f g : Nat} {w : Nat → Int32} (hn : n ≤ 12) (hY : mY q n w f) : mY q n (fb_put w (fun k => w (f + k)) g 51) g := fun y hy => by
  rw [cp_in (by omega), cp_in (by omega), cp_in (by omega), cp_in (by omega)]
  exact hY y hy
/-- now and the images stay -/
def wNow (w w2 : Nat → Int32) : Prop := ∀ j, (j < 51 ∨ 102 ≤ j) → w2 j = w j
theorem wNow.of {w w2 : Nat → Int32} {f : Nat} (h : wOut 51 (fb_put w (fun k => w (f + k)) 51 51) w2) : wNow w w2 := fun j hj => (h j (by omega)).trans (fb_put_out (by omega))
