/-! the law: seed, images, cut -/
theorem sd_case {n : Nat} {q : Nat → Yq} {os : Int32} {kd ic br w w2 : Nat → Int32} {bt nt sd sd2 v r r2 : Int32} (h : RL1 n q os kd ic br w bt nt sd) (e1 : (r, sd2) = seedF v sd) (e2 : (0 ≤ v ∧ r2 = w 50 ∧ w2 = upd w 50 v) ∨ (¬ 0 ≤ v ∧ r2 = OUT ∧ w2 = w)) : r = r2 ∧ RL1 n q os kd ic br w2 bt nt sd2 ∧ ∀ j, 102 ≤ j → w2 j = w j := by
  unfold seedF at e1
  rcases e2 with ⟨c, a1, a2⟩ | ⟨c, a1, a2⟩
  · rw [if_pos c] at e1
    have d1 : r = sd := congrArg Prod.fst e1
    have d2 : sd2 = v := congrArg Prod.snd e1
    subst d2; subst a2
    exact ⟨by rw [d1, a1, h.2.2.2.2.2.1], h.sd c, fun j hj => pk_un' _ _ (by omega)⟩
  · rw [if_neg c] at e1
    have d1 : r = OUT := congrArg Prod.fst e1
    have d2 : sd2 = sd := congrArg Prod.snd e1
    subst d2; subst a2
    exact ⟨by rw [d1, a1], h, fun j hj => rfl⟩
theorem nI01 {k : Nat} (hk : k ≤ 1) : (nI k = 0 → k = 0) ∧ (nI k = 1 → k = 1) := by
  have h : k = 0 ∨ k = 1 := by omega
  rcases h with h | h <;> subst h
  · exact ⟨fun _ => rfl, fun z => absurd z (by decide)⟩
  · exact ⟨fun z => absurd z (by decide), fun _ => rfl⟩
theorem nI_in01 {k : Nat} (hk : k ≤ 1) : inR (nI k) 0 1 := by
  have h : k = 0 ∨ k = 1 := by omega
  rcases h with h | h <;> subst h <;> decide
/-- an image is made -/
theorem im_new {n k h : Nat} {q : Nat → Yq} {kp mkp w w2 : Nat → Int32} {os bt nt sd : Int32} {kd ic br : Nat → Int32} {z : Im} (g : RL1 n q os kd ic br w bt nt sd) (hz : imN n q bt nt sd z) (hh : 102 ≤ h) (e : w2 = fb_put w (fun j => w (0 + j)) h 51) : RLI n h k (upd kp k 1) (upd mkp k 1) w2 q z.1 z.2.1 z.2.2.1 z.2.2.2.1 z.2.2.2.2.1 z.2.2.2.2.2.1 z.2.2.2.2.2.2.1 z.2.2.2.2.2.2.2 := by
  subst e
  refine ⟨by rw [pk_us', pk_us'], fun _ => ?_⟩
  obtain ⟨h1, h2, h3, h4, h5, h6, h7, h8⟩ := g
  obtain ⟨z1, z2, z3, z4, z5⟩ := hz
  refine ⟨z1, z2, cp_mY h1 h3, ?_, ?_, ?_, by rw [z3]; exact h7, by rw [z5]; exact h8⟩
  · rw [cp_in (by omega), z3]; exact h4
  · rw [cp_in (by omega), z4]; exact h5
  · rw [cp_in (by omega), z5]; exact h6
theorem im_old {n h k i g : Nat} {qi : Nat → Yq} {kp mkp w f : Nat → Int32} {jn io ib it iz : Int32} {ik ii ir : Nat → Int32} (x : RLI n h k kp mkp w qi jn io ib it iz ik ii ir) (hk : ¬ k = i) (hn : n ≤ 12) (hh : h + 51 ≤ g ∨ g + 51 ≤ h) : RLI n h k (upd kp i 1) (upd mkp i 1) (fb_put w f g 51) qi jn io ib it iz ik ii ir := by
  refine ⟨by rw [pk_un' _ _ hk, pk_un' _ _ hk]; exact x.1, fun c => ?_⟩
  rw [pk_un' _ _ hk] at c
  obtain ⟨h0, h1, h2, h3, h4, h5, h6⟩ := x.2 c
  refine ⟨h0, h1, fun y hy => ?_, ?_, ?_, ?_, h6⟩
  · rw [fb_put_out (by omega), fb_put_out (by omega), fb_put_out (by omega), fb_put_out (by omega)]; exact h2 y hy
  · rw [fb_put_out (by omega)]; exact h3
  · rw [fb_put_out (by omega)]; exact h4
  · rw [fb_put_out (by omega)]; exact h5
theorem rl1_put {n g : Nat} {q : Nat → Yq} {os : Int32} {kd ic br w f : Nat → Int32} {bt nt sd : Int32} (h : RL1 n q os kd ic br w bt nt sd) (hg : 51 ≤ g) : RL1 n q os kd ic br (fb_put w f g 51) bt nt sd := by
  obtain ⟨h1, h2, h3, h4, h5, h6, h7⟩ := h
  refine ⟨h1, h2, h3.out h1 (fun j _ hj => fb_put_out (by omega)), ?_, ?_, ?_, h7⟩
  · rw [fb_put_out (by omega)]; exact h4
  · rw [fb_put_out (by omega)]; exact h5
  · rw [fb_put_out (by omega)]; exact h6
abbrev RIm (n h k : Nat) (kp mkp w : Nat → Int32) (qi : Nat → Yq) (z : Im) : Prop := RLI n h k kp mkp w qi z.1 z.2.1 z.2.2.1 z.2.2.2.1 z.2.2.2.2.1 z.2.2.2.2.2.1 z.2.2.2.2.2.2.1 z.2.2.2.2.2.2.2
theorem kp_case {n : Nat} {q q0 q1 : Nat → Yq} {os : Int32} {kd ic br w w2 kp mkp kp2 mkp2 : Nat → Int32} {bt nt sd v r r2 : Int32} {m0 m1 z0 z1 : Im} (h : RL1 n q os kd ic br w bt nt sd) (i0 : RIm n 102 0 kp mkp w q0 m0) (i1 : RIm n 153 1 kp mkp w q1 m1) (hK : keepP n q bt nt sd v r kp kp2 m0 m1 z0 z1)
    (hM : (∃ k, k ≤ 1 ∧ v = nI k ∧ r2 = 1 ∧ w2 = fb_put w (fun j => w (0 + j)) (102 + 51 * k) 51 ∧ mkp2 = upd mkp k 1) ∨ (¬ inR v 0 1 ∧ r2 = UNK ∧ w2 = w ∧ mkp2 = mkp)) :
    r = r2 ∧ ∃ q2 q3, RL1 n q os kd ic br w2 bt nt sd ∧ RIm n 102 0 kp2 mkp2 w2 q2 z0 ∧ RIm n 153 1 kp2 mkp2 w2 q3 z1 := by
  rcases hK with ⟨a1, a2, a3, a4, a5⟩ | ⟨a1, a2, a3, a4, a5⟩ | ⟨a1, a2, a3, a4, a5⟩ <;> rcases hM with ⟨k, b1, b2, b3, b4, b5⟩ | ⟨b1, b2, b3, b4⟩
  · have e : k = 0 := (nI01 b1).1 (b2.symm.trans a1)
    subst e; subst a3; subst b5; subst b4; subst a5
    exact ⟨a2.trans b3.symm, q, q1, rl1_put h (by decide), im_new h a4 (by decide) rfl, im_old i1 (by decide) h.1 (by decide)⟩
  · exact absurd (by rw [a1]; decide) b1
  · have e : k = 1 := (nI01 b1).2 (b2.symm.trans a1)
    subst e; subst a3; subst b5; subst b4; subst a4
    exact ⟨a2.trans b3.symm, q0, q, rl1_put h (by decide), im_old i0 (by decide) h.1 (by decide), im_new h a5 (by decide) rfl⟩
  · exact absurd (by rw [a1]; decide) b1
  · exact absurd (by rw [b2]; exact nI_in01 b1) a1
  · subst a3; subst b4; subst b3; subst a4; subst a5
    exact ⟨a2.trans b2.symm, q0, q1, h, i0, i1⟩
/-- back to an image -/
theorem im_back {n h k : Nat} {qi : Nat → Yq} {kp mkp w w2 : Nat → Int32} {z : Im} {os2 : Int32} {kd2 ic2 br2 : Nat → Int32} (x : RIm n h k kp mkp w qi z) (hn : n ≤ 12) (c : ¬ kp k = 0) (hy : yR qi n os2 kd2 ic2 br2) (hh : 102 ≤ h) (e : w2 = fb_put w (fun j => w (h + j)) 0 51) : RL1 n qi os2 kd2 ic2 br2 w2 z.2.2.1 z.2.2.2.1 z.2.2.2.2.1 ∧ ∀ j, 102 ≤ j → w2 j = w j := by
  subst e
  obtain ⟨h0, h1, h2, h3, h4, h5, h6, h7⟩ := x.2 c
  refine ⟨⟨hn, hy, cp_mY hn h2, ?_, ?_, ?_, h6, h7⟩, fun j hj => fb_put_out (by omega)⟩
  · have e := cp_in (w := w) (f := h) (g := 0) (j := 48) (by decide); rw [Nat.zero_add] at e; rw [e]; exact h3
  · have e := cp_in (w := w) (f := h) (g := 0) (j := 49) (by decide); rw [Nat.zero_add] at e; rw [e]; exact h4
  · have e := cp_in (w := w) (f := h) (g := 0) (j := 50) (by decide); rw [Nat.zero_add] at e; rw [e]; exact h5
theorem bk_case {n : Nat} {q q0 q1 : Nat → Yq} {os os2 : Int32} {kd ic br kd2 ic2 br2 w w2 kp mkp : Nat → Int32} {bt nt sd bt2 nt2 sd2 v r r2 : Int32} {m0 m1 : Im} (h : RL1 n q os kd ic br w bt nt sd) (i0 : RIm n 102 0 kp mkp w q0 m0) (i1 : RIm n 153 1 kp mkp w q1 m1)
    (hB : backP n q q0 q1 bt nt sd m0.2.2.1 m0.2.2.2.1 m0.2.2.2.2.1 m1.2.2.1 m1.2.2.2.1 m1.2.2.2.2.1 v r kp bt2 nt2 sd2 os2 kd2 ic2 br2)
    (hM : (∃ k, k ≤ 1 ∧ v = nI k ∧ ((¬ mkp k = 0 ∧ r2 = 1 ∧ w2 = fb_put w (fun j => w (102 + 51 * k + j)) 0 51) ∨ (mkp k = 0 ∧ r2 = NOTc ∧ w2 = w))) ∨ (¬ inR v 0 1 ∧ r2 = UNK ∧ w2 = w)) :
    r = r2 ∧ ∃ q2, RL1 n q2 os2 kd2 ic2 br2 w2 bt2 nt2 sd2 ∧ ∀ j, 102 ≤ j → w2 j = w j := by
  have hsame : yR q n os2 kd2 ic2 br2 → bt2 = bt → nt2 = nt → sd2 = sd → w2 = w → ∃ q2, RL1 n q2 os2 kd2 ic2 br2 w2 bt2 nt2 sd2 ∧ ∀ j, 102 ≤ j → w2 j = w j := fun y a b c d => by
    subst a; subst b; subst c; subst d
    exact ⟨q, ⟨h.1, y, h.2.2⟩, fun _ _ => rfl⟩
  rcases hB with ⟨a1, a2, a3, a4, a5, a6, a7⟩ | ⟨a1, a2, a3, a4, a5, a6, a7⟩ | ⟨a1, a2, a3, a4, a5, a6, a7⟩ | ⟨a1, a2, a4, a5, a6, a7⟩
  · rcases hM with ⟨k, b1, b2, b3⟩ | ⟨b1, _⟩
    · have e : k = 0 := (nI01 b1).1 (b2.symm.trans a1)
      subst e
      rcases b3 with ⟨c1, c2, c3⟩ | ⟨c1, _⟩
      · subst a4; subst a5; subst a6
        exact ⟨a3.trans c2.symm, q0, im_back i0 h.1 a2 a7 (by decide) c3⟩
      · exact absurd (i0.1.trans c1) a2
    · exact absurd (by rw [a1]; decide) b1
  · rcases hM with ⟨k, b1, b2, b3⟩ | ⟨b1, _⟩
    · have e : k = 1 := (nI01 b1).2 (b2.symm.trans a1)
      subst e
      rcases b3 with ⟨c1, c2, c3⟩ | ⟨c1, _⟩
      · subst a4; subst a5; subst a6
        exact ⟨a3.trans c2.symm, q1, im_back i1 h.1 a2 a7 (by decide) c3⟩
      · exact absurd (i1.1.trans c1) a2
    · exact absurd (by rw [a1]; decide) b1
  · rcases hM with ⟨k, b1, b2, b3⟩ | ⟨b1, _⟩
    · rw [b2, nI_clamp (by omega)] at a2
      rcases b3 with ⟨c1, _⟩ | ⟨c1, c2, c3⟩
      · have e : k = 0 ∨ k = 1 := by omega
        rcases e with e | e <;> subst e
        · exact absurd (i0.1.symm.trans a2) c1
        · exact absurd (i1.1.symm.trans a2) c1
      · exact ⟨a3.trans c2.symm, hsame a7 a4 a5 a6 c3⟩
    · exact absurd a1 b1
  · rcases hM with ⟨k, b1, b2, b3⟩ | ⟨b1, b2, b3⟩
    · exact absurd (by rw [b2]; exact nI_in01 b1) a1
    · exact ⟨a2.trans b2.symm, hsame a7 a4 a5 a6 b3⟩
/-- the cut's answers -/
theorem cu_er {lt : Nat → Int32} {ln : Nat} {n0 os0 bt nt : Int32} {bc ec : Nat} {kd0 ic0 br0 nb kp : Nat → Int32} {r fp2 n2 os2 bt2 nt2 bc2 ec2 : Int32} {kd2 ic2 br2 nb2 kp2 : Nat → Int32} {w told mk w2 t2 mk2 : Nat → Int32} {yn bo bk r2 yn2 bo2 bk2 fa2 : Int32} (h : cutP lt ln n0 os0 bt nt bc ec kd0 ic0 br0 nb kp r fp2 n2 os2 bt2 nt2 bc2 ec2 kd2 ic2 br2 nb2 kp2) (h2 : mcuP lt ln w told mk w2 t2 mk2 yn bo bk r2 yn2 bo2 bk2 fa2) : r = r2 := by
  rcases h with ⟨ys, np, a1, a2, _⟩ | ⟨z, k, a1, a2, _⟩ <;> rcases h2 with ⟨ys', np', b1, b2, _⟩ | ⟨z', k', b1, b2, _⟩
  · cases a1.symm.trans b1; exact a2.trans b2.symm
  · cases a1.symm.trans b1
  · cases a1.symm.trans b1
  · cases a1.symm.trans b1; exact a2.trans b2.symm
theorem tlOk.cong {a b : Nat → Int32} (h : tlOk a) (e : ∀ j, j < 9 → b j = a j) : tlOk b := by
  unfold tlOk
  rw [e 0 (by decide), e 1 (by decide), e 2 (by decide), e 3 (by decide), e 4 (by decide), e 5 (by decide), e 6 (by decide), e 7 (by decide), e 8 (by decide)]
  exact h
theorem rl2_0 (lt : Nat → Int32) : RL2 0 lt := ⟨by decide, fun i hi => absurd hi (Nat.not_lt_zero i)⟩
theorem mask31 (v : Int32) : ∃ k, k < 32 ∧ v &&& 31 = nI k := by
  have e : v = nI v.toBitVec.toNat := Int32.toBitVec_inj.mp (by show _ = BitVec.ofNat 32 _; simp)
  refine ⟨v.toBitVec.toNat % 2 ^ 5, Nat.mod_lt _ (by decide), ?_⟩
  conv => lhs; rw [e]
  rw [show (31 : Int32) = nI (2 ^ 5 - 1) from rfl, fa_mask]
theorem lenLe {L i : Nat} (hL : L ≤ 3072) (hi : i ≤ 4000) : (nI L - 6 < nI i) ↔ L < i + 6 := by
  rw [fa_lt, nI_toInt (by omega), show (nI L - 6).toInt = (L : Int) - 6 from pk_sub_toInt (a := L) (b := 6) (by omega) (by decide)]
  omega
