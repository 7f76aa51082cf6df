/-! the groups: what the objects hold, by their addresses -/
abbrev tyA (c4 : Nat → ClassId) : List (ClassId × FieldType) := [(c4 0, .int), (c4 1, .boolean), (c4 2, .object RX5), (c4 3, .object RX6)]
/-- a row of ints -/
abbrev aG (c4 : Nat → ClassId) (a n : Nat) (f : Nat → Int32) : va_W := [(a, .inl (c4 0, n, .inl f))]
/-- a row of booleans -/
abbrev zG (c4 : Nat → ClassId) (a n : Nat) (f : Nat → Int32) : va_W := [(a, .inl (c4 1, n, .inl f))]
/-- Yards -/
abbrev yG (c4 : Nat → ClassId) (a : Nat → Nat) (n os : Int32) (kd ic br : Nat → Int32) : va_W := [(a 0, .inr (6, [.int n, .int os, .ref (a 1), .ref (a 2), .ref (a 3)])), (a 1, .inl (c4 0, 12, .inl kd)), (a 2, .inl (c4 0, 12, .inl ic)), (a 3, .inl (c4 0, 12, .inl br))]
/-- Winter (its Yards are another group) -/
abbrev wG (b y : Nat) (bt nt sd : Int32) : va_W := [(b, .inr (5, [.ref y, .int bt, .int nt, .int sd]))]
/-- Boat -/
abbrev bG (c4 : Nat → ClassId) (a : Nat → Nat) (nb : Nat → Int32) : va_W := [(a 0, .inr (0, [.ref (a 1)])), (a 1, .inl (c4 0, 9, .inl nb))]
/-- Trip -/
abbrev tG (c4 : Nat → ClassId) (a : Nat → Nat) (bh mi fb : Int32) (ba : Nat → Int32) : va_W := [(a 0, .inr (4, [.int bh, .int mi, .int fb, .ref (a 1)])), (a 1, .inl (c4 0, 12, .inl ba))]
/-- Records -/
abbrev rG (c4 : Nat → ClassId) (a : Nat → Nat) (bc ec : Int32) (by0 bn bd bi ey ei : Nat → Int32) : va_W := [(a 0, .inr (1, [.int bc, .int ec, .ref (a 1), .ref (a 2), .ref (a 3), .ref (a 4), .ref (a 5), .ref (a 6)])), (a 1, .inl (c4 0, 10, .inl by0)), (a 2, .inl (c4 0, 10, .inl bn)), (a 3, .inl (c4 0, 10, .inl bd)), (a 4, .inl (c4 0, 10, .inl bi)), (a 5, .inl (c4 0, 15, .inl ey)), (a 6, .inl (c4 0, 15, .inl ei))]
/-- Text -/
abbrev xG (c4 : Nat → ClassId) (a : Nat → Nat) (ln yc fn fp pl cs : Int32) (lt nb yk yi : Nat → Int32) : va_W := [(a 0, .inr (3, [.ref (a 1), .int ln, .ref (a 2), .ref (a 3), .ref (a 4), .int yc, .int fn, .int fp, .int pl, .int cs])), (a 1, .inl (c4 0, 230, .inl lt)), (a 2, .inl (c4 0, 9, .inl nb)), (a 3, .inl (c4 0, 12, .inl yk)), (a 4, .inl (c4 0, 12, .inl yi))]
/-- Search (its Trip and its levels' Yards are other groups) -/
abbrev sG (c4 : Nat → ClassId) (a : Nat → Nat) (tr : Nat) (lc lS dp mi fo ax co th pe cd dc wc : Int32) (lv : Nat → Option Nat) : va_W := [(a 0, .inr (2, [.int lc, .int lS, .ref tr, .ref (a 1), .int dp, .int mi, .int fo, .int ax, .int co, .int th, .int pe, .int cd, .int dc, .int wc])), (a 1, .inl (c4 3, 9, .inr (.inr (.inr (.inr lv)))))]
/-- IceSway (all that it holds are other groups) -/
abbrev iG (ad : Nat → Nat → Nat) (fp : Int32) : va_W := [(ad 0 0, .inr (7, [.ref (ad 1 0), .ref (ad 2 0), .ref (ad 3 0), .ref (ad 5 0), .ref (ad 6 0), .ref (ad 7 0), .ref (ad 8 0), .ref (ad 9 0), .ref (ad 10 0), .int fp]))]
/-- the images' row -/
abbrev gG (c4 : Nat → ClassId) (a : Nat) (f : Nat → Option Nat) : va_W := [(a, .inl (c4 2, 2, .inr (.inr (.inr (.inr f)))))]
/-- the reference's object (its rows are other groups) -/
abbrev mG (a : Nat → Nat) (yn tx pl st va fy fa ry se bh mi fb bo bk : Int32) : va_W := [(a 0, .inr (8, [.ref (a 1), .ref (a 2), .int yn, .ref (a 3), .ref (a 4), .int tx, .int pl, .int st, .int va, .int fy, .int fa, .int ry, .int se, .ref (a 5), .ref (a 6), .ref (a 7), .int bh, .int mi, .int fb, .ref (a 8), .int bo, .ref (a 9), .ref (a 10), .ref (a 11), .ref (a 12), .int bk, .ref (a 13), .ref (a 14)]))]
/-! how a method's walk begins: its end is taken as given ('kr') -/
section BEGINS
variable {l : Launch} {y : MethodName} {ws ws' : List Cond} {fr lo : Nat} {av : List Value} {D : va_G} {tys : List (ClassId × FieldType)} {A : Nat → Prop} {o : Option (Nat → Nat)} {G : List va_W} {cc : ByteArray} {maxL : Nat} {lv : List (Nat × Value)} {S : Type} {G' : S → List va_W}
theorem cOi {post : Int32 → S → Prop} (hy : plainName y.cls = true) (hw : ws = Cond.code y cc maxL (some .int) :: ws') (hn : (lg_sl av).length ≤ maxL) (hlv : lv_args 0 av = lv)
    (body : ∀ (p : Program) (e : Env) (s : State) (m : MethodId) (below : List Frame) (meth : Method) (c : Code) (ls : Array Slot) (args : Array Value) (R : Room) (Q : State → Prop) (H : Heap) (locs : List Loc), R.frames = fr → R.locals = lo → cGo p s m meth c args cc maxL (some .int) ws y.cls D tys A o → gW D A s.heap G H locs → lv_has ls maxL lv →
      (∀ (v : Int32) (u : S) (H : Heap) (locs : List Loc) (pc : Nat) (ls : Array Slot), gW D A s.heap (G' u) H locs → post v u → decode cc pc = .ok (.ireturn, 1) → W p l e R s m args below meth c H locs 0 0 Q (F0 m pc ls [.int v])) →
      W p l e R s m args below meth c H locs 0 0 Q (F0 m 0 ls [])) : Ci l y ws fr lo av D tys A o G post G' :=
  cOf hy hw hn hlv (fun p e s m below meth c ls hg hw hl => body p e s m below meth c ls _ _ _ _ _ rfl rfl hg hw hl (fun v u H locs pc ls hw hp hd => r_iret hg.1 hg.2.1 hg.2.2.2.1 hg.2.2.2.2.2.2.1 u hw hp hd))
theorem cOz {post : Int32 → S → Prop} (hy : plainName y.cls = true) (hw : ws = Cond.code y cc maxL (some .boolean) :: ws') (hn : (lg_sl av).length ≤ maxL) (hlv : lv_args 0 av = lv)
    (body : ∀ (p : Program) (e : Env) (s : State) (m : MethodId) (below : List Frame) (meth : Method) (c : Code) (ls : Array Slot) (args : Array Value) (R : Room) (Q : State → Prop) (H : Heap) (locs : List Loc), R.frames = fr → R.locals = lo → cGo p s m meth c args cc maxL (some .boolean) ws y.cls D tys A o → gW D A s.heap G H locs → lv_has ls maxL lv →
      (∀ (v : Int32) (u : S) (H : Heap) (locs : List Loc) (pc : Nat) (ls : Array Slot), gW D A s.heap (G' u) H locs → narrow .boolean (.int v) = .int v → post v u → decode cc pc = .ok (.ireturn, 1) → W p l e R s m args below meth c H locs 0 0 Q (F0 m pc ls [.int v])) →
      W p l e R s m args below meth c H locs 0 0 Q (F0 m 0 ls [])) : Ci l y ws fr lo av D tys A o G post G' :=
  cOf hy hw hn hlv (fun p e s m below meth c ls hg hw hl => body p e s m below meth c ls _ _ _ _ _ rfl rfl hg hw hl (fun v u H locs pc ls hw hnr hp hd => r_zret hg.1 hg.2.1 hg.2.2.2.1 hg.2.2.2.2.2.2.1 u hnr hw hp hd))
theorem cOl {post : Int64 → S → Prop} (hy : plainName y.cls = true) (hw : ws = Cond.code y cc maxL (some .long) :: ws') (hn : (lg_sl av).length ≤ maxL) (hlv : lv_args 0 av = lv)
    (body : ∀ (p : Program) (e : Env) (s : State) (m : MethodId) (below : List Frame) (meth : Method) (c : Code) (ls : Array Slot) (args : Array Value) (R : Room) (Q : State → Prop) (H : Heap) (locs : List Loc), R.frames = fr → R.locals = lo → cGo p s m meth c args cc maxL (some .long) ws y.cls D tys A o → gW D A s.heap G H locs → lv_has ls maxL lv →
      (∀ (v : Int64) (u : S) (H : Heap) (locs : List Loc) (pc : Nat) (ls : Array Slot), gW D A s.heap (G' u) H locs → post v u → decode cc pc = .ok (.lreturn, 1) → W p l e R s m args below meth c H locs 0 0 Q (F0 m pc ls [.long v])) →
      W p l e R s m args below meth c H locs 0 0 Q (F0 m 0 ls [])) : Cl l y ws fr lo av D tys A o G post G' :=
  cOf hy hw hn hlv (fun p e s m below meth c ls hg hw hl => body p e s m below meth c ls _ _ _ _ _ rfl rfl hg hw hl (fun v u H locs pc ls hw hp hd => r_lret hg.1 hg.2.1 hg.2.2.2.1 hg.2.2.2.2.2.2.1 u hw hp hd))
theorem cOv {post : S → Prop} (hy : plainName y.cls = true) (hw : ws = Cond.code y cc maxL none :: ws') (hn : (lg_sl av).length ≤ maxL) (hlv : lv_args 0 av = lv)
    (body : ∀ (p : Program) (e : Env) (s : State) (m : MethodId) (below : List Frame) (meth : Method) (c : Code) (ls : Array Slot) (args : Array Value) (R : Room) (Q : State → Prop) (H : Heap) (locs : List Loc), R.frames = fr → R.locals = lo → cGo p s m meth c args cc maxL none ws y.cls D tys A o → gW D A s.heap G H locs → lv_has ls maxL lv →
      (∀ (u : S) (H : Heap) (locs : List Loc) (pc : Nat) (ls : Array Slot), gW D A s.heap (G' u) H locs → post u → decode cc pc = .ok (.return_, 1) → W p l e R s m args below meth c H locs 0 0 Q (F0 m pc ls [])) →
      W p l e R s m args below meth c H locs 0 0 Q (F0 m 0 ls [])) : Cv l y ws fr lo av D tys A o G post G' :=
  cOf hy hw hn hlv (fun p e s m below meth c ls hg hw hl => body p e s m below meth c ls _ _ _ _ _ rfl rfl hg hw hl (fun u H locs pc ls hw hp hd => r_vret hg.1 hg.2.1 hg.2.2.2.1 hg.2.2.2.2.2.2.1 u hw hp hd))
end BEGINS
theorem rmv {fr lo mL Rf Rl : Nat} (h1 : fr + 1 ≤ Rf) (h2 : 8 + (mL + 11) + lo ≤ Rl) {R : Room} (hf : R.frames = Rf) (hl : R.locals = Rl) : fr + 1 ≤ R.frames ∧ 8 + (mL + 11) + lo ≤ R.locals := by
  rw [hf, hl]; exact ⟨h1, h2⟩
