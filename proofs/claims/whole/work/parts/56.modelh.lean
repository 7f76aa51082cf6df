theorem mY.now {q : Nat → Yq} {n : Nat} {w w2 : Nat → Int32} (hY : mY q n w 0) (hn : n ≤ 12) (h : wNow w w2) : mY q n w2 0 := hY.out hn fun j _ hj => h j (by omega)
theorem wNow.rf (w : Nat → Int32) : wNow w w := fun _ _ => rfl
theorem wNow.tr {a b c : Nat → Int32} (x : wNow a b) (y : wNow b c) : wNow a c := fun j hj => (y j hj).trans (x j hj)
