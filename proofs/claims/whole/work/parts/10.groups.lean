/-! the groups: what the objects hold, by their addresses -/
abbrev tyA (c4 : Nat → ClassId) : List (ClassId × FieldType) := [(c4 0, .int), (c4 1, .boolean), (c4 2, .object RX5), (c4 3, .object RX6)]
/-- a row of ints -/
abbrev aG (c4 : Nat → ClassId) (a n : Nat) (f : Nat → Int32) : va_W := [(a, .inl (c4 0, n, .inl f))]
/-- a row of booleans -/
abbrev zG (c4 : Nat → ClassId) (a n : Nat) (f : Nat → Int32) : va_W := [(a, .inl (c4 1, n, .inl f))]
/-- Yards -/
abbrev yG (c4 : Nat → ClassId) (a : Nat → Nat) (n os : Int32) (kd ic br : Nat → Int32) : va_W := [(a 0, .inr (6, [.int n, .int os, .ref (a 1), .ref (a 2), .ref (a 3)])), (a 1, .inl (c4 0, 12, .inl kd)), (a 2, .inl (c4 0, 12, .inl ic)), (a 3, .inl (c4 0, 12, .inl br))]
/-- Winter (its Yards are another group) -/
abbrev wG (b y : Nat) (bt nt sd : Int32) : va_W := [(b, .inr (5, [.ref y, .int bt, .int nt, .int sd]))]
/-- Boat -/
abbrev bG (c4 : Nat → ClassId) (a : Nat → Nat) (nb : Nat → Int32) : va_W := [(a 0, .inr (0, [.ref (a 1)])), (a 1, .inl (c4 0, 9, .inl nb))]
/-- Trip -/
abbrev tG (c4 : Nat → ClassId) (a : Nat → Nat) (bh mi fb : Int32) (ba : Nat → Int32) : va_W := [(a 0, .inr (4, [.int bh, .int mi, .int fb, .ref (a 1)])), (a 1, .inl (c4 0, 12, .inl ba))]
/-- Records -/
abbrev rG (c4 : Nat → ClassId) (a : Nat → Nat) (bc ec : Int32) (by0 bn bd bi ey ei : Nat → Int32) : va_W := [(a 0, .inr (1, [.int bc, .int ec, .ref (a 1), .ref (a 2), .ref (a 3), .ref (a 4), .ref (a 5), .ref (a 6)])), (a 1, .inl (c4 0, 10, .inl by0)), (a 2, .inl (c4 0, 10, .inl bn)), (a 3, .inl (c4 0, 10, .inl bd)), (a 4, .inl (c4 0, 10, .inl bi)), (a 5, .inl (c4 0, 15, .inl ey)), (a 6, .inl (c4 0, 15, .inl ei))]
/-- Text -/
abbrev xG (c4 : Nat → ClassId) (a : Nat → Nat) (ln yc fn fp pl cs : Int32) (lt nb yk yi : Nat → Int32) : va_W := [(a 0, .inr (3, [.ref (a 1), .int ln, .ref (a 2), .ref (a 3), .ref (a 4), .int yc, .int fn, .int fp, .int pl, .int cs])), (a 1, .inl (c4 0, 230, .inl lt)), (a 2, .inl (c4 0, 9, .inl nb)), (a 3, .inl (c4 0, 12, .inl yk)), (a 4, .inl (c4 0, 12, .inl yi))]
/-- Search (its Trip and its levels' Yards are other groups) -/
abbrev sG (c4 : Nat → ClassId) (a : Nat → Nat) (lc lS dp mi fo ax co th pe cd dc wc : Int32) (lv : Nat → Option Nat) : va_W := [(a 0, .inr (2, [.int lc, .int lS, .ref (a 1), .ref (a 2), .int dp, .int mi, .int fo, .int ax, .int co, .int th, .int pe, .int cd, .int dc, .int wc])), (a 2, .inl (c4 3, 9, .inr (.inr (.inr (.inr lv)))))]
/-- IceSway (all that it holds are other groups) -/
abbrev iG (a : Nat → Nat) (fp : Int32) : va_W := [(a 0, .inr (7, [.ref (a 1), .ref (a 2), .ref (a 3), .ref (a 4), .ref (a 5), .ref (a 6), .ref (a 7), .ref (a 8), .ref (a 9), .int fp]))]
/-- the images' row -/
abbrev gG (c4 : Nat → ClassId) (a : Nat) (f : Nat → Option Nat) : va_W := [(a, .inl (c4 2, 2, .inr (.inr (.inr (.inr f)))))]
/-- the reference's object (its rows are other groups) -/
abbrev mG (a : Nat → Nat) (yn tx pl st va fy fa ry se bh mi fb bo bk : Int32) : va_W := [(a 0, .inr (8, [.ref (a 1), .ref (a 2), .int yn, .ref (a 3), .ref (a 4), .int tx, .int pl, .int st, .int va, .int fy, .int fa, .int ry, .int se, .ref (a 5), .ref (a 6), .ref (a 7), .int bh, .int mi, .int fb, .ref (a 8), .int bo, .ref (a 9), .ref (a 10), .ref (a 11), .ref (a 12), .int bk, .ref (a 13), .ref (a 14)]))]
