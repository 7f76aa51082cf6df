theorem md_eq {s : Nat} (hs : s < 2 ^ 31) : (((nI s).toInt64 * 1103515245 + 12345) - ((nI s).toInt64 * 1103515245 + 12345) / 2147483648 * 2147483648).toInt32 = drawS (nI s) := by
  unfold drawS
  have e : (nI s).toInt64 * 1103515245 + 12345 = lN (s * 1103515245 + 12345) := by rw [nI_l hs, show (1103515245 : Int64) = lN 1103515245 from rfl, show (12345 : Int64) = lN 12345 from rfl, lN_mul, lN_add]
  rw [e, show (2147483648 : Int64) = lN (2 ^ 31) from rfl, pk_lRem (by omega) (by decide) (by decide), show (2147483647 : Int64) = lN (2 ^ 31 - 1) from rfl, fb_maskL]
def sdOk (v : Int32) : Prop := ∃ s, s < 2 ^ 31 ∧ v = nI s
theorem md_w {v : Int32} (h : sdOk v) : ((v.toInt64 * 1103515245 + 12345) - (v.toInt64 * 1103515245 + 12345) / 2147483648 * 2147483648).toInt32 = drawS v := by
  obtain ⟨s, hs, e⟩ := h
  rw [e]; exact md_eq hs
theorem sdOk.dr (v : Int32) : sdOk (drawS v) := drawS_nat v
theorem sdI_ok {v : Int32} (h : sdOk v) : ∀ i, sdOk (sdI v i)
  | 0 => h
  | i + 1 => sdOk.dr _
