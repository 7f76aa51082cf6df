section
-- ===== PART A: goes FIRST, ahead of the names: the tables' words, and 'selects' of the private methods out of them =====
/-- a private method of a class that the tables say can be made, by its rows of tables_1 -/
def lw_okq (q : MethodName × Nat) : Prop := (q.1.cls ≠ "java/lang/invoke/MethodHandle" ∧ q.1.cls ≠ "java/lang/invoke/VarHandle") ∧ Cond.instantiable q.1.cls q.2 ∈ tables_1 ∧ Cond.privateMethod q.1 ∈ tables_1 ∧ Cond.instanceMethod q.1 ∈ tables_1
theorem lw_p0 : lw_okq (⟨"IceSway$Text", "skipBlanks", "()V"⟩, 10) := ⟨⟨by decide +kernel, by decide +kernel⟩, List.mem_of_getElem? (i := 20) (by decide +kernel), List.mem_of_getElem? (i := 308) (by decide +kernel), List.mem_of_getElem? (i := 309) (by decide +kernel)⟩
theorem lw_p1 : lw_okq (⟨"IceSway$Text", "isAtEnd", "()Z"⟩, 10) := ⟨⟨by decide +kernel, by decide +kernel⟩, List.mem_of_getElem? (i := 20) (by decide +kernel), List.mem_of_getElem? (i := 312) (by decide +kernel), List.mem_of_getElem? (i := 313) (by decide +kernel)⟩
theorem lw_p2 : lw_okq (⟨"IceSway$Text", "readClause", "()Z"⟩, 10) := ⟨⟨by decide +kernel, by decide +kernel⟩, List.mem_of_getElem? (i := 20) (by decide +kernel), List.mem_of_getElem? (i := 316) (by decide +kernel), List.mem_of_getElem? (i := 317) (by decide +kernel)⟩
theorem lw_p3 : lw_okq (⟨"IceSway$Text", "failAt", "(II)Z"⟩, 10) := ⟨⟨by decide +kernel, by decide +kernel⟩, List.mem_of_getElem? (i := 20) (by decide +kernel), List.mem_of_getElem? (i := 323) (by decide +kernel), List.mem_of_getElem? (i := 324) (by decide +kernel)⟩
theorem lw_p4 : lw_okq (⟨"IceSway$Text", "readYards", "()Z"⟩, 10) := ⟨⟨by decide +kernel, by decide +kernel⟩, List.mem_of_getElem? (i := 20) (by decide +kernel), List.mem_of_getElem? (i := 327) (by decide +kernel), List.mem_of_getElem? (i := 328) (by decide +kernel)⟩
theorem lw_p5 : lw_okq (⟨"IceSway$Text", "readYard", "(I)Z"⟩, 10) := ⟨⟨by decide +kernel, by decide +kernel⟩, List.mem_of_getElem? (i := 20) (by decide +kernel), List.mem_of_getElem? (i := 331) (by decide +kernel), List.mem_of_getElem? (i := 332) (by decide +kernel)⟩
theorem lw_p6 : lw_okq (⟨"IceSway$Text", "readNumber", "(II)I"⟩, 10) := ⟨⟨by decide +kernel, by decide +kernel⟩, List.mem_of_getElem? (i := 20) (by decide +kernel), List.mem_of_getElem? (i := 335) (by decide +kernel), List.mem_of_getElem? (i := 336) (by decide +kernel)⟩
theorem lw_p7 : lw_okq (⟨"IceSway$Text", "readClauseEnd", "()Z"⟩, 10) := ⟨⟨by decide +kernel, by decide +kernel⟩, List.mem_of_getElem? (i := 20) (by decide +kernel), List.mem_of_getElem? (i := 343) (by decide +kernel), List.mem_of_getElem? (i := 344) (by decide +kernel)⟩
theorem lw_p8 : lw_okq (⟨"IceSway$Text", "readNumbers", "(I)Z"⟩, 10) := ⟨⟨by decide +kernel, by decide +kernel⟩, List.mem_of_getElem? (i := 20) (by decide +kernel), List.mem_of_getElem? (i := 347) (by decide +kernel), List.mem_of_getElem? (i := 348) (by decide +kernel)⟩
theorem lw_p9 : lw_okq (⟨"IceSway", "forceNow", "()I"⟩, 10) := ⟨⟨by decide +kernel, by decide +kernel⟩, List.mem_of_getElem? (i := 12) (by decide +kernel), List.mem_of_getElem? (i := 400) (by decide +kernel), List.mem_of_getElem? (i := 401) (by decide +kernel)⟩
theorem lw_p10 : lw_okq (⟨"IceSway$Yards", "shutOpen", "()V"⟩, 5) := ⟨⟨by decide +kernel, by decide +kernel⟩, List.mem_of_getElem? (i := 84) (by decide +kernel), List.mem_of_getElem? (i := 445) (by decide +kernel), List.mem_of_getElem? (i := 446) (by decide +kernel)⟩
theorem lw_p11 : lw_okq (⟨"IceSway", "goFromNow", "(I)V"⟩, 10) := ⟨⟨by decide +kernel, by decide +kernel⟩, List.mem_of_getElem? (i := 12) (by decide +kernel), List.mem_of_getElem? (i := 489) (by decide +kernel), List.mem_of_getElem? (i := 490) (by decide +kernel)⟩
theorem lw_p12 : lw_okq (⟨"IceSway$Winter", "draw", "(I)I"⟩, 4) := ⟨⟨by decide +kernel, by decide +kernel⟩, List.mem_of_getElem? (i := 78) (by decide +kernel), List.mem_of_getElem? (i := 516) (by decide +kernel), List.mem_of_getElem? (i := 517) (by decide +kernel)⟩
theorem lw_p13 : lw_okq (⟨"IceSway$Trip", "isBackInGap", "(II)Z"⟩, 4) := ⟨⟨by decide +kernel, by decide +kernel⟩, List.mem_of_getElem? (i := 169) (by decide +kernel), List.mem_of_getElem? (i := 565) (by decide +kernel), List.mem_of_getElem? (i := 566) (by decide +kernel)⟩
theorem lw_p14 : lw_okq (⟨"IceSway$Search", "tryDay", "(IIII)V"⟩, 14) := ⟨⟨by decide +kernel, by decide +kernel⟩, List.mem_of_getElem? (i := 194) (by decide +kernel), List.mem_of_getElem? (i := 601) (by decide +kernel), List.mem_of_getElem? (i := 602) (by decide +kernel)⟩
theorem lw_p15 : lw_okq (⟨"IceSway$Search", "takeIfBetter", "(II)V"⟩, 14) := ⟨⟨by decide +kernel, by decide +kernel⟩, List.mem_of_getElem? (i := 194) (by decide +kernel), List.mem_of_getElem? (i := 605) (by decide +kernel), List.mem_of_getElem? (i := 606) (by decide +kernel)⟩
def lw_privs_1 : List (MethodName × Nat) := [(⟨"IceSway$Text", "skipBlanks", "()V"⟩, 10), (⟨"IceSway$Text", "isAtEnd", "()Z"⟩, 10), (⟨"IceSway$Text", "readClause", "()Z"⟩, 10), (⟨"IceSway$Text", "failAt", "(II)Z"⟩, 10), (⟨"IceSway$Text", "readYards", "()Z"⟩, 10), (⟨"IceSway$Text", "readYard", "(I)Z"⟩, 10), (⟨"IceSway$Text", "readNumber", "(II)I"⟩, 10), (⟨"IceSway$Text", "readClauseEnd", "()Z"⟩, 10), (⟨"IceSway$Text", "readNumbers", "(I)Z"⟩, 10), (⟨"IceSway", "forceNow", "()I"⟩, 10), (⟨"IceSway$Yards", "shutOpen", "()V"⟩, 5), (⟨"IceSway", "goFromNow", "(I)V"⟩, 10), (⟨"IceSway$Winter", "draw", "(I)I"⟩, 4), (⟨"IceSway$Trip", "isBackInGap", "(II)Z"⟩, 4), (⟨"IceSway$Search", "tryDay", "(IIII)V"⟩, 14), (⟨"IceSway$Search", "takeIfBetter", "(II)V"⟩, 14)]
theorem lw_r1 : ∀ q ∈ lw_privs_1, lw_okq q := List.forall_mem_cons.mpr ⟨lw_p0, List.forall_mem_cons.mpr ⟨lw_p1, List.forall_mem_cons.mpr ⟨lw_p2, List.forall_mem_cons.mpr ⟨lw_p3, List.forall_mem_cons.mpr ⟨lw_p4, List.forall_mem_cons.mpr ⟨lw_p5, List.forall_mem_cons.mpr ⟨lw_p6, List.forall_mem_cons.mpr ⟨lw_p7, List.forall_mem_cons.mpr ⟨lw_p8, List.forall_mem_cons.mpr ⟨lw_p9, List.forall_mem_cons.mpr ⟨lw_p10, List.forall_mem_cons.mpr ⟨lw_p11, List.forall_mem_cons.mpr ⟨lw_p12, List.forall_mem_cons.mpr ⟨lw_p13, List.forall_mem_cons.mpr ⟨lw_p14, List.forall_mem_cons.mpr ⟨lw_p15, fun _ h => absurd h List.not_mem_nil⟩⟩⟩⟩⟩⟩⟩⟩⟩⟩⟩⟩⟩⟩⟩⟩
theorem lw_p16 : lw_okq (⟨"IceSway$Search", "oddsOf", "(IJ)J"⟩, 14) := ⟨⟨by decide +kernel, by decide +kernel⟩, List.mem_of_getElem? (i := 194) (by decide +kernel), List.mem_of_getElem? (i := 628) (by decide +kernel), List.mem_of_getElem? (i := 629) (by decide +kernel)⟩
theorem lw_p17 : lw_okq (⟨"IceSwayModel", "reads", "()V"⟩, 28) := ⟨⟨by decide +kernel, by decide +kernel⟩, List.mem_of_getElem? (i := 698) (by decide +kernel), List.mem_of_getElem? (i := 704) (by decide +kernel), List.mem_of_getElem? (i := 705) (by decide +kernel)⟩
theorem lw_p18 : lw_okq (⟨"IceSwayModel", "here", "()I"⟩, 28) := ⟨⟨by decide +kernel, by decide +kernel⟩, List.mem_of_getElem? (i := 698) (by decide +kernel), List.mem_of_getElem? (i := 807) (by decide +kernel), List.mem_of_getElem? (i := 808) (by decide +kernel)⟩
theorem lw_p19 : lw_okq (⟨"IceSwayModel", "letterAt", "(I)I"⟩, 28) := ⟨⟨by decide +kernel, by decide +kernel⟩, List.mem_of_getElem? (i := 698) (by decide +kernel), List.mem_of_getElem? (i := 811) (by decide +kernel), List.mem_of_getElem? (i := 812) (by decide +kernel)⟩
theorem lw_p20 : lw_okq (⟨"IceSwayModel", "takesClause", "()Z"⟩, 28) := ⟨⟨by decide +kernel, by decide +kernel⟩, List.mem_of_getElem? (i := 698) (by decide +kernel), List.mem_of_getElem? (i := 815) (by decide +kernel), List.mem_of_getElem? (i := 816) (by decide +kernel)⟩
theorem lw_p21 : lw_okq (⟨"IceSwayModel", "fails", "(II)Z"⟩, 28) := ⟨⟨by decide +kernel, by decide +kernel⟩, List.mem_of_getElem? (i := 698) (by decide +kernel), List.mem_of_getElem? (i := 819) (by decide +kernel), List.mem_of_getElem? (i := 820) (by decide +kernel)⟩
theorem lw_p22 : lw_okq (⟨"IceSwayModel", "takesYards", "()Z"⟩, 28) := ⟨⟨by decide +kernel, by decide +kernel⟩, List.mem_of_getElem? (i := 698) (by decide +kernel), List.mem_of_getElem? (i := 823) (by decide +kernel), List.mem_of_getElem? (i := 824) (by decide +kernel)⟩
theorem lw_p23 : lw_okq (⟨"IceSwayModel", "takesYard", "()Z"⟩, 28) := ⟨⟨by decide +kernel, by decide +kernel⟩, List.mem_of_getElem? (i := 698) (by decide +kernel), List.mem_of_getElem? (i := 827) (by decide +kernel), List.mem_of_getElem? (i := 828) (by decide +kernel)⟩
theorem lw_p24 : lw_okq (⟨"IceSwayModel", "takesNumber", "(II)Z"⟩, 28) := ⟨⟨by decide +kernel, by decide +kernel⟩, List.mem_of_getElem? (i := 698) (by decide +kernel), List.mem_of_getElem? (i := 831) (by decide +kernel), List.mem_of_getElem? (i := 832) (by decide +kernel)⟩
theorem lw_p25 : lw_okq (⟨"IceSwayModel", "tells", "(III)Z"⟩, 28) := ⟨⟨by decide +kernel, by decide +kernel⟩, List.mem_of_getElem? (i := 698) (by decide +kernel), List.mem_of_getElem? (i := 837) (by decide +kernel), List.mem_of_getElem? (i := 838) (by decide +kernel)⟩
theorem lw_p26 : lw_okq (⟨"IceSwayModel", "takes", "(I)Z"⟩, 28) := ⟨⟨by decide +kernel, by decide +kernel⟩, List.mem_of_getElem? (i := 698) (by decide +kernel), List.mem_of_getElem? (i := 841) (by decide +kernel), List.mem_of_getElem? (i := 842) (by decide +kernel)⟩
theorem lw_p27 : lw_okq (⟨"IceSwayModel", "swayOf", "(II)I"⟩, 28) := ⟨⟨by decide +kernel, by decide +kernel⟩, List.mem_of_getElem? (i := 698) (by decide +kernel), List.mem_of_getElem? (i := 853) (by decide +kernel), List.mem_of_getElem? (i := 854) (by decide +kernel)⟩
theorem lw_p28 : lw_okq (⟨"IceSwayModel", "forceNow", "()I"⟩, 28) := ⟨⟨by decide +kernel, by decide +kernel⟩, List.mem_of_getElem? (i := 698) (by decide +kernel), List.mem_of_getElem? (i := 857) (by decide +kernel), List.mem_of_getElem? (i := 858) (by decide +kernel)⟩
theorem lw_p29 : lw_okq (⟨"IceSwayModel", "openSet", "()I"⟩, 28) := ⟨⟨by decide +kernel, by decide +kernel⟩, List.mem_of_getElem? (i := 698) (by decide +kernel), List.mem_of_getElem? (i := 861) (by decide +kernel), List.mem_of_getElem? (i := 862) (by decide +kernel)⟩
theorem lw_p30 : lw_okq (⟨"IceSwayModel", "isYard", "(I)Z"⟩, 28) := ⟨⟨by decide +kernel, by decide +kernel⟩, List.mem_of_getElem? (i := 698) (by decide +kernel), List.mem_of_getElem? (i := 870) (by decide +kernel), List.mem_of_getElem? (i := 871) (by decide +kernel)⟩
theorem lw_p31 : lw_okq (⟨"IceSwayModel", "nightOf", "(II)V"⟩, 28) := ⟨⟨by decide +kernel, by decide +kernel⟩, List.mem_of_getElem? (i := 698) (by decide +kernel), List.mem_of_getElem? (i := 888) (by decide +kernel), List.mem_of_getElem? (i := 889) (by decide +kernel)⟩
def lw_privs_2 : List (MethodName × Nat) := [(⟨"IceSway$Search", "oddsOf", "(IJ)J"⟩, 14), (⟨"IceSwayModel", "reads", "()V"⟩, 28), (⟨"IceSwayModel", "here", "()I"⟩, 28), (⟨"IceSwayModel", "letterAt", "(I)I"⟩, 28), (⟨"IceSwayModel", "takesClause", "()Z"⟩, 28), (⟨"IceSwayModel", "fails", "(II)Z"⟩, 28), (⟨"IceSwayModel", "takesYards", "()Z"⟩, 28), (⟨"IceSwayModel", "takesYard", "()Z"⟩, 28), (⟨"IceSwayModel", "takesNumber", "(II)Z"⟩, 28), (⟨"IceSwayModel", "tells", "(III)Z"⟩, 28), (⟨"IceSwayModel", "takes", "(I)Z"⟩, 28), (⟨"IceSwayModel", "swayOf", "(II)I"⟩, 28), (⟨"IceSwayModel", "forceNow", "()I"⟩, 28), (⟨"IceSwayModel", "openSet", "()I"⟩, 28), (⟨"IceSwayModel", "isYard", "(I)Z"⟩, 28), (⟨"IceSwayModel", "nightOf", "(II)V"⟩, 28)]
theorem lw_r2 : ∀ q ∈ lw_privs_2, lw_okq q := List.forall_mem_cons.mpr ⟨lw_p16, List.forall_mem_cons.mpr ⟨lw_p17, List.forall_mem_cons.mpr ⟨lw_p18, List.forall_mem_cons.mpr ⟨lw_p19, List.forall_mem_cons.mpr ⟨lw_p20, List.forall_mem_cons.mpr ⟨lw_p21, List.forall_mem_cons.mpr ⟨lw_p22, List.forall_mem_cons.mpr ⟨lw_p23, List.forall_mem_cons.mpr ⟨lw_p24, List.forall_mem_cons.mpr ⟨lw_p25, List.forall_mem_cons.mpr ⟨lw_p26, List.forall_mem_cons.mpr ⟨lw_p27, List.forall_mem_cons.mpr ⟨lw_p28, List.forall_mem_cons.mpr ⟨lw_p29, List.forall_mem_cons.mpr ⟨lw_p30, List.forall_mem_cons.mpr ⟨lw_p31, fun _ h => absurd h List.not_mem_nil⟩⟩⟩⟩⟩⟩⟩⟩⟩⟩⟩⟩⟩⟩⟩⟩
theorem lw_p32 : lw_okq (⟨"IceSwayModel", "shuts", "(I)V"⟩, 28) := ⟨⟨by decide +kernel, by decide +kernel⟩, List.mem_of_getElem? (i := 698) (by decide +kernel), List.mem_of_getElem? (i := 892) (by decide +kernel), List.mem_of_getElem? (i := 893) (by decide +kernel)⟩
theorem lw_p33 : lw_okq (⟨"IceSwayModel", "allIce", "()I"⟩, 28) := ⟨⟨by decide +kernel, by decide +kernel⟩, List.mem_of_getElem? (i := 698) (by decide +kernel), List.mem_of_getElem? (i := 896) (by decide +kernel), List.mem_of_getElem? (i := 897) (by decide +kernel)⟩
theorem lw_p34 : lw_okq (⟨"IceSwayModel", "thawOf", "(II)V"⟩, 28) := ⟨⟨by decide +kernel, by decide +kernel⟩, List.mem_of_getElem? (i := 698) (by decide +kernel), List.mem_of_getElem? (i := 905) (by decide +kernel), List.mem_of_getElem? (i := 906) (by decide +kernel)⟩
theorem lw_p35 : lw_okq (⟨"IceSwayModel", "goes", "(III)V"⟩, 28) := ⟨⟨by decide +kernel, by decide +kernel⟩, List.mem_of_getElem? (i := 698) (by decide +kernel), List.mem_of_getElem? (i := 922) (by decide +kernel), List.mem_of_getElem? (i := 923) (by decide +kernel)⟩
theorem lw_p36 : lw_okq (⟨"IceSwayModel", "draw", "(I)I"⟩, 28) := ⟨⟨by decide +kernel, by decide +kernel⟩, List.mem_of_getElem? (i := 698) (by decide +kernel), List.mem_of_getElem? (i := 930) (by decide +kernel), List.mem_of_getElem? (i := 931) (by decide +kernel)⟩
theorem lw_p37 : lw_okq (⟨"IceSwayModel", "tries", "(II)V"⟩, 28) := ⟨⟨by decide +kernel, by decide +kernel⟩, List.mem_of_getElem? (i := 698) (by decide +kernel), List.mem_of_getElem? (i := 942) (by decide +kernel), List.mem_of_getElem? (i := 943) (by decide +kernel)⟩
theorem lw_p38 : lw_okq (⟨"IceSwayModel", "copy", "(II)V"⟩, 28) := ⟨⟨by decide +kernel, by decide +kernel⟩, List.mem_of_getElem? (i := 698) (by decide +kernel), List.mem_of_getElem? (i := 946) (by decide +kernel), List.mem_of_getElem? (i := 947) (by decide +kernel)⟩
theorem lw_p39 : lw_okq (⟨"IceSwayModel", "costOf", "(IIII)I"⟩, 28) := ⟨⟨by decide +kernel, by decide +kernel⟩, List.mem_of_getElem? (i := 698) (by decide +kernel), List.mem_of_getElem? (i := 976) (by decide +kernel), List.mem_of_getElem? (i := 977) (by decide +kernel)⟩
def lw_privs_3 : List (MethodName × Nat) := [(⟨"IceSwayModel", "shuts", "(I)V"⟩, 28), (⟨"IceSwayModel", "allIce", "()I"⟩, 28), (⟨"IceSwayModel", "thawOf", "(II)V"⟩, 28), (⟨"IceSwayModel", "goes", "(III)V"⟩, 28), (⟨"IceSwayModel", "draw", "(I)I"⟩, 28), (⟨"IceSwayModel", "tries", "(II)V"⟩, 28), (⟨"IceSwayModel", "copy", "(II)V"⟩, 28), (⟨"IceSwayModel", "costOf", "(IIII)I"⟩, 28)]
theorem lw_r3 : ∀ q ∈ lw_privs_3, lw_okq q := List.forall_mem_cons.mpr ⟨lw_p32, List.forall_mem_cons.mpr ⟨lw_p33, List.forall_mem_cons.mpr ⟨lw_p34, List.forall_mem_cons.mpr ⟨lw_p35, List.forall_mem_cons.mpr ⟨lw_p36, List.forall_mem_cons.mpr ⟨lw_p37, List.forall_mem_cons.mpr ⟨lw_p38, List.forall_mem_cons.mpr ⟨lw_p39, fun _ h => absurd h List.not_mem_nil⟩⟩⟩⟩⟩⟩⟩⟩
def lw_privs : List (MethodName × Nat) := lw_privs_1 ++ (lw_privs_2 ++ (lw_privs_3))
def lw_tbl : List Cond := k2_sels lw_privs ++ tables_1
theorem lw_privs_ok : ∀ q ∈ lw_privs, lw_okq q := by
  show ∀ q ∈ lw_privs_1 ++ (lw_privs_2 ++ (lw_privs_3)), lw_okq q
  exact List.forall_mem_append.mpr ⟨lw_r1, List.forall_mem_append.mpr ⟨lw_r2, lw_r3⟩⟩
end
section
/-! ===== BEGIN words of one list among another's, by their places ===== -/
theorem goodIn_r {big : List Cond} (ws : List Cond) (ps : List Nat) (hp : ws = ps.filterMap (fun i => big[i]?)) (h : ws.all goodWord = true) : GoodIn big ws := by
  intro w hw
  have h1 := List.all_eq_true.mp h w hw
  rw [hp] at hw
  obtain ⟨i, -, hi⟩ := List.mem_filterMap.mp hw
  have hm : w ∈ big := by first | exact List.mem_of_getElem? hi | exact List.getElem?_mem hi
  exact ⟨hm, good_of_word h1⟩
theorem goodIn_app {big a b : List Cond} (ha : GoodIn big a) (hb : GoodIn big b) : GoodIn big (a ++ b) := fun w h => (List.mem_append.mp h).elim (ha w) (hb w)
theorem goodIn_ca {big a b : List Cond} {c : Cond} (ha : GoodIn big (c :: a)) (hb : GoodIn big b) : GoodIn big (c :: (a ++ b)) := fun w h => (List.mem_cons.mp h).elim (fun e => ha w (List.mem_cons.mpr (Or.inl e))) (fun h => (List.mem_append.mp h).elim (fun h => ha w (List.mem_cons.mpr (Or.inr h))) (hb w))
theorem goodIn_sub {big ws : List Cond} (hm : ∀ w ∈ ws, w ∈ big) (h : ws.all goodWord = true) : GoodIn big ws := fun w hw => ⟨hm w hw, good_of_word (List.all_eq_true.mp h w hw)⟩
/-! ===== END ===== -/

/-! ===== BEGIN printed: names, fields, word lists, decode rows ===== -/
def RX0 : String := "IceSway$Boat"
def TX0 : u_T := fun k => match k with
  | _ => ("IceSway$Boat", "numbers", "[I", true)
def tyX0 : Nat → FieldType := fun k => match k with
  | _ => .array .int
abbrev wsX00 : List Cond := u_ws RX0 TX0 1
theorem nmX0 : ∀ a, a < 1 → ∀ b, b < 1 → a ≠ b → (TX0 a).2.1 ≠ (TX0 b).2.1 := by decide +kernel
theorem tyX0_ok : ∀ k, k < 1 → parseFieldDescriptor (TX0 k).2.2.1 = some (tyX0 k) := by decide +kernel
abbrev cX0_init : ByteArray := prog_2_method_1_code
def yX0_init : MethodName := ⟨RX0, "<init>", "()V"⟩
abbrev cX0_become : ByteArray := prog_2_method_2_code
def yX0_become : MethodName := ⟨RX0, "become", "([I)V"⟩
abbrev cX0_horsesTold : ByteArray := prog_2_method_3_code
def yX0_horsesTold : MethodName := ⟨RX0, "horsesTold", "()I"⟩
abbrev cX0_laggardsTold : ByteArray := prog_2_method_4_code
def yX0_laggardsTold : MethodName := ⟨RX0, "laggardsTold", "()I"⟩
abbrev cX0_gapMinutes : ByteArray := prog_2_method_5_code
def yX0_gapMinutes : MethodName := ⟨RX0, "gapMinutes", "()I"⟩
abbrev cX0_axeMinutes : ByteArray := prog_2_method_6_code
def yX0_axeMinutes : MethodName := ⟨RX0, "axeMinutes", "()I"⟩
abbrev cX0_coalDays : ByteArray := prog_2_method_7_code
def yX0_coalDays : MethodName := ⟨RX0, "coalDays", "()I"⟩
abbrev cX0_dayCost : ByteArray := prog_2_method_8_code
def yX0_dayCost : MethodName := ⟨RX0, "dayCost", "()I"⟩
abbrev cX0_wantCost : ByteArray := prog_2_method_9_code
def yX0_wantCost : MethodName := ⟨RX0, "wantCost", "()I"⟩
abbrev cX0_swayBy : ByteArray := prog_2_method_10_code
def yX0_swayBy : MethodName := ⟨RX0, "swayBy", "(II)I"⟩
abbrev cX0_forceBy : ByteArray := prog_2_method_11_code
def yX0_forceBy : MethodName := ⟨RX0, "forceBy", "(I)I"⟩
abbrev cX0_forceOf : ByteArray := prog_2_method_12_code
def yX0_forceOf : MethodName := ⟨RX0, "forceOf", "(II)I"⟩
def RX1 : String := "IceSway$Records"
def TX1 : u_T := fun k => match k with
  | 0 => ("IceSway$Records", "boredCount", "I", false)
  | 1 => ("IceSway$Records", "entryCount", "I", false)
  | 2 => ("IceSway$Records", "boredYard", "[I", true)
  | 3 => ("IceSway$Records", "boredNights", "[I", true)
  | 4 => ("IceSway$Records", "boredCold", "[I", true)
  | 5 => ("IceSway$Records", "boredIce", "[I", true)
  | 6 => ("IceSway$Records", "entryYard", "[I", true)
  | _ => ("IceSway$Records", "entryIce", "[I", true)
def tyX1 : Nat → FieldType := fun k => match k with
  | 0 => .int
  | 1 => .int
  | 2 => .array .int
  | 3 => .array .int
  | 4 => .array .int
  | 5 => .array .int
  | 6 => .array .int
  | _ => .array .int
abbrev wsX10 : List Cond := u_ws RX1 TX1 8
theorem nmX1 : ∀ a, a < 8 → ∀ b, b < 8 → a ≠ b → (TX1 a).2.1 ≠ (TX1 b).2.1 := by decide +kernel
theorem tyX1_ok : ∀ k, k < 8 → parseFieldDescriptor (TX1 k).2.2.1 = some (tyX1 k) := by decide +kernel
abbrev cX1_init : ByteArray := prog_3_method_1_code
def yX1_init : MethodName := ⟨RX1, "<init>", "()V"⟩
abbrev cX1_clearAll : ByteArray := prog_3_method_2_code
def yX1_clearAll : MethodName := ⟨RX1, "clearAll", "()V"⟩
abbrev cX1_addBored : ByteArray := prog_3_method_3_code
def yX1_addBored : MethodName := ⟨RX1, "addBored", "(IIII)Z"⟩
abbrev cX1_addEntry : ByteArray := prog_3_method_4_code
def yX1_addEntry : MethodName := ⟨RX1, "addEntry", "(II)Z"⟩
abbrev cX1_fits : ByteArray := prog_3_method_5_code
def yX1_fits : MethodName := ⟨RX1, "fits", "(LIceSway$Yards;II)Z"⟩
abbrev cX1_firstWrong : ByteArray := prog_3_method_6_code
def yX1_firstWrong : MethodName := ⟨RX1, "firstWrong", "(LIceSway$Yards;)I"⟩
def RX2 : String := "IceSway$Search"
def TX2 : u_T := fun k => match k with
  | 0 => ("IceSway$Search", "leastCost", "I", false)
  | 1 => ("IceSway$Search", "leastSet", "I", false)
  | 2 => ("IceSway$Search", "trip", "LIceSway$Trip;", true)
  | 3 => ("IceSway$Search", "levels", "[LIceSway$Yards;", true)
  | 4 => ("IceSway$Search", "depth", "I", false)
  | 5 => ("IceSway$Search", "minutes", "I", false)
  | 6 => ("IceSway$Search", "force", "I", false)
  | 7 => ("IceSway$Search", "axe", "I", false)
  | 8 => ("IceSway$Search", "cold", "I", false)
  | 9 => ("IceSway$Search", "thaw", "I", false)
  | 10 => ("IceSway$Search", "percent", "I", false)
  | 11 => ("IceSway$Search", "coalDays", "I", false)
  | 12 => ("IceSway$Search", "dayCost", "I", false)
  | _ => ("IceSway$Search", "wantCost", "I", false)
def tyX2 : Nat → FieldType := fun k => match k with
  | 0 => .int
  | 1 => .int
  | 2 => .object "IceSway$Trip"
  | 3 => .array (.object "IceSway$Yards")
  | 4 => .int
  | 5 => .int
  | 6 => .int
  | 7 => .int
  | 8 => .int
  | 9 => .int
  | 10 => .int
  | 11 => .int
  | 12 => .int
  | _ => .int
abbrev wsX20 : List Cond := u_ws RX2 TX2 14
theorem nmX2 : ∀ a, a < 14 → ∀ b, b < 14 → a ≠ b → (TX2 a).2.1 ≠ (TX2 b).2.1 := by decide +kernel
theorem tyX2_ok : ∀ k, k < 14 → parseFieldDescriptor (TX2 k).2.2.1 = some (tyX2 k) := by decide +kernel
abbrev cX2_init : ByteArray := prog_4_method_1_code
def yX2_init : MethodName := ⟨RX2, "<init>", "()V"⟩
abbrev cX2_start : ByteArray := prog_4_method_2_code
def yX2_start : MethodName := ⟨RX2, "start", "(LIceSway$Winter;LIceSway$Boat;II)V"⟩
abbrev cX2_findPlan : ByteArray := prog_4_method_3_code
def yX2_findPlan : MethodName := ⟨RX2, "findPlan", "(LIceSway$Boat;I)V"⟩
abbrev cX2_tryDay : ByteArray := prog_4_method_4_code
def yX2_tryDay : MethodName := ⟨RX2, "tryDay", "(IIII)V"⟩
abbrev cX2_takeIfBetter : ByteArray := prog_4_method_5_code
def yX2_takeIfBetter : MethodName := ⟨RX2, "takeIfBetter", "(II)V"⟩
abbrev cX2_findOdds : ByteArray := prog_4_method_6_code
def yX2_findOdds : MethodName := ⟨RX2, "findOdds", "(III)I"⟩
abbrev cX2_oddsOf : ByteArray := prog_4_method_7_code
def yX2_oddsOf : MethodName := ⟨RX2, "oddsOf", "(IJ)J"⟩
def RX3 : String := "IceSway$Text"
def TX3 : u_T := fun k => match k with
  | 0 => ("IceSway$Text", "letters", "[I", true)
  | 1 => ("IceSway$Text", "length", "I", false)
  | 2 => ("IceSway$Text", "numbers", "[I", true)
  | 3 => ("IceSway$Text", "yardKinds", "[I", true)
  | 4 => ("IceSway$Text", "yardIce", "[I", true)
  | 5 => ("IceSway$Text", "yardCount", "I", false)
  | 6 => ("IceSway$Text", "faultNumber", "I", false)
  | 7 => ("IceSway$Text", "faultPlace", "I", false)
  | 8 => ("IceSway$Text", "place", "I", false)
  | _ => ("IceSway$Text", "clausesSeen", "I", false)
def tyX3 : Nat → FieldType := fun k => match k with
  | 0 => .array .int
  | 1 => .int
  | 2 => .array .int
  | 3 => .array .int
  | 4 => .array .int
  | 5 => .int
  | 6 => .int
  | 7 => .int
  | 8 => .int
  | _ => .int
abbrev wsX30 : List Cond := u_ws RX3 TX3 10
theorem nmX3 : ∀ a, a < 10 → ∀ b, b < 10 → a ≠ b → (TX3 a).2.1 ≠ (TX3 b).2.1 := by decide +kernel
theorem tyX3_ok : ∀ k, k < 10 → parseFieldDescriptor (TX3 k).2.2.1 = some (tyX3 k) := by decide +kernel
abbrev cX3_init : ByteArray := prog_5_method_1_code
def yX3_init : MethodName := ⟨RX3, "<init>", "()V"⟩
abbrev cX3_isFull : ByteArray := prog_5_method_2_code
def yX3_isFull : MethodName := ⟨RX3, "isFull", "()Z"⟩
abbrev cX3_add : ByteArray := prog_5_method_3_code
def yX3_add : MethodName := ⟨RX3, "add", "(I)V"⟩
abbrev cX3_read : ByteArray := prog_5_method_4_code
def yX3_read : MethodName := ⟨RX3, "read", "()Z"⟩
abbrev cX3_readClause : ByteArray := prog_5_method_5_code
def yX3_readClause : MethodName := ⟨RX3, "readClause", "()Z"⟩
abbrev cX3_clauseOf : ByteArray := prog_5_method_6_code
def yX3_clauseOf : MethodName := ⟨RX3, "clauseOf", "(I)I"⟩
abbrev cX3_readYards : ByteArray := prog_5_method_7_code
def yX3_readYards : MethodName := ⟨RX3, "readYards", "()Z"⟩
abbrev cX3_readYard : ByteArray := prog_5_method_8_code
def yX3_readYard : MethodName := ⟨RX3, "readYard", "(I)Z"⟩
abbrev cX3_readNumbers : ByteArray := prog_5_method_9_code
def yX3_readNumbers : MethodName := ⟨RX3, "readNumbers", "(I)Z"⟩
abbrev cX3_readClauseEnd : ByteArray := prog_5_method_10_code
def yX3_readClauseEnd : MethodName := ⟨RX3, "readClauseEnd", "()Z"⟩
abbrev cX3_readNumber : ByteArray := prog_5_method_11_code
def yX3_readNumber : MethodName := ⟨RX3, "readNumber", "(II)I"⟩
abbrev cX3_isFigure : ByteArray := prog_5_method_12_code
def yX3_isFigure : MethodName := ⟨RX3, "isFigure", "(I)Z"⟩
abbrev cX3_skipBlanks : ByteArray := prog_5_method_13_code
def yX3_skipBlanks : MethodName := ⟨RX3, "skipBlanks", "()V"⟩
abbrev cX3_isAtEnd : ByteArray := prog_5_method_14_code
def yX3_isAtEnd : MethodName := ⟨RX3, "isAtEnd", "()Z"⟩
abbrev cX3_failAt : ByteArray := prog_5_method_15_code
def yX3_failAt : MethodName := ⟨RX3, "failAt", "(II)Z"⟩
def RX4 : String := "IceSway$Trip"
def TX4 : u_T := fun k => match k with
  | 0 => ("IceSway$Trip", "behind", "I", false)
  | 1 => ("IceSway$Trip", "minutes", "I", false)
  | 2 => ("IceSway$Trip", "firstBroken", "I", false)
  | _ => ("IceSway$Trip", "behindAt", "[I", true)
def tyX4 : Nat → FieldType := fun k => match k with
  | 0 => .int
  | 1 => .int
  | 2 => .int
  | _ => .array .int
abbrev wsX40 : List Cond := u_ws RX4 TX4 4
theorem nmX4 : ∀ a, a < 4 → ∀ b, b < 4 → a ≠ b → (TX4 a).2.1 ≠ (TX4 b).2.1 := by decide +kernel
theorem tyX4_ok : ∀ k, k < 4 → parseFieldDescriptor (TX4 k).2.2.1 = some (tyX4 k) := by decide +kernel
abbrev cX4_init : ByteArray := prog_6_method_1_code
def yX4_init : MethodName := ⟨RX4, "<init>", "()V"⟩
abbrev cX4_go : ByteArray := prog_6_method_2_code
def yX4_go : MethodName := ⟨RX4, "go", "(LIceSway$Yards;III)V"⟩
abbrev cX4_passes : ByteArray := prog_6_method_3_code
def yX4_passes : MethodName := ⟨RX4, "passes", "(LIceSway$Yards;III)Z"⟩
abbrev cX4_minutesThrough : ByteArray := prog_6_method_4_code
def yX4_minutesThrough : MethodName := ⟨RX4, "minutesThrough", "(IIII)I"⟩
abbrev cX4_furthestTurn : ByteArray := prog_6_method_5_code
def yX4_furthestTurn : MethodName := ⟨RX4, "furthestTurn", "(II)I"⟩
abbrev cX4_isBackInGap : ByteArray := prog_6_method_6_code
def yX4_isBackInGap : MethodName := ⟨RX4, "isBackInGap", "(II)Z"⟩
def RX5 : String := "IceSway$Winter"
def TX5 : u_T := fun k => match k with
  | 0 => ("IceSway$Winter", "yards", "LIceSway$Yards;", true)
  | 1 => ("IceSway$Winter", "beat", "I", false)
  | 2 => ("IceSway$Winter", "nights", "I", false)
  | _ => ("IceSway$Winter", "drawSeed", "I", false)
def tyX5 : Nat → FieldType := fun k => match k with
  | 0 => .object "IceSway$Yards"
  | 1 => .int
  | 2 => .int
  | _ => .int
abbrev wsX50 : List Cond := u_ws RX5 TX5 4
theorem nmX5 : ∀ a, a < 4 → ∀ b, b < 4 → a ≠ b → (TX5 a).2.1 ≠ (TX5 b).2.1 := by decide +kernel
theorem tyX5_ok : ∀ k, k < 4 → parseFieldDescriptor (TX5 k).2.2.1 = some (tyX5 k) := by decide +kernel
abbrev cX5_init : ByteArray := prog_7_method_1_code
def yX5_init : MethodName := ⟨RX5, "<init>", "()V"⟩
abbrev cX5_begin : ByteArray := prog_7_method_2_code
def yX5_begin : MethodName := ⟨RX5, "begin", "(I[I[I)V"⟩
abbrev cX5_copyFrom : ByteArray := prog_7_method_3_code
def yX5_copyFrom : MethodName := ⟨RX5, "copyFrom", "(LIceSway$Winter;)V"⟩
abbrev cX5_passCold : ByteArray := prog_7_method_4_code
def yX5_passCold : MethodName := ⟨RX5, "passCold", "(I)V"⟩
abbrev cX5_passThaw : ByteArray := prog_7_method_5_code
def yX5_passThaw : MethodName := ⟨RX5, "passThaw", "(I)V"⟩
abbrev cX5_passByDraws : ByteArray := prog_7_method_6_code
def yX5_passByDraws : MethodName := ⟨RX5, "passByDraws", "()V"⟩
abbrev cX5_draw : ByteArray := prog_7_method_7_code
def yX5_draw : MethodName := ⟨RX5, "draw", "(I)I"⟩
def RX6 : String := "IceSway$Yards"
def TX6 : u_T := fun k => match k with
  | 0 => ("IceSway$Yards", "count", "I", false)
  | 1 => ("IceSway$Yards", "openSet", "I", false)
  | 2 => ("IceSway$Yards", "kind", "[I", true)
  | 3 => ("IceSway$Yards", "ice", "[I", true)
  | _ => ("IceSway$Yards", "broken", "[I", true)
def tyX6 : Nat → FieldType := fun k => match k with
  | 0 => .int
  | 1 => .int
  | 2 => .array .int
  | 3 => .array .int
  | _ => .array .int
abbrev wsX60 : List Cond := u_ws RX6 TX6 5
theorem nmX6 : ∀ a, a < 5 → ∀ b, b < 5 → a ≠ b → (TX6 a).2.1 ≠ (TX6 b).2.1 := by decide +kernel
theorem tyX6_ok : ∀ k, k < 5 → parseFieldDescriptor (TX6 k).2.2.1 = some (tyX6 k) := by decide +kernel
abbrev cX6_init : ByteArray := prog_8_method_1_code
def yX6_init : MethodName := ⟨RX6, "<init>", "()V"⟩
abbrev cX6_has : ByteArray := prog_8_method_2_code
def yX6_has : MethodName := ⟨RX6, "has", "(I)Z"⟩
abbrev cX6_isOpen : ByteArray := prog_8_method_3_code
def yX6_isOpen : MethodName := ⟨RX6, "isOpen", "(I)Z"⟩
abbrev cX6_begin : ByteArray := prog_8_method_4_code
def yX6_begin : MethodName := ⟨RX6, "begin", "(I[I[I)V"⟩
abbrev cX6_copyFrom : ByteArray := prog_8_method_5_code
def yX6_copyFrom : MethodName := ⟨RX6, "copyFrom", "(LIceSway$Yards;)V"⟩
abbrev cX6_iceTogether : ByteArray := prog_8_method_6_code
def yX6_iceTogether : MethodName := ⟨RX6, "iceTogether", "()I"⟩
abbrev cX6_growth : ByteArray := prog_8_method_7_code
def yX6_growth : MethodName := ⟨RX6, "growth", "(III)I"⟩
abbrev cX6_thicker : ByteArray := prog_8_method_8_code
def yX6_thicker : MethodName := ⟨RX6, "thicker", "(III)I"⟩
abbrev cX6_kindOnceShut : ByteArray := prog_8_method_9_code
def yX6_kindOnceShut : MethodName := ⟨RX6, "kindOnceShut", "(I)I"⟩
abbrev cX6_freeze : ByteArray := prog_8_method_10_code
def yX6_freeze : MethodName := ⟨RX6, "freeze", "(I)V"⟩
abbrev cX6_melt : ByteArray := prog_8_method_11_code
def yX6_melt : MethodName := ⟨RX6, "melt", "(I)V"⟩
abbrev cX6_shutOpen : ByteArray := prog_8_method_12_code
def yX6_shutOpen : MethodName := ⟨RX6, "shutOpen", "()V"⟩
abbrev cX6_openFirst : ByteArray := prog_8_method_13_code
def yX6_openFirst : MethodName := ⟨RX6, "openFirst", "(I)V"⟩
abbrev cX6_iceIfOf : ByteArray := prog_8_method_14_code
def yX6_iceIfOf : MethodName := ⟨RX6, "iceIfOf", "(IIII)I"⟩
def RX7 : String := "IceSway"
def TX7 : u_T := fun k => match k with
  | 0 => ("IceSway", "text", "LIceSway$Text;", true)
  | 1 => ("IceSway", "boat", "LIceSway$Boat;", true)
  | 2 => ("IceSway", "now", "LIceSway$Winter;", true)
  | 3 => ("IceSway", "images", "[LIceSway$Winter;", true)
  | 4 => ("IceSway", "kept", "[Z", true)
  | 5 => ("IceSway", "records", "LIceSway$Records;", true)
  | 6 => ("IceSway", "trip", "LIceSway$Trip;", true)
  | 7 => ("IceSway", "tried", "LIceSway$Yards;", true)
  | 8 => ("IceSway", "search", "LIceSway$Search;", true)
  | _ => ("IceSway", "faultPlace", "I", false)
def tyX7 : Nat → FieldType := fun k => match k with
  | 0 => .object "IceSway$Text"
  | 1 => .object "IceSway$Boat"
  | 2 => .object "IceSway$Winter"
  | 3 => .array (.object "IceSway$Winter")
  | 4 => .array .boolean
  | 5 => .object "IceSway$Records"
  | 6 => .object "IceSway$Trip"
  | 7 => .object "IceSway$Yards"
  | 8 => .object "IceSway$Search"
  | _ => .int
abbrev wsX70 : List Cond := u_ws RX7 TX7 10
theorem nmX7 : ∀ a, a < 10 → ∀ b, b < 10 → a ≠ b → (TX7 a).2.1 ≠ (TX7 b).2.1 := by decide +kernel
theorem tyX7_ok : ∀ k, k < 10 → parseFieldDescriptor (TX7 k).2.2.1 = some (tyX7 k) := by decide +kernel
abbrev cX7_init : ByteArray := prog_1_method_1_code
def yX7_init : MethodName := ⟨RX7, "<init>", "()V"⟩
abbrev cX7_feed : ByteArray := prog_1_method_2_code
def yX7_feed : MethodName := ⟨RX7, "feed", "(I)I"⟩
abbrev cX7_cut : ByteArray := prog_1_method_3_code
def yX7_cut : MethodName := ⟨RX7, "cut", "()I"⟩
abbrev cX7_fault : ByteArray := prog_1_method_4_code
def yX7_fault : MethodName := ⟨RX7, "fault", "()I"⟩
abbrev cX7_told : ByteArray := prog_1_method_5_code
def yX7_told : MethodName := ⟨RX7, "told", "(I)I"⟩
abbrev cX7_yard : ByteArray := prog_1_method_6_code
def yX7_yard : MethodName := ⟨RX7, "yard", "(II)I"⟩
abbrev cX7_grows : ByteArray := prog_1_method_7_code
def yX7_grows : MethodName := ⟨RX7, "grows", "(II)I"⟩
abbrev cX7_night : ByteArray := prog_1_method_8_code
def yX7_night : MethodName := ⟨RX7, "night", "(II)I"⟩
abbrev cX7_thaw : ByteArray := prog_1_method_9_code
def yX7_thaw : MethodName := ⟨RX7, "thaw", "(I)I"⟩
abbrev cX7_beat : ByteArray := prog_1_method_10_code
def yX7_beat : MethodName := ⟨RX7, "beat", "(I)I"⟩
abbrev cX7_out : ByteArray := prog_1_method_11_code
def yX7_out : MethodName := ⟨RX7, "out", "(I)I"⟩
abbrev cX7_drift : ByteArray := prog_1_method_12_code
def yX7_drift : MethodName := ⟨RX7, "drift", "(I)I"⟩
abbrev cX7_today : ByteArray := prog_1_method_13_code
def yX7_today : MethodName := ⟨RX7, "today", "(II)I"⟩
abbrev cX7_bestBeat : ByteArray := prog_1_method_14_code
def yX7_bestBeat : MethodName := ⟨RX7, "bestBeat", "()I"⟩
abbrev cX7_laggards : ByteArray := prog_1_method_15_code
def yX7_laggards : MethodName := ⟨RX7, "laggards", "(I)I"⟩
abbrev cX7_horses : ByteArray := prog_1_method_16_code
def yX7_horses : MethodName := ⟨RX7, "horses", "(I)I"⟩
abbrev cX7_string : ByteArray := prog_1_method_17_code
def yX7_string : MethodName := ⟨RX7, "string", "(II)I"⟩
abbrev cX7_turn : ByteArray := prog_1_method_18_code
def yX7_turn : MethodName := ⟨RX7, "turn", "(I)I"⟩
abbrev cX7_plan : ByteArray := prog_1_method_19_code
def yX7_plan : MethodName := ⟨RX7, "plan", "(IIII)I"⟩
abbrev cX7_lost : ByteArray := prog_1_method_20_code
def yX7_lost : MethodName := ⟨RX7, "lost", "(II)I"⟩
abbrev cX7_odds : ByteArray := prog_1_method_21_code
def yX7_odds : MethodName := ⟨RX7, "odds", "(IIIII)I"⟩
abbrev cX7_noFall : ByteArray := prog_1_method_22_code
def yX7_noFall : MethodName := ⟨RX7, "noFall", "(II)I"⟩
abbrev cX7_bore : ByteArray := prog_1_method_23_code
def yX7_bore : MethodName := ⟨RX7, "bore", "(IIII)I"⟩
abbrev cX7_kinds : ByteArray := prog_1_method_24_code
def yX7_kinds : MethodName := ⟨RX7, "kinds", "(I)I"⟩
abbrev cX7_write : ByteArray := prog_1_method_25_code
def yX7_write : MethodName := ⟨RX7, "write", "(II)I"⟩
abbrev cX7_tear : ByteArray := prog_1_method_26_code
def yX7_tear : MethodName := ⟨RX7, "tear", "()I"⟩
abbrev cX7_judge : ByteArray := prog_1_method_27_code
def yX7_judge : MethodName := ⟨RX7, "judge", "()I"⟩
abbrev cX7_seed : ByteArray := prog_1_method_28_code
def yX7_seed : MethodName := ⟨RX7, "seed", "(I)I"⟩
abbrev cX7_keep : ByteArray := prog_1_method_29_code
def yX7_keep : MethodName := ⟨RX7, "keep", "(I)I"⟩
abbrev cX7_goBack : ByteArray := prog_1_method_30_code
def yX7_goBack : MethodName := ⟨RX7, "goBack", "(I)I"⟩
abbrev cX7_isOut : ByteArray := prog_1_method_31_code
def yX7_isOut : MethodName := ⟨RX7, "isOut", "(III)Z"⟩
abbrev cX7_isOutOfDay : ByteArray := prog_1_method_32_code
def yX7_isOutOfDay : MethodName := ⟨RX7, "isOutOfDay", "(I)Z"⟩
abbrev cX7_forceNow : ByteArray := prog_1_method_33_code
def yX7_forceNow : MethodName := ⟨RX7, "forceNow", "()I"⟩
abbrev cX7_goFromNow : ByteArray := prog_1_method_34_code
def yX7_goFromNow : MethodName := ⟨RX7, "goFromNow", "(I)V"⟩
def RX8 : String := "IceSwayModel"
def TX8 : u_T := fun k => match k with
  | 0 => ("IceSwayModel", "w", "[I", true)
  | 1 => ("IceSwayModel", "told", "[I", true)
  | 2 => ("IceSwayModel", "yards", "I", false)
  | 3 => ("IceSwayModel", "isKept", "[Z", true)
  | 4 => ("IceSwayModel", "text", "[I", true)
  | 5 => ("IceSwayModel", "texted", "I", false)
  | 6 => ("IceSwayModel", "at", "I", false)
  | 7 => ("IceSwayModel", "start", "I", false)
  | 8 => ("IceSwayModel", "value", "I", false)
  | 9 => ("IceSwayModel", "faulty", "I", false)
  | 10 => ("IceSwayModel", "faultAt", "I", false)
  | 11 => ("IceSwayModel", "readYards", "I", false)
  | 12 => ("IceSwayModel", "seen", "I", false)
  | 13 => ("IceSwayModel", "readKind", "[I", true)
  | 14 => ("IceSwayModel", "readIce", "[I", true)
  | 15 => ("IceSwayModel", "behindAt", "[I", true)
  | 16 => ("IceSwayModel", "behind", "I", false)
  | 17 => ("IceSwayModel", "minutes", "I", false)
  | 18 => ("IceSwayModel", "firstBroken", "I", false)
  | 19 => ("IceSwayModel", "held", "[I", true)
  | 20 => ("IceSwayModel", "bored", "I", false)
  | 21 => ("IceSwayModel", "boredYard", "[I", true)
  | 22 => ("IceSwayModel", "boredNights", "[I", true)
  | 23 => ("IceSwayModel", "boredCold", "[I", true)
  | 24 => ("IceSwayModel", "boredIce", "[I", true)
  | 25 => ("IceSwayModel", "booked", "I", false)
  | 26 => ("IceSwayModel", "bookYard", "[I", true)
  | _ => ("IceSwayModel", "bookIce", "[I", true)
def tyX8 : Nat → FieldType := fun k => match k with
  | 0 => .array .int
  | 1 => .array .int
  | 2 => .int
  | 3 => .array .boolean
  | 4 => .array .int
  | 5 => .int
  | 6 => .int
  | 7 => .int
  | 8 => .int
  | 9 => .int
  | 10 => .int
  | 11 => .int
  | 12 => .int
  | 13 => .array .int
  | 14 => .array .int
  | 15 => .array .int
  | 16 => .int
  | 17 => .int
  | 18 => .int
  | 19 => .array .int
  | 20 => .int
  | 21 => .array .int
  | 22 => .array .int
  | 23 => .array .int
  | 24 => .array .int
  | 25 => .int
  | 26 => .array .int
  | _ => .array .int
abbrev wsX80 : List Cond := u_ws RX8 TX8 28
theorem nmX8 : ∀ a, a < 28 → ∀ b, b < 28 → a ≠ b → (TX8 a).2.1 ≠ (TX8 b).2.1 := by decide +kernel
theorem tyX8_ok : ∀ k, k < 28 → parseFieldDescriptor (TX8 k).2.2.1 = some (tyX8 k) := by decide +kernel
abbrev cX8_init : ByteArray := prog_10_method_1_code
def yX8_init : MethodName := ⟨RX8, "<init>", "()V"⟩
abbrev cX8_in : ByteArray := prog_10_method_3_code
def yX8_in : MethodName := ⟨RX8, "in", "(JJJ)Z"⟩
abbrev cX8_isYard : ByteArray := prog_10_method_4_code
def yX8_isYard : MethodName := ⟨RX8, "isYard", "(I)Z"⟩
abbrev cX8_isTime : ByteArray := prog_10_method_5_code
def yX8_isTime : MethodName := ⟨RX8, "isTime", "(I)Z"⟩
abbrev cX8_copy : ByteArray := prog_10_method_6_code
def yX8_copy : MethodName := ⟨RX8, "copy", "(II)V"⟩
abbrev cX8_reads : ByteArray := prog_10_method_7_code
def yX8_reads : MethodName := ⟨RX8, "reads", "()V"⟩
abbrev cX8_feed : ByteArray := prog_10_method_8_code
def yX8_feed : MethodName := ⟨RX8, "feed", "(I)I"⟩
abbrev cX8_letterAt : ByteArray := prog_10_method_9_code
def yX8_letterAt : MethodName := ⟨RX8, "letterAt", "(I)I"⟩
abbrev cX8_here : ByteArray := prog_10_method_10_code
def yX8_here : MethodName := ⟨RX8, "here", "()I"⟩
abbrev cX8_fails : ByteArray := prog_10_method_11_code
def yX8_fails : MethodName := ⟨RX8, "fails", "(II)Z"⟩
abbrev cX8_takes : ByteArray := prog_10_method_12_code
def yX8_takes : MethodName := ⟨RX8, "takes", "(I)Z"⟩
abbrev cX8_takesNumber : ByteArray := prog_10_method_13_code
def yX8_takesNumber : MethodName := ⟨RX8, "takesNumber", "(II)Z"⟩
abbrev cX8_tells : ByteArray := prog_10_method_14_code
def yX8_tells : MethodName := ⟨RX8, "tells", "(III)Z"⟩
abbrev cX8_takesYard : ByteArray := prog_10_method_15_code
def yX8_takesYard : MethodName := ⟨RX8, "takesYard", "()Z"⟩
abbrev cX8_takesYards : ByteArray := prog_10_method_16_code
def yX8_takesYards : MethodName := ⟨RX8, "takesYards", "()Z"⟩
abbrev cX8_takesClause : ByteArray := prog_10_method_17_code
def yX8_takesClause : MethodName := ⟨RX8, "takesClause", "()Z"⟩
abbrev cX8_cut : ByteArray := prog_10_method_18_code
def yX8_cut : MethodName := ⟨RX8, "cut", "()I"⟩
abbrev cX8_fault : ByteArray := prog_10_method_19_code
def yX8_fault : MethodName := ⟨RX8, "fault", "()I"⟩
abbrev cX8_swayOf : ByteArray := prog_10_method_20_code
def yX8_swayOf : MethodName := ⟨RX8, "swayOf", "(II)I"⟩
abbrev cX8_forceNow : ByteArray := prog_10_method_21_code
def yX8_forceNow : MethodName := ⟨RX8, "forceNow", "()I"⟩
abbrev cX8_openSet : ByteArray := prog_10_method_22_code
def yX8_openSet : MethodName := ⟨RX8, "openSet", "()I"⟩
abbrev cX8_told : ByteArray := prog_10_method_23_code
def yX8_told : MethodName := ⟨RX8, "told", "(I)I"⟩
abbrev cX8_yard : ByteArray := prog_10_method_24_code
def yX8_yard : MethodName := ⟨RX8, "yard", "(II)I"⟩
abbrev cX8_growth : ByteArray := prog_10_method_25_code
def yX8_growth : MethodName := ⟨RX8, "growth", "(III)I"⟩
abbrev cX8_grows : ByteArray := prog_10_method_26_code
def yX8_grows : MethodName := ⟨RX8, "grows", "(II)I"⟩
abbrev cX8_shuts : ByteArray := prog_10_method_27_code
def yX8_shuts : MethodName := ⟨RX8, "shuts", "(I)V"⟩
abbrev cX8_nightOf : ByteArray := prog_10_method_28_code
def yX8_nightOf : MethodName := ⟨RX8, "nightOf", "(II)V"⟩
abbrev cX8_thawOf : ByteArray := prog_10_method_29_code
def yX8_thawOf : MethodName := ⟨RX8, "thawOf", "(II)V"⟩
abbrev cX8_allIce : ByteArray := prog_10_method_30_code
def yX8_allIce : MethodName := ⟨RX8, "allIce", "()I"⟩
abbrev cX8_night : ByteArray := prog_10_method_31_code
def yX8_night : MethodName := ⟨RX8, "night", "(II)I"⟩
abbrev cX8_thaw : ByteArray := prog_10_method_32_code
def yX8_thaw : MethodName := ⟨RX8, "thaw", "(I)I"⟩
abbrev cX8_beat : ByteArray := prog_10_method_33_code
def yX8_beat : MethodName := ⟨RX8, "beat", "(I)I"⟩
abbrev cX8_goes : ByteArray := prog_10_method_34_code
def yX8_goes : MethodName := ⟨RX8, "goes", "(III)V"⟩
abbrev cX8_out : ByteArray := prog_10_method_35_code
def yX8_out : MethodName := ⟨RX8, "out", "(I)I"⟩
abbrev cX8_draw : ByteArray := prog_10_method_36_code
def yX8_draw : MethodName := ⟨RX8, "draw", "(I)I"⟩
abbrev cX8_drift : ByteArray := prog_10_method_37_code
def yX8_drift : MethodName := ⟨RX8, "drift", "(I)I"⟩
abbrev cX8_tries : ByteArray := prog_10_method_38_code
def yX8_tries : MethodName := ⟨RX8, "tries", "(II)V"⟩
abbrev cX8_today : ByteArray := prog_10_method_39_code
def yX8_today : MethodName := ⟨RX8, "today", "(II)I"⟩
abbrev cX8_bestBeat : ByteArray := prog_10_method_40_code
def yX8_bestBeat : MethodName := ⟨RX8, "bestBeat", "()I"⟩
abbrev cX8_laggards : ByteArray := prog_10_method_41_code
def yX8_laggards : MethodName := ⟨RX8, "laggards", "(I)I"⟩
abbrev cX8_horses : ByteArray := prog_10_method_42_code
def yX8_horses : MethodName := ⟨RX8, "horses", "(I)I"⟩
abbrev cX8_string : ByteArray := prog_10_method_43_code
def yX8_string : MethodName := ⟨RX8, "string", "(II)I"⟩
abbrev cX8_turn : ByteArray := prog_10_method_44_code
def yX8_turn : MethodName := ⟨RX8, "turn", "(I)I"⟩
abbrev cX8_costOf : ByteArray := prog_10_method_45_code
def yX8_costOf : MethodName := ⟨RX8, "costOf", "(IIII)I"⟩
abbrev cX8_plan : ByteArray := prog_10_method_46_code
def yX8_plan : MethodName := ⟨RX8, "plan", "(IIII)I"⟩
abbrev cX8_lost : ByteArray := prog_10_method_47_code
def yX8_lost : MethodName := ⟨RX8, "lost", "(II)I"⟩
abbrev cX8_odds : ByteArray := prog_10_method_48_code
def yX8_odds : MethodName := ⟨RX8, "odds", "(IIIII)I"⟩
abbrev cX8_noFall : ByteArray := prog_10_method_49_code
def yX8_noFall : MethodName := ⟨RX8, "noFall", "(II)I"⟩
abbrev cX8_bore : ByteArray := prog_10_method_50_code
def yX8_bore : MethodName := ⟨RX8, "bore", "(IIII)I"⟩
abbrev cX8_kinds : ByteArray := prog_10_method_51_code
def yX8_kinds : MethodName := ⟨RX8, "kinds", "(I)I"⟩
abbrev cX8_write : ByteArray := prog_10_method_52_code
def yX8_write : MethodName := ⟨RX8, "write", "(II)I"⟩
abbrev cX8_tear : ByteArray := prog_10_method_53_code
def yX8_tear : MethodName := ⟨RX8, "tear", "()I"⟩
abbrev cX8_judge : ByteArray := prog_10_method_54_code
def yX8_judge : MethodName := ⟨RX8, "judge", "()I"⟩
abbrev cX8_seed : ByteArray := prog_10_method_55_code
def yX8_seed : MethodName := ⟨RX8, "seed", "(I)I"⟩
abbrev cX8_keep : ByteArray := prog_10_method_56_code
def yX8_keep : MethodName := ⟨RX8, "keep", "(I)I"⟩
abbrev cX8_goBack : ByteArray := prog_10_method_57_code
def yX8_goBack : MethodName := ⟨RX8, "goBack", "(I)I"⟩
def RJ9 : String := "java/lang/Math"
def TJ9 : u_T := fun k => match k with
  | _ => ("", "", "", false)
def tyJ9 : Nat → FieldType := fun k => match k with
  | _ => .int
abbrev wsJ90 : List Cond := u_ws RJ9 TJ9 0
theorem nmJ9 : ∀ a, a < 0 → ∀ b, b < 0 → a ≠ b → (TJ9 a).2.1 ≠ (TJ9 b).2.1 := by decide +kernel
theorem tyJ9_ok : ∀ k, k < 0 → parseFieldDescriptor (TJ9 k).2.2.1 = some (tyJ9 k) := by decide +kernel
abbrev cJ9_abs_0f7a4 : ByteArray := prog_11_method_59_code
def yJ9_abs_0f7a4 : MethodName := ⟨RJ9, "abs", "(I)I"⟩
abbrev cJ9_max_7cf53 : ByteArray := prog_11_method_65_code
def yJ9_max_7cf53 : MethodName := ⟨RJ9, "max", "(II)I"⟩
abbrev cJ9_min_7cf53 : ByteArray := prog_11_method_69_code
def yJ9_min_7cf53 : MethodName := ⟨RJ9, "min", "(II)I"⟩
def RL : String := "IceSwayLaw"
abbrev cL_law : ByteArray := code
def yL_law : MethodName := ⟨RL, "law", "([I)Z"⟩
def wsX0_init : List Cond := .code yX0_init cX0_init 2 none :: ([.methodLink RX0 1 objectInit, .instanceMethod objectInit, .code objectInit ⟨#[0xb1]⟩ 1 none, .arrayClass .int, .fieldLink RX0 9 "IceSway$Boat" "numbers" "[I", .fieldLink RX0 13 "IceSway$Boat" "UNTOLD" "[I"] ++ wsX00)
def wsX0_become : List Cond := .code yX0_become cX0_become 3 none :: ([.fieldLink RX0 9 "IceSway$Boat" "numbers" "[I"] ++ wsX00)
def wsX0_horsesTold : List Cond := .code yX0_horsesTold cX0_horsesTold 1 (some .int) :: ([.fieldLink RX0 9 "IceSway$Boat" "numbers" "[I"] ++ wsX00)
def wsX0_laggardsTold : List Cond := .code yX0_laggardsTold cX0_laggardsTold 1 (some .int) :: ([.fieldLink RX0 9 "IceSway$Boat" "numbers" "[I"] ++ wsX00)
def wsX0_gapMinutes : List Cond := .code yX0_gapMinutes cX0_gapMinutes 1 (some .int) :: ([.fieldLink RX0 9 "IceSway$Boat" "numbers" "[I"] ++ wsX00)
def wsX0_axeMinutes : List Cond := .code yX0_axeMinutes cX0_axeMinutes 1 (some .int) :: ([.fieldLink RX0 9 "IceSway$Boat" "numbers" "[I"] ++ wsX00)
def wsX0_coalDays : List Cond := .code yX0_coalDays cX0_coalDays 1 (some .int) :: ([.fieldLink RX0 9 "IceSway$Boat" "numbers" "[I"] ++ wsX00)
def wsX0_dayCost : List Cond := .code yX0_dayCost cX0_dayCost 1 (some .int) :: ([.fieldLink RX0 9 "IceSway$Boat" "numbers" "[I"] ++ wsX00)
def wsX0_wantCost : List Cond := .code yX0_wantCost cX0_wantCost 1 (some .int) :: ([.fieldLink RX0 9 "IceSway$Boat" "numbers" "[I"] ++ wsX00)
def wsX0_swayBy : List Cond := .code yX0_swayBy cX0_swayBy 6 (some .int) :: ([.fieldLink RX0 9 "IceSway$Boat" "numbers" "[I", .methodLink RX0 16 Lib.Math.max.name, .static Lib.Math.max.name, .initialized "java/lang/Math", .code Lib.Math.max.name Lib.Math.max.code 2 (some .int), .methodLink RX0 22 Lib.Math.abs.name, .static Lib.Math.abs.name, .code Lib.Math.abs.name Lib.Math.abs.code 1 (some .int)] ++ wsX00)
def wsX0_forceOf : List Cond := .code yX0_forceOf cX0_forceOf 2 (some .int) :: ([])
def wsX0_forceBy : List Cond := .code yX0_forceBy cX0_forceBy 2 (some .int) :: ([.methodLink RX0 26 yX0_horsesTold, .instanceMethod yX0_horsesTold, .selects RX0 yX0_horsesTold yX0_horsesTold, .initialized RX0, .code yX0_horsesTold cX0_horsesTold 1 (some .int), .fieldLink RX0 9 "IceSway$Boat" "numbers" "[I", .methodLink RX0 30 yX0_laggardsTold, .instanceMethod yX0_laggardsTold, .selects RX0 yX0_laggardsTold yX0_laggardsTold, .code yX0_laggardsTold cX0_laggardsTold 1 (some .int), .methodLink RX0 33 yX0_swayBy, .instanceMethod yX0_swayBy, .selects RX0 yX0_swayBy yX0_swayBy, .code yX0_swayBy cX0_swayBy 6 (some .int), .methodLink RX0 16 Lib.Math.max.name, .static Lib.Math.max.name, .initialized "java/lang/Math", .code Lib.Math.max.name Lib.Math.max.code 2 (some .int), .methodLink RX0 22 Lib.Math.abs.name, .static Lib.Math.abs.name, .code Lib.Math.abs.name Lib.Math.abs.code 1 (some .int), .methodLink RX0 36 yX0_forceOf, .static yX0_forceOf, .code yX0_forceOf cX0_forceOf 2 (some .int)] ++ wsX00)
def wsX1_init : List Cond := .code yX1_init cX1_init 1 none :: ([.methodLink RX1 3 objectInit, .instanceMethod objectInit, .code objectInit ⟨#[0xb1]⟩ 1 none, .arrayClass .int, .fieldLink RX1 11 "IceSway$Records" "boredYard" "[I", .fieldLink RX1 15 "IceSway$Records" "boredNights" "[I", .fieldLink RX1 18 "IceSway$Records" "boredCold" "[I", .fieldLink RX1 21 "IceSway$Records" "boredIce" "[I", .fieldLink RX1 24 "IceSway$Records" "entryYard" "[I", .fieldLink RX1 27 "IceSway$Records" "entryIce" "[I"] ++ wsX10)
def wsX1_clearAll : List Cond := .code yX1_clearAll cX1_clearAll 1 none :: ([.fieldLink RX1 30 "IceSway$Records" "boredCount" "I", .fieldLink RX1 34 "IceSway$Records" "entryCount" "I"] ++ wsX10)
def wsX1_addBored : List Cond := .code yX1_addBored cX1_addBored 5 (some .boolean) :: ([.fieldLink RX1 30 "IceSway$Records" "boredCount" "I", .fieldLink RX1 11 "IceSway$Records" "boredYard" "[I", .fieldLink RX1 15 "IceSway$Records" "boredNights" "[I", .fieldLink RX1 18 "IceSway$Records" "boredCold" "[I", .fieldLink RX1 21 "IceSway$Records" "boredIce" "[I"] ++ wsX10)
def wsX1_addEntry : List Cond := .code yX1_addEntry cX1_addEntry 3 (some .boolean) :: ([.fieldLink RX1 34 "IceSway$Records" "entryCount" "I", .fieldLink RX1 24 "IceSway$Records" "entryYard" "[I", .fieldLink RX1 27 "IceSway$Records" "entryIce" "[I"] ++ wsX10)
def wsX6_isOpen : List Cond := .code yX6_isOpen cX6_isOpen 2 (some .boolean) :: ([.fieldLink RX6 25 "IceSway$Yards" "openSet" "I"] ++ wsX60)
def wsX6_kindOnceShut : List Cond := .code yX6_kindOnceShut cX6_kindOnceShut 1 (some .int) :: ([])
def wsX6_growth : List Cond := .code yX6_growth cX6_growth 5 (some .int) :: ([])
def wsX6_thicker : List Cond := .code yX6_thicker cX6_thicker 3 (some .int) :: ([.methodLink RX6 28 Lib.Math.min.name, .static Lib.Math.min.name, .initialized "java/lang/Math", .code Lib.Math.min.name Lib.Math.min.code 2 (some .int), .methodLink RX6 34 yX6_growth, .static yX6_growth, .initialized RX6, .code yX6_growth cX6_growth 5 (some .int)])
def wsX6_iceIfOf : List Cond := .code yX6_iceIfOf cX6_iceIfOf 8 (some .int) :: ([.fieldLink RX6 15 "IceSway$Yards" "ice" "[I", .fieldLink RX6 18 "IceSway$Yards" "broken" "[I", .methodLink RX6 47 yX6_isOpen, .instanceMethod yX6_isOpen, .selects RX6 yX6_isOpen yX6_isOpen, .initialized RX6, .code yX6_isOpen cX6_isOpen 2 (some .boolean), .fieldLink RX6 25 "IceSway$Yards" "openSet" "I", .methodLink RX6 51 yX6_kindOnceShut, .static yX6_kindOnceShut, .code yX6_kindOnceShut cX6_kindOnceShut 1 (some .int), .methodLink RX6 41 yX6_thicker, .static yX6_thicker, .code yX6_thicker cX6_thicker 3 (some .int), .methodLink RX6 28 Lib.Math.min.name, .static Lib.Math.min.name, .initialized "java/lang/Math", .code Lib.Math.min.name Lib.Math.min.code 2 (some .int), .methodLink RX6 34 yX6_growth, .static yX6_growth, .code yX6_growth cX6_growth 5 (some .int)] ++ wsX60)
def wsX1_fits_r1 : List Cond := [Cond.fieldLink RX1 30 "IceSway$Records" "boredCount" "I", Cond.fieldLink RX1 11 "IceSway$Records" "boredYard" "[I", Cond.fieldLink RX1 15 "IceSway$Records" "boredNights" "[I", Cond.fieldLink RX1 18 "IceSway$Records" "boredCold" "[I", Cond.fieldLink RX1 21 "IceSway$Records" "boredIce" "[I", Cond.methodLink RX1 37 yX6_iceIfOf, Cond.instanceMethod yX6_iceIfOf, Cond.selects RX6 yX6_iceIfOf yX6_iceIfOf, Cond.initialized RX6, Cond.code yX6_iceIfOf cX6_iceIfOf 8 (some .int), Cond.fieldLink RX6 15 "IceSway$Yards" "ice" "[I", Cond.fieldLink RX6 18 "IceSway$Yards" "broken" "[I", Cond.methodLink RX6 47 yX6_isOpen, Cond.instanceMethod yX6_isOpen, Cond.selects RX6 yX6_isOpen yX6_isOpen, Cond.code yX6_isOpen cX6_isOpen 2 (some .boolean), Cond.fieldLink RX6 25 "IceSway$Yards" "openSet" "I", Cond.methodLink RX6 51 yX6_kindOnceShut, Cond.static yX6_kindOnceShut, Cond.code yX6_kindOnceShut cX6_kindOnceShut 1 (some .int), Cond.methodLink RX6 41 yX6_thicker, Cond.static yX6_thicker, Cond.code yX6_thicker cX6_thicker 3 (some .int), Cond.methodLink RX6 28 Lib.Math.min.name]
def wsX1_fits_r2 : List Cond := [Cond.static Lib.Math.min.name, Cond.initialized "java/lang/Math", Cond.code Lib.Math.min.name Lib.Math.min.code 2 (some .int), Cond.methodLink RX6 34 yX6_growth, Cond.static yX6_growth, Cond.code yX6_growth cX6_growth 5 (some .int)]
def wsX1_fits : List Cond := .code yX1_fits cX1_fits 5 (some .boolean) :: ((wsX1_fits_r1 ++ wsX1_fits_r2) ++ wsX10 ++ wsX60)
def wsX6_has : List Cond := .code yX6_has cX6_has 2 (some .boolean) :: ([.fieldLink RX6 21 "IceSway$Yards" "count" "I"] ++ wsX60)
def wsX1_firstWrong : List Cond := .code yX1_firstWrong cX1_firstWrong 4 (some .int) :: ([.fieldLink RX1 34 "IceSway$Records" "entryCount" "I", .fieldLink RX1 24 "IceSway$Records" "entryYard" "[I", .fieldLink RX1 47 "IceSway$Yards" "ice" "[I", .fieldLink RX1 27 "IceSway$Records" "entryIce" "[I", .methodLink RX1 43 yX6_has, .instanceMethod yX6_has, .selects RX6 yX6_has yX6_has, .initialized RX6, .code yX6_has cX6_has 2 (some .boolean), .fieldLink RX6 21 "IceSway$Yards" "count" "I"] ++ wsX10 ++ wsX60)
def wsX4_init : List Cond := .code yX4_init cX4_init 1 none :: ([.methodLink RX4 3 objectInit, .instanceMethod objectInit, .code objectInit ⟨#[0xb1]⟩ 1 none, .arrayClass .int, .fieldLink RX4 11 "IceSway$Trip" "behindAt" "[I"] ++ wsX40)
def wsX6_init : List Cond := .code yX6_init cX6_init 1 none :: ([.methodLink RX6 3 objectInit, .instanceMethod objectInit, .code objectInit ⟨#[0xb1]⟩ 1 none, .arrayClass .int, .fieldLink RX6 11 "IceSway$Yards" "kind" "[I", .fieldLink RX6 15 "IceSway$Yards" "ice" "[I", .fieldLink RX6 18 "IceSway$Yards" "broken" "[I"] ++ wsX60)
def wsX2_init : List Cond := .code yX2_init cX2_init 2 none :: ([.methodLink RX2 3 objectInit, .instanceMethod objectInit, .code objectInit ⟨#[0xb1]⟩ 1 none, .classLink RX2 9 RX4, .instantiable RX4 4, .initialized RX4, .fieldLink RX2 12 "IceSway$Search" "trip" "LIceSway$Trip;", .classLink RX2 18 RX6, .fieldLink RX2 20 "IceSway$Search" "levels" "[LIceSway$Yards;", .instantiable RX6 5, .initialized RX6, .instanceMethod yX4_init, .code yX4_init cX4_init 1 none, .methodLink RX4 3 objectInit, .arrayClass .int, .fieldLink RX4 11 "IceSway$Trip" "behindAt" "[I", .instanceMethod yX6_init, .code yX6_init cX6_init 1 none, .methodLink RX6 3 objectInit, .fieldLink RX6 11 "IceSway$Yards" "kind" "[I", .fieldLink RX6 15 "IceSway$Yards" "ice" "[I", .fieldLink RX6 18 "IceSway$Yards" "broken" "[I"] ++ wsX40 ++ wsX20 ++ wsX60)
def wsX6_copyFrom : List Cond := .code yX6_copyFrom cX6_copyFrom 3 none :: ([.fieldLink RX6 21 "IceSway$Yards" "count" "I", .fieldLink RX6 25 "IceSway$Yards" "openSet" "I", .fieldLink RX6 11 "IceSway$Yards" "kind" "[I", .fieldLink RX6 15 "IceSway$Yards" "ice" "[I", .fieldLink RX6 18 "IceSway$Yards" "broken" "[I"] ++ wsX60)
def wsX2_start_r1 : List Cond := [Cond.fieldLink RX2 20 "IceSway$Search" "levels" "[LIceSway$Yards;", Cond.fieldLink RX2 25 "IceSway$Winter" "yards" "LIceSway$Yards;", Cond.methodLink RX2 35 Lib.Math.min.name, Cond.static Lib.Math.min.name, Cond.initialized "java/lang/Math", Cond.code Lib.Math.min.name Lib.Math.min.code 2 (some .int), Cond.fieldLink RX2 41 "IceSway$Search" "depth" "I", Cond.fieldLink RX2 45 "IceSway$Search" "minutes" "I", Cond.fieldLink RX2 48 "IceSway$Winter" "beat" "I", Cond.fieldLink RX2 57 "IceSway$Search" "force" "I", Cond.fieldLink RX2 64 "IceSway$Search" "axe" "I", Cond.methodLink RX2 31 yX6_copyFrom, Cond.instanceMethod yX6_copyFrom, Cond.selects RX6 yX6_copyFrom yX6_copyFrom, Cond.initialized RX6, Cond.code yX6_copyFrom cX6_copyFrom 3 none, Cond.fieldLink RX6 21 "IceSway$Yards" "count" "I", Cond.fieldLink RX6 25 "IceSway$Yards" "openSet" "I", Cond.fieldLink RX6 11 "IceSway$Yards" "kind" "[I", Cond.fieldLink RX6 15 "IceSway$Yards" "ice" "[I", Cond.fieldLink RX6 18 "IceSway$Yards" "broken" "[I", Cond.methodLink RX2 51 yX0_forceBy, Cond.instanceMethod yX0_forceBy, Cond.selects RX0 yX0_forceBy yX0_forceBy]
def wsX2_start_r2 : List Cond := [Cond.initialized RX0, Cond.code yX0_forceBy cX0_forceBy 2 (some .int), Cond.methodLink RX0 26 yX0_horsesTold, Cond.instanceMethod yX0_horsesTold, Cond.selects RX0 yX0_horsesTold yX0_horsesTold, Cond.code yX0_horsesTold cX0_horsesTold 1 (some .int), Cond.fieldLink RX0 9 "IceSway$Boat" "numbers" "[I", Cond.methodLink RX0 30 yX0_laggardsTold, Cond.instanceMethod yX0_laggardsTold, Cond.selects RX0 yX0_laggardsTold yX0_laggardsTold, Cond.code yX0_laggardsTold cX0_laggardsTold 1 (some .int), Cond.methodLink RX0 33 yX0_swayBy, Cond.instanceMethod yX0_swayBy, Cond.selects RX0 yX0_swayBy yX0_swayBy, Cond.code yX0_swayBy cX0_swayBy 6 (some .int), Cond.methodLink RX0 16 Lib.Math.max.name, Cond.static Lib.Math.max.name, Cond.code Lib.Math.max.name Lib.Math.max.code 2 (some .int), Cond.methodLink RX0 22 Lib.Math.abs.name, Cond.static Lib.Math.abs.name, Cond.code Lib.Math.abs.name Lib.Math.abs.code 1 (some .int), Cond.methodLink RX0 36 yX0_forceOf, Cond.static yX0_forceOf, Cond.code yX0_forceOf cX0_forceOf 2 (some .int)]
def wsX2_start_r3 : List Cond := [Cond.methodLink RX2 60 yX0_axeMinutes, Cond.instanceMethod yX0_axeMinutes, Cond.selects RX0 yX0_axeMinutes yX0_axeMinutes, Cond.code yX0_axeMinutes cX0_axeMinutes 1 (some .int)]
def wsX2_start : List Cond := .code yX2_start cX2_start 5 none :: ((wsX2_start_r1 ++ (wsX2_start_r2 ++ wsX2_start_r3)) ++ wsX20 ++ wsX50 ++ wsX60 ++ wsX00)
def wsX2_takeIfBetter : List Cond := .code yX2_takeIfBetter cX2_takeIfBetter 3 none :: ([.fieldLink RX2 88 "IceSway$Search" "leastCost" "I", .fieldLink RX2 91 "IceSway$Search" "leastSet" "I"] ++ wsX20)
def wsX6_shutOpen : List Cond := .code yX6_shutOpen cX6_shutOpen 2 none :: ([.fieldLink RX6 25 "IceSway$Yards" "openSet" "I", .fieldLink RX6 21 "IceSway$Yards" "count" "I", .fieldLink RX6 15 "IceSway$Yards" "ice" "[I", .fieldLink RX6 18 "IceSway$Yards" "broken" "[I", .fieldLink RX6 11 "IceSway$Yards" "kind" "[I", .methodLink RX6 47 yX6_isOpen, .instanceMethod yX6_isOpen, .selects RX6 yX6_isOpen yX6_isOpen, .initialized RX6, .code yX6_isOpen cX6_isOpen 2 (some .boolean), .methodLink RX6 51 yX6_kindOnceShut, .static yX6_kindOnceShut, .code yX6_kindOnceShut cX6_kindOnceShut 1 (some .int)] ++ wsX60)
def wsX6_freeze_r1 : List Cond := [Cond.fieldLink RX6 21 "IceSway$Yards" "count" "I", Cond.fieldLink RX6 15 "IceSway$Yards" "ice" "[I", Cond.fieldLink RX6 11 "IceSway$Yards" "kind" "[I", Cond.methodLink RX6 38 yX6_shutOpen, Cond.instanceMethod yX6_shutOpen, Cond.selects RX6 yX6_shutOpen yX6_shutOpen, Cond.initialized RX6, Cond.code yX6_shutOpen cX6_shutOpen 2 none, Cond.fieldLink RX6 25 "IceSway$Yards" "openSet" "I", Cond.fieldLink RX6 18 "IceSway$Yards" "broken" "[I", Cond.methodLink RX6 47 yX6_isOpen, Cond.instanceMethod yX6_isOpen, Cond.selects RX6 yX6_isOpen yX6_isOpen, Cond.code yX6_isOpen cX6_isOpen 2 (some .boolean), Cond.methodLink RX6 51 yX6_kindOnceShut, Cond.static yX6_kindOnceShut, Cond.code yX6_kindOnceShut cX6_kindOnceShut 1 (some .int), Cond.methodLink RX6 41 yX6_thicker, Cond.static yX6_thicker, Cond.code yX6_thicker cX6_thicker 3 (some .int), Cond.methodLink RX6 28 Lib.Math.min.name, Cond.static Lib.Math.min.name, Cond.initialized "java/lang/Math", Cond.code Lib.Math.min.name Lib.Math.min.code 2 (some .int)]
def wsX6_freeze_r2 : List Cond := [Cond.methodLink RX6 34 yX6_growth, Cond.static yX6_growth, Cond.code yX6_growth cX6_growth 5 (some .int)]
def wsX6_freeze : List Cond := .code yX6_freeze cX6_freeze 3 none :: ((wsX6_freeze_r1 ++ wsX6_freeze_r2) ++ wsX60)
def wsX4_minutesThrough : List Cond := .code yX4_minutesThrough cX4_minutesThrough 5 (some .int) :: ([])
def wsX4_go : List Cond := .code yX4_go cX4_go 7 none :: ([.fieldLink RX4 17 "IceSway$Trip" "behind" "I", .fieldLink RX4 21 "IceSway$Trip" "minutes" "I", .fieldLink RX4 24 "IceSway$Trip" "firstBroken" "I", .fieldLink RX4 27 "IceSway$Yards" "count" "I", .fieldLink RX4 30 "IceSway$Yards" "kind" "[I", .fieldLink RX4 33 "IceSway$Yards" "ice" "[I", .fieldLink RX4 11 "IceSway$Trip" "behindAt" "[I", .methodLink RX4 36 yX4_minutesThrough, .static yX4_minutesThrough, .initialized RX4, .code yX4_minutesThrough cX4_minutesThrough 5 (some .int)] ++ wsX40 ++ wsX60)
def wsX4_passes : List Cond := .code yX4_passes cX4_passes 5 (some .boolean) :: ([.fieldLink RX4 17 "IceSway$Trip" "behind" "I", .fieldLink RX4 27 "IceSway$Yards" "count" "I", .methodLink RX4 40 yX4_go, .instanceMethod yX4_go, .selects RX4 yX4_go yX4_go, .initialized RX4, .code yX4_go cX4_go 7 none, .fieldLink RX4 21 "IceSway$Trip" "minutes" "I", .fieldLink RX4 24 "IceSway$Trip" "firstBroken" "I", .fieldLink RX4 30 "IceSway$Yards" "kind" "[I", .fieldLink RX4 33 "IceSway$Yards" "ice" "[I", .fieldLink RX4 11 "IceSway$Trip" "behindAt" "[I", .methodLink RX4 36 yX4_minutesThrough, .static yX4_minutesThrough, .code yX4_minutesThrough cX4_minutesThrough 5 (some .int)] ++ wsX40 ++ wsX60)
def wsX6_openFirst : List Cond := .code yX6_openFirst cX6_openFirst 3 none :: ([.fieldLink RX6 21 "IceSway$Yards" "count" "I", .fieldLink RX6 15 "IceSway$Yards" "ice" "[I", .fieldLink RX6 25 "IceSway$Yards" "openSet" "I", .fieldLink RX6 18 "IceSway$Yards" "broken" "[I"] ++ wsX60)
def wsX2_tryDay_r1 : List Cond := [Cond.fieldLink RX2 88 "IceSway$Search" "leastCost" "I", Cond.fieldLink RX2 41 "IceSway$Search" "depth" "I", Cond.methodLink RX2 102 Lib.Math.max.name, Cond.static Lib.Math.max.name, Cond.initialized "java/lang/Math", Cond.code Lib.Math.max.name Lib.Math.max.code 2 (some .int), Cond.fieldLink RX2 83 "IceSway$Search" "wantCost" "I", Cond.fieldLink RX2 20 "IceSway$Search" "levels" "[LIceSway$Yards;", Cond.fieldLink RX2 67 "IceSway$Search" "cold" "I", Cond.fieldLink RX2 12 "IceSway$Search" "trip" "LIceSway$Trip;", Cond.fieldLink RX2 57 "IceSway$Search" "force" "I", Cond.fieldLink RX2 64 "IceSway$Search" "axe" "I", Cond.fieldLink RX2 45 "IceSway$Search" "minutes" "I", Cond.fieldLink RX2 113 "IceSway$Trip" "behind" "I", Cond.fieldLink RX2 73 "IceSway$Search" "coalDays" "I", Cond.fieldLink RX2 78 "IceSway$Search" "dayCost" "I", Cond.methodLink RX2 98 yX2_takeIfBetter, Cond.instanceMethod yX2_takeIfBetter, Cond.selects RX2 yX2_takeIfBetter yX2_takeIfBetter, Cond.initialized RX2, Cond.code yX2_takeIfBetter cX2_takeIfBetter 3 none, Cond.fieldLink RX2 91 "IceSway$Search" "leastSet" "I", Cond.methodLink RX2 31 yX6_copyFrom, Cond.instanceMethod yX6_copyFrom]
def wsX2_tryDay_r2 : List Cond := [Cond.selects RX6 yX6_copyFrom yX6_copyFrom, Cond.initialized RX6, Cond.code yX6_copyFrom cX6_copyFrom 3 none, Cond.fieldLink RX6 21 "IceSway$Yards" "count" "I", Cond.fieldLink RX6 25 "IceSway$Yards" "openSet" "I", Cond.fieldLink RX6 11 "IceSway$Yards" "kind" "[I", Cond.fieldLink RX6 15 "IceSway$Yards" "ice" "[I", Cond.fieldLink RX6 18 "IceSway$Yards" "broken" "[I", Cond.methodLink RX2 105 yX6_freeze, Cond.instanceMethod yX6_freeze, Cond.selects RX6 yX6_freeze yX6_freeze, Cond.code yX6_freeze cX6_freeze 3 none, Cond.methodLink RX6 38 yX6_shutOpen, Cond.instanceMethod yX6_shutOpen, Cond.selects RX6 yX6_shutOpen yX6_shutOpen, Cond.code yX6_shutOpen cX6_shutOpen 2 none, Cond.methodLink RX6 47 yX6_isOpen, Cond.instanceMethod yX6_isOpen, Cond.selects RX6 yX6_isOpen yX6_isOpen, Cond.code yX6_isOpen cX6_isOpen 2 (some .boolean), Cond.methodLink RX6 51 yX6_kindOnceShut, Cond.static yX6_kindOnceShut, Cond.code yX6_kindOnceShut cX6_kindOnceShut 1 (some .int), Cond.methodLink RX6 41 yX6_thicker]
def wsX2_tryDay_r3 : List Cond := [Cond.static yX6_thicker, Cond.code yX6_thicker cX6_thicker 3 (some .int), Cond.methodLink RX6 28 Lib.Math.min.name, Cond.static Lib.Math.min.name, Cond.code Lib.Math.min.name Lib.Math.min.code 2 (some .int), Cond.methodLink RX6 34 yX6_growth, Cond.static yX6_growth, Cond.code yX6_growth cX6_growth 5 (some .int), Cond.methodLink RX2 94 yX2_tryDay, Cond.instanceMethod yX2_tryDay, Cond.selects RX2 yX2_tryDay yX2_tryDay, Cond.methodLink RX2 109 yX4_passes, Cond.instanceMethod yX4_passes, Cond.selects RX4 yX4_passes yX4_passes, Cond.initialized RX4, Cond.code yX4_passes cX4_passes 5 (some .boolean), Cond.fieldLink RX4 17 "IceSway$Trip" "behind" "I", Cond.fieldLink RX4 27 "IceSway$Yards" "count" "I", Cond.methodLink RX4 40 yX4_go, Cond.instanceMethod yX4_go, Cond.selects RX4 yX4_go yX4_go, Cond.code yX4_go cX4_go 7 none, Cond.fieldLink RX4 21 "IceSway$Trip" "minutes" "I", Cond.fieldLink RX4 24 "IceSway$Trip" "firstBroken" "I"]
def wsX2_tryDay_r4 : List Cond := [Cond.fieldLink RX4 30 "IceSway$Yards" "kind" "[I", Cond.fieldLink RX4 33 "IceSway$Yards" "ice" "[I", Cond.fieldLink RX4 11 "IceSway$Trip" "behindAt" "[I", Cond.methodLink RX4 36 yX4_minutesThrough, Cond.static yX4_minutesThrough, Cond.code yX4_minutesThrough cX4_minutesThrough 5 (some .int), Cond.methodLink RX2 116 yX6_openFirst, Cond.instanceMethod yX6_openFirst, Cond.selects RX6 yX6_openFirst yX6_openFirst, Cond.code yX6_openFirst cX6_openFirst 3 none]
def wsX2_tryDay : List Cond := .code yX2_tryDay cX2_tryDay 11 none :: ((wsX2_tryDay_r1 ++ (wsX2_tryDay_r2 ++ (wsX2_tryDay_r3 ++ wsX2_tryDay_r4))) ++ wsX20 ++ wsX40 ++ wsX60)
def wsX2_findPlan_r1 : List Cond := [Cond.fieldLink RX2 67 "IceSway$Search" "cold" "I", Cond.fieldLink RX2 73 "IceSway$Search" "coalDays" "I", Cond.fieldLink RX2 78 "IceSway$Search" "dayCost" "I", Cond.fieldLink RX2 83 "IceSway$Search" "wantCost" "I", Cond.constant RX2 87 (2147483647), Cond.fieldLink RX2 88 "IceSway$Search" "leastCost" "I", Cond.fieldLink RX2 91 "IceSway$Search" "leastSet" "I", Cond.methodLink RX2 70 yX0_coalDays, Cond.instanceMethod yX0_coalDays, Cond.selects RX0 yX0_coalDays yX0_coalDays, Cond.initialized RX0, Cond.code yX0_coalDays cX0_coalDays 1 (some .int), Cond.fieldLink RX0 9 "IceSway$Boat" "numbers" "[I", Cond.methodLink RX2 75 yX0_dayCost, Cond.instanceMethod yX0_dayCost, Cond.selects RX0 yX0_dayCost yX0_dayCost, Cond.code yX0_dayCost cX0_dayCost 1 (some .int), Cond.methodLink RX2 80 yX0_wantCost, Cond.instanceMethod yX0_wantCost, Cond.selects RX0 yX0_wantCost yX0_wantCost, Cond.code yX0_wantCost cX0_wantCost 1 (some .int), Cond.methodLink RX2 94 yX2_tryDay, Cond.instanceMethod yX2_tryDay, Cond.selects RX2 yX2_tryDay yX2_tryDay]
def wsX2_findPlan_r2 : List Cond := [Cond.initialized RX2, Cond.code yX2_tryDay cX2_tryDay 11 none, Cond.fieldLink RX2 41 "IceSway$Search" "depth" "I", Cond.methodLink RX2 102 Lib.Math.max.name, Cond.static Lib.Math.max.name, Cond.initialized "java/lang/Math", Cond.code Lib.Math.max.name Lib.Math.max.code 2 (some .int), Cond.fieldLink RX2 20 "IceSway$Search" "levels" "[LIceSway$Yards;", Cond.fieldLink RX2 12 "IceSway$Search" "trip" "LIceSway$Trip;", Cond.fieldLink RX2 57 "IceSway$Search" "force" "I", Cond.fieldLink RX2 64 "IceSway$Search" "axe" "I", Cond.fieldLink RX2 45 "IceSway$Search" "minutes" "I", Cond.fieldLink RX2 113 "IceSway$Trip" "behind" "I", Cond.methodLink RX2 98 yX2_takeIfBetter, Cond.instanceMethod yX2_takeIfBetter, Cond.selects RX2 yX2_takeIfBetter yX2_takeIfBetter, Cond.code yX2_takeIfBetter cX2_takeIfBetter 3 none, Cond.methodLink RX2 31 yX6_copyFrom, Cond.instanceMethod yX6_copyFrom, Cond.selects RX6 yX6_copyFrom yX6_copyFrom, Cond.initialized RX6, Cond.code yX6_copyFrom cX6_copyFrom 3 none, Cond.fieldLink RX6 21 "IceSway$Yards" "count" "I", Cond.fieldLink RX6 25 "IceSway$Yards" "openSet" "I"]
def wsX2_findPlan_r3 : List Cond := [Cond.fieldLink RX6 11 "IceSway$Yards" "kind" "[I", Cond.fieldLink RX6 15 "IceSway$Yards" "ice" "[I", Cond.fieldLink RX6 18 "IceSway$Yards" "broken" "[I", Cond.methodLink RX2 105 yX6_freeze, Cond.instanceMethod yX6_freeze, Cond.selects RX6 yX6_freeze yX6_freeze, Cond.code yX6_freeze cX6_freeze 3 none, Cond.methodLink RX6 38 yX6_shutOpen, Cond.instanceMethod yX6_shutOpen, Cond.selects RX6 yX6_shutOpen yX6_shutOpen, Cond.code yX6_shutOpen cX6_shutOpen 2 none, Cond.methodLink RX6 47 yX6_isOpen, Cond.instanceMethod yX6_isOpen, Cond.selects RX6 yX6_isOpen yX6_isOpen, Cond.code yX6_isOpen cX6_isOpen 2 (some .boolean), Cond.methodLink RX6 51 yX6_kindOnceShut, Cond.static yX6_kindOnceShut, Cond.code yX6_kindOnceShut cX6_kindOnceShut 1 (some .int), Cond.methodLink RX6 41 yX6_thicker, Cond.static yX6_thicker, Cond.code yX6_thicker cX6_thicker 3 (some .int), Cond.methodLink RX6 28 Lib.Math.min.name, Cond.static Lib.Math.min.name, Cond.code Lib.Math.min.name Lib.Math.min.code 2 (some .int)]
def wsX2_findPlan_r4 : List Cond := [Cond.methodLink RX6 34 yX6_growth, Cond.static yX6_growth, Cond.code yX6_growth cX6_growth 5 (some .int), Cond.methodLink RX2 109 yX4_passes, Cond.instanceMethod yX4_passes, Cond.selects RX4 yX4_passes yX4_passes, Cond.initialized RX4, Cond.code yX4_passes cX4_passes 5 (some .boolean), Cond.fieldLink RX4 17 "IceSway$Trip" "behind" "I", Cond.fieldLink RX4 27 "IceSway$Yards" "count" "I", Cond.methodLink RX4 40 yX4_go, Cond.instanceMethod yX4_go, Cond.selects RX4 yX4_go yX4_go, Cond.code yX4_go cX4_go 7 none, Cond.fieldLink RX4 21 "IceSway$Trip" "minutes" "I", Cond.fieldLink RX4 24 "IceSway$Trip" "firstBroken" "I", Cond.fieldLink RX4 30 "IceSway$Yards" "kind" "[I", Cond.fieldLink RX4 33 "IceSway$Yards" "ice" "[I", Cond.fieldLink RX4 11 "IceSway$Trip" "behindAt" "[I", Cond.methodLink RX4 36 yX4_minutesThrough, Cond.static yX4_minutesThrough, Cond.code yX4_minutesThrough cX4_minutesThrough 5 (some .int), Cond.methodLink RX2 116 yX6_openFirst, Cond.instanceMethod yX6_openFirst]
def wsX2_findPlan_r5 : List Cond := [Cond.selects RX6 yX6_openFirst yX6_openFirst, Cond.code yX6_openFirst cX6_openFirst 3 none]
def wsX2_findPlan : List Cond := .code yX2_findPlan cX2_findPlan 3 none :: ((wsX2_findPlan_r1 ++ (wsX2_findPlan_r2 ++ (wsX2_findPlan_r3 ++ (wsX2_findPlan_r4 ++ wsX2_findPlan_r5)))) ++ wsX20 ++ wsX00 ++ wsX40 ++ wsX60)
def wsX6_melt : List Cond := .code yX6_melt cX6_melt 3 none :: ([.fieldLink RX6 21 "IceSway$Yards" "count" "I", .fieldLink RX6 15 "IceSway$Yards" "ice" "[I", .methodLink RX6 44 Lib.Math.max.name, .static Lib.Math.max.name, .initialized "java/lang/Math", .code Lib.Math.max.name Lib.Math.max.code 2 (some .int), .methodLink RX6 38 yX6_shutOpen, .instanceMethod yX6_shutOpen, .selects RX6 yX6_shutOpen yX6_shutOpen, .initialized RX6, .code yX6_shutOpen cX6_shutOpen 2 none, .fieldLink RX6 25 "IceSway$Yards" "openSet" "I", .fieldLink RX6 18 "IceSway$Yards" "broken" "[I", .fieldLink RX6 11 "IceSway$Yards" "kind" "[I", .methodLink RX6 47 yX6_isOpen, .instanceMethod yX6_isOpen, .selects RX6 yX6_isOpen yX6_isOpen, .code yX6_isOpen cX6_isOpen 2 (some .boolean), .methodLink RX6 51 yX6_kindOnceShut, .static yX6_kindOnceShut, .code yX6_kindOnceShut cX6_kindOnceShut 1 (some .int)] ++ wsX60)
def wsX2_oddsOf_r1 : List Cond := [Cond.fieldLink RX2 41 "IceSway$Search" "depth" "I", Cond.fieldLink RX2 12 "IceSway$Search" "trip" "LIceSway$Trip;", Cond.fieldLink RX2 20 "IceSway$Search" "levels" "[LIceSway$Yards;", Cond.fieldLink RX2 57 "IceSway$Search" "force" "I", Cond.fieldLink RX2 64 "IceSway$Search" "axe" "I", Cond.fieldLink RX2 45 "IceSway$Search" "minutes" "I", Cond.fieldLink RX2 122 "IceSway$Search" "percent" "I", Cond.constantLong RX2 131 (100), Cond.fieldLink RX2 119 "IceSway$Search" "thaw" "I", Cond.fieldLink RX2 67 "IceSway$Search" "cold" "I", Cond.methodLink RX2 109 yX4_passes, Cond.instanceMethod yX4_passes, Cond.selects RX4 yX4_passes yX4_passes, Cond.initialized RX4, Cond.code yX4_passes cX4_passes 5 (some .boolean), Cond.fieldLink RX4 17 "IceSway$Trip" "behind" "I", Cond.fieldLink RX4 27 "IceSway$Yards" "count" "I", Cond.methodLink RX4 40 yX4_go, Cond.instanceMethod yX4_go, Cond.selects RX4 yX4_go yX4_go, Cond.code yX4_go cX4_go 7 none, Cond.fieldLink RX4 21 "IceSway$Trip" "minutes" "I", Cond.fieldLink RX4 24 "IceSway$Trip" "firstBroken" "I", Cond.fieldLink RX4 30 "IceSway$Yards" "kind" "[I"]
def wsX2_oddsOf_r2 : List Cond := [Cond.fieldLink RX4 33 "IceSway$Yards" "ice" "[I", Cond.fieldLink RX4 11 "IceSway$Trip" "behindAt" "[I", Cond.methodLink RX4 36 yX4_minutesThrough, Cond.static yX4_minutesThrough, Cond.code yX4_minutesThrough cX4_minutesThrough 5 (some .int), Cond.methodLink RX2 31 yX6_copyFrom, Cond.instanceMethod yX6_copyFrom, Cond.selects RX6 yX6_copyFrom yX6_copyFrom, Cond.initialized RX6, Cond.code yX6_copyFrom cX6_copyFrom 3 none, Cond.fieldLink RX6 21 "IceSway$Yards" "count" "I", Cond.fieldLink RX6 25 "IceSway$Yards" "openSet" "I", Cond.fieldLink RX6 11 "IceSway$Yards" "kind" "[I", Cond.fieldLink RX6 15 "IceSway$Yards" "ice" "[I", Cond.fieldLink RX6 18 "IceSway$Yards" "broken" "[I", Cond.methodLink RX2 133 yX6_melt, Cond.instanceMethod yX6_melt, Cond.selects RX6 yX6_melt yX6_melt, Cond.code yX6_melt cX6_melt 3 none, Cond.methodLink RX6 44 Lib.Math.max.name, Cond.static Lib.Math.max.name, Cond.initialized "java/lang/Math", Cond.code Lib.Math.max.name Lib.Math.max.code 2 (some .int), Cond.methodLink RX6 38 yX6_shutOpen]
def wsX2_oddsOf_r3 : List Cond := [Cond.instanceMethod yX6_shutOpen, Cond.selects RX6 yX6_shutOpen yX6_shutOpen, Cond.code yX6_shutOpen cX6_shutOpen 2 none, Cond.methodLink RX6 47 yX6_isOpen, Cond.instanceMethod yX6_isOpen, Cond.selects RX6 yX6_isOpen yX6_isOpen, Cond.code yX6_isOpen cX6_isOpen 2 (some .boolean), Cond.methodLink RX6 51 yX6_kindOnceShut, Cond.static yX6_kindOnceShut, Cond.code yX6_kindOnceShut cX6_kindOnceShut 1 (some .int), Cond.methodLink RX2 127 yX2_oddsOf, Cond.instanceMethod yX2_oddsOf, Cond.selects RX2 yX2_oddsOf yX2_oddsOf, Cond.initialized RX2, Cond.methodLink RX2 105 yX6_freeze, Cond.instanceMethod yX6_freeze, Cond.selects RX6 yX6_freeze yX6_freeze, Cond.code yX6_freeze cX6_freeze 3 none, Cond.methodLink RX6 41 yX6_thicker, Cond.static yX6_thicker, Cond.code yX6_thicker cX6_thicker 3 (some .int), Cond.methodLink RX6 28 Lib.Math.min.name, Cond.static Lib.Math.min.name, Cond.code Lib.Math.min.name Lib.Math.min.code 2 (some .int)]
def wsX2_oddsOf_r4 : List Cond := [Cond.methodLink RX6 34 yX6_growth, Cond.static yX6_growth, Cond.code yX6_growth cX6_growth 5 (some .int)]
def wsX2_oddsOf : List Cond := .code yX2_oddsOf cX2_oddsOf 9 (some .long) :: ((wsX2_oddsOf_r1 ++ (wsX2_oddsOf_r2 ++ (wsX2_oddsOf_r3 ++ wsX2_oddsOf_r4))) ++ wsX20 ++ wsX40 ++ wsX60)
def wsX2_findOdds_r1 : List Cond := [Cond.fieldLink RX2 67 "IceSway$Search" "cold" "I", Cond.fieldLink RX2 119 "IceSway$Search" "thaw" "I", Cond.fieldLink RX2 122 "IceSway$Search" "percent" "I", Cond.constantLong RX2 125 (1000000000), Cond.methodLink RX2 127 yX2_oddsOf, Cond.instanceMethod yX2_oddsOf, Cond.selects RX2 yX2_oddsOf yX2_oddsOf, Cond.initialized RX2, Cond.code yX2_oddsOf cX2_oddsOf 9 (some .long), Cond.fieldLink RX2 41 "IceSway$Search" "depth" "I", Cond.fieldLink RX2 12 "IceSway$Search" "trip" "LIceSway$Trip;", Cond.fieldLink RX2 20 "IceSway$Search" "levels" "[LIceSway$Yards;", Cond.fieldLink RX2 57 "IceSway$Search" "force" "I", Cond.fieldLink RX2 64 "IceSway$Search" "axe" "I", Cond.fieldLink RX2 45 "IceSway$Search" "minutes" "I", Cond.constantLong RX2 131 (100), Cond.methodLink RX2 109 yX4_passes, Cond.instanceMethod yX4_passes, Cond.selects RX4 yX4_passes yX4_passes, Cond.initialized RX4, Cond.code yX4_passes cX4_passes 5 (some .boolean), Cond.fieldLink RX4 17 "IceSway$Trip" "behind" "I", Cond.fieldLink RX4 27 "IceSway$Yards" "count" "I", Cond.methodLink RX4 40 yX4_go]
def wsX2_findOdds_r2 : List Cond := [Cond.instanceMethod yX4_go, Cond.selects RX4 yX4_go yX4_go, Cond.code yX4_go cX4_go 7 none, Cond.fieldLink RX4 21 "IceSway$Trip" "minutes" "I", Cond.fieldLink RX4 24 "IceSway$Trip" "firstBroken" "I", Cond.fieldLink RX4 30 "IceSway$Yards" "kind" "[I", Cond.fieldLink RX4 33 "IceSway$Yards" "ice" "[I", Cond.fieldLink RX4 11 "IceSway$Trip" "behindAt" "[I", Cond.methodLink RX4 36 yX4_minutesThrough, Cond.static yX4_minutesThrough, Cond.code yX4_minutesThrough cX4_minutesThrough 5 (some .int), Cond.methodLink RX2 31 yX6_copyFrom, Cond.instanceMethod yX6_copyFrom, Cond.selects RX6 yX6_copyFrom yX6_copyFrom, Cond.initialized RX6, Cond.code yX6_copyFrom cX6_copyFrom 3 none, Cond.fieldLink RX6 21 "IceSway$Yards" "count" "I", Cond.fieldLink RX6 25 "IceSway$Yards" "openSet" "I", Cond.fieldLink RX6 11 "IceSway$Yards" "kind" "[I", Cond.fieldLink RX6 15 "IceSway$Yards" "ice" "[I", Cond.fieldLink RX6 18 "IceSway$Yards" "broken" "[I", Cond.methodLink RX2 133 yX6_melt, Cond.instanceMethod yX6_melt, Cond.selects RX6 yX6_melt yX6_melt]
def wsX2_findOdds_r3 : List Cond := [Cond.code yX6_melt cX6_melt 3 none, Cond.methodLink RX6 44 Lib.Math.max.name, Cond.static Lib.Math.max.name, Cond.initialized "java/lang/Math", Cond.code Lib.Math.max.name Lib.Math.max.code 2 (some .int), Cond.methodLink RX6 38 yX6_shutOpen, Cond.instanceMethod yX6_shutOpen, Cond.selects RX6 yX6_shutOpen yX6_shutOpen, Cond.code yX6_shutOpen cX6_shutOpen 2 none, Cond.methodLink RX6 47 yX6_isOpen, Cond.instanceMethod yX6_isOpen, Cond.selects RX6 yX6_isOpen yX6_isOpen, Cond.code yX6_isOpen cX6_isOpen 2 (some .boolean), Cond.methodLink RX6 51 yX6_kindOnceShut, Cond.static yX6_kindOnceShut, Cond.code yX6_kindOnceShut cX6_kindOnceShut 1 (some .int), Cond.methodLink RX2 105 yX6_freeze, Cond.instanceMethod yX6_freeze, Cond.selects RX6 yX6_freeze yX6_freeze, Cond.code yX6_freeze cX6_freeze 3 none, Cond.methodLink RX6 41 yX6_thicker, Cond.static yX6_thicker, Cond.code yX6_thicker cX6_thicker 3 (some .int), Cond.methodLink RX6 28 Lib.Math.min.name]
def wsX2_findOdds_r4 : List Cond := [Cond.static Lib.Math.min.name, Cond.code Lib.Math.min.name Lib.Math.min.code 2 (some .int), Cond.methodLink RX6 34 yX6_growth, Cond.static yX6_growth, Cond.code yX6_growth cX6_growth 5 (some .int)]
def wsX2_findOdds : List Cond := .code yX2_findOdds cX2_findOdds 4 (some .int) :: ((wsX2_findOdds_r1 ++ (wsX2_findOdds_r2 ++ (wsX2_findOdds_r3 ++ wsX2_findOdds_r4))) ++ wsX20 ++ wsX40 ++ wsX60)
def wsX3_init : List Cond := .code yX3_init cX3_init 1 none :: ([.methodLink RX3 3 objectInit, .instanceMethod objectInit, .code objectInit ⟨#[0xb1]⟩ 1 none, .arrayClass .int, .fieldLink RX3 11 "IceSway$Text" "letters" "[I", .fieldLink RX3 17 "IceSway$Text" "numbers" "[I", .fieldLink RX3 22 "IceSway$Text" "yardKinds" "[I", .fieldLink RX3 25 "IceSway$Text" "yardIce" "[I", .fieldLink RX3 28 "IceSway$Text" "faultPlace" "I"] ++ wsX30)
def wsX3_isFull : List Cond := .code yX3_isFull cX3_isFull 1 (some .boolean) :: ([.fieldLink RX3 32 "IceSway$Text" "length" "I"] ++ wsX30)
def wsX3_add : List Cond := .code yX3_add cX3_add 2 none :: ([.fieldLink RX3 11 "IceSway$Text" "letters" "[I", .fieldLink RX3 32 "IceSway$Text" "length" "I", .methodLink RX3 35 yX3_isFull, .instanceMethod yX3_isFull, .selects RX3 yX3_isFull yX3_isFull, .initialized RX3, .code yX3_isFull cX3_isFull 1 (some .boolean)] ++ wsX30)
def wsX3_skipBlanks : List Cond := .code yX3_skipBlanks cX3_skipBlanks 1 none :: ([.fieldLink RX3 39 "IceSway$Text" "place" "I", .fieldLink RX3 32 "IceSway$Text" "length" "I", .fieldLink RX3 11 "IceSway$Text" "letters" "[I"] ++ wsX30)
def wsX3_isAtEnd : List Cond := .code yX3_isAtEnd cX3_isAtEnd 1 (some .boolean) :: ([.fieldLink RX3 39 "IceSway$Text" "place" "I", .fieldLink RX3 32 "IceSway$Text" "length" "I"] ++ wsX30)
def wsX3_clauseOf : List Cond := .code yX3_clauseOf cX3_clauseOf 1 (some .int) :: ([])
def wsX3_failAt : List Cond := .code yX3_failAt cX3_failAt 3 (some .boolean) :: ([.fieldLink RX3 28 "IceSway$Text" "faultPlace" "I", .fieldLink RX3 48 "IceSway$Text" "faultNumber" "I"] ++ wsX30)
def wsX3_isFigure : List Cond := .code yX3_isFigure cX3_isFigure 1 (some .boolean) :: ([])
def wsX7_isOut : List Cond := .code yX7_isOut cX7_isOut 3 (some .boolean) :: ([])
def wsX3_readNumber : List Cond := .code yX3_readNumber cX3_readNumber 5 (some .int) :: ([.fieldLink RX3 39 "IceSway$Text" "place" "I", .fieldLink RX3 32 "IceSway$Text" "length" "I", .fieldLink RX3 11 "IceSway$Text" "letters" "[I", .methodLink RX3 54 yX3_skipBlanks, .instanceMethod yX3_skipBlanks, .selects RX3 yX3_skipBlanks yX3_skipBlanks, .initialized RX3, .code yX3_skipBlanks cX3_skipBlanks 1 none, .methodLink RX3 100 yX3_isFigure, .static yX3_isFigure, .code yX3_isFigure cX3_isFigure 1 (some .boolean), .methodLink RX3 67 yX3_failAt, .instanceMethod yX3_failAt, .selects RX3 yX3_failAt yX3_failAt, .code yX3_failAt cX3_failAt 3 (some .boolean), .fieldLink RX3 28 "IceSway$Text" "faultPlace" "I", .fieldLink RX3 48 "IceSway$Text" "faultNumber" "I", .static yX7_isOut, .initialized RX7, .code yX7_isOut cX7_isOut 3 (some .boolean)] ++ wsX30)
def wsX3_readYard_r1 : List Cond := [Cond.fieldLink RX3 22 "IceSway$Text" "yardKinds" "[I", Cond.fieldLink RX3 25 "IceSway$Text" "yardIce" "[I", Cond.fieldLink RX3 45 "IceSway$Text" "yardCount" "I", Cond.methodLink RX3 84 yX3_readNumber, Cond.instanceMethod yX3_readNumber, Cond.selects RX3 yX3_readNumber yX3_readNumber, Cond.initialized RX3, Cond.code yX3_readNumber cX3_readNumber 5 (some .int), Cond.fieldLink RX3 39 "IceSway$Text" "place" "I", Cond.fieldLink RX3 32 "IceSway$Text" "length" "I", Cond.fieldLink RX3 11 "IceSway$Text" "letters" "[I", Cond.methodLink RX3 54 yX3_skipBlanks, Cond.instanceMethod yX3_skipBlanks, Cond.selects RX3 yX3_skipBlanks yX3_skipBlanks, Cond.code yX3_skipBlanks cX3_skipBlanks 1 none, Cond.methodLink RX3 100 yX3_isFigure, Cond.static yX3_isFigure, Cond.code yX3_isFigure cX3_isFigure 1 (some .boolean), Cond.methodLink RX3 67 yX3_failAt, Cond.instanceMethod yX3_failAt, Cond.selects RX3 yX3_failAt yX3_failAt, Cond.code yX3_failAt cX3_failAt 3 (some .boolean), Cond.fieldLink RX3 28 "IceSway$Text" "faultPlace" "I", Cond.fieldLink RX3 48 "IceSway$Text" "faultNumber" "I"]
def wsX3_readYard_r2 : List Cond := [Cond.static yX7_isOut, Cond.initialized RX7, Cond.code yX7_isOut cX7_isOut 3 (some .boolean)]
def wsX3_readYard : List Cond := .code yX3_readYard cX3_readYard 4 (some .boolean) :: ((wsX3_readYard_r1 ++ wsX3_readYard_r2) ++ wsX30)
def wsX3_readClauseEnd : List Cond := .code yX3_readClauseEnd cX3_readClauseEnd 1 (some .boolean) :: ([.fieldLink RX3 11 "IceSway$Text" "letters" "[I", .fieldLink RX3 39 "IceSway$Text" "place" "I", .methodLink RX3 54 yX3_skipBlanks, .instanceMethod yX3_skipBlanks, .selects RX3 yX3_skipBlanks yX3_skipBlanks, .initialized RX3, .code yX3_skipBlanks cX3_skipBlanks 1 none, .fieldLink RX3 32 "IceSway$Text" "length" "I", .methodLink RX3 57 yX3_isAtEnd, .instanceMethod yX3_isAtEnd, .selects RX3 yX3_isAtEnd yX3_isAtEnd, .code yX3_isAtEnd cX3_isAtEnd 1 (some .boolean), .methodLink RX3 67 yX3_failAt, .instanceMethod yX3_failAt, .selects RX3 yX3_failAt yX3_failAt, .code yX3_failAt cX3_failAt 3 (some .boolean), .fieldLink RX3 28 "IceSway$Text" "faultPlace" "I", .fieldLink RX3 48 "IceSway$Text" "faultNumber" "I"] ++ wsX30)
def wsX3_readYards_r1 : List Cond := [Cond.fieldLink RX3 45 "IceSway$Text" "yardCount" "I", Cond.fieldLink RX3 11 "IceSway$Text" "letters" "[I", Cond.fieldLink RX3 39 "IceSway$Text" "place" "I", Cond.methodLink RX3 78 yX3_readYard, Cond.instanceMethod yX3_readYard, Cond.selects RX3 yX3_readYard yX3_readYard, Cond.initialized RX3, Cond.code yX3_readYard cX3_readYard 4 (some .boolean), Cond.fieldLink RX3 22 "IceSway$Text" "yardKinds" "[I", Cond.fieldLink RX3 25 "IceSway$Text" "yardIce" "[I", Cond.methodLink RX3 84 yX3_readNumber, Cond.instanceMethod yX3_readNumber, Cond.selects RX3 yX3_readNumber yX3_readNumber, Cond.code yX3_readNumber cX3_readNumber 5 (some .int), Cond.fieldLink RX3 32 "IceSway$Text" "length" "I", Cond.methodLink RX3 54 yX3_skipBlanks, Cond.instanceMethod yX3_skipBlanks, Cond.selects RX3 yX3_skipBlanks yX3_skipBlanks, Cond.code yX3_skipBlanks cX3_skipBlanks 1 none, Cond.methodLink RX3 100 yX3_isFigure, Cond.static yX3_isFigure, Cond.code yX3_isFigure cX3_isFigure 1 (some .boolean), Cond.methodLink RX3 67 yX3_failAt, Cond.instanceMethod yX3_failAt]
def wsX3_readYards_r2 : List Cond := [Cond.selects RX3 yX3_failAt yX3_failAt, Cond.code yX3_failAt cX3_failAt 3 (some .boolean), Cond.fieldLink RX3 28 "IceSway$Text" "faultPlace" "I", Cond.fieldLink RX3 48 "IceSway$Text" "faultNumber" "I", Cond.static yX7_isOut, Cond.initialized RX7, Cond.code yX7_isOut cX7_isOut 3 (some .boolean), Cond.methodLink RX3 57 yX3_isAtEnd, Cond.instanceMethod yX3_isAtEnd, Cond.selects RX3 yX3_isAtEnd yX3_isAtEnd, Cond.code yX3_isAtEnd cX3_isAtEnd 1 (some .boolean), Cond.methodLink RX3 81 yX3_readClauseEnd, Cond.instanceMethod yX3_readClauseEnd, Cond.selects RX3 yX3_readClauseEnd yX3_readClauseEnd, Cond.code yX3_readClauseEnd cX3_readClauseEnd 1 (some .boolean)]
def wsX3_readYards : List Cond := .code yX3_readYards cX3_readYards 3 (some .boolean) :: ((wsX3_readYards_r1 ++ wsX3_readYards_r2) ++ wsX30)
def wsX3_readNumbers_r1 : List Cond := [Cond.fieldLink RX3 88 "IceSway$Text" "FIRST" "[I", Cond.fieldLink RX3 91 "IceSway$Text" "END" "[I", Cond.fieldLink RX3 94 "IceSway$Boat" "LEAST" "[I", Cond.fieldLink RX3 97 "IceSway$Boat" "GREATEST" "[I", Cond.fieldLink RX3 17 "IceSway$Text" "numbers" "[I", Cond.methodLink RX3 84 yX3_readNumber, Cond.instanceMethod yX3_readNumber, Cond.selects RX3 yX3_readNumber yX3_readNumber, Cond.initialized RX3, Cond.code yX3_readNumber cX3_readNumber 5 (some .int), Cond.fieldLink RX3 39 "IceSway$Text" "place" "I", Cond.fieldLink RX3 32 "IceSway$Text" "length" "I", Cond.fieldLink RX3 11 "IceSway$Text" "letters" "[I", Cond.methodLink RX3 54 yX3_skipBlanks, Cond.instanceMethod yX3_skipBlanks, Cond.selects RX3 yX3_skipBlanks yX3_skipBlanks, Cond.code yX3_skipBlanks cX3_skipBlanks 1 none, Cond.methodLink RX3 100 yX3_isFigure, Cond.static yX3_isFigure, Cond.code yX3_isFigure cX3_isFigure 1 (some .boolean), Cond.methodLink RX3 67 yX3_failAt, Cond.instanceMethod yX3_failAt, Cond.selects RX3 yX3_failAt yX3_failAt, Cond.code yX3_failAt cX3_failAt 3 (some .boolean)]
def wsX3_readNumbers_r2 : List Cond := [Cond.fieldLink RX3 28 "IceSway$Text" "faultPlace" "I", Cond.fieldLink RX3 48 "IceSway$Text" "faultNumber" "I", Cond.static yX7_isOut, Cond.initialized RX7, Cond.code yX7_isOut cX7_isOut 3 (some .boolean), Cond.methodLink RX3 81 yX3_readClauseEnd, Cond.instanceMethod yX3_readClauseEnd, Cond.selects RX3 yX3_readClauseEnd yX3_readClauseEnd, Cond.code yX3_readClauseEnd cX3_readClauseEnd 1 (some .boolean), Cond.methodLink RX3 57 yX3_isAtEnd, Cond.instanceMethod yX3_isAtEnd, Cond.selects RX3 yX3_isAtEnd yX3_isAtEnd, Cond.code yX3_isAtEnd cX3_isAtEnd 1 (some .boolean)]
def wsX3_readNumbers : List Cond := .code yX3_readNumbers cX3_readNumbers 4 (some .boolean) :: ((wsX3_readNumbers_r1 ++ wsX3_readNumbers_r2) ++ wsX30)
def wsX3_readClause_r1 : List Cond := [Cond.fieldLink RX3 11 "IceSway$Text" "letters" "[I", Cond.fieldLink RX3 39 "IceSway$Text" "place" "I", Cond.fieldLink RX3 42 "IceSway$Text" "clausesSeen" "I", Cond.methodLink RX3 63 yX3_clauseOf, Cond.static yX3_clauseOf, Cond.initialized RX3, Cond.code yX3_clauseOf cX3_clauseOf 1 (some .int), Cond.methodLink RX3 67 yX3_failAt, Cond.instanceMethod yX3_failAt, Cond.selects RX3 yX3_failAt yX3_failAt, Cond.code yX3_failAt cX3_failAt 3 (some .boolean), Cond.fieldLink RX3 28 "IceSway$Text" "faultPlace" "I", Cond.fieldLink RX3 48 "IceSway$Text" "faultNumber" "I", Cond.methodLink RX3 71 yX3_readYards, Cond.instanceMethod yX3_readYards, Cond.selects RX3 yX3_readYards yX3_readYards, Cond.code yX3_readYards cX3_readYards 3 (some .boolean), Cond.fieldLink RX3 45 "IceSway$Text" "yardCount" "I", Cond.methodLink RX3 78 yX3_readYard, Cond.instanceMethod yX3_readYard, Cond.selects RX3 yX3_readYard yX3_readYard, Cond.code yX3_readYard cX3_readYard 4 (some .boolean), Cond.fieldLink RX3 22 "IceSway$Text" "yardKinds" "[I", Cond.fieldLink RX3 25 "IceSway$Text" "yardIce" "[I"]
def wsX3_readClause_r2 : List Cond := [Cond.methodLink RX3 84 yX3_readNumber, Cond.instanceMethod yX3_readNumber, Cond.selects RX3 yX3_readNumber yX3_readNumber, Cond.code yX3_readNumber cX3_readNumber 5 (some .int), Cond.fieldLink RX3 32 "IceSway$Text" "length" "I", Cond.methodLink RX3 54 yX3_skipBlanks, Cond.instanceMethod yX3_skipBlanks, Cond.selects RX3 yX3_skipBlanks yX3_skipBlanks, Cond.code yX3_skipBlanks cX3_skipBlanks 1 none, Cond.methodLink RX3 100 yX3_isFigure, Cond.static yX3_isFigure, Cond.code yX3_isFigure cX3_isFigure 1 (some .boolean), Cond.static yX7_isOut, Cond.initialized RX7, Cond.code yX7_isOut cX7_isOut 3 (some .boolean), Cond.methodLink RX3 57 yX3_isAtEnd, Cond.instanceMethod yX3_isAtEnd, Cond.selects RX3 yX3_isAtEnd yX3_isAtEnd, Cond.code yX3_isAtEnd cX3_isAtEnd 1 (some .boolean), Cond.methodLink RX3 81 yX3_readClauseEnd, Cond.instanceMethod yX3_readClauseEnd, Cond.selects RX3 yX3_readClauseEnd yX3_readClauseEnd, Cond.code yX3_readClauseEnd cX3_readClauseEnd 1 (some .boolean), Cond.methodLink RX3 74 yX3_readNumbers]
def wsX3_readClause_r3 : List Cond := [Cond.instanceMethod yX3_readNumbers, Cond.selects RX3 yX3_readNumbers yX3_readNumbers, Cond.code yX3_readNumbers cX3_readNumbers 4 (some .boolean), Cond.fieldLink RX3 88 "IceSway$Text" "FIRST" "[I", Cond.fieldLink RX3 91 "IceSway$Text" "END" "[I", Cond.fieldLink RX3 94 "IceSway$Boat" "LEAST" "[I", Cond.fieldLink RX3 97 "IceSway$Boat" "GREATEST" "[I", Cond.fieldLink RX3 17 "IceSway$Text" "numbers" "[I"]
def wsX3_readClause : List Cond := .code yX3_readClause cX3_readClause 3 (some .boolean) :: ((wsX3_readClause_r1 ++ (wsX3_readClause_r2 ++ wsX3_readClause_r3)) ++ wsX30)
def wsX3_read_r1 : List Cond := [Cond.fieldLink RX3 39 "IceSway$Text" "place" "I", Cond.fieldLink RX3 42 "IceSway$Text" "clausesSeen" "I", Cond.fieldLink RX3 45 "IceSway$Text" "yardCount" "I", Cond.fieldLink RX3 48 "IceSway$Text" "faultNumber" "I", Cond.fieldLink RX3 28 "IceSway$Text" "faultPlace" "I", Cond.fieldLink RX3 17 "IceSway$Text" "numbers" "[I", Cond.fieldLink RX3 51 "IceSway$Boat" "UNTOLD" "[I", Cond.methodLink RX3 54 yX3_skipBlanks, Cond.instanceMethod yX3_skipBlanks, Cond.selects RX3 yX3_skipBlanks yX3_skipBlanks, Cond.initialized RX3, Cond.code yX3_skipBlanks cX3_skipBlanks 1 none, Cond.fieldLink RX3 32 "IceSway$Text" "length" "I", Cond.fieldLink RX3 11 "IceSway$Text" "letters" "[I", Cond.methodLink RX3 57 yX3_isAtEnd, Cond.instanceMethod yX3_isAtEnd, Cond.selects RX3 yX3_isAtEnd yX3_isAtEnd, Cond.code yX3_isAtEnd cX3_isAtEnd 1 (some .boolean), Cond.methodLink RX3 60 yX3_readClause, Cond.instanceMethod yX3_readClause, Cond.selects RX3 yX3_readClause yX3_readClause, Cond.code yX3_readClause cX3_readClause 3 (some .boolean), Cond.methodLink RX3 63 yX3_clauseOf, Cond.static yX3_clauseOf]
def wsX3_read_r2 : List Cond := [Cond.code yX3_clauseOf cX3_clauseOf 1 (some .int), Cond.methodLink RX3 67 yX3_failAt, Cond.instanceMethod yX3_failAt, Cond.selects RX3 yX3_failAt yX3_failAt, Cond.code yX3_failAt cX3_failAt 3 (some .boolean), Cond.methodLink RX3 71 yX3_readYards, Cond.instanceMethod yX3_readYards, Cond.selects RX3 yX3_readYards yX3_readYards, Cond.code yX3_readYards cX3_readYards 3 (some .boolean), Cond.methodLink RX3 78 yX3_readYard, Cond.instanceMethod yX3_readYard, Cond.selects RX3 yX3_readYard yX3_readYard, Cond.code yX3_readYard cX3_readYard 4 (some .boolean), Cond.fieldLink RX3 22 "IceSway$Text" "yardKinds" "[I", Cond.fieldLink RX3 25 "IceSway$Text" "yardIce" "[I", Cond.methodLink RX3 84 yX3_readNumber, Cond.instanceMethod yX3_readNumber, Cond.selects RX3 yX3_readNumber yX3_readNumber, Cond.code yX3_readNumber cX3_readNumber 5 (some .int), Cond.methodLink RX3 100 yX3_isFigure, Cond.static yX3_isFigure, Cond.code yX3_isFigure cX3_isFigure 1 (some .boolean), Cond.static yX7_isOut, Cond.initialized RX7]
def wsX3_read_r3 : List Cond := [Cond.code yX7_isOut cX7_isOut 3 (some .boolean), Cond.methodLink RX3 81 yX3_readClauseEnd, Cond.instanceMethod yX3_readClauseEnd, Cond.selects RX3 yX3_readClauseEnd yX3_readClauseEnd, Cond.code yX3_readClauseEnd cX3_readClauseEnd 1 (some .boolean), Cond.methodLink RX3 74 yX3_readNumbers, Cond.instanceMethod yX3_readNumbers, Cond.selects RX3 yX3_readNumbers yX3_readNumbers, Cond.code yX3_readNumbers cX3_readNumbers 4 (some .boolean), Cond.fieldLink RX3 88 "IceSway$Text" "FIRST" "[I", Cond.fieldLink RX3 91 "IceSway$Text" "END" "[I", Cond.fieldLink RX3 94 "IceSway$Boat" "LEAST" "[I", Cond.fieldLink RX3 97 "IceSway$Boat" "GREATEST" "[I"]
def wsX3_read : List Cond := .code yX3_read cX3_read 2 (some .boolean) :: ((wsX3_read_r1 ++ (wsX3_read_r2 ++ wsX3_read_r3)) ++ wsX30)
def wsX4_isBackInGap : List Cond := .code yX4_isBackInGap cX4_isBackInGap 4 (some .boolean) :: ([.fieldLink RX4 24 "IceSway$Trip" "firstBroken" "I", .fieldLink RX4 11 "IceSway$Trip" "behindAt" "[I"] ++ wsX40)
def wsX4_furthestTurn : List Cond := .code yX4_furthestTurn cX4_furthestTurn 4 (some .int) :: ([.fieldLink RX4 17 "IceSway$Trip" "behind" "I", .fieldLink RX4 11 "IceSway$Trip" "behindAt" "[I", .methodLink RX4 44 yX4_isBackInGap, .instanceMethod yX4_isBackInGap, .selects RX4 yX4_isBackInGap yX4_isBackInGap, .initialized RX4, .code yX4_isBackInGap cX4_isBackInGap 4 (some .boolean), .fieldLink RX4 24 "IceSway$Trip" "firstBroken" "I"] ++ wsX40)
def wsX5_init : List Cond := .code yX5_init cX5_init 1 none :: ([.methodLink RX5 1 objectInit, .instanceMethod objectInit, .code objectInit ⟨#[0xb1]⟩ 1 none, .classLink RX5 7 RX6, .instantiable RX6 5, .initialized RX6, .fieldLink RX5 10 "IceSway$Winter" "yards" "LIceSway$Yards;", .fieldLink RX5 16 "IceSway$Winter" "beat" "I", .instanceMethod yX6_init, .code yX6_init cX6_init 1 none, .methodLink RX6 3 objectInit, .arrayClass .int, .fieldLink RX6 11 "IceSway$Yards" "kind" "[I", .fieldLink RX6 15 "IceSway$Yards" "ice" "[I", .fieldLink RX6 18 "IceSway$Yards" "broken" "[I"] ++ wsX60 ++ wsX50)
def wsX6_begin : List Cond := .code yX6_begin cX6_begin 5 none :: ([.methodLink RX6 28 Lib.Math.min.name, .static Lib.Math.min.name, .initialized "java/lang/Math", .code Lib.Math.min.name Lib.Math.min.code 2 (some .int), .fieldLink RX6 21 "IceSway$Yards" "count" "I", .fieldLink RX6 25 "IceSway$Yards" "openSet" "I", .fieldLink RX6 11 "IceSway$Yards" "kind" "[I", .fieldLink RX6 15 "IceSway$Yards" "ice" "[I", .fieldLink RX6 18 "IceSway$Yards" "broken" "[I"] ++ wsX60)
def wsX5_begin : List Cond := .code yX5_begin cX5_begin 4 none :: ([.fieldLink RX5 10 "IceSway$Winter" "yards" "LIceSway$Yards;", .fieldLink RX5 16 "IceSway$Winter" "beat" "I", .fieldLink RX5 24 "IceSway$Winter" "nights" "I", .methodLink RX5 20 yX6_begin, .instanceMethod yX6_begin, .selects RX6 yX6_begin yX6_begin, .initialized RX6, .code yX6_begin cX6_begin 5 none, .methodLink RX6 28 Lib.Math.min.name, .static Lib.Math.min.name, .initialized "java/lang/Math", .code Lib.Math.min.name Lib.Math.min.code 2 (some .int), .fieldLink RX6 21 "IceSway$Yards" "count" "I", .fieldLink RX6 25 "IceSway$Yards" "openSet" "I", .fieldLink RX6 11 "IceSway$Yards" "kind" "[I", .fieldLink RX6 15 "IceSway$Yards" "ice" "[I", .fieldLink RX6 18 "IceSway$Yards" "broken" "[I"] ++ wsX50 ++ wsX60)
def wsX5_copyFrom : List Cond := .code yX5_copyFrom cX5_copyFrom 2 none :: ([.fieldLink RX5 10 "IceSway$Winter" "yards" "LIceSway$Yards;", .fieldLink RX5 16 "IceSway$Winter" "beat" "I", .fieldLink RX5 24 "IceSway$Winter" "nights" "I", .fieldLink RX5 31 "IceSway$Winter" "drawSeed" "I", .methodLink RX5 27 yX6_copyFrom, .instanceMethod yX6_copyFrom, .selects RX6 yX6_copyFrom yX6_copyFrom, .initialized RX6, .code yX6_copyFrom cX6_copyFrom 3 none, .fieldLink RX6 21 "IceSway$Yards" "count" "I", .fieldLink RX6 25 "IceSway$Yards" "openSet" "I", .fieldLink RX6 11 "IceSway$Yards" "kind" "[I", .fieldLink RX6 15 "IceSway$Yards" "ice" "[I", .fieldLink RX6 18 "IceSway$Yards" "broken" "[I"] ++ wsX50 ++ wsX60)
def wsX5_passCold_r1 : List Cond := [Cond.fieldLink RX5 10 "IceSway$Winter" "yards" "LIceSway$Yards;", Cond.fieldLink RX5 24 "IceSway$Winter" "nights" "I", Cond.methodLink RX5 34 yX6_freeze, Cond.instanceMethod yX6_freeze, Cond.selects RX6 yX6_freeze yX6_freeze, Cond.initialized RX6, Cond.code yX6_freeze cX6_freeze 3 none, Cond.fieldLink RX6 21 "IceSway$Yards" "count" "I", Cond.fieldLink RX6 15 "IceSway$Yards" "ice" "[I", Cond.fieldLink RX6 11 "IceSway$Yards" "kind" "[I", Cond.methodLink RX6 38 yX6_shutOpen, Cond.instanceMethod yX6_shutOpen, Cond.selects RX6 yX6_shutOpen yX6_shutOpen, Cond.code yX6_shutOpen cX6_shutOpen 2 none, Cond.fieldLink RX6 25 "IceSway$Yards" "openSet" "I", Cond.fieldLink RX6 18 "IceSway$Yards" "broken" "[I", Cond.methodLink RX6 47 yX6_isOpen, Cond.instanceMethod yX6_isOpen, Cond.selects RX6 yX6_isOpen yX6_isOpen, Cond.code yX6_isOpen cX6_isOpen 2 (some .boolean), Cond.methodLink RX6 51 yX6_kindOnceShut, Cond.static yX6_kindOnceShut, Cond.code yX6_kindOnceShut cX6_kindOnceShut 1 (some .int), Cond.methodLink RX6 41 yX6_thicker]
def wsX5_passCold_r2 : List Cond := [Cond.static yX6_thicker, Cond.code yX6_thicker cX6_thicker 3 (some .int), Cond.methodLink RX6 28 Lib.Math.min.name, Cond.static Lib.Math.min.name, Cond.initialized "java/lang/Math", Cond.code Lib.Math.min.name Lib.Math.min.code 2 (some .int), Cond.methodLink RX6 34 yX6_growth, Cond.static yX6_growth, Cond.code yX6_growth cX6_growth 5 (some .int)]
def wsX5_passCold : List Cond := .code yX5_passCold cX5_passCold 2 none :: ((wsX5_passCold_r1 ++ wsX5_passCold_r2) ++ wsX50 ++ wsX60)
def wsX5_passThaw_r1 : List Cond := [Cond.fieldLink RX5 10 "IceSway$Winter" "yards" "LIceSway$Yards;", Cond.fieldLink RX5 24 "IceSway$Winter" "nights" "I", Cond.methodLink RX5 38 yX6_melt, Cond.instanceMethod yX6_melt, Cond.selects RX6 yX6_melt yX6_melt, Cond.initialized RX6, Cond.code yX6_melt cX6_melt 3 none, Cond.fieldLink RX6 21 "IceSway$Yards" "count" "I", Cond.fieldLink RX6 15 "IceSway$Yards" "ice" "[I", Cond.methodLink RX6 44 Lib.Math.max.name, Cond.static Lib.Math.max.name, Cond.initialized "java/lang/Math", Cond.code Lib.Math.max.name Lib.Math.max.code 2 (some .int), Cond.methodLink RX6 38 yX6_shutOpen, Cond.instanceMethod yX6_shutOpen, Cond.selects RX6 yX6_shutOpen yX6_shutOpen, Cond.code yX6_shutOpen cX6_shutOpen 2 none, Cond.fieldLink RX6 25 "IceSway$Yards" "openSet" "I", Cond.fieldLink RX6 18 "IceSway$Yards" "broken" "[I", Cond.fieldLink RX6 11 "IceSway$Yards" "kind" "[I", Cond.methodLink RX6 47 yX6_isOpen, Cond.instanceMethod yX6_isOpen, Cond.selects RX6 yX6_isOpen yX6_isOpen, Cond.code yX6_isOpen cX6_isOpen 2 (some .boolean)]
def wsX5_passThaw_r2 : List Cond := [Cond.methodLink RX6 51 yX6_kindOnceShut, Cond.static yX6_kindOnceShut, Cond.code yX6_kindOnceShut cX6_kindOnceShut 1 (some .int)]
def wsX5_passThaw : List Cond := .code yX5_passThaw cX5_passThaw 2 none :: ((wsX5_passThaw_r1 ++ wsX5_passThaw_r2) ++ wsX50 ++ wsX60)
def wsX5_draw : List Cond := .code yX5_draw cX5_draw 2 (some .int) :: ([.fieldLink RX5 31 "IceSway$Winter" "drawSeed" "I", .constantLong RX5 51 (1103515245), .constantLong RX5 53 (12345), .constantLong RX5 55 (2147483647), .constant RX5 57 (65536)] ++ wsX50)
def wsX5_passByDraws_r1 : List Cond := [Cond.methodLink RX5 41 yX5_draw, Cond.instanceMethod yX5_draw, Cond.selects RX5 yX5_draw yX5_draw, Cond.initialized RX5, Cond.code yX5_draw cX5_draw 2 (some .int), Cond.fieldLink RX5 31 "IceSway$Winter" "drawSeed" "I", Cond.constantLong RX5 51 (1103515245), Cond.constantLong RX5 53 (12345), Cond.constantLong RX5 55 (2147483647), Cond.constant RX5 57 (65536), Cond.methodLink RX5 45 yX5_passThaw, Cond.instanceMethod yX5_passThaw, Cond.selects RX5 yX5_passThaw yX5_passThaw, Cond.code yX5_passThaw cX5_passThaw 2 none, Cond.fieldLink RX5 10 "IceSway$Winter" "yards" "LIceSway$Yards;", Cond.fieldLink RX5 24 "IceSway$Winter" "nights" "I", Cond.methodLink RX5 38 yX6_melt, Cond.instanceMethod yX6_melt, Cond.selects RX6 yX6_melt yX6_melt, Cond.initialized RX6, Cond.code yX6_melt cX6_melt 3 none, Cond.fieldLink RX6 21 "IceSway$Yards" "count" "I", Cond.fieldLink RX6 15 "IceSway$Yards" "ice" "[I", Cond.methodLink RX6 44 Lib.Math.max.name]
def wsX5_passByDraws_r2 : List Cond := [Cond.static Lib.Math.max.name, Cond.initialized "java/lang/Math", Cond.code Lib.Math.max.name Lib.Math.max.code 2 (some .int), Cond.methodLink RX6 38 yX6_shutOpen, Cond.instanceMethod yX6_shutOpen, Cond.selects RX6 yX6_shutOpen yX6_shutOpen, Cond.code yX6_shutOpen cX6_shutOpen 2 none, Cond.fieldLink RX6 25 "IceSway$Yards" "openSet" "I", Cond.fieldLink RX6 18 "IceSway$Yards" "broken" "[I", Cond.fieldLink RX6 11 "IceSway$Yards" "kind" "[I", Cond.methodLink RX6 47 yX6_isOpen, Cond.instanceMethod yX6_isOpen, Cond.selects RX6 yX6_isOpen yX6_isOpen, Cond.code yX6_isOpen cX6_isOpen 2 (some .boolean), Cond.methodLink RX6 51 yX6_kindOnceShut, Cond.static yX6_kindOnceShut, Cond.code yX6_kindOnceShut cX6_kindOnceShut 1 (some .int), Cond.methodLink RX5 48 yX5_passCold, Cond.instanceMethod yX5_passCold, Cond.selects RX5 yX5_passCold yX5_passCold, Cond.code yX5_passCold cX5_passCold 2 none, Cond.methodLink RX5 34 yX6_freeze, Cond.instanceMethod yX6_freeze, Cond.selects RX6 yX6_freeze yX6_freeze]
def wsX5_passByDraws_r3 : List Cond := [Cond.code yX6_freeze cX6_freeze 3 none, Cond.methodLink RX6 41 yX6_thicker, Cond.static yX6_thicker, Cond.code yX6_thicker cX6_thicker 3 (some .int), Cond.methodLink RX6 28 Lib.Math.min.name, Cond.static Lib.Math.min.name, Cond.code Lib.Math.min.name Lib.Math.min.code 2 (some .int), Cond.methodLink RX6 34 yX6_growth, Cond.static yX6_growth, Cond.code yX6_growth cX6_growth 5 (some .int)]
def wsX5_passByDraws : List Cond := .code yX5_passByDraws cX5_passByDraws 1 none :: ((wsX5_passByDraws_r1 ++ (wsX5_passByDraws_r2 ++ wsX5_passByDraws_r3)) ++ wsX50 ++ wsX60)
def wsX6_iceTogether : List Cond := .code yX6_iceTogether cX6_iceTogether 3 (some .int) :: ([.fieldLink RX6 21 "IceSway$Yards" "count" "I", .fieldLink RX6 15 "IceSway$Yards" "ice" "[I"] ++ wsX60)
def wsX7_init_r1 : List Cond := [Cond.methodLink RX7 1 objectInit, Cond.instanceMethod objectInit, Cond.code objectInit ⟨#[0xb1]⟩ 1 none, Cond.classLink RX7 7 RX3, Cond.instantiable RX3 10, Cond.initialized RX3, Cond.fieldLink RX7 10 "IceSway" "text" "LIceSway$Text;", Cond.classLink RX7 16 RX0, Cond.instantiable RX0 1, Cond.initialized RX0, Cond.fieldLink RX7 19 "IceSway" "boat" "LIceSway$Boat;", Cond.classLink RX7 23 RX5, Cond.instantiable RX5 4, Cond.initialized RX5, Cond.fieldLink RX7 26 "IceSway" "now" "LIceSway$Winter;", Cond.fieldLink RX7 30 "IceSway" "images" "[LIceSway$Winter;", Cond.arrayClass .boolean, Cond.fieldLink RX7 34 "IceSway" "kept" "[Z", Cond.classLink RX7 38 RX1, Cond.instantiable RX1 8, Cond.initialized RX1, Cond.fieldLink RX7 41 "IceSway" "records" "LIceSway$Records;", Cond.classLink RX7 45 RX4, Cond.instantiable RX4 4]
def wsX7_init_r2 : List Cond := [Cond.initialized RX4, Cond.fieldLink RX7 48 "IceSway" "trip" "LIceSway$Trip;", Cond.classLink RX7 52 RX6, Cond.instantiable RX6 5, Cond.initialized RX6, Cond.fieldLink RX7 55 "IceSway" "tried" "LIceSway$Yards;", Cond.classLink RX7 59 RX2, Cond.instantiable RX2 14, Cond.initialized RX2, Cond.fieldLink RX7 62 "IceSway" "search" "LIceSway$Search;", Cond.fieldLink RX7 66 "IceSway" "faultPlace" "I", Cond.instanceMethod yX3_init, Cond.code yX3_init cX3_init 1 none, Cond.methodLink RX3 3 objectInit, Cond.arrayClass .int, Cond.fieldLink RX3 11 "IceSway$Text" "letters" "[I", Cond.fieldLink RX3 17 "IceSway$Text" "numbers" "[I", Cond.fieldLink RX3 22 "IceSway$Text" "yardKinds" "[I", Cond.fieldLink RX3 25 "IceSway$Text" "yardIce" "[I", Cond.fieldLink RX3 28 "IceSway$Text" "faultPlace" "I", Cond.methodLink RX7 18 yX0_init, Cond.instanceMethod yX0_init, Cond.code yX0_init cX0_init 2 none, Cond.methodLink RX0 1 objectInit]
def wsX7_init_r3 : List Cond := [Cond.fieldLink RX0 9 "IceSway$Boat" "numbers" "[I", Cond.fieldLink RX0 13 "IceSway$Boat" "UNTOLD" "[I", Cond.instanceMethod yX5_init, Cond.code yX5_init cX5_init 1 none, Cond.methodLink RX5 1 objectInit, Cond.classLink RX5 7 RX6, Cond.fieldLink RX5 10 "IceSway$Winter" "yards" "LIceSway$Yards;", Cond.fieldLink RX5 16 "IceSway$Winter" "beat" "I", Cond.instanceMethod yX6_init, Cond.code yX6_init cX6_init 1 none, Cond.methodLink RX6 3 objectInit, Cond.fieldLink RX6 11 "IceSway$Yards" "kind" "[I", Cond.fieldLink RX6 15 "IceSway$Yards" "ice" "[I", Cond.fieldLink RX6 18 "IceSway$Yards" "broken" "[I", Cond.instanceMethod yX1_init, Cond.code yX1_init cX1_init 1 none, Cond.methodLink RX1 3 objectInit, Cond.fieldLink RX1 11 "IceSway$Records" "boredYard" "[I", Cond.fieldLink RX1 15 "IceSway$Records" "boredNights" "[I", Cond.fieldLink RX1 18 "IceSway$Records" "boredCold" "[I", Cond.fieldLink RX1 21 "IceSway$Records" "boredIce" "[I", Cond.fieldLink RX1 24 "IceSway$Records" "entryYard" "[I", Cond.fieldLink RX1 27 "IceSway$Records" "entryIce" "[I", Cond.instanceMethod yX4_init]
def wsX7_init_r4 : List Cond := [Cond.code yX4_init cX4_init 1 none, Cond.methodLink RX4 3 objectInit, Cond.fieldLink RX4 11 "IceSway$Trip" "behindAt" "[I", Cond.methodLink RX7 61 yX2_init, Cond.instanceMethod yX2_init, Cond.code yX2_init cX2_init 2 none, Cond.methodLink RX2 3 objectInit, Cond.classLink RX2 9 RX4, Cond.fieldLink RX2 12 "IceSway$Search" "trip" "LIceSway$Trip;", Cond.classLink RX2 18 RX6, Cond.fieldLink RX2 20 "IceSway$Search" "levels" "[LIceSway$Yards;"]
def wsX7_init : List Cond := .code yX7_init cX7_init 2 none :: ((wsX7_init_r1 ++ (wsX7_init_r2 ++ (wsX7_init_r3 ++ wsX7_init_r4))) ++ wsX30 ++ wsX70 ++ wsX00 ++ wsX50 ++ wsX10 ++ wsX40 ++ wsX60 ++ wsX20)
def wsX7_feed : List Cond := .code yX7_feed cX7_feed 2 (some .int) :: ([.constant RX7 74 (-1000000002), .fieldLink RX7 10 "IceSway" "text" "LIceSway$Text;", .constant RX7 79 (-1000000004), .fieldLink RX7 84 "IceSway$Text" "length" "I", .methodLink RX7 70 yX7_isOut, .static yX7_isOut, .initialized RX7, .code yX7_isOut cX7_isOut 3 (some .boolean), .methodLink RX7 75 yX3_isFull, .instanceMethod yX3_isFull, .selects RX3 yX3_isFull yX3_isFull, .initialized RX3, .code yX3_isFull cX3_isFull 1 (some .boolean), .fieldLink RX3 32 "IceSway$Text" "length" "I", .methodLink RX7 80 yX3_add, .instanceMethod yX3_add, .selects RX3 yX3_add yX3_add, .code yX3_add cX3_add 2 none, .fieldLink RX3 11 "IceSway$Text" "letters" "[I", .methodLink RX3 35 yX3_isFull] ++ wsX70 ++ wsX30)
def wsX7_cut_r1 : List Cond := [Cond.fieldLink RX7 10 "IceSway" "text" "LIceSway$Text;", Cond.fieldLink RX7 84 "IceSway$Text" "length" "I", Cond.fieldLink RX7 90 "IceSway$Text" "faultPlace" "I", Cond.fieldLink RX7 66 "IceSway" "faultPlace" "I", Cond.fieldLink RX7 91 "IceSway$Text" "faultNumber" "I", Cond.fieldLink RX7 19 "IceSway" "boat" "LIceSway$Boat;", Cond.fieldLink RX7 94 "IceSway$Text" "numbers" "[I", Cond.fieldLink RX7 26 "IceSway" "now" "LIceSway$Winter;", Cond.fieldLink RX7 102 "IceSway$Text" "yardCount" "I", Cond.fieldLink RX7 105 "IceSway$Text" "yardKinds" "[I", Cond.fieldLink RX7 108 "IceSway$Text" "yardIce" "[I", Cond.fieldLink RX7 41 "IceSway" "records" "LIceSway$Records;", Cond.fieldLink RX7 34 "IceSway" "kept" "[Z", Cond.fieldLink RX7 118 "IceSway$Winter" "yards" "LIceSway$Yards;", Cond.fieldLink RX7 121 "IceSway$Yards" "count" "I", Cond.methodLink RX7 87 yX3_read, Cond.instanceMethod yX3_read, Cond.selects RX3 yX3_read yX3_read, Cond.initialized RX3, Cond.code yX3_read cX3_read 2 (some .boolean), Cond.fieldLink RX3 39 "IceSway$Text" "place" "I", Cond.fieldLink RX3 42 "IceSway$Text" "clausesSeen" "I", Cond.fieldLink RX3 45 "IceSway$Text" "yardCount" "I", Cond.fieldLink RX3 48 "IceSway$Text" "faultNumber" "I"]
def wsX7_cut_r2 : List Cond := [Cond.fieldLink RX3 28 "IceSway$Text" "faultPlace" "I", Cond.fieldLink RX3 17 "IceSway$Text" "numbers" "[I", Cond.fieldLink RX3 51 "IceSway$Boat" "UNTOLD" "[I", Cond.methodLink RX3 54 yX3_skipBlanks, Cond.instanceMethod yX3_skipBlanks, Cond.selects RX3 yX3_skipBlanks yX3_skipBlanks, Cond.code yX3_skipBlanks cX3_skipBlanks 1 none, Cond.fieldLink RX3 32 "IceSway$Text" "length" "I", Cond.fieldLink RX3 11 "IceSway$Text" "letters" "[I", Cond.methodLink RX3 57 yX3_isAtEnd, Cond.instanceMethod yX3_isAtEnd, Cond.selects RX3 yX3_isAtEnd yX3_isAtEnd, Cond.code yX3_isAtEnd cX3_isAtEnd 1 (some .boolean), Cond.methodLink RX3 60 yX3_readClause, Cond.instanceMethod yX3_readClause, Cond.selects RX3 yX3_readClause yX3_readClause, Cond.code yX3_readClause cX3_readClause 3 (some .boolean), Cond.methodLink RX3 63 yX3_clauseOf, Cond.static yX3_clauseOf, Cond.code yX3_clauseOf cX3_clauseOf 1 (some .int), Cond.methodLink RX3 67 yX3_failAt, Cond.instanceMethod yX3_failAt, Cond.selects RX3 yX3_failAt yX3_failAt, Cond.code yX3_failAt cX3_failAt 3 (some .boolean)]
def wsX7_cut_r3 : List Cond := [Cond.methodLink RX3 71 yX3_readYards, Cond.instanceMethod yX3_readYards, Cond.selects RX3 yX3_readYards yX3_readYards, Cond.code yX3_readYards cX3_readYards 3 (some .boolean), Cond.methodLink RX3 78 yX3_readYard, Cond.instanceMethod yX3_readYard, Cond.selects RX3 yX3_readYard yX3_readYard, Cond.code yX3_readYard cX3_readYard 4 (some .boolean), Cond.fieldLink RX3 22 "IceSway$Text" "yardKinds" "[I", Cond.fieldLink RX3 25 "IceSway$Text" "yardIce" "[I", Cond.methodLink RX3 84 yX3_readNumber, Cond.instanceMethod yX3_readNumber, Cond.selects RX3 yX3_readNumber yX3_readNumber, Cond.code yX3_readNumber cX3_readNumber 5 (some .int), Cond.methodLink RX3 100 yX3_isFigure, Cond.static yX3_isFigure, Cond.code yX3_isFigure cX3_isFigure 1 (some .boolean), Cond.static yX7_isOut, Cond.initialized RX7, Cond.code yX7_isOut cX7_isOut 3 (some .boolean), Cond.methodLink RX3 81 yX3_readClauseEnd, Cond.instanceMethod yX3_readClauseEnd, Cond.selects RX3 yX3_readClauseEnd yX3_readClauseEnd, Cond.code yX3_readClauseEnd cX3_readClauseEnd 1 (some .boolean)]
def wsX7_cut_r4 : List Cond := [Cond.methodLink RX3 74 yX3_readNumbers, Cond.instanceMethod yX3_readNumbers, Cond.selects RX3 yX3_readNumbers yX3_readNumbers, Cond.code yX3_readNumbers cX3_readNumbers 4 (some .boolean), Cond.fieldLink RX3 88 "IceSway$Text" "FIRST" "[I", Cond.fieldLink RX3 91 "IceSway$Text" "END" "[I", Cond.fieldLink RX3 94 "IceSway$Boat" "LEAST" "[I", Cond.fieldLink RX3 97 "IceSway$Boat" "GREATEST" "[I", Cond.methodLink RX7 98 yX0_become, Cond.instanceMethod yX0_become, Cond.selects RX0 yX0_become yX0_become, Cond.initialized RX0, Cond.code yX0_become cX0_become 3 none, Cond.fieldLink RX0 9 "IceSway$Boat" "numbers" "[I", Cond.methodLink RX7 111 yX5_begin, Cond.instanceMethod yX5_begin, Cond.selects RX5 yX5_begin yX5_begin, Cond.initialized RX5, Cond.code yX5_begin cX5_begin 4 none, Cond.fieldLink RX5 10 "IceSway$Winter" "yards" "LIceSway$Yards;", Cond.fieldLink RX5 16 "IceSway$Winter" "beat" "I", Cond.fieldLink RX5 24 "IceSway$Winter" "nights" "I", Cond.methodLink RX5 20 yX6_begin, Cond.instanceMethod yX6_begin]
def wsX7_cut_r5 : List Cond := [Cond.selects RX6 yX6_begin yX6_begin, Cond.initialized RX6, Cond.code yX6_begin cX6_begin 5 none, Cond.methodLink RX6 28 Lib.Math.min.name, Cond.static Lib.Math.min.name, Cond.initialized "java/lang/Math", Cond.code Lib.Math.min.name Lib.Math.min.code 2 (some .int), Cond.fieldLink RX6 21 "IceSway$Yards" "count" "I", Cond.fieldLink RX6 25 "IceSway$Yards" "openSet" "I", Cond.fieldLink RX6 11 "IceSway$Yards" "kind" "[I", Cond.fieldLink RX6 15 "IceSway$Yards" "ice" "[I", Cond.fieldLink RX6 18 "IceSway$Yards" "broken" "[I", Cond.methodLink RX7 115 yX1_clearAll, Cond.instanceMethod yX1_clearAll, Cond.selects RX1 yX1_clearAll yX1_clearAll, Cond.initialized RX1, Cond.code yX1_clearAll cX1_clearAll 1 none, Cond.fieldLink RX1 30 "IceSway$Records" "boredCount" "I", Cond.fieldLink RX1 34 "IceSway$Records" "entryCount" "I"]
def wsX7_cut : List Cond := .code yX7_cut cX7_cut 3 (some .int) :: ((wsX7_cut_r1 ++ (wsX7_cut_r2 ++ (wsX7_cut_r3 ++ (wsX7_cut_r4 ++ wsX7_cut_r5)))) ++ wsX70 ++ wsX30 ++ wsX50 ++ wsX60 ++ wsX00 ++ wsX10)
def wsX7_fault : List Cond := .code yX7_fault cX7_fault 1 (some .int) :: ([.fieldLink RX7 66 "IceSway" "faultPlace" "I"] ++ wsX70)
def wsX7_forceNow_r1 : List Cond := [Cond.fieldLink RX7 19 "IceSway" "boat" "LIceSway$Boat;", Cond.fieldLink RX7 26 "IceSway" "now" "LIceSway$Winter;", Cond.fieldLink RX7 128 "IceSway$Winter" "beat" "I", Cond.methodLink RX7 197 yX0_forceBy, Cond.instanceMethod yX0_forceBy, Cond.selects RX0 yX0_forceBy yX0_forceBy, Cond.initialized RX0, Cond.code yX0_forceBy cX0_forceBy 2 (some .int), Cond.methodLink RX0 26 yX0_horsesTold, Cond.instanceMethod yX0_horsesTold, Cond.selects RX0 yX0_horsesTold yX0_horsesTold, Cond.code yX0_horsesTold cX0_horsesTold 1 (some .int), Cond.fieldLink RX0 9 "IceSway$Boat" "numbers" "[I", Cond.methodLink RX0 30 yX0_laggardsTold, Cond.instanceMethod yX0_laggardsTold, Cond.selects RX0 yX0_laggardsTold yX0_laggardsTold, Cond.code yX0_laggardsTold cX0_laggardsTold 1 (some .int), Cond.methodLink RX0 33 yX0_swayBy, Cond.instanceMethod yX0_swayBy, Cond.selects RX0 yX0_swayBy yX0_swayBy, Cond.code yX0_swayBy cX0_swayBy 6 (some .int), Cond.methodLink RX0 16 Lib.Math.max.name, Cond.static Lib.Math.max.name, Cond.initialized "java/lang/Math"]
def wsX7_forceNow_r2 : List Cond := [Cond.code Lib.Math.max.name Lib.Math.max.code 2 (some .int), Cond.methodLink RX0 22 Lib.Math.abs.name, Cond.static Lib.Math.abs.name, Cond.code Lib.Math.abs.name Lib.Math.abs.code 1 (some .int), Cond.methodLink RX0 36 yX0_forceOf, Cond.static yX0_forceOf, Cond.code yX0_forceOf cX0_forceOf 2 (some .int)]
def wsX7_forceNow : List Cond := .code yX7_forceNow cX7_forceNow 1 (some .int) :: ((wsX7_forceNow_r1 ++ wsX7_forceNow_r2) ++ wsX70 ++ wsX50 ++ wsX00)
def wsX7_told_r1 : List Cond := [Cond.constant RX7 74 (-1000000002), Cond.fieldLink RX7 19 "IceSway" "boat" "LIceSway$Boat;", Cond.fieldLink RX7 124 "IceSway$Boat" "numbers" "[I", Cond.fieldLink RX7 26 "IceSway" "now" "LIceSway$Winter;", Cond.fieldLink RX7 118 "IceSway$Winter" "yards" "LIceSway$Yards;", Cond.fieldLink RX7 121 "IceSway$Yards" "count" "I", Cond.fieldLink RX7 10 "IceSway" "text" "LIceSway$Text;", Cond.fieldLink RX7 84 "IceSway$Text" "length" "I", Cond.fieldLink RX7 125 "IceSway$Winter" "nights" "I", Cond.fieldLink RX7 128 "IceSway$Winter" "beat" "I", Cond.fieldLink RX7 142 "IceSway$Yards" "openSet" "I", Cond.fieldLink RX7 41 "IceSway" "records" "LIceSway$Records;", Cond.fieldLink RX7 145 "IceSway$Records" "boredCount" "I", Cond.fieldLink RX7 148 "IceSway$Records" "entryCount" "I", Cond.methodLink RX7 70 yX7_isOut, Cond.static yX7_isOut, Cond.initialized RX7, Cond.code yX7_isOut cX7_isOut 3 (some .boolean), Cond.methodLink RX7 131 yX0_laggardsTold, Cond.instanceMethod yX0_laggardsTold, Cond.selects RX0 yX0_laggardsTold yX0_laggardsTold, Cond.initialized RX0, Cond.code yX0_laggardsTold cX0_laggardsTold 1 (some .int), Cond.fieldLink RX0 9 "IceSway$Boat" "numbers" "[I"]
def wsX7_told_r2 : List Cond := [Cond.methodLink RX7 135 yX0_swayBy, Cond.instanceMethod yX0_swayBy, Cond.selects RX0 yX0_swayBy yX0_swayBy, Cond.code yX0_swayBy cX0_swayBy 6 (some .int), Cond.methodLink RX0 16 Lib.Math.max.name, Cond.static Lib.Math.max.name, Cond.initialized "java/lang/Math", Cond.code Lib.Math.max.name Lib.Math.max.code 2 (some .int), Cond.methodLink RX0 22 Lib.Math.abs.name, Cond.static Lib.Math.abs.name, Cond.code Lib.Math.abs.name Lib.Math.abs.code 1 (some .int), Cond.methodLink RX7 139 yX7_forceNow, Cond.instanceMethod yX7_forceNow, Cond.selects RX7 yX7_forceNow yX7_forceNow, Cond.code yX7_forceNow cX7_forceNow 1 (some .int), Cond.methodLink RX7 197 yX0_forceBy, Cond.instanceMethod yX0_forceBy, Cond.selects RX0 yX0_forceBy yX0_forceBy, Cond.code yX0_forceBy cX0_forceBy 2 (some .int), Cond.methodLink RX0 26 yX0_horsesTold, Cond.instanceMethod yX0_horsesTold, Cond.selects RX0 yX0_horsesTold yX0_horsesTold, Cond.code yX0_horsesTold cX0_horsesTold 1 (some .int), Cond.methodLink RX0 30 yX0_laggardsTold]
def wsX7_told_r3 : List Cond := [Cond.methodLink RX0 33 yX0_swayBy, Cond.methodLink RX0 36 yX0_forceOf, Cond.static yX0_forceOf, Cond.code yX0_forceOf cX0_forceOf 2 (some .int)]
def wsX7_told : List Cond := .code yX7_told cX7_told 2 (some .int) :: ((wsX7_told_r1 ++ (wsX7_told_r2 ++ wsX7_told_r3)) ++ wsX70 ++ wsX00 ++ wsX50 ++ wsX60 ++ wsX30 ++ wsX10)
def wsX7_yard : List Cond := .code yX7_yard cX7_yard 3 (some .int) :: ([.fieldLink RX7 26 "IceSway" "now" "LIceSway$Winter;", .fieldLink RX7 118 "IceSway$Winter" "yards" "LIceSway$Yards;", .constant RX7 155 (-1000000001), .fieldLink RX7 156 "IceSway$Yards" "kind" "[I", .fieldLink RX7 159 "IceSway$Yards" "ice" "[I", .fieldLink RX7 162 "IceSway$Yards" "broken" "[I", .constant RX7 74 (-1000000002), .methodLink RX7 151 yX6_has, .instanceMethod yX6_has, .selects RX6 yX6_has yX6_has, .initialized RX6, .code yX6_has cX6_has 2 (some .boolean), .fieldLink RX6 21 "IceSway$Yards" "count" "I"] ++ wsX70 ++ wsX50 ++ wsX60)
def wsX7_grows : List Cond := .code yX7_grows cX7_grows 3 (some .int) :: ([.fieldLink RX7 26 "IceSway" "now" "LIceSway$Winter;", .fieldLink RX7 118 "IceSway$Winter" "yards" "LIceSway$Yards;", .constant RX7 155 (-1000000001), .constant RX7 74 (-1000000002), .fieldLink RX7 156 "IceSway$Yards" "kind" "[I", .fieldLink RX7 159 "IceSway$Yards" "ice" "[I", .methodLink RX7 151 yX6_has, .instanceMethod yX6_has, .selects RX6 yX6_has yX6_has, .initialized RX6, .code yX6_has cX6_has 2 (some .boolean), .fieldLink RX6 21 "IceSway$Yards" "count" "I", .methodLink RX7 70 yX7_isOut, .static yX7_isOut, .initialized RX7, .code yX7_isOut cX7_isOut 3 (some .boolean), .methodLink RX7 165 yX6_growth, .static yX6_growth, .code yX6_growth cX6_growth 5 (some .int)] ++ wsX70 ++ wsX50 ++ wsX60)
def wsX7_night_r1 : List Cond := [Cond.constant RX7 74 (-1000000002), Cond.fieldLink RX7 26 "IceSway" "now" "LIceSway$Winter;", Cond.fieldLink RX7 125 "IceSway$Winter" "nights" "I", Cond.constant RX7 79 (-1000000004), Cond.fieldLink RX7 118 "IceSway$Winter" "yards" "LIceSway$Yards;", Cond.methodLink RX7 70 yX7_isOut, Cond.static yX7_isOut, Cond.initialized RX7, Cond.code yX7_isOut cX7_isOut 3 (some .boolean), Cond.methodLink RX7 169 yX5_passCold, Cond.instanceMethod yX5_passCold, Cond.selects RX5 yX5_passCold yX5_passCold, Cond.initialized RX5, Cond.code yX5_passCold cX5_passCold 2 none, Cond.fieldLink RX5 10 "IceSway$Winter" "yards" "LIceSway$Yards;", Cond.fieldLink RX5 24 "IceSway$Winter" "nights" "I", Cond.methodLink RX5 34 yX6_freeze, Cond.instanceMethod yX6_freeze, Cond.selects RX6 yX6_freeze yX6_freeze, Cond.initialized RX6, Cond.code yX6_freeze cX6_freeze 3 none, Cond.fieldLink RX6 21 "IceSway$Yards" "count" "I", Cond.fieldLink RX6 15 "IceSway$Yards" "ice" "[I", Cond.fieldLink RX6 11 "IceSway$Yards" "kind" "[I"]
def wsX7_night_r2 : List Cond := [Cond.methodLink RX6 38 yX6_shutOpen, Cond.instanceMethod yX6_shutOpen, Cond.selects RX6 yX6_shutOpen yX6_shutOpen, Cond.code yX6_shutOpen cX6_shutOpen 2 none, Cond.fieldLink RX6 25 "IceSway$Yards" "openSet" "I", Cond.fieldLink RX6 18 "IceSway$Yards" "broken" "[I", Cond.methodLink RX6 47 yX6_isOpen, Cond.instanceMethod yX6_isOpen, Cond.selects RX6 yX6_isOpen yX6_isOpen, Cond.code yX6_isOpen cX6_isOpen 2 (some .boolean), Cond.methodLink RX6 51 yX6_kindOnceShut, Cond.static yX6_kindOnceShut, Cond.code yX6_kindOnceShut cX6_kindOnceShut 1 (some .int), Cond.methodLink RX6 41 yX6_thicker, Cond.static yX6_thicker, Cond.code yX6_thicker cX6_thicker 3 (some .int), Cond.methodLink RX6 28 Lib.Math.min.name, Cond.static Lib.Math.min.name, Cond.initialized "java/lang/Math", Cond.code Lib.Math.min.name Lib.Math.min.code 2 (some .int), Cond.methodLink RX6 34 yX6_growth, Cond.static yX6_growth, Cond.code yX6_growth cX6_growth 5 (some .int), Cond.methodLink RX7 172 yX6_iceTogether]
def wsX7_night_r3 : List Cond := [Cond.instanceMethod yX6_iceTogether, Cond.selects RX6 yX6_iceTogether yX6_iceTogether, Cond.code yX6_iceTogether cX6_iceTogether 3 (some .int)]
def wsX7_night : List Cond := .code yX7_night cX7_night 4 (some .int) :: ((wsX7_night_r1 ++ (wsX7_night_r2 ++ wsX7_night_r3)) ++ wsX70 ++ wsX50 ++ wsX60)
def wsX7_thaw_r1 : List Cond := [Cond.constant RX7 74 (-1000000002), Cond.fieldLink RX7 26 "IceSway" "now" "LIceSway$Winter;", Cond.fieldLink RX7 125 "IceSway$Winter" "nights" "I", Cond.constant RX7 79 (-1000000004), Cond.fieldLink RX7 118 "IceSway$Winter" "yards" "LIceSway$Yards;", Cond.methodLink RX7 70 yX7_isOut, Cond.static yX7_isOut, Cond.initialized RX7, Cond.code yX7_isOut cX7_isOut 3 (some .boolean), Cond.methodLink RX7 175 yX5_passThaw, Cond.instanceMethod yX5_passThaw, Cond.selects RX5 yX5_passThaw yX5_passThaw, Cond.initialized RX5, Cond.code yX5_passThaw cX5_passThaw 2 none, Cond.fieldLink RX5 10 "IceSway$Winter" "yards" "LIceSway$Yards;", Cond.fieldLink RX5 24 "IceSway$Winter" "nights" "I", Cond.methodLink RX5 38 yX6_melt, Cond.instanceMethod yX6_melt, Cond.selects RX6 yX6_melt yX6_melt, Cond.initialized RX6, Cond.code yX6_melt cX6_melt 3 none, Cond.fieldLink RX6 21 "IceSway$Yards" "count" "I", Cond.fieldLink RX6 15 "IceSway$Yards" "ice" "[I", Cond.methodLink RX6 44 Lib.Math.max.name]
def wsX7_thaw_r2 : List Cond := [Cond.static Lib.Math.max.name, Cond.initialized "java/lang/Math", Cond.code Lib.Math.max.name Lib.Math.max.code 2 (some .int), Cond.methodLink RX6 38 yX6_shutOpen, Cond.instanceMethod yX6_shutOpen, Cond.selects RX6 yX6_shutOpen yX6_shutOpen, Cond.code yX6_shutOpen cX6_shutOpen 2 none, Cond.fieldLink RX6 25 "IceSway$Yards" "openSet" "I", Cond.fieldLink RX6 18 "IceSway$Yards" "broken" "[I", Cond.fieldLink RX6 11 "IceSway$Yards" "kind" "[I", Cond.methodLink RX6 47 yX6_isOpen, Cond.instanceMethod yX6_isOpen, Cond.selects RX6 yX6_isOpen yX6_isOpen, Cond.code yX6_isOpen cX6_isOpen 2 (some .boolean), Cond.methodLink RX6 51 yX6_kindOnceShut, Cond.static yX6_kindOnceShut, Cond.code yX6_kindOnceShut cX6_kindOnceShut 1 (some .int), Cond.methodLink RX7 172 yX6_iceTogether, Cond.instanceMethod yX6_iceTogether, Cond.selects RX6 yX6_iceTogether yX6_iceTogether, Cond.code yX6_iceTogether cX6_iceTogether 3 (some .int)]
def wsX7_thaw : List Cond := .code yX7_thaw cX7_thaw 2 (some .int) :: ((wsX7_thaw_r1 ++ wsX7_thaw_r2) ++ wsX70 ++ wsX50 ++ wsX60)
def wsX7_beat_r1 : List Cond := [Cond.constant RX7 74 (-1000000002), Cond.fieldLink RX7 26 "IceSway" "now" "LIceSway$Winter;", Cond.fieldLink RX7 128 "IceSway$Winter" "beat" "I", Cond.methodLink RX7 70 yX7_isOut, Cond.static yX7_isOut, Cond.initialized RX7, Cond.code yX7_isOut cX7_isOut 3 (some .boolean), Cond.methodLink RX7 139 yX7_forceNow, Cond.instanceMethod yX7_forceNow, Cond.selects RX7 yX7_forceNow yX7_forceNow, Cond.code yX7_forceNow cX7_forceNow 1 (some .int), Cond.fieldLink RX7 19 "IceSway" "boat" "LIceSway$Boat;", Cond.methodLink RX7 197 yX0_forceBy, Cond.instanceMethod yX0_forceBy, Cond.selects RX0 yX0_forceBy yX0_forceBy, Cond.initialized RX0, Cond.code yX0_forceBy cX0_forceBy 2 (some .int), Cond.methodLink RX0 26 yX0_horsesTold, Cond.instanceMethod yX0_horsesTold, Cond.selects RX0 yX0_horsesTold yX0_horsesTold, Cond.code yX0_horsesTold cX0_horsesTold 1 (some .int), Cond.fieldLink RX0 9 "IceSway$Boat" "numbers" "[I", Cond.methodLink RX0 30 yX0_laggardsTold, Cond.instanceMethod yX0_laggardsTold]
def wsX7_beat_r2 : List Cond := [Cond.selects RX0 yX0_laggardsTold yX0_laggardsTold, Cond.code yX0_laggardsTold cX0_laggardsTold 1 (some .int), Cond.methodLink RX0 33 yX0_swayBy, Cond.instanceMethod yX0_swayBy, Cond.selects RX0 yX0_swayBy yX0_swayBy, Cond.code yX0_swayBy cX0_swayBy 6 (some .int), Cond.methodLink RX0 16 Lib.Math.max.name, Cond.static Lib.Math.max.name, Cond.initialized "java/lang/Math", Cond.code Lib.Math.max.name Lib.Math.max.code 2 (some .int), Cond.methodLink RX0 22 Lib.Math.abs.name, Cond.static Lib.Math.abs.name, Cond.code Lib.Math.abs.name Lib.Math.abs.code 1 (some .int), Cond.methodLink RX0 36 yX0_forceOf, Cond.static yX0_forceOf, Cond.code yX0_forceOf cX0_forceOf 2 (some .int)]
def wsX7_beat : List Cond := .code yX7_beat cX7_beat 2 (some .int) :: ((wsX7_beat_r1 ++ wsX7_beat_r2) ++ wsX70 ++ wsX50 ++ wsX00)
def wsX7_isOutOfDay : List Cond := .code yX7_isOutOfDay cX7_isOutOfDay 1 (some .boolean) :: ([.methodLink RX7 70 yX7_isOut, .static yX7_isOut, .initialized RX7, .code yX7_isOut cX7_isOut 3 (some .boolean)])
def wsX7_goFromNow_r1 : List Cond := [Cond.fieldLink RX7 48 "IceSway" "trip" "LIceSway$Trip;", Cond.fieldLink RX7 26 "IceSway" "now" "LIceSway$Winter;", Cond.fieldLink RX7 118 "IceSway$Winter" "yards" "LIceSway$Yards;", Cond.fieldLink RX7 19 "IceSway" "boat" "LIceSway$Boat;", Cond.methodLink RX7 139 yX7_forceNow, Cond.instanceMethod yX7_forceNow, Cond.selects RX7 yX7_forceNow yX7_forceNow, Cond.initialized RX7, Cond.code yX7_forceNow cX7_forceNow 1 (some .int), Cond.fieldLink RX7 128 "IceSway$Winter" "beat" "I", Cond.methodLink RX7 197 yX0_forceBy, Cond.instanceMethod yX0_forceBy, Cond.selects RX0 yX0_forceBy yX0_forceBy, Cond.initialized RX0, Cond.code yX0_forceBy cX0_forceBy 2 (some .int), Cond.methodLink RX0 26 yX0_horsesTold, Cond.instanceMethod yX0_horsesTold, Cond.selects RX0 yX0_horsesTold yX0_horsesTold, Cond.code yX0_horsesTold cX0_horsesTold 1 (some .int), Cond.fieldLink RX0 9 "IceSway$Boat" "numbers" "[I", Cond.methodLink RX0 30 yX0_laggardsTold, Cond.instanceMethod yX0_laggardsTold, Cond.selects RX0 yX0_laggardsTold yX0_laggardsTold, Cond.code yX0_laggardsTold cX0_laggardsTold 1 (some .int)]
def wsX7_goFromNow_r2 : List Cond := [Cond.methodLink RX0 33 yX0_swayBy, Cond.instanceMethod yX0_swayBy, Cond.selects RX0 yX0_swayBy yX0_swayBy, Cond.code yX0_swayBy cX0_swayBy 6 (some .int), Cond.methodLink RX0 16 Lib.Math.max.name, Cond.static Lib.Math.max.name, Cond.initialized "java/lang/Math", Cond.code Lib.Math.max.name Lib.Math.max.code 2 (some .int), Cond.methodLink RX0 22 Lib.Math.abs.name, Cond.static Lib.Math.abs.name, Cond.code Lib.Math.abs.name Lib.Math.abs.code 1 (some .int), Cond.methodLink RX0 36 yX0_forceOf, Cond.static yX0_forceOf, Cond.code yX0_forceOf cX0_forceOf 2 (some .int), Cond.methodLink RX7 207 yX0_axeMinutes, Cond.instanceMethod yX0_axeMinutes, Cond.selects RX0 yX0_axeMinutes yX0_axeMinutes, Cond.code yX0_axeMinutes cX0_axeMinutes 1 (some .int), Cond.methodLink RX7 273 yX4_go, Cond.instanceMethod yX4_go, Cond.selects RX4 yX4_go yX4_go, Cond.initialized RX4, Cond.code yX4_go cX4_go 7 none, Cond.fieldLink RX4 17 "IceSway$Trip" "behind" "I"]
def wsX7_goFromNow_r3 : List Cond := [Cond.fieldLink RX4 21 "IceSway$Trip" "minutes" "I", Cond.fieldLink RX4 24 "IceSway$Trip" "firstBroken" "I", Cond.fieldLink RX4 27 "IceSway$Yards" "count" "I", Cond.fieldLink RX4 30 "IceSway$Yards" "kind" "[I", Cond.fieldLink RX4 33 "IceSway$Yards" "ice" "[I", Cond.fieldLink RX4 11 "IceSway$Trip" "behindAt" "[I", Cond.methodLink RX4 36 yX4_minutesThrough, Cond.static yX4_minutesThrough, Cond.code yX4_minutesThrough cX4_minutesThrough 5 (some .int)]
def wsX7_goFromNow : List Cond := .code yX7_goFromNow cX7_goFromNow 2 none :: ((wsX7_goFromNow_r1 ++ (wsX7_goFromNow_r2 ++ wsX7_goFromNow_r3)) ++ wsX70 ++ wsX50 ++ wsX00 ++ wsX40 ++ wsX60)
def wsX7_out_r1 : List Cond := [Cond.constant RX7 74 (-1000000002), Cond.fieldLink RX7 26 "IceSway" "now" "LIceSway$Winter;", Cond.fieldLink RX7 118 "IceSway$Winter" "yards" "LIceSway$Yards;", Cond.fieldLink RX7 121 "IceSway$Yards" "count" "I", Cond.constant RX7 181 (-1000000003), Cond.fieldLink RX7 48 "IceSway" "trip" "LIceSway$Trip;", Cond.fieldLink RX7 185 "IceSway$Trip" "behind" "I", Cond.methodLink RX7 178 yX7_isOutOfDay, Cond.static yX7_isOutOfDay, Cond.initialized RX7, Cond.code yX7_isOutOfDay cX7_isOutOfDay 1 (some .boolean), Cond.methodLink RX7 70 yX7_isOut, Cond.static yX7_isOut, Cond.code yX7_isOut cX7_isOut 3 (some .boolean), Cond.methodLink RX7 182 yX7_goFromNow, Cond.instanceMethod yX7_goFromNow, Cond.selects RX7 yX7_goFromNow yX7_goFromNow, Cond.code yX7_goFromNow cX7_goFromNow 2 none, Cond.fieldLink RX7 19 "IceSway" "boat" "LIceSway$Boat;", Cond.methodLink RX7 139 yX7_forceNow, Cond.instanceMethod yX7_forceNow, Cond.selects RX7 yX7_forceNow yX7_forceNow, Cond.code yX7_forceNow cX7_forceNow 1 (some .int), Cond.fieldLink RX7 128 "IceSway$Winter" "beat" "I"]
def wsX7_out_r2 : List Cond := [Cond.methodLink RX7 197 yX0_forceBy, Cond.instanceMethod yX0_forceBy, Cond.selects RX0 yX0_forceBy yX0_forceBy, Cond.initialized RX0, Cond.code yX0_forceBy cX0_forceBy 2 (some .int), Cond.methodLink RX0 26 yX0_horsesTold, Cond.instanceMethod yX0_horsesTold, Cond.selects RX0 yX0_horsesTold yX0_horsesTold, Cond.code yX0_horsesTold cX0_horsesTold 1 (some .int), Cond.fieldLink RX0 9 "IceSway$Boat" "numbers" "[I", Cond.methodLink RX0 30 yX0_laggardsTold, Cond.instanceMethod yX0_laggardsTold, Cond.selects RX0 yX0_laggardsTold yX0_laggardsTold, Cond.code yX0_laggardsTold cX0_laggardsTold 1 (some .int), Cond.methodLink RX0 33 yX0_swayBy, Cond.instanceMethod yX0_swayBy, Cond.selects RX0 yX0_swayBy yX0_swayBy, Cond.code yX0_swayBy cX0_swayBy 6 (some .int), Cond.methodLink RX0 16 Lib.Math.max.name, Cond.static Lib.Math.max.name, Cond.initialized "java/lang/Math", Cond.code Lib.Math.max.name Lib.Math.max.code 2 (some .int), Cond.methodLink RX0 22 Lib.Math.abs.name, Cond.static Lib.Math.abs.name]
def wsX7_out_r3 : List Cond := [Cond.code Lib.Math.abs.name Lib.Math.abs.code 1 (some .int), Cond.methodLink RX0 36 yX0_forceOf, Cond.static yX0_forceOf, Cond.code yX0_forceOf cX0_forceOf 2 (some .int), Cond.methodLink RX7 207 yX0_axeMinutes, Cond.instanceMethod yX0_axeMinutes, Cond.selects RX0 yX0_axeMinutes yX0_axeMinutes, Cond.code yX0_axeMinutes cX0_axeMinutes 1 (some .int), Cond.methodLink RX7 273 yX4_go, Cond.instanceMethod yX4_go, Cond.selects RX4 yX4_go yX4_go, Cond.initialized RX4, Cond.code yX4_go cX4_go 7 none, Cond.fieldLink RX4 17 "IceSway$Trip" "behind" "I", Cond.fieldLink RX4 21 "IceSway$Trip" "minutes" "I", Cond.fieldLink RX4 24 "IceSway$Trip" "firstBroken" "I", Cond.fieldLink RX4 27 "IceSway$Yards" "count" "I", Cond.fieldLink RX4 30 "IceSway$Yards" "kind" "[I", Cond.fieldLink RX4 33 "IceSway$Yards" "ice" "[I", Cond.fieldLink RX4 11 "IceSway$Trip" "behindAt" "[I", Cond.methodLink RX4 36 yX4_minutesThrough, Cond.static yX4_minutesThrough, Cond.code yX4_minutesThrough cX4_minutesThrough 5 (some .int), Cond.methodLink RX7 188 yX6_openFirst]
def wsX7_out_r4 : List Cond := [Cond.instanceMethod yX6_openFirst, Cond.selects RX6 yX6_openFirst yX6_openFirst, Cond.initialized RX6, Cond.code yX6_openFirst cX6_openFirst 3 none, Cond.fieldLink RX6 21 "IceSway$Yards" "count" "I", Cond.fieldLink RX6 15 "IceSway$Yards" "ice" "[I", Cond.fieldLink RX6 25 "IceSway$Yards" "openSet" "I", Cond.fieldLink RX6 18 "IceSway$Yards" "broken" "[I"]
def wsX7_out : List Cond := .code yX7_out cX7_out 2 (some .int) :: ((wsX7_out_r1 ++ (wsX7_out_r2 ++ (wsX7_out_r3 ++ wsX7_out_r4))) ++ wsX70 ++ wsX50 ++ wsX60 ++ wsX40 ++ wsX00)
def wsX7_drift_r1 : List Cond := [Cond.constant RX7 74 (-1000000002), Cond.fieldLink RX7 26 "IceSway" "now" "LIceSway$Winter;", Cond.fieldLink RX7 125 "IceSway$Winter" "nights" "I", Cond.constant RX7 79 (-1000000004), Cond.fieldLink RX7 118 "IceSway$Winter" "yards" "LIceSway$Yards;", Cond.methodLink RX7 70 yX7_isOut, Cond.static yX7_isOut, Cond.initialized RX7, Cond.code yX7_isOut cX7_isOut 3 (some .boolean), Cond.methodLink RX7 191 yX5_passByDraws, Cond.instanceMethod yX5_passByDraws, Cond.selects RX5 yX5_passByDraws yX5_passByDraws, Cond.initialized RX5, Cond.code yX5_passByDraws cX5_passByDraws 1 none, Cond.methodLink RX5 41 yX5_draw, Cond.instanceMethod yX5_draw, Cond.selects RX5 yX5_draw yX5_draw, Cond.code yX5_draw cX5_draw 2 (some .int), Cond.fieldLink RX5 31 "IceSway$Winter" "drawSeed" "I", Cond.constantLong RX5 51 (1103515245), Cond.constantLong RX5 53 (12345), Cond.constantLong RX5 55 (2147483647), Cond.constant RX5 57 (65536), Cond.methodLink RX5 45 yX5_passThaw]
def wsX7_drift_r2 : List Cond := [Cond.instanceMethod yX5_passThaw, Cond.selects RX5 yX5_passThaw yX5_passThaw, Cond.code yX5_passThaw cX5_passThaw 2 none, Cond.fieldLink RX5 10 "IceSway$Winter" "yards" "LIceSway$Yards;", Cond.fieldLink RX5 24 "IceSway$Winter" "nights" "I", Cond.methodLink RX5 38 yX6_melt, Cond.instanceMethod yX6_melt, Cond.selects RX6 yX6_melt yX6_melt, Cond.initialized RX6, Cond.code yX6_melt cX6_melt 3 none, Cond.fieldLink RX6 21 "IceSway$Yards" "count" "I", Cond.fieldLink RX6 15 "IceSway$Yards" "ice" "[I", Cond.methodLink RX6 44 Lib.Math.max.name, Cond.static Lib.Math.max.name, Cond.initialized "java/lang/Math", Cond.code Lib.Math.max.name Lib.Math.max.code 2 (some .int), Cond.methodLink RX6 38 yX6_shutOpen, Cond.instanceMethod yX6_shutOpen, Cond.selects RX6 yX6_shutOpen yX6_shutOpen, Cond.code yX6_shutOpen cX6_shutOpen 2 none, Cond.fieldLink RX6 25 "IceSway$Yards" "openSet" "I", Cond.fieldLink RX6 18 "IceSway$Yards" "broken" "[I", Cond.fieldLink RX6 11 "IceSway$Yards" "kind" "[I", Cond.methodLink RX6 47 yX6_isOpen]
def wsX7_drift_r3 : List Cond := [Cond.instanceMethod yX6_isOpen, Cond.selects RX6 yX6_isOpen yX6_isOpen, Cond.code yX6_isOpen cX6_isOpen 2 (some .boolean), Cond.methodLink RX6 51 yX6_kindOnceShut, Cond.static yX6_kindOnceShut, Cond.code yX6_kindOnceShut cX6_kindOnceShut 1 (some .int), Cond.methodLink RX5 48 yX5_passCold, Cond.instanceMethod yX5_passCold, Cond.selects RX5 yX5_passCold yX5_passCold, Cond.code yX5_passCold cX5_passCold 2 none, Cond.methodLink RX5 34 yX6_freeze, Cond.instanceMethod yX6_freeze, Cond.selects RX6 yX6_freeze yX6_freeze, Cond.code yX6_freeze cX6_freeze 3 none, Cond.methodLink RX6 41 yX6_thicker, Cond.static yX6_thicker, Cond.code yX6_thicker cX6_thicker 3 (some .int), Cond.methodLink RX6 28 Lib.Math.min.name, Cond.static Lib.Math.min.name, Cond.code Lib.Math.min.name Lib.Math.min.code 2 (some .int), Cond.methodLink RX6 34 yX6_growth, Cond.static yX6_growth, Cond.code yX6_growth cX6_growth 5 (some .int), Cond.methodLink RX7 172 yX6_iceTogether]
def wsX7_drift_r4 : List Cond := [Cond.instanceMethod yX6_iceTogether, Cond.selects RX6 yX6_iceTogether yX6_iceTogether, Cond.code yX6_iceTogether cX6_iceTogether 3 (some .int)]
def wsX7_drift : List Cond := .code yX7_drift cX7_drift 3 (some .int) :: ((wsX7_drift_r1 ++ (wsX7_drift_r2 ++ (wsX7_drift_r3 ++ wsX7_drift_r4))) ++ wsX70 ++ wsX50 ++ wsX60)
def wsX7_today_r1 : List Cond := [Cond.constant RX7 74 (-1000000002), Cond.fieldLink RX7 48 "IceSway" "trip" "LIceSway$Trip;", Cond.fieldLink RX7 185 "IceSway$Trip" "behind" "I", Cond.fieldLink RX7 194 "IceSway$Trip" "minutes" "I", Cond.methodLink RX7 178 yX7_isOutOfDay, Cond.static yX7_isOutOfDay, Cond.initialized RX7, Cond.code yX7_isOutOfDay cX7_isOutOfDay 1 (some .boolean), Cond.methodLink RX7 70 yX7_isOut, Cond.static yX7_isOut, Cond.code yX7_isOut cX7_isOut 3 (some .boolean), Cond.methodLink RX7 182 yX7_goFromNow, Cond.instanceMethod yX7_goFromNow, Cond.selects RX7 yX7_goFromNow yX7_goFromNow, Cond.code yX7_goFromNow cX7_goFromNow 2 none, Cond.fieldLink RX7 26 "IceSway" "now" "LIceSway$Winter;", Cond.fieldLink RX7 118 "IceSway$Winter" "yards" "LIceSway$Yards;", Cond.fieldLink RX7 19 "IceSway" "boat" "LIceSway$Boat;", Cond.methodLink RX7 139 yX7_forceNow, Cond.instanceMethod yX7_forceNow, Cond.selects RX7 yX7_forceNow yX7_forceNow, Cond.code yX7_forceNow cX7_forceNow 1 (some .int), Cond.fieldLink RX7 128 "IceSway$Winter" "beat" "I", Cond.methodLink RX7 197 yX0_forceBy]
def wsX7_today_r2 : List Cond := [Cond.instanceMethod yX0_forceBy, Cond.selects RX0 yX0_forceBy yX0_forceBy, Cond.initialized RX0, Cond.code yX0_forceBy cX0_forceBy 2 (some .int), Cond.methodLink RX0 26 yX0_horsesTold, Cond.instanceMethod yX0_horsesTold, Cond.selects RX0 yX0_horsesTold yX0_horsesTold, Cond.code yX0_horsesTold cX0_horsesTold 1 (some .int), Cond.fieldLink RX0 9 "IceSway$Boat" "numbers" "[I", Cond.methodLink RX0 30 yX0_laggardsTold, Cond.instanceMethod yX0_laggardsTold, Cond.selects RX0 yX0_laggardsTold yX0_laggardsTold, Cond.code yX0_laggardsTold cX0_laggardsTold 1 (some .int), Cond.methodLink RX0 33 yX0_swayBy, Cond.instanceMethod yX0_swayBy, Cond.selects RX0 yX0_swayBy yX0_swayBy, Cond.code yX0_swayBy cX0_swayBy 6 (some .int), Cond.methodLink RX0 16 Lib.Math.max.name, Cond.static Lib.Math.max.name, Cond.initialized "java/lang/Math", Cond.code Lib.Math.max.name Lib.Math.max.code 2 (some .int), Cond.methodLink RX0 22 Lib.Math.abs.name, Cond.static Lib.Math.abs.name, Cond.code Lib.Math.abs.name Lib.Math.abs.code 1 (some .int)]
def wsX7_today_r3 : List Cond := [Cond.methodLink RX0 36 yX0_forceOf, Cond.static yX0_forceOf, Cond.code yX0_forceOf cX0_forceOf 2 (some .int), Cond.methodLink RX7 207 yX0_axeMinutes, Cond.instanceMethod yX0_axeMinutes, Cond.selects RX0 yX0_axeMinutes yX0_axeMinutes, Cond.code yX0_axeMinutes cX0_axeMinutes 1 (some .int), Cond.methodLink RX7 273 yX4_go, Cond.instanceMethod yX4_go, Cond.selects RX4 yX4_go yX4_go, Cond.initialized RX4, Cond.code yX4_go cX4_go 7 none, Cond.fieldLink RX4 17 "IceSway$Trip" "behind" "I", Cond.fieldLink RX4 21 "IceSway$Trip" "minutes" "I", Cond.fieldLink RX4 24 "IceSway$Trip" "firstBroken" "I", Cond.fieldLink RX4 27 "IceSway$Yards" "count" "I", Cond.fieldLink RX4 30 "IceSway$Yards" "kind" "[I", Cond.fieldLink RX4 33 "IceSway$Yards" "ice" "[I", Cond.fieldLink RX4 11 "IceSway$Trip" "behindAt" "[I", Cond.methodLink RX4 36 yX4_minutesThrough, Cond.static yX4_minutesThrough, Cond.code yX4_minutesThrough cX4_minutesThrough 5 (some .int)]
def wsX7_today : List Cond := .code yX7_today cX7_today 3 (some .int) :: ((wsX7_today_r1 ++ (wsX7_today_r2 ++ wsX7_today_r3)) ++ wsX70 ++ wsX40 ++ wsX50 ++ wsX00 ++ wsX60)
def wsX7_bestBeat_r1 : List Cond := [Cond.fieldLink RX7 19 "IceSway" "boat" "LIceSway$Boat;", Cond.methodLink RX7 197 yX0_forceBy, Cond.instanceMethod yX0_forceBy, Cond.selects RX0 yX0_forceBy yX0_forceBy, Cond.initialized RX0, Cond.code yX0_forceBy cX0_forceBy 2 (some .int), Cond.methodLink RX0 26 yX0_horsesTold, Cond.instanceMethod yX0_horsesTold, Cond.selects RX0 yX0_horsesTold yX0_horsesTold, Cond.code yX0_horsesTold cX0_horsesTold 1 (some .int), Cond.fieldLink RX0 9 "IceSway$Boat" "numbers" "[I", Cond.methodLink RX0 30 yX0_laggardsTold, Cond.instanceMethod yX0_laggardsTold, Cond.selects RX0 yX0_laggardsTold yX0_laggardsTold, Cond.code yX0_laggardsTold cX0_laggardsTold 1 (some .int), Cond.methodLink RX0 33 yX0_swayBy, Cond.instanceMethod yX0_swayBy, Cond.selects RX0 yX0_swayBy yX0_swayBy, Cond.code yX0_swayBy cX0_swayBy 6 (some .int), Cond.methodLink RX0 16 Lib.Math.max.name, Cond.static Lib.Math.max.name, Cond.initialized "java/lang/Math", Cond.code Lib.Math.max.name Lib.Math.max.code 2 (some .int), Cond.methodLink RX0 22 Lib.Math.abs.name]
def wsX7_bestBeat_r2 : List Cond := [Cond.static Lib.Math.abs.name, Cond.code Lib.Math.abs.name Lib.Math.abs.code 1 (some .int), Cond.methodLink RX0 36 yX0_forceOf, Cond.static yX0_forceOf, Cond.code yX0_forceOf cX0_forceOf 2 (some .int)]
def wsX7_bestBeat : List Cond := .code yX7_bestBeat cX7_bestBeat 3 (some .int) :: ((wsX7_bestBeat_r1 ++ wsX7_bestBeat_r2) ++ wsX70 ++ wsX00)
def wsX7_laggards_r1 : List Cond := [Cond.constant RX7 74 (-1000000002), Cond.fieldLink RX7 19 "IceSway" "boat" "LIceSway$Boat;", Cond.fieldLink RX7 26 "IceSway" "now" "LIceSway$Winter;", Cond.fieldLink RX7 128 "IceSway$Winter" "beat" "I", Cond.fieldLink RX7 48 "IceSway" "trip" "LIceSway$Trip;", Cond.fieldLink RX7 118 "IceSway$Winter" "yards" "LIceSway$Yards;", Cond.methodLink RX7 178 yX7_isOutOfDay, Cond.static yX7_isOutOfDay, Cond.initialized RX7, Cond.code yX7_isOutOfDay cX7_isOutOfDay 1 (some .boolean), Cond.methodLink RX7 70 yX7_isOut, Cond.static yX7_isOut, Cond.code yX7_isOut cX7_isOut 3 (some .boolean), Cond.methodLink RX7 201 yX0_horsesTold, Cond.instanceMethod yX0_horsesTold, Cond.selects RX0 yX0_horsesTold yX0_horsesTold, Cond.initialized RX0, Cond.code yX0_horsesTold cX0_horsesTold 1 (some .int), Cond.fieldLink RX0 9 "IceSway$Boat" "numbers" "[I", Cond.methodLink RX7 135 yX0_swayBy, Cond.instanceMethod yX0_swayBy, Cond.selects RX0 yX0_swayBy yX0_swayBy, Cond.code yX0_swayBy cX0_swayBy 6 (some .int), Cond.methodLink RX0 16 Lib.Math.max.name]
def wsX7_laggards_r2 : List Cond := [Cond.static Lib.Math.max.name, Cond.initialized "java/lang/Math", Cond.code Lib.Math.max.name Lib.Math.max.code 2 (some .int), Cond.methodLink RX0 22 Lib.Math.abs.name, Cond.static Lib.Math.abs.name, Cond.code Lib.Math.abs.name Lib.Math.abs.code 1 (some .int), Cond.methodLink RX7 204 yX0_forceOf, Cond.static yX0_forceOf, Cond.code yX0_forceOf cX0_forceOf 2 (some .int), Cond.methodLink RX7 207 yX0_axeMinutes, Cond.instanceMethod yX0_axeMinutes, Cond.selects RX0 yX0_axeMinutes yX0_axeMinutes, Cond.code yX0_axeMinutes cX0_axeMinutes 1 (some .int), Cond.methodLink RX7 210 yX4_passes, Cond.instanceMethod yX4_passes, Cond.selects RX4 yX4_passes yX4_passes, Cond.initialized RX4, Cond.code yX4_passes cX4_passes 5 (some .boolean), Cond.fieldLink RX4 17 "IceSway$Trip" "behind" "I", Cond.fieldLink RX4 27 "IceSway$Yards" "count" "I", Cond.methodLink RX4 40 yX4_go, Cond.instanceMethod yX4_go, Cond.selects RX4 yX4_go yX4_go, Cond.code yX4_go cX4_go 7 none]
def wsX7_laggards_r3 : List Cond := [Cond.fieldLink RX4 21 "IceSway$Trip" "minutes" "I", Cond.fieldLink RX4 24 "IceSway$Trip" "firstBroken" "I", Cond.fieldLink RX4 30 "IceSway$Yards" "kind" "[I", Cond.fieldLink RX4 33 "IceSway$Yards" "ice" "[I", Cond.fieldLink RX4 11 "IceSway$Trip" "behindAt" "[I", Cond.methodLink RX4 36 yX4_minutesThrough, Cond.static yX4_minutesThrough, Cond.code yX4_minutesThrough cX4_minutesThrough 5 (some .int)]
def wsX7_laggards : List Cond := .code yX7_laggards cX7_laggards 4 (some .int) :: ((wsX7_laggards_r1 ++ (wsX7_laggards_r2 ++ wsX7_laggards_r3)) ++ wsX70 ++ wsX50 ++ wsX00 ++ wsX40 ++ wsX60)
def wsX7_horses_r1 : List Cond := [Cond.constant RX7 74 (-1000000002), Cond.fieldLink RX7 19 "IceSway" "boat" "LIceSway$Boat;", Cond.fieldLink RX7 26 "IceSway" "now" "LIceSway$Winter;", Cond.fieldLink RX7 128 "IceSway$Winter" "beat" "I", Cond.fieldLink RX7 48 "IceSway" "trip" "LIceSway$Trip;", Cond.fieldLink RX7 118 "IceSway$Winter" "yards" "LIceSway$Yards;", Cond.methodLink RX7 178 yX7_isOutOfDay, Cond.static yX7_isOutOfDay, Cond.initialized RX7, Cond.code yX7_isOutOfDay cX7_isOutOfDay 1 (some .boolean), Cond.methodLink RX7 70 yX7_isOut, Cond.static yX7_isOut, Cond.code yX7_isOut cX7_isOut 3 (some .boolean), Cond.methodLink RX7 131 yX0_laggardsTold, Cond.instanceMethod yX0_laggardsTold, Cond.selects RX0 yX0_laggardsTold yX0_laggardsTold, Cond.initialized RX0, Cond.code yX0_laggardsTold cX0_laggardsTold 1 (some .int), Cond.fieldLink RX0 9 "IceSway$Boat" "numbers" "[I", Cond.methodLink RX7 135 yX0_swayBy, Cond.instanceMethod yX0_swayBy, Cond.selects RX0 yX0_swayBy yX0_swayBy, Cond.code yX0_swayBy cX0_swayBy 6 (some .int), Cond.methodLink RX0 16 Lib.Math.max.name]
def wsX7_horses_r2 : List Cond := [Cond.static Lib.Math.max.name, Cond.initialized "java/lang/Math", Cond.code Lib.Math.max.name Lib.Math.max.code 2 (some .int), Cond.methodLink RX0 22 Lib.Math.abs.name, Cond.static Lib.Math.abs.name, Cond.code Lib.Math.abs.name Lib.Math.abs.code 1 (some .int), Cond.methodLink RX7 204 yX0_forceOf, Cond.static yX0_forceOf, Cond.code yX0_forceOf cX0_forceOf 2 (some .int), Cond.methodLink RX7 207 yX0_axeMinutes, Cond.instanceMethod yX0_axeMinutes, Cond.selects RX0 yX0_axeMinutes yX0_axeMinutes, Cond.code yX0_axeMinutes cX0_axeMinutes 1 (some .int), Cond.methodLink RX7 210 yX4_passes, Cond.instanceMethod yX4_passes, Cond.selects RX4 yX4_passes yX4_passes, Cond.initialized RX4, Cond.code yX4_passes cX4_passes 5 (some .boolean), Cond.fieldLink RX4 17 "IceSway$Trip" "behind" "I", Cond.fieldLink RX4 27 "IceSway$Yards" "count" "I", Cond.methodLink RX4 40 yX4_go, Cond.instanceMethod yX4_go, Cond.selects RX4 yX4_go yX4_go, Cond.code yX4_go cX4_go 7 none]
def wsX7_horses_r3 : List Cond := [Cond.fieldLink RX4 21 "IceSway$Trip" "minutes" "I", Cond.fieldLink RX4 24 "IceSway$Trip" "firstBroken" "I", Cond.fieldLink RX4 30 "IceSway$Yards" "kind" "[I", Cond.fieldLink RX4 33 "IceSway$Yards" "ice" "[I", Cond.fieldLink RX4 11 "IceSway$Trip" "behindAt" "[I", Cond.methodLink RX4 36 yX4_minutesThrough, Cond.static yX4_minutesThrough, Cond.code yX4_minutesThrough cX4_minutesThrough 5 (some .int)]
def wsX7_horses : List Cond := .code yX7_horses cX7_horses 4 (some .int) :: ((wsX7_horses_r1 ++ (wsX7_horses_r2 ++ wsX7_horses_r3)) ++ wsX70 ++ wsX50 ++ wsX00 ++ wsX40 ++ wsX60)
def wsX7_string_r1 : List Cond := [Cond.constant RX7 74 (-1000000002), Cond.fieldLink RX7 48 "IceSway" "trip" "LIceSway$Trip;", Cond.fieldLink RX7 214 "IceSway$Trip" "firstBroken" "I", Cond.fieldLink RX7 19 "IceSway" "boat" "LIceSway$Boat;", Cond.methodLink RX7 178 yX7_isOutOfDay, Cond.static yX7_isOutOfDay, Cond.initialized RX7, Cond.code yX7_isOutOfDay cX7_isOutOfDay 1 (some .boolean), Cond.methodLink RX7 70 yX7_isOut, Cond.static yX7_isOut, Cond.code yX7_isOut cX7_isOut 3 (some .boolean), Cond.methodLink RX7 182 yX7_goFromNow, Cond.instanceMethod yX7_goFromNow, Cond.selects RX7 yX7_goFromNow yX7_goFromNow, Cond.code yX7_goFromNow cX7_goFromNow 2 none, Cond.fieldLink RX7 26 "IceSway" "now" "LIceSway$Winter;", Cond.fieldLink RX7 118 "IceSway$Winter" "yards" "LIceSway$Yards;", Cond.methodLink RX7 139 yX7_forceNow, Cond.instanceMethod yX7_forceNow, Cond.selects RX7 yX7_forceNow yX7_forceNow, Cond.code yX7_forceNow cX7_forceNow 1 (some .int), Cond.fieldLink RX7 128 "IceSway$Winter" "beat" "I", Cond.methodLink RX7 197 yX0_forceBy, Cond.instanceMethod yX0_forceBy]
def wsX7_string_r2 : List Cond := [Cond.selects RX0 yX0_forceBy yX0_forceBy, Cond.initialized RX0, Cond.code yX0_forceBy cX0_forceBy 2 (some .int), Cond.methodLink RX0 26 yX0_horsesTold, Cond.instanceMethod yX0_horsesTold, Cond.selects RX0 yX0_horsesTold yX0_horsesTold, Cond.code yX0_horsesTold cX0_horsesTold 1 (some .int), Cond.fieldLink RX0 9 "IceSway$Boat" "numbers" "[I", Cond.methodLink RX0 30 yX0_laggardsTold, Cond.instanceMethod yX0_laggardsTold, Cond.selects RX0 yX0_laggardsTold yX0_laggardsTold, Cond.code yX0_laggardsTold cX0_laggardsTold 1 (some .int), Cond.methodLink RX0 33 yX0_swayBy, Cond.instanceMethod yX0_swayBy, Cond.selects RX0 yX0_swayBy yX0_swayBy, Cond.code yX0_swayBy cX0_swayBy 6 (some .int), Cond.methodLink RX0 16 Lib.Math.max.name, Cond.static Lib.Math.max.name, Cond.initialized "java/lang/Math", Cond.code Lib.Math.max.name Lib.Math.max.code 2 (some .int), Cond.methodLink RX0 22 Lib.Math.abs.name, Cond.static Lib.Math.abs.name, Cond.code Lib.Math.abs.name Lib.Math.abs.code 1 (some .int), Cond.methodLink RX0 36 yX0_forceOf]
def wsX7_string_r3 : List Cond := [Cond.static yX0_forceOf, Cond.code yX0_forceOf cX0_forceOf 2 (some .int), Cond.methodLink RX7 207 yX0_axeMinutes, Cond.instanceMethod yX0_axeMinutes, Cond.selects RX0 yX0_axeMinutes yX0_axeMinutes, Cond.code yX0_axeMinutes cX0_axeMinutes 1 (some .int), Cond.methodLink RX7 273 yX4_go, Cond.instanceMethod yX4_go, Cond.selects RX4 yX4_go yX4_go, Cond.initialized RX4, Cond.code yX4_go cX4_go 7 none, Cond.fieldLink RX4 17 "IceSway$Trip" "behind" "I", Cond.fieldLink RX4 21 "IceSway$Trip" "minutes" "I", Cond.fieldLink RX4 24 "IceSway$Trip" "firstBroken" "I", Cond.fieldLink RX4 27 "IceSway$Yards" "count" "I", Cond.fieldLink RX4 30 "IceSway$Yards" "kind" "[I", Cond.fieldLink RX4 33 "IceSway$Yards" "ice" "[I", Cond.fieldLink RX4 11 "IceSway$Trip" "behindAt" "[I", Cond.methodLink RX4 36 yX4_minutesThrough, Cond.static yX4_minutesThrough, Cond.code yX4_minutesThrough cX4_minutesThrough 5 (some .int), Cond.methodLink RX7 217 yX0_gapMinutes, Cond.instanceMethod yX0_gapMinutes, Cond.selects RX0 yX0_gapMinutes yX0_gapMinutes]
def wsX7_string_r4 : List Cond := [Cond.code yX0_gapMinutes cX0_gapMinutes 1 (some .int)]
def wsX7_string : List Cond := .code yX7_string cX7_string 3 (some .int) :: ((wsX7_string_r1 ++ (wsX7_string_r2 ++ (wsX7_string_r3 ++ wsX7_string_r4))) ++ wsX70 ++ wsX40 ++ wsX50 ++ wsX00 ++ wsX60)
def wsX7_turn_r1 : List Cond := [Cond.constant RX7 74 (-1000000002), Cond.fieldLink RX7 48 "IceSway" "trip" "LIceSway$Trip;", Cond.fieldLink RX7 19 "IceSway" "boat" "LIceSway$Boat;", Cond.methodLink RX7 178 yX7_isOutOfDay, Cond.static yX7_isOutOfDay, Cond.initialized RX7, Cond.code yX7_isOutOfDay cX7_isOutOfDay 1 (some .boolean), Cond.methodLink RX7 70 yX7_isOut, Cond.static yX7_isOut, Cond.code yX7_isOut cX7_isOut 3 (some .boolean), Cond.methodLink RX7 182 yX7_goFromNow, Cond.instanceMethod yX7_goFromNow, Cond.selects RX7 yX7_goFromNow yX7_goFromNow, Cond.code yX7_goFromNow cX7_goFromNow 2 none, Cond.fieldLink RX7 26 "IceSway" "now" "LIceSway$Winter;", Cond.fieldLink RX7 118 "IceSway$Winter" "yards" "LIceSway$Yards;", Cond.methodLink RX7 139 yX7_forceNow, Cond.instanceMethod yX7_forceNow, Cond.selects RX7 yX7_forceNow yX7_forceNow, Cond.code yX7_forceNow cX7_forceNow 1 (some .int), Cond.fieldLink RX7 128 "IceSway$Winter" "beat" "I", Cond.methodLink RX7 197 yX0_forceBy, Cond.instanceMethod yX0_forceBy, Cond.selects RX0 yX0_forceBy yX0_forceBy]
def wsX7_turn_r2 : List Cond := [Cond.initialized RX0, Cond.code yX0_forceBy cX0_forceBy 2 (some .int), Cond.methodLink RX0 26 yX0_horsesTold, Cond.instanceMethod yX0_horsesTold, Cond.selects RX0 yX0_horsesTold yX0_horsesTold, Cond.code yX0_horsesTold cX0_horsesTold 1 (some .int), Cond.fieldLink RX0 9 "IceSway$Boat" "numbers" "[I", Cond.methodLink RX0 30 yX0_laggardsTold, Cond.instanceMethod yX0_laggardsTold, Cond.selects RX0 yX0_laggardsTold yX0_laggardsTold, Cond.code yX0_laggardsTold cX0_laggardsTold 1 (some .int), Cond.methodLink RX0 33 yX0_swayBy, Cond.instanceMethod yX0_swayBy, Cond.selects RX0 yX0_swayBy yX0_swayBy, Cond.code yX0_swayBy cX0_swayBy 6 (some .int), Cond.methodLink RX0 16 Lib.Math.max.name, Cond.static Lib.Math.max.name, Cond.initialized "java/lang/Math", Cond.code Lib.Math.max.name Lib.Math.max.code 2 (some .int), Cond.methodLink RX0 22 Lib.Math.abs.name, Cond.static Lib.Math.abs.name, Cond.code Lib.Math.abs.name Lib.Math.abs.code 1 (some .int), Cond.methodLink RX0 36 yX0_forceOf, Cond.static yX0_forceOf]
def wsX7_turn_r3 : List Cond := [Cond.code yX0_forceOf cX0_forceOf 2 (some .int), Cond.methodLink RX7 207 yX0_axeMinutes, Cond.instanceMethod yX0_axeMinutes, Cond.selects RX0 yX0_axeMinutes yX0_axeMinutes, Cond.code yX0_axeMinutes cX0_axeMinutes 1 (some .int), Cond.methodLink RX7 273 yX4_go, Cond.instanceMethod yX4_go, Cond.selects RX4 yX4_go yX4_go, Cond.initialized RX4, Cond.code yX4_go cX4_go 7 none, Cond.fieldLink RX4 17 "IceSway$Trip" "behind" "I", Cond.fieldLink RX4 21 "IceSway$Trip" "minutes" "I", Cond.fieldLink RX4 24 "IceSway$Trip" "firstBroken" "I", Cond.fieldLink RX4 27 "IceSway$Yards" "count" "I", Cond.fieldLink RX4 30 "IceSway$Yards" "kind" "[I", Cond.fieldLink RX4 33 "IceSway$Yards" "ice" "[I", Cond.fieldLink RX4 11 "IceSway$Trip" "behindAt" "[I", Cond.methodLink RX4 36 yX4_minutesThrough, Cond.static yX4_minutesThrough, Cond.code yX4_minutesThrough cX4_minutesThrough 5 (some .int), Cond.methodLink RX7 217 yX0_gapMinutes, Cond.instanceMethod yX0_gapMinutes, Cond.selects RX0 yX0_gapMinutes yX0_gapMinutes, Cond.code yX0_gapMinutes cX0_gapMinutes 1 (some .int)]
def wsX7_turn_r4 : List Cond := [Cond.methodLink RX7 220 yX4_furthestTurn, Cond.instanceMethod yX4_furthestTurn, Cond.selects RX4 yX4_furthestTurn yX4_furthestTurn, Cond.code yX4_furthestTurn cX4_furthestTurn 4 (some .int), Cond.methodLink RX4 44 yX4_isBackInGap, Cond.instanceMethod yX4_isBackInGap, Cond.selects RX4 yX4_isBackInGap yX4_isBackInGap, Cond.code yX4_isBackInGap cX4_isBackInGap 4 (some .boolean)]
def wsX7_turn : List Cond := .code yX7_turn cX7_turn 2 (some .int) :: ((wsX7_turn_r1 ++ (wsX7_turn_r2 ++ (wsX7_turn_r3 ++ wsX7_turn_r4))) ++ wsX70 ++ wsX50 ++ wsX00 ++ wsX40 ++ wsX60)
def wsX7_plan_r1 : List Cond := [Cond.constant RX7 74 (-1000000002), Cond.fieldLink RX7 26 "IceSway" "now" "LIceSway$Winter;", Cond.fieldLink RX7 118 "IceSway$Winter" "yards" "LIceSway$Yards;", Cond.fieldLink RX7 121 "IceSway$Yards" "count" "I", Cond.constant RX7 181 (-1000000003), Cond.fieldLink RX7 62 "IceSway" "search" "LIceSway$Search;", Cond.fieldLink RX7 19 "IceSway" "boat" "LIceSway$Boat;", Cond.fieldLink RX7 231 "IceSway$Search" "leastCost" "I", Cond.fieldLink RX7 234 "IceSway$Search" "leastSet" "I", Cond.methodLink RX7 70 yX7_isOut, Cond.static yX7_isOut, Cond.initialized RX7, Cond.code yX7_isOut cX7_isOut 3 (some .boolean), Cond.methodLink RX7 178 yX7_isOutOfDay, Cond.static yX7_isOutOfDay, Cond.code yX7_isOutOfDay cX7_isOutOfDay 1 (some .boolean), Cond.methodLink RX7 223 yX2_start, Cond.instanceMethod yX2_start, Cond.selects RX2 yX2_start yX2_start, Cond.initialized RX2, Cond.code yX2_start cX2_start 5 none, Cond.fieldLink RX2 20 "IceSway$Search" "levels" "[LIceSway$Yards;", Cond.fieldLink RX2 25 "IceSway$Winter" "yards" "LIceSway$Yards;", Cond.methodLink RX2 35 Lib.Math.min.name]
def wsX7_plan_r2 : List Cond := [Cond.static Lib.Math.min.name, Cond.initialized "java/lang/Math", Cond.code Lib.Math.min.name Lib.Math.min.code 2 (some .int), Cond.fieldLink RX2 41 "IceSway$Search" "depth" "I", Cond.fieldLink RX2 45 "IceSway$Search" "minutes" "I", Cond.fieldLink RX2 48 "IceSway$Winter" "beat" "I", Cond.fieldLink RX2 57 "IceSway$Search" "force" "I", Cond.fieldLink RX2 64 "IceSway$Search" "axe" "I", Cond.methodLink RX2 31 yX6_copyFrom, Cond.instanceMethod yX6_copyFrom, Cond.selects RX6 yX6_copyFrom yX6_copyFrom, Cond.initialized RX6, Cond.code yX6_copyFrom cX6_copyFrom 3 none, Cond.fieldLink RX6 21 "IceSway$Yards" "count" "I", Cond.fieldLink RX6 25 "IceSway$Yards" "openSet" "I", Cond.fieldLink RX6 11 "IceSway$Yards" "kind" "[I", Cond.fieldLink RX6 15 "IceSway$Yards" "ice" "[I", Cond.fieldLink RX6 18 "IceSway$Yards" "broken" "[I", Cond.methodLink RX2 51 yX0_forceBy, Cond.instanceMethod yX0_forceBy, Cond.selects RX0 yX0_forceBy yX0_forceBy, Cond.initialized RX0, Cond.code yX0_forceBy cX0_forceBy 2 (some .int), Cond.methodLink RX0 26 yX0_horsesTold]
def wsX7_plan_r3 : List Cond := [Cond.instanceMethod yX0_horsesTold, Cond.selects RX0 yX0_horsesTold yX0_horsesTold, Cond.code yX0_horsesTold cX0_horsesTold 1 (some .int), Cond.fieldLink RX0 9 "IceSway$Boat" "numbers" "[I", Cond.methodLink RX0 30 yX0_laggardsTold, Cond.instanceMethod yX0_laggardsTold, Cond.selects RX0 yX0_laggardsTold yX0_laggardsTold, Cond.code yX0_laggardsTold cX0_laggardsTold 1 (some .int), Cond.methodLink RX0 33 yX0_swayBy, Cond.instanceMethod yX0_swayBy, Cond.selects RX0 yX0_swayBy yX0_swayBy, Cond.code yX0_swayBy cX0_swayBy 6 (some .int), Cond.methodLink RX0 16 Lib.Math.max.name, Cond.static Lib.Math.max.name, Cond.code Lib.Math.max.name Lib.Math.max.code 2 (some .int), Cond.methodLink RX0 22 Lib.Math.abs.name, Cond.static Lib.Math.abs.name, Cond.code Lib.Math.abs.name Lib.Math.abs.code 1 (some .int), Cond.methodLink RX0 36 yX0_forceOf, Cond.static yX0_forceOf, Cond.code yX0_forceOf cX0_forceOf 2 (some .int), Cond.methodLink RX2 60 yX0_axeMinutes, Cond.instanceMethod yX0_axeMinutes, Cond.selects RX0 yX0_axeMinutes yX0_axeMinutes]
def wsX7_plan_r4 : List Cond := [Cond.code yX0_axeMinutes cX0_axeMinutes 1 (some .int), Cond.methodLink RX7 227 yX2_findPlan, Cond.instanceMethod yX2_findPlan, Cond.selects RX2 yX2_findPlan yX2_findPlan, Cond.code yX2_findPlan cX2_findPlan 3 none, Cond.fieldLink RX2 67 "IceSway$Search" "cold" "I", Cond.fieldLink RX2 73 "IceSway$Search" "coalDays" "I", Cond.fieldLink RX2 78 "IceSway$Search" "dayCost" "I", Cond.fieldLink RX2 83 "IceSway$Search" "wantCost" "I", Cond.constant RX2 87 (2147483647), Cond.fieldLink RX2 88 "IceSway$Search" "leastCost" "I", Cond.fieldLink RX2 91 "IceSway$Search" "leastSet" "I", Cond.methodLink RX2 70 yX0_coalDays, Cond.instanceMethod yX0_coalDays, Cond.selects RX0 yX0_coalDays yX0_coalDays, Cond.code yX0_coalDays cX0_coalDays 1 (some .int), Cond.methodLink RX2 75 yX0_dayCost, Cond.instanceMethod yX0_dayCost, Cond.selects RX0 yX0_dayCost yX0_dayCost, Cond.code yX0_dayCost cX0_dayCost 1 (some .int), Cond.methodLink RX2 80 yX0_wantCost, Cond.instanceMethod yX0_wantCost, Cond.selects RX0 yX0_wantCost yX0_wantCost, Cond.code yX0_wantCost cX0_wantCost 1 (some .int)]
def wsX7_plan_r5 : List Cond := [Cond.methodLink RX2 94 yX2_tryDay, Cond.instanceMethod yX2_tryDay, Cond.selects RX2 yX2_tryDay yX2_tryDay, Cond.code yX2_tryDay cX2_tryDay 11 none, Cond.methodLink RX2 102 Lib.Math.max.name, Cond.fieldLink RX2 12 "IceSway$Search" "trip" "LIceSway$Trip;", Cond.fieldLink RX2 113 "IceSway$Trip" "behind" "I", Cond.methodLink RX2 98 yX2_takeIfBetter, Cond.instanceMethod yX2_takeIfBetter, Cond.selects RX2 yX2_takeIfBetter yX2_takeIfBetter, Cond.code yX2_takeIfBetter cX2_takeIfBetter 3 none, Cond.methodLink RX2 105 yX6_freeze, Cond.instanceMethod yX6_freeze, Cond.selects RX6 yX6_freeze yX6_freeze, Cond.code yX6_freeze cX6_freeze 3 none, Cond.methodLink RX6 38 yX6_shutOpen, Cond.instanceMethod yX6_shutOpen, Cond.selects RX6 yX6_shutOpen yX6_shutOpen, Cond.code yX6_shutOpen cX6_shutOpen 2 none, Cond.methodLink RX6 47 yX6_isOpen, Cond.instanceMethod yX6_isOpen, Cond.selects RX6 yX6_isOpen yX6_isOpen, Cond.code yX6_isOpen cX6_isOpen 2 (some .boolean), Cond.methodLink RX6 51 yX6_kindOnceShut]
def wsX7_plan_r6 : List Cond := [Cond.static yX6_kindOnceShut, Cond.code yX6_kindOnceShut cX6_kindOnceShut 1 (some .int), Cond.methodLink RX6 41 yX6_thicker, Cond.static yX6_thicker, Cond.code yX6_thicker cX6_thicker 3 (some .int), Cond.methodLink RX6 28 Lib.Math.min.name, Cond.methodLink RX6 34 yX6_growth, Cond.static yX6_growth, Cond.code yX6_growth cX6_growth 5 (some .int), Cond.methodLink RX2 109 yX4_passes, Cond.instanceMethod yX4_passes, Cond.selects RX4 yX4_passes yX4_passes, Cond.initialized RX4, Cond.code yX4_passes cX4_passes 5 (some .boolean), Cond.fieldLink RX4 17 "IceSway$Trip" "behind" "I", Cond.fieldLink RX4 27 "IceSway$Yards" "count" "I", Cond.methodLink RX4 40 yX4_go, Cond.instanceMethod yX4_go, Cond.selects RX4 yX4_go yX4_go, Cond.code yX4_go cX4_go 7 none, Cond.fieldLink RX4 21 "IceSway$Trip" "minutes" "I", Cond.fieldLink RX4 24 "IceSway$Trip" "firstBroken" "I", Cond.fieldLink RX4 30 "IceSway$Yards" "kind" "[I", Cond.fieldLink RX4 33 "IceSway$Yards" "ice" "[I"]
def wsX7_plan_r7 : List Cond := [Cond.fieldLink RX4 11 "IceSway$Trip" "behindAt" "[I", Cond.methodLink RX4 36 yX4_minutesThrough, Cond.static yX4_minutesThrough, Cond.code yX4_minutesThrough cX4_minutesThrough 5 (some .int), Cond.methodLink RX2 116 yX6_openFirst, Cond.instanceMethod yX6_openFirst, Cond.selects RX6 yX6_openFirst yX6_openFirst, Cond.code yX6_openFirst cX6_openFirst 3 none]
def wsX7_plan : List Cond := .code yX7_plan cX7_plan 5 (some .int) :: ((wsX7_plan_r1 ++ (wsX7_plan_r2 ++ (wsX7_plan_r3 ++ (wsX7_plan_r4 ++ (wsX7_plan_r5 ++ (wsX7_plan_r6 ++ wsX7_plan_r7)))))) ++ wsX70 ++ wsX50 ++ wsX60 ++ wsX20 ++ wsX00 ++ wsX40)
def wsX7_lost_r1 : List Cond := [Cond.constant RX7 74 (-1000000002), Cond.fieldLink RX7 55 "IceSway" "tried" "LIceSway$Yards;", Cond.fieldLink RX7 26 "IceSway" "now" "LIceSway$Winter;", Cond.fieldLink RX7 118 "IceSway$Winter" "yards" "LIceSway$Yards;", Cond.fieldLink RX7 48 "IceSway" "trip" "LIceSway$Trip;", Cond.fieldLink RX7 19 "IceSway" "boat" "LIceSway$Boat;", Cond.methodLink RX7 70 yX7_isOut, Cond.static yX7_isOut, Cond.initialized RX7, Cond.code yX7_isOut cX7_isOut 3 (some .boolean), Cond.methodLink RX7 178 yX7_isOutOfDay, Cond.static yX7_isOutOfDay, Cond.code yX7_isOutOfDay cX7_isOutOfDay 1 (some .boolean), Cond.methodLink RX7 139 yX7_forceNow, Cond.instanceMethod yX7_forceNow, Cond.selects RX7 yX7_forceNow yX7_forceNow, Cond.code yX7_forceNow cX7_forceNow 1 (some .int), Cond.fieldLink RX7 128 "IceSway$Winter" "beat" "I", Cond.methodLink RX7 197 yX0_forceBy, Cond.instanceMethod yX0_forceBy, Cond.selects RX0 yX0_forceBy yX0_forceBy, Cond.initialized RX0, Cond.code yX0_forceBy cX0_forceBy 2 (some .int), Cond.methodLink RX0 26 yX0_horsesTold]
def wsX7_lost_r2 : List Cond := [Cond.instanceMethod yX0_horsesTold, Cond.selects RX0 yX0_horsesTold yX0_horsesTold, Cond.code yX0_horsesTold cX0_horsesTold 1 (some .int), Cond.fieldLink RX0 9 "IceSway$Boat" "numbers" "[I", Cond.methodLink RX0 30 yX0_laggardsTold, Cond.instanceMethod yX0_laggardsTold, Cond.selects RX0 yX0_laggardsTold yX0_laggardsTold, Cond.code yX0_laggardsTold cX0_laggardsTold 1 (some .int), Cond.methodLink RX0 33 yX0_swayBy, Cond.instanceMethod yX0_swayBy, Cond.selects RX0 yX0_swayBy yX0_swayBy, Cond.code yX0_swayBy cX0_swayBy 6 (some .int), Cond.methodLink RX0 16 Lib.Math.max.name, Cond.static Lib.Math.max.name, Cond.initialized "java/lang/Math", Cond.code Lib.Math.max.name Lib.Math.max.code 2 (some .int), Cond.methodLink RX0 22 Lib.Math.abs.name, Cond.static Lib.Math.abs.name, Cond.code Lib.Math.abs.name Lib.Math.abs.code 1 (some .int), Cond.methodLink RX0 36 yX0_forceOf, Cond.static yX0_forceOf, Cond.code yX0_forceOf cX0_forceOf 2 (some .int), Cond.methodLink RX7 237 yX6_copyFrom, Cond.instanceMethod yX6_copyFrom]
def wsX7_lost_r3 : List Cond := [Cond.selects RX6 yX6_copyFrom yX6_copyFrom, Cond.initialized RX6, Cond.code yX6_copyFrom cX6_copyFrom 3 none, Cond.fieldLink RX6 21 "IceSway$Yards" "count" "I", Cond.fieldLink RX6 25 "IceSway$Yards" "openSet" "I", Cond.fieldLink RX6 11 "IceSway$Yards" "kind" "[I", Cond.fieldLink RX6 15 "IceSway$Yards" "ice" "[I", Cond.fieldLink RX6 18 "IceSway$Yards" "broken" "[I", Cond.methodLink RX7 241 yX6_freeze, Cond.instanceMethod yX6_freeze, Cond.selects RX6 yX6_freeze yX6_freeze, Cond.code yX6_freeze cX6_freeze 3 none, Cond.methodLink RX6 38 yX6_shutOpen, Cond.instanceMethod yX6_shutOpen, Cond.selects RX6 yX6_shutOpen yX6_shutOpen, Cond.code yX6_shutOpen cX6_shutOpen 2 none, Cond.methodLink RX6 47 yX6_isOpen, Cond.instanceMethod yX6_isOpen, Cond.selects RX6 yX6_isOpen yX6_isOpen, Cond.code yX6_isOpen cX6_isOpen 2 (some .boolean), Cond.methodLink RX6 51 yX6_kindOnceShut, Cond.static yX6_kindOnceShut, Cond.code yX6_kindOnceShut cX6_kindOnceShut 1 (some .int), Cond.methodLink RX6 41 yX6_thicker]
def wsX7_lost_r4 : List Cond := [Cond.static yX6_thicker, Cond.code yX6_thicker cX6_thicker 3 (some .int), Cond.methodLink RX6 28 Lib.Math.min.name, Cond.static Lib.Math.min.name, Cond.code Lib.Math.min.name Lib.Math.min.code 2 (some .int), Cond.methodLink RX6 34 yX6_growth, Cond.static yX6_growth, Cond.code yX6_growth cX6_growth 5 (some .int), Cond.methodLink RX7 207 yX0_axeMinutes, Cond.instanceMethod yX0_axeMinutes, Cond.selects RX0 yX0_axeMinutes yX0_axeMinutes, Cond.code yX0_axeMinutes cX0_axeMinutes 1 (some .int), Cond.methodLink RX7 210 yX4_passes, Cond.instanceMethod yX4_passes, Cond.selects RX4 yX4_passes yX4_passes, Cond.initialized RX4, Cond.code yX4_passes cX4_passes 5 (some .boolean), Cond.fieldLink RX4 17 "IceSway$Trip" "behind" "I", Cond.fieldLink RX4 27 "IceSway$Yards" "count" "I", Cond.methodLink RX4 40 yX4_go, Cond.instanceMethod yX4_go, Cond.selects RX4 yX4_go yX4_go, Cond.code yX4_go cX4_go 7 none, Cond.fieldLink RX4 21 "IceSway$Trip" "minutes" "I"]
def wsX7_lost_r5 : List Cond := [Cond.fieldLink RX4 24 "IceSway$Trip" "firstBroken" "I", Cond.fieldLink RX4 30 "IceSway$Yards" "kind" "[I", Cond.fieldLink RX4 33 "IceSway$Yards" "ice" "[I", Cond.fieldLink RX4 11 "IceSway$Trip" "behindAt" "[I", Cond.methodLink RX4 36 yX4_minutesThrough, Cond.static yX4_minutesThrough, Cond.code yX4_minutesThrough cX4_minutesThrough 5 (some .int)]
def wsX7_lost : List Cond := .code yX7_lost cX7_lost 5 (some .int) :: ((wsX7_lost_r1 ++ (wsX7_lost_r2 ++ (wsX7_lost_r3 ++ (wsX7_lost_r4 ++ wsX7_lost_r5)))) ++ wsX70 ++ wsX50 ++ wsX00 ++ wsX60 ++ wsX40)
def wsX7_odds_r1 : List Cond := [Cond.constant RX7 74 (-1000000002), Cond.fieldLink RX7 62 "IceSway" "search" "LIceSway$Search;", Cond.fieldLink RX7 26 "IceSway" "now" "LIceSway$Winter;", Cond.fieldLink RX7 19 "IceSway" "boat" "LIceSway$Boat;", Cond.methodLink RX7 70 yX7_isOut, Cond.static yX7_isOut, Cond.initialized RX7, Cond.code yX7_isOut cX7_isOut 3 (some .boolean), Cond.methodLink RX7 178 yX7_isOutOfDay, Cond.static yX7_isOutOfDay, Cond.code yX7_isOutOfDay cX7_isOutOfDay 1 (some .boolean), Cond.methodLink RX7 223 yX2_start, Cond.instanceMethod yX2_start, Cond.selects RX2 yX2_start yX2_start, Cond.initialized RX2, Cond.code yX2_start cX2_start 5 none, Cond.fieldLink RX2 20 "IceSway$Search" "levels" "[LIceSway$Yards;", Cond.fieldLink RX2 25 "IceSway$Winter" "yards" "LIceSway$Yards;", Cond.methodLink RX2 35 Lib.Math.min.name, Cond.static Lib.Math.min.name, Cond.initialized "java/lang/Math", Cond.code Lib.Math.min.name Lib.Math.min.code 2 (some .int), Cond.fieldLink RX2 41 "IceSway$Search" "depth" "I", Cond.fieldLink RX2 45 "IceSway$Search" "minutes" "I"]
def wsX7_odds_r2 : List Cond := [Cond.fieldLink RX2 48 "IceSway$Winter" "beat" "I", Cond.fieldLink RX2 57 "IceSway$Search" "force" "I", Cond.fieldLink RX2 64 "IceSway$Search" "axe" "I", Cond.methodLink RX2 31 yX6_copyFrom, Cond.instanceMethod yX6_copyFrom, Cond.selects RX6 yX6_copyFrom yX6_copyFrom, Cond.initialized RX6, Cond.code yX6_copyFrom cX6_copyFrom 3 none, Cond.fieldLink RX6 21 "IceSway$Yards" "count" "I", Cond.fieldLink RX6 25 "IceSway$Yards" "openSet" "I", Cond.fieldLink RX6 11 "IceSway$Yards" "kind" "[I", Cond.fieldLink RX6 15 "IceSway$Yards" "ice" "[I", Cond.fieldLink RX6 18 "IceSway$Yards" "broken" "[I", Cond.methodLink RX2 51 yX0_forceBy, Cond.instanceMethod yX0_forceBy, Cond.selects RX0 yX0_forceBy yX0_forceBy, Cond.initialized RX0, Cond.code yX0_forceBy cX0_forceBy 2 (some .int), Cond.methodLink RX0 26 yX0_horsesTold, Cond.instanceMethod yX0_horsesTold, Cond.selects RX0 yX0_horsesTold yX0_horsesTold, Cond.code yX0_horsesTold cX0_horsesTold 1 (some .int), Cond.fieldLink RX0 9 "IceSway$Boat" "numbers" "[I", Cond.methodLink RX0 30 yX0_laggardsTold]
def wsX7_odds_r3 : List Cond := [Cond.instanceMethod yX0_laggardsTold, Cond.selects RX0 yX0_laggardsTold yX0_laggardsTold, Cond.code yX0_laggardsTold cX0_laggardsTold 1 (some .int), Cond.methodLink RX0 33 yX0_swayBy, Cond.instanceMethod yX0_swayBy, Cond.selects RX0 yX0_swayBy yX0_swayBy, Cond.code yX0_swayBy cX0_swayBy 6 (some .int), Cond.methodLink RX0 16 Lib.Math.max.name, Cond.static Lib.Math.max.name, Cond.code Lib.Math.max.name Lib.Math.max.code 2 (some .int), Cond.methodLink RX0 22 Lib.Math.abs.name, Cond.static Lib.Math.abs.name, Cond.code Lib.Math.abs.name Lib.Math.abs.code 1 (some .int), Cond.methodLink RX0 36 yX0_forceOf, Cond.static yX0_forceOf, Cond.code yX0_forceOf cX0_forceOf 2 (some .int), Cond.methodLink RX2 60 yX0_axeMinutes, Cond.instanceMethod yX0_axeMinutes, Cond.selects RX0 yX0_axeMinutes yX0_axeMinutes, Cond.code yX0_axeMinutes cX0_axeMinutes 1 (some .int), Cond.methodLink RX7 244 yX2_findOdds, Cond.instanceMethod yX2_findOdds, Cond.selects RX2 yX2_findOdds yX2_findOdds, Cond.code yX2_findOdds cX2_findOdds 4 (some .int)]
def wsX7_odds_r4 : List Cond := [Cond.fieldLink RX2 67 "IceSway$Search" "cold" "I", Cond.fieldLink RX2 119 "IceSway$Search" "thaw" "I", Cond.fieldLink RX2 122 "IceSway$Search" "percent" "I", Cond.constantLong RX2 125 (1000000000), Cond.methodLink RX2 127 yX2_oddsOf, Cond.instanceMethod yX2_oddsOf, Cond.selects RX2 yX2_oddsOf yX2_oddsOf, Cond.code yX2_oddsOf cX2_oddsOf 9 (some .long), Cond.fieldLink RX2 12 "IceSway$Search" "trip" "LIceSway$Trip;", Cond.constantLong RX2 131 (100), Cond.methodLink RX2 109 yX4_passes, Cond.instanceMethod yX4_passes, Cond.selects RX4 yX4_passes yX4_passes, Cond.initialized RX4, Cond.code yX4_passes cX4_passes 5 (some .boolean), Cond.fieldLink RX4 17 "IceSway$Trip" "behind" "I", Cond.fieldLink RX4 27 "IceSway$Yards" "count" "I", Cond.methodLink RX4 40 yX4_go, Cond.instanceMethod yX4_go, Cond.selects RX4 yX4_go yX4_go, Cond.code yX4_go cX4_go 7 none, Cond.fieldLink RX4 21 "IceSway$Trip" "minutes" "I", Cond.fieldLink RX4 24 "IceSway$Trip" "firstBroken" "I", Cond.fieldLink RX4 30 "IceSway$Yards" "kind" "[I"]
def wsX7_odds_r5 : List Cond := [Cond.fieldLink RX4 33 "IceSway$Yards" "ice" "[I", Cond.fieldLink RX4 11 "IceSway$Trip" "behindAt" "[I", Cond.methodLink RX4 36 yX4_minutesThrough, Cond.static yX4_minutesThrough, Cond.code yX4_minutesThrough cX4_minutesThrough 5 (some .int), Cond.methodLink RX2 133 yX6_melt, Cond.instanceMethod yX6_melt, Cond.selects RX6 yX6_melt yX6_melt, Cond.code yX6_melt cX6_melt 3 none, Cond.methodLink RX6 44 Lib.Math.max.name, Cond.methodLink RX6 38 yX6_shutOpen, Cond.instanceMethod yX6_shutOpen, Cond.selects RX6 yX6_shutOpen yX6_shutOpen, Cond.code yX6_shutOpen cX6_shutOpen 2 none, Cond.methodLink RX6 47 yX6_isOpen, Cond.instanceMethod yX6_isOpen, Cond.selects RX6 yX6_isOpen yX6_isOpen, Cond.code yX6_isOpen cX6_isOpen 2 (some .boolean), Cond.methodLink RX6 51 yX6_kindOnceShut, Cond.static yX6_kindOnceShut, Cond.code yX6_kindOnceShut cX6_kindOnceShut 1 (some .int), Cond.methodLink RX2 105 yX6_freeze, Cond.instanceMethod yX6_freeze, Cond.selects RX6 yX6_freeze yX6_freeze]
def wsX7_odds_r6 : List Cond := [Cond.code yX6_freeze cX6_freeze 3 none, Cond.methodLink RX6 41 yX6_thicker, Cond.static yX6_thicker, Cond.code yX6_thicker cX6_thicker 3 (some .int), Cond.methodLink RX6 28 Lib.Math.min.name, Cond.methodLink RX6 34 yX6_growth, Cond.static yX6_growth, Cond.code yX6_growth cX6_growth 5 (some .int)]
def wsX7_odds : List Cond := .code yX7_odds cX7_odds 6 (some .int) :: ((wsX7_odds_r1 ++ (wsX7_odds_r2 ++ (wsX7_odds_r3 ++ (wsX7_odds_r4 ++ (wsX7_odds_r5 ++ wsX7_odds_r6))))) ++ wsX70 ++ wsX20 ++ wsX50 ++ wsX60 ++ wsX00 ++ wsX40)
def wsX7_noFall : List Cond := .code yX7_noFall cX7_noFall 7 (some .int) :: ([.constant RX7 74 (-1000000002), .constantLong RX7 247 (1000000000), .fieldLink RX7 19 "IceSway" "boat" "LIceSway$Boat;", .constantLong RX7 249 (1000), .methodLink RX7 70 yX7_isOut, .static yX7_isOut, .initialized RX7, .code yX7_isOut cX7_isOut 3 (some .boolean), .methodLink RX7 201 yX0_horsesTold, .instanceMethod yX0_horsesTold, .selects RX0 yX0_horsesTold yX0_horsesTold, .initialized RX0, .code yX0_horsesTold cX0_horsesTold 1 (some .int), .fieldLink RX0 9 "IceSway$Boat" "numbers" "[I"] ++ wsX70 ++ wsX00)
def wsX7_bore_r1 : List Cond := [Cond.fieldLink RX7 26 "IceSway" "now" "LIceSway$Winter;", Cond.fieldLink RX7 118 "IceSway$Winter" "yards" "LIceSway$Yards;", Cond.constant RX7 155 (-1000000001), Cond.constant RX7 74 (-1000000002), Cond.fieldLink RX7 41 "IceSway" "records" "LIceSway$Records;", Cond.fieldLink RX7 145 "IceSway$Records" "boredCount" "I", Cond.constant RX7 79 (-1000000004), Cond.methodLink RX7 151 yX6_has, Cond.instanceMethod yX6_has, Cond.selects RX6 yX6_has yX6_has, Cond.initialized RX6, Cond.code yX6_has cX6_has 2 (some .boolean), Cond.fieldLink RX6 21 "IceSway$Yards" "count" "I", Cond.methodLink RX7 70 yX7_isOut, Cond.static yX7_isOut, Cond.initialized RX7, Cond.code yX7_isOut cX7_isOut 3 (some .boolean), Cond.methodLink RX7 251 yX1_addBored, Cond.instanceMethod yX1_addBored, Cond.selects RX1 yX1_addBored yX1_addBored, Cond.initialized RX1, Cond.code yX1_addBored cX1_addBored 5 (some .boolean), Cond.fieldLink RX1 30 "IceSway$Records" "boredCount" "I", Cond.fieldLink RX1 11 "IceSway$Records" "boredYard" "[I"]
def wsX7_bore_r2 : List Cond := [Cond.fieldLink RX1 15 "IceSway$Records" "boredNights" "[I", Cond.fieldLink RX1 18 "IceSway$Records" "boredCold" "[I", Cond.fieldLink RX1 21 "IceSway$Records" "boredIce" "[I"]
def wsX7_bore : List Cond := .code yX7_bore cX7_bore 5 (some .int) :: ((wsX7_bore_r1 ++ wsX7_bore_r2) ++ wsX70 ++ wsX50 ++ wsX10 ++ wsX60)
def wsX7_kinds_r1 : List Cond := [Cond.fieldLink RX7 26 "IceSway" "now" "LIceSway$Winter;", Cond.fieldLink RX7 118 "IceSway$Winter" "yards" "LIceSway$Yards;", Cond.constant RX7 155 (-1000000001), Cond.fieldLink RX7 41 "IceSway" "records" "LIceSway$Records;", Cond.methodLink RX7 151 yX6_has, Cond.instanceMethod yX6_has, Cond.selects RX6 yX6_has yX6_has, Cond.initialized RX6, Cond.code yX6_has cX6_has 2 (some .boolean), Cond.fieldLink RX6 21 "IceSway$Yards" "count" "I", Cond.methodLink RX7 255 yX1_fits, Cond.instanceMethod yX1_fits, Cond.selects RX1 yX1_fits yX1_fits, Cond.initialized RX1, Cond.code yX1_fits cX1_fits 5 (some .boolean), Cond.fieldLink RX1 30 "IceSway$Records" "boredCount" "I", Cond.fieldLink RX1 11 "IceSway$Records" "boredYard" "[I", Cond.fieldLink RX1 15 "IceSway$Records" "boredNights" "[I", Cond.fieldLink RX1 18 "IceSway$Records" "boredCold" "[I", Cond.fieldLink RX1 21 "IceSway$Records" "boredIce" "[I", Cond.methodLink RX1 37 yX6_iceIfOf, Cond.instanceMethod yX6_iceIfOf, Cond.selects RX6 yX6_iceIfOf yX6_iceIfOf, Cond.code yX6_iceIfOf cX6_iceIfOf 8 (some .int)]
def wsX7_kinds_r2 : List Cond := [Cond.fieldLink RX6 15 "IceSway$Yards" "ice" "[I", Cond.fieldLink RX6 18 "IceSway$Yards" "broken" "[I", Cond.methodLink RX6 47 yX6_isOpen, Cond.instanceMethod yX6_isOpen, Cond.selects RX6 yX6_isOpen yX6_isOpen, Cond.code yX6_isOpen cX6_isOpen 2 (some .boolean), Cond.fieldLink RX6 25 "IceSway$Yards" "openSet" "I", Cond.methodLink RX6 51 yX6_kindOnceShut, Cond.static yX6_kindOnceShut, Cond.code yX6_kindOnceShut cX6_kindOnceShut 1 (some .int), Cond.methodLink RX6 41 yX6_thicker, Cond.static yX6_thicker, Cond.code yX6_thicker cX6_thicker 3 (some .int), Cond.methodLink RX6 28 Lib.Math.min.name, Cond.static Lib.Math.min.name, Cond.initialized "java/lang/Math", Cond.code Lib.Math.min.name Lib.Math.min.code 2 (some .int), Cond.methodLink RX6 34 yX6_growth, Cond.static yX6_growth, Cond.code yX6_growth cX6_growth 5 (some .int)]
def wsX7_kinds : List Cond := .code yX7_kinds cX7_kinds 4 (some .int) :: ((wsX7_kinds_r1 ++ wsX7_kinds_r2) ++ wsX70 ++ wsX50 ++ wsX60 ++ wsX10)
def wsX7_write_r1 : List Cond := [Cond.fieldLink RX7 26 "IceSway" "now" "LIceSway$Winter;", Cond.fieldLink RX7 118 "IceSway$Winter" "yards" "LIceSway$Yards;", Cond.constant RX7 155 (-1000000001), Cond.constant RX7 74 (-1000000002), Cond.fieldLink RX7 41 "IceSway" "records" "LIceSway$Records;", Cond.fieldLink RX7 148 "IceSway$Records" "entryCount" "I", Cond.constant RX7 79 (-1000000004), Cond.methodLink RX7 151 yX6_has, Cond.instanceMethod yX6_has, Cond.selects RX6 yX6_has yX6_has, Cond.initialized RX6, Cond.code yX6_has cX6_has 2 (some .boolean), Cond.fieldLink RX6 21 "IceSway$Yards" "count" "I", Cond.methodLink RX7 70 yX7_isOut, Cond.static yX7_isOut, Cond.initialized RX7, Cond.code yX7_isOut cX7_isOut 3 (some .boolean), Cond.methodLink RX7 259 yX1_addEntry, Cond.instanceMethod yX1_addEntry, Cond.selects RX1 yX1_addEntry yX1_addEntry, Cond.initialized RX1, Cond.code yX1_addEntry cX1_addEntry 3 (some .boolean), Cond.fieldLink RX1 34 "IceSway$Records" "entryCount" "I", Cond.fieldLink RX1 24 "IceSway$Records" "entryYard" "[I"]
def wsX7_write_r2 : List Cond := [Cond.fieldLink RX1 27 "IceSway$Records" "entryIce" "[I"]
def wsX7_write : List Cond := .code yX7_write cX7_write 3 (some .int) :: ((wsX7_write_r1 ++ wsX7_write_r2) ++ wsX70 ++ wsX50 ++ wsX10 ++ wsX60)
def wsX7_tear : List Cond := .code yX7_tear cX7_tear 2 (some .int) :: ([.fieldLink RX7 41 "IceSway" "records" "LIceSway$Records;", .fieldLink RX7 145 "IceSway$Records" "boredCount" "I", .fieldLink RX7 148 "IceSway$Records" "entryCount" "I", .methodLink RX7 115 yX1_clearAll, .instanceMethod yX1_clearAll, .selects RX1 yX1_clearAll yX1_clearAll, .initialized RX1, .code yX1_clearAll cX1_clearAll 1 none, .fieldLink RX1 30 "IceSway$Records" "boredCount" "I", .fieldLink RX1 34 "IceSway$Records" "entryCount" "I"] ++ wsX70 ++ wsX10)
def wsX7_judge : List Cond := .code yX7_judge cX7_judge 1 (some .int) :: ([.fieldLink RX7 41 "IceSway" "records" "LIceSway$Records;", .fieldLink RX7 26 "IceSway" "now" "LIceSway$Winter;", .fieldLink RX7 118 "IceSway$Winter" "yards" "LIceSway$Yards;", .methodLink RX7 263 yX1_firstWrong, .instanceMethod yX1_firstWrong, .selects RX1 yX1_firstWrong yX1_firstWrong, .initialized RX1, .code yX1_firstWrong cX1_firstWrong 4 (some .int), .fieldLink RX1 34 "IceSway$Records" "entryCount" "I", .fieldLink RX1 24 "IceSway$Records" "entryYard" "[I", .fieldLink RX1 47 "IceSway$Yards" "ice" "[I", .fieldLink RX1 27 "IceSway$Records" "entryIce" "[I", .methodLink RX1 43 yX6_has, .instanceMethod yX6_has, .selects RX6 yX6_has yX6_has, .initialized RX6, .code yX6_has cX6_has 2 (some .boolean), .fieldLink RX6 21 "IceSway$Yards" "count" "I"] ++ wsX70 ++ wsX50 ++ wsX10 ++ wsX60)
def wsX7_seed : List Cond := .code yX7_seed cX7_seed 3 (some .int) :: ([.constant RX7 74 (-1000000002), .fieldLink RX7 26 "IceSway" "now" "LIceSway$Winter;", .fieldLink RX7 267 "IceSway$Winter" "drawSeed" "I"] ++ wsX70 ++ wsX50)
def wsX7_keep_r1 : List Cond := [Cond.constant RX7 155 (-1000000001), Cond.fieldLink RX7 30 "IceSway" "images" "[LIceSway$Winter;", Cond.fieldLink RX7 26 "IceSway" "now" "LIceSway$Winter;", Cond.fieldLink RX7 34 "IceSway" "kept" "[Z", Cond.methodLink RX7 70 yX7_isOut, Cond.static yX7_isOut, Cond.initialized RX7, Cond.code yX7_isOut cX7_isOut 3 (some .boolean), Cond.methodLink RX7 270 yX5_copyFrom, Cond.instanceMethod yX5_copyFrom, Cond.selects RX5 yX5_copyFrom yX5_copyFrom, Cond.initialized RX5, Cond.code yX5_copyFrom cX5_copyFrom 2 none, Cond.fieldLink RX5 10 "IceSway$Winter" "yards" "LIceSway$Yards;", Cond.fieldLink RX5 16 "IceSway$Winter" "beat" "I", Cond.fieldLink RX5 24 "IceSway$Winter" "nights" "I", Cond.fieldLink RX5 31 "IceSway$Winter" "drawSeed" "I", Cond.methodLink RX5 27 yX6_copyFrom, Cond.instanceMethod yX6_copyFrom, Cond.selects RX6 yX6_copyFrom yX6_copyFrom, Cond.initialized RX6, Cond.code yX6_copyFrom cX6_copyFrom 3 none, Cond.fieldLink RX6 21 "IceSway$Yards" "count" "I", Cond.fieldLink RX6 25 "IceSway$Yards" "openSet" "I"]
def wsX7_keep_r2 : List Cond := [Cond.fieldLink RX6 11 "IceSway$Yards" "kind" "[I", Cond.fieldLink RX6 15 "IceSway$Yards" "ice" "[I", Cond.fieldLink RX6 18 "IceSway$Yards" "broken" "[I"]
def wsX7_keep : List Cond := .code yX7_keep cX7_keep 2 (some .int) :: ((wsX7_keep_r1 ++ wsX7_keep_r2) ++ wsX70 ++ wsX50 ++ wsX60)
def wsX7_goBack_r1 : List Cond := [Cond.constant RX7 155 (-1000000001), Cond.fieldLink RX7 34 "IceSway" "kept" "[Z", Cond.constant RX7 181 (-1000000003), Cond.fieldLink RX7 26 "IceSway" "now" "LIceSway$Winter;", Cond.fieldLink RX7 30 "IceSway" "images" "[LIceSway$Winter;", Cond.methodLink RX7 70 yX7_isOut, Cond.static yX7_isOut, Cond.initialized RX7, Cond.code yX7_isOut cX7_isOut 3 (some .boolean), Cond.methodLink RX7 270 yX5_copyFrom, Cond.instanceMethod yX5_copyFrom, Cond.selects RX5 yX5_copyFrom yX5_copyFrom, Cond.initialized RX5, Cond.code yX5_copyFrom cX5_copyFrom 2 none, Cond.fieldLink RX5 10 "IceSway$Winter" "yards" "LIceSway$Yards;", Cond.fieldLink RX5 16 "IceSway$Winter" "beat" "I", Cond.fieldLink RX5 24 "IceSway$Winter" "nights" "I", Cond.fieldLink RX5 31 "IceSway$Winter" "drawSeed" "I", Cond.methodLink RX5 27 yX6_copyFrom, Cond.instanceMethod yX6_copyFrom, Cond.selects RX6 yX6_copyFrom yX6_copyFrom, Cond.initialized RX6, Cond.code yX6_copyFrom cX6_copyFrom 3 none, Cond.fieldLink RX6 21 "IceSway$Yards" "count" "I"]
def wsX7_goBack_r2 : List Cond := [Cond.fieldLink RX6 25 "IceSway$Yards" "openSet" "I", Cond.fieldLink RX6 11 "IceSway$Yards" "kind" "[I", Cond.fieldLink RX6 15 "IceSway$Yards" "ice" "[I", Cond.fieldLink RX6 18 "IceSway$Yards" "broken" "[I"]
def wsX7_goBack : List Cond := .code yX7_goBack cX7_goBack 2 (some .int) :: ((wsX7_goBack_r1 ++ wsX7_goBack_r2) ++ wsX70 ++ wsX50 ++ wsX60)
def wsX8_reads : List Cond := .code yX8_reads cX8_reads 1 none :: ([.fieldLink RX8 13 "IceSwayModel" "told" "[I", .fieldLink RX8 69 "IceSwayModel" "readYards" "I", .fieldLink RX8 72 "IceSwayModel" "seen" "I", .fieldLink RX8 75 "IceSwayModel" "at" "I", .fieldLink RX8 78 "IceSwayModel" "faulty" "I", .fieldLink RX8 23 "IceSwayModel" "faultAt" "I"] ++ wsX80)
def wsX8_init_r1 : List Cond := [Cond.methodLink RX8 1 objectInit, Cond.instanceMethod objectInit, Cond.code objectInit ⟨#[0xb1]⟩ 1 none, Cond.arrayClass .int, Cond.fieldLink RX8 7 "IceSwayModel" "w" "[I", Cond.fieldLink RX8 13 "IceSwayModel" "told" "[I", Cond.arrayClass .boolean, Cond.fieldLink RX8 16 "IceSwayModel" "isKept" "[Z", Cond.fieldLink RX8 20 "IceSwayModel" "text" "[I", Cond.fieldLink RX8 23 "IceSwayModel" "faultAt" "I", Cond.fieldLink RX8 27 "IceSwayModel" "readKind" "[I", Cond.fieldLink RX8 30 "IceSwayModel" "readIce" "[I", Cond.fieldLink RX8 33 "IceSwayModel" "behindAt" "[I", Cond.fieldLink RX8 36 "IceSwayModel" "held" "[I", Cond.fieldLink RX8 39 "IceSwayModel" "boredYard" "[I", Cond.fieldLink RX8 42 "IceSwayModel" "boredNights" "[I", Cond.fieldLink RX8 45 "IceSwayModel" "boredCold" "[I", Cond.fieldLink RX8 48 "IceSwayModel" "boredIce" "[I", Cond.fieldLink RX8 51 "IceSwayModel" "bookYard" "[I", Cond.fieldLink RX8 54 "IceSwayModel" "bookIce" "[I", Cond.methodLink RX8 57 yX8_reads, Cond.instanceMethod yX8_reads, Cond.selects RX8 yX8_reads yX8_reads, Cond.initialized RX8]
def wsX8_init_r2 : List Cond := [Cond.code yX8_reads cX8_reads 1 none, Cond.fieldLink RX8 69 "IceSwayModel" "readYards" "I", Cond.fieldLink RX8 72 "IceSwayModel" "seen" "I", Cond.fieldLink RX8 75 "IceSwayModel" "at" "I", Cond.fieldLink RX8 78 "IceSwayModel" "faulty" "I"]
def wsX8_init : List Cond := .code yX8_init cX8_init 2 none :: ((wsX8_init_r1 ++ wsX8_init_r2) ++ wsX80)
def wsX8_in : List Cond := .code yX8_in cX8_in 6 (some .boolean) :: ([])
def wsX8_isYard : List Cond := .code yX8_isYard cX8_isYard 2 (some .boolean) :: ([.fieldLink RX8 60 "IceSwayModel" "yards" "I", .methodLink RX8 63 yX8_in, .static yX8_in, .initialized RX8, .code yX8_in cX8_in 6 (some .boolean)] ++ wsX80)
def wsX8_isTime : List Cond := .code yX8_isTime cX8_isTime 1 (some .boolean) :: ([.constantLong RX8 67 (999), .methodLink RX8 63 yX8_in, .static yX8_in, .initialized RX8, .code yX8_in cX8_in 6 (some .boolean)])
def wsX8_copy : List Cond := .code yX8_copy cX8_copy 4 none :: ([.fieldLink RX8 7 "IceSwayModel" "w" "[I"] ++ wsX80)
def wsX8_feed : List Cond := .code yX8_feed cX8_feed 2 (some .int) :: ([.constantLong RX8 81 (255), .constant RX8 83 (-1000000002), .fieldLink RX8 84 "IceSwayModel" "texted" "I", .constant RX8 87 (-1000000004), .fieldLink RX8 20 "IceSwayModel" "text" "[I", .methodLink RX8 63 yX8_in, .static yX8_in, .initialized RX8, .code yX8_in cX8_in 6 (some .boolean)] ++ wsX80)
def wsX8_letterAt : List Cond := .code yX8_letterAt cX8_letterAt 2 (some .int) :: ([.fieldLink RX8 84 "IceSwayModel" "texted" "I", .fieldLink RX8 20 "IceSwayModel" "text" "[I"] ++ wsX80)
def wsX8_here : List Cond := .code yX8_here cX8_here 1 (some .int) :: ([.fieldLink RX8 75 "IceSwayModel" "at" "I", .fieldLink RX8 92 "IceSwayModel" "start" "I", .methodLink RX8 88 yX8_letterAt, .instanceMethod yX8_letterAt, .selects RX8 yX8_letterAt yX8_letterAt, .initialized RX8, .code yX8_letterAt cX8_letterAt 2 (some .int), .fieldLink RX8 84 "IceSwayModel" "texted" "I", .fieldLink RX8 20 "IceSwayModel" "text" "[I"] ++ wsX80)
def wsX8_fails : List Cond := .code yX8_fails cX8_fails 3 (some .boolean) :: ([.fieldLink RX8 78 "IceSwayModel" "faulty" "I", .fieldLink RX8 23 "IceSwayModel" "faultAt" "I"] ++ wsX80)
def wsX8_takes : List Cond := .code yX8_takes cX8_takes 2 (some .boolean) :: ([.fieldLink RX8 92 "IceSwayModel" "start" "I", .fieldLink RX8 75 "IceSwayModel" "at" "I", .methodLink RX8 95 yX8_here, .instanceMethod yX8_here, .selects RX8 yX8_here yX8_here, .initialized RX8, .code yX8_here cX8_here 1 (some .int), .methodLink RX8 88 yX8_letterAt, .instanceMethod yX8_letterAt, .selects RX8 yX8_letterAt yX8_letterAt, .code yX8_letterAt cX8_letterAt 2 (some .int), .fieldLink RX8 84 "IceSwayModel" "texted" "I", .fieldLink RX8 20 "IceSwayModel" "text" "[I", .methodLink RX8 99 yX8_fails, .instanceMethod yX8_fails, .selects RX8 yX8_fails yX8_fails, .code yX8_fails cX8_fails 3 (some .boolean), .fieldLink RX8 78 "IceSwayModel" "faulty" "I", .fieldLink RX8 23 "IceSwayModel" "faultAt" "I"] ++ wsX80)
def wsX8_takesNumber_r1 : List Cond := [Cond.constantLong RX8 103 (48), Cond.constantLong RX8 105 (57), Cond.fieldLink RX8 92 "IceSwayModel" "start" "I", Cond.fieldLink RX8 107 "IceSwayModel" "value" "I", Cond.fieldLink RX8 75 "IceSwayModel" "at" "I", Cond.methodLink RX8 95 yX8_here, Cond.instanceMethod yX8_here, Cond.selects RX8 yX8_here yX8_here, Cond.initialized RX8, Cond.code yX8_here cX8_here 1 (some .int), Cond.methodLink RX8 88 yX8_letterAt, Cond.instanceMethod yX8_letterAt, Cond.selects RX8 yX8_letterAt yX8_letterAt, Cond.code yX8_letterAt cX8_letterAt 2 (some .int), Cond.fieldLink RX8 84 "IceSwayModel" "texted" "I", Cond.fieldLink RX8 20 "IceSwayModel" "text" "[I", Cond.methodLink RX8 63 yX8_in, Cond.static yX8_in, Cond.code yX8_in cX8_in 6 (some .boolean), Cond.methodLink RX8 99 yX8_fails, Cond.instanceMethod yX8_fails, Cond.selects RX8 yX8_fails yX8_fails, Cond.code yX8_fails cX8_fails 3 (some .boolean), Cond.fieldLink RX8 78 "IceSwayModel" "faulty" "I"]
def wsX8_takesNumber_r2 : List Cond := [Cond.fieldLink RX8 23 "IceSwayModel" "faultAt" "I"]
def wsX8_takesNumber : List Cond := .code yX8_takesNumber cX8_takesNumber 3 (some .boolean) :: ((wsX8_takesNumber_r1 ++ wsX8_takesNumber_r2) ++ wsX80)
def wsX8_tells_r1 : List Cond := [Cond.fieldLink RX8 13 "IceSwayModel" "told" "[I", Cond.fieldLink RX8 107 "IceSwayModel" "value" "I", Cond.methodLink RX8 110 yX8_takesNumber, Cond.instanceMethod yX8_takesNumber, Cond.selects RX8 yX8_takesNumber yX8_takesNumber, Cond.initialized RX8, Cond.code yX8_takesNumber cX8_takesNumber 3 (some .boolean), Cond.constantLong RX8 103 (48), Cond.constantLong RX8 105 (57), Cond.fieldLink RX8 92 "IceSwayModel" "start" "I", Cond.fieldLink RX8 75 "IceSwayModel" "at" "I", Cond.methodLink RX8 95 yX8_here, Cond.instanceMethod yX8_here, Cond.selects RX8 yX8_here yX8_here, Cond.code yX8_here cX8_here 1 (some .int), Cond.methodLink RX8 88 yX8_letterAt, Cond.instanceMethod yX8_letterAt, Cond.selects RX8 yX8_letterAt yX8_letterAt, Cond.code yX8_letterAt cX8_letterAt 2 (some .int), Cond.fieldLink RX8 84 "IceSwayModel" "texted" "I", Cond.fieldLink RX8 20 "IceSwayModel" "text" "[I", Cond.methodLink RX8 63 yX8_in, Cond.static yX8_in, Cond.code yX8_in cX8_in 6 (some .boolean)]
def wsX8_tells_r2 : List Cond := [Cond.methodLink RX8 99 yX8_fails, Cond.instanceMethod yX8_fails, Cond.selects RX8 yX8_fails yX8_fails, Cond.code yX8_fails cX8_fails 3 (some .boolean), Cond.fieldLink RX8 78 "IceSwayModel" "faulty" "I", Cond.fieldLink RX8 23 "IceSwayModel" "faultAt" "I"]
def wsX8_tells : List Cond := .code yX8_tells cX8_tells 5 (some .boolean) :: ((wsX8_tells_r1 ++ wsX8_tells_r2) ++ wsX80)
def wsX8_takesYard_r1 : List Cond := [Cond.fieldLink RX8 27 "IceSwayModel" "readKind" "[I", Cond.fieldLink RX8 69 "IceSwayModel" "readYards" "I", Cond.fieldLink RX8 107 "IceSwayModel" "value" "I", Cond.fieldLink RX8 30 "IceSwayModel" "readIce" "[I", Cond.methodLink RX8 110 yX8_takesNumber, Cond.instanceMethod yX8_takesNumber, Cond.selects RX8 yX8_takesNumber yX8_takesNumber, Cond.initialized RX8, Cond.code yX8_takesNumber cX8_takesNumber 3 (some .boolean), Cond.constantLong RX8 103 (48), Cond.constantLong RX8 105 (57), Cond.fieldLink RX8 92 "IceSwayModel" "start" "I", Cond.fieldLink RX8 75 "IceSwayModel" "at" "I", Cond.methodLink RX8 95 yX8_here, Cond.instanceMethod yX8_here, Cond.selects RX8 yX8_here yX8_here, Cond.code yX8_here cX8_here 1 (some .int), Cond.methodLink RX8 88 yX8_letterAt, Cond.instanceMethod yX8_letterAt, Cond.selects RX8 yX8_letterAt yX8_letterAt, Cond.code yX8_letterAt cX8_letterAt 2 (some .int), Cond.fieldLink RX8 84 "IceSwayModel" "texted" "I", Cond.fieldLink RX8 20 "IceSwayModel" "text" "[I", Cond.methodLink RX8 63 yX8_in]
def wsX8_takesYard_r2 : List Cond := [Cond.static yX8_in, Cond.code yX8_in cX8_in 6 (some .boolean), Cond.methodLink RX8 99 yX8_fails, Cond.instanceMethod yX8_fails, Cond.selects RX8 yX8_fails yX8_fails, Cond.code yX8_fails cX8_fails 3 (some .boolean), Cond.fieldLink RX8 78 "IceSwayModel" "faulty" "I", Cond.fieldLink RX8 23 "IceSwayModel" "faultAt" "I"]
def wsX8_takesYard : List Cond := .code yX8_takesYard cX8_takesYard 1 (some .boolean) :: ((wsX8_takesYard_r1 ++ wsX8_takesYard_r2) ++ wsX80)
def wsX8_takesYards_r1 : List Cond := [Cond.fieldLink RX8 69 "IceSwayModel" "readYards" "I", Cond.fieldLink RX8 92 "IceSwayModel" "start" "I", Cond.fieldLink RX8 75 "IceSwayModel" "at" "I", Cond.methodLink RX8 113 yX8_takesYard, Cond.instanceMethod yX8_takesYard, Cond.selects RX8 yX8_takesYard yX8_takesYard, Cond.initialized RX8, Cond.code yX8_takesYard cX8_takesYard 1 (some .boolean), Cond.fieldLink RX8 27 "IceSwayModel" "readKind" "[I", Cond.fieldLink RX8 107 "IceSwayModel" "value" "I", Cond.fieldLink RX8 30 "IceSwayModel" "readIce" "[I", Cond.methodLink RX8 110 yX8_takesNumber, Cond.instanceMethod yX8_takesNumber, Cond.selects RX8 yX8_takesNumber yX8_takesNumber, Cond.code yX8_takesNumber cX8_takesNumber 3 (some .boolean), Cond.constantLong RX8 103 (48), Cond.constantLong RX8 105 (57), Cond.methodLink RX8 95 yX8_here, Cond.instanceMethod yX8_here, Cond.selects RX8 yX8_here yX8_here, Cond.code yX8_here cX8_here 1 (some .int), Cond.methodLink RX8 88 yX8_letterAt, Cond.instanceMethod yX8_letterAt, Cond.selects RX8 yX8_letterAt yX8_letterAt]
def wsX8_takesYards_r2 : List Cond := [Cond.code yX8_letterAt cX8_letterAt 2 (some .int), Cond.fieldLink RX8 84 "IceSwayModel" "texted" "I", Cond.fieldLink RX8 20 "IceSwayModel" "text" "[I", Cond.methodLink RX8 63 yX8_in, Cond.static yX8_in, Cond.code yX8_in cX8_in 6 (some .boolean), Cond.methodLink RX8 99 yX8_fails, Cond.instanceMethod yX8_fails, Cond.selects RX8 yX8_fails yX8_fails, Cond.code yX8_fails cX8_fails 3 (some .boolean), Cond.fieldLink RX8 78 "IceSwayModel" "faulty" "I", Cond.fieldLink RX8 23 "IceSwayModel" "faultAt" "I"]
def wsX8_takesYards : List Cond := .code yX8_takesYards cX8_takesYards 2 (some .boolean) :: ((wsX8_takesYards_r1 ++ wsX8_takesYards_r2) ++ wsX80)
def wsX8_takesClause_r1 : List Cond := [Cond.fieldLink RX8 72 "IceSwayModel" "seen" "I", Cond.fieldLink RX8 92 "IceSwayModel" "start" "I", Cond.fieldLink RX8 75 "IceSwayModel" "at" "I", Cond.methodLink RX8 95 yX8_here, Cond.instanceMethod yX8_here, Cond.selects RX8 yX8_here yX8_here, Cond.initialized RX8, Cond.code yX8_here cX8_here 1 (some .int), Cond.methodLink RX8 88 yX8_letterAt, Cond.instanceMethod yX8_letterAt, Cond.selects RX8 yX8_letterAt yX8_letterAt, Cond.code yX8_letterAt cX8_letterAt 2 (some .int), Cond.fieldLink RX8 84 "IceSwayModel" "texted" "I", Cond.fieldLink RX8 20 "IceSwayModel" "text" "[I", Cond.methodLink RX8 99 yX8_fails, Cond.instanceMethod yX8_fails, Cond.selects RX8 yX8_fails yX8_fails, Cond.code yX8_fails cX8_fails 3 (some .boolean), Cond.fieldLink RX8 78 "IceSwayModel" "faulty" "I", Cond.fieldLink RX8 23 "IceSwayModel" "faultAt" "I", Cond.methodLink RX8 117 yX8_takesYards, Cond.instanceMethod yX8_takesYards, Cond.selects RX8 yX8_takesYards yX8_takesYards, Cond.code yX8_takesYards cX8_takesYards 2 (some .boolean)]
def wsX8_takesClause_r2 : List Cond := [Cond.fieldLink RX8 69 "IceSwayModel" "readYards" "I", Cond.methodLink RX8 113 yX8_takesYard, Cond.instanceMethod yX8_takesYard, Cond.selects RX8 yX8_takesYard yX8_takesYard, Cond.code yX8_takesYard cX8_takesYard 1 (some .boolean), Cond.fieldLink RX8 27 "IceSwayModel" "readKind" "[I", Cond.fieldLink RX8 107 "IceSwayModel" "value" "I", Cond.fieldLink RX8 30 "IceSwayModel" "readIce" "[I", Cond.methodLink RX8 110 yX8_takesNumber, Cond.instanceMethod yX8_takesNumber, Cond.selects RX8 yX8_takesNumber yX8_takesNumber, Cond.code yX8_takesNumber cX8_takesNumber 3 (some .boolean), Cond.constantLong RX8 103 (48), Cond.constantLong RX8 105 (57), Cond.methodLink RX8 63 yX8_in, Cond.static yX8_in, Cond.code yX8_in cX8_in 6 (some .boolean), Cond.methodLink RX8 120 yX8_tells, Cond.instanceMethod yX8_tells, Cond.selects RX8 yX8_tells yX8_tells, Cond.code yX8_tells cX8_tells 5 (some .boolean), Cond.fieldLink RX8 13 "IceSwayModel" "told" "[I", Cond.methodLink RX8 124 yX8_takes, Cond.instanceMethod yX8_takes]
def wsX8_takesClause_r3 : List Cond := [Cond.selects RX8 yX8_takes yX8_takes, Cond.code yX8_takes cX8_takes 2 (some .boolean)]
def wsX8_takesClause : List Cond := .code yX8_takesClause cX8_takesClause 4 (some .boolean) :: ((wsX8_takesClause_r1 ++ (wsX8_takesClause_r2 ++ wsX8_takesClause_r3)) ++ wsX80)
def wsX8_cut_r1 : List Cond := [Cond.fieldLink RX8 84 "IceSwayModel" "texted" "I", Cond.fieldLink RX8 78 "IceSwayModel" "faulty" "I", Cond.fieldLink RX8 7 "IceSwayModel" "w" "[I", Cond.fieldLink RX8 69 "IceSwayModel" "readYards" "I", Cond.fieldLink RX8 60 "IceSwayModel" "yards" "I", Cond.fieldLink RX8 27 "IceSwayModel" "readKind" "[I", Cond.fieldLink RX8 30 "IceSwayModel" "readIce" "[I", Cond.fieldLink RX8 13 "IceSwayModel" "told" "[I", Cond.fieldLink RX8 16 "IceSwayModel" "isKept" "[Z", Cond.fieldLink RX8 131 "IceSwayModel" "bored" "I", Cond.fieldLink RX8 134 "IceSwayModel" "booked" "I", Cond.methodLink RX8 57 yX8_reads, Cond.instanceMethod yX8_reads, Cond.selects RX8 yX8_reads yX8_reads, Cond.initialized RX8, Cond.code yX8_reads cX8_reads 1 none, Cond.fieldLink RX8 72 "IceSwayModel" "seen" "I", Cond.fieldLink RX8 75 "IceSwayModel" "at" "I", Cond.fieldLink RX8 23 "IceSwayModel" "faultAt" "I", Cond.methodLink RX8 95 yX8_here, Cond.instanceMethod yX8_here, Cond.selects RX8 yX8_here yX8_here, Cond.code yX8_here cX8_here 1 (some .int), Cond.fieldLink RX8 92 "IceSwayModel" "start" "I"]
def wsX8_cut_r2 : List Cond := [Cond.methodLink RX8 88 yX8_letterAt, Cond.instanceMethod yX8_letterAt, Cond.selects RX8 yX8_letterAt yX8_letterAt, Cond.code yX8_letterAt cX8_letterAt 2 (some .int), Cond.fieldLink RX8 20 "IceSwayModel" "text" "[I", Cond.methodLink RX8 128 yX8_takesClause, Cond.instanceMethod yX8_takesClause, Cond.selects RX8 yX8_takesClause yX8_takesClause, Cond.code yX8_takesClause cX8_takesClause 4 (some .boolean), Cond.methodLink RX8 99 yX8_fails, Cond.instanceMethod yX8_fails, Cond.selects RX8 yX8_fails yX8_fails, Cond.code yX8_fails cX8_fails 3 (some .boolean), Cond.methodLink RX8 117 yX8_takesYards, Cond.instanceMethod yX8_takesYards, Cond.selects RX8 yX8_takesYards yX8_takesYards, Cond.code yX8_takesYards cX8_takesYards 2 (some .boolean), Cond.methodLink RX8 113 yX8_takesYard, Cond.instanceMethod yX8_takesYard, Cond.selects RX8 yX8_takesYard yX8_takesYard, Cond.code yX8_takesYard cX8_takesYard 1 (some .boolean), Cond.fieldLink RX8 107 "IceSwayModel" "value" "I", Cond.methodLink RX8 110 yX8_takesNumber, Cond.instanceMethod yX8_takesNumber]
def wsX8_cut_r3 : List Cond := [Cond.selects RX8 yX8_takesNumber yX8_takesNumber, Cond.code yX8_takesNumber cX8_takesNumber 3 (some .boolean), Cond.constantLong RX8 103 (48), Cond.constantLong RX8 105 (57), Cond.methodLink RX8 63 yX8_in, Cond.static yX8_in, Cond.code yX8_in cX8_in 6 (some .boolean), Cond.methodLink RX8 120 yX8_tells, Cond.instanceMethod yX8_tells, Cond.selects RX8 yX8_tells yX8_tells, Cond.code yX8_tells cX8_tells 5 (some .boolean), Cond.methodLink RX8 124 yX8_takes, Cond.instanceMethod yX8_takes, Cond.selects RX8 yX8_takes yX8_takes, Cond.code yX8_takes cX8_takes 2 (some .boolean)]
def wsX8_cut : List Cond := .code yX8_cut cX8_cut 4 (some .int) :: ((wsX8_cut_r1 ++ (wsX8_cut_r2 ++ wsX8_cut_r3)) ++ wsX80)
def wsX8_fault : List Cond := .code yX8_fault cX8_fault 1 (some .int) :: ([.fieldLink RX8 23 "IceSwayModel" "faultAt" "I"] ++ wsX80)
def wsX8_swayOf : List Cond := .code yX8_swayOf cX8_swayOf 6 (some .int) :: ([.fieldLink RX8 13 "IceSwayModel" "told" "[I"] ++ wsX80)
def wsX8_forceNow : List Cond := .code yX8_forceNow cX8_forceNow 1 (some .int) :: ([.fieldLink RX8 13 "IceSwayModel" "told" "[I", .fieldLink RX8 7 "IceSwayModel" "w" "[I", .methodLink RX8 137 yX8_swayOf, .instanceMethod yX8_swayOf, .selects RX8 yX8_swayOf yX8_swayOf, .initialized RX8, .code yX8_swayOf cX8_swayOf 6 (some .int)] ++ wsX80)
def wsX8_openSet : List Cond := .code yX8_openSet cX8_openSet 3 (some .int) :: ([.fieldLink RX8 60 "IceSwayModel" "yards" "I", .fieldLink RX8 7 "IceSwayModel" "w" "[I"] ++ wsX80)
def wsX8_told : List Cond := .code yX8_told cX8_told 2 (some .int) :: ([.fieldLink RX8 60 "IceSwayModel" "yards" "I", .fieldLink RX8 84 "IceSwayModel" "texted" "I", .fieldLink RX8 7 "IceSwayModel" "w" "[I", .fieldLink RX8 13 "IceSwayModel" "told" "[I", .fieldLink RX8 131 "IceSwayModel" "bored" "I", .fieldLink RX8 134 "IceSwayModel" "booked" "I", .constantLong RX8 147 (9), .constant RX8 83 (-1000000002), .methodLink RX8 137 yX8_swayOf, .instanceMethod yX8_swayOf, .selects RX8 yX8_swayOf yX8_swayOf, .initialized RX8, .code yX8_swayOf cX8_swayOf 6 (some .int), .methodLink RX8 141 yX8_forceNow, .instanceMethod yX8_forceNow, .selects RX8 yX8_forceNow yX8_forceNow, .code yX8_forceNow cX8_forceNow 1 (some .int), .methodLink RX8 144 yX8_openSet, .instanceMethod yX8_openSet, .selects RX8 yX8_openSet yX8_openSet, .code yX8_openSet cX8_openSet 3 (some .int), .methodLink RX8 63 yX8_in, .static yX8_in, .code yX8_in cX8_in 6 (some .boolean)] ++ wsX80)
def wsX8_yard : List Cond := .code yX8_yard cX8_yard 3 (some .int) :: ([.constant RX8 152 (-1000000001), .fieldLink RX8 7 "IceSwayModel" "w" "[I", .constant RX8 83 (-1000000002), .methodLink RX8 149 yX8_isYard, .instanceMethod yX8_isYard, .selects RX8 yX8_isYard yX8_isYard, .initialized RX8, .code yX8_isYard cX8_isYard 2 (some .boolean), .fieldLink RX8 60 "IceSwayModel" "yards" "I", .methodLink RX8 63 yX8_in, .static yX8_in, .code yX8_in cX8_in 6 (some .boolean)] ++ wsX80)
def wsX8_growth : List Cond := .code yX8_growth cX8_growth 4 (some .int) :: ([])
def wsX8_grows : List Cond := .code yX8_grows cX8_grows 3 (some .int) :: ([.constant RX8 152 (-1000000001), .constantLong RX8 153 (30), .fieldLink RX8 7 "IceSwayModel" "w" "[I", .constant RX8 83 (-1000000002), .methodLink RX8 149 yX8_isYard, .instanceMethod yX8_isYard, .selects RX8 yX8_isYard yX8_isYard, .initialized RX8, .code yX8_isYard cX8_isYard 2 (some .boolean), .fieldLink RX8 60 "IceSwayModel" "yards" "I", .methodLink RX8 63 yX8_in, .static yX8_in, .code yX8_in cX8_in 6 (some .boolean), .methodLink RX8 155 yX8_growth, .static yX8_growth, .code yX8_growth cX8_growth 4 (some .int)] ++ wsX80)
def wsX8_shuts : List Cond := .code yX8_shuts cX8_shuts 3 none :: ([.fieldLink RX8 60 "IceSwayModel" "yards" "I", .fieldLink RX8 7 "IceSwayModel" "w" "[I"] ++ wsX80)
def wsX8_nightOf : List Cond := .code yX8_nightOf cX8_nightOf 5 none :: ([.fieldLink RX8 60 "IceSwayModel" "yards" "I", .fieldLink RX8 7 "IceSwayModel" "w" "[I", .methodLink RX8 159 yX8_shuts, .instanceMethod yX8_shuts, .selects RX8 yX8_shuts yX8_shuts, .initialized RX8, .code yX8_shuts cX8_shuts 3 none, .methodLink RX8 155 yX8_growth, .static yX8_growth, .code yX8_growth cX8_growth 4 (some .int)] ++ wsX80)
def wsX8_thawOf : List Cond := .code yX8_thawOf cX8_thawOf 5 none :: ([.fieldLink RX8 60 "IceSwayModel" "yards" "I", .fieldLink RX8 7 "IceSwayModel" "w" "[I", .methodLink RX8 159 yX8_shuts, .instanceMethod yX8_shuts, .selects RX8 yX8_shuts yX8_shuts, .initialized RX8, .code yX8_shuts cX8_shuts 3 none] ++ wsX80)
def wsX8_allIce : List Cond := .code yX8_allIce cX8_allIce 3 (some .int) :: ([.fieldLink RX8 60 "IceSwayModel" "yards" "I", .fieldLink RX8 7 "IceSwayModel" "w" "[I"] ++ wsX80)
def wsX8_night_r1 : List Cond := [Cond.constantLong RX8 153 (30), Cond.constantLong RX8 163 (99), Cond.constant RX8 83 (-1000000002), Cond.fieldLink RX8 7 "IceSwayModel" "w" "[I", Cond.constant RX8 87 (-1000000004), Cond.methodLink RX8 63 yX8_in, Cond.static yX8_in, Cond.initialized RX8, Cond.code yX8_in cX8_in 6 (some .boolean), Cond.methodLink RX8 165 yX8_nightOf, Cond.instanceMethod yX8_nightOf, Cond.selects RX8 yX8_nightOf yX8_nightOf, Cond.code yX8_nightOf cX8_nightOf 5 none, Cond.fieldLink RX8 60 "IceSwayModel" "yards" "I", Cond.methodLink RX8 159 yX8_shuts, Cond.instanceMethod yX8_shuts, Cond.selects RX8 yX8_shuts yX8_shuts, Cond.code yX8_shuts cX8_shuts 3 none, Cond.methodLink RX8 155 yX8_growth, Cond.static yX8_growth, Cond.code yX8_growth cX8_growth 4 (some .int), Cond.methodLink RX8 169 yX8_allIce, Cond.instanceMethod yX8_allIce, Cond.selects RX8 yX8_allIce yX8_allIce]
def wsX8_night_r2 : List Cond := [Cond.code yX8_allIce cX8_allIce 3 (some .int)]
def wsX8_night : List Cond := .code yX8_night cX8_night 4 (some .int) :: ((wsX8_night_r1 ++ wsX8_night_r2) ++ wsX80)
def wsX8_thaw : List Cond := .code yX8_thaw cX8_thaw 2 (some .int) :: ([.constantLong RX8 172 (60), .constant RX8 83 (-1000000002), .fieldLink RX8 7 "IceSwayModel" "w" "[I", .constant RX8 87 (-1000000004), .methodLink RX8 63 yX8_in, .static yX8_in, .initialized RX8, .code yX8_in cX8_in 6 (some .boolean), .methodLink RX8 174 yX8_thawOf, .instanceMethod yX8_thawOf, .selects RX8 yX8_thawOf yX8_thawOf, .code yX8_thawOf cX8_thawOf 5 none, .fieldLink RX8 60 "IceSwayModel" "yards" "I", .methodLink RX8 159 yX8_shuts, .instanceMethod yX8_shuts, .selects RX8 yX8_shuts yX8_shuts, .code yX8_shuts cX8_shuts 3 none, .methodLink RX8 169 yX8_allIce, .instanceMethod yX8_allIce, .selects RX8 yX8_allIce yX8_allIce, .code yX8_allIce cX8_allIce 3 (some .int)] ++ wsX80)
def wsX8_beat : List Cond := .code yX8_beat cX8_beat 2 (some .int) :: ([.constantLong RX8 147 (9), .constant RX8 83 (-1000000002), .fieldLink RX8 7 "IceSwayModel" "w" "[I", .methodLink RX8 63 yX8_in, .static yX8_in, .initialized RX8, .code yX8_in cX8_in 6 (some .boolean), .methodLink RX8 141 yX8_forceNow, .instanceMethod yX8_forceNow, .selects RX8 yX8_forceNow yX8_forceNow, .code yX8_forceNow cX8_forceNow 1 (some .int), .fieldLink RX8 13 "IceSwayModel" "told" "[I", .methodLink RX8 137 yX8_swayOf, .instanceMethod yX8_swayOf, .selects RX8 yX8_swayOf yX8_swayOf, .code yX8_swayOf cX8_swayOf 6 (some .int)] ++ wsX80)
def wsX8_goes : List Cond := .code yX8_goes cX8_goes 8 none :: ([.fieldLink RX8 177 "IceSwayModel" "behind" "I", .fieldLink RX8 180 "IceSwayModel" "minutes" "I", .fieldLink RX8 183 "IceSwayModel" "firstBroken" "I", .fieldLink RX8 60 "IceSwayModel" "yards" "I", .fieldLink RX8 7 "IceSwayModel" "w" "[I", .fieldLink RX8 13 "IceSwayModel" "told" "[I", .fieldLink RX8 33 "IceSwayModel" "behindAt" "[I"] ++ wsX80)
def wsX8_out_r1 : List Cond := [Cond.constant RX8 83 (-1000000002), Cond.fieldLink RX8 60 "IceSwayModel" "yards" "I", Cond.constant RX8 189 (-1000000003), Cond.fieldLink RX8 177 "IceSwayModel" "behind" "I", Cond.methodLink RX8 186 yX8_isTime, Cond.static yX8_isTime, Cond.initialized RX8, Cond.code yX8_isTime cX8_isTime 1 (some .boolean), Cond.constantLong RX8 67 (999), Cond.methodLink RX8 63 yX8_in, Cond.static yX8_in, Cond.code yX8_in cX8_in 6 (some .boolean), Cond.methodLink RX8 141 yX8_forceNow, Cond.instanceMethod yX8_forceNow, Cond.selects RX8 yX8_forceNow yX8_forceNow, Cond.code yX8_forceNow cX8_forceNow 1 (some .int), Cond.fieldLink RX8 13 "IceSwayModel" "told" "[I", Cond.fieldLink RX8 7 "IceSwayModel" "w" "[I", Cond.methodLink RX8 137 yX8_swayOf, Cond.instanceMethod yX8_swayOf, Cond.selects RX8 yX8_swayOf yX8_swayOf, Cond.code yX8_swayOf cX8_swayOf 6 (some .int), Cond.methodLink RX8 190 yX8_goes, Cond.instanceMethod yX8_goes]
def wsX8_out_r2 : List Cond := [Cond.selects RX8 yX8_goes yX8_goes, Cond.code yX8_goes cX8_goes 8 none, Cond.fieldLink RX8 180 "IceSwayModel" "minutes" "I", Cond.fieldLink RX8 183 "IceSwayModel" "firstBroken" "I", Cond.fieldLink RX8 33 "IceSwayModel" "behindAt" "[I"]
def wsX8_out : List Cond := .code yX8_out cX8_out 2 (some .int) :: ((wsX8_out_r1 ++ wsX8_out_r2) ++ wsX80)
def wsX8_draw : List Cond := .code yX8_draw cX8_draw 2 (some .int) :: ([.fieldLink RX8 7 "IceSwayModel" "w" "[I", .constantLong RX8 194 (1103515245), .constantLong RX8 196 (12345), .constantLong RX8 198 (2147483648), .constant RX8 200 (65536)] ++ wsX80)
def wsX8_drift_r1 : List Cond := [Cond.constantLong RX8 163 (99), Cond.constant RX8 83 (-1000000002), Cond.fieldLink RX8 7 "IceSwayModel" "w" "[I", Cond.constant RX8 87 (-1000000004), Cond.methodLink RX8 63 yX8_in, Cond.static yX8_in, Cond.initialized RX8, Cond.code yX8_in cX8_in 6 (some .boolean), Cond.methodLink RX8 201 yX8_draw, Cond.instanceMethod yX8_draw, Cond.selects RX8 yX8_draw yX8_draw, Cond.code yX8_draw cX8_draw 2 (some .int), Cond.constantLong RX8 194 (1103515245), Cond.constantLong RX8 196 (12345), Cond.constantLong RX8 198 (2147483648), Cond.constant RX8 200 (65536), Cond.methodLink RX8 174 yX8_thawOf, Cond.instanceMethod yX8_thawOf, Cond.selects RX8 yX8_thawOf yX8_thawOf, Cond.code yX8_thawOf cX8_thawOf 5 none, Cond.fieldLink RX8 60 "IceSwayModel" "yards" "I", Cond.methodLink RX8 159 yX8_shuts, Cond.instanceMethod yX8_shuts, Cond.selects RX8 yX8_shuts yX8_shuts]
def wsX8_drift_r2 : List Cond := [Cond.code yX8_shuts cX8_shuts 3 none, Cond.methodLink RX8 165 yX8_nightOf, Cond.instanceMethod yX8_nightOf, Cond.selects RX8 yX8_nightOf yX8_nightOf, Cond.code yX8_nightOf cX8_nightOf 5 none, Cond.methodLink RX8 155 yX8_growth, Cond.static yX8_growth, Cond.code yX8_growth cX8_growth 4 (some .int), Cond.methodLink RX8 169 yX8_allIce, Cond.instanceMethod yX8_allIce, Cond.selects RX8 yX8_allIce yX8_allIce, Cond.code yX8_allIce cX8_allIce 3 (some .int)]
def wsX8_drift : List Cond := .code yX8_drift cX8_drift 3 (some .int) :: ((wsX8_drift_r1 ++ wsX8_drift_r2) ++ wsX80)
def wsX8_tries : List Cond := .code yX8_tries cX8_tries 3 none :: ([.methodLink RX8 204 yX8_copy, .instanceMethod yX8_copy, .selects RX8 yX8_copy yX8_copy, .initialized RX8, .code yX8_copy cX8_copy 4 none, .fieldLink RX8 7 "IceSwayModel" "w" "[I", .methodLink RX8 190 yX8_goes, .instanceMethod yX8_goes, .selects RX8 yX8_goes yX8_goes, .code yX8_goes cX8_goes 8 none, .fieldLink RX8 177 "IceSwayModel" "behind" "I", .fieldLink RX8 180 "IceSwayModel" "minutes" "I", .fieldLink RX8 183 "IceSwayModel" "firstBroken" "I", .fieldLink RX8 60 "IceSwayModel" "yards" "I", .fieldLink RX8 13 "IceSwayModel" "told" "[I", .fieldLink RX8 33 "IceSwayModel" "behindAt" "[I"] ++ wsX80)
def wsX8_today_r1 : List Cond := [Cond.constant RX8 83 (-1000000002), Cond.fieldLink RX8 177 "IceSwayModel" "behind" "I", Cond.fieldLink RX8 180 "IceSwayModel" "minutes" "I", Cond.methodLink RX8 186 yX8_isTime, Cond.static yX8_isTime, Cond.initialized RX8, Cond.code yX8_isTime cX8_isTime 1 (some .boolean), Cond.constantLong RX8 67 (999), Cond.methodLink RX8 63 yX8_in, Cond.static yX8_in, Cond.code yX8_in cX8_in 6 (some .boolean), Cond.methodLink RX8 141 yX8_forceNow, Cond.instanceMethod yX8_forceNow, Cond.selects RX8 yX8_forceNow yX8_forceNow, Cond.code yX8_forceNow cX8_forceNow 1 (some .int), Cond.fieldLink RX8 13 "IceSwayModel" "told" "[I", Cond.fieldLink RX8 7 "IceSwayModel" "w" "[I", Cond.methodLink RX8 137 yX8_swayOf, Cond.instanceMethod yX8_swayOf, Cond.selects RX8 yX8_swayOf yX8_swayOf, Cond.code yX8_swayOf cX8_swayOf 6 (some .int), Cond.methodLink RX8 207 yX8_tries, Cond.instanceMethod yX8_tries, Cond.selects RX8 yX8_tries yX8_tries]
def wsX8_today_r2 : List Cond := [Cond.code yX8_tries cX8_tries 3 none, Cond.methodLink RX8 204 yX8_copy, Cond.instanceMethod yX8_copy, Cond.selects RX8 yX8_copy yX8_copy, Cond.code yX8_copy cX8_copy 4 none, Cond.methodLink RX8 190 yX8_goes, Cond.instanceMethod yX8_goes, Cond.selects RX8 yX8_goes yX8_goes, Cond.code yX8_goes cX8_goes 8 none, Cond.fieldLink RX8 183 "IceSwayModel" "firstBroken" "I", Cond.fieldLink RX8 60 "IceSwayModel" "yards" "I", Cond.fieldLink RX8 33 "IceSwayModel" "behindAt" "[I"]
def wsX8_today : List Cond := .code yX8_today cX8_today 3 (some .int) :: ((wsX8_today_r1 ++ wsX8_today_r2) ++ wsX80)
def wsX8_bestBeat : List Cond := .code yX8_bestBeat cX8_bestBeat 3 (some .int) :: ([.fieldLink RX8 13 "IceSwayModel" "told" "[I", .methodLink RX8 137 yX8_swayOf, .instanceMethod yX8_swayOf, .selects RX8 yX8_swayOf yX8_swayOf, .initialized RX8, .code yX8_swayOf cX8_swayOf 6 (some .int)] ++ wsX80)
def wsX8_laggards_r1 : List Cond := [Cond.constant RX8 83 (-1000000002), Cond.fieldLink RX8 13 "IceSwayModel" "told" "[I", Cond.fieldLink RX8 7 "IceSwayModel" "w" "[I", Cond.fieldLink RX8 177 "IceSwayModel" "behind" "I", Cond.fieldLink RX8 60 "IceSwayModel" "yards" "I", Cond.methodLink RX8 186 yX8_isTime, Cond.static yX8_isTime, Cond.initialized RX8, Cond.code yX8_isTime cX8_isTime 1 (some .boolean), Cond.constantLong RX8 67 (999), Cond.methodLink RX8 63 yX8_in, Cond.static yX8_in, Cond.code yX8_in cX8_in 6 (some .boolean), Cond.methodLink RX8 137 yX8_swayOf, Cond.instanceMethod yX8_swayOf, Cond.selects RX8 yX8_swayOf yX8_swayOf, Cond.code yX8_swayOf cX8_swayOf 6 (some .int), Cond.methodLink RX8 207 yX8_tries, Cond.instanceMethod yX8_tries, Cond.selects RX8 yX8_tries yX8_tries, Cond.code yX8_tries cX8_tries 3 none, Cond.methodLink RX8 204 yX8_copy, Cond.instanceMethod yX8_copy, Cond.selects RX8 yX8_copy yX8_copy]
def wsX8_laggards_r2 : List Cond := [Cond.code yX8_copy cX8_copy 4 none, Cond.methodLink RX8 190 yX8_goes, Cond.instanceMethod yX8_goes, Cond.selects RX8 yX8_goes yX8_goes, Cond.code yX8_goes cX8_goes 8 none, Cond.fieldLink RX8 180 "IceSwayModel" "minutes" "I", Cond.fieldLink RX8 183 "IceSwayModel" "firstBroken" "I", Cond.fieldLink RX8 33 "IceSwayModel" "behindAt" "[I"]
def wsX8_laggards : List Cond := .code yX8_laggards cX8_laggards 3 (some .int) :: ((wsX8_laggards_r1 ++ wsX8_laggards_r2) ++ wsX80)
def wsX8_horses_r1 : List Cond := [Cond.constant RX8 83 (-1000000002), Cond.fieldLink RX8 13 "IceSwayModel" "told" "[I", Cond.fieldLink RX8 7 "IceSwayModel" "w" "[I", Cond.fieldLink RX8 177 "IceSwayModel" "behind" "I", Cond.fieldLink RX8 60 "IceSwayModel" "yards" "I", Cond.methodLink RX8 186 yX8_isTime, Cond.static yX8_isTime, Cond.initialized RX8, Cond.code yX8_isTime cX8_isTime 1 (some .boolean), Cond.constantLong RX8 67 (999), Cond.methodLink RX8 63 yX8_in, Cond.static yX8_in, Cond.code yX8_in cX8_in 6 (some .boolean), Cond.methodLink RX8 137 yX8_swayOf, Cond.instanceMethod yX8_swayOf, Cond.selects RX8 yX8_swayOf yX8_swayOf, Cond.code yX8_swayOf cX8_swayOf 6 (some .int), Cond.methodLink RX8 207 yX8_tries, Cond.instanceMethod yX8_tries, Cond.selects RX8 yX8_tries yX8_tries, Cond.code yX8_tries cX8_tries 3 none, Cond.methodLink RX8 204 yX8_copy, Cond.instanceMethod yX8_copy, Cond.selects RX8 yX8_copy yX8_copy]
def wsX8_horses_r2 : List Cond := [Cond.code yX8_copy cX8_copy 4 none, Cond.methodLink RX8 190 yX8_goes, Cond.instanceMethod yX8_goes, Cond.selects RX8 yX8_goes yX8_goes, Cond.code yX8_goes cX8_goes 8 none, Cond.fieldLink RX8 180 "IceSwayModel" "minutes" "I", Cond.fieldLink RX8 183 "IceSwayModel" "firstBroken" "I", Cond.fieldLink RX8 33 "IceSwayModel" "behindAt" "[I"]
def wsX8_horses : List Cond := .code yX8_horses cX8_horses 3 (some .int) :: ((wsX8_horses_r1 ++ wsX8_horses_r2) ++ wsX80)
def wsX8_string_r1 : List Cond := [Cond.constantLong RX8 163 (99), Cond.constant RX8 83 (-1000000002), Cond.fieldLink RX8 183 "IceSwayModel" "firstBroken" "I", Cond.fieldLink RX8 13 "IceSwayModel" "told" "[I", Cond.methodLink RX8 186 yX8_isTime, Cond.static yX8_isTime, Cond.initialized RX8, Cond.code yX8_isTime cX8_isTime 1 (some .boolean), Cond.constantLong RX8 67 (999), Cond.methodLink RX8 63 yX8_in, Cond.static yX8_in, Cond.code yX8_in cX8_in 6 (some .boolean), Cond.methodLink RX8 141 yX8_forceNow, Cond.instanceMethod yX8_forceNow, Cond.selects RX8 yX8_forceNow yX8_forceNow, Cond.code yX8_forceNow cX8_forceNow 1 (some .int), Cond.fieldLink RX8 7 "IceSwayModel" "w" "[I", Cond.methodLink RX8 137 yX8_swayOf, Cond.instanceMethod yX8_swayOf, Cond.selects RX8 yX8_swayOf yX8_swayOf, Cond.code yX8_swayOf cX8_swayOf 6 (some .int), Cond.methodLink RX8 207 yX8_tries, Cond.instanceMethod yX8_tries, Cond.selects RX8 yX8_tries yX8_tries]
def wsX8_string_r2 : List Cond := [Cond.code yX8_tries cX8_tries 3 none, Cond.methodLink RX8 204 yX8_copy, Cond.instanceMethod yX8_copy, Cond.selects RX8 yX8_copy yX8_copy, Cond.code yX8_copy cX8_copy 4 none, Cond.methodLink RX8 190 yX8_goes, Cond.instanceMethod yX8_goes, Cond.selects RX8 yX8_goes yX8_goes, Cond.code yX8_goes cX8_goes 8 none, Cond.fieldLink RX8 177 "IceSwayModel" "behind" "I", Cond.fieldLink RX8 180 "IceSwayModel" "minutes" "I", Cond.fieldLink RX8 60 "IceSwayModel" "yards" "I", Cond.fieldLink RX8 33 "IceSwayModel" "behindAt" "[I"]
def wsX8_string : List Cond := .code yX8_string cX8_string 3 (some .int) :: ((wsX8_string_r1 ++ wsX8_string_r2) ++ wsX80)
def wsX8_turn_r1 : List Cond := [Cond.constant RX8 83 (-1000000002), Cond.fieldLink RX8 177 "IceSwayModel" "behind" "I", Cond.fieldLink RX8 33 "IceSwayModel" "behindAt" "[I", Cond.fieldLink RX8 183 "IceSwayModel" "firstBroken" "I", Cond.fieldLink RX8 13 "IceSwayModel" "told" "[I", Cond.methodLink RX8 186 yX8_isTime, Cond.static yX8_isTime, Cond.initialized RX8, Cond.code yX8_isTime cX8_isTime 1 (some .boolean), Cond.constantLong RX8 67 (999), Cond.methodLink RX8 63 yX8_in, Cond.static yX8_in, Cond.code yX8_in cX8_in 6 (some .boolean), Cond.methodLink RX8 141 yX8_forceNow, Cond.instanceMethod yX8_forceNow, Cond.selects RX8 yX8_forceNow yX8_forceNow, Cond.code yX8_forceNow cX8_forceNow 1 (some .int), Cond.fieldLink RX8 7 "IceSwayModel" "w" "[I", Cond.methodLink RX8 137 yX8_swayOf, Cond.instanceMethod yX8_swayOf, Cond.selects RX8 yX8_swayOf yX8_swayOf, Cond.code yX8_swayOf cX8_swayOf 6 (some .int), Cond.methodLink RX8 207 yX8_tries, Cond.instanceMethod yX8_tries]
def wsX8_turn_r2 : List Cond := [Cond.selects RX8 yX8_tries yX8_tries, Cond.code yX8_tries cX8_tries 3 none, Cond.methodLink RX8 204 yX8_copy, Cond.instanceMethod yX8_copy, Cond.selects RX8 yX8_copy yX8_copy, Cond.code yX8_copy cX8_copy 4 none, Cond.methodLink RX8 190 yX8_goes, Cond.instanceMethod yX8_goes, Cond.selects RX8 yX8_goes yX8_goes, Cond.code yX8_goes cX8_goes 8 none, Cond.fieldLink RX8 180 "IceSwayModel" "minutes" "I", Cond.fieldLink RX8 60 "IceSwayModel" "yards" "I"]
def wsX8_turn : List Cond := .code yX8_turn cX8_turn 7 (some .int) :: ((wsX8_turn_r1 ++ wsX8_turn_r2) ++ wsX80)
def wsX8_costOf_r1 : List Cond := [Cond.fieldLink RX8 13 "IceSwayModel" "told" "[I", Cond.fieldLink RX8 177 "IceSwayModel" "behind" "I", Cond.fieldLink RX8 60 "IceSwayModel" "yards" "I", Cond.methodLink RX8 204 yX8_copy, Cond.instanceMethod yX8_copy, Cond.selects RX8 yX8_copy yX8_copy, Cond.initialized RX8, Cond.code yX8_copy cX8_copy 4 none, Cond.fieldLink RX8 7 "IceSwayModel" "w" "[I", Cond.methodLink RX8 141 yX8_forceNow, Cond.instanceMethod yX8_forceNow, Cond.selects RX8 yX8_forceNow yX8_forceNow, Cond.code yX8_forceNow cX8_forceNow 1 (some .int), Cond.methodLink RX8 137 yX8_swayOf, Cond.instanceMethod yX8_swayOf, Cond.selects RX8 yX8_swayOf yX8_swayOf, Cond.code yX8_swayOf cX8_swayOf 6 (some .int), Cond.methodLink RX8 190 yX8_goes, Cond.instanceMethod yX8_goes, Cond.selects RX8 yX8_goes yX8_goes, Cond.code yX8_goes cX8_goes 8 none, Cond.fieldLink RX8 180 "IceSwayModel" "minutes" "I", Cond.fieldLink RX8 183 "IceSwayModel" "firstBroken" "I", Cond.fieldLink RX8 33 "IceSwayModel" "behindAt" "[I"]
def wsX8_costOf_r2 : List Cond := [Cond.methodLink RX8 165 yX8_nightOf, Cond.instanceMethod yX8_nightOf, Cond.selects RX8 yX8_nightOf yX8_nightOf, Cond.code yX8_nightOf cX8_nightOf 5 none, Cond.methodLink RX8 159 yX8_shuts, Cond.instanceMethod yX8_shuts, Cond.selects RX8 yX8_shuts yX8_shuts, Cond.code yX8_shuts cX8_shuts 3 none, Cond.methodLink RX8 155 yX8_growth, Cond.static yX8_growth, Cond.code yX8_growth cX8_growth 4 (some .int)]
def wsX8_costOf : List Cond := .code yX8_costOf cX8_costOf 9 (some .int) :: ((wsX8_costOf_r1 ++ wsX8_costOf_r2) ++ wsX80)
def wsX8_plan_r1 : List Cond := [Cond.constantLong RX8 210 (8), Cond.constantLong RX8 153 (30), Cond.constant RX8 83 (-1000000002), Cond.fieldLink RX8 60 "IceSwayModel" "yards" "I", Cond.constant RX8 189 (-1000000003), Cond.constant RX8 212 (1000000000), Cond.methodLink RX8 63 yX8_in, Cond.static yX8_in, Cond.initialized RX8, Cond.code yX8_in cX8_in 6 (some .boolean), Cond.methodLink RX8 186 yX8_isTime, Cond.static yX8_isTime, Cond.code yX8_isTime cX8_isTime 1 (some .boolean), Cond.constantLong RX8 67 (999), Cond.methodLink RX8 213 yX8_costOf, Cond.instanceMethod yX8_costOf, Cond.selects RX8 yX8_costOf yX8_costOf, Cond.code yX8_costOf cX8_costOf 9 (some .int), Cond.fieldLink RX8 13 "IceSwayModel" "told" "[I", Cond.fieldLink RX8 177 "IceSwayModel" "behind" "I", Cond.methodLink RX8 204 yX8_copy, Cond.instanceMethod yX8_copy, Cond.selects RX8 yX8_copy yX8_copy, Cond.code yX8_copy cX8_copy 4 none]
def wsX8_plan_r2 : List Cond := [Cond.fieldLink RX8 7 "IceSwayModel" "w" "[I", Cond.methodLink RX8 141 yX8_forceNow, Cond.instanceMethod yX8_forceNow, Cond.selects RX8 yX8_forceNow yX8_forceNow, Cond.code yX8_forceNow cX8_forceNow 1 (some .int), Cond.methodLink RX8 137 yX8_swayOf, Cond.instanceMethod yX8_swayOf, Cond.selects RX8 yX8_swayOf yX8_swayOf, Cond.code yX8_swayOf cX8_swayOf 6 (some .int), Cond.methodLink RX8 190 yX8_goes, Cond.instanceMethod yX8_goes, Cond.selects RX8 yX8_goes yX8_goes, Cond.code yX8_goes cX8_goes 8 none, Cond.fieldLink RX8 180 "IceSwayModel" "minutes" "I", Cond.fieldLink RX8 183 "IceSwayModel" "firstBroken" "I", Cond.fieldLink RX8 33 "IceSwayModel" "behindAt" "[I", Cond.methodLink RX8 165 yX8_nightOf, Cond.instanceMethod yX8_nightOf, Cond.selects RX8 yX8_nightOf yX8_nightOf, Cond.code yX8_nightOf cX8_nightOf 5 none, Cond.methodLink RX8 159 yX8_shuts, Cond.instanceMethod yX8_shuts, Cond.selects RX8 yX8_shuts yX8_shuts, Cond.code yX8_shuts cX8_shuts 3 none]
def wsX8_plan_r3 : List Cond := [Cond.methodLink RX8 155 yX8_growth, Cond.static yX8_growth, Cond.code yX8_growth cX8_growth 4 (some .int)]
def wsX8_plan : List Cond := .code yX8_plan cX8_plan 9 (some .int) :: ((wsX8_plan_r1 ++ (wsX8_plan_r2 ++ wsX8_plan_r3)) ++ wsX80)
def wsX8_lost_r1 : List Cond := [Cond.constantLong RX8 153 (30), Cond.constant RX8 83 (-1000000002), Cond.fieldLink RX8 36 "IceSwayModel" "held" "[I", Cond.fieldLink RX8 7 "IceSwayModel" "w" "[I", Cond.fieldLink RX8 177 "IceSwayModel" "behind" "I", Cond.fieldLink RX8 60 "IceSwayModel" "yards" "I", Cond.methodLink RX8 63 yX8_in, Cond.static yX8_in, Cond.initialized RX8, Cond.code yX8_in cX8_in 6 (some .boolean), Cond.methodLink RX8 186 yX8_isTime, Cond.static yX8_isTime, Cond.code yX8_isTime cX8_isTime 1 (some .boolean), Cond.constantLong RX8 67 (999), Cond.methodLink RX8 141 yX8_forceNow, Cond.instanceMethod yX8_forceNow, Cond.selects RX8 yX8_forceNow yX8_forceNow, Cond.code yX8_forceNow cX8_forceNow 1 (some .int), Cond.fieldLink RX8 13 "IceSwayModel" "told" "[I", Cond.methodLink RX8 137 yX8_swayOf, Cond.instanceMethod yX8_swayOf, Cond.selects RX8 yX8_swayOf yX8_swayOf, Cond.code yX8_swayOf cX8_swayOf 6 (some .int), Cond.methodLink RX8 204 yX8_copy]
def wsX8_lost_r2 : List Cond := [Cond.instanceMethod yX8_copy, Cond.selects RX8 yX8_copy yX8_copy, Cond.code yX8_copy cX8_copy 4 none, Cond.methodLink RX8 190 yX8_goes, Cond.instanceMethod yX8_goes, Cond.selects RX8 yX8_goes yX8_goes, Cond.code yX8_goes cX8_goes 8 none, Cond.fieldLink RX8 180 "IceSwayModel" "minutes" "I", Cond.fieldLink RX8 183 "IceSwayModel" "firstBroken" "I", Cond.fieldLink RX8 33 "IceSwayModel" "behindAt" "[I", Cond.methodLink RX8 165 yX8_nightOf, Cond.instanceMethod yX8_nightOf, Cond.selects RX8 yX8_nightOf yX8_nightOf, Cond.code yX8_nightOf cX8_nightOf 5 none, Cond.methodLink RX8 159 yX8_shuts, Cond.instanceMethod yX8_shuts, Cond.selects RX8 yX8_shuts yX8_shuts, Cond.code yX8_shuts cX8_shuts 3 none, Cond.methodLink RX8 155 yX8_growth, Cond.static yX8_growth, Cond.code yX8_growth cX8_growth 4 (some .int)]
def wsX8_lost : List Cond := .code yX8_lost cX8_lost 6 (some .int) :: ((wsX8_lost_r1 ++ wsX8_lost_r2) ++ wsX80)
def wsX8_odds_r1 : List Cond := [Cond.constantLong RX8 210 (8), Cond.constantLong RX8 153 (30), Cond.constantLong RX8 172 (60), Cond.constantLong RX8 217 (100), Cond.constant RX8 83 (-1000000002), Cond.constantLong RX8 219 (1000000000), Cond.fieldLink RX8 177 "IceSwayModel" "behind" "I", Cond.fieldLink RX8 60 "IceSwayModel" "yards" "I", Cond.methodLink RX8 63 yX8_in, Cond.static yX8_in, Cond.initialized RX8, Cond.code yX8_in cX8_in 6 (some .boolean), Cond.methodLink RX8 186 yX8_isTime, Cond.static yX8_isTime, Cond.code yX8_isTime cX8_isTime 1 (some .boolean), Cond.constantLong RX8 67 (999), Cond.methodLink RX8 141 yX8_forceNow, Cond.instanceMethod yX8_forceNow, Cond.selects RX8 yX8_forceNow yX8_forceNow, Cond.code yX8_forceNow cX8_forceNow 1 (some .int), Cond.fieldLink RX8 13 "IceSwayModel" "told" "[I", Cond.fieldLink RX8 7 "IceSwayModel" "w" "[I", Cond.methodLink RX8 137 yX8_swayOf, Cond.instanceMethod yX8_swayOf]
def wsX8_odds_r2 : List Cond := [Cond.selects RX8 yX8_swayOf yX8_swayOf, Cond.code yX8_swayOf cX8_swayOf 6 (some .int), Cond.methodLink RX8 204 yX8_copy, Cond.instanceMethod yX8_copy, Cond.selects RX8 yX8_copy yX8_copy, Cond.code yX8_copy cX8_copy 4 none, Cond.methodLink RX8 174 yX8_thawOf, Cond.instanceMethod yX8_thawOf, Cond.selects RX8 yX8_thawOf yX8_thawOf, Cond.code yX8_thawOf cX8_thawOf 5 none, Cond.methodLink RX8 159 yX8_shuts, Cond.instanceMethod yX8_shuts, Cond.selects RX8 yX8_shuts yX8_shuts, Cond.code yX8_shuts cX8_shuts 3 none, Cond.methodLink RX8 165 yX8_nightOf, Cond.instanceMethod yX8_nightOf, Cond.selects RX8 yX8_nightOf yX8_nightOf, Cond.code yX8_nightOf cX8_nightOf 5 none, Cond.methodLink RX8 155 yX8_growth, Cond.static yX8_growth, Cond.code yX8_growth cX8_growth 4 (some .int), Cond.methodLink RX8 190 yX8_goes, Cond.instanceMethod yX8_goes, Cond.selects RX8 yX8_goes yX8_goes]
def wsX8_odds_r3 : List Cond := [Cond.code yX8_goes cX8_goes 8 none, Cond.fieldLink RX8 180 "IceSwayModel" "minutes" "I", Cond.fieldLink RX8 183 "IceSwayModel" "firstBroken" "I", Cond.fieldLink RX8 33 "IceSwayModel" "behindAt" "[I"]
def wsX8_odds : List Cond := .code yX8_odds cX8_odds 15 (some .int) :: ((wsX8_odds_r1 ++ (wsX8_odds_r2 ++ wsX8_odds_r3)) ++ wsX80)
def wsX8_noFall : List Cond := .code yX8_noFall cX8_noFall 6 (some .int) :: ([.constantLong RX8 163 (99), .constantLong RX8 221 (1000), .constant RX8 83 (-1000000002), .constantLong RX8 219 (1000000000), .fieldLink RX8 13 "IceSwayModel" "told" "[I", .methodLink RX8 63 yX8_in, .static yX8_in, .initialized RX8, .code yX8_in cX8_in 6 (some .boolean)] ++ wsX80)
def wsX8_bore : List Cond := .code yX8_bore cX8_bore 5 (some .int) :: ([.constant RX8 152 (-1000000001), .constantLong RX8 147 (9), .constantLong RX8 153 (30), .constantLong RX8 223 (300), .constant RX8 83 (-1000000002), .fieldLink RX8 131 "IceSwayModel" "bored" "I", .constant RX8 87 (-1000000004), .fieldLink RX8 39 "IceSwayModel" "boredYard" "[I", .fieldLink RX8 42 "IceSwayModel" "boredNights" "[I", .fieldLink RX8 45 "IceSwayModel" "boredCold" "[I", .fieldLink RX8 48 "IceSwayModel" "boredIce" "[I", .methodLink RX8 149 yX8_isYard, .instanceMethod yX8_isYard, .selects RX8 yX8_isYard yX8_isYard, .initialized RX8, .code yX8_isYard cX8_isYard 2 (some .boolean), .fieldLink RX8 60 "IceSwayModel" "yards" "I", .methodLink RX8 63 yX8_in, .static yX8_in, .code yX8_in cX8_in 6 (some .boolean)] ++ wsX80)
def wsX8_kinds_r1 : List Cond := [Cond.constant RX8 152 (-1000000001), Cond.fieldLink RX8 131 "IceSwayModel" "bored" "I", Cond.fieldLink RX8 39 "IceSwayModel" "boredYard" "[I", Cond.fieldLink RX8 7 "IceSwayModel" "w" "[I", Cond.fieldLink RX8 42 "IceSwayModel" "boredNights" "[I", Cond.fieldLink RX8 45 "IceSwayModel" "boredCold" "[I", Cond.fieldLink RX8 48 "IceSwayModel" "boredIce" "[I", Cond.methodLink RX8 149 yX8_isYard, Cond.instanceMethod yX8_isYard, Cond.selects RX8 yX8_isYard yX8_isYard, Cond.initialized RX8, Cond.code yX8_isYard cX8_isYard 2 (some .boolean), Cond.fieldLink RX8 60 "IceSwayModel" "yards" "I", Cond.methodLink RX8 63 yX8_in, Cond.static yX8_in, Cond.code yX8_in cX8_in 6 (some .boolean), Cond.methodLink RX8 204 yX8_copy, Cond.instanceMethod yX8_copy, Cond.selects RX8 yX8_copy yX8_copy, Cond.code yX8_copy cX8_copy 4 none, Cond.methodLink RX8 165 yX8_nightOf, Cond.instanceMethod yX8_nightOf, Cond.selects RX8 yX8_nightOf yX8_nightOf, Cond.code yX8_nightOf cX8_nightOf 5 none]
def wsX8_kinds_r2 : List Cond := [Cond.methodLink RX8 159 yX8_shuts, Cond.instanceMethod yX8_shuts, Cond.selects RX8 yX8_shuts yX8_shuts, Cond.code yX8_shuts cX8_shuts 3 none, Cond.methodLink RX8 155 yX8_growth, Cond.static yX8_growth, Cond.code yX8_growth cX8_growth 4 (some .int)]
def wsX8_kinds : List Cond := .code yX8_kinds cX8_kinds 7 (some .int) :: ((wsX8_kinds_r1 ++ wsX8_kinds_r2) ++ wsX80)
def wsX8_write : List Cond := .code yX8_write cX8_write 3 (some .int) :: ([.constant RX8 152 (-1000000001), .constantLong RX8 223 (300), .constant RX8 83 (-1000000002), .fieldLink RX8 134 "IceSwayModel" "booked" "I", .constant RX8 87 (-1000000004), .fieldLink RX8 51 "IceSwayModel" "bookYard" "[I", .fieldLink RX8 54 "IceSwayModel" "bookIce" "[I", .methodLink RX8 149 yX8_isYard, .instanceMethod yX8_isYard, .selects RX8 yX8_isYard yX8_isYard, .initialized RX8, .code yX8_isYard cX8_isYard 2 (some .boolean), .fieldLink RX8 60 "IceSwayModel" "yards" "I", .methodLink RX8 63 yX8_in, .static yX8_in, .code yX8_in cX8_in 6 (some .boolean)] ++ wsX80)
def wsX8_tear : List Cond := .code yX8_tear cX8_tear 2 (some .int) :: ([.fieldLink RX8 131 "IceSwayModel" "bored" "I", .fieldLink RX8 134 "IceSwayModel" "booked" "I"] ++ wsX80)
def wsX8_judge : List Cond := .code yX8_judge cX8_judge 2 (some .int) :: ([.fieldLink RX8 134 "IceSwayModel" "booked" "I", .fieldLink RX8 7 "IceSwayModel" "w" "[I", .fieldLink RX8 51 "IceSwayModel" "bookYard" "[I", .fieldLink RX8 54 "IceSwayModel" "bookIce" "[I"] ++ wsX80)
def wsX8_seed : List Cond := .code yX8_seed cX8_seed 3 (some .int) :: ([.constant RX8 83 (-1000000002), .fieldLink RX8 7 "IceSwayModel" "w" "[I"] ++ wsX80)
def wsX8_keep : List Cond := .code yX8_keep cX8_keep 2 (some .int) :: ([.constant RX8 152 (-1000000001), .fieldLink RX8 16 "IceSwayModel" "isKept" "[Z", .methodLink RX8 63 yX8_in, .static yX8_in, .initialized RX8, .code yX8_in cX8_in 6 (some .boolean), .methodLink RX8 204 yX8_copy, .instanceMethod yX8_copy, .selects RX8 yX8_copy yX8_copy, .code yX8_copy cX8_copy 4 none, .fieldLink RX8 7 "IceSwayModel" "w" "[I"] ++ wsX80)
def wsX8_goBack : List Cond := .code yX8_goBack cX8_goBack 2 (some .int) :: ([.constant RX8 152 (-1000000001), .fieldLink RX8 16 "IceSwayModel" "isKept" "[Z", .constant RX8 189 (-1000000003), .methodLink RX8 63 yX8_in, .static yX8_in, .initialized RX8, .code yX8_in cX8_in 6 (some .boolean), .methodLink RX8 204 yX8_copy, .instanceMethod yX8_copy, .selects RX8 yX8_copy yX8_copy, .code yX8_copy cX8_copy 4 none, .fieldLink RX8 7 "IceSwayModel" "w" "[I"] ++ wsX80)
def wsJ9_abs_0f7a4 : List Cond := .code yJ9_abs_0f7a4 cJ9_abs_0f7a4 1 (some .int) :: ([])
def wsJ9_max_7cf53 : List Cond := .code yJ9_max_7cf53 cJ9_max_7cf53 2 (some .int) :: ([])
def wsJ9_min_7cf53 : List Cond := .code yJ9_min_7cf53 cJ9_min_7cf53 2 (some .int) :: ([])
def wsL_law_r1 : List Cond := [Cond.classLink RL 7 RX7, Cond.instantiable RX7 10, Cond.initialized RX7, Cond.classLink RL 10 RX8, Cond.instantiable RX8 28, Cond.initialized RX8, Cond.methodLink RL 9 yX7_init, Cond.instanceMethod yX7_init, Cond.code yX7_init cX7_init 2 none, Cond.methodLink RX7 1 objectInit, Cond.instanceMethod objectInit, Cond.code objectInit ⟨#[0xb1]⟩ 1 none, Cond.classLink RX7 7 RX3, Cond.instantiable RX3 10, Cond.initialized RX3, Cond.fieldLink RX7 10 "IceSway" "text" "LIceSway$Text;", Cond.classLink RX7 16 RX0, Cond.instantiable RX0 1, Cond.initialized RX0, Cond.fieldLink RX7 19 "IceSway" "boat" "LIceSway$Boat;", Cond.classLink RX7 23 RX5, Cond.instantiable RX5 4, Cond.initialized RX5, Cond.fieldLink RX7 26 "IceSway" "now" "LIceSway$Winter;"]
def wsL_law_r2 : List Cond := [Cond.fieldLink RX7 30 "IceSway" "images" "[LIceSway$Winter;", Cond.arrayClass .boolean, Cond.fieldLink RX7 34 "IceSway" "kept" "[Z", Cond.classLink RX7 38 RX1, Cond.instantiable RX1 8, Cond.initialized RX1, Cond.fieldLink RX7 41 "IceSway" "records" "LIceSway$Records;", Cond.classLink RX7 45 RX4, Cond.instantiable RX4 4, Cond.initialized RX4, Cond.fieldLink RX7 48 "IceSway" "trip" "LIceSway$Trip;", Cond.classLink RX7 52 RX6, Cond.instantiable RX6 5, Cond.initialized RX6, Cond.fieldLink RX7 55 "IceSway" "tried" "LIceSway$Yards;", Cond.classLink RX7 59 RX2, Cond.instantiable RX2 14, Cond.initialized RX2, Cond.fieldLink RX7 62 "IceSway" "search" "LIceSway$Search;", Cond.fieldLink RX7 66 "IceSway" "faultPlace" "I", Cond.instanceMethod yX3_init, Cond.code yX3_init cX3_init 1 none, Cond.methodLink RX3 3 objectInit, Cond.arrayClass .int]
def wsL_law_r3 : List Cond := [Cond.fieldLink RX3 11 "IceSway$Text" "letters" "[I", Cond.fieldLink RX3 17 "IceSway$Text" "numbers" "[I", Cond.fieldLink RX3 22 "IceSway$Text" "yardKinds" "[I", Cond.fieldLink RX3 25 "IceSway$Text" "yardIce" "[I", Cond.fieldLink RX3 28 "IceSway$Text" "faultPlace" "I", Cond.methodLink RX7 18 yX0_init, Cond.instanceMethod yX0_init, Cond.code yX0_init cX0_init 2 none, Cond.methodLink RX0 1 objectInit, Cond.fieldLink RX0 9 "IceSway$Boat" "numbers" "[I", Cond.fieldLink RX0 13 "IceSway$Boat" "UNTOLD" "[I", Cond.instanceMethod yX5_init, Cond.code yX5_init cX5_init 1 none, Cond.methodLink RX5 1 objectInit, Cond.classLink RX5 7 RX6, Cond.fieldLink RX5 10 "IceSway$Winter" "yards" "LIceSway$Yards;", Cond.fieldLink RX5 16 "IceSway$Winter" "beat" "I", Cond.instanceMethod yX6_init, Cond.code yX6_init cX6_init 1 none, Cond.methodLink RX6 3 objectInit, Cond.fieldLink RX6 11 "IceSway$Yards" "kind" "[I", Cond.fieldLink RX6 15 "IceSway$Yards" "ice" "[I", Cond.fieldLink RX6 18 "IceSway$Yards" "broken" "[I", Cond.instanceMethod yX1_init]
def wsL_law_r4 : List Cond := [Cond.code yX1_init cX1_init 1 none, Cond.methodLink RX1 3 objectInit, Cond.fieldLink RX1 11 "IceSway$Records" "boredYard" "[I", Cond.fieldLink RX1 15 "IceSway$Records" "boredNights" "[I", Cond.fieldLink RX1 18 "IceSway$Records" "boredCold" "[I", Cond.fieldLink RX1 21 "IceSway$Records" "boredIce" "[I", Cond.fieldLink RX1 24 "IceSway$Records" "entryYard" "[I", Cond.fieldLink RX1 27 "IceSway$Records" "entryIce" "[I", Cond.instanceMethod yX4_init, Cond.code yX4_init cX4_init 1 none, Cond.methodLink RX4 3 objectInit, Cond.fieldLink RX4 11 "IceSway$Trip" "behindAt" "[I", Cond.methodLink RX7 61 yX2_init, Cond.instanceMethod yX2_init, Cond.code yX2_init cX2_init 2 none, Cond.methodLink RX2 3 objectInit, Cond.classLink RX2 9 RX4, Cond.fieldLink RX2 12 "IceSway$Search" "trip" "LIceSway$Trip;", Cond.classLink RX2 18 RX6, Cond.fieldLink RX2 20 "IceSway$Search" "levels" "[LIceSway$Yards;", Cond.methodLink RL 12 yX8_init, Cond.instanceMethod yX8_init, Cond.code yX8_init cX8_init 2 none, Cond.methodLink RX8 1 objectInit]
def wsL_law_r5 : List Cond := [Cond.fieldLink RX8 7 "IceSwayModel" "w" "[I", Cond.fieldLink RX8 13 "IceSwayModel" "told" "[I", Cond.fieldLink RX8 16 "IceSwayModel" "isKept" "[Z", Cond.fieldLink RX8 20 "IceSwayModel" "text" "[I", Cond.fieldLink RX8 23 "IceSwayModel" "faultAt" "I", Cond.fieldLink RX8 27 "IceSwayModel" "readKind" "[I", Cond.fieldLink RX8 30 "IceSwayModel" "readIce" "[I", Cond.fieldLink RX8 33 "IceSwayModel" "behindAt" "[I", Cond.fieldLink RX8 36 "IceSwayModel" "held" "[I", Cond.fieldLink RX8 39 "IceSwayModel" "boredYard" "[I", Cond.fieldLink RX8 42 "IceSwayModel" "boredNights" "[I", Cond.fieldLink RX8 45 "IceSwayModel" "boredCold" "[I", Cond.fieldLink RX8 48 "IceSwayModel" "boredIce" "[I", Cond.fieldLink RX8 51 "IceSwayModel" "bookYard" "[I", Cond.fieldLink RX8 54 "IceSwayModel" "bookIce" "[I", Cond.methodLink RX8 57 yX8_reads, Cond.instanceMethod yX8_reads, Cond.selects RX8 yX8_reads yX8_reads, Cond.code yX8_reads cX8_reads 1 none, Cond.fieldLink RX8 69 "IceSwayModel" "readYards" "I", Cond.fieldLink RX8 72 "IceSwayModel" "seen" "I", Cond.fieldLink RX8 75 "IceSwayModel" "at" "I", Cond.fieldLink RX8 78 "IceSwayModel" "faulty" "I", Cond.methodLink RL 13 yX7_feed]
def wsL_law_r6 : List Cond := [Cond.instanceMethod yX7_feed, Cond.selects RX7 yX7_feed yX7_feed, Cond.code yX7_feed cX7_feed 2 (some .int), Cond.constant RX7 74 (-1000000002), Cond.constant RX7 79 (-1000000004), Cond.fieldLink RX7 84 "IceSway$Text" "length" "I", Cond.methodLink RX7 70 yX7_isOut, Cond.static yX7_isOut, Cond.code yX7_isOut cX7_isOut 3 (some .boolean), Cond.methodLink RX7 75 yX3_isFull, Cond.instanceMethod yX3_isFull, Cond.selects RX3 yX3_isFull yX3_isFull, Cond.code yX3_isFull cX3_isFull 1 (some .boolean), Cond.fieldLink RX3 32 "IceSway$Text" "length" "I", Cond.methodLink RX7 80 yX3_add, Cond.instanceMethod yX3_add, Cond.selects RX3 yX3_add yX3_add, Cond.code yX3_add cX3_add 2 none, Cond.methodLink RX3 35 yX3_isFull, Cond.methodLink RL 17 yX8_feed, Cond.instanceMethod yX8_feed, Cond.selects RX8 yX8_feed yX8_feed, Cond.code yX8_feed cX8_feed 2 (some .int), Cond.constantLong RX8 81 (255)]
def wsL_law_r7 : List Cond := [Cond.constant RX8 83 (-1000000002), Cond.fieldLink RX8 84 "IceSwayModel" "texted" "I", Cond.constant RX8 87 (-1000000004), Cond.methodLink RX8 63 yX8_in, Cond.static yX8_in, Cond.code yX8_in cX8_in 6 (some .boolean), Cond.methodLink RL 18 yX7_cut, Cond.instanceMethod yX7_cut, Cond.selects RX7 yX7_cut yX7_cut, Cond.code yX7_cut cX7_cut 3 (some .int), Cond.fieldLink RX7 90 "IceSway$Text" "faultPlace" "I", Cond.fieldLink RX7 91 "IceSway$Text" "faultNumber" "I", Cond.fieldLink RX7 94 "IceSway$Text" "numbers" "[I", Cond.fieldLink RX7 102 "IceSway$Text" "yardCount" "I", Cond.fieldLink RX7 105 "IceSway$Text" "yardKinds" "[I", Cond.fieldLink RX7 108 "IceSway$Text" "yardIce" "[I", Cond.fieldLink RX7 118 "IceSway$Winter" "yards" "LIceSway$Yards;", Cond.fieldLink RX7 121 "IceSway$Yards" "count" "I", Cond.methodLink RX7 87 yX3_read, Cond.instanceMethod yX3_read, Cond.selects RX3 yX3_read yX3_read, Cond.code yX3_read cX3_read 2 (some .boolean), Cond.fieldLink RX3 39 "IceSway$Text" "place" "I", Cond.fieldLink RX3 42 "IceSway$Text" "clausesSeen" "I"]
def wsL_law_r8 : List Cond := [Cond.fieldLink RX3 45 "IceSway$Text" "yardCount" "I", Cond.fieldLink RX3 48 "IceSway$Text" "faultNumber" "I", Cond.fieldLink RX3 51 "IceSway$Boat" "UNTOLD" "[I", Cond.methodLink RX3 54 yX3_skipBlanks, Cond.instanceMethod yX3_skipBlanks, Cond.selects RX3 yX3_skipBlanks yX3_skipBlanks, Cond.code yX3_skipBlanks cX3_skipBlanks 1 none, Cond.methodLink RX3 57 yX3_isAtEnd, Cond.instanceMethod yX3_isAtEnd, Cond.selects RX3 yX3_isAtEnd yX3_isAtEnd, Cond.code yX3_isAtEnd cX3_isAtEnd 1 (some .boolean), Cond.methodLink RX3 60 yX3_readClause, Cond.instanceMethod yX3_readClause, Cond.selects RX3 yX3_readClause yX3_readClause, Cond.code yX3_readClause cX3_readClause 3 (some .boolean), Cond.methodLink RX3 63 yX3_clauseOf, Cond.static yX3_clauseOf, Cond.code yX3_clauseOf cX3_clauseOf 1 (some .int), Cond.methodLink RX3 67 yX3_failAt, Cond.instanceMethod yX3_failAt, Cond.selects RX3 yX3_failAt yX3_failAt, Cond.code yX3_failAt cX3_failAt 3 (some .boolean), Cond.methodLink RX3 71 yX3_readYards, Cond.instanceMethod yX3_readYards]
def wsL_law_r9 : List Cond := [Cond.selects RX3 yX3_readYards yX3_readYards, Cond.code yX3_readYards cX3_readYards 3 (some .boolean), Cond.methodLink RX3 78 yX3_readYard, Cond.instanceMethod yX3_readYard, Cond.selects RX3 yX3_readYard yX3_readYard, Cond.code yX3_readYard cX3_readYard 4 (some .boolean), Cond.methodLink RX3 84 yX3_readNumber, Cond.instanceMethod yX3_readNumber, Cond.selects RX3 yX3_readNumber yX3_readNumber, Cond.code yX3_readNumber cX3_readNumber 5 (some .int), Cond.methodLink RX3 100 yX3_isFigure, Cond.static yX3_isFigure, Cond.code yX3_isFigure cX3_isFigure 1 (some .boolean), Cond.methodLink RX3 81 yX3_readClauseEnd, Cond.instanceMethod yX3_readClauseEnd, Cond.selects RX3 yX3_readClauseEnd yX3_readClauseEnd, Cond.code yX3_readClauseEnd cX3_readClauseEnd 1 (some .boolean), Cond.methodLink RX3 74 yX3_readNumbers, Cond.instanceMethod yX3_readNumbers, Cond.selects RX3 yX3_readNumbers yX3_readNumbers, Cond.code yX3_readNumbers cX3_readNumbers 4 (some .boolean), Cond.fieldLink RX3 88 "IceSway$Text" "FIRST" "[I", Cond.fieldLink RX3 91 "IceSway$Text" "END" "[I", Cond.fieldLink RX3 94 "IceSway$Boat" "LEAST" "[I"]
def wsL_law_r10 : List Cond := [Cond.fieldLink RX3 97 "IceSway$Boat" "GREATEST" "[I", Cond.methodLink RX7 98 yX0_become, Cond.instanceMethod yX0_become, Cond.selects RX0 yX0_become yX0_become, Cond.code yX0_become cX0_become 3 none, Cond.methodLink RX7 111 yX5_begin, Cond.instanceMethod yX5_begin, Cond.selects RX5 yX5_begin yX5_begin, Cond.code yX5_begin cX5_begin 4 none, Cond.fieldLink RX5 24 "IceSway$Winter" "nights" "I", Cond.methodLink RX5 20 yX6_begin, Cond.instanceMethod yX6_begin, Cond.selects RX6 yX6_begin yX6_begin, Cond.code yX6_begin cX6_begin 5 none, Cond.methodLink RX6 28 Lib.Math.min.name, Cond.static Lib.Math.min.name, Cond.initialized "java/lang/Math", Cond.code Lib.Math.min.name Lib.Math.min.code 2 (some .int), Cond.fieldLink RX6 21 "IceSway$Yards" "count" "I", Cond.fieldLink RX6 25 "IceSway$Yards" "openSet" "I", Cond.methodLink RX7 115 yX1_clearAll, Cond.instanceMethod yX1_clearAll, Cond.selects RX1 yX1_clearAll yX1_clearAll, Cond.code yX1_clearAll cX1_clearAll 1 none]
def wsL_law_r11 : List Cond := [Cond.fieldLink RX1 30 "IceSway$Records" "boredCount" "I", Cond.fieldLink RX1 34 "IceSway$Records" "entryCount" "I", Cond.methodLink RL 22 yX8_cut, Cond.instanceMethod yX8_cut, Cond.selects RX8 yX8_cut yX8_cut, Cond.code yX8_cut cX8_cut 4 (some .int), Cond.fieldLink RX8 60 "IceSwayModel" "yards" "I", Cond.fieldLink RX8 131 "IceSwayModel" "bored" "I", Cond.fieldLink RX8 134 "IceSwayModel" "booked" "I", Cond.methodLink RX8 95 yX8_here, Cond.instanceMethod yX8_here, Cond.selects RX8 yX8_here yX8_here, Cond.code yX8_here cX8_here 1 (some .int), Cond.fieldLink RX8 92 "IceSwayModel" "start" "I", Cond.methodLink RX8 88 yX8_letterAt, Cond.instanceMethod yX8_letterAt, Cond.selects RX8 yX8_letterAt yX8_letterAt, Cond.code yX8_letterAt cX8_letterAt 2 (some .int), Cond.methodLink RX8 128 yX8_takesClause, Cond.instanceMethod yX8_takesClause, Cond.selects RX8 yX8_takesClause yX8_takesClause, Cond.code yX8_takesClause cX8_takesClause 4 (some .boolean), Cond.methodLink RX8 99 yX8_fails, Cond.instanceMethod yX8_fails]
def wsL_law_r12 : List Cond := [Cond.selects RX8 yX8_fails yX8_fails, Cond.code yX8_fails cX8_fails 3 (some .boolean), Cond.methodLink RX8 117 yX8_takesYards, Cond.instanceMethod yX8_takesYards, Cond.selects RX8 yX8_takesYards yX8_takesYards, Cond.code yX8_takesYards cX8_takesYards 2 (some .boolean), Cond.methodLink RX8 113 yX8_takesYard, Cond.instanceMethod yX8_takesYard, Cond.selects RX8 yX8_takesYard yX8_takesYard, Cond.code yX8_takesYard cX8_takesYard 1 (some .boolean), Cond.fieldLink RX8 107 "IceSwayModel" "value" "I", Cond.methodLink RX8 110 yX8_takesNumber, Cond.instanceMethod yX8_takesNumber, Cond.selects RX8 yX8_takesNumber yX8_takesNumber, Cond.code yX8_takesNumber cX8_takesNumber 3 (some .boolean), Cond.constantLong RX8 103 (48), Cond.constantLong RX8 105 (57), Cond.methodLink RX8 120 yX8_tells, Cond.instanceMethod yX8_tells, Cond.selects RX8 yX8_tells yX8_tells, Cond.code yX8_tells cX8_tells 5 (some .boolean), Cond.methodLink RX8 124 yX8_takes, Cond.instanceMethod yX8_takes, Cond.selects RX8 yX8_takes yX8_takes]
def wsL_law_r13 : List Cond := [Cond.code yX8_takes cX8_takes 2 (some .boolean), Cond.methodLink RL 23 yX7_fault, Cond.instanceMethod yX7_fault, Cond.selects RX7 yX7_fault yX7_fault, Cond.code yX7_fault cX7_fault 1 (some .int), Cond.methodLink RL 26 yX8_fault, Cond.instanceMethod yX8_fault, Cond.selects RX8 yX8_fault yX8_fault, Cond.code yX8_fault cX8_fault 1 (some .int), Cond.methodLink RL 27 yX7_told, Cond.instanceMethod yX7_told, Cond.selects RX7 yX7_told yX7_told, Cond.code yX7_told cX7_told 2 (some .int), Cond.fieldLink RX7 124 "IceSway$Boat" "numbers" "[I", Cond.fieldLink RX7 125 "IceSway$Winter" "nights" "I", Cond.fieldLink RX7 128 "IceSway$Winter" "beat" "I", Cond.fieldLink RX7 142 "IceSway$Yards" "openSet" "I", Cond.fieldLink RX7 145 "IceSway$Records" "boredCount" "I", Cond.fieldLink RX7 148 "IceSway$Records" "entryCount" "I", Cond.methodLink RX7 131 yX0_laggardsTold, Cond.instanceMethod yX0_laggardsTold, Cond.selects RX0 yX0_laggardsTold yX0_laggardsTold, Cond.code yX0_laggardsTold cX0_laggardsTold 1 (some .int), Cond.methodLink RX7 135 yX0_swayBy]
def wsL_law_r14 : List Cond := [Cond.instanceMethod yX0_swayBy, Cond.selects RX0 yX0_swayBy yX0_swayBy, Cond.code yX0_swayBy cX0_swayBy 6 (some .int), Cond.methodLink RX0 16 Lib.Math.max.name, Cond.static Lib.Math.max.name, Cond.code Lib.Math.max.name Lib.Math.max.code 2 (some .int), Cond.methodLink RX0 22 Lib.Math.abs.name, Cond.static Lib.Math.abs.name, Cond.code Lib.Math.abs.name Lib.Math.abs.code 1 (some .int), Cond.methodLink RX7 139 yX7_forceNow, Cond.instanceMethod yX7_forceNow, Cond.selects RX7 yX7_forceNow yX7_forceNow, Cond.code yX7_forceNow cX7_forceNow 1 (some .int), Cond.methodLink RX7 197 yX0_forceBy, Cond.instanceMethod yX0_forceBy, Cond.selects RX0 yX0_forceBy yX0_forceBy, Cond.code yX0_forceBy cX0_forceBy 2 (some .int), Cond.methodLink RX0 26 yX0_horsesTold, Cond.instanceMethod yX0_horsesTold, Cond.selects RX0 yX0_horsesTold yX0_horsesTold, Cond.code yX0_horsesTold cX0_horsesTold 1 (some .int), Cond.methodLink RX0 30 yX0_laggardsTold, Cond.methodLink RX0 33 yX0_swayBy, Cond.methodLink RX0 36 yX0_forceOf]
def wsL_law_r15 : List Cond := [Cond.static yX0_forceOf, Cond.code yX0_forceOf cX0_forceOf 2 (some .int), Cond.methodLink RL 30 yX8_told, Cond.instanceMethod yX8_told, Cond.selects RX8 yX8_told yX8_told, Cond.code yX8_told cX8_told 2 (some .int), Cond.constantLong RX8 147 (9), Cond.methodLink RX8 137 yX8_swayOf, Cond.instanceMethod yX8_swayOf, Cond.selects RX8 yX8_swayOf yX8_swayOf, Cond.code yX8_swayOf cX8_swayOf 6 (some .int), Cond.methodLink RX8 141 yX8_forceNow, Cond.instanceMethod yX8_forceNow, Cond.selects RX8 yX8_forceNow yX8_forceNow, Cond.code yX8_forceNow cX8_forceNow 1 (some .int), Cond.methodLink RX8 144 yX8_openSet, Cond.instanceMethod yX8_openSet, Cond.selects RX8 yX8_openSet yX8_openSet, Cond.code yX8_openSet cX8_openSet 3 (some .int), Cond.methodLink RL 31 yX7_yard, Cond.instanceMethod yX7_yard, Cond.selects RX7 yX7_yard yX7_yard, Cond.code yX7_yard cX7_yard 3 (some .int), Cond.constant RX7 155 (-1000000001)]
def wsL_law_r16 : List Cond := [Cond.fieldLink RX7 156 "IceSway$Yards" "kind" "[I", Cond.fieldLink RX7 159 "IceSway$Yards" "ice" "[I", Cond.fieldLink RX7 162 "IceSway$Yards" "broken" "[I", Cond.methodLink RX7 151 yX6_has, Cond.instanceMethod yX6_has, Cond.selects RX6 yX6_has yX6_has, Cond.code yX6_has cX6_has 2 (some .boolean), Cond.methodLink RL 35 yX8_yard, Cond.instanceMethod yX8_yard, Cond.selects RX8 yX8_yard yX8_yard, Cond.code yX8_yard cX8_yard 3 (some .int), Cond.constant RX8 152 (-1000000001), Cond.methodLink RX8 149 yX8_isYard, Cond.instanceMethod yX8_isYard, Cond.selects RX8 yX8_isYard yX8_isYard, Cond.code yX8_isYard cX8_isYard 2 (some .boolean), Cond.methodLink RL 36 yX7_grows, Cond.instanceMethod yX7_grows, Cond.selects RX7 yX7_grows yX7_grows, Cond.code yX7_grows cX7_grows 3 (some .int), Cond.methodLink RX7 165 yX6_growth, Cond.static yX6_growth, Cond.code yX6_growth cX6_growth 5 (some .int), Cond.methodLink RL 39 yX8_grows]
def wsL_law_r17 : List Cond := [Cond.instanceMethod yX8_grows, Cond.selects RX8 yX8_grows yX8_grows, Cond.code yX8_grows cX8_grows 3 (some .int), Cond.constantLong RX8 153 (30), Cond.methodLink RX8 155 yX8_growth, Cond.static yX8_growth, Cond.code yX8_growth cX8_growth 4 (some .int), Cond.methodLink RL 40 yX7_night, Cond.instanceMethod yX7_night, Cond.selects RX7 yX7_night yX7_night, Cond.code yX7_night cX7_night 4 (some .int), Cond.methodLink RX7 169 yX5_passCold, Cond.instanceMethod yX5_passCold, Cond.selects RX5 yX5_passCold yX5_passCold, Cond.code yX5_passCold cX5_passCold 2 none, Cond.methodLink RX5 34 yX6_freeze, Cond.instanceMethod yX6_freeze, Cond.selects RX6 yX6_freeze yX6_freeze, Cond.code yX6_freeze cX6_freeze 3 none, Cond.methodLink RX6 38 yX6_shutOpen, Cond.instanceMethod yX6_shutOpen, Cond.selects RX6 yX6_shutOpen yX6_shutOpen, Cond.code yX6_shutOpen cX6_shutOpen 2 none, Cond.methodLink RX6 47 yX6_isOpen]
def wsL_law_r18 : List Cond := [Cond.instanceMethod yX6_isOpen, Cond.selects RX6 yX6_isOpen yX6_isOpen, Cond.code yX6_isOpen cX6_isOpen 2 (some .boolean), Cond.methodLink RX6 51 yX6_kindOnceShut, Cond.static yX6_kindOnceShut, Cond.code yX6_kindOnceShut cX6_kindOnceShut 1 (some .int), Cond.methodLink RX6 41 yX6_thicker, Cond.static yX6_thicker, Cond.code yX6_thicker cX6_thicker 3 (some .int), Cond.methodLink RX6 34 yX6_growth, Cond.methodLink RX7 172 yX6_iceTogether, Cond.instanceMethod yX6_iceTogether, Cond.selects RX6 yX6_iceTogether yX6_iceTogether, Cond.code yX6_iceTogether cX6_iceTogether 3 (some .int), Cond.methodLink RL 43 yX8_night, Cond.instanceMethod yX8_night, Cond.selects RX8 yX8_night yX8_night, Cond.code yX8_night cX8_night 4 (some .int), Cond.constantLong RX8 163 (99), Cond.methodLink RX8 165 yX8_nightOf, Cond.instanceMethod yX8_nightOf, Cond.selects RX8 yX8_nightOf yX8_nightOf, Cond.code yX8_nightOf cX8_nightOf 5 none, Cond.methodLink RX8 159 yX8_shuts]
def wsL_law_r19 : List Cond := [Cond.instanceMethod yX8_shuts, Cond.selects RX8 yX8_shuts yX8_shuts, Cond.code yX8_shuts cX8_shuts 3 none, Cond.methodLink RX8 169 yX8_allIce, Cond.instanceMethod yX8_allIce, Cond.selects RX8 yX8_allIce yX8_allIce, Cond.code yX8_allIce cX8_allIce 3 (some .int), Cond.methodLink RL 44 yX7_thaw, Cond.instanceMethod yX7_thaw, Cond.selects RX7 yX7_thaw yX7_thaw, Cond.code yX7_thaw cX7_thaw 2 (some .int), Cond.methodLink RX7 175 yX5_passThaw, Cond.instanceMethod yX5_passThaw, Cond.selects RX5 yX5_passThaw yX5_passThaw, Cond.code yX5_passThaw cX5_passThaw 2 none, Cond.methodLink RX5 38 yX6_melt, Cond.instanceMethod yX6_melt, Cond.selects RX6 yX6_melt yX6_melt, Cond.code yX6_melt cX6_melt 3 none, Cond.methodLink RX6 44 Lib.Math.max.name, Cond.methodLink RL 47 yX8_thaw, Cond.instanceMethod yX8_thaw, Cond.selects RX8 yX8_thaw yX8_thaw, Cond.code yX8_thaw cX8_thaw 2 (some .int)]
def wsL_law_r20 : List Cond := [Cond.constantLong RX8 172 (60), Cond.methodLink RX8 174 yX8_thawOf, Cond.instanceMethod yX8_thawOf, Cond.selects RX8 yX8_thawOf yX8_thawOf, Cond.code yX8_thawOf cX8_thawOf 5 none, Cond.methodLink RL 48 yX7_beat, Cond.instanceMethod yX7_beat, Cond.selects RX7 yX7_beat yX7_beat, Cond.code yX7_beat cX7_beat 2 (some .int), Cond.methodLink RL 51 yX8_beat, Cond.instanceMethod yX8_beat, Cond.selects RX8 yX8_beat yX8_beat, Cond.code yX8_beat cX8_beat 2 (some .int), Cond.methodLink RL 52 yX7_out, Cond.instanceMethod yX7_out, Cond.selects RX7 yX7_out yX7_out, Cond.code yX7_out cX7_out 2 (some .int), Cond.constant RX7 181 (-1000000003), Cond.fieldLink RX7 185 "IceSway$Trip" "behind" "I", Cond.methodLink RX7 178 yX7_isOutOfDay, Cond.static yX7_isOutOfDay, Cond.code yX7_isOutOfDay cX7_isOutOfDay 1 (some .boolean), Cond.methodLink RX7 182 yX7_goFromNow, Cond.instanceMethod yX7_goFromNow]
def wsL_law_r21 : List Cond := [Cond.selects RX7 yX7_goFromNow yX7_goFromNow, Cond.code yX7_goFromNow cX7_goFromNow 2 none, Cond.methodLink RX7 207 yX0_axeMinutes, Cond.instanceMethod yX0_axeMinutes, Cond.selects RX0 yX0_axeMinutes yX0_axeMinutes, Cond.code yX0_axeMinutes cX0_axeMinutes 1 (some .int), Cond.methodLink RX7 273 yX4_go, Cond.instanceMethod yX4_go, Cond.selects RX4 yX4_go yX4_go, Cond.code yX4_go cX4_go 7 none, Cond.fieldLink RX4 17 "IceSway$Trip" "behind" "I", Cond.fieldLink RX4 21 "IceSway$Trip" "minutes" "I", Cond.fieldLink RX4 24 "IceSway$Trip" "firstBroken" "I", Cond.fieldLink RX4 27 "IceSway$Yards" "count" "I", Cond.fieldLink RX4 30 "IceSway$Yards" "kind" "[I", Cond.fieldLink RX4 33 "IceSway$Yards" "ice" "[I", Cond.methodLink RX4 36 yX4_minutesThrough, Cond.static yX4_minutesThrough, Cond.code yX4_minutesThrough cX4_minutesThrough 5 (some .int), Cond.methodLink RX7 188 yX6_openFirst, Cond.instanceMethod yX6_openFirst, Cond.selects RX6 yX6_openFirst yX6_openFirst, Cond.code yX6_openFirst cX6_openFirst 3 none, Cond.methodLink RL 55 yX8_out]
def wsL_law_r22 : List Cond := [Cond.instanceMethod yX8_out, Cond.selects RX8 yX8_out yX8_out, Cond.code yX8_out cX8_out 2 (some .int), Cond.constant RX8 189 (-1000000003), Cond.fieldLink RX8 177 "IceSwayModel" "behind" "I", Cond.methodLink RX8 186 yX8_isTime, Cond.static yX8_isTime, Cond.code yX8_isTime cX8_isTime 1 (some .boolean), Cond.constantLong RX8 67 (999), Cond.methodLink RX8 190 yX8_goes, Cond.instanceMethod yX8_goes, Cond.selects RX8 yX8_goes yX8_goes, Cond.code yX8_goes cX8_goes 8 none, Cond.fieldLink RX8 180 "IceSwayModel" "minutes" "I", Cond.fieldLink RX8 183 "IceSwayModel" "firstBroken" "I", Cond.methodLink RL 56 yX7_drift, Cond.instanceMethod yX7_drift, Cond.selects RX7 yX7_drift yX7_drift, Cond.code yX7_drift cX7_drift 3 (some .int), Cond.methodLink RX7 191 yX5_passByDraws, Cond.instanceMethod yX5_passByDraws, Cond.selects RX5 yX5_passByDraws yX5_passByDraws, Cond.code yX5_passByDraws cX5_passByDraws 1 none, Cond.methodLink RX5 41 yX5_draw]
def wsL_law_r23 : List Cond := [Cond.instanceMethod yX5_draw, Cond.selects RX5 yX5_draw yX5_draw, Cond.code yX5_draw cX5_draw 2 (some .int), Cond.fieldLink RX5 31 "IceSway$Winter" "drawSeed" "I", Cond.constantLong RX5 51 (1103515245), Cond.constantLong RX5 53 (12345), Cond.constantLong RX5 55 (2147483647), Cond.constant RX5 57 (65536), Cond.methodLink RX5 45 yX5_passThaw, Cond.methodLink RX5 48 yX5_passCold, Cond.methodLink RL 59 yX8_drift, Cond.instanceMethod yX8_drift, Cond.selects RX8 yX8_drift yX8_drift, Cond.code yX8_drift cX8_drift 3 (some .int), Cond.methodLink RX8 201 yX8_draw, Cond.instanceMethod yX8_draw, Cond.selects RX8 yX8_draw yX8_draw, Cond.code yX8_draw cX8_draw 2 (some .int), Cond.constantLong RX8 194 (1103515245), Cond.constantLong RX8 196 (12345), Cond.constantLong RX8 198 (2147483648), Cond.constant RX8 200 (65536), Cond.methodLink RL 60 yX7_today, Cond.instanceMethod yX7_today]
def wsL_law_r24 : List Cond := [Cond.selects RX7 yX7_today yX7_today, Cond.code yX7_today cX7_today 3 (some .int), Cond.fieldLink RX7 194 "IceSway$Trip" "minutes" "I", Cond.methodLink RL 63 yX8_today, Cond.instanceMethod yX8_today, Cond.selects RX8 yX8_today yX8_today, Cond.code yX8_today cX8_today 3 (some .int), Cond.methodLink RX8 207 yX8_tries, Cond.instanceMethod yX8_tries, Cond.selects RX8 yX8_tries yX8_tries, Cond.code yX8_tries cX8_tries 3 none, Cond.methodLink RX8 204 yX8_copy, Cond.instanceMethod yX8_copy, Cond.selects RX8 yX8_copy yX8_copy, Cond.code yX8_copy cX8_copy 4 none, Cond.methodLink RL 64 yX7_bestBeat, Cond.instanceMethod yX7_bestBeat, Cond.selects RX7 yX7_bestBeat yX7_bestBeat, Cond.code yX7_bestBeat cX7_bestBeat 3 (some .int), Cond.methodLink RL 67 yX8_bestBeat, Cond.instanceMethod yX8_bestBeat, Cond.selects RX8 yX8_bestBeat yX8_bestBeat, Cond.code yX8_bestBeat cX8_bestBeat 3 (some .int), Cond.methodLink RL 68 yX7_laggards]
def wsL_law_r25 : List Cond := [Cond.instanceMethod yX7_laggards, Cond.selects RX7 yX7_laggards yX7_laggards, Cond.code yX7_laggards cX7_laggards 4 (some .int), Cond.methodLink RX7 201 yX0_horsesTold, Cond.methodLink RX7 204 yX0_forceOf, Cond.methodLink RX7 210 yX4_passes, Cond.instanceMethod yX4_passes, Cond.selects RX4 yX4_passes yX4_passes, Cond.code yX4_passes cX4_passes 5 (some .boolean), Cond.methodLink RX4 40 yX4_go, Cond.methodLink RL 71 yX8_laggards, Cond.instanceMethod yX8_laggards, Cond.selects RX8 yX8_laggards yX8_laggards, Cond.code yX8_laggards cX8_laggards 3 (some .int), Cond.methodLink RL 72 yX7_horses, Cond.instanceMethod yX7_horses, Cond.selects RX7 yX7_horses yX7_horses, Cond.code yX7_horses cX7_horses 4 (some .int), Cond.methodLink RL 75 yX8_horses, Cond.instanceMethod yX8_horses, Cond.selects RX8 yX8_horses yX8_horses, Cond.code yX8_horses cX8_horses 3 (some .int), Cond.methodLink RL 76 yX7_string, Cond.instanceMethod yX7_string]
def wsL_law_r26 : List Cond := [Cond.selects RX7 yX7_string yX7_string, Cond.code yX7_string cX7_string 3 (some .int), Cond.fieldLink RX7 214 "IceSway$Trip" "firstBroken" "I", Cond.methodLink RX7 217 yX0_gapMinutes, Cond.instanceMethod yX0_gapMinutes, Cond.selects RX0 yX0_gapMinutes yX0_gapMinutes, Cond.code yX0_gapMinutes cX0_gapMinutes 1 (some .int), Cond.methodLink RL 79 yX8_string, Cond.instanceMethod yX8_string, Cond.selects RX8 yX8_string yX8_string, Cond.code yX8_string cX8_string 3 (some .int), Cond.methodLink RL 80 yX7_turn, Cond.instanceMethod yX7_turn, Cond.selects RX7 yX7_turn yX7_turn, Cond.code yX7_turn cX7_turn 2 (some .int), Cond.methodLink RX7 220 yX4_furthestTurn, Cond.instanceMethod yX4_furthestTurn, Cond.selects RX4 yX4_furthestTurn yX4_furthestTurn, Cond.code yX4_furthestTurn cX4_furthestTurn 4 (some .int), Cond.methodLink RX4 44 yX4_isBackInGap, Cond.instanceMethod yX4_isBackInGap, Cond.selects RX4 yX4_isBackInGap yX4_isBackInGap, Cond.code yX4_isBackInGap cX4_isBackInGap 4 (some .boolean), Cond.methodLink RL 83 yX8_turn]
def wsL_law_r27 : List Cond := [Cond.instanceMethod yX8_turn, Cond.selects RX8 yX8_turn yX8_turn, Cond.code yX8_turn cX8_turn 7 (some .int), Cond.methodLink RL 84 yX7_plan, Cond.instanceMethod yX7_plan, Cond.selects RX7 yX7_plan yX7_plan, Cond.code yX7_plan cX7_plan 5 (some .int), Cond.fieldLink RX7 231 "IceSway$Search" "leastCost" "I", Cond.fieldLink RX7 234 "IceSway$Search" "leastSet" "I", Cond.methodLink RX7 223 yX2_start, Cond.instanceMethod yX2_start, Cond.selects RX2 yX2_start yX2_start, Cond.code yX2_start cX2_start 5 none, Cond.fieldLink RX2 25 "IceSway$Winter" "yards" "LIceSway$Yards;", Cond.methodLink RX2 35 Lib.Math.min.name, Cond.fieldLink RX2 41 "IceSway$Search" "depth" "I", Cond.fieldLink RX2 45 "IceSway$Search" "minutes" "I", Cond.fieldLink RX2 48 "IceSway$Winter" "beat" "I", Cond.fieldLink RX2 57 "IceSway$Search" "force" "I", Cond.fieldLink RX2 64 "IceSway$Search" "axe" "I", Cond.methodLink RX2 31 yX6_copyFrom, Cond.instanceMethod yX6_copyFrom, Cond.selects RX6 yX6_copyFrom yX6_copyFrom, Cond.code yX6_copyFrom cX6_copyFrom 3 none]
def wsL_law_r28 : List Cond := [Cond.methodLink RX2 51 yX0_forceBy, Cond.methodLink RX2 60 yX0_axeMinutes, Cond.methodLink RX7 227 yX2_findPlan, Cond.instanceMethod yX2_findPlan, Cond.selects RX2 yX2_findPlan yX2_findPlan, Cond.code yX2_findPlan cX2_findPlan 3 none, Cond.fieldLink RX2 67 "IceSway$Search" "cold" "I", Cond.fieldLink RX2 73 "IceSway$Search" "coalDays" "I", Cond.fieldLink RX2 78 "IceSway$Search" "dayCost" "I", Cond.fieldLink RX2 83 "IceSway$Search" "wantCost" "I", Cond.constant RX2 87 (2147483647), Cond.fieldLink RX2 88 "IceSway$Search" "leastCost" "I", Cond.fieldLink RX2 91 "IceSway$Search" "leastSet" "I", Cond.methodLink RX2 70 yX0_coalDays, Cond.instanceMethod yX0_coalDays, Cond.selects RX0 yX0_coalDays yX0_coalDays, Cond.code yX0_coalDays cX0_coalDays 1 (some .int), Cond.methodLink RX2 75 yX0_dayCost, Cond.instanceMethod yX0_dayCost, Cond.selects RX0 yX0_dayCost yX0_dayCost, Cond.code yX0_dayCost cX0_dayCost 1 (some .int), Cond.methodLink RX2 80 yX0_wantCost, Cond.instanceMethod yX0_wantCost, Cond.selects RX0 yX0_wantCost yX0_wantCost]
def wsL_law_r29 : List Cond := [Cond.code yX0_wantCost cX0_wantCost 1 (some .int), Cond.methodLink RX2 94 yX2_tryDay, Cond.instanceMethod yX2_tryDay, Cond.selects RX2 yX2_tryDay yX2_tryDay, Cond.code yX2_tryDay cX2_tryDay 11 none, Cond.methodLink RX2 102 Lib.Math.max.name, Cond.fieldLink RX2 113 "IceSway$Trip" "behind" "I", Cond.methodLink RX2 98 yX2_takeIfBetter, Cond.instanceMethod yX2_takeIfBetter, Cond.selects RX2 yX2_takeIfBetter yX2_takeIfBetter, Cond.code yX2_takeIfBetter cX2_takeIfBetter 3 none, Cond.methodLink RX2 105 yX6_freeze, Cond.methodLink RX2 109 yX4_passes, Cond.methodLink RX2 116 yX6_openFirst, Cond.methodLink RL 88 yX8_plan, Cond.instanceMethod yX8_plan, Cond.selects RX8 yX8_plan yX8_plan, Cond.code yX8_plan cX8_plan 9 (some .int), Cond.constantLong RX8 210 (8), Cond.constant RX8 212 (1000000000), Cond.methodLink RX8 213 yX8_costOf, Cond.instanceMethod yX8_costOf, Cond.selects RX8 yX8_costOf yX8_costOf, Cond.code yX8_costOf cX8_costOf 9 (some .int)]
def wsL_law_r30 : List Cond := [Cond.methodLink RL 89 yX7_lost, Cond.instanceMethod yX7_lost, Cond.selects RX7 yX7_lost yX7_lost, Cond.code yX7_lost cX7_lost 5 (some .int), Cond.methodLink RX7 237 yX6_copyFrom, Cond.methodLink RX7 241 yX6_freeze, Cond.methodLink RL 92 yX8_lost, Cond.instanceMethod yX8_lost, Cond.selects RX8 yX8_lost yX8_lost, Cond.code yX8_lost cX8_lost 6 (some .int), Cond.methodLink RL 93 yX7_odds, Cond.instanceMethod yX7_odds, Cond.selects RX7 yX7_odds yX7_odds, Cond.code yX7_odds cX7_odds 6 (some .int), Cond.methodLink RX7 244 yX2_findOdds, Cond.instanceMethod yX2_findOdds, Cond.selects RX2 yX2_findOdds yX2_findOdds, Cond.code yX2_findOdds cX2_findOdds 4 (some .int), Cond.fieldLink RX2 119 "IceSway$Search" "thaw" "I", Cond.fieldLink RX2 122 "IceSway$Search" "percent" "I", Cond.constantLong RX2 125 (1000000000), Cond.methodLink RX2 127 yX2_oddsOf, Cond.instanceMethod yX2_oddsOf, Cond.selects RX2 yX2_oddsOf yX2_oddsOf]
def wsL_law_r31 : List Cond := [Cond.code yX2_oddsOf cX2_oddsOf 9 (some .long), Cond.constantLong RX2 131 (100), Cond.methodLink RX2 133 yX6_melt, Cond.methodLink RL 97 yX8_odds, Cond.instanceMethod yX8_odds, Cond.selects RX8 yX8_odds yX8_odds, Cond.code yX8_odds cX8_odds 15 (some .int), Cond.constantLong RX8 217 (100), Cond.constantLong RX8 219 (1000000000), Cond.methodLink RL 98 yX7_noFall, Cond.instanceMethod yX7_noFall, Cond.selects RX7 yX7_noFall yX7_noFall, Cond.code yX7_noFall cX7_noFall 7 (some .int), Cond.constantLong RX7 247 (1000000000), Cond.constantLong RX7 249 (1000), Cond.methodLink RL 101 yX8_noFall, Cond.instanceMethod yX8_noFall, Cond.selects RX8 yX8_noFall yX8_noFall, Cond.code yX8_noFall cX8_noFall 6 (some .int), Cond.constantLong RX8 221 (1000), Cond.methodLink RL 102 yX7_bore, Cond.instanceMethod yX7_bore, Cond.selects RX7 yX7_bore yX7_bore, Cond.code yX7_bore cX7_bore 5 (some .int)]
def wsL_law_r32 : List Cond := [Cond.methodLink RX7 251 yX1_addBored, Cond.instanceMethod yX1_addBored, Cond.selects RX1 yX1_addBored yX1_addBored, Cond.code yX1_addBored cX1_addBored 5 (some .boolean), Cond.methodLink RL 105 yX8_bore, Cond.instanceMethod yX8_bore, Cond.selects RX8 yX8_bore yX8_bore, Cond.code yX8_bore cX8_bore 5 (some .int), Cond.constantLong RX8 223 (300), Cond.methodLink RL 106 yX7_kinds, Cond.instanceMethod yX7_kinds, Cond.selects RX7 yX7_kinds yX7_kinds, Cond.code yX7_kinds cX7_kinds 4 (some .int), Cond.methodLink RX7 255 yX1_fits, Cond.instanceMethod yX1_fits, Cond.selects RX1 yX1_fits yX1_fits, Cond.code yX1_fits cX1_fits 5 (some .boolean), Cond.methodLink RX1 37 yX6_iceIfOf, Cond.instanceMethod yX6_iceIfOf, Cond.selects RX6 yX6_iceIfOf yX6_iceIfOf, Cond.code yX6_iceIfOf cX6_iceIfOf 8 (some .int), Cond.methodLink RL 109 yX8_kinds, Cond.instanceMethod yX8_kinds, Cond.selects RX8 yX8_kinds yX8_kinds]
def wsL_law_r33 : List Cond := [Cond.code yX8_kinds cX8_kinds 7 (some .int), Cond.methodLink RL 110 yX7_write, Cond.instanceMethod yX7_write, Cond.selects RX7 yX7_write yX7_write, Cond.code yX7_write cX7_write 3 (some .int), Cond.methodLink RX7 259 yX1_addEntry, Cond.instanceMethod yX1_addEntry, Cond.selects RX1 yX1_addEntry yX1_addEntry, Cond.code yX1_addEntry cX1_addEntry 3 (some .boolean), Cond.methodLink RL 113 yX8_write, Cond.instanceMethod yX8_write, Cond.selects RX8 yX8_write yX8_write, Cond.code yX8_write cX8_write 3 (some .int), Cond.methodLink RL 114 yX7_tear, Cond.instanceMethod yX7_tear, Cond.selects RX7 yX7_tear yX7_tear, Cond.code yX7_tear cX7_tear 2 (some .int), Cond.methodLink RL 117 yX8_tear, Cond.instanceMethod yX8_tear, Cond.selects RX8 yX8_tear yX8_tear, Cond.code yX8_tear cX8_tear 2 (some .int), Cond.methodLink RL 118 yX7_judge, Cond.instanceMethod yX7_judge, Cond.selects RX7 yX7_judge yX7_judge]
def wsL_law_r34 : List Cond := [Cond.code yX7_judge cX7_judge 1 (some .int), Cond.methodLink RX7 263 yX1_firstWrong, Cond.instanceMethod yX1_firstWrong, Cond.selects RX1 yX1_firstWrong yX1_firstWrong, Cond.code yX1_firstWrong cX1_firstWrong 4 (some .int), Cond.fieldLink RX1 47 "IceSway$Yards" "ice" "[I", Cond.methodLink RX1 43 yX6_has, Cond.methodLink RL 121 yX8_judge, Cond.instanceMethod yX8_judge, Cond.selects RX8 yX8_judge yX8_judge, Cond.code yX8_judge cX8_judge 2 (some .int), Cond.methodLink RL 122 yX7_seed, Cond.instanceMethod yX7_seed, Cond.selects RX7 yX7_seed yX7_seed, Cond.code yX7_seed cX7_seed 3 (some .int), Cond.fieldLink RX7 267 "IceSway$Winter" "drawSeed" "I", Cond.methodLink RL 125 yX8_seed, Cond.instanceMethod yX8_seed, Cond.selects RX8 yX8_seed yX8_seed, Cond.code yX8_seed cX8_seed 3 (some .int), Cond.methodLink RL 126 yX7_keep, Cond.instanceMethod yX7_keep, Cond.selects RX7 yX7_keep yX7_keep, Cond.code yX7_keep cX7_keep 2 (some .int)]
def wsL_law_r35 : List Cond := [Cond.methodLink RX7 270 yX5_copyFrom, Cond.instanceMethod yX5_copyFrom, Cond.selects RX5 yX5_copyFrom yX5_copyFrom, Cond.code yX5_copyFrom cX5_copyFrom 2 none, Cond.methodLink RX5 27 yX6_copyFrom, Cond.methodLink RL 129 yX8_keep, Cond.instanceMethod yX8_keep, Cond.selects RX8 yX8_keep yX8_keep, Cond.code yX8_keep cX8_keep 2 (some .int), Cond.methodLink RL 130 yX7_goBack, Cond.instanceMethod yX7_goBack, Cond.selects RX7 yX7_goBack yX7_goBack, Cond.code yX7_goBack cX7_goBack 2 (some .int), Cond.methodLink RL 133 yX8_goBack, Cond.instanceMethod yX8_goBack, Cond.selects RX8 yX8_goBack yX8_goBack, Cond.code yX8_goBack cX8_goBack 2 (some .int)]
def wsL_law : List Cond := (wsL_law_r1 ++ (wsL_law_r2 ++ (wsL_law_r3 ++ (wsL_law_r4 ++ (wsL_law_r5 ++ (wsL_law_r6 ++ (wsL_law_r7 ++ (wsL_law_r8 ++ (wsL_law_r9 ++ (wsL_law_r10 ++ (wsL_law_r11 ++ (wsL_law_r12 ++ (wsL_law_r13 ++ (wsL_law_r14 ++ (wsL_law_r15 ++ (wsL_law_r16 ++ (wsL_law_r17 ++ (wsL_law_r18 ++ (wsL_law_r19 ++ (wsL_law_r20 ++ (wsL_law_r21 ++ (wsL_law_r22 ++ (wsL_law_r23 ++ (wsL_law_r24 ++ (wsL_law_r25 ++ (wsL_law_r26 ++ (wsL_law_r27 ++ (wsL_law_r28 ++ (wsL_law_r29 ++ (wsL_law_r30 ++ (wsL_law_r31 ++ (wsL_law_r32 ++ (wsL_law_r33 ++ (wsL_law_r34 ++ wsL_law_r35)))))))))))))))))))))))))))))))))) ++ wsX70 ++ wsX80 ++ wsX30 ++ wsX00 ++ wsX50 ++ wsX10 ++ wsX40 ++ wsX60 ++ wsX20 ++ ([] : List Cond)
theorem inlX0 : ∀ w ∈ wsX00, w ∈ wsL_law := fun _ h => List.mem_append_left _ (List.mem_append_left _ (List.mem_append_left _ (List.mem_append_left _ (List.mem_append_left _ (List.mem_append_left _ (List.mem_append_right _ h))))))
theorem inlX1 : ∀ w ∈ wsX10, w ∈ wsL_law := fun _ h => List.mem_append_left _ (List.mem_append_left _ (List.mem_append_left _ (List.mem_append_left _ (List.mem_append_right _ h))))
theorem inlX2 : ∀ w ∈ wsX20, w ∈ wsL_law := fun _ h => List.mem_append_left _ (List.mem_append_right _ h)
theorem inlX3 : ∀ w ∈ wsX30, w ∈ wsL_law := fun _ h => List.mem_append_left _ (List.mem_append_left _ (List.mem_append_left _ (List.mem_append_left _ (List.mem_append_left _ (List.mem_append_left _ (List.mem_append_left _ (List.mem_append_right _ h)))))))
theorem inlX4 : ∀ w ∈ wsX40, w ∈ wsL_law := fun _ h => List.mem_append_left _ (List.mem_append_left _ (List.mem_append_left _ (List.mem_append_right _ h)))
theorem inlX5 : ∀ w ∈ wsX50, w ∈ wsL_law := fun _ h => List.mem_append_left _ (List.mem_append_left _ (List.mem_append_left _ (List.mem_append_left _ (List.mem_append_left _ (List.mem_append_right _ h)))))
theorem inlX6 : ∀ w ∈ wsX60, w ∈ wsL_law := fun _ h => List.mem_append_left _ (List.mem_append_left _ (List.mem_append_right _ h))
theorem inlX7 : ∀ w ∈ wsX70, w ∈ wsL_law := fun _ h => List.mem_append_left _ (List.mem_append_left _ (List.mem_append_left _ (List.mem_append_left _ (List.mem_append_left _ (List.mem_append_left _ (List.mem_append_left _ (List.mem_append_left _ (List.mem_append_left _ (List.mem_append_right _ h)))))))))
theorem inlX8 : ∀ w ∈ wsX80, w ∈ wsL_law := fun _ h => List.mem_append_left _ (List.mem_append_left _ (List.mem_append_left _ (List.mem_append_left _ (List.mem_append_left _ (List.mem_append_left _ (List.mem_append_left _ (List.mem_append_left _ (List.mem_append_right _ h))))))))
abbrev vwCl : List vw_C := [(RX0, TX0, 1), (RX1, TX1, 8), (RX2, TX2, 14), (RX3, TX3, 10), (RX4, TX4, 4), (RX5, TX5, 4), (RX6, TX6, 5), (RX7, TX7, 10), (RX8, TX8, 28)]
end
section
theorem dX0_init_0 : decode cX0_init 0 = .ok (.aload_n 0, 1) := by decide +kernel
theorem dX0_init_1 : decode cX0_init 1 = .ok (.invokespecial 1, 3) := by decide +kernel
theorem dX0_init_4 : decode cX0_init 4 = .ok (.aload_n 0, 1) := by decide +kernel
theorem dX0_init_5 : decode cX0_init 5 = .ok (.bipush 9, 2) := by decide +kernel
theorem dX0_init_7 : decode cX0_init 7 = .ok (.newarray .int, 2) := by decide +kernel
theorem dX0_init_9 : decode cX0_init 9 = .ok (.putfield 9, 3) := by decide +kernel
theorem dX0_init_12 : decode cX0_init 12 = .ok (.iconst 0, 1) := by decide +kernel
theorem dX0_init_13 : decode cX0_init 13 = .ok (.istore_n 1, 1) := by decide +kernel
theorem dX0_init_14 : decode cX0_init 14 = .ok (.iload_n 1, 1) := by decide +kernel
theorem dX0_init_15 : decode cX0_init 15 = .ok (.bipush 9, 2) := by decide +kernel
theorem dX0_init_17 : decode cX0_init 17 = .ok (.if_icmp .ge 20, 3) := by decide +kernel
theorem dX0_init_20 : decode cX0_init 20 = .ok (.aload_n 0, 1) := by decide +kernel
theorem dX0_init_21 : decode cX0_init 21 = .ok (.getfield 9, 3) := by decide +kernel
theorem dX0_init_24 : decode cX0_init 24 = .ok (.iload_n 1, 1) := by decide +kernel
theorem dX0_init_25 : decode cX0_init 25 = .ok (.getstatic 13, 3) := by decide +kernel
theorem dX0_init_28 : decode cX0_init 28 = .ok (.iload_n 1, 1) := by decide +kernel
theorem dX0_init_29 : decode cX0_init 29 = .ok (.iaload, 1) := by decide +kernel
theorem dX0_init_30 : decode cX0_init 30 = .ok (.iastore, 1) := by decide +kernel
theorem dX0_init_31 : decode cX0_init 31 = .ok (.iinc 1 1, 3) := by decide +kernel
theorem dX0_init_34 : decode cX0_init 34 = .ok (.goto (-20), 3) := by decide +kernel
theorem dX0_init_37 : decode cX0_init 37 = .ok (.return_, 1) := by decide +kernel
theorem dX0_become_0 : decode cX0_become 0 = .ok (.iconst 0, 1) := by decide +kernel
theorem dX0_become_1 : decode cX0_become 1 = .ok (.istore_n 2, 1) := by decide +kernel
theorem dX0_become_2 : decode cX0_become 2 = .ok (.iload_n 2, 1) := by decide +kernel
theorem dX0_become_3 : decode cX0_become 3 = .ok (.bipush 9, 2) := by decide +kernel
theorem dX0_become_5 : decode cX0_become 5 = .ok (.if_icmp .ge 18, 3) := by decide +kernel
theorem dX0_become_8 : decode cX0_become 8 = .ok (.aload_n 0, 1) := by decide +kernel
theorem dX0_become_9 : decode cX0_become 9 = .ok (.getfield 9, 3) := by decide +kernel
theorem dX0_become_12 : decode cX0_become 12 = .ok (.iload_n 2, 1) := by decide +kernel
theorem dX0_become_13 : decode cX0_become 13 = .ok (.aload_n 1, 1) := by decide +kernel
theorem dX0_become_14 : decode cX0_become 14 = .ok (.iload_n 2, 1) := by decide +kernel
theorem dX0_become_15 : decode cX0_become 15 = .ok (.iaload, 1) := by decide +kernel
theorem dX0_become_16 : decode cX0_become 16 = .ok (.iastore, 1) := by decide +kernel
theorem dX0_become_17 : decode cX0_become 17 = .ok (.iinc 2 1, 3) := by decide +kernel
theorem dX0_become_20 : decode cX0_become 20 = .ok (.goto (-18), 3) := by decide +kernel
theorem dX0_become_23 : decode cX0_become 23 = .ok (.return_, 1) := by decide +kernel
theorem dX0_horsesTold_0 : decode cX0_horsesTold 0 = .ok (.aload_n 0, 1) := by decide +kernel
theorem dX0_horsesTold_1 : decode cX0_horsesTold 1 = .ok (.getfield 9, 3) := by decide +kernel
theorem dX0_horsesTold_4 : decode cX0_horsesTold 4 = .ok (.iconst 0, 1) := by decide +kernel
theorem dX0_horsesTold_5 : decode cX0_horsesTold 5 = .ok (.iaload, 1) := by decide +kernel
theorem dX0_horsesTold_6 : decode cX0_horsesTold 6 = .ok (.ireturn, 1) := by decide +kernel
theorem dX0_laggardsTold_0 : decode cX0_laggardsTold 0 = .ok (.aload_n 0, 1) := by decide +kernel
theorem dX0_laggardsTold_1 : decode cX0_laggardsTold 1 = .ok (.getfield 9, 3) := by decide +kernel
theorem dX0_laggardsTold_4 : decode cX0_laggardsTold 4 = .ok (.iconst 3, 1) := by decide +kernel
theorem dX0_laggardsTold_5 : decode cX0_laggardsTold 5 = .ok (.iaload, 1) := by decide +kernel
theorem dX0_laggardsTold_6 : decode cX0_laggardsTold 6 = .ok (.ireturn, 1) := by decide +kernel
theorem dX0_gapMinutes_0 : decode cX0_gapMinutes 0 = .ok (.aload_n 0, 1) := by decide +kernel
theorem dX0_gapMinutes_1 : decode cX0_gapMinutes 1 = .ok (.getfield 9, 3) := by decide +kernel
theorem dX0_gapMinutes_4 : decode cX0_gapMinutes 4 = .ok (.iconst 4, 1) := by decide +kernel
theorem dX0_gapMinutes_5 : decode cX0_gapMinutes 5 = .ok (.iaload, 1) := by decide +kernel
theorem dX0_gapMinutes_6 : decode cX0_gapMinutes 6 = .ok (.ireturn, 1) := by decide +kernel
theorem dX0_axeMinutes_0 : decode cX0_axeMinutes 0 = .ok (.aload_n 0, 1) := by decide +kernel
theorem dX0_axeMinutes_1 : decode cX0_axeMinutes 1 = .ok (.getfield 9, 3) := by decide +kernel
theorem dX0_axeMinutes_4 : decode cX0_axeMinutes 4 = .ok (.iconst 5, 1) := by decide +kernel
theorem dX0_axeMinutes_5 : decode cX0_axeMinutes 5 = .ok (.iaload, 1) := by decide +kernel
theorem dX0_axeMinutes_6 : decode cX0_axeMinutes 6 = .ok (.ireturn, 1) := by decide +kernel
theorem dX0_coalDays_0 : decode cX0_coalDays 0 = .ok (.aload_n 0, 1) := by decide +kernel
theorem dX0_coalDays_1 : decode cX0_coalDays 1 = .ok (.getfield 9, 3) := by decide +kernel
theorem dX0_coalDays_4 : decode cX0_coalDays 4 = .ok (.bipush 6, 2) := by decide +kernel
theorem dX0_coalDays_6 : decode cX0_coalDays 6 = .ok (.iaload, 1) := by decide +kernel
theorem dX0_coalDays_7 : decode cX0_coalDays 7 = .ok (.ireturn, 1) := by decide +kernel
theorem dX0_dayCost_0 : decode cX0_dayCost 0 = .ok (.aload_n 0, 1) := by decide +kernel
theorem dX0_dayCost_1 : decode cX0_dayCost 1 = .ok (.getfield 9, 3) := by decide +kernel
theorem dX0_dayCost_4 : decode cX0_dayCost 4 = .ok (.bipush 7, 2) := by decide +kernel
theorem dX0_dayCost_6 : decode cX0_dayCost 6 = .ok (.iaload, 1) := by decide +kernel
theorem dX0_dayCost_7 : decode cX0_dayCost 7 = .ok (.ireturn, 1) := by decide +kernel
theorem dX0_wantCost_0 : decode cX0_wantCost 0 = .ok (.aload_n 0, 1) := by decide +kernel
theorem dX0_wantCost_1 : decode cX0_wantCost 1 = .ok (.getfield 9, 3) := by decide +kernel
theorem dX0_wantCost_4 : decode cX0_wantCost 4 = .ok (.bipush 8, 2) := by decide +kernel
theorem dX0_wantCost_6 : decode cX0_wantCost 6 = .ok (.iaload, 1) := by decide +kernel
theorem dX0_wantCost_7 : decode cX0_wantCost 7 = .ok (.ireturn, 1) := by decide +kernel
theorem dX0_swayBy_0 : decode cX0_swayBy 0 = .ok (.iconst 0, 1) := by decide +kernel
theorem dX0_swayBy_1 : decode cX0_swayBy 1 = .ok (.aload_n 0, 1) := by decide +kernel
theorem dX0_swayBy_2 : decode cX0_swayBy 2 = .ok (.getfield 9, 3) := by decide +kernel
theorem dX0_swayBy_5 : decode cX0_swayBy 5 = .ok (.iconst 1, 1) := by decide +kernel
theorem dX0_swayBy_6 : decode cX0_swayBy 6 = .ok (.iaload, 1) := by decide +kernel
theorem dX0_swayBy_7 : decode cX0_swayBy 7 = .ok (.iload_n 2, 1) := by decide +kernel
theorem dX0_swayBy_8 : decode cX0_swayBy 8 = .ok (.isub, 1) := by decide +kernel
theorem dX0_swayBy_9 : decode cX0_swayBy 9 = .ok (.invokestatic 16, 3) := by decide +kernel
theorem dX0_swayBy_12 : decode cX0_swayBy 12 = .ok (.istore_n 3, 1) := by decide +kernel
theorem dX0_swayBy_13 : decode cX0_swayBy 13 = .ok (.iload_n 1, 1) := by decide +kernel
theorem dX0_swayBy_14 : decode cX0_swayBy 14 = .ok (.aload_n 0, 1) := by decide +kernel
theorem dX0_swayBy_15 : decode cX0_swayBy 15 = .ok (.getfield 9, 3) := by decide +kernel
theorem dX0_swayBy_18 : decode cX0_swayBy 18 = .ok (.iconst 2, 1) := by decide +kernel
theorem dX0_swayBy_19 : decode cX0_swayBy 19 = .ok (.iaload, 1) := by decide +kernel
theorem dX0_swayBy_20 : decode cX0_swayBy 20 = .ok (.isub, 1) := by decide +kernel
theorem dX0_swayBy_21 : decode cX0_swayBy 21 = .ok (.invokestatic 22, 3) := by decide +kernel
theorem dX0_swayBy_24 : decode cX0_swayBy 24 = .ok (.istore 4, 2) := by decide +kernel
theorem dX0_swayBy_26 : decode cX0_swayBy 26 = .ok (.iload_n 3, 1) := by decide +kernel
theorem dX0_swayBy_27 : decode cX0_swayBy 27 = .ok (.iconst 3, 1) := by decide +kernel
theorem dX0_swayBy_28 : decode cX0_swayBy 28 = .ok (.idiv, 1) := by decide +kernel
theorem dX0_swayBy_29 : decode cX0_swayBy 29 = .ok (.istore 5, 2) := by decide +kernel
theorem dX0_swayBy_31 : decode cX0_swayBy 31 = .ok (.iload 4, 2) := by decide +kernel
theorem dX0_swayBy_33 : decode cX0_swayBy 33 = .ok (.ifCond .ne 11, 3) := by decide +kernel
theorem dX0_swayBy_36 : decode cX0_swayBy 36 = .ok (.iconst 3, 1) := by decide +kernel
theorem dX0_swayBy_37 : decode cX0_swayBy 37 = .ok (.iload_n 3, 1) := by decide +kernel
theorem dX0_swayBy_38 : decode cX0_swayBy 38 = .ok (.imul, 1) := by decide +kernel
theorem dX0_swayBy_39 : decode cX0_swayBy 39 = .ok (.istore 5, 2) := by decide +kernel
theorem dX0_swayBy_41 : decode cX0_swayBy 41 = .ok (.goto 12, 3) := by decide +kernel
theorem dX0_swayBy_44 : decode cX0_swayBy 44 = .ok (.iload 4, 2) := by decide +kernel
theorem dX0_swayBy_46 : decode cX0_swayBy 46 = .ok (.iconst 1, 1) := by decide +kernel
theorem dX0_swayBy_47 : decode cX0_swayBy 47 = .ok (.if_icmp .ne 6, 3) := by decide +kernel
theorem dX0_swayBy_50 : decode cX0_swayBy 50 = .ok (.iload_n 3, 1) := by decide +kernel
theorem dX0_swayBy_51 : decode cX0_swayBy 51 = .ok (.istore 5, 2) := by decide +kernel
theorem dX0_swayBy_53 : decode cX0_swayBy 53 = .ok (.iconst 0, 1) := by decide +kernel
theorem dX0_swayBy_54 : decode cX0_swayBy 54 = .ok (.iload 5, 2) := by decide +kernel
theorem dX0_swayBy_56 : decode cX0_swayBy 56 = .ok (.iconst 2, 1) := by decide +kernel
theorem dX0_swayBy_57 : decode cX0_swayBy 57 = .ok (.iload_n 2, 1) := by decide +kernel
theorem dX0_swayBy_58 : decode cX0_swayBy 58 = .ok (.imul, 1) := by decide +kernel
theorem dX0_swayBy_59 : decode cX0_swayBy 59 = .ok (.isub, 1) := by decide +kernel
theorem dX0_swayBy_60 : decode cX0_swayBy 60 = .ok (.invokestatic 16, 3) := by decide +kernel
theorem dX0_swayBy_63 : decode cX0_swayBy 63 = .ok (.ireturn, 1) := by decide +kernel
set_option maxRecDepth 20000 in
theorem ggX0_forceBy_X0_horsesTold : GoodIn wsX0_forceBy wsX0_horsesTold := goodIn_r _ [5, 6, 25] (by decide +kernel) (by decide +kernel)
set_option maxRecDepth 20000 in
theorem gX0_forceBy_X0_horsesTold : GoodIn wsX0_forceBy (wsV RX0 26 RX0 yX0_horsesTold wsX0_horsesTold) := goodIn_app (goodIn_of _ (by decide +kernel)) ggX0_forceBy_X0_horsesTold
set_option maxRecDepth 20000 in
theorem ggX0_forceBy_X0_laggardsTold : GoodIn wsX0_forceBy wsX0_laggardsTold := goodIn_r _ [10, 6, 25] (by decide +kernel) (by decide +kernel)
set_option maxRecDepth 20000 in
theorem gX0_forceBy_X0_laggardsTold : GoodIn wsX0_forceBy (wsV RX0 30 RX0 yX0_laggardsTold wsX0_laggardsTold) := goodIn_app (goodIn_of _ (by decide +kernel)) ggX0_forceBy_X0_laggardsTold
set_option maxRecDepth 20000 in
theorem ggX0_forceBy_X0_swayBy : GoodIn wsX0_forceBy wsX0_swayBy := goodIn_r _ [14, 6, 15, 16, 17, 18, 19, 20, 21, 25] (by decide +kernel) (by decide +kernel)
set_option maxRecDepth 20000 in
theorem gX0_forceBy_X0_swayBy : GoodIn wsX0_forceBy (wsV RX0 33 RX0 yX0_swayBy wsX0_swayBy) := goodIn_app (goodIn_of _ (by decide +kernel)) ggX0_forceBy_X0_swayBy
set_option maxRecDepth 20000 in
theorem ggX0_forceBy_X0_forceOf : GoodIn wsX0_forceBy wsX0_forceOf := goodIn_r _ [24] (by decide +kernel) (by decide +kernel)
set_option maxRecDepth 20000 in
theorem gX0_forceBy_X0_forceOf : GoodIn wsX0_forceBy (va_wsS RX0 36 yX0_forceOf wsX0_forceOf) := goodIn_app (goodIn_of _ (by decide +kernel)) ggX0_forceBy_X0_forceOf
theorem dX0_forceBy_0 : decode cX0_forceBy 0 = .ok (.aload_n 0, 1) := by decide +kernel
theorem dX0_forceBy_1 : decode cX0_forceBy 1 = .ok (.invokevirtual 26, 3) := by decide +kernel
theorem dX0_forceBy_4 : decode cX0_forceBy 4 = .ok (.aload_n 0, 1) := by decide +kernel
theorem dX0_forceBy_5 : decode cX0_forceBy 5 = .ok (.iload_n 1, 1) := by decide +kernel
theorem dX0_forceBy_6 : decode cX0_forceBy 6 = .ok (.aload_n 0, 1) := by decide +kernel
theorem dX0_forceBy_7 : decode cX0_forceBy 7 = .ok (.invokevirtual 30, 3) := by decide +kernel
theorem dX0_forceBy_10 : decode cX0_forceBy 10 = .ok (.invokevirtual 33, 3) := by decide +kernel
theorem dX0_forceBy_13 : decode cX0_forceBy 13 = .ok (.invokestatic 36, 3) := by decide +kernel
theorem dX0_forceBy_16 : decode cX0_forceBy 16 = .ok (.ireturn, 1) := by decide +kernel
theorem dX0_forceOf_0 : decode cX0_forceOf 0 = .ok (.iconst 4, 1) := by decide +kernel
theorem dX0_forceOf_1 : decode cX0_forceOf 1 = .ok (.iload_n 0, 1) := by decide +kernel
theorem dX0_forceOf_2 : decode cX0_forceOf 2 = .ok (.imul, 1) := by decide +kernel
theorem dX0_forceOf_3 : decode cX0_forceOf 3 = .ok (.iload_n 1, 1) := by decide +kernel
theorem dX0_forceOf_4 : decode cX0_forceOf 4 = .ok (.iadd, 1) := by decide +kernel
theorem dX0_forceOf_5 : decode cX0_forceOf 5 = .ok (.ireturn, 1) := by decide +kernel
theorem dX1_init_0 : decode cX1_init 0 = .ok (.aload_n 0, 1) := by decide +kernel
theorem dX1_init_1 : decode cX1_init 1 = .ok (.invokespecial 3, 3) := by decide +kernel
theorem dX1_init_4 : decode cX1_init 4 = .ok (.aload_n 0, 1) := by decide +kernel
theorem dX1_init_5 : decode cX1_init 5 = .ok (.bipush 10, 2) := by decide +kernel
theorem dX1_init_7 : decode cX1_init 7 = .ok (.newarray .int, 2) := by decide +kernel
theorem dX1_init_9 : decode cX1_init 9 = .ok (.putfield 11, 3) := by decide +kernel
theorem dX1_init_12 : decode cX1_init 12 = .ok (.aload_n 0, 1) := by decide +kernel
theorem dX1_init_13 : decode cX1_init 13 = .ok (.bipush 10, 2) := by decide +kernel
theorem dX1_init_15 : decode cX1_init 15 = .ok (.newarray .int, 2) := by decide +kernel
theorem dX1_init_17 : decode cX1_init 17 = .ok (.putfield 15, 3) := by decide +kernel
theorem dX1_init_20 : decode cX1_init 20 = .ok (.aload_n 0, 1) := by decide +kernel
theorem dX1_init_21 : decode cX1_init 21 = .ok (.bipush 10, 2) := by decide +kernel
theorem dX1_init_23 : decode cX1_init 23 = .ok (.newarray .int, 2) := by decide +kernel
theorem dX1_init_25 : decode cX1_init 25 = .ok (.putfield 18, 3) := by decide +kernel
theorem dX1_init_28 : decode cX1_init 28 = .ok (.aload_n 0, 1) := by decide +kernel
theorem dX1_init_29 : decode cX1_init 29 = .ok (.bipush 10, 2) := by decide +kernel
theorem dX1_init_31 : decode cX1_init 31 = .ok (.newarray .int, 2) := by decide +kernel
theorem dX1_init_33 : decode cX1_init 33 = .ok (.putfield 21, 3) := by decide +kernel
theorem dX1_init_36 : decode cX1_init 36 = .ok (.aload_n 0, 1) := by decide +kernel
theorem dX1_init_37 : decode cX1_init 37 = .ok (.bipush 15, 2) := by decide +kernel
theorem dX1_init_39 : decode cX1_init 39 = .ok (.newarray .int, 2) := by decide +kernel
theorem dX1_init_41 : decode cX1_init 41 = .ok (.putfield 24, 3) := by decide +kernel
theorem dX1_init_44 : decode cX1_init 44 = .ok (.aload_n 0, 1) := by decide +kernel
theorem dX1_init_45 : decode cX1_init 45 = .ok (.bipush 15, 2) := by decide +kernel
theorem dX1_init_47 : decode cX1_init 47 = .ok (.newarray .int, 2) := by decide +kernel
theorem dX1_init_49 : decode cX1_init 49 = .ok (.putfield 27, 3) := by decide +kernel
theorem dX1_init_52 : decode cX1_init 52 = .ok (.return_, 1) := by decide +kernel
theorem dX1_clearAll_0 : decode cX1_clearAll 0 = .ok (.aload_n 0, 1) := by decide +kernel
theorem dX1_clearAll_1 : decode cX1_clearAll 1 = .ok (.iconst 0, 1) := by decide +kernel
theorem dX1_clearAll_2 : decode cX1_clearAll 2 = .ok (.putfield 30, 3) := by decide +kernel
theorem dX1_clearAll_5 : decode cX1_clearAll 5 = .ok (.aload_n 0, 1) := by decide +kernel
theorem dX1_clearAll_6 : decode cX1_clearAll 6 = .ok (.iconst 0, 1) := by decide +kernel
theorem dX1_clearAll_7 : decode cX1_clearAll 7 = .ok (.putfield 34, 3) := by decide +kernel
theorem dX1_clearAll_10 : decode cX1_clearAll 10 = .ok (.return_, 1) := by decide +kernel
theorem dX1_addBored_0 : decode cX1_addBored 0 = .ok (.aload_n 0, 1) := by decide +kernel
theorem dX1_addBored_1 : decode cX1_addBored 1 = .ok (.getfield 30, 3) := by decide +kernel
theorem dX1_addBored_4 : decode cX1_addBored 4 = .ok (.bipush 10, 2) := by decide +kernel
theorem dX1_addBored_6 : decode cX1_addBored 6 = .ok (.if_icmp .lt 5, 3) := by decide +kernel
theorem dX1_addBored_9 : decode cX1_addBored 9 = .ok (.iconst 0, 1) := by decide +kernel
theorem dX1_addBored_10 : decode cX1_addBored 10 = .ok (.ireturn, 1) := by decide +kernel
theorem dX1_addBored_11 : decode cX1_addBored 11 = .ok (.aload_n 0, 1) := by decide +kernel
theorem dX1_addBored_12 : decode cX1_addBored 12 = .ok (.getfield 11, 3) := by decide +kernel
theorem dX1_addBored_15 : decode cX1_addBored 15 = .ok (.aload_n 0, 1) := by decide +kernel
theorem dX1_addBored_16 : decode cX1_addBored 16 = .ok (.getfield 30, 3) := by decide +kernel
theorem dX1_addBored_19 : decode cX1_addBored 19 = .ok (.iload_n 1, 1) := by decide +kernel
theorem dX1_addBored_20 : decode cX1_addBored 20 = .ok (.iastore, 1) := by decide +kernel
theorem dX1_addBored_21 : decode cX1_addBored 21 = .ok (.aload_n 0, 1) := by decide +kernel
theorem dX1_addBored_22 : decode cX1_addBored 22 = .ok (.getfield 15, 3) := by decide +kernel
theorem dX1_addBored_25 : decode cX1_addBored 25 = .ok (.aload_n 0, 1) := by decide +kernel
theorem dX1_addBored_26 : decode cX1_addBored 26 = .ok (.getfield 30, 3) := by decide +kernel
theorem dX1_addBored_29 : decode cX1_addBored 29 = .ok (.iload_n 2, 1) := by decide +kernel
theorem dX1_addBored_30 : decode cX1_addBored 30 = .ok (.iastore, 1) := by decide +kernel
theorem dX1_addBored_31 : decode cX1_addBored 31 = .ok (.aload_n 0, 1) := by decide +kernel
theorem dX1_addBored_32 : decode cX1_addBored 32 = .ok (.getfield 18, 3) := by decide +kernel
theorem dX1_addBored_35 : decode cX1_addBored 35 = .ok (.aload_n 0, 1) := by decide +kernel
theorem dX1_addBored_36 : decode cX1_addBored 36 = .ok (.getfield 30, 3) := by decide +kernel
theorem dX1_addBored_39 : decode cX1_addBored 39 = .ok (.iload_n 3, 1) := by decide +kernel
theorem dX1_addBored_40 : decode cX1_addBored 40 = .ok (.iastore, 1) := by decide +kernel
theorem dX1_addBored_41 : decode cX1_addBored 41 = .ok (.aload_n 0, 1) := by decide +kernel
theorem dX1_addBored_42 : decode cX1_addBored 42 = .ok (.getfield 21, 3) := by decide +kernel
theorem dX1_addBored_45 : decode cX1_addBored 45 = .ok (.aload_n 0, 1) := by decide +kernel
theorem dX1_addBored_46 : decode cX1_addBored 46 = .ok (.getfield 30, 3) := by decide +kernel
theorem dX1_addBored_49 : decode cX1_addBored 49 = .ok (.iload 4, 2) := by decide +kernel
theorem dX1_addBored_51 : decode cX1_addBored 51 = .ok (.iastore, 1) := by decide +kernel
theorem dX1_addBored_52 : decode cX1_addBored 52 = .ok (.aload_n 0, 1) := by decide +kernel
theorem dX1_addBored_53 : decode cX1_addBored 53 = .ok (.dup, 1) := by decide +kernel
theorem dX1_addBored_54 : decode cX1_addBored 54 = .ok (.getfield 30, 3) := by decide +kernel
theorem dX1_addBored_57 : decode cX1_addBored 57 = .ok (.iconst 1, 1) := by decide +kernel
theorem dX1_addBored_58 : decode cX1_addBored 58 = .ok (.iadd, 1) := by decide +kernel
theorem dX1_addBored_59 : decode cX1_addBored 59 = .ok (.putfield 30, 3) := by decide +kernel
theorem dX1_addBored_62 : decode cX1_addBored 62 = .ok (.iconst 1, 1) := by decide +kernel
theorem dX1_addBored_63 : decode cX1_addBored 63 = .ok (.ireturn, 1) := by decide +kernel
theorem dX1_addEntry_0 : decode cX1_addEntry 0 = .ok (.aload_n 0, 1) := by decide +kernel
theorem dX1_addEntry_1 : decode cX1_addEntry 1 = .ok (.getfield 34, 3) := by decide +kernel
theorem dX1_addEntry_4 : decode cX1_addEntry 4 = .ok (.bipush 15, 2) := by decide +kernel
theorem dX1_addEntry_6 : decode cX1_addEntry 6 = .ok (.if_icmp .lt 5, 3) := by decide +kernel
theorem dX1_addEntry_9 : decode cX1_addEntry 9 = .ok (.iconst 0, 1) := by decide +kernel
theorem dX1_addEntry_10 : decode cX1_addEntry 10 = .ok (.ireturn, 1) := by decide +kernel
theorem dX1_addEntry_11 : decode cX1_addEntry 11 = .ok (.aload_n 0, 1) := by decide +kernel
theorem dX1_addEntry_12 : decode cX1_addEntry 12 = .ok (.getfield 24, 3) := by decide +kernel
theorem dX1_addEntry_15 : decode cX1_addEntry 15 = .ok (.aload_n 0, 1) := by decide +kernel
theorem dX1_addEntry_16 : decode cX1_addEntry 16 = .ok (.getfield 34, 3) := by decide +kernel
theorem dX1_addEntry_19 : decode cX1_addEntry 19 = .ok (.iload_n 1, 1) := by decide +kernel
theorem dX1_addEntry_20 : decode cX1_addEntry 20 = .ok (.iastore, 1) := by decide +kernel
theorem dX1_addEntry_21 : decode cX1_addEntry 21 = .ok (.aload_n 0, 1) := by decide +kernel
theorem dX1_addEntry_22 : decode cX1_addEntry 22 = .ok (.getfield 27, 3) := by decide +kernel
theorem dX1_addEntry_25 : decode cX1_addEntry 25 = .ok (.aload_n 0, 1) := by decide +kernel
theorem dX1_addEntry_26 : decode cX1_addEntry 26 = .ok (.getfield 34, 3) := by decide +kernel
theorem dX1_addEntry_29 : decode cX1_addEntry 29 = .ok (.iload_n 2, 1) := by decide +kernel
theorem dX1_addEntry_30 : decode cX1_addEntry 30 = .ok (.iastore, 1) := by decide +kernel
theorem dX1_addEntry_31 : decode cX1_addEntry 31 = .ok (.aload_n 0, 1) := by decide +kernel
theorem dX1_addEntry_32 : decode cX1_addEntry 32 = .ok (.dup, 1) := by decide +kernel
theorem dX1_addEntry_33 : decode cX1_addEntry 33 = .ok (.getfield 34, 3) := by decide +kernel
theorem dX1_addEntry_36 : decode cX1_addEntry 36 = .ok (.iconst 1, 1) := by decide +kernel
theorem dX1_addEntry_37 : decode cX1_addEntry 37 = .ok (.iadd, 1) := by decide +kernel
theorem dX1_addEntry_38 : decode cX1_addEntry 38 = .ok (.putfield 34, 3) := by decide +kernel
theorem dX1_addEntry_41 : decode cX1_addEntry 41 = .ok (.iconst 1, 1) := by decide +kernel
theorem dX1_addEntry_42 : decode cX1_addEntry 42 = .ok (.ireturn, 1) := by decide +kernel
set_option maxRecDepth 20000 in
theorem ggX1_fits_X6_iceIfOf : GoodIn wsX1_fits wsX6_iceIfOf := goodIn_r _ [10, 11, 12, 13, 14, 15, 9, 16, 17, 18, 19, 20, 21, 22, 23, 24, 25, 26, 27, 28, 29, 30, 39, 40, 41, 42, 43] (by decide +kernel) (by decide +kernel)
set_option maxRecDepth 20000 in
theorem gX1_fits_X6_iceIfOf : GoodIn wsX1_fits (wsV RX1 37 RX6 yX6_iceIfOf wsX6_iceIfOf) := goodIn_app (goodIn_of _ (by decide +kernel)) ggX1_fits_X6_iceIfOf
theorem dX1_fits_0 : decode cX1_fits 0 = .ok (.iconst 0, 1) := by decide +kernel
theorem dX1_fits_1 : decode cX1_fits 1 = .ok (.istore 4, 2) := by decide +kernel
theorem dX1_fits_3 : decode cX1_fits 3 = .ok (.iload 4, 2) := by decide +kernel
theorem dX1_fits_5 : decode cX1_fits 5 = .ok (.aload_n 0, 1) := by decide +kernel
theorem dX1_fits_6 : decode cX1_fits 6 = .ok (.getfield 30, 3) := by decide +kernel
theorem dX1_fits_9 : decode cX1_fits 9 = .ok (.if_icmp .ge 52, 3) := by decide +kernel
theorem dX1_fits_12 : decode cX1_fits 12 = .ok (.aload_n 0, 1) := by decide +kernel
theorem dX1_fits_13 : decode cX1_fits 13 = .ok (.getfield 11, 3) := by decide +kernel
theorem dX1_fits_16 : decode cX1_fits 16 = .ok (.iload 4, 2) := by decide +kernel
theorem dX1_fits_18 : decode cX1_fits 18 = .ok (.iaload, 1) := by decide +kernel
theorem dX1_fits_19 : decode cX1_fits 19 = .ok (.iload_n 2, 1) := by decide +kernel
theorem dX1_fits_20 : decode cX1_fits 20 = .ok (.if_icmp .ne 35, 3) := by decide +kernel
theorem dX1_fits_23 : decode cX1_fits 23 = .ok (.aload_n 1, 1) := by decide +kernel
theorem dX1_fits_24 : decode cX1_fits 24 = .ok (.iload_n 3, 1) := by decide +kernel
theorem dX1_fits_25 : decode cX1_fits 25 = .ok (.iload_n 2, 1) := by decide +kernel
theorem dX1_fits_26 : decode cX1_fits 26 = .ok (.aload_n 0, 1) := by decide +kernel
theorem dX1_fits_27 : decode cX1_fits 27 = .ok (.getfield 15, 3) := by decide +kernel
theorem dX1_fits_30 : decode cX1_fits 30 = .ok (.iload 4, 2) := by decide +kernel
theorem dX1_fits_32 : decode cX1_fits 32 = .ok (.iaload, 1) := by decide +kernel
theorem dX1_fits_33 : decode cX1_fits 33 = .ok (.aload_n 0, 1) := by decide +kernel
theorem dX1_fits_34 : decode cX1_fits 34 = .ok (.getfield 18, 3) := by decide +kernel
theorem dX1_fits_37 : decode cX1_fits 37 = .ok (.iload 4, 2) := by decide +kernel
theorem dX1_fits_39 : decode cX1_fits 39 = .ok (.iaload, 1) := by decide +kernel
theorem dX1_fits_40 : decode cX1_fits 40 = .ok (.invokevirtual 37, 3) := by decide +kernel
theorem dX1_fits_43 : decode cX1_fits 43 = .ok (.aload_n 0, 1) := by decide +kernel
theorem dX1_fits_44 : decode cX1_fits 44 = .ok (.getfield 21, 3) := by decide +kernel
theorem dX1_fits_47 : decode cX1_fits 47 = .ok (.iload 4, 2) := by decide +kernel
theorem dX1_fits_49 : decode cX1_fits 49 = .ok (.iaload, 1) := by decide +kernel
theorem dX1_fits_50 : decode cX1_fits 50 = .ok (.if_icmp .eq 5, 3) := by decide +kernel
theorem dX1_fits_53 : decode cX1_fits 53 = .ok (.iconst 0, 1) := by decide +kernel
theorem dX1_fits_54 : decode cX1_fits 54 = .ok (.ireturn, 1) := by decide +kernel
theorem dX1_fits_55 : decode cX1_fits 55 = .ok (.iinc 4 1, 3) := by decide +kernel
theorem dX1_fits_58 : decode cX1_fits 58 = .ok (.goto (-55), 3) := by decide +kernel
theorem dX1_fits_61 : decode cX1_fits 61 = .ok (.iconst 1, 1) := by decide +kernel
theorem dX1_fits_62 : decode cX1_fits 62 = .ok (.ireturn, 1) := by decide +kernel
set_option maxRecDepth 20000 in
theorem ggX1_firstWrong_X6_has : GoodIn wsX1_firstWrong wsX6_has := goodIn_r _ [9, 10, 19, 20, 21, 22, 23] (by decide +kernel) (by decide +kernel)
set_option maxRecDepth 20000 in
theorem gX1_firstWrong_X6_has : GoodIn wsX1_firstWrong (wsV RX1 43 RX6 yX6_has wsX6_has) := goodIn_app (goodIn_of _ (by decide +kernel)) ggX1_firstWrong_X6_has
theorem dX1_firstWrong_0 : decode cX1_firstWrong 0 = .ok (.iconst 0, 1) := by decide +kernel
theorem dX1_firstWrong_1 : decode cX1_firstWrong 1 = .ok (.istore_n 2, 1) := by decide +kernel
theorem dX1_firstWrong_2 : decode cX1_firstWrong 2 = .ok (.iload_n 2, 1) := by decide +kernel
theorem dX1_firstWrong_3 : decode cX1_firstWrong 3 = .ok (.aload_n 0, 1) := by decide +kernel
theorem dX1_firstWrong_4 : decode cX1_firstWrong 4 = .ok (.getfield 34, 3) := by decide +kernel
theorem dX1_firstWrong_7 : decode cX1_firstWrong 7 = .ok (.if_icmp .ge 41, 3) := by decide +kernel
theorem dX1_firstWrong_10 : decode cX1_firstWrong 10 = .ok (.aload_n 0, 1) := by decide +kernel
theorem dX1_firstWrong_11 : decode cX1_firstWrong 11 = .ok (.getfield 24, 3) := by decide +kernel
theorem dX1_firstWrong_14 : decode cX1_firstWrong 14 = .ok (.iload_n 2, 1) := by decide +kernel
theorem dX1_firstWrong_15 : decode cX1_firstWrong 15 = .ok (.iaload, 1) := by decide +kernel
theorem dX1_firstWrong_16 : decode cX1_firstWrong 16 = .ok (.istore_n 3, 1) := by decide +kernel
theorem dX1_firstWrong_17 : decode cX1_firstWrong 17 = .ok (.aload_n 1, 1) := by decide +kernel
theorem dX1_firstWrong_18 : decode cX1_firstWrong 18 = .ok (.iload_n 3, 1) := by decide +kernel
theorem dX1_firstWrong_19 : decode cX1_firstWrong 19 = .ok (.invokevirtual 43, 3) := by decide +kernel
theorem dX1_firstWrong_22 : decode cX1_firstWrong 22 = .ok (.ifCond .eq 20, 3) := by decide +kernel
theorem dX1_firstWrong_25 : decode cX1_firstWrong 25 = .ok (.aload_n 1, 1) := by decide +kernel
theorem dX1_firstWrong_26 : decode cX1_firstWrong 26 = .ok (.getfield 47, 3) := by decide +kernel
theorem dX1_firstWrong_29 : decode cX1_firstWrong 29 = .ok (.iload_n 3, 1) := by decide +kernel
theorem dX1_firstWrong_30 : decode cX1_firstWrong 30 = .ok (.iaload, 1) := by decide +kernel
theorem dX1_firstWrong_31 : decode cX1_firstWrong 31 = .ok (.aload_n 0, 1) := by decide +kernel
theorem dX1_firstWrong_32 : decode cX1_firstWrong 32 = .ok (.getfield 27, 3) := by decide +kernel
theorem dX1_firstWrong_35 : decode cX1_firstWrong 35 = .ok (.iload_n 2, 1) := by decide +kernel
theorem dX1_firstWrong_36 : decode cX1_firstWrong 36 = .ok (.iaload, 1) := by decide +kernel
theorem dX1_firstWrong_37 : decode cX1_firstWrong 37 = .ok (.if_icmp .eq 5, 3) := by decide +kernel
theorem dX1_firstWrong_40 : decode cX1_firstWrong 40 = .ok (.iload_n 2, 1) := by decide +kernel
theorem dX1_firstWrong_41 : decode cX1_firstWrong 41 = .ok (.ireturn, 1) := by decide +kernel
theorem dX1_firstWrong_42 : decode cX1_firstWrong 42 = .ok (.iinc 2 1, 3) := by decide +kernel
theorem dX1_firstWrong_45 : decode cX1_firstWrong 45 = .ok (.goto (-43), 3) := by decide +kernel
theorem dX1_firstWrong_48 : decode cX1_firstWrong 48 = .ok (.iconst (-1), 1) := by decide +kernel
theorem dX1_firstWrong_49 : decode cX1_firstWrong 49 = .ok (.ireturn, 1) := by decide +kernel
set_option maxRecDepth 20000 in
theorem ggX2_init_X4_init : GoodIn wsX2_init wsX4_init := goodIn_r _ [13, 14, 2, 3, 15, 16, 23, 24, 25, 26] (by decide +kernel) (by decide +kernel)
set_option maxRecDepth 20000 in
theorem gX2_init_X4_init_n11 : GoodIn wsX2_init (wsX4_init) := ggX2_init_X4_init
set_option maxRecDepth 20000 in
theorem ggX2_init_X6_init : GoodIn wsX2_init wsX6_init := goodIn_r _ [18, 19, 2, 3, 15, 20, 21, 22, 41, 42, 43, 44, 45] (by decide +kernel) (by decide +kernel)
set_option maxRecDepth 20000 in
theorem gX2_init_X6_init_n24 : GoodIn wsX2_init (wsX6_init) := ggX2_init_X6_init
theorem dX2_init_0 : decode cX2_init 0 = .ok (.aload_n 0, 1) := by decide +kernel
theorem dX2_init_1 : decode cX2_init 1 = .ok (.invokespecial 3, 3) := by decide +kernel
theorem dX2_init_4 : decode cX2_init 4 = .ok (.aload_n 0, 1) := by decide +kernel
theorem dX2_init_5 : decode cX2_init 5 = .ok (.new 9, 3) := by decide +kernel
theorem dX2_init_8 : decode cX2_init 8 = .ok (.dup, 1) := by decide +kernel
theorem dX2_init_9 : decode cX2_init 9 = .ok (.invokespecial 11, 3) := by decide +kernel
theorem dX2_init_12 : decode cX2_init 12 = .ok (.putfield 12, 3) := by decide +kernel
theorem dX2_init_15 : decode cX2_init 15 = .ok (.aload_n 0, 1) := by decide +kernel
theorem dX2_init_16 : decode cX2_init 16 = .ok (.bipush 9, 2) := by decide +kernel
theorem dX2_init_18 : decode cX2_init 18 = .ok (.anewarray 18, 3) := by decide +kernel
theorem dX2_init_21 : decode cX2_init 21 = .ok (.putfield 20, 3) := by decide +kernel
theorem dX2_init_24 : decode cX2_init 24 = .ok (.iconst 0, 1) := by decide +kernel
theorem dX2_init_25 : decode cX2_init 25 = .ok (.istore_n 1, 1) := by decide +kernel
theorem dX2_init_26 : decode cX2_init 26 = .ok (.iload_n 1, 1) := by decide +kernel
theorem dX2_init_27 : decode cX2_init 27 = .ok (.bipush 8, 2) := by decide +kernel
theorem dX2_init_29 : decode cX2_init 29 = .ok (.if_icmp .gt 22, 3) := by decide +kernel
theorem dX2_init_32 : decode cX2_init 32 = .ok (.aload_n 0, 1) := by decide +kernel
theorem dX2_init_33 : decode cX2_init 33 = .ok (.getfield 20, 3) := by decide +kernel
theorem dX2_init_36 : decode cX2_init 36 = .ok (.iload_n 1, 1) := by decide +kernel
theorem dX2_init_37 : decode cX2_init 37 = .ok (.new 18, 3) := by decide +kernel
theorem dX2_init_40 : decode cX2_init 40 = .ok (.dup, 1) := by decide +kernel
theorem dX2_init_41 : decode cX2_init 41 = .ok (.invokespecial 24, 3) := by decide +kernel
theorem dX2_init_44 : decode cX2_init 44 = .ok (.aastore, 1) := by decide +kernel
theorem dX2_init_45 : decode cX2_init 45 = .ok (.iinc 1 1, 3) := by decide +kernel
theorem dX2_init_48 : decode cX2_init 48 = .ok (.goto (-22), 3) := by decide +kernel
theorem dX2_init_51 : decode cX2_init 51 = .ok (.return_, 1) := by decide +kernel
set_option maxRecDepth 20000 in
theorem ggX2_start_X6_copyFrom : GoodIn wsX2_start wsX6_copyFrom := goodIn_r _ [16, 17, 18, 19, 20, 21, 71, 72, 73, 74, 75] (by decide +kernel) (by decide +kernel)
set_option maxRecDepth 20000 in
theorem gX2_start_X6_copyFrom : GoodIn wsX2_start (wsV RX2 31 RX6 yX6_copyFrom wsX6_copyFrom) := goodIn_app (goodIn_of _ (by decide +kernel)) ggX2_start_X6_copyFrom
set_option maxRecDepth 20000 in
theorem ggX2_start_X0_forceBy : GoodIn wsX2_start wsX0_forceBy := goodIn_r _ [26, 27, 28, 29, 25, 30, 31, 32, 33, 34, 35, 36, 37, 38, 39, 40, 41, 5, 42, 43, 44, 45, 46, 47, 48, 76] (by decide +kernel) (by decide +kernel)
set_option maxRecDepth 20000 in
theorem gX2_start_X0_forceBy : GoodIn wsX2_start (wsV RX2 51 RX0 yX0_forceBy wsX0_forceBy) := goodIn_app (goodIn_of _ (by decide +kernel)) ggX2_start_X0_forceBy
set_option maxRecDepth 20000 in
theorem ggX2_start_X0_axeMinutes : GoodIn wsX2_start wsX0_axeMinutes := goodIn_r _ [52, 31, 76] (by decide +kernel) (by decide +kernel)
set_option maxRecDepth 20000 in
theorem gX2_start_X0_axeMinutes : GoodIn wsX2_start (wsV RX2 60 RX0 yX0_axeMinutes wsX0_axeMinutes) := goodIn_app (goodIn_of _ (by decide +kernel)) ggX2_start_X0_axeMinutes
theorem dX2_start_0 : decode cX2_start 0 = .ok (.aload_n 0, 1) := by decide +kernel
theorem dX2_start_1 : decode cX2_start 1 = .ok (.getfield 20, 3) := by decide +kernel
theorem dX2_start_4 : decode cX2_start 4 = .ok (.iconst 0, 1) := by decide +kernel
theorem dX2_start_5 : decode cX2_start 5 = .ok (.aaload, 1) := by decide +kernel
theorem dX2_start_6 : decode cX2_start 6 = .ok (.aload_n 1, 1) := by decide +kernel
theorem dX2_start_7 : decode cX2_start 7 = .ok (.getfield 25, 3) := by decide +kernel
theorem dX2_start_10 : decode cX2_start 10 = .ok (.invokevirtual 31, 3) := by decide +kernel
theorem dX2_start_13 : decode cX2_start 13 = .ok (.aload_n 0, 1) := by decide +kernel
theorem dX2_start_14 : decode cX2_start 14 = .ok (.bipush 8, 2) := by decide +kernel
theorem dX2_start_16 : decode cX2_start 16 = .ok (.iload_n 3, 1) := by decide +kernel
theorem dX2_start_17 : decode cX2_start 17 = .ok (.invokestatic 35, 3) := by decide +kernel
theorem dX2_start_20 : decode cX2_start 20 = .ok (.putfield 41, 3) := by decide +kernel
theorem dX2_start_23 : decode cX2_start 23 = .ok (.aload_n 0, 1) := by decide +kernel
theorem dX2_start_24 : decode cX2_start 24 = .ok (.iload 4, 2) := by decide +kernel
theorem dX2_start_26 : decode cX2_start 26 = .ok (.putfield 45, 3) := by decide +kernel
theorem dX2_start_29 : decode cX2_start 29 = .ok (.aload_n 0, 1) := by decide +kernel
theorem dX2_start_30 : decode cX2_start 30 = .ok (.aload_n 2, 1) := by decide +kernel
theorem dX2_start_31 : decode cX2_start 31 = .ok (.aload_n 1, 1) := by decide +kernel
theorem dX2_start_32 : decode cX2_start 32 = .ok (.getfield 48, 3) := by decide +kernel
theorem dX2_start_35 : decode cX2_start 35 = .ok (.invokevirtual 51, 3) := by decide +kernel
theorem dX2_start_38 : decode cX2_start 38 = .ok (.putfield 57, 3) := by decide +kernel
theorem dX2_start_41 : decode cX2_start 41 = .ok (.aload_n 0, 1) := by decide +kernel
theorem dX2_start_42 : decode cX2_start 42 = .ok (.aload_n 2, 1) := by decide +kernel
theorem dX2_start_43 : decode cX2_start 43 = .ok (.invokevirtual 60, 3) := by decide +kernel
theorem dX2_start_46 : decode cX2_start 46 = .ok (.putfield 64, 3) := by decide +kernel
theorem dX2_start_49 : decode cX2_start 49 = .ok (.return_, 1) := by decide +kernel
set_option maxRecDepth 20000 in
theorem ggX2_findPlan_X0_coalDays : GoodIn wsX2_findPlan wsX0_coalDays := goodIn_r _ [12, 13, 113] (by decide +kernel) (by decide +kernel)
set_option maxRecDepth 20000 in
theorem gX2_findPlan_X0_coalDays : GoodIn wsX2_findPlan (wsV RX2 70 RX0 yX0_coalDays wsX0_coalDays) := goodIn_app (goodIn_of _ (by decide +kernel)) ggX2_findPlan_X0_coalDays
set_option maxRecDepth 20000 in
theorem ggX2_findPlan_X0_dayCost : GoodIn wsX2_findPlan wsX0_dayCost := goodIn_r _ [17, 13, 113] (by decide +kernel) (by decide +kernel)
set_option maxRecDepth 20000 in
theorem gX2_findPlan_X0_dayCost : GoodIn wsX2_findPlan (wsV RX2 75 RX0 yX0_dayCost wsX0_dayCost) := goodIn_app (goodIn_of _ (by decide +kernel)) ggX2_findPlan_X0_dayCost
set_option maxRecDepth 20000 in
theorem ggX2_findPlan_X0_wantCost : GoodIn wsX2_findPlan wsX0_wantCost := goodIn_r _ [21, 13, 113] (by decide +kernel) (by decide +kernel)
set_option maxRecDepth 20000 in
theorem gX2_findPlan_X0_wantCost : GoodIn wsX2_findPlan (wsV RX2 80 RX0 yX0_wantCost wsX0_wantCost) := goodIn_app (goodIn_of _ (by decide +kernel)) ggX2_findPlan_X0_wantCost
set_option maxRecDepth 20000 in
theorem ggX2_findPlan_X2_tryDay : GoodIn wsX2_findPlan wsX2_tryDay := goodIn_r _ [26, 6, 27, 28, 29, 30, 31, 4, 32, 1, 33, 34, 35, 36, 37, 2, 3, 38, 39, 40, 25, 41, 7, 42, 43, 44, 45, 46, 47, 48, 49, 50, 51, 52, 53, 54, 55, 56, 57, 58, 59, 60, 61, 62, 63, 64, 65, 66, 67, 68, 69, 70, 71, 72, 73, 74, 75, 22, 23, 24, 76, 77, 78, 79, 80, 81, 82, 83, 84, 85, 86, 87, 88, 89, 90, 91, 92, 93, 94, 95, 96, 97, 98, 99, 100, 101, 102, 103, 104, 105, 106, 107, 108, 109, 110, 111, 112, 114, 115, 116, 117, 118, 119, 120, 121, 122] (by decide +kernel) (by decide +kernel)
set_option maxRecDepth 20000 in
theorem gX2_findPlan_X2_tryDay : GoodIn wsX2_findPlan (wsV RX2 94 RX2 yX2_tryDay wsX2_tryDay) := goodIn_app (goodIn_of _ (by decide +kernel)) ggX2_findPlan_X2_tryDay
theorem dX2_findPlan_0 : decode cX2_findPlan 0 = .ok (.aload_n 0, 1) := by decide +kernel
theorem dX2_findPlan_1 : decode cX2_findPlan 1 = .ok (.iload_n 2, 1) := by decide +kernel
theorem dX2_findPlan_2 : decode cX2_findPlan 2 = .ok (.putfield 67, 3) := by decide +kernel
theorem dX2_findPlan_5 : decode cX2_findPlan 5 = .ok (.aload_n 0, 1) := by decide +kernel
theorem dX2_findPlan_6 : decode cX2_findPlan 6 = .ok (.aload_n 1, 1) := by decide +kernel
theorem dX2_findPlan_7 : decode cX2_findPlan 7 = .ok (.invokevirtual 70, 3) := by decide +kernel
theorem dX2_findPlan_10 : decode cX2_findPlan 10 = .ok (.putfield 73, 3) := by decide +kernel
theorem dX2_findPlan_13 : decode cX2_findPlan 13 = .ok (.aload_n 0, 1) := by decide +kernel
theorem dX2_findPlan_14 : decode cX2_findPlan 14 = .ok (.aload_n 1, 1) := by decide +kernel
theorem dX2_findPlan_15 : decode cX2_findPlan 15 = .ok (.invokevirtual 75, 3) := by decide +kernel
theorem dX2_findPlan_18 : decode cX2_findPlan 18 = .ok (.putfield 78, 3) := by decide +kernel
theorem dX2_findPlan_21 : decode cX2_findPlan 21 = .ok (.aload_n 0, 1) := by decide +kernel
theorem dX2_findPlan_22 : decode cX2_findPlan 22 = .ok (.aload_n 1, 1) := by decide +kernel
theorem dX2_findPlan_23 : decode cX2_findPlan 23 = .ok (.invokevirtual 80, 3) := by decide +kernel
theorem dX2_findPlan_26 : decode cX2_findPlan 26 = .ok (.putfield 83, 3) := by decide +kernel
theorem dX2_findPlan_29 : decode cX2_findPlan 29 = .ok (.aload_n 0, 1) := by decide +kernel
theorem dX2_findPlan_30 : decode cX2_findPlan 30 = .ok (.ldc 87, 2) := by decide +kernel
theorem dX2_findPlan_32 : decode cX2_findPlan 32 = .ok (.putfield 88, 3) := by decide +kernel
theorem dX2_findPlan_35 : decode cX2_findPlan 35 = .ok (.aload_n 0, 1) := by decide +kernel
theorem dX2_findPlan_36 : decode cX2_findPlan 36 = .ok (.iconst 0, 1) := by decide +kernel
theorem dX2_findPlan_37 : decode cX2_findPlan 37 = .ok (.putfield 91, 3) := by decide +kernel
theorem dX2_findPlan_40 : decode cX2_findPlan 40 = .ok (.aload_n 0, 1) := by decide +kernel
theorem dX2_findPlan_41 : decode cX2_findPlan 41 = .ok (.iconst 0, 1) := by decide +kernel
theorem dX2_findPlan_42 : decode cX2_findPlan 42 = .ok (.aload_n 0, 1) := by decide +kernel
theorem dX2_findPlan_43 : decode cX2_findPlan 43 = .ok (.getfield 73, 3) := by decide +kernel
theorem dX2_findPlan_46 : decode cX2_findPlan 46 = .ok (.iconst 0, 1) := by decide +kernel
theorem dX2_findPlan_47 : decode cX2_findPlan 47 = .ok (.iconst 0, 1) := by decide +kernel
theorem dX2_findPlan_48 : decode cX2_findPlan 48 = .ok (.invokevirtual 94, 3) := by decide +kernel
theorem dX2_findPlan_51 : decode cX2_findPlan 51 = .ok (.return_, 1) := by decide +kernel
set_option maxRecDepth 20000 in
theorem ggX2_tryDay_X2_takeIfBetter : GoodIn wsX2_tryDay wsX2_takeIfBetter := goodIn_r _ [21, 1, 22, 83, 84, 85, 86, 87, 88, 89, 90, 91, 92, 93, 94, 95, 96] (by decide +kernel) (by decide +kernel)
set_option maxRecDepth 20000 in
theorem gX2_tryDay_X2_takeIfBetter : GoodIn wsX2_tryDay (wsV RX2 98 RX2 yX2_takeIfBetter wsX2_takeIfBetter) := goodIn_app (goodIn_of _ (by decide +kernel)) ggX2_tryDay_X2_takeIfBetter
set_option maxRecDepth 20000 in
theorem ggX2_tryDay_X6_copyFrom : GoodIn wsX2_tryDay wsX6_copyFrom := goodIn_r _ [27, 28, 29, 30, 31, 32, 101, 102, 103, 104, 105] (by decide +kernel) (by decide +kernel)
set_option maxRecDepth 20000 in
theorem gX2_tryDay_X6_copyFrom : GoodIn wsX2_tryDay (wsV RX2 31 RX6 yX6_copyFrom wsX6_copyFrom) := goodIn_app (goodIn_of _ (by decide +kernel)) ggX2_tryDay_X6_copyFrom
set_option maxRecDepth 20000 in
theorem ggX2_tryDay_X6_freeze : GoodIn wsX2_tryDay wsX6_freeze := goodIn_r _ [36, 28, 31, 30, 37, 38, 39, 26, 40, 29, 32, 41, 42, 43, 44, 45, 46, 47, 48, 49, 50, 51, 52, 5, 53, 54, 55, 56, 101, 102, 103, 104, 105] (by decide +kernel) (by decide +kernel)
set_option maxRecDepth 20000 in
theorem gX2_tryDay_X6_freeze : GoodIn wsX2_tryDay (wsV RX2 105 RX6 yX6_freeze wsX6_freeze) := goodIn_app (goodIn_of _ (by decide +kernel)) ggX2_tryDay_X6_freeze
set_option maxRecDepth 20000 in
theorem ggX2_tryDay_X2_tryDay : GoodIn wsX2_tryDay wsX2_tryDay := goodIn_r _ [0, 1, 2, 3, 4, 5, 6, 7, 8, 9, 10, 11, 12, 13, 14, 15, 16, 17, 18, 19, 20, 21, 22, 23, 24, 25, 26, 27, 28, 29, 30, 31, 32, 33, 34, 35, 36, 37, 38, 39, 40, 41, 42, 43, 44, 45, 46, 47, 48, 49, 50, 51, 52, 53, 54, 55, 56, 57, 58, 59, 60, 61, 62, 63, 64, 65, 66, 67, 68, 69, 70, 71, 72, 73, 74, 75, 76, 77, 78, 79, 80, 81, 82, 83, 84, 85, 86, 87, 88, 89, 90, 91, 92, 93, 94, 95, 96, 97, 98, 99, 100, 101, 102, 103, 104, 105] (by decide +kernel) (by decide +kernel)
set_option maxRecDepth 20000 in
theorem gX2_tryDay_X2_tryDay : GoodIn wsX2_tryDay (wsV RX2 94 RX2 yX2_tryDay wsX2_tryDay) := goodIn_app (goodIn_of _ (by decide +kernel)) ggX2_tryDay_X2_tryDay
set_option maxRecDepth 20000 in
theorem ggX2_tryDay_X4_passes : GoodIn wsX2_tryDay wsX4_passes := goodIn_r _ [64, 65, 66, 67, 68, 69, 63, 70, 71, 72, 73, 74, 75, 76, 77, 78, 97, 98, 99, 100, 101, 102, 103, 104, 105] (by decide +kernel) (by decide +kernel)
set_option maxRecDepth 20000 in
theorem gX2_tryDay_X4_passes : GoodIn wsX2_tryDay (wsV RX2 109 RX4 yX4_passes wsX4_passes) := goodIn_app (goodIn_of _ (by decide +kernel)) ggX2_tryDay_X4_passes
set_option maxRecDepth 20000 in
theorem ggX2_tryDay_X6_openFirst : GoodIn wsX2_tryDay wsX6_openFirst := goodIn_r _ [82, 28, 31, 29, 32, 101, 102, 103, 104, 105] (by decide +kernel) (by decide +kernel)
set_option maxRecDepth 20000 in
theorem gX2_tryDay_X6_openFirst : GoodIn wsX2_tryDay (wsV RX2 116 RX6 yX6_openFirst wsX6_openFirst) := goodIn_app (goodIn_of _ (by decide +kernel)) ggX2_tryDay_X6_openFirst
theorem dX2_tryDay_0 : decode cX2_tryDay 0 = .ok (.iload_n 3, 1) := by decide +kernel
theorem dX2_tryDay_1 : decode cX2_tryDay 1 = .ok (.aload_n 0, 1) := by decide +kernel
theorem dX2_tryDay_2 : decode cX2_tryDay 2 = .ok (.getfield 88, 3) := by decide +kernel
theorem dX2_tryDay_5 : decode cX2_tryDay 5 = .ok (.if_icmp .le 4, 3) := by decide +kernel
theorem dX2_tryDay_8 : decode cX2_tryDay 8 = .ok (.return_, 1) := by decide +kernel
theorem dX2_tryDay_9 : decode cX2_tryDay 9 = .ok (.iload_n 1, 1) := by decide +kernel
theorem dX2_tryDay_10 : decode cX2_tryDay 10 = .ok (.aload_n 0, 1) := by decide +kernel
theorem dX2_tryDay_11 : decode cX2_tryDay 11 = .ok (.getfield 41, 3) := by decide +kernel
theorem dX2_tryDay_14 : decode cX2_tryDay 14 = .ok (.if_icmp .lt 11, 3) := by decide +kernel
theorem dX2_tryDay_17 : decode cX2_tryDay 17 = .ok (.aload_n 0, 1) := by decide +kernel
theorem dX2_tryDay_18 : decode cX2_tryDay 18 = .ok (.iload_n 3, 1) := by decide +kernel
theorem dX2_tryDay_19 : decode cX2_tryDay 19 = .ok (.iload 4, 2) := by decide +kernel
theorem dX2_tryDay_21 : decode cX2_tryDay 21 = .ok (.invokevirtual 98, 3) := by decide +kernel
theorem dX2_tryDay_24 : decode cX2_tryDay 24 = .ok (.return_, 1) := by decide +kernel
theorem dX2_tryDay_25 : decode cX2_tryDay 25 = .ok (.iconst 0, 1) := by decide +kernel
theorem dX2_tryDay_26 : decode cX2_tryDay 26 = .ok (.iload_n 2, 1) := by decide +kernel
theorem dX2_tryDay_27 : decode cX2_tryDay 27 = .ok (.iconst 1, 1) := by decide +kernel
theorem dX2_tryDay_28 : decode cX2_tryDay 28 = .ok (.isub, 1) := by decide +kernel
theorem dX2_tryDay_29 : decode cX2_tryDay 29 = .ok (.invokestatic 102, 3) := by decide +kernel
theorem dX2_tryDay_32 : decode cX2_tryDay 32 = .ok (.istore 5, 2) := by decide +kernel
theorem dX2_tryDay_34 : decode cX2_tryDay 34 = .ok (.iload_n 2, 1) := by decide +kernel
theorem dX2_tryDay_35 : decode cX2_tryDay 35 = .ok (.ifCond .le 7, 3) := by decide +kernel
theorem dX2_tryDay_38 : decode cX2_tryDay 38 = .ok (.iload_n 3, 1) := by decide +kernel
theorem dX2_tryDay_39 : decode cX2_tryDay 39 = .ok (.goto 9, 3) := by decide +kernel
theorem dX2_tryDay_42 : decode cX2_tryDay 42 = .ok (.iload_n 3, 1) := by decide +kernel
theorem dX2_tryDay_43 : decode cX2_tryDay 43 = .ok (.aload_n 0, 1) := by decide +kernel
theorem dX2_tryDay_44 : decode cX2_tryDay 44 = .ok (.getfield 83, 3) := by decide +kernel
theorem dX2_tryDay_47 : decode cX2_tryDay 47 = .ok (.iadd, 1) := by decide +kernel
theorem dX2_tryDay_48 : decode cX2_tryDay 48 = .ok (.istore 6, 2) := by decide +kernel
theorem dX2_tryDay_50 : decode cX2_tryDay 50 = .ok (.aload_n 0, 1) := by decide +kernel
theorem dX2_tryDay_51 : decode cX2_tryDay 51 = .ok (.getfield 20, 3) := by decide +kernel
theorem dX2_tryDay_54 : decode cX2_tryDay 54 = .ok (.iload_n 1, 1) := by decide +kernel
theorem dX2_tryDay_55 : decode cX2_tryDay 55 = .ok (.aaload, 1) := by decide +kernel
theorem dX2_tryDay_56 : decode cX2_tryDay 56 = .ok (.astore 7, 2) := by decide +kernel
theorem dX2_tryDay_58 : decode cX2_tryDay 58 = .ok (.aload_n 0, 1) := by decide +kernel
theorem dX2_tryDay_59 : decode cX2_tryDay 59 = .ok (.getfield 20, 3) := by decide +kernel
theorem dX2_tryDay_62 : decode cX2_tryDay 62 = .ok (.iload_n 1, 1) := by decide +kernel
theorem dX2_tryDay_63 : decode cX2_tryDay 63 = .ok (.iconst 1, 1) := by decide +kernel
theorem dX2_tryDay_64 : decode cX2_tryDay 64 = .ok (.iadd, 1) := by decide +kernel
theorem dX2_tryDay_65 : decode cX2_tryDay 65 = .ok (.aaload, 1) := by decide +kernel
theorem dX2_tryDay_66 : decode cX2_tryDay 66 = .ok (.astore 8, 2) := by decide +kernel
theorem dX2_tryDay_68 : decode cX2_tryDay 68 = .ok (.aload 8, 2) := by decide +kernel
theorem dX2_tryDay_70 : decode cX2_tryDay 70 = .ok (.aload 7, 2) := by decide +kernel
theorem dX2_tryDay_72 : decode cX2_tryDay 72 = .ok (.invokevirtual 31, 3) := by decide +kernel
theorem dX2_tryDay_75 : decode cX2_tryDay 75 = .ok (.aload 8, 2) := by decide +kernel
theorem dX2_tryDay_77 : decode cX2_tryDay 77 = .ok (.aload_n 0, 1) := by decide +kernel
theorem dX2_tryDay_78 : decode cX2_tryDay 78 = .ok (.getfield 67, 3) := by decide +kernel
theorem dX2_tryDay_81 : decode cX2_tryDay 81 = .ok (.invokevirtual 105, 3) := by decide +kernel
theorem dX2_tryDay_84 : decode cX2_tryDay 84 = .ok (.aload_n 0, 1) := by decide +kernel
theorem dX2_tryDay_85 : decode cX2_tryDay 85 = .ok (.iload_n 1, 1) := by decide +kernel
theorem dX2_tryDay_86 : decode cX2_tryDay 86 = .ok (.iconst 1, 1) := by decide +kernel
theorem dX2_tryDay_87 : decode cX2_tryDay 87 = .ok (.iadd, 1) := by decide +kernel
theorem dX2_tryDay_88 : decode cX2_tryDay 88 = .ok (.iload 5, 2) := by decide +kernel
theorem dX2_tryDay_90 : decode cX2_tryDay 90 = .ok (.iload 6, 2) := by decide +kernel
theorem dX2_tryDay_92 : decode cX2_tryDay 92 = .ok (.iload 4, 2) := by decide +kernel
theorem dX2_tryDay_94 : decode cX2_tryDay 94 = .ok (.invokevirtual 94, 3) := by decide +kernel
theorem dX2_tryDay_97 : decode cX2_tryDay 97 = .ok (.aload_n 0, 1) := by decide +kernel
theorem dX2_tryDay_98 : decode cX2_tryDay 98 = .ok (.getfield 12, 3) := by decide +kernel
theorem dX2_tryDay_101 : decode cX2_tryDay 101 = .ok (.aload 7, 2) := by decide +kernel
theorem dX2_tryDay_103 : decode cX2_tryDay 103 = .ok (.aload_n 0, 1) := by decide +kernel
theorem dX2_tryDay_104 : decode cX2_tryDay 104 = .ok (.getfield 57, 3) := by decide +kernel
theorem dX2_tryDay_107 : decode cX2_tryDay 107 = .ok (.aload_n 0, 1) := by decide +kernel
theorem dX2_tryDay_108 : decode cX2_tryDay 108 = .ok (.getfield 64, 3) := by decide +kernel
theorem dX2_tryDay_111 : decode cX2_tryDay 111 = .ok (.aload_n 0, 1) := by decide +kernel
theorem dX2_tryDay_112 : decode cX2_tryDay 112 = .ok (.getfield 45, 3) := by decide +kernel
theorem dX2_tryDay_115 : decode cX2_tryDay 115 = .ok (.invokevirtual 109, 3) := by decide +kernel
theorem dX2_tryDay_118 : decode cX2_tryDay 118 = .ok (.istore 9, 2) := by decide +kernel
theorem dX2_tryDay_120 : decode cX2_tryDay 120 = .ok (.aload 8, 2) := by decide +kernel
theorem dX2_tryDay_122 : decode cX2_tryDay 122 = .ok (.aload 7, 2) := by decide +kernel
theorem dX2_tryDay_124 : decode cX2_tryDay 124 = .ok (.invokevirtual 31, 3) := by decide +kernel
theorem dX2_tryDay_127 : decode cX2_tryDay 127 = .ok (.aload 8, 2) := by decide +kernel
theorem dX2_tryDay_129 : decode cX2_tryDay 129 = .ok (.aload_n 0, 1) := by decide +kernel
theorem dX2_tryDay_130 : decode cX2_tryDay 130 = .ok (.getfield 12, 3) := by decide +kernel
theorem dX2_tryDay_133 : decode cX2_tryDay 133 = .ok (.getfield 113, 3) := by decide +kernel
theorem dX2_tryDay_136 : decode cX2_tryDay 136 = .ok (.invokevirtual 116, 3) := by decide +kernel
theorem dX2_tryDay_139 : decode cX2_tryDay 139 = .ok (.aload 8, 2) := by decide +kernel
theorem dX2_tryDay_141 : decode cX2_tryDay 141 = .ok (.aload_n 0, 1) := by decide +kernel
theorem dX2_tryDay_142 : decode cX2_tryDay 142 = .ok (.getfield 67, 3) := by decide +kernel
theorem dX2_tryDay_145 : decode cX2_tryDay 145 = .ok (.invokevirtual 105, 3) := by decide +kernel
theorem dX2_tryDay_148 : decode cX2_tryDay 148 = .ok (.iload 9, 2) := by decide +kernel
theorem dX2_tryDay_150 : decode cX2_tryDay 150 = .ok (.ifCond .eq 10, 3) := by decide +kernel
theorem dX2_tryDay_153 : decode cX2_tryDay 153 = .ok (.aload_n 0, 1) := by decide +kernel
theorem dX2_tryDay_154 : decode cX2_tryDay 154 = .ok (.getfield 73, 3) := by decide +kernel
theorem dX2_tryDay_157 : decode cX2_tryDay 157 = .ok (.goto 5, 3) := by decide +kernel
theorem dX2_tryDay_160 : decode cX2_tryDay 160 = .ok (.iload 5, 2) := by decide +kernel
theorem dX2_tryDay_162 : decode cX2_tryDay 162 = .ok (.istore 10, 2) := by decide +kernel
theorem dX2_tryDay_164 : decode cX2_tryDay 164 = .ok (.aload_n 0, 1) := by decide +kernel
theorem dX2_tryDay_165 : decode cX2_tryDay 165 = .ok (.iload_n 1, 1) := by decide +kernel
theorem dX2_tryDay_166 : decode cX2_tryDay 166 = .ok (.iconst 1, 1) := by decide +kernel
theorem dX2_tryDay_167 : decode cX2_tryDay 167 = .ok (.iadd, 1) := by decide +kernel
theorem dX2_tryDay_168 : decode cX2_tryDay 168 = .ok (.iload 10, 2) := by decide +kernel
theorem dX2_tryDay_170 : decode cX2_tryDay 170 = .ok (.iload 6, 2) := by decide +kernel
theorem dX2_tryDay_172 : decode cX2_tryDay 172 = .ok (.aload_n 0, 1) := by decide +kernel
theorem dX2_tryDay_173 : decode cX2_tryDay 173 = .ok (.getfield 78, 3) := by decide +kernel
theorem dX2_tryDay_176 : decode cX2_tryDay 176 = .ok (.iadd, 1) := by decide +kernel
theorem dX2_tryDay_177 : decode cX2_tryDay 177 = .ok (.iload 4, 2) := by decide +kernel
theorem dX2_tryDay_179 : decode cX2_tryDay 179 = .ok (.iconst 1, 1) := by decide +kernel
theorem dX2_tryDay_180 : decode cX2_tryDay 180 = .ok (.iload_n 1, 1) := by decide +kernel
theorem dX2_tryDay_181 : decode cX2_tryDay 181 = .ok (.ishl, 1) := by decide +kernel
theorem dX2_tryDay_182 : decode cX2_tryDay 182 = .ok (.ior, 1) := by decide +kernel
theorem dX2_tryDay_183 : decode cX2_tryDay 183 = .ok (.invokevirtual 94, 3) := by decide +kernel
theorem dX2_tryDay_186 : decode cX2_tryDay 186 = .ok (.return_, 1) := by decide +kernel
theorem dX2_takeIfBetter_0 : decode cX2_takeIfBetter 0 = .ok (.iload_n 1, 1) := by decide +kernel
theorem dX2_takeIfBetter_1 : decode cX2_takeIfBetter 1 = .ok (.aload_n 0, 1) := by decide +kernel
theorem dX2_takeIfBetter_2 : decode cX2_takeIfBetter 2 = .ok (.getfield 88, 3) := by decide +kernel
theorem dX2_takeIfBetter_5 : decode cX2_takeIfBetter 5 = .ok (.if_icmp .lt 19, 3) := by decide +kernel
theorem dX2_takeIfBetter_8 : decode cX2_takeIfBetter 8 = .ok (.iload_n 1, 1) := by decide +kernel
theorem dX2_takeIfBetter_9 : decode cX2_takeIfBetter 9 = .ok (.aload_n 0, 1) := by decide +kernel
theorem dX2_takeIfBetter_10 : decode cX2_takeIfBetter 10 = .ok (.getfield 88, 3) := by decide +kernel
theorem dX2_takeIfBetter_13 : decode cX2_takeIfBetter 13 = .ok (.if_icmp .ne 21, 3) := by decide +kernel
theorem dX2_takeIfBetter_16 : decode cX2_takeIfBetter 16 = .ok (.iload_n 2, 1) := by decide +kernel
theorem dX2_takeIfBetter_17 : decode cX2_takeIfBetter 17 = .ok (.aload_n 0, 1) := by decide +kernel
theorem dX2_takeIfBetter_18 : decode cX2_takeIfBetter 18 = .ok (.getfield 91, 3) := by decide +kernel
theorem dX2_takeIfBetter_21 : decode cX2_takeIfBetter 21 = .ok (.if_icmp .ge 13, 3) := by decide +kernel
theorem dX2_takeIfBetter_24 : decode cX2_takeIfBetter 24 = .ok (.aload_n 0, 1) := by decide +kernel
theorem dX2_takeIfBetter_25 : decode cX2_takeIfBetter 25 = .ok (.iload_n 1, 1) := by decide +kernel
theorem dX2_takeIfBetter_26 : decode cX2_takeIfBetter 26 = .ok (.putfield 88, 3) := by decide +kernel
theorem dX2_takeIfBetter_29 : decode cX2_takeIfBetter 29 = .ok (.aload_n 0, 1) := by decide +kernel
theorem dX2_takeIfBetter_30 : decode cX2_takeIfBetter 30 = .ok (.iload_n 2, 1) := by decide +kernel
theorem dX2_takeIfBetter_31 : decode cX2_takeIfBetter 31 = .ok (.putfield 91, 3) := by decide +kernel
theorem dX2_takeIfBetter_34 : decode cX2_takeIfBetter 34 = .ok (.return_, 1) := by decide +kernel
set_option maxRecDepth 20000 in
theorem ggX2_findOdds_X2_oddsOf : GoodIn wsX2_findOdds wsX2_oddsOf := goodIn_r _ [9, 10, 11, 12, 13, 14, 15, 3, 16, 2, 1, 17, 18, 19, 20, 21, 22, 23, 24, 25, 26, 27, 28, 29, 30, 31, 32, 33, 34, 35, 36, 37, 38, 39, 40, 41, 42, 43, 44, 45, 46, 47, 48, 49, 50, 51, 52, 53, 54, 55, 56, 57, 58, 59, 60, 61, 62, 63, 64, 5, 6, 7, 8, 65, 66, 67, 68, 69, 70, 71, 72, 73, 74, 75, 76, 77, 78, 79, 80, 81, 82, 83, 84, 85, 86, 87, 88, 89, 90, 91, 92, 93, 94, 95, 96, 97, 98, 99, 100] (by decide +kernel) (by decide +kernel)
set_option maxRecDepth 20000 in
theorem gX2_findOdds_X2_oddsOf : GoodIn wsX2_findOdds (wsV RX2 127 RX2 yX2_oddsOf wsX2_oddsOf) := goodIn_app (goodIn_of _ (by decide +kernel)) ggX2_findOdds_X2_oddsOf
theorem dX2_findOdds_0 : decode cX2_findOdds 0 = .ok (.aload_n 0, 1) := by decide +kernel
theorem dX2_findOdds_1 : decode cX2_findOdds 1 = .ok (.iload_n 1, 1) := by decide +kernel
theorem dX2_findOdds_2 : decode cX2_findOdds 2 = .ok (.putfield 67, 3) := by decide +kernel
theorem dX2_findOdds_5 : decode cX2_findOdds 5 = .ok (.aload_n 0, 1) := by decide +kernel
theorem dX2_findOdds_6 : decode cX2_findOdds 6 = .ok (.iload_n 2, 1) := by decide +kernel
theorem dX2_findOdds_7 : decode cX2_findOdds 7 = .ok (.putfield 119, 3) := by decide +kernel
theorem dX2_findOdds_10 : decode cX2_findOdds 10 = .ok (.aload_n 0, 1) := by decide +kernel
theorem dX2_findOdds_11 : decode cX2_findOdds 11 = .ok (.iload_n 3, 1) := by decide +kernel
theorem dX2_findOdds_12 : decode cX2_findOdds 12 = .ok (.putfield 122, 3) := by decide +kernel
theorem dX2_findOdds_15 : decode cX2_findOdds 15 = .ok (.aload_n 0, 1) := by decide +kernel
theorem dX2_findOdds_16 : decode cX2_findOdds 16 = .ok (.iconst 0, 1) := by decide +kernel
theorem dX2_findOdds_17 : decode cX2_findOdds 17 = .ok (.ldc2_w 125, 3) := by decide +kernel
theorem dX2_findOdds_20 : decode cX2_findOdds 20 = .ok (.invokevirtual 127, 3) := by decide +kernel
theorem dX2_findOdds_23 : decode cX2_findOdds 23 = .ok (.l2i, 1) := by decide +kernel
theorem dX2_findOdds_24 : decode cX2_findOdds 24 = .ok (.ireturn, 1) := by decide +kernel
set_option maxRecDepth 20000 in
theorem ggX2_oddsOf_X4_passes : GoodIn wsX2_oddsOf wsX4_passes := goodIn_r _ [15, 16, 17, 18, 19, 20, 14, 21, 22, 23, 24, 25, 26, 27, 28, 29, 90, 91, 92, 93, 94, 95, 96, 97, 98] (by decide +kernel) (by decide +kernel)
set_option maxRecDepth 20000 in
theorem gX2_oddsOf_X4_passes : GoodIn wsX2_oddsOf (wsV RX2 109 RX4 yX4_passes wsX4_passes) := goodIn_app (goodIn_of _ (by decide +kernel)) ggX2_oddsOf_X4_passes
set_option maxRecDepth 20000 in
theorem ggX2_oddsOf_X6_copyFrom : GoodIn wsX2_oddsOf wsX6_copyFrom := goodIn_r _ [34, 35, 36, 37, 38, 39, 94, 95, 96, 97, 98] (by decide +kernel) (by decide +kernel)
set_option maxRecDepth 20000 in
theorem gX2_oddsOf_X6_copyFrom : GoodIn wsX2_oddsOf (wsV RX2 31 RX6 yX6_copyFrom wsX6_copyFrom) := goodIn_app (goodIn_of _ (by decide +kernel)) ggX2_oddsOf_X6_copyFrom
set_option maxRecDepth 20000 in
theorem ggX2_oddsOf_X6_melt : GoodIn wsX2_oddsOf wsX6_melt := goodIn_r _ [43, 35, 38, 44, 45, 46, 47, 48, 49, 50, 33, 51, 36, 39, 37, 52, 53, 54, 55, 56, 57, 58, 94, 95, 96, 97, 98] (by decide +kernel) (by decide +kernel)
set_option maxRecDepth 20000 in
theorem gX2_oddsOf_X6_melt : GoodIn wsX2_oddsOf (wsV RX2 133 RX6 yX6_melt wsX6_melt) := goodIn_app (goodIn_of _ (by decide +kernel)) ggX2_oddsOf_X6_melt
set_option maxRecDepth 20000 in
theorem ggX2_oddsOf_X2_oddsOf : GoodIn wsX2_oddsOf wsX2_oddsOf := goodIn_r _ [0, 1, 2, 3, 4, 5, 6, 7, 8, 9, 10, 11, 12, 13, 14, 15, 16, 17, 18, 19, 20, 21, 22, 23, 24, 25, 26, 27, 28, 29, 30, 31, 32, 33, 34, 35, 36, 37, 38, 39, 40, 41, 42, 43, 44, 45, 46, 47, 48, 49, 50, 51, 52, 53, 54, 55, 56, 57, 58, 59, 60, 61, 62, 63, 64, 65, 66, 67, 68, 69, 70, 71, 72, 73, 74, 75, 76, 77, 78, 79, 80, 81, 82, 83, 84, 85, 86, 87, 88, 89, 90, 91, 92, 93, 94, 95, 96, 97, 98] (by decide +kernel) (by decide +kernel)
set_option maxRecDepth 20000 in
theorem gX2_oddsOf_X2_oddsOf : GoodIn wsX2_oddsOf (wsV RX2 127 RX2 yX2_oddsOf wsX2_oddsOf) := goodIn_app (goodIn_of _ (by decide +kernel)) ggX2_oddsOf_X2_oddsOf
set_option maxRecDepth 20000 in
theorem ggX2_oddsOf_X6_freeze : GoodIn wsX2_oddsOf wsX6_freeze := goodIn_r _ [66, 35, 38, 37, 48, 49, 50, 33, 51, 36, 39, 52, 53, 54, 55, 56, 57, 58, 67, 68, 69, 70, 71, 46, 72, 73, 74, 75, 94, 95, 96, 97, 98] (by decide +kernel) (by decide +kernel)
set_option maxRecDepth 20000 in
theorem gX2_oddsOf_X6_freeze : GoodIn wsX2_oddsOf (wsV RX2 105 RX6 yX6_freeze wsX6_freeze) := goodIn_app (goodIn_of _ (by decide +kernel)) ggX2_oddsOf_X6_freeze
theorem dX2_oddsOf_0 : decode cX2_oddsOf 0 = .ok (.lload_n 2, 1) := by decide +kernel
theorem dX2_oddsOf_1 : decode cX2_oddsOf 1 = .ok (.lconst 0, 1) := by decide +kernel
theorem dX2_oddsOf_2 : decode cX2_oddsOf 2 = .ok (.lcmp, 1) := by decide +kernel
theorem dX2_oddsOf_3 : decode cX2_oddsOf 3 = .ok (.ifCond .ne 5, 3) := by decide +kernel
theorem dX2_oddsOf_6 : decode cX2_oddsOf 6 = .ok (.lconst 0, 1) := by decide +kernel
theorem dX2_oddsOf_7 : decode cX2_oddsOf 7 = .ok (.lreturn, 1) := by decide +kernel
theorem dX2_oddsOf_8 : decode cX2_oddsOf 8 = .ok (.iload_n 1, 1) := by decide +kernel
theorem dX2_oddsOf_9 : decode cX2_oddsOf 9 = .ok (.aload_n 0, 1) := by decide +kernel
theorem dX2_oddsOf_10 : decode cX2_oddsOf 10 = .ok (.getfield 41, 3) := by decide +kernel
theorem dX2_oddsOf_13 : decode cX2_oddsOf 13 = .ok (.if_icmp .lt 37, 3) := by decide +kernel
theorem dX2_oddsOf_16 : decode cX2_oddsOf 16 = .ok (.aload_n 0, 1) := by decide +kernel
theorem dX2_oddsOf_17 : decode cX2_oddsOf 17 = .ok (.getfield 12, 3) := by decide +kernel
theorem dX2_oddsOf_20 : decode cX2_oddsOf 20 = .ok (.aload_n 0, 1) := by decide +kernel
theorem dX2_oddsOf_21 : decode cX2_oddsOf 21 = .ok (.getfield 20, 3) := by decide +kernel
theorem dX2_oddsOf_24 : decode cX2_oddsOf 24 = .ok (.iload_n 1, 1) := by decide +kernel
theorem dX2_oddsOf_25 : decode cX2_oddsOf 25 = .ok (.aaload, 1) := by decide +kernel
theorem dX2_oddsOf_26 : decode cX2_oddsOf 26 = .ok (.aload_n 0, 1) := by decide +kernel
theorem dX2_oddsOf_27 : decode cX2_oddsOf 27 = .ok (.getfield 57, 3) := by decide +kernel
theorem dX2_oddsOf_30 : decode cX2_oddsOf 30 = .ok (.aload_n 0, 1) := by decide +kernel
theorem dX2_oddsOf_31 : decode cX2_oddsOf 31 = .ok (.getfield 64, 3) := by decide +kernel
theorem dX2_oddsOf_34 : decode cX2_oddsOf 34 = .ok (.aload_n 0, 1) := by decide +kernel
theorem dX2_oddsOf_35 : decode cX2_oddsOf 35 = .ok (.getfield 45, 3) := by decide +kernel
theorem dX2_oddsOf_38 : decode cX2_oddsOf 38 = .ok (.invokevirtual 109, 3) := by decide +kernel
theorem dX2_oddsOf_41 : decode cX2_oddsOf 41 = .ok (.ifCond .eq 7, 3) := by decide +kernel
theorem dX2_oddsOf_44 : decode cX2_oddsOf 44 = .ok (.lload_n 2, 1) := by decide +kernel
theorem dX2_oddsOf_45 : decode cX2_oddsOf 45 = .ok (.goto 4, 3) := by decide +kernel
theorem dX2_oddsOf_48 : decode cX2_oddsOf 48 = .ok (.lconst 0, 1) := by decide +kernel
theorem dX2_oddsOf_49 : decode cX2_oddsOf 49 = .ok (.lreturn, 1) := by decide +kernel
theorem dX2_oddsOf_50 : decode cX2_oddsOf 50 = .ok (.aload_n 0, 1) := by decide +kernel
theorem dX2_oddsOf_51 : decode cX2_oddsOf 51 = .ok (.getfield 20, 3) := by decide +kernel
theorem dX2_oddsOf_54 : decode cX2_oddsOf 54 = .ok (.iload_n 1, 1) := by decide +kernel
theorem dX2_oddsOf_55 : decode cX2_oddsOf 55 = .ok (.iconst 1, 1) := by decide +kernel
theorem dX2_oddsOf_56 : decode cX2_oddsOf 56 = .ok (.iadd, 1) := by decide +kernel
theorem dX2_oddsOf_57 : decode cX2_oddsOf 57 = .ok (.aaload, 1) := by decide +kernel
theorem dX2_oddsOf_58 : decode cX2_oddsOf 58 = .ok (.astore 4, 2) := by decide +kernel
theorem dX2_oddsOf_60 : decode cX2_oddsOf 60 = .ok (.lload_n 2, 1) := by decide +kernel
theorem dX2_oddsOf_61 : decode cX2_oddsOf 61 = .ok (.aload_n 0, 1) := by decide +kernel
theorem dX2_oddsOf_62 : decode cX2_oddsOf 62 = .ok (.getfield 122, 3) := by decide +kernel
theorem dX2_oddsOf_65 : decode cX2_oddsOf 65 = .ok (.i2l, 1) := by decide +kernel
theorem dX2_oddsOf_66 : decode cX2_oddsOf 66 = .ok (.lmul, 1) := by decide +kernel
theorem dX2_oddsOf_67 : decode cX2_oddsOf 67 = .ok (.ldc2_w 131, 3) := by decide +kernel
theorem dX2_oddsOf_70 : decode cX2_oddsOf 70 = .ok (.ldiv, 1) := by decide +kernel
theorem dX2_oddsOf_71 : decode cX2_oddsOf 71 = .ok (.lstore 5, 2) := by decide +kernel
theorem dX2_oddsOf_73 : decode cX2_oddsOf 73 = .ok (.aload 4, 2) := by decide +kernel
theorem dX2_oddsOf_75 : decode cX2_oddsOf 75 = .ok (.aload_n 0, 1) := by decide +kernel
theorem dX2_oddsOf_76 : decode cX2_oddsOf 76 = .ok (.getfield 20, 3) := by decide +kernel
theorem dX2_oddsOf_79 : decode cX2_oddsOf 79 = .ok (.iload_n 1, 1) := by decide +kernel
theorem dX2_oddsOf_80 : decode cX2_oddsOf 80 = .ok (.aaload, 1) := by decide +kernel
theorem dX2_oddsOf_81 : decode cX2_oddsOf 81 = .ok (.invokevirtual 31, 3) := by decide +kernel
theorem dX2_oddsOf_84 : decode cX2_oddsOf 84 = .ok (.aload 4, 2) := by decide +kernel
theorem dX2_oddsOf_86 : decode cX2_oddsOf 86 = .ok (.aload_n 0, 1) := by decide +kernel
theorem dX2_oddsOf_87 : decode cX2_oddsOf 87 = .ok (.getfield 119, 3) := by decide +kernel
theorem dX2_oddsOf_90 : decode cX2_oddsOf 90 = .ok (.invokevirtual 133, 3) := by decide +kernel
theorem dX2_oddsOf_93 : decode cX2_oddsOf 93 = .ok (.aload_n 0, 1) := by decide +kernel
theorem dX2_oddsOf_94 : decode cX2_oddsOf 94 = .ok (.iload_n 1, 1) := by decide +kernel
theorem dX2_oddsOf_95 : decode cX2_oddsOf 95 = .ok (.iconst 1, 1) := by decide +kernel
theorem dX2_oddsOf_96 : decode cX2_oddsOf 96 = .ok (.iadd, 1) := by decide +kernel
theorem dX2_oddsOf_97 : decode cX2_oddsOf 97 = .ok (.lload 5, 2) := by decide +kernel
theorem dX2_oddsOf_99 : decode cX2_oddsOf 99 = .ok (.invokevirtual 127, 3) := by decide +kernel
theorem dX2_oddsOf_102 : decode cX2_oddsOf 102 = .ok (.lstore 7, 2) := by decide +kernel
theorem dX2_oddsOf_104 : decode cX2_oddsOf 104 = .ok (.aload 4, 2) := by decide +kernel
theorem dX2_oddsOf_106 : decode cX2_oddsOf 106 = .ok (.aload_n 0, 1) := by decide +kernel
theorem dX2_oddsOf_107 : decode cX2_oddsOf 107 = .ok (.getfield 20, 3) := by decide +kernel
theorem dX2_oddsOf_110 : decode cX2_oddsOf 110 = .ok (.iload_n 1, 1) := by decide +kernel
theorem dX2_oddsOf_111 : decode cX2_oddsOf 111 = .ok (.aaload, 1) := by decide +kernel
theorem dX2_oddsOf_112 : decode cX2_oddsOf 112 = .ok (.invokevirtual 31, 3) := by decide +kernel
theorem dX2_oddsOf_115 : decode cX2_oddsOf 115 = .ok (.aload 4, 2) := by decide +kernel
theorem dX2_oddsOf_117 : decode cX2_oddsOf 117 = .ok (.aload_n 0, 1) := by decide +kernel
theorem dX2_oddsOf_118 : decode cX2_oddsOf 118 = .ok (.getfield 67, 3) := by decide +kernel
theorem dX2_oddsOf_121 : decode cX2_oddsOf 121 = .ok (.invokevirtual 105, 3) := by decide +kernel
theorem dX2_oddsOf_124 : decode cX2_oddsOf 124 = .ok (.lload 7, 2) := by decide +kernel
theorem dX2_oddsOf_126 : decode cX2_oddsOf 126 = .ok (.aload_n 0, 1) := by decide +kernel
theorem dX2_oddsOf_127 : decode cX2_oddsOf 127 = .ok (.iload_n 1, 1) := by decide +kernel
theorem dX2_oddsOf_128 : decode cX2_oddsOf 128 = .ok (.iconst 1, 1) := by decide +kernel
theorem dX2_oddsOf_129 : decode cX2_oddsOf 129 = .ok (.iadd, 1) := by decide +kernel
theorem dX2_oddsOf_130 : decode cX2_oddsOf 130 = .ok (.lload_n 2, 1) := by decide +kernel
theorem dX2_oddsOf_131 : decode cX2_oddsOf 131 = .ok (.lload 5, 2) := by decide +kernel
theorem dX2_oddsOf_133 : decode cX2_oddsOf 133 = .ok (.lsub, 1) := by decide +kernel
theorem dX2_oddsOf_134 : decode cX2_oddsOf 134 = .ok (.invokevirtual 127, 3) := by decide +kernel
theorem dX2_oddsOf_137 : decode cX2_oddsOf 137 = .ok (.ladd, 1) := by decide +kernel
theorem dX2_oddsOf_138 : decode cX2_oddsOf 138 = .ok (.lreturn, 1) := by decide +kernel
theorem dX3_init_0 : decode cX3_init 0 = .ok (.aload_n 0, 1) := by decide +kernel
theorem dX3_init_1 : decode cX3_init 1 = .ok (.invokespecial 3, 3) := by decide +kernel
theorem dX3_init_4 : decode cX3_init 4 = .ok (.aload_n 0, 1) := by decide +kernel
theorem dX3_init_5 : decode cX3_init 5 = .ok (.sipush 230, 3) := by decide +kernel
theorem dX3_init_8 : decode cX3_init 8 = .ok (.newarray .int, 2) := by decide +kernel
theorem dX3_init_10 : decode cX3_init 10 = .ok (.putfield 11, 3) := by decide +kernel
theorem dX3_init_13 : decode cX3_init 13 = .ok (.aload_n 0, 1) := by decide +kernel
theorem dX3_init_14 : decode cX3_init 14 = .ok (.bipush 9, 2) := by decide +kernel
theorem dX3_init_16 : decode cX3_init 16 = .ok (.newarray .int, 2) := by decide +kernel
theorem dX3_init_18 : decode cX3_init 18 = .ok (.putfield 17, 3) := by decide +kernel
theorem dX3_init_21 : decode cX3_init 21 = .ok (.aload_n 0, 1) := by decide +kernel
theorem dX3_init_22 : decode cX3_init 22 = .ok (.bipush 12, 2) := by decide +kernel
theorem dX3_init_24 : decode cX3_init 24 = .ok (.newarray .int, 2) := by decide +kernel
theorem dX3_init_26 : decode cX3_init 26 = .ok (.putfield 22, 3) := by decide +kernel
theorem dX3_init_29 : decode cX3_init 29 = .ok (.aload_n 0, 1) := by decide +kernel
theorem dX3_init_30 : decode cX3_init 30 = .ok (.bipush 12, 2) := by decide +kernel
theorem dX3_init_32 : decode cX3_init 32 = .ok (.newarray .int, 2) := by decide +kernel
theorem dX3_init_34 : decode cX3_init 34 = .ok (.putfield 25, 3) := by decide +kernel
theorem dX3_init_37 : decode cX3_init 37 = .ok (.aload_n 0, 1) := by decide +kernel
theorem dX3_init_38 : decode cX3_init 38 = .ok (.iconst (-1), 1) := by decide +kernel
theorem dX3_init_39 : decode cX3_init 39 = .ok (.putfield 28, 3) := by decide +kernel
theorem dX3_init_42 : decode cX3_init 42 = .ok (.return_, 1) := by decide +kernel
theorem dX3_isFull_0 : decode cX3_isFull 0 = .ok (.aload_n 0, 1) := by decide +kernel
theorem dX3_isFull_1 : decode cX3_isFull 1 = .ok (.getfield 32, 3) := by decide +kernel
theorem dX3_isFull_4 : decode cX3_isFull 4 = .ok (.sipush 230, 3) := by decide +kernel
theorem dX3_isFull_7 : decode cX3_isFull 7 = .ok (.if_icmp .lt 7, 3) := by decide +kernel
theorem dX3_isFull_10 : decode cX3_isFull 10 = .ok (.iconst 1, 1) := by decide +kernel
theorem dX3_isFull_11 : decode cX3_isFull 11 = .ok (.goto 4, 3) := by decide +kernel
theorem dX3_isFull_14 : decode cX3_isFull 14 = .ok (.iconst 0, 1) := by decide +kernel
theorem dX3_isFull_15 : decode cX3_isFull 15 = .ok (.ireturn, 1) := by decide +kernel
set_option maxRecDepth 20000 in
theorem ggX3_add_X3_isFull : GoodIn wsX3_add wsX3_isFull := goodIn_r _ [7, 2, 8, 9, 10, 11, 12, 13, 14, 15, 16, 17] (by decide +kernel) (by decide +kernel)
set_option maxRecDepth 20000 in
theorem gX3_add_X3_isFull : GoodIn wsX3_add (wsV RX3 35 RX3 yX3_isFull wsX3_isFull) := goodIn_app (goodIn_of _ (by decide +kernel)) ggX3_add_X3_isFull
theorem dX3_add_0 : decode cX3_add 0 = .ok (.aload_n 0, 1) := by decide +kernel
theorem dX3_add_1 : decode cX3_add 1 = .ok (.invokevirtual 35, 3) := by decide +kernel
theorem dX3_add_4 : decode cX3_add 4 = .ok (.ifCond .ne 23, 3) := by decide +kernel
theorem dX3_add_7 : decode cX3_add 7 = .ok (.aload_n 0, 1) := by decide +kernel
theorem dX3_add_8 : decode cX3_add 8 = .ok (.getfield 11, 3) := by decide +kernel
theorem dX3_add_11 : decode cX3_add 11 = .ok (.aload_n 0, 1) := by decide +kernel
theorem dX3_add_12 : decode cX3_add 12 = .ok (.getfield 32, 3) := by decide +kernel
theorem dX3_add_15 : decode cX3_add 15 = .ok (.iload_n 1, 1) := by decide +kernel
theorem dX3_add_16 : decode cX3_add 16 = .ok (.iastore, 1) := by decide +kernel
theorem dX3_add_17 : decode cX3_add 17 = .ok (.aload_n 0, 1) := by decide +kernel
theorem dX3_add_18 : decode cX3_add 18 = .ok (.dup, 1) := by decide +kernel
theorem dX3_add_19 : decode cX3_add 19 = .ok (.getfield 32, 3) := by decide +kernel
theorem dX3_add_22 : decode cX3_add 22 = .ok (.iconst 1, 1) := by decide +kernel
theorem dX3_add_23 : decode cX3_add 23 = .ok (.iadd, 1) := by decide +kernel
theorem dX3_add_24 : decode cX3_add 24 = .ok (.putfield 32, 3) := by decide +kernel
theorem dX3_add_27 : decode cX3_add 27 = .ok (.return_, 1) := by decide +kernel
set_option maxRecDepth 20000 in
theorem ggX3_read_X3_skipBlanks : GoodIn wsX3_read wsX3_skipBlanks := goodIn_r _ [12, 1, 13, 14, 62, 63, 64, 65, 66, 67, 68, 69, 70, 71] (by decide +kernel) (by decide +kernel)
set_option maxRecDepth 20000 in
theorem gX3_read_X3_skipBlanks : GoodIn wsX3_read (wsV RX3 54 RX3 yX3_skipBlanks wsX3_skipBlanks) := goodIn_app (goodIn_of _ (by decide +kernel)) ggX3_read_X3_skipBlanks
set_option maxRecDepth 20000 in
theorem ggX3_read_X3_isAtEnd : GoodIn wsX3_read wsX3_isAtEnd := goodIn_r _ [18, 1, 13, 62, 63, 64, 65, 66, 67, 68, 69, 70, 71] (by decide +kernel) (by decide +kernel)
set_option maxRecDepth 20000 in
theorem gX3_read_X3_isAtEnd : GoodIn wsX3_read (wsV RX3 57 RX3 yX3_isAtEnd wsX3_isAtEnd) := goodIn_app (goodIn_of _ (by decide +kernel)) ggX3_read_X3_isAtEnd
set_option maxRecDepth 20000 in
theorem ggX3_read_X3_readClause : GoodIn wsX3_read wsX3_readClause := goodIn_r _ [22, 14, 1, 2, 23, 24, 11, 25, 26, 27, 28, 29, 5, 4, 30, 31, 32, 33, 3, 34, 35, 36, 37, 38, 39, 40, 41, 42, 43, 13, 8, 9, 10, 12, 44, 45, 46, 47, 48, 49, 15, 16, 17, 18, 50, 51, 52, 53, 54, 55, 56, 57, 58, 59, 60, 61, 6, 62, 63, 64, 65, 66, 67, 68, 69, 70, 71] (by decide +kernel) (by decide +kernel)
set_option maxRecDepth 20000 in
theorem gX3_read_X3_readClause : GoodIn wsX3_read (wsV RX3 60 RX3 yX3_readClause wsX3_readClause) := goodIn_app (goodIn_of _ (by decide +kernel)) ggX3_read_X3_readClause
theorem dX3_read_0 : decode cX3_read 0 = .ok (.aload_n 0, 1) := by decide +kernel
theorem dX3_read_1 : decode cX3_read 1 = .ok (.iconst 0, 1) := by decide +kernel
theorem dX3_read_2 : decode cX3_read 2 = .ok (.putfield 39, 3) := by decide +kernel
theorem dX3_read_5 : decode cX3_read 5 = .ok (.aload_n 0, 1) := by decide +kernel
theorem dX3_read_6 : decode cX3_read 6 = .ok (.iconst 0, 1) := by decide +kernel
theorem dX3_read_7 : decode cX3_read 7 = .ok (.putfield 42, 3) := by decide +kernel
theorem dX3_read_10 : decode cX3_read 10 = .ok (.aload_n 0, 1) := by decide +kernel
theorem dX3_read_11 : decode cX3_read 11 = .ok (.iconst 0, 1) := by decide +kernel
theorem dX3_read_12 : decode cX3_read 12 = .ok (.putfield 45, 3) := by decide +kernel
theorem dX3_read_15 : decode cX3_read 15 = .ok (.aload_n 0, 1) := by decide +kernel
theorem dX3_read_16 : decode cX3_read 16 = .ok (.iconst 0, 1) := by decide +kernel
theorem dX3_read_17 : decode cX3_read 17 = .ok (.putfield 48, 3) := by decide +kernel
theorem dX3_read_20 : decode cX3_read 20 = .ok (.aload_n 0, 1) := by decide +kernel
theorem dX3_read_21 : decode cX3_read 21 = .ok (.iconst (-1), 1) := by decide +kernel
theorem dX3_read_22 : decode cX3_read 22 = .ok (.putfield 28, 3) := by decide +kernel
theorem dX3_read_25 : decode cX3_read 25 = .ok (.iconst 0, 1) := by decide +kernel
theorem dX3_read_26 : decode cX3_read 26 = .ok (.istore_n 1, 1) := by decide +kernel
theorem dX3_read_27 : decode cX3_read 27 = .ok (.iload_n 1, 1) := by decide +kernel
theorem dX3_read_28 : decode cX3_read 28 = .ok (.bipush 9, 2) := by decide +kernel
theorem dX3_read_30 : decode cX3_read 30 = .ok (.if_icmp .ge 20, 3) := by decide +kernel
theorem dX3_read_33 : decode cX3_read 33 = .ok (.aload_n 0, 1) := by decide +kernel
theorem dX3_read_34 : decode cX3_read 34 = .ok (.getfield 17, 3) := by decide +kernel
theorem dX3_read_37 : decode cX3_read 37 = .ok (.iload_n 1, 1) := by decide +kernel
theorem dX3_read_38 : decode cX3_read 38 = .ok (.getstatic 51, 3) := by decide +kernel
theorem dX3_read_41 : decode cX3_read 41 = .ok (.iload_n 1, 1) := by decide +kernel
theorem dX3_read_42 : decode cX3_read 42 = .ok (.iaload, 1) := by decide +kernel
theorem dX3_read_43 : decode cX3_read 43 = .ok (.iastore, 1) := by decide +kernel
theorem dX3_read_44 : decode cX3_read 44 = .ok (.iinc 1 1, 3) := by decide +kernel
theorem dX3_read_47 : decode cX3_read 47 = .ok (.goto (-20), 3) := by decide +kernel
theorem dX3_read_50 : decode cX3_read 50 = .ok (.aload_n 0, 1) := by decide +kernel
theorem dX3_read_51 : decode cX3_read 51 = .ok (.invokevirtual 54, 3) := by decide +kernel
theorem dX3_read_54 : decode cX3_read 54 = .ok (.iconst 0, 1) := by decide +kernel
theorem dX3_read_55 : decode cX3_read 55 = .ok (.istore_n 1, 1) := by decide +kernel
theorem dX3_read_56 : decode cX3_read 56 = .ok (.iload_n 1, 1) := by decide +kernel
theorem dX3_read_57 : decode cX3_read 57 = .ok (.sipush 230, 3) := by decide +kernel
theorem dX3_read_60 : decode cX3_read 60 = .ok (.if_icmp .ge 29, 3) := by decide +kernel
theorem dX3_read_63 : decode cX3_read 63 = .ok (.aload_n 0, 1) := by decide +kernel
theorem dX3_read_64 : decode cX3_read 64 = .ok (.invokevirtual 57, 3) := by decide +kernel
theorem dX3_read_67 : decode cX3_read 67 = .ok (.ifCond .ne 22, 3) := by decide +kernel
theorem dX3_read_70 : decode cX3_read 70 = .ok (.aload_n 0, 1) := by decide +kernel
theorem dX3_read_71 : decode cX3_read 71 = .ok (.invokevirtual 60, 3) := by decide +kernel
theorem dX3_read_74 : decode cX3_read 74 = .ok (.ifCond .ne 5, 3) := by decide +kernel
theorem dX3_read_77 : decode cX3_read 77 = .ok (.iconst 0, 1) := by decide +kernel
theorem dX3_read_78 : decode cX3_read 78 = .ok (.ireturn, 1) := by decide +kernel
theorem dX3_read_79 : decode cX3_read 79 = .ok (.aload_n 0, 1) := by decide +kernel
theorem dX3_read_80 : decode cX3_read 80 = .ok (.invokevirtual 54, 3) := by decide +kernel
theorem dX3_read_83 : decode cX3_read 83 = .ok (.iinc 1 1, 3) := by decide +kernel
theorem dX3_read_86 : decode cX3_read 86 = .ok (.goto (-30), 3) := by decide +kernel
theorem dX3_read_89 : decode cX3_read 89 = .ok (.iconst 1, 1) := by decide +kernel
theorem dX3_read_90 : decode cX3_read 90 = .ok (.ireturn, 1) := by decide +kernel
set_option maxRecDepth 20000 in
theorem ggX3_readClause_X3_clauseOf : GoodIn wsX3_readClause wsX3_clauseOf := goodIn_r _ [7] (by decide +kernel) (by decide +kernel)
set_option maxRecDepth 20000 in
theorem gX3_readClause_X3_clauseOf : GoodIn wsX3_readClause (va_wsS RX3 63 yX3_clauseOf wsX3_clauseOf) := goodIn_app (goodIn_of _ (by decide +kernel)) ggX3_readClause_X3_clauseOf
set_option maxRecDepth 20000 in
theorem ggX3_readClause_X3_failAt : GoodIn wsX3_readClause wsX3_failAt := goodIn_r _ [11, 12, 13, 57, 58, 59, 60, 61, 62, 63, 64, 65, 66] (by decide +kernel) (by decide +kernel)
set_option maxRecDepth 20000 in
theorem gX3_readClause_X3_failAt : GoodIn wsX3_readClause (wsV RX3 67 RX3 yX3_failAt wsX3_failAt) := goodIn_app (goodIn_of _ (by decide +kernel)) ggX3_readClause_X3_failAt
set_option maxRecDepth 20000 in
theorem ggX3_readClause_X3_readYards : GoodIn wsX3_readClause wsX3_readYards := goodIn_r _ [17, 18, 1, 2, 19, 20, 21, 6, 22, 23, 24, 25, 26, 27, 28, 29, 30, 31, 32, 33, 34, 35, 36, 8, 9, 10, 11, 12, 13, 37, 38, 39, 40, 41, 42, 43, 44, 45, 46, 47, 57, 58, 59, 60, 61, 62, 63, 64, 65, 66] (by decide +kernel) (by decide +kernel)
set_option maxRecDepth 20000 in
theorem gX3_readClause_X3_readYards : GoodIn wsX3_readClause (wsV RX3 71 RX3 yX3_readYards wsX3_readYards) := goodIn_app (goodIn_of _ (by decide +kernel)) ggX3_readClause_X3_readYards
set_option maxRecDepth 20000 in
theorem ggX3_readClause_X3_readNumbers : GoodIn wsX3_readClause wsX3_readNumbers := goodIn_r _ [51, 52, 53, 54, 55, 56, 25, 26, 27, 6, 28, 2, 29, 1, 30, 31, 32, 33, 34, 35, 36, 8, 9, 10, 11, 12, 13, 37, 38, 39, 44, 45, 46, 47, 40, 41, 42, 43, 57, 58, 59, 60, 61, 62, 63, 64, 65, 66] (by decide +kernel) (by decide +kernel)
set_option maxRecDepth 20000 in
theorem gX3_readClause_X3_readNumbers : GoodIn wsX3_readClause (wsV RX3 74 RX3 yX3_readNumbers wsX3_readNumbers) := goodIn_app (goodIn_of _ (by decide +kernel)) ggX3_readClause_X3_readNumbers
theorem dX3_readClause_0 : decode cX3_readClause 0 = .ok (.aload_n 0, 1) := by decide +kernel
theorem dX3_readClause_1 : decode cX3_readClause 1 = .ok (.getfield 11, 3) := by decide +kernel
theorem dX3_readClause_4 : decode cX3_readClause 4 = .ok (.aload_n 0, 1) := by decide +kernel
theorem dX3_readClause_5 : decode cX3_readClause 5 = .ok (.getfield 39, 3) := by decide +kernel
theorem dX3_readClause_8 : decode cX3_readClause 8 = .ok (.iaload, 1) := by decide +kernel
theorem dX3_readClause_9 : decode cX3_readClause 9 = .ok (.invokestatic 63, 3) := by decide +kernel
theorem dX3_readClause_12 : decode cX3_readClause 12 = .ok (.istore_n 1, 1) := by decide +kernel
theorem dX3_readClause_13 : decode cX3_readClause 13 = .ok (.aload_n 0, 1) := by decide +kernel
theorem dX3_readClause_14 : decode cX3_readClause 14 = .ok (.getfield 42, 3) := by decide +kernel
theorem dX3_readClause_17 : decode cX3_readClause 17 = .ok (.ifCond .ne 7, 3) := by decide +kernel
theorem dX3_readClause_20 : decode cX3_readClause 20 = .ok (.iload_n 1, 1) := by decide +kernel
theorem dX3_readClause_21 : decode cX3_readClause 21 = .ok (.ifCond .ne 7, 3) := by decide +kernel
theorem dX3_readClause_24 : decode cX3_readClause 24 = .ok (.iconst 1, 1) := by decide +kernel
theorem dX3_readClause_25 : decode cX3_readClause 25 = .ok (.goto 4, 3) := by decide +kernel
theorem dX3_readClause_28 : decode cX3_readClause 28 = .ok (.iconst 0, 1) := by decide +kernel
theorem dX3_readClause_29 : decode cX3_readClause 29 = .ok (.istore_n 2, 1) := by decide +kernel
theorem dX3_readClause_30 : decode cX3_readClause 30 = .ok (.iload_n 1, 1) := by decide +kernel
theorem dX3_readClause_31 : decode cX3_readClause 31 = .ok (.iconst (-1), 1) := by decide +kernel
theorem dX3_readClause_32 : decode cX3_readClause 32 = .ok (.if_icmp .eq 7, 3) := by decide +kernel
theorem dX3_readClause_35 : decode cX3_readClause 35 = .ok (.iload_n 2, 1) := by decide +kernel
theorem dX3_readClause_36 : decode cX3_readClause 36 = .ok (.ifCond .ne 13, 3) := by decide +kernel
theorem dX3_readClause_39 : decode cX3_readClause 39 = .ok (.aload_n 0, 1) := by decide +kernel
theorem dX3_readClause_40 : decode cX3_readClause 40 = .ok (.aload_n 0, 1) := by decide +kernel
theorem dX3_readClause_41 : decode cX3_readClause 41 = .ok (.getfield 39, 3) := by decide +kernel
theorem dX3_readClause_44 : decode cX3_readClause 44 = .ok (.iconst 1, 1) := by decide +kernel
theorem dX3_readClause_45 : decode cX3_readClause 45 = .ok (.invokevirtual 67, 3) := by decide +kernel
theorem dX3_readClause_48 : decode cX3_readClause 48 = .ok (.ireturn, 1) := by decide +kernel
theorem dX3_readClause_49 : decode cX3_readClause 49 = .ok (.aload_n 0, 1) := by decide +kernel
theorem dX3_readClause_50 : decode cX3_readClause 50 = .ok (.getfield 42, 3) := by decide +kernel
theorem dX3_readClause_53 : decode cX3_readClause 53 = .ok (.iload_n 1, 1) := by decide +kernel
theorem dX3_readClause_54 : decode cX3_readClause 54 = .ok (.ishr, 1) := by decide +kernel
theorem dX3_readClause_55 : decode cX3_readClause 55 = .ok (.iconst 1, 1) := by decide +kernel
theorem dX3_readClause_56 : decode cX3_readClause 56 = .ok (.iand, 1) := by decide +kernel
theorem dX3_readClause_57 : decode cX3_readClause 57 = .ok (.iconst 1, 1) := by decide +kernel
theorem dX3_readClause_58 : decode cX3_readClause 58 = .ok (.if_icmp .ne 13, 3) := by decide +kernel
theorem dX3_readClause_61 : decode cX3_readClause 61 = .ok (.aload_n 0, 1) := by decide +kernel
theorem dX3_readClause_62 : decode cX3_readClause 62 = .ok (.aload_n 0, 1) := by decide +kernel
theorem dX3_readClause_63 : decode cX3_readClause 63 = .ok (.getfield 39, 3) := by decide +kernel
theorem dX3_readClause_66 : decode cX3_readClause 66 = .ok (.iconst 3, 1) := by decide +kernel
theorem dX3_readClause_67 : decode cX3_readClause 67 = .ok (.invokevirtual 67, 3) := by decide +kernel
theorem dX3_readClause_70 : decode cX3_readClause 70 = .ok (.ireturn, 1) := by decide +kernel
theorem dX3_readClause_71 : decode cX3_readClause 71 = .ok (.aload_n 0, 1) := by decide +kernel
theorem dX3_readClause_72 : decode cX3_readClause 72 = .ok (.dup, 1) := by decide +kernel
theorem dX3_readClause_73 : decode cX3_readClause 73 = .ok (.getfield 42, 3) := by decide +kernel
theorem dX3_readClause_76 : decode cX3_readClause 76 = .ok (.iconst 1, 1) := by decide +kernel
theorem dX3_readClause_77 : decode cX3_readClause 77 = .ok (.iload_n 1, 1) := by decide +kernel
theorem dX3_readClause_78 : decode cX3_readClause 78 = .ok (.ishl, 1) := by decide +kernel
theorem dX3_readClause_79 : decode cX3_readClause 79 = .ok (.ior, 1) := by decide +kernel
theorem dX3_readClause_80 : decode cX3_readClause 80 = .ok (.putfield 42, 3) := by decide +kernel
theorem dX3_readClause_83 : decode cX3_readClause 83 = .ok (.aload_n 0, 1) := by decide +kernel
theorem dX3_readClause_84 : decode cX3_readClause 84 = .ok (.dup, 1) := by decide +kernel
theorem dX3_readClause_85 : decode cX3_readClause 85 = .ok (.getfield 39, 3) := by decide +kernel
theorem dX3_readClause_88 : decode cX3_readClause 88 = .ok (.iconst 1, 1) := by decide +kernel
theorem dX3_readClause_89 : decode cX3_readClause 89 = .ok (.iadd, 1) := by decide +kernel
theorem dX3_readClause_90 : decode cX3_readClause 90 = .ok (.putfield 39, 3) := by decide +kernel
theorem dX3_readClause_93 : decode cX3_readClause 93 = .ok (.iload_n 1, 1) := by decide +kernel
theorem dX3_readClause_94 : decode cX3_readClause 94 = .ok (.ifCond .ne 10, 3) := by decide +kernel
theorem dX3_readClause_97 : decode cX3_readClause 97 = .ok (.aload_n 0, 1) := by decide +kernel
theorem dX3_readClause_98 : decode cX3_readClause 98 = .ok (.invokevirtual 71, 3) := by decide +kernel
theorem dX3_readClause_101 : decode cX3_readClause 101 = .ok (.goto 8, 3) := by decide +kernel
theorem dX3_readClause_104 : decode cX3_readClause 104 = .ok (.aload_n 0, 1) := by decide +kernel
theorem dX3_readClause_105 : decode cX3_readClause 105 = .ok (.iload_n 1, 1) := by decide +kernel
theorem dX3_readClause_106 : decode cX3_readClause 106 = .ok (.invokevirtual 74, 3) := by decide +kernel
theorem dX3_readClause_109 : decode cX3_readClause 109 = .ok (.ireturn, 1) := by decide +kernel
theorem dX3_clauseOf_0 : decode cX3_clauseOf 0 = .ok (.iload_n 0, 1) := by decide +kernel
theorem dX3_clauseOf_1 : decode cX3_clauseOf 1 = .ok (.lookupswitch 51 #[(98, 45), (99, 49), (103, 47), (121, 43)], 43) := by decide +kernel
theorem dX3_clauseOf_44 : decode cX3_clauseOf 44 = .ok (.iconst 0, 1) := by decide +kernel
theorem dX3_clauseOf_45 : decode cX3_clauseOf 45 = .ok (.ireturn, 1) := by decide +kernel
theorem dX3_clauseOf_46 : decode cX3_clauseOf 46 = .ok (.iconst 1, 1) := by decide +kernel
theorem dX3_clauseOf_47 : decode cX3_clauseOf 47 = .ok (.ireturn, 1) := by decide +kernel
theorem dX3_clauseOf_48 : decode cX3_clauseOf 48 = .ok (.iconst 2, 1) := by decide +kernel
theorem dX3_clauseOf_49 : decode cX3_clauseOf 49 = .ok (.ireturn, 1) := by decide +kernel
theorem dX3_clauseOf_50 : decode cX3_clauseOf 50 = .ok (.iconst 3, 1) := by decide +kernel
theorem dX3_clauseOf_51 : decode cX3_clauseOf 51 = .ok (.ireturn, 1) := by decide +kernel
theorem dX3_clauseOf_52 : decode cX3_clauseOf 52 = .ok (.iconst (-1), 1) := by decide +kernel
theorem dX3_clauseOf_53 : decode cX3_clauseOf 53 = .ok (.ireturn, 1) := by decide +kernel
set_option maxRecDepth 20000 in
theorem ggX3_readYards_X3_readYard : GoodIn wsX3_readYards wsX3_readYard := goodIn_r _ [8, 9, 10, 1, 11, 12, 13, 7, 14, 3, 15, 2, 16, 17, 18, 19, 20, 21, 22, 23, 24, 25, 26, 27, 28, 29, 30, 31, 40, 41, 42, 43, 44, 45, 46, 47, 48, 49] (by decide +kernel) (by decide +kernel)
set_option maxRecDepth 20000 in
theorem gX3_readYards_X3_readYard : GoodIn wsX3_readYards (wsV RX3 78 RX3 yX3_readYard wsX3_readYard) := goodIn_app (goodIn_of _ (by decide +kernel)) ggX3_readYards_X3_readYard
set_option maxRecDepth 20000 in
theorem ggX3_readYards_X3_skipBlanks : GoodIn wsX3_readYards wsX3_skipBlanks := goodIn_r _ [19, 3, 15, 2, 40, 41, 42, 43, 44, 45, 46, 47, 48, 49] (by decide +kernel) (by decide +kernel)
set_option maxRecDepth 20000 in
theorem gX3_readYards_X3_skipBlanks : GoodIn wsX3_readYards (wsV RX3 54 RX3 yX3_skipBlanks wsX3_skipBlanks) := goodIn_app (goodIn_of _ (by decide +kernel)) ggX3_readYards_X3_skipBlanks
set_option maxRecDepth 20000 in
theorem ggX3_readYards_X3_isAtEnd : GoodIn wsX3_readYards wsX3_isAtEnd := goodIn_r _ [35, 3, 15, 40, 41, 42, 43, 44, 45, 46, 47, 48, 49] (by decide +kernel) (by decide +kernel)
set_option maxRecDepth 20000 in
theorem gX3_readYards_X3_isAtEnd : GoodIn wsX3_readYards (wsV RX3 57 RX3 yX3_isAtEnd wsX3_isAtEnd) := goodIn_app (goodIn_of _ (by decide +kernel)) ggX3_readYards_X3_isAtEnd
set_option maxRecDepth 20000 in
theorem ggX3_readYards_X3_readClauseEnd : GoodIn wsX3_readYards wsX3_readClauseEnd := goodIn_r _ [39, 2, 3, 16, 17, 18, 7, 19, 15, 32, 33, 34, 35, 23, 24, 25, 26, 27, 28, 40, 41, 42, 43, 44, 45, 46, 47, 48, 49] (by decide +kernel) (by decide +kernel)
set_option maxRecDepth 20000 in
theorem gX3_readYards_X3_readClauseEnd : GoodIn wsX3_readYards (wsV RX3 81 RX3 yX3_readClauseEnd wsX3_readClauseEnd) := goodIn_app (goodIn_of _ (by decide +kernel)) ggX3_readYards_X3_readClauseEnd
theorem dX3_readYards_0 : decode cX3_readYards 0 = .ok (.iconst 0, 1) := by decide +kernel
theorem dX3_readYards_1 : decode cX3_readYards 1 = .ok (.istore_n 1, 1) := by decide +kernel
theorem dX3_readYards_2 : decode cX3_readYards 2 = .ok (.iload_n 1, 1) := by decide +kernel
theorem dX3_readYards_3 : decode cX3_readYards 3 = .ok (.bipush 12, 2) := by decide +kernel
theorem dX3_readYards_5 : decode cX3_readYards 5 = .ok (.if_icmp .ge 76, 3) := by decide +kernel
theorem dX3_readYards_8 : decode cX3_readYards 8 = .ok (.aload_n 0, 1) := by decide +kernel
theorem dX3_readYards_9 : decode cX3_readYards 9 = .ok (.iload_n 1, 1) := by decide +kernel
theorem dX3_readYards_10 : decode cX3_readYards 10 = .ok (.invokevirtual 78, 3) := by decide +kernel
theorem dX3_readYards_13 : decode cX3_readYards 13 = .ok (.ifCond .ne 5, 3) := by decide +kernel
theorem dX3_readYards_16 : decode cX3_readYards 16 = .ok (.iconst 0, 1) := by decide +kernel
theorem dX3_readYards_17 : decode cX3_readYards 17 = .ok (.ireturn, 1) := by decide +kernel
theorem dX3_readYards_18 : decode cX3_readYards 18 = .ok (.aload_n 0, 1) := by decide +kernel
theorem dX3_readYards_19 : decode cX3_readYards 19 = .ok (.invokevirtual 54, 3) := by decide +kernel
theorem dX3_readYards_22 : decode cX3_readYards 22 = .ok (.aload_n 0, 1) := by decide +kernel
theorem dX3_readYards_23 : decode cX3_readYards 23 = .ok (.getfield 45, 3) := by decide +kernel
theorem dX3_readYards_26 : decode cX3_readYards 26 = .ok (.bipush 12, 2) := by decide +kernel
theorem dX3_readYards_28 : decode cX3_readYards 28 = .ok (.if_icmp .ge 28, 3) := by decide +kernel
theorem dX3_readYards_31 : decode cX3_readYards 31 = .ok (.aload_n 0, 1) := by decide +kernel
theorem dX3_readYards_32 : decode cX3_readYards 32 = .ok (.invokevirtual 57, 3) := by decide +kernel
theorem dX3_readYards_35 : decode cX3_readYards 35 = .ok (.ifCond .ne 21, 3) := by decide +kernel
theorem dX3_readYards_38 : decode cX3_readYards 38 = .ok (.aload_n 0, 1) := by decide +kernel
theorem dX3_readYards_39 : decode cX3_readYards 39 = .ok (.getfield 11, 3) := by decide +kernel
theorem dX3_readYards_42 : decode cX3_readYards 42 = .ok (.aload_n 0, 1) := by decide +kernel
theorem dX3_readYards_43 : decode cX3_readYards 43 = .ok (.getfield 39, 3) := by decide +kernel
theorem dX3_readYards_46 : decode cX3_readYards 46 = .ok (.iaload, 1) := by decide +kernel
theorem dX3_readYards_47 : decode cX3_readYards 47 = .ok (.bipush 44, 2) := by decide +kernel
theorem dX3_readYards_49 : decode cX3_readYards 49 = .ok (.if_icmp .ne 7, 3) := by decide +kernel
theorem dX3_readYards_52 : decode cX3_readYards 52 = .ok (.iconst 1, 1) := by decide +kernel
theorem dX3_readYards_53 : decode cX3_readYards 53 = .ok (.goto 4, 3) := by decide +kernel
theorem dX3_readYards_56 : decode cX3_readYards 56 = .ok (.iconst 0, 1) := by decide +kernel
theorem dX3_readYards_57 : decode cX3_readYards 57 = .ok (.istore_n 2, 1) := by decide +kernel
theorem dX3_readYards_58 : decode cX3_readYards 58 = .ok (.iload_n 2, 1) := by decide +kernel
theorem dX3_readYards_59 : decode cX3_readYards 59 = .ok (.ifCond .ne 6, 3) := by decide +kernel
theorem dX3_readYards_62 : decode cX3_readYards 62 = .ok (.goto 19, 3) := by decide +kernel
theorem dX3_readYards_65 : decode cX3_readYards 65 = .ok (.aload_n 0, 1) := by decide +kernel
theorem dX3_readYards_66 : decode cX3_readYards 66 = .ok (.dup, 1) := by decide +kernel
theorem dX3_readYards_67 : decode cX3_readYards 67 = .ok (.getfield 39, 3) := by decide +kernel
theorem dX3_readYards_70 : decode cX3_readYards 70 = .ok (.iconst 1, 1) := by decide +kernel
theorem dX3_readYards_71 : decode cX3_readYards 71 = .ok (.iadd, 1) := by decide +kernel
theorem dX3_readYards_72 : decode cX3_readYards 72 = .ok (.putfield 39, 3) := by decide +kernel
theorem dX3_readYards_75 : decode cX3_readYards 75 = .ok (.iinc 1 1, 3) := by decide +kernel
theorem dX3_readYards_78 : decode cX3_readYards 78 = .ok (.goto (-76), 3) := by decide +kernel
theorem dX3_readYards_81 : decode cX3_readYards 81 = .ok (.aload_n 0, 1) := by decide +kernel
theorem dX3_readYards_82 : decode cX3_readYards 82 = .ok (.invokevirtual 81, 3) := by decide +kernel
theorem dX3_readYards_85 : decode cX3_readYards 85 = .ok (.ireturn, 1) := by decide +kernel
set_option maxRecDepth 20000 in
theorem ggX3_readYard_X3_readNumber : GoodIn wsX3_readYard wsX3_readNumber := goodIn_r _ [8, 9, 10, 11, 12, 13, 14, 7, 15, 16, 17, 18, 19, 20, 21, 22, 23, 24, 25, 26, 27, 28, 29, 30, 31, 32, 33, 34, 35, 36, 37] (by decide +kernel) (by decide +kernel)
set_option maxRecDepth 20000 in
theorem gX3_readYard_X3_readNumber : GoodIn wsX3_readYard (wsV RX3 84 RX3 yX3_readNumber wsX3_readNumber) := goodIn_app (goodIn_of _ (by decide +kernel)) ggX3_readYard_X3_readNumber
theorem dX3_readYard_0 : decode cX3_readYard 0 = .ok (.aload_n 0, 1) := by decide +kernel
theorem dX3_readYard_1 : decode cX3_readYard 1 = .ok (.iconst 0, 1) := by decide +kernel
theorem dX3_readYard_2 : decode cX3_readYard 2 = .ok (.iconst 3, 1) := by decide +kernel
theorem dX3_readYard_3 : decode cX3_readYard 3 = .ok (.invokevirtual 84, 3) := by decide +kernel
theorem dX3_readYard_6 : decode cX3_readYard 6 = .ok (.istore_n 2, 1) := by decide +kernel
theorem dX3_readYard_7 : decode cX3_readYard 7 = .ok (.iload_n 2, 1) := by decide +kernel
theorem dX3_readYard_8 : decode cX3_readYard 8 = .ok (.iconst (-1), 1) := by decide +kernel
theorem dX3_readYard_9 : decode cX3_readYard 9 = .ok (.if_icmp .ne 5, 3) := by decide +kernel
theorem dX3_readYard_12 : decode cX3_readYard 12 = .ok (.iconst 0, 1) := by decide +kernel
theorem dX3_readYard_13 : decode cX3_readYard 13 = .ok (.ireturn, 1) := by decide +kernel
theorem dX3_readYard_14 : decode cX3_readYard 14 = .ok (.aload_n 0, 1) := by decide +kernel
theorem dX3_readYard_15 : decode cX3_readYard 15 = .ok (.iconst 0, 1) := by decide +kernel
theorem dX3_readYard_16 : decode cX3_readYard 16 = .ok (.bipush 99, 2) := by decide +kernel
theorem dX3_readYard_18 : decode cX3_readYard 18 = .ok (.invokevirtual 84, 3) := by decide +kernel
theorem dX3_readYard_21 : decode cX3_readYard 21 = .ok (.istore_n 3, 1) := by decide +kernel
theorem dX3_readYard_22 : decode cX3_readYard 22 = .ok (.iload_n 3, 1) := by decide +kernel
theorem dX3_readYard_23 : decode cX3_readYard 23 = .ok (.iconst (-1), 1) := by decide +kernel
theorem dX3_readYard_24 : decode cX3_readYard 24 = .ok (.if_icmp .ne 5, 3) := by decide +kernel
theorem dX3_readYard_27 : decode cX3_readYard 27 = .ok (.iconst 0, 1) := by decide +kernel
theorem dX3_readYard_28 : decode cX3_readYard 28 = .ok (.ireturn, 1) := by decide +kernel
theorem dX3_readYard_29 : decode cX3_readYard 29 = .ok (.aload_n 0, 1) := by decide +kernel
theorem dX3_readYard_30 : decode cX3_readYard 30 = .ok (.getfield 22, 3) := by decide +kernel
theorem dX3_readYard_33 : decode cX3_readYard 33 = .ok (.iload_n 1, 1) := by decide +kernel
theorem dX3_readYard_34 : decode cX3_readYard 34 = .ok (.iload_n 2, 1) := by decide +kernel
theorem dX3_readYard_35 : decode cX3_readYard 35 = .ok (.iastore, 1) := by decide +kernel
theorem dX3_readYard_36 : decode cX3_readYard 36 = .ok (.aload_n 0, 1) := by decide +kernel
theorem dX3_readYard_37 : decode cX3_readYard 37 = .ok (.getfield 25, 3) := by decide +kernel
theorem dX3_readYard_40 : decode cX3_readYard 40 = .ok (.iload_n 1, 1) := by decide +kernel
theorem dX3_readYard_41 : decode cX3_readYard 41 = .ok (.iload_n 3, 1) := by decide +kernel
theorem dX3_readYard_42 : decode cX3_readYard 42 = .ok (.iastore, 1) := by decide +kernel
theorem dX3_readYard_43 : decode cX3_readYard 43 = .ok (.aload_n 0, 1) := by decide +kernel
theorem dX3_readYard_44 : decode cX3_readYard 44 = .ok (.iload_n 1, 1) := by decide +kernel
theorem dX3_readYard_45 : decode cX3_readYard 45 = .ok (.iconst 1, 1) := by decide +kernel
theorem dX3_readYard_46 : decode cX3_readYard 46 = .ok (.iadd, 1) := by decide +kernel
theorem dX3_readYard_47 : decode cX3_readYard 47 = .ok (.putfield 45, 3) := by decide +kernel
theorem dX3_readYard_50 : decode cX3_readYard 50 = .ok (.iconst 1, 1) := by decide +kernel
theorem dX3_readYard_51 : decode cX3_readYard 51 = .ok (.ireturn, 1) := by decide +kernel
set_option maxRecDepth 20000 in
theorem ggX3_readNumbers_X3_readNumber : GoodIn wsX3_readNumbers wsX3_readNumber := goodIn_r _ [10, 11, 12, 13, 14, 15, 16, 9, 17, 18, 19, 20, 21, 22, 23, 24, 25, 26, 27, 28, 29, 38, 39, 40, 41, 42, 43, 44, 45, 46, 47] (by decide +kernel) (by decide +kernel)
set_option maxRecDepth 20000 in
theorem gX3_readNumbers_X3_readNumber : GoodIn wsX3_readNumbers (wsV RX3 84 RX3 yX3_readNumber wsX3_readNumber) := goodIn_app (goodIn_of _ (by decide +kernel)) ggX3_readNumbers_X3_readNumber
set_option maxRecDepth 20000 in
theorem ggX3_readNumbers_X3_readClauseEnd : GoodIn wsX3_readNumbers wsX3_readClauseEnd := goodIn_r _ [33, 13, 11, 14, 15, 16, 9, 17, 12, 34, 35, 36, 37, 21, 22, 23, 24, 25, 26, 38, 39, 40, 41, 42, 43, 44, 45, 46, 47] (by decide +kernel) (by decide +kernel)
set_option maxRecDepth 20000 in
theorem gX3_readNumbers_X3_readClauseEnd : GoodIn wsX3_readNumbers (wsV RX3 81 RX3 yX3_readClauseEnd wsX3_readClauseEnd) := goodIn_app (goodIn_of _ (by decide +kernel)) ggX3_readNumbers_X3_readClauseEnd
theorem dX3_readNumbers_0 : decode cX3_readNumbers 0 = .ok (.getstatic 88, 3) := by decide +kernel
theorem dX3_readNumbers_3 : decode cX3_readNumbers 3 = .ok (.iload_n 1, 1) := by decide +kernel
theorem dX3_readNumbers_4 : decode cX3_readNumbers 4 = .ok (.iaload, 1) := by decide +kernel
theorem dX3_readNumbers_5 : decode cX3_readNumbers 5 = .ok (.istore_n 2, 1) := by decide +kernel
theorem dX3_readNumbers_6 : decode cX3_readNumbers 6 = .ok (.iload_n 2, 1) := by decide +kernel
theorem dX3_readNumbers_7 : decode cX3_readNumbers 7 = .ok (.getstatic 91, 3) := by decide +kernel
theorem dX3_readNumbers_10 : decode cX3_readNumbers 10 = .ok (.iload_n 1, 1) := by decide +kernel
theorem dX3_readNumbers_11 : decode cX3_readNumbers 11 = .ok (.iaload, 1) := by decide +kernel
theorem dX3_readNumbers_12 : decode cX3_readNumbers 12 = .ok (.if_icmp .ge 38, 3) := by decide +kernel
theorem dX3_readNumbers_15 : decode cX3_readNumbers 15 = .ok (.aload_n 0, 1) := by decide +kernel
theorem dX3_readNumbers_16 : decode cX3_readNumbers 16 = .ok (.getstatic 94, 3) := by decide +kernel
theorem dX3_readNumbers_19 : decode cX3_readNumbers 19 = .ok (.iload_n 2, 1) := by decide +kernel
theorem dX3_readNumbers_20 : decode cX3_readNumbers 20 = .ok (.iaload, 1) := by decide +kernel
theorem dX3_readNumbers_21 : decode cX3_readNumbers 21 = .ok (.getstatic 97, 3) := by decide +kernel
theorem dX3_readNumbers_24 : decode cX3_readNumbers 24 = .ok (.iload_n 2, 1) := by decide +kernel
theorem dX3_readNumbers_25 : decode cX3_readNumbers 25 = .ok (.iaload, 1) := by decide +kernel
theorem dX3_readNumbers_26 : decode cX3_readNumbers 26 = .ok (.invokevirtual 84, 3) := by decide +kernel
theorem dX3_readNumbers_29 : decode cX3_readNumbers 29 = .ok (.istore_n 3, 1) := by decide +kernel
theorem dX3_readNumbers_30 : decode cX3_readNumbers 30 = .ok (.iload_n 3, 1) := by decide +kernel
theorem dX3_readNumbers_31 : decode cX3_readNumbers 31 = .ok (.iconst (-1), 1) := by decide +kernel
theorem dX3_readNumbers_32 : decode cX3_readNumbers 32 = .ok (.if_icmp .ne 5, 3) := by decide +kernel
theorem dX3_readNumbers_35 : decode cX3_readNumbers 35 = .ok (.iconst 0, 1) := by decide +kernel
theorem dX3_readNumbers_36 : decode cX3_readNumbers 36 = .ok (.ireturn, 1) := by decide +kernel
theorem dX3_readNumbers_37 : decode cX3_readNumbers 37 = .ok (.aload_n 0, 1) := by decide +kernel
theorem dX3_readNumbers_38 : decode cX3_readNumbers 38 = .ok (.getfield 17, 3) := by decide +kernel
theorem dX3_readNumbers_41 : decode cX3_readNumbers 41 = .ok (.iload_n 2, 1) := by decide +kernel
theorem dX3_readNumbers_42 : decode cX3_readNumbers 42 = .ok (.iload_n 3, 1) := by decide +kernel
theorem dX3_readNumbers_43 : decode cX3_readNumbers 43 = .ok (.iastore, 1) := by decide +kernel
theorem dX3_readNumbers_44 : decode cX3_readNumbers 44 = .ok (.iinc 2 1, 3) := by decide +kernel
theorem dX3_readNumbers_47 : decode cX3_readNumbers 47 = .ok (.goto (-41), 3) := by decide +kernel
theorem dX3_readNumbers_50 : decode cX3_readNumbers 50 = .ok (.aload_n 0, 1) := by decide +kernel
theorem dX3_readNumbers_51 : decode cX3_readNumbers 51 = .ok (.invokevirtual 81, 3) := by decide +kernel
theorem dX3_readNumbers_54 : decode cX3_readNumbers 54 = .ok (.ireturn, 1) := by decide +kernel
set_option maxRecDepth 20000 in
theorem ggX3_readClauseEnd_X3_skipBlanks : GoodIn wsX3_readClauseEnd wsX3_skipBlanks := goodIn_r _ [7, 2, 8, 1, 19, 20, 21, 22, 23, 24, 25, 26, 27, 28] (by decide +kernel) (by decide +kernel)
set_option maxRecDepth 20000 in
theorem gX3_readClauseEnd_X3_skipBlanks : GoodIn wsX3_readClauseEnd (wsV RX3 54 RX3 yX3_skipBlanks wsX3_skipBlanks) := goodIn_app (goodIn_of _ (by decide +kernel)) ggX3_readClauseEnd_X3_skipBlanks
set_option maxRecDepth 20000 in
theorem ggX3_readClauseEnd_X3_isAtEnd : GoodIn wsX3_readClauseEnd wsX3_isAtEnd := goodIn_r _ [12, 2, 8, 19, 20, 21, 22, 23, 24, 25, 26, 27, 28] (by decide +kernel) (by decide +kernel)
set_option maxRecDepth 20000 in
theorem gX3_readClauseEnd_X3_isAtEnd : GoodIn wsX3_readClauseEnd (wsV RX3 57 RX3 yX3_isAtEnd wsX3_isAtEnd) := goodIn_app (goodIn_of _ (by decide +kernel)) ggX3_readClauseEnd_X3_isAtEnd
set_option maxRecDepth 20000 in
theorem ggX3_readClauseEnd_X3_failAt : GoodIn wsX3_readClauseEnd wsX3_failAt := goodIn_r _ [16, 17, 18, 19, 20, 21, 22, 23, 24, 25, 26, 27, 28] (by decide +kernel) (by decide +kernel)
set_option maxRecDepth 20000 in
theorem gX3_readClauseEnd_X3_failAt : GoodIn wsX3_readClauseEnd (wsV RX3 67 RX3 yX3_failAt wsX3_failAt) := goodIn_app (goodIn_of _ (by decide +kernel)) ggX3_readClauseEnd_X3_failAt
theorem dX3_readClauseEnd_0 : decode cX3_readClauseEnd 0 = .ok (.aload_n 0, 1) := by decide +kernel
theorem dX3_readClauseEnd_1 : decode cX3_readClauseEnd 1 = .ok (.invokevirtual 54, 3) := by decide +kernel
theorem dX3_readClauseEnd_4 : decode cX3_readClauseEnd 4 = .ok (.aload_n 0, 1) := by decide +kernel
theorem dX3_readClauseEnd_5 : decode cX3_readClauseEnd 5 = .ok (.invokevirtual 57, 3) := by decide +kernel
theorem dX3_readClauseEnd_8 : decode cX3_readClauseEnd 8 = .ok (.ifCond .ne 17, 3) := by decide +kernel
theorem dX3_readClauseEnd_11 : decode cX3_readClauseEnd 11 = .ok (.aload_n 0, 1) := by decide +kernel
theorem dX3_readClauseEnd_12 : decode cX3_readClauseEnd 12 = .ok (.getfield 11, 3) := by decide +kernel
theorem dX3_readClauseEnd_15 : decode cX3_readClauseEnd 15 = .ok (.aload_n 0, 1) := by decide +kernel
theorem dX3_readClauseEnd_16 : decode cX3_readClauseEnd 16 = .ok (.getfield 39, 3) := by decide +kernel
theorem dX3_readClauseEnd_19 : decode cX3_readClauseEnd 19 = .ok (.iaload, 1) := by decide +kernel
theorem dX3_readClauseEnd_20 : decode cX3_readClauseEnd 20 = .ok (.bipush 59, 2) := by decide +kernel
theorem dX3_readClauseEnd_22 : decode cX3_readClauseEnd 22 = .ok (.if_icmp .eq 13, 3) := by decide +kernel
theorem dX3_readClauseEnd_25 : decode cX3_readClauseEnd 25 = .ok (.aload_n 0, 1) := by decide +kernel
theorem dX3_readClauseEnd_26 : decode cX3_readClauseEnd 26 = .ok (.aload_n 0, 1) := by decide +kernel
theorem dX3_readClauseEnd_27 : decode cX3_readClauseEnd 27 = .ok (.getfield 39, 3) := by decide +kernel
theorem dX3_readClauseEnd_30 : decode cX3_readClauseEnd 30 = .ok (.iconst 1, 1) := by decide +kernel
theorem dX3_readClauseEnd_31 : decode cX3_readClauseEnd 31 = .ok (.invokevirtual 67, 3) := by decide +kernel
theorem dX3_readClauseEnd_34 : decode cX3_readClauseEnd 34 = .ok (.ireturn, 1) := by decide +kernel
theorem dX3_readClauseEnd_35 : decode cX3_readClauseEnd 35 = .ok (.aload_n 0, 1) := by decide +kernel
theorem dX3_readClauseEnd_36 : decode cX3_readClauseEnd 36 = .ok (.dup, 1) := by decide +kernel
theorem dX3_readClauseEnd_37 : decode cX3_readClauseEnd 37 = .ok (.getfield 39, 3) := by decide +kernel
theorem dX3_readClauseEnd_40 : decode cX3_readClauseEnd 40 = .ok (.iconst 1, 1) := by decide +kernel
theorem dX3_readClauseEnd_41 : decode cX3_readClauseEnd 41 = .ok (.iadd, 1) := by decide +kernel
theorem dX3_readClauseEnd_42 : decode cX3_readClauseEnd 42 = .ok (.putfield 39, 3) := by decide +kernel
theorem dX3_readClauseEnd_45 : decode cX3_readClauseEnd 45 = .ok (.iconst 1, 1) := by decide +kernel
theorem dX3_readClauseEnd_46 : decode cX3_readClauseEnd 46 = .ok (.ireturn, 1) := by decide +kernel
set_option maxRecDepth 20000 in
theorem ggX3_readNumber_X3_skipBlanks : GoodIn wsX3_readNumber wsX3_skipBlanks := goodIn_r _ [8, 1, 2, 3, 21, 22, 23, 24, 25, 26, 27, 28, 29, 30] (by decide +kernel) (by decide +kernel)
set_option maxRecDepth 20000 in
theorem gX3_readNumber_X3_skipBlanks : GoodIn wsX3_readNumber (wsV RX3 54 RX3 yX3_skipBlanks wsX3_skipBlanks) := goodIn_app (goodIn_of _ (by decide +kernel)) ggX3_readNumber_X3_skipBlanks
set_option maxRecDepth 20000 in
theorem ggX3_readNumber_X3_isFigure : GoodIn wsX3_readNumber wsX3_isFigure := goodIn_r _ [11] (by decide +kernel) (by decide +kernel)
set_option maxRecDepth 20000 in
theorem gX3_readNumber_X3_isFigure : GoodIn wsX3_readNumber (va_wsS RX3 100 yX3_isFigure wsX3_isFigure) := goodIn_app (goodIn_of _ (by decide +kernel)) ggX3_readNumber_X3_isFigure
set_option maxRecDepth 20000 in
theorem ggX3_readNumber_X3_failAt : GoodIn wsX3_readNumber wsX3_failAt := goodIn_r _ [15, 16, 17, 21, 22, 23, 24, 25, 26, 27, 28, 29, 30] (by decide +kernel) (by decide +kernel)
set_option maxRecDepth 20000 in
theorem gX3_readNumber_X3_failAt : GoodIn wsX3_readNumber (wsV RX3 67 RX3 yX3_failAt wsX3_failAt) := goodIn_app (goodIn_of _ (by decide +kernel)) ggX3_readNumber_X3_failAt
set_option maxRecDepth 20000 in
theorem ggX3_readNumber_X7_isOut : GoodIn wsX3_readNumber wsX7_isOut := goodIn_r _ [20] (by decide +kernel) (by decide +kernel)
set_option maxRecDepth 20000 in
theorem gX3_readNumber_X7_isOut_n103 : GoodIn wsX3_readNumber (wsX7_isOut) := ggX3_readNumber_X7_isOut
theorem dX3_readNumber_0 : decode cX3_readNumber 0 = .ok (.aload_n 0, 1) := by decide +kernel
theorem dX3_readNumber_1 : decode cX3_readNumber 1 = .ok (.invokevirtual 54, 3) := by decide +kernel
theorem dX3_readNumber_4 : decode cX3_readNumber 4 = .ok (.aload_n 0, 1) := by decide +kernel
theorem dX3_readNumber_5 : decode cX3_readNumber 5 = .ok (.getfield 39, 3) := by decide +kernel
theorem dX3_readNumber_8 : decode cX3_readNumber 8 = .ok (.istore_n 3, 1) := by decide +kernel
theorem dX3_readNumber_9 : decode cX3_readNumber 9 = .ok (.iconst 0, 1) := by decide +kernel
theorem dX3_readNumber_10 : decode cX3_readNumber 10 = .ok (.istore 4, 2) := by decide +kernel
theorem dX3_readNumber_12 : decode cX3_readNumber 12 = .ok (.aload_n 0, 1) := by decide +kernel
theorem dX3_readNumber_13 : decode cX3_readNumber 13 = .ok (.getfield 39, 3) := by decide +kernel
theorem dX3_readNumber_16 : decode cX3_readNumber 16 = .ok (.aload_n 0, 1) := by decide +kernel
theorem dX3_readNumber_17 : decode cX3_readNumber 17 = .ok (.getfield 32, 3) := by decide +kernel
theorem dX3_readNumber_20 : decode cX3_readNumber 20 = .ok (.if_icmp .ge 61, 3) := by decide +kernel
theorem dX3_readNumber_23 : decode cX3_readNumber 23 = .ok (.aload_n 0, 1) := by decide +kernel
theorem dX3_readNumber_24 : decode cX3_readNumber 24 = .ok (.getfield 11, 3) := by decide +kernel
theorem dX3_readNumber_27 : decode cX3_readNumber 27 = .ok (.aload_n 0, 1) := by decide +kernel
theorem dX3_readNumber_28 : decode cX3_readNumber 28 = .ok (.getfield 39, 3) := by decide +kernel
theorem dX3_readNumber_31 : decode cX3_readNumber 31 = .ok (.iaload, 1) := by decide +kernel
theorem dX3_readNumber_32 : decode cX3_readNumber 32 = .ok (.invokestatic 100, 3) := by decide +kernel
theorem dX3_readNumber_35 : decode cX3_readNumber 35 = .ok (.ifCond .eq 46, 3) := by decide +kernel
theorem dX3_readNumber_38 : decode cX3_readNumber 38 = .ok (.aload_n 0, 1) := by decide +kernel
theorem dX3_readNumber_39 : decode cX3_readNumber 39 = .ok (.getfield 39, 3) := by decide +kernel
theorem dX3_readNumber_42 : decode cX3_readNumber 42 = .ok (.iload_n 3, 1) := by decide +kernel
theorem dX3_readNumber_43 : decode cX3_readNumber 43 = .ok (.isub, 1) := by decide +kernel
theorem dX3_readNumber_44 : decode cX3_readNumber 44 = .ok (.iconst 3, 1) := by decide +kernel
theorem dX3_readNumber_45 : decode cX3_readNumber 45 = .ok (.if_icmp .ge 23, 3) := by decide +kernel
theorem dX3_readNumber_48 : decode cX3_readNumber 48 = .ok (.bipush 10, 2) := by decide +kernel
theorem dX3_readNumber_50 : decode cX3_readNumber 50 = .ok (.iload 4, 2) := by decide +kernel
theorem dX3_readNumber_52 : decode cX3_readNumber 52 = .ok (.imul, 1) := by decide +kernel
theorem dX3_readNumber_53 : decode cX3_readNumber 53 = .ok (.aload_n 0, 1) := by decide +kernel
theorem dX3_readNumber_54 : decode cX3_readNumber 54 = .ok (.getfield 11, 3) := by decide +kernel
theorem dX3_readNumber_57 : decode cX3_readNumber 57 = .ok (.aload_n 0, 1) := by decide +kernel
theorem dX3_readNumber_58 : decode cX3_readNumber 58 = .ok (.getfield 39, 3) := by decide +kernel
theorem dX3_readNumber_61 : decode cX3_readNumber 61 = .ok (.iaload, 1) := by decide +kernel
theorem dX3_readNumber_62 : decode cX3_readNumber 62 = .ok (.iadd, 1) := by decide +kernel
theorem dX3_readNumber_63 : decode cX3_readNumber 63 = .ok (.bipush 48, 2) := by decide +kernel
theorem dX3_readNumber_65 : decode cX3_readNumber 65 = .ok (.isub, 1) := by decide +kernel
theorem dX3_readNumber_66 : decode cX3_readNumber 66 = .ok (.istore 4, 2) := by decide +kernel
theorem dX3_readNumber_68 : decode cX3_readNumber 68 = .ok (.aload_n 0, 1) := by decide +kernel
theorem dX3_readNumber_69 : decode cX3_readNumber 69 = .ok (.dup, 1) := by decide +kernel
theorem dX3_readNumber_70 : decode cX3_readNumber 70 = .ok (.getfield 39, 3) := by decide +kernel
theorem dX3_readNumber_73 : decode cX3_readNumber 73 = .ok (.iconst 1, 1) := by decide +kernel
theorem dX3_readNumber_74 : decode cX3_readNumber 74 = .ok (.iadd, 1) := by decide +kernel
theorem dX3_readNumber_75 : decode cX3_readNumber 75 = .ok (.putfield 39, 3) := by decide +kernel
theorem dX3_readNumber_78 : decode cX3_readNumber 78 = .ok (.goto (-66), 3) := by decide +kernel
theorem dX3_readNumber_81 : decode cX3_readNumber 81 = .ok (.aload_n 0, 1) := by decide +kernel
theorem dX3_readNumber_82 : decode cX3_readNumber 82 = .ok (.getfield 39, 3) := by decide +kernel
theorem dX3_readNumber_85 : decode cX3_readNumber 85 = .ok (.iload_n 3, 1) := by decide +kernel
theorem dX3_readNumber_86 : decode cX3_readNumber 86 = .ok (.if_icmp .ne 12, 3) := by decide +kernel
theorem dX3_readNumber_89 : decode cX3_readNumber 89 = .ok (.aload_n 0, 1) := by decide +kernel
theorem dX3_readNumber_90 : decode cX3_readNumber 90 = .ok (.iload_n 3, 1) := by decide +kernel
theorem dX3_readNumber_91 : decode cX3_readNumber 91 = .ok (.iconst 1, 1) := by decide +kernel
theorem dX3_readNumber_92 : decode cX3_readNumber 92 = .ok (.invokevirtual 67, 3) := by decide +kernel
theorem dX3_readNumber_95 : decode cX3_readNumber 95 = .ok (.pop, 1) := by decide +kernel
theorem dX3_readNumber_96 : decode cX3_readNumber 96 = .ok (.iconst (-1), 1) := by decide +kernel
theorem dX3_readNumber_97 : decode cX3_readNumber 97 = .ok (.ireturn, 1) := by decide +kernel
theorem dX3_readNumber_98 : decode cX3_readNumber 98 = .ok (.aload_n 0, 1) := by decide +kernel
theorem dX3_readNumber_99 : decode cX3_readNumber 99 = .ok (.getfield 39, 3) := by decide +kernel
theorem dX3_readNumber_102 : decode cX3_readNumber 102 = .ok (.iload_n 3, 1) := by decide +kernel
theorem dX3_readNumber_103 : decode cX3_readNumber 103 = .ok (.isub, 1) := by decide +kernel
theorem dX3_readNumber_104 : decode cX3_readNumber 104 = .ok (.iconst 3, 1) := by decide +kernel
theorem dX3_readNumber_105 : decode cX3_readNumber 105 = .ok (.if_icmp .gt 13, 3) := by decide +kernel
theorem dX3_readNumber_108 : decode cX3_readNumber 108 = .ok (.iload 4, 2) := by decide +kernel
theorem dX3_readNumber_110 : decode cX3_readNumber 110 = .ok (.iload_n 1, 1) := by decide +kernel
theorem dX3_readNumber_111 : decode cX3_readNumber 111 = .ok (.iload_n 2, 1) := by decide +kernel
theorem dX3_readNumber_112 : decode cX3_readNumber 112 = .ok (.invokestatic 103, 3) := by decide +kernel
theorem dX3_readNumber_115 : decode cX3_readNumber 115 = .ok (.ifCond .eq 12, 3) := by decide +kernel
theorem dX3_readNumber_118 : decode cX3_readNumber 118 = .ok (.aload_n 0, 1) := by decide +kernel
theorem dX3_readNumber_119 : decode cX3_readNumber 119 = .ok (.iload_n 3, 1) := by decide +kernel
theorem dX3_readNumber_120 : decode cX3_readNumber 120 = .ok (.iconst 2, 1) := by decide +kernel
theorem dX3_readNumber_121 : decode cX3_readNumber 121 = .ok (.invokevirtual 67, 3) := by decide +kernel
theorem dX3_readNumber_124 : decode cX3_readNumber 124 = .ok (.pop, 1) := by decide +kernel
theorem dX3_readNumber_125 : decode cX3_readNumber 125 = .ok (.iconst (-1), 1) := by decide +kernel
theorem dX3_readNumber_126 : decode cX3_readNumber 126 = .ok (.ireturn, 1) := by decide +kernel
theorem dX3_readNumber_127 : decode cX3_readNumber 127 = .ok (.iload 4, 2) := by decide +kernel
theorem dX3_readNumber_129 : decode cX3_readNumber 129 = .ok (.ireturn, 1) := by decide +kernel
theorem dX3_isFigure_0 : decode cX3_isFigure 0 = .ok (.iload_n 0, 1) := by decide +kernel
theorem dX3_isFigure_1 : decode cX3_isFigure 1 = .ok (.bipush 48, 2) := by decide +kernel
theorem dX3_isFigure_3 : decode cX3_isFigure 3 = .ok (.if_icmp .lt 13, 3) := by decide +kernel
theorem dX3_isFigure_6 : decode cX3_isFigure 6 = .ok (.iload_n 0, 1) := by decide +kernel
theorem dX3_isFigure_7 : decode cX3_isFigure 7 = .ok (.bipush 57, 2) := by decide +kernel
theorem dX3_isFigure_9 : decode cX3_isFigure 9 = .ok (.if_icmp .gt 7, 3) := by decide +kernel
theorem dX3_isFigure_12 : decode cX3_isFigure 12 = .ok (.iconst 1, 1) := by decide +kernel
theorem dX3_isFigure_13 : decode cX3_isFigure 13 = .ok (.goto 4, 3) := by decide +kernel
theorem dX3_isFigure_16 : decode cX3_isFigure 16 = .ok (.iconst 0, 1) := by decide +kernel
theorem dX3_isFigure_17 : decode cX3_isFigure 17 = .ok (.ireturn, 1) := by decide +kernel
theorem dX3_skipBlanks_0 : decode cX3_skipBlanks 0 = .ok (.aload_n 0, 1) := by decide +kernel
theorem dX3_skipBlanks_1 : decode cX3_skipBlanks 1 = .ok (.getfield 39, 3) := by decide +kernel
theorem dX3_skipBlanks_4 : decode cX3_skipBlanks 4 = .ok (.aload_n 0, 1) := by decide +kernel
theorem dX3_skipBlanks_5 : decode cX3_skipBlanks 5 = .ok (.getfield 32, 3) := by decide +kernel
theorem dX3_skipBlanks_8 : decode cX3_skipBlanks 8 = .ok (.if_icmp .ge 30, 3) := by decide +kernel
theorem dX3_skipBlanks_11 : decode cX3_skipBlanks 11 = .ok (.aload_n 0, 1) := by decide +kernel
theorem dX3_skipBlanks_12 : decode cX3_skipBlanks 12 = .ok (.getfield 11, 3) := by decide +kernel
theorem dX3_skipBlanks_15 : decode cX3_skipBlanks 15 = .ok (.aload_n 0, 1) := by decide +kernel
theorem dX3_skipBlanks_16 : decode cX3_skipBlanks 16 = .ok (.getfield 39, 3) := by decide +kernel
theorem dX3_skipBlanks_19 : decode cX3_skipBlanks 19 = .ok (.iaload, 1) := by decide +kernel
theorem dX3_skipBlanks_20 : decode cX3_skipBlanks 20 = .ok (.bipush 32, 2) := by decide +kernel
theorem dX3_skipBlanks_22 : decode cX3_skipBlanks 22 = .ok (.if_icmp .ne 16, 3) := by decide +kernel
theorem dX3_skipBlanks_25 : decode cX3_skipBlanks 25 = .ok (.aload_n 0, 1) := by decide +kernel
theorem dX3_skipBlanks_26 : decode cX3_skipBlanks 26 = .ok (.dup, 1) := by decide +kernel
theorem dX3_skipBlanks_27 : decode cX3_skipBlanks 27 = .ok (.getfield 39, 3) := by decide +kernel
theorem dX3_skipBlanks_30 : decode cX3_skipBlanks 30 = .ok (.iconst 1, 1) := by decide +kernel
theorem dX3_skipBlanks_31 : decode cX3_skipBlanks 31 = .ok (.iadd, 1) := by decide +kernel
theorem dX3_skipBlanks_32 : decode cX3_skipBlanks 32 = .ok (.putfield 39, 3) := by decide +kernel
theorem dX3_skipBlanks_35 : decode cX3_skipBlanks 35 = .ok (.goto (-35), 3) := by decide +kernel
theorem dX3_skipBlanks_38 : decode cX3_skipBlanks 38 = .ok (.return_, 1) := by decide +kernel
theorem dX3_isAtEnd_0 : decode cX3_isAtEnd 0 = .ok (.aload_n 0, 1) := by decide +kernel
theorem dX3_isAtEnd_1 : decode cX3_isAtEnd 1 = .ok (.getfield 39, 3) := by decide +kernel
theorem dX3_isAtEnd_4 : decode cX3_isAtEnd 4 = .ok (.aload_n 0, 1) := by decide +kernel
theorem dX3_isAtEnd_5 : decode cX3_isAtEnd 5 = .ok (.getfield 32, 3) := by decide +kernel
theorem dX3_isAtEnd_8 : decode cX3_isAtEnd 8 = .ok (.if_icmp .lt 7, 3) := by decide +kernel
theorem dX3_isAtEnd_11 : decode cX3_isAtEnd 11 = .ok (.iconst 1, 1) := by decide +kernel
theorem dX3_isAtEnd_12 : decode cX3_isAtEnd 12 = .ok (.goto 4, 3) := by decide +kernel
theorem dX3_isAtEnd_15 : decode cX3_isAtEnd 15 = .ok (.iconst 0, 1) := by decide +kernel
theorem dX3_isAtEnd_16 : decode cX3_isAtEnd 16 = .ok (.ireturn, 1) := by decide +kernel
theorem dX3_failAt_0 : decode cX3_failAt 0 = .ok (.aload_n 0, 1) := by decide +kernel
theorem dX3_failAt_1 : decode cX3_failAt 1 = .ok (.iload_n 1, 1) := by decide +kernel
theorem dX3_failAt_2 : decode cX3_failAt 2 = .ok (.putfield 28, 3) := by decide +kernel
theorem dX3_failAt_5 : decode cX3_failAt 5 = .ok (.aload_n 0, 1) := by decide +kernel
theorem dX3_failAt_6 : decode cX3_failAt 6 = .ok (.iload_n 2, 1) := by decide +kernel
theorem dX3_failAt_7 : decode cX3_failAt 7 = .ok (.putfield 48, 3) := by decide +kernel
theorem dX3_failAt_10 : decode cX3_failAt 10 = .ok (.iconst 0, 1) := by decide +kernel
theorem dX3_failAt_11 : decode cX3_failAt 11 = .ok (.ireturn, 1) := by decide +kernel
theorem dX4_init_0 : decode cX4_init 0 = .ok (.aload_n 0, 1) := by decide +kernel
theorem dX4_init_1 : decode cX4_init 1 = .ok (.invokespecial 3, 3) := by decide +kernel
theorem dX4_init_4 : decode cX4_init 4 = .ok (.aload_n 0, 1) := by decide +kernel
theorem dX4_init_5 : decode cX4_init 5 = .ok (.bipush 12, 2) := by decide +kernel
theorem dX4_init_7 : decode cX4_init 7 = .ok (.newarray .int, 2) := by decide +kernel
theorem dX4_init_9 : decode cX4_init 9 = .ok (.putfield 11, 3) := by decide +kernel
theorem dX4_init_12 : decode cX4_init 12 = .ok (.return_, 1) := by decide +kernel
set_option maxRecDepth 20000 in
theorem ggX4_go_X4_minutesThrough : GoodIn wsX4_go wsX4_minutesThrough := goodIn_r _ [11] (by decide +kernel) (by decide +kernel)
set_option maxRecDepth 20000 in
theorem gX4_go_X4_minutesThrough : GoodIn wsX4_go (va_wsS RX4 36 yX4_minutesThrough wsX4_minutesThrough) := goodIn_app (goodIn_of _ (by decide +kernel)) ggX4_go_X4_minutesThrough
theorem dX4_go_0 : decode cX4_go 0 = .ok (.aload_n 0, 1) := by decide +kernel
theorem dX4_go_1 : decode cX4_go 1 = .ok (.iconst 0, 1) := by decide +kernel
theorem dX4_go_2 : decode cX4_go 2 = .ok (.putfield 17, 3) := by decide +kernel
theorem dX4_go_5 : decode cX4_go 5 = .ok (.aload_n 0, 1) := by decide +kernel
theorem dX4_go_6 : decode cX4_go 6 = .ok (.iconst 0, 1) := by decide +kernel
theorem dX4_go_7 : decode cX4_go 7 = .ok (.putfield 21, 3) := by decide +kernel
theorem dX4_go_10 : decode cX4_go 10 = .ok (.aload_n 0, 1) := by decide +kernel
theorem dX4_go_11 : decode cX4_go 11 = .ok (.iconst (-1), 1) := by decide +kernel
theorem dX4_go_12 : decode cX4_go 12 = .ok (.putfield 24, 3) := by decide +kernel
theorem dX4_go_15 : decode cX4_go 15 = .ok (.iconst 0, 1) := by decide +kernel
theorem dX4_go_16 : decode cX4_go 16 = .ok (.istore 5, 2) := by decide +kernel
theorem dX4_go_18 : decode cX4_go 18 = .ok (.iload 5, 2) := by decide +kernel
theorem dX4_go_20 : decode cX4_go 20 = .ok (.aload_n 1, 1) := by decide +kernel
theorem dX4_go_21 : decode cX4_go 21 = .ok (.getfield 27, 3) := by decide +kernel
theorem dX4_go_24 : decode cX4_go 24 = .ok (.if_icmp .ge 103, 3) := by decide +kernel
theorem dX4_go_27 : decode cX4_go 27 = .ok (.aload_n 1, 1) := by decide +kernel
theorem dX4_go_28 : decode cX4_go 28 = .ok (.getfield 30, 3) := by decide +kernel
theorem dX4_go_31 : decode cX4_go 31 = .ok (.iload 5, 2) := by decide +kernel
theorem dX4_go_33 : decode cX4_go 33 = .ok (.iaload, 1) := by decide +kernel
theorem dX4_go_34 : decode cX4_go 34 = .ok (.aload_n 1, 1) := by decide +kernel
theorem dX4_go_35 : decode cX4_go 35 = .ok (.getfield 33, 3) := by decide +kernel
theorem dX4_go_38 : decode cX4_go 38 = .ok (.iload 5, 2) := by decide +kernel
theorem dX4_go_40 : decode cX4_go 40 = .ok (.iaload, 1) := by decide +kernel
theorem dX4_go_41 : decode cX4_go 41 = .ok (.iload_n 2, 1) := by decide +kernel
theorem dX4_go_42 : decode cX4_go 42 = .ok (.iload_n 3, 1) := by decide +kernel
theorem dX4_go_43 : decode cX4_go 43 = .ok (.invokestatic 36, 3) := by decide +kernel
theorem dX4_go_46 : decode cX4_go 46 = .ok (.istore 6, 2) := by decide +kernel
theorem dX4_go_48 : decode cX4_go 48 = .ok (.iload 6, 2) := by decide +kernel
theorem dX4_go_50 : decode cX4_go 50 = .ok (.iconst (-1), 1) := by decide +kernel
theorem dX4_go_51 : decode cX4_go 51 = .ok (.if_icmp .eq 15, 3) := by decide +kernel
theorem dX4_go_54 : decode cX4_go 54 = .ok (.aload_n 0, 1) := by decide +kernel
theorem dX4_go_55 : decode cX4_go 55 = .ok (.getfield 21, 3) := by decide +kernel
theorem dX4_go_58 : decode cX4_go 58 = .ok (.iload 6, 2) := by decide +kernel
theorem dX4_go_60 : decode cX4_go 60 = .ok (.iadd, 1) := by decide +kernel
theorem dX4_go_61 : decode cX4_go 61 = .ok (.iload 4, 2) := by decide +kernel
theorem dX4_go_63 : decode cX4_go 63 = .ok (.if_icmp .le 4, 3) := by decide +kernel
theorem dX4_go_66 : decode cX4_go 66 = .ok (.return_, 1) := by decide +kernel
theorem dX4_go_67 : decode cX4_go 67 = .ok (.aload_n 0, 1) := by decide +kernel
theorem dX4_go_68 : decode cX4_go 68 = .ok (.dup, 1) := by decide +kernel
theorem dX4_go_69 : decode cX4_go 69 = .ok (.getfield 21, 3) := by decide +kernel
theorem dX4_go_72 : decode cX4_go 72 = .ok (.iload 6, 2) := by decide +kernel
theorem dX4_go_74 : decode cX4_go 74 = .ok (.iadd, 1) := by decide +kernel
theorem dX4_go_75 : decode cX4_go 75 = .ok (.putfield 21, 3) := by decide +kernel
theorem dX4_go_78 : decode cX4_go 78 = .ok (.aload_n 0, 1) := by decide +kernel
theorem dX4_go_79 : decode cX4_go 79 = .ok (.getfield 11, 3) := by decide +kernel
theorem dX4_go_82 : decode cX4_go 82 = .ok (.iload 5, 2) := by decide +kernel
theorem dX4_go_84 : decode cX4_go 84 = .ok (.aload_n 0, 1) := by decide +kernel
theorem dX4_go_85 : decode cX4_go 85 = .ok (.getfield 21, 3) := by decide +kernel
theorem dX4_go_88 : decode cX4_go 88 = .ok (.iastore, 1) := by decide +kernel
theorem dX4_go_89 : decode cX4_go 89 = .ok (.aload_n 0, 1) := by decide +kernel
theorem dX4_go_90 : decode cX4_go 90 = .ok (.iload 5, 2) := by decide +kernel
theorem dX4_go_92 : decode cX4_go 92 = .ok (.iconst 1, 1) := by decide +kernel
theorem dX4_go_93 : decode cX4_go 93 = .ok (.iadd, 1) := by decide +kernel
theorem dX4_go_94 : decode cX4_go 94 = .ok (.putfield 17, 3) := by decide +kernel
theorem dX4_go_97 : decode cX4_go 97 = .ok (.aload_n 0, 1) := by decide +kernel
theorem dX4_go_98 : decode cX4_go 98 = .ok (.getfield 24, 3) := by decide +kernel
theorem dX4_go_101 : decode cX4_go 101 = .ok (.iconst (-1), 1) := by decide +kernel
theorem dX4_go_102 : decode cX4_go 102 = .ok (.if_icmp .ne 19, 3) := by decide +kernel
theorem dX4_go_105 : decode cX4_go 105 = .ok (.aload_n 1, 1) := by decide +kernel
theorem dX4_go_106 : decode cX4_go 106 = .ok (.getfield 33, 3) := by decide +kernel
theorem dX4_go_109 : decode cX4_go 109 = .ok (.iload 5, 2) := by decide +kernel
theorem dX4_go_111 : decode cX4_go 111 = .ok (.iaload, 1) := by decide +kernel
theorem dX4_go_112 : decode cX4_go 112 = .ok (.ifCond .le 9, 3) := by decide +kernel
theorem dX4_go_115 : decode cX4_go 115 = .ok (.aload_n 0, 1) := by decide +kernel
theorem dX4_go_116 : decode cX4_go 116 = .ok (.iload 5, 2) := by decide +kernel
theorem dX4_go_118 : decode cX4_go 118 = .ok (.putfield 24, 3) := by decide +kernel
theorem dX4_go_121 : decode cX4_go 121 = .ok (.iinc 5 1, 3) := by decide +kernel
theorem dX4_go_124 : decode cX4_go 124 = .ok (.goto (-106), 3) := by decide +kernel
theorem dX4_go_127 : decode cX4_go 127 = .ok (.return_, 1) := by decide +kernel
set_option maxRecDepth 20000 in
theorem ggX4_passes_X4_go : GoodIn wsX4_passes wsX4_go := goodIn_r _ [7, 1, 8, 9, 2, 10, 11, 12, 13, 14, 6, 15, 16, 17, 18, 19, 20, 21, 22, 23, 24] (by decide +kernel) (by decide +kernel)
set_option maxRecDepth 20000 in
theorem gX4_passes_X4_go : GoodIn wsX4_passes (wsV RX4 40 RX4 yX4_go wsX4_go) := goodIn_app (goodIn_of _ (by decide +kernel)) ggX4_passes_X4_go
theorem dX4_passes_0 : decode cX4_passes 0 = .ok (.aload_n 0, 1) := by decide +kernel
theorem dX4_passes_1 : decode cX4_passes 1 = .ok (.aload_n 1, 1) := by decide +kernel
theorem dX4_passes_2 : decode cX4_passes 2 = .ok (.iload_n 2, 1) := by decide +kernel
theorem dX4_passes_3 : decode cX4_passes 3 = .ok (.iload_n 3, 1) := by decide +kernel
theorem dX4_passes_4 : decode cX4_passes 4 = .ok (.iload 4, 2) := by decide +kernel
theorem dX4_passes_6 : decode cX4_passes 6 = .ok (.invokevirtual 40, 3) := by decide +kernel
theorem dX4_passes_9 : decode cX4_passes 9 = .ok (.aload_n 0, 1) := by decide +kernel
theorem dX4_passes_10 : decode cX4_passes 10 = .ok (.getfield 17, 3) := by decide +kernel
theorem dX4_passes_13 : decode cX4_passes 13 = .ok (.aload_n 1, 1) := by decide +kernel
theorem dX4_passes_14 : decode cX4_passes 14 = .ok (.getfield 27, 3) := by decide +kernel
theorem dX4_passes_17 : decode cX4_passes 17 = .ok (.if_icmp .ne 7, 3) := by decide +kernel
theorem dX4_passes_20 : decode cX4_passes 20 = .ok (.iconst 1, 1) := by decide +kernel
theorem dX4_passes_21 : decode cX4_passes 21 = .ok (.goto 4, 3) := by decide +kernel
theorem dX4_passes_24 : decode cX4_passes 24 = .ok (.iconst 0, 1) := by decide +kernel
theorem dX4_passes_25 : decode cX4_passes 25 = .ok (.ireturn, 1) := by decide +kernel
theorem dX4_minutesThrough_0 : decode cX4_minutesThrough 0 = .ok (.iload_n 1, 1) := by decide +kernel
theorem dX4_minutesThrough_1 : decode cX4_minutesThrough 1 = .ok (.ifCond .ne 5, 3) := by decide +kernel
theorem dX4_minutesThrough_4 : decode cX4_minutesThrough 4 = .ok (.iconst 1, 1) := by decide +kernel
theorem dX4_minutesThrough_5 : decode cX4_minutesThrough 5 = .ok (.ireturn, 1) := by decide +kernel
theorem dX4_minutesThrough_6 : decode cX4_minutesThrough 6 = .ok (.iload_n 2, 1) := by decide +kernel
theorem dX4_minutesThrough_7 : decode cX4_minutesThrough 7 = .ok (.iconst 1, 1) := by decide +kernel
theorem dX4_minutesThrough_8 : decode cX4_minutesThrough 8 = .ok (.if_icmp .lt 10, 3) := by decide +kernel
theorem dX4_minutesThrough_11 : decode cX4_minutesThrough 11 = .ok (.iload_n 1, 1) := by decide +kernel
theorem dX4_minutesThrough_12 : decode cX4_minutesThrough 12 = .ok (.iconst 2, 1) := by decide +kernel
theorem dX4_minutesThrough_13 : decode cX4_minutesThrough 13 = .ok (.iload_n 2, 1) := by decide +kernel
theorem dX4_minutesThrough_14 : decode cX4_minutesThrough 14 = .ok (.imul, 1) := by decide +kernel
theorem dX4_minutesThrough_15 : decode cX4_minutesThrough 15 = .ok (.if_icmp .le 5, 3) := by decide +kernel
theorem dX4_minutesThrough_18 : decode cX4_minutesThrough 18 = .ok (.iconst (-1), 1) := by decide +kernel
theorem dX4_minutesThrough_19 : decode cX4_minutesThrough 19 = .ok (.ireturn, 1) := by decide +kernel
theorem dX4_minutesThrough_20 : decode cX4_minutesThrough 20 = .ok (.iconst 1, 1) := by decide +kernel
theorem dX4_minutesThrough_21 : decode cX4_minutesThrough 21 = .ok (.bipush 10, 2) := by decide +kernel
theorem dX4_minutesThrough_23 : decode cX4_minutesThrough 23 = .ok (.iload_n 1, 1) := by decide +kernel
theorem dX4_minutesThrough_24 : decode cX4_minutesThrough 24 = .ok (.imul, 1) := by decide +kernel
theorem dX4_minutesThrough_25 : decode cX4_minutesThrough 25 = .ok (.iload_n 2, 1) := by decide +kernel
theorem dX4_minutesThrough_26 : decode cX4_minutesThrough 26 = .ok (.idiv, 1) := by decide +kernel
theorem dX4_minutesThrough_27 : decode cX4_minutesThrough 27 = .ok (.iadd, 1) := by decide +kernel
theorem dX4_minutesThrough_28 : decode cX4_minutesThrough 28 = .ok (.istore 4, 2) := by decide +kernel
theorem dX4_minutesThrough_30 : decode cX4_minutesThrough 30 = .ok (.iload_n 1, 1) := by decide +kernel
theorem dX4_minutesThrough_31 : decode cX4_minutesThrough 31 = .ok (.iload_n 2, 1) := by decide +kernel
theorem dX4_minutesThrough_32 : decode cX4_minutesThrough 32 = .ok (.if_icmp .le 9, 3) := by decide +kernel
theorem dX4_minutesThrough_35 : decode cX4_minutesThrough 35 = .ok (.iconst 2, 1) := by decide +kernel
theorem dX4_minutesThrough_36 : decode cX4_minutesThrough 36 = .ok (.iload 4, 2) := by decide +kernel
theorem dX4_minutesThrough_38 : decode cX4_minutesThrough 38 = .ok (.imul, 1) := by decide +kernel
theorem dX4_minutesThrough_39 : decode cX4_minutesThrough 39 = .ok (.istore 4, 2) := by decide +kernel
theorem dX4_minutesThrough_41 : decode cX4_minutesThrough 41 = .ok (.iload_n 0, 1) := by decide +kernel
theorem dX4_minutesThrough_42 : decode cX4_minutesThrough 42 = .ok (.iconst 2, 1) := by decide +kernel
theorem dX4_minutesThrough_43 : decode cX4_minutesThrough 43 = .ok (.if_icmp .ne 10, 3) := by decide +kernel
theorem dX4_minutesThrough_46 : decode cX4_minutesThrough 46 = .ok (.iload 4, 2) := by decide +kernel
theorem dX4_minutesThrough_48 : decode cX4_minutesThrough 48 = .ok (.iload_n 3, 1) := by decide +kernel
theorem dX4_minutesThrough_49 : decode cX4_minutesThrough 49 = .ok (.iadd, 1) := by decide +kernel
theorem dX4_minutesThrough_50 : decode cX4_minutesThrough 50 = .ok (.goto 5, 3) := by decide +kernel
theorem dX4_minutesThrough_53 : decode cX4_minutesThrough 53 = .ok (.iload 4, 2) := by decide +kernel
theorem dX4_minutesThrough_55 : decode cX4_minutesThrough 55 = .ok (.ireturn, 1) := by decide +kernel
set_option maxRecDepth 20000 in
theorem ggX4_furthestTurn_X4_isBackInGap : GoodIn wsX4_furthestTurn wsX4_isBackInGap := goodIn_r _ [7, 8, 2, 9, 10, 11, 12] (by decide +kernel) (by decide +kernel)
set_option maxRecDepth 20000 in
theorem gX4_furthestTurn_X4_isBackInGap : GoodIn wsX4_furthestTurn (wsV RX4 44 RX4 yX4_isBackInGap wsX4_isBackInGap) := goodIn_app (goodIn_of _ (by decide +kernel)) ggX4_furthestTurn_X4_isBackInGap
theorem dX4_furthestTurn_0 : decode cX4_furthestTurn 0 = .ok (.aload_n 0, 1) := by decide +kernel
theorem dX4_furthestTurn_1 : decode cX4_furthestTurn 1 = .ok (.getfield 17, 3) := by decide +kernel
theorem dX4_furthestTurn_4 : decode cX4_furthestTurn 4 = .ok (.istore_n 3, 1) := by decide +kernel
theorem dX4_furthestTurn_5 : decode cX4_furthestTurn 5 = .ok (.iload_n 3, 1) := by decide +kernel
theorem dX4_furthestTurn_6 : decode cX4_furthestTurn 6 = .ok (.ifCond .le 34, 3) := by decide +kernel
theorem dX4_furthestTurn_9 : decode cX4_furthestTurn 9 = .ok (.aload_n 0, 1) := by decide +kernel
theorem dX4_furthestTurn_10 : decode cX4_furthestTurn 10 = .ok (.getfield 11, 3) := by decide +kernel
theorem dX4_furthestTurn_13 : decode cX4_furthestTurn 13 = .ok (.iload_n 3, 1) := by decide +kernel
theorem dX4_furthestTurn_14 : decode cX4_furthestTurn 14 = .ok (.iconst 1, 1) := by decide +kernel
theorem dX4_furthestTurn_15 : decode cX4_furthestTurn 15 = .ok (.isub, 1) := by decide +kernel
theorem dX4_furthestTurn_16 : decode cX4_furthestTurn 16 = .ok (.iaload, 1) := by decide +kernel
theorem dX4_furthestTurn_17 : decode cX4_furthestTurn 17 = .ok (.iload_n 3, 1) := by decide +kernel
theorem dX4_furthestTurn_18 : decode cX4_furthestTurn 18 = .ok (.iadd, 1) := by decide +kernel
theorem dX4_furthestTurn_19 : decode cX4_furthestTurn 19 = .ok (.iload_n 1, 1) := by decide +kernel
theorem dX4_furthestTurn_20 : decode cX4_furthestTurn 20 = .ok (.if_icmp .gt 14, 3) := by decide +kernel
theorem dX4_furthestTurn_23 : decode cX4_furthestTurn 23 = .ok (.aload_n 0, 1) := by decide +kernel
theorem dX4_furthestTurn_24 : decode cX4_furthestTurn 24 = .ok (.iload_n 3, 1) := by decide +kernel
theorem dX4_furthestTurn_25 : decode cX4_furthestTurn 25 = .ok (.iload_n 2, 1) := by decide +kernel
theorem dX4_furthestTurn_26 : decode cX4_furthestTurn 26 = .ok (.invokevirtual 44, 3) := by decide +kernel
theorem dX4_furthestTurn_29 : decode cX4_furthestTurn 29 = .ok (.ifCond .eq 5, 3) := by decide +kernel
theorem dX4_furthestTurn_32 : decode cX4_furthestTurn 32 = .ok (.iload_n 3, 1) := by decide +kernel
theorem dX4_furthestTurn_33 : decode cX4_furthestTurn 33 = .ok (.ireturn, 1) := by decide +kernel
theorem dX4_furthestTurn_34 : decode cX4_furthestTurn 34 = .ok (.iinc 3 (-1), 3) := by decide +kernel
theorem dX4_furthestTurn_37 : decode cX4_furthestTurn 37 = .ok (.goto (-32), 3) := by decide +kernel
theorem dX4_furthestTurn_40 : decode cX4_furthestTurn 40 = .ok (.iconst 0, 1) := by decide +kernel
theorem dX4_furthestTurn_41 : decode cX4_furthestTurn 41 = .ok (.ireturn, 1) := by decide +kernel
theorem dX4_isBackInGap_0 : decode cX4_isBackInGap 0 = .ok (.aload_n 0, 1) := by decide +kernel
theorem dX4_isBackInGap_1 : decode cX4_isBackInGap 1 = .ok (.getfield 24, 3) := by decide +kernel
theorem dX4_isBackInGap_4 : decode cX4_isBackInGap 4 = .ok (.iconst (-1), 1) := by decide +kernel
theorem dX4_isBackInGap_5 : decode cX4_isBackInGap 5 = .ok (.if_icmp .eq 11, 3) := by decide +kernel
theorem dX4_isBackInGap_8 : decode cX4_isBackInGap 8 = .ok (.aload_n 0, 1) := by decide +kernel
theorem dX4_isBackInGap_9 : decode cX4_isBackInGap 9 = .ok (.getfield 24, 3) := by decide +kernel
theorem dX4_isBackInGap_12 : decode cX4_isBackInGap 12 = .ok (.iload_n 1, 1) := by decide +kernel
theorem dX4_isBackInGap_13 : decode cX4_isBackInGap 13 = .ok (.if_icmp .lt 5, 3) := by decide +kernel
theorem dX4_isBackInGap_16 : decode cX4_isBackInGap 16 = .ok (.iconst 1, 1) := by decide +kernel
theorem dX4_isBackInGap_17 : decode cX4_isBackInGap 17 = .ok (.ireturn, 1) := by decide +kernel
theorem dX4_isBackInGap_18 : decode cX4_isBackInGap 18 = .ok (.aload_n 0, 1) := by decide +kernel
theorem dX4_isBackInGap_19 : decode cX4_isBackInGap 19 = .ok (.getfield 11, 3) := by decide +kernel
theorem dX4_isBackInGap_22 : decode cX4_isBackInGap 22 = .ok (.iload_n 1, 1) := by decide +kernel
theorem dX4_isBackInGap_23 : decode cX4_isBackInGap 23 = .ok (.iconst 1, 1) := by decide +kernel
theorem dX4_isBackInGap_24 : decode cX4_isBackInGap 24 = .ok (.isub, 1) := by decide +kernel
theorem dX4_isBackInGap_25 : decode cX4_isBackInGap 25 = .ok (.iaload, 1) := by decide +kernel
theorem dX4_isBackInGap_26 : decode cX4_isBackInGap 26 = .ok (.iload_n 1, 1) := by decide +kernel
theorem dX4_isBackInGap_27 : decode cX4_isBackInGap 27 = .ok (.iadd, 1) := by decide +kernel
theorem dX4_isBackInGap_28 : decode cX4_isBackInGap 28 = .ok (.aload_n 0, 1) := by decide +kernel
theorem dX4_isBackInGap_29 : decode cX4_isBackInGap 29 = .ok (.getfield 24, 3) := by decide +kernel
theorem dX4_isBackInGap_32 : decode cX4_isBackInGap 32 = .ok (.isub, 1) := by decide +kernel
theorem dX4_isBackInGap_33 : decode cX4_isBackInGap 33 = .ok (.istore_n 3, 1) := by decide +kernel
theorem dX4_isBackInGap_34 : decode cX4_isBackInGap 34 = .ok (.iload_n 3, 1) := by decide +kernel
theorem dX4_isBackInGap_35 : decode cX4_isBackInGap 35 = .ok (.aload_n 0, 1) := by decide +kernel
theorem dX4_isBackInGap_36 : decode cX4_isBackInGap 36 = .ok (.getfield 11, 3) := by decide +kernel
theorem dX4_isBackInGap_39 : decode cX4_isBackInGap 39 = .ok (.aload_n 0, 1) := by decide +kernel
theorem dX4_isBackInGap_40 : decode cX4_isBackInGap 40 = .ok (.getfield 24, 3) := by decide +kernel
theorem dX4_isBackInGap_43 : decode cX4_isBackInGap 43 = .ok (.iaload, 1) := by decide +kernel
theorem dX4_isBackInGap_44 : decode cX4_isBackInGap 44 = .ok (.isub, 1) := by decide +kernel
theorem dX4_isBackInGap_45 : decode cX4_isBackInGap 45 = .ok (.iload_n 2, 1) := by decide +kernel
theorem dX4_isBackInGap_46 : decode cX4_isBackInGap 46 = .ok (.if_icmp .ge 7, 3) := by decide +kernel
theorem dX4_isBackInGap_49 : decode cX4_isBackInGap 49 = .ok (.iconst 1, 1) := by decide +kernel
theorem dX4_isBackInGap_50 : decode cX4_isBackInGap 50 = .ok (.goto 4, 3) := by decide +kernel
theorem dX4_isBackInGap_53 : decode cX4_isBackInGap 53 = .ok (.iconst 0, 1) := by decide +kernel
theorem dX4_isBackInGap_54 : decode cX4_isBackInGap 54 = .ok (.ireturn, 1) := by decide +kernel
set_option maxRecDepth 20000 in
theorem ggX5_init_X6_init : GoodIn wsX5_init wsX6_init := goodIn_r _ [10, 11, 2, 3, 12, 13, 14, 15, 16, 17, 18, 19, 20] (by decide +kernel) (by decide +kernel)
set_option maxRecDepth 20000 in
theorem gX5_init_X6_init_n9 : GoodIn wsX5_init (wsX6_init) := ggX5_init_X6_init
theorem dX5_init_0 : decode cX5_init 0 = .ok (.aload_n 0, 1) := by decide +kernel
theorem dX5_init_1 : decode cX5_init 1 = .ok (.invokespecial 1, 3) := by decide +kernel
theorem dX5_init_4 : decode cX5_init 4 = .ok (.aload_n 0, 1) := by decide +kernel
theorem dX5_init_5 : decode cX5_init 5 = .ok (.new 7, 3) := by decide +kernel
theorem dX5_init_8 : decode cX5_init 8 = .ok (.dup, 1) := by decide +kernel
theorem dX5_init_9 : decode cX5_init 9 = .ok (.invokespecial 9, 3) := by decide +kernel
theorem dX5_init_12 : decode cX5_init 12 = .ok (.putfield 10, 3) := by decide +kernel
theorem dX5_init_15 : decode cX5_init 15 = .ok (.aload_n 0, 1) := by decide +kernel
theorem dX5_init_16 : decode cX5_init 16 = .ok (.iconst 4, 1) := by decide +kernel
theorem dX5_init_17 : decode cX5_init 17 = .ok (.putfield 16, 3) := by decide +kernel
theorem dX5_init_20 : decode cX5_init 20 = .ok (.return_, 1) := by decide +kernel
set_option maxRecDepth 20000 in
theorem ggX5_begin_X6_begin : GoodIn wsX5_begin wsX6_begin := goodIn_r _ [8, 9, 10, 11, 12, 13, 14, 15, 16, 17, 22, 23, 24, 25, 26] (by decide +kernel) (by decide +kernel)
set_option maxRecDepth 20000 in
theorem gX5_begin_X6_begin : GoodIn wsX5_begin (wsV RX5 20 RX6 yX6_begin wsX6_begin) := goodIn_app (goodIn_of _ (by decide +kernel)) ggX5_begin_X6_begin
theorem dX5_begin_0 : decode cX5_begin 0 = .ok (.aload_n 0, 1) := by decide +kernel
theorem dX5_begin_1 : decode cX5_begin 1 = .ok (.getfield 10, 3) := by decide +kernel
theorem dX5_begin_4 : decode cX5_begin 4 = .ok (.iload_n 1, 1) := by decide +kernel
theorem dX5_begin_5 : decode cX5_begin 5 = .ok (.aload_n 2, 1) := by decide +kernel
theorem dX5_begin_6 : decode cX5_begin 6 = .ok (.aload_n 3, 1) := by decide +kernel
theorem dX5_begin_7 : decode cX5_begin 7 = .ok (.invokevirtual 20, 3) := by decide +kernel
theorem dX5_begin_10 : decode cX5_begin 10 = .ok (.aload_n 0, 1) := by decide +kernel
theorem dX5_begin_11 : decode cX5_begin 11 = .ok (.iconst 4, 1) := by decide +kernel
theorem dX5_begin_12 : decode cX5_begin 12 = .ok (.putfield 16, 3) := by decide +kernel
theorem dX5_begin_15 : decode cX5_begin 15 = .ok (.aload_n 0, 1) := by decide +kernel
theorem dX5_begin_16 : decode cX5_begin 16 = .ok (.iconst 0, 1) := by decide +kernel
theorem dX5_begin_17 : decode cX5_begin 17 = .ok (.putfield 24, 3) := by decide +kernel
theorem dX5_begin_20 : decode cX5_begin 20 = .ok (.return_, 1) := by decide +kernel
set_option maxRecDepth 20000 in
theorem ggX5_copyFrom_X6_copyFrom : GoodIn wsX5_copyFrom wsX6_copyFrom := goodIn_r _ [9, 10, 11, 12, 13, 14, 19, 20, 21, 22, 23] (by decide +kernel) (by decide +kernel)
set_option maxRecDepth 20000 in
theorem gX5_copyFrom_X6_copyFrom : GoodIn wsX5_copyFrom (wsV RX5 27 RX6 yX6_copyFrom wsX6_copyFrom) := goodIn_app (goodIn_of _ (by decide +kernel)) ggX5_copyFrom_X6_copyFrom
theorem dX5_copyFrom_0 : decode cX5_copyFrom 0 = .ok (.aload_n 0, 1) := by decide +kernel
theorem dX5_copyFrom_1 : decode cX5_copyFrom 1 = .ok (.getfield 10, 3) := by decide +kernel
theorem dX5_copyFrom_4 : decode cX5_copyFrom 4 = .ok (.aload_n 1, 1) := by decide +kernel
theorem dX5_copyFrom_5 : decode cX5_copyFrom 5 = .ok (.getfield 10, 3) := by decide +kernel
theorem dX5_copyFrom_8 : decode cX5_copyFrom 8 = .ok (.invokevirtual 27, 3) := by decide +kernel
theorem dX5_copyFrom_11 : decode cX5_copyFrom 11 = .ok (.aload_n 0, 1) := by decide +kernel
theorem dX5_copyFrom_12 : decode cX5_copyFrom 12 = .ok (.aload_n 1, 1) := by decide +kernel
theorem dX5_copyFrom_13 : decode cX5_copyFrom 13 = .ok (.getfield 16, 3) := by decide +kernel
theorem dX5_copyFrom_16 : decode cX5_copyFrom 16 = .ok (.putfield 16, 3) := by decide +kernel
theorem dX5_copyFrom_19 : decode cX5_copyFrom 19 = .ok (.aload_n 0, 1) := by decide +kernel
theorem dX5_copyFrom_20 : decode cX5_copyFrom 20 = .ok (.aload_n 1, 1) := by decide +kernel
theorem dX5_copyFrom_21 : decode cX5_copyFrom 21 = .ok (.getfield 24, 3) := by decide +kernel
theorem dX5_copyFrom_24 : decode cX5_copyFrom 24 = .ok (.putfield 24, 3) := by decide +kernel
theorem dX5_copyFrom_27 : decode cX5_copyFrom 27 = .ok (.aload_n 0, 1) := by decide +kernel
theorem dX5_copyFrom_28 : decode cX5_copyFrom 28 = .ok (.aload_n 1, 1) := by decide +kernel
theorem dX5_copyFrom_29 : decode cX5_copyFrom 29 = .ok (.getfield 31, 3) := by decide +kernel
theorem dX5_copyFrom_32 : decode cX5_copyFrom 32 = .ok (.putfield 31, 3) := by decide +kernel
theorem dX5_copyFrom_35 : decode cX5_copyFrom 35 = .ok (.return_, 1) := by decide +kernel
set_option maxRecDepth 20000 in
theorem ggX5_passCold_X6_freeze : GoodIn wsX5_passCold wsX6_freeze := goodIn_r _ [7, 8, 9, 10, 11, 12, 13, 6, 14, 15, 16, 17, 18, 19, 20, 21, 22, 23, 24, 25, 26, 27, 28, 29, 30, 31, 32, 33, 38, 39, 40, 41, 42] (by decide +kernel) (by decide +kernel)
set_option maxRecDepth 20000 in
theorem gX5_passCold_X6_freeze : GoodIn wsX5_passCold (wsV RX5 34 RX6 yX6_freeze wsX6_freeze) := goodIn_app (goodIn_of _ (by decide +kernel)) ggX5_passCold_X6_freeze
theorem dX5_passCold_0 : decode cX5_passCold 0 = .ok (.aload_n 0, 1) := by decide +kernel
theorem dX5_passCold_1 : decode cX5_passCold 1 = .ok (.getfield 10, 3) := by decide +kernel
theorem dX5_passCold_4 : decode cX5_passCold 4 = .ok (.iload_n 1, 1) := by decide +kernel
theorem dX5_passCold_5 : decode cX5_passCold 5 = .ok (.invokevirtual 34, 3) := by decide +kernel
theorem dX5_passCold_8 : decode cX5_passCold 8 = .ok (.aload_n 0, 1) := by decide +kernel
theorem dX5_passCold_9 : decode cX5_passCold 9 = .ok (.dup, 1) := by decide +kernel
theorem dX5_passCold_10 : decode cX5_passCold 10 = .ok (.getfield 24, 3) := by decide +kernel
theorem dX5_passCold_13 : decode cX5_passCold 13 = .ok (.iconst 1, 1) := by decide +kernel
theorem dX5_passCold_14 : decode cX5_passCold 14 = .ok (.iadd, 1) := by decide +kernel
theorem dX5_passCold_15 : decode cX5_passCold 15 = .ok (.putfield 24, 3) := by decide +kernel
theorem dX5_passCold_18 : decode cX5_passCold 18 = .ok (.return_, 1) := by decide +kernel
set_option maxRecDepth 20000 in
theorem ggX5_passThaw_X6_melt : GoodIn wsX5_passThaw wsX6_melt := goodIn_r _ [7, 8, 9, 10, 11, 12, 13, 14, 15, 16, 6, 17, 18, 19, 20, 21, 22, 23, 24, 25, 26, 27, 32, 33, 34, 35, 36] (by decide +kernel) (by decide +kernel)
set_option maxRecDepth 20000 in
theorem gX5_passThaw_X6_melt : GoodIn wsX5_passThaw (wsV RX5 38 RX6 yX6_melt wsX6_melt) := goodIn_app (goodIn_of _ (by decide +kernel)) ggX5_passThaw_X6_melt
theorem dX5_passThaw_0 : decode cX5_passThaw 0 = .ok (.aload_n 0, 1) := by decide +kernel
theorem dX5_passThaw_1 : decode cX5_passThaw 1 = .ok (.getfield 10, 3) := by decide +kernel
theorem dX5_passThaw_4 : decode cX5_passThaw 4 = .ok (.iload_n 1, 1) := by decide +kernel
theorem dX5_passThaw_5 : decode cX5_passThaw 5 = .ok (.invokevirtual 38, 3) := by decide +kernel
theorem dX5_passThaw_8 : decode cX5_passThaw 8 = .ok (.aload_n 0, 1) := by decide +kernel
theorem dX5_passThaw_9 : decode cX5_passThaw 9 = .ok (.dup, 1) := by decide +kernel
theorem dX5_passThaw_10 : decode cX5_passThaw 10 = .ok (.getfield 24, 3) := by decide +kernel
theorem dX5_passThaw_13 : decode cX5_passThaw 13 = .ok (.iconst 1, 1) := by decide +kernel
theorem dX5_passThaw_14 : decode cX5_passThaw 14 = .ok (.iadd, 1) := by decide +kernel
theorem dX5_passThaw_15 : decode cX5_passThaw 15 = .ok (.putfield 24, 3) := by decide +kernel
theorem dX5_passThaw_18 : decode cX5_passThaw 18 = .ok (.return_, 1) := by decide +kernel
set_option maxRecDepth 20000 in
theorem ggX5_passByDraws_X5_draw : GoodIn wsX5_passByDraws wsX5_draw := goodIn_r _ [5, 6, 7, 8, 9, 10, 59, 60, 61, 62] (by decide +kernel) (by decide +kernel)
set_option maxRecDepth 20000 in
theorem gX5_passByDraws_X5_draw : GoodIn wsX5_passByDraws (wsV RX5 41 RX5 yX5_draw wsX5_draw) := goodIn_app (goodIn_of _ (by decide +kernel)) ggX5_passByDraws_X5_draw
set_option maxRecDepth 20000 in
theorem ggX5_passByDraws_X5_passThaw : GoodIn wsX5_passByDraws wsX5_passThaw := goodIn_r _ [14, 15, 16, 17, 18, 19, 20, 21, 22, 23, 24, 25, 26, 27, 28, 29, 30, 31, 32, 33, 34, 35, 36, 37, 38, 39, 40, 41, 59, 60, 61, 62, 63, 64, 65, 66, 67] (by decide +kernel) (by decide +kernel)
set_option maxRecDepth 20000 in
theorem gX5_passByDraws_X5_passThaw : GoodIn wsX5_passByDraws (wsV RX5 45 RX5 yX5_passThaw wsX5_passThaw) := goodIn_app (goodIn_of _ (by decide +kernel)) ggX5_passByDraws_X5_passThaw
set_option maxRecDepth 20000 in
theorem ggX5_passByDraws_X5_passCold : GoodIn wsX5_passByDraws wsX5_passCold := goodIn_r _ [45, 15, 16, 46, 47, 48, 20, 49, 22, 23, 34, 28, 29, 30, 31, 32, 33, 35, 36, 37, 38, 39, 40, 41, 50, 51, 52, 53, 54, 26, 55, 56, 57, 58, 59, 60, 61, 62, 63, 64, 65, 66, 67] (by decide +kernel) (by decide +kernel)
set_option maxRecDepth 20000 in
theorem gX5_passByDraws_X5_passCold : GoodIn wsX5_passByDraws (wsV RX5 48 RX5 yX5_passCold wsX5_passCold) := goodIn_app (goodIn_of _ (by decide +kernel)) ggX5_passByDraws_X5_passCold
theorem dX5_passByDraws_0 : decode cX5_passByDraws 0 = .ok (.aload_n 0, 1) := by decide +kernel
theorem dX5_passByDraws_1 : decode cX5_passByDraws 1 = .ok (.iconst 5, 1) := by decide +kernel
theorem dX5_passByDraws_2 : decode cX5_passByDraws 2 = .ok (.invokevirtual 41, 3) := by decide +kernel
theorem dX5_passByDraws_5 : decode cX5_passByDraws 5 = .ok (.ifCond .ne 16, 3) := by decide +kernel
theorem dX5_passByDraws_8 : decode cX5_passByDraws 8 = .ok (.aload_n 0, 1) := by decide +kernel
theorem dX5_passByDraws_9 : decode cX5_passByDraws 9 = .ok (.aload_n 0, 1) := by decide +kernel
theorem dX5_passByDraws_10 : decode cX5_passByDraws 10 = .ok (.bipush 40, 2) := by decide +kernel
theorem dX5_passByDraws_12 : decode cX5_passByDraws 12 = .ok (.invokevirtual 41, 3) := by decide +kernel
theorem dX5_passByDraws_15 : decode cX5_passByDraws 15 = .ok (.invokevirtual 45, 3) := by decide +kernel
theorem dX5_passByDraws_18 : decode cX5_passByDraws 18 = .ok (.goto 13, 3) := by decide +kernel
theorem dX5_passByDraws_21 : decode cX5_passByDraws 21 = .ok (.aload_n 0, 1) := by decide +kernel
theorem dX5_passByDraws_22 : decode cX5_passByDraws 22 = .ok (.aload_n 0, 1) := by decide +kernel
theorem dX5_passByDraws_23 : decode cX5_passByDraws 23 = .ok (.bipush 31, 2) := by decide +kernel
theorem dX5_passByDraws_25 : decode cX5_passByDraws 25 = .ok (.invokevirtual 41, 3) := by decide +kernel
theorem dX5_passByDraws_28 : decode cX5_passByDraws 28 = .ok (.invokevirtual 48, 3) := by decide +kernel
theorem dX5_passByDraws_31 : decode cX5_passByDraws 31 = .ok (.return_, 1) := by decide +kernel
theorem dX5_draw_0 : decode cX5_draw 0 = .ok (.aload_n 0, 1) := by decide +kernel
theorem dX5_draw_1 : decode cX5_draw 1 = .ok (.aload_n 0, 1) := by decide +kernel
theorem dX5_draw_2 : decode cX5_draw 2 = .ok (.getfield 31, 3) := by decide +kernel
theorem dX5_draw_5 : decode cX5_draw 5 = .ok (.i2l, 1) := by decide +kernel
theorem dX5_draw_6 : decode cX5_draw 6 = .ok (.ldc2_w 51, 3) := by decide +kernel
theorem dX5_draw_9 : decode cX5_draw 9 = .ok (.lmul, 1) := by decide +kernel
theorem dX5_draw_10 : decode cX5_draw 10 = .ok (.ldc2_w 53, 3) := by decide +kernel
theorem dX5_draw_13 : decode cX5_draw 13 = .ok (.ladd, 1) := by decide +kernel
theorem dX5_draw_14 : decode cX5_draw 14 = .ok (.ldc2_w 55, 3) := by decide +kernel
theorem dX5_draw_17 : decode cX5_draw 17 = .ok (.land, 1) := by decide +kernel
theorem dX5_draw_18 : decode cX5_draw 18 = .ok (.l2i, 1) := by decide +kernel
theorem dX5_draw_19 : decode cX5_draw 19 = .ok (.putfield 31, 3) := by decide +kernel
theorem dX5_draw_22 : decode cX5_draw 22 = .ok (.iload_n 1, 1) := by decide +kernel
theorem dX5_draw_23 : decode cX5_draw 23 = .ok (.iconst 1, 1) := by decide +kernel
theorem dX5_draw_24 : decode cX5_draw 24 = .ok (.if_icmp .ge 7, 3) := by decide +kernel
theorem dX5_draw_27 : decode cX5_draw 27 = .ok (.iconst 0, 1) := by decide +kernel
theorem dX5_draw_28 : decode cX5_draw 28 = .ok (.goto 12, 3) := by decide +kernel
theorem dX5_draw_31 : decode cX5_draw 31 = .ok (.aload_n 0, 1) := by decide +kernel
theorem dX5_draw_32 : decode cX5_draw 32 = .ok (.getfield 31, 3) := by decide +kernel
theorem dX5_draw_35 : decode cX5_draw 35 = .ok (.ldc 57, 2) := by decide +kernel
theorem dX5_draw_37 : decode cX5_draw 37 = .ok (.idiv, 1) := by decide +kernel
theorem dX5_draw_38 : decode cX5_draw 38 = .ok (.iload_n 1, 1) := by decide +kernel
theorem dX5_draw_39 : decode cX5_draw 39 = .ok (.irem, 1) := by decide +kernel
theorem dX5_draw_40 : decode cX5_draw 40 = .ok (.ireturn, 1) := by decide +kernel
theorem dX6_init_0 : decode cX6_init 0 = .ok (.aload_n 0, 1) := by decide +kernel
theorem dX6_init_1 : decode cX6_init 1 = .ok (.invokespecial 3, 3) := by decide +kernel
theorem dX6_init_4 : decode cX6_init 4 = .ok (.aload_n 0, 1) := by decide +kernel
theorem dX6_init_5 : decode cX6_init 5 = .ok (.bipush 12, 2) := by decide +kernel
theorem dX6_init_7 : decode cX6_init 7 = .ok (.newarray .int, 2) := by decide +kernel
theorem dX6_init_9 : decode cX6_init 9 = .ok (.putfield 11, 3) := by decide +kernel
theorem dX6_init_12 : decode cX6_init 12 = .ok (.aload_n 0, 1) := by decide +kernel
theorem dX6_init_13 : decode cX6_init 13 = .ok (.bipush 12, 2) := by decide +kernel
theorem dX6_init_15 : decode cX6_init 15 = .ok (.newarray .int, 2) := by decide +kernel
theorem dX6_init_17 : decode cX6_init 17 = .ok (.putfield 15, 3) := by decide +kernel
theorem dX6_init_20 : decode cX6_init 20 = .ok (.aload_n 0, 1) := by decide +kernel
theorem dX6_init_21 : decode cX6_init 21 = .ok (.bipush 12, 2) := by decide +kernel
theorem dX6_init_23 : decode cX6_init 23 = .ok (.newarray .int, 2) := by decide +kernel
theorem dX6_init_25 : decode cX6_init 25 = .ok (.putfield 18, 3) := by decide +kernel
theorem dX6_init_28 : decode cX6_init 28 = .ok (.return_, 1) := by decide +kernel
theorem dX6_has_0 : decode cX6_has 0 = .ok (.iload_n 1, 1) := by decide +kernel
theorem dX6_has_1 : decode cX6_has 1 = .ok (.ifCond .lt 15, 3) := by decide +kernel
theorem dX6_has_4 : decode cX6_has 4 = .ok (.iload_n 1, 1) := by decide +kernel
theorem dX6_has_5 : decode cX6_has 5 = .ok (.aload_n 0, 1) := by decide +kernel
theorem dX6_has_6 : decode cX6_has 6 = .ok (.getfield 21, 3) := by decide +kernel
theorem dX6_has_9 : decode cX6_has 9 = .ok (.if_icmp .ge 7, 3) := by decide +kernel
theorem dX6_has_12 : decode cX6_has 12 = .ok (.iconst 1, 1) := by decide +kernel
theorem dX6_has_13 : decode cX6_has 13 = .ok (.goto 4, 3) := by decide +kernel
theorem dX6_has_16 : decode cX6_has 16 = .ok (.iconst 0, 1) := by decide +kernel
theorem dX6_has_17 : decode cX6_has 17 = .ok (.ireturn, 1) := by decide +kernel
theorem dX6_isOpen_0 : decode cX6_isOpen 0 = .ok (.aload_n 0, 1) := by decide +kernel
theorem dX6_isOpen_1 : decode cX6_isOpen 1 = .ok (.getfield 25, 3) := by decide +kernel
theorem dX6_isOpen_4 : decode cX6_isOpen 4 = .ok (.iload_n 1, 1) := by decide +kernel
theorem dX6_isOpen_5 : decode cX6_isOpen 5 = .ok (.ishr, 1) := by decide +kernel
theorem dX6_isOpen_6 : decode cX6_isOpen 6 = .ok (.iconst 1, 1) := by decide +kernel
theorem dX6_isOpen_7 : decode cX6_isOpen 7 = .ok (.iand, 1) := by decide +kernel
theorem dX6_isOpen_8 : decode cX6_isOpen 8 = .ok (.iconst 1, 1) := by decide +kernel
theorem dX6_isOpen_9 : decode cX6_isOpen 9 = .ok (.if_icmp .ne 7, 3) := by decide +kernel
theorem dX6_isOpen_12 : decode cX6_isOpen 12 = .ok (.iconst 1, 1) := by decide +kernel
theorem dX6_isOpen_13 : decode cX6_isOpen 13 = .ok (.goto 4, 3) := by decide +kernel
theorem dX6_isOpen_16 : decode cX6_isOpen 16 = .ok (.iconst 0, 1) := by decide +kernel
theorem dX6_isOpen_17 : decode cX6_isOpen 17 = .ok (.ireturn, 1) := by decide +kernel
theorem dX6_begin_0 : decode cX6_begin 0 = .ok (.aload_n 0, 1) := by decide +kernel
theorem dX6_begin_1 : decode cX6_begin 1 = .ok (.bipush 12, 2) := by decide +kernel
theorem dX6_begin_3 : decode cX6_begin 3 = .ok (.iload_n 1, 1) := by decide +kernel
theorem dX6_begin_4 : decode cX6_begin 4 = .ok (.invokestatic 28, 3) := by decide +kernel
theorem dX6_begin_7 : decode cX6_begin 7 = .ok (.putfield 21, 3) := by decide +kernel
theorem dX6_begin_10 : decode cX6_begin 10 = .ok (.aload_n 0, 1) := by decide +kernel
theorem dX6_begin_11 : decode cX6_begin 11 = .ok (.iconst 0, 1) := by decide +kernel
theorem dX6_begin_12 : decode cX6_begin 12 = .ok (.putfield 25, 3) := by decide +kernel
theorem dX6_begin_15 : decode cX6_begin 15 = .ok (.iconst 0, 1) := by decide +kernel
theorem dX6_begin_16 : decode cX6_begin 16 = .ok (.istore 4, 2) := by decide +kernel
theorem dX6_begin_18 : decode cX6_begin 18 = .ok (.iload 4, 2) := by decide +kernel
theorem dX6_begin_20 : decode cX6_begin 20 = .ok (.aload_n 0, 1) := by decide +kernel
theorem dX6_begin_21 : decode cX6_begin 21 = .ok (.getfield 21, 3) := by decide +kernel
theorem dX6_begin_24 : decode cX6_begin 24 = .ok (.if_icmp .ge 39, 3) := by decide +kernel
theorem dX6_begin_27 : decode cX6_begin 27 = .ok (.aload_n 0, 1) := by decide +kernel
theorem dX6_begin_28 : decode cX6_begin 28 = .ok (.getfield 11, 3) := by decide +kernel
theorem dX6_begin_31 : decode cX6_begin 31 = .ok (.iload 4, 2) := by decide +kernel
theorem dX6_begin_33 : decode cX6_begin 33 = .ok (.aload_n 2, 1) := by decide +kernel
theorem dX6_begin_34 : decode cX6_begin 34 = .ok (.iload 4, 2) := by decide +kernel
theorem dX6_begin_36 : decode cX6_begin 36 = .ok (.iaload, 1) := by decide +kernel
theorem dX6_begin_37 : decode cX6_begin 37 = .ok (.iastore, 1) := by decide +kernel
theorem dX6_begin_38 : decode cX6_begin 38 = .ok (.aload_n 0, 1) := by decide +kernel
theorem dX6_begin_39 : decode cX6_begin 39 = .ok (.getfield 15, 3) := by decide +kernel
theorem dX6_begin_42 : decode cX6_begin 42 = .ok (.iload 4, 2) := by decide +kernel
theorem dX6_begin_44 : decode cX6_begin 44 = .ok (.aload_n 3, 1) := by decide +kernel
theorem dX6_begin_45 : decode cX6_begin 45 = .ok (.iload 4, 2) := by decide +kernel
theorem dX6_begin_47 : decode cX6_begin 47 = .ok (.iaload, 1) := by decide +kernel
theorem dX6_begin_48 : decode cX6_begin 48 = .ok (.iastore, 1) := by decide +kernel
theorem dX6_begin_49 : decode cX6_begin 49 = .ok (.aload_n 0, 1) := by decide +kernel
theorem dX6_begin_50 : decode cX6_begin 50 = .ok (.getfield 18, 3) := by decide +kernel
theorem dX6_begin_53 : decode cX6_begin 53 = .ok (.iload 4, 2) := by decide +kernel
theorem dX6_begin_55 : decode cX6_begin 55 = .ok (.iconst 0, 1) := by decide +kernel
theorem dX6_begin_56 : decode cX6_begin 56 = .ok (.iastore, 1) := by decide +kernel
theorem dX6_begin_57 : decode cX6_begin 57 = .ok (.iinc 4 1, 3) := by decide +kernel
theorem dX6_begin_60 : decode cX6_begin 60 = .ok (.goto (-42), 3) := by decide +kernel
theorem dX6_begin_63 : decode cX6_begin 63 = .ok (.return_, 1) := by decide +kernel
theorem dX6_copyFrom_0 : decode cX6_copyFrom 0 = .ok (.aload_n 0, 1) := by decide +kernel
theorem dX6_copyFrom_1 : decode cX6_copyFrom 1 = .ok (.aload_n 1, 1) := by decide +kernel
theorem dX6_copyFrom_2 : decode cX6_copyFrom 2 = .ok (.getfield 21, 3) := by decide +kernel
theorem dX6_copyFrom_5 : decode cX6_copyFrom 5 = .ok (.putfield 21, 3) := by decide +kernel
theorem dX6_copyFrom_8 : decode cX6_copyFrom 8 = .ok (.aload_n 0, 1) := by decide +kernel
theorem dX6_copyFrom_9 : decode cX6_copyFrom 9 = .ok (.aload_n 1, 1) := by decide +kernel
theorem dX6_copyFrom_10 : decode cX6_copyFrom 10 = .ok (.getfield 25, 3) := by decide +kernel
theorem dX6_copyFrom_13 : decode cX6_copyFrom 13 = .ok (.putfield 25, 3) := by decide +kernel
theorem dX6_copyFrom_16 : decode cX6_copyFrom 16 = .ok (.iconst 0, 1) := by decide +kernel
theorem dX6_copyFrom_17 : decode cX6_copyFrom 17 = .ok (.istore_n 2, 1) := by decide +kernel
theorem dX6_copyFrom_18 : decode cX6_copyFrom 18 = .ok (.iload_n 2, 1) := by decide +kernel
theorem dX6_copyFrom_19 : decode cX6_copyFrom 19 = .ok (.aload_n 0, 1) := by decide +kernel
theorem dX6_copyFrom_20 : decode cX6_copyFrom 20 = .ok (.getfield 21, 3) := by decide +kernel
theorem dX6_copyFrom_23 : decode cX6_copyFrom 23 = .ok (.if_icmp .ge 45, 3) := by decide +kernel
theorem dX6_copyFrom_26 : decode cX6_copyFrom 26 = .ok (.aload_n 0, 1) := by decide +kernel
theorem dX6_copyFrom_27 : decode cX6_copyFrom 27 = .ok (.getfield 11, 3) := by decide +kernel
theorem dX6_copyFrom_30 : decode cX6_copyFrom 30 = .ok (.iload_n 2, 1) := by decide +kernel
theorem dX6_copyFrom_31 : decode cX6_copyFrom 31 = .ok (.aload_n 1, 1) := by decide +kernel
theorem dX6_copyFrom_32 : decode cX6_copyFrom 32 = .ok (.getfield 11, 3) := by decide +kernel
theorem dX6_copyFrom_35 : decode cX6_copyFrom 35 = .ok (.iload_n 2, 1) := by decide +kernel
theorem dX6_copyFrom_36 : decode cX6_copyFrom 36 = .ok (.iaload, 1) := by decide +kernel
theorem dX6_copyFrom_37 : decode cX6_copyFrom 37 = .ok (.iastore, 1) := by decide +kernel
theorem dX6_copyFrom_38 : decode cX6_copyFrom 38 = .ok (.aload_n 0, 1) := by decide +kernel
theorem dX6_copyFrom_39 : decode cX6_copyFrom 39 = .ok (.getfield 15, 3) := by decide +kernel
theorem dX6_copyFrom_42 : decode cX6_copyFrom 42 = .ok (.iload_n 2, 1) := by decide +kernel
theorem dX6_copyFrom_43 : decode cX6_copyFrom 43 = .ok (.aload_n 1, 1) := by decide +kernel
theorem dX6_copyFrom_44 : decode cX6_copyFrom 44 = .ok (.getfield 15, 3) := by decide +kernel
theorem dX6_copyFrom_47 : decode cX6_copyFrom 47 = .ok (.iload_n 2, 1) := by decide +kernel
theorem dX6_copyFrom_48 : decode cX6_copyFrom 48 = .ok (.iaload, 1) := by decide +kernel
theorem dX6_copyFrom_49 : decode cX6_copyFrom 49 = .ok (.iastore, 1) := by decide +kernel
theorem dX6_copyFrom_50 : decode cX6_copyFrom 50 = .ok (.aload_n 0, 1) := by decide +kernel
theorem dX6_copyFrom_51 : decode cX6_copyFrom 51 = .ok (.getfield 18, 3) := by decide +kernel
theorem dX6_copyFrom_54 : decode cX6_copyFrom 54 = .ok (.iload_n 2, 1) := by decide +kernel
theorem dX6_copyFrom_55 : decode cX6_copyFrom 55 = .ok (.aload_n 1, 1) := by decide +kernel
theorem dX6_copyFrom_56 : decode cX6_copyFrom 56 = .ok (.getfield 18, 3) := by decide +kernel
theorem dX6_copyFrom_59 : decode cX6_copyFrom 59 = .ok (.iload_n 2, 1) := by decide +kernel
theorem dX6_copyFrom_60 : decode cX6_copyFrom 60 = .ok (.iaload, 1) := by decide +kernel
theorem dX6_copyFrom_61 : decode cX6_copyFrom 61 = .ok (.iastore, 1) := by decide +kernel
theorem dX6_copyFrom_62 : decode cX6_copyFrom 62 = .ok (.iinc 2 1, 3) := by decide +kernel
theorem dX6_copyFrom_65 : decode cX6_copyFrom 65 = .ok (.goto (-47), 3) := by decide +kernel
theorem dX6_copyFrom_68 : decode cX6_copyFrom 68 = .ok (.return_, 1) := by decide +kernel
theorem dX6_iceTogether_0 : decode cX6_iceTogether 0 = .ok (.iconst 0, 1) := by decide +kernel
theorem dX6_iceTogether_1 : decode cX6_iceTogether 1 = .ok (.istore_n 1, 1) := by decide +kernel
theorem dX6_iceTogether_2 : decode cX6_iceTogether 2 = .ok (.iconst 0, 1) := by decide +kernel
theorem dX6_iceTogether_3 : decode cX6_iceTogether 3 = .ok (.istore_n 2, 1) := by decide +kernel
theorem dX6_iceTogether_4 : decode cX6_iceTogether 4 = .ok (.iload_n 2, 1) := by decide +kernel
theorem dX6_iceTogether_5 : decode cX6_iceTogether 5 = .ok (.aload_n 0, 1) := by decide +kernel
theorem dX6_iceTogether_6 : decode cX6_iceTogether 6 = .ok (.getfield 21, 3) := by decide +kernel
theorem dX6_iceTogether_9 : decode cX6_iceTogether 9 = .ok (.if_icmp .ge 18, 3) := by decide +kernel
theorem dX6_iceTogether_12 : decode cX6_iceTogether 12 = .ok (.iload_n 1, 1) := by decide +kernel
theorem dX6_iceTogether_13 : decode cX6_iceTogether 13 = .ok (.aload_n 0, 1) := by decide +kernel
theorem dX6_iceTogether_14 : decode cX6_iceTogether 14 = .ok (.getfield 15, 3) := by decide +kernel
theorem dX6_iceTogether_17 : decode cX6_iceTogether 17 = .ok (.iload_n 2, 1) := by decide +kernel
theorem dX6_iceTogether_18 : decode cX6_iceTogether 18 = .ok (.iaload, 1) := by decide +kernel
theorem dX6_iceTogether_19 : decode cX6_iceTogether 19 = .ok (.iadd, 1) := by decide +kernel
theorem dX6_iceTogether_20 : decode cX6_iceTogether 20 = .ok (.istore_n 1, 1) := by decide +kernel
theorem dX6_iceTogether_21 : decode cX6_iceTogether 21 = .ok (.iinc 2 1, 3) := by decide +kernel
theorem dX6_iceTogether_24 : decode cX6_iceTogether 24 = .ok (.goto (-20), 3) := by decide +kernel
theorem dX6_iceTogether_27 : decode cX6_iceTogether 27 = .ok (.iload_n 1, 1) := by decide +kernel
theorem dX6_iceTogether_28 : decode cX6_iceTogether 28 = .ok (.ireturn, 1) := by decide +kernel
theorem dX6_growth_0 : decode cX6_growth 0 = .ok (.bipush 10, 2) := by decide +kernel
theorem dX6_growth_2 : decode cX6_growth 2 = .ok (.iload_n 1, 1) := by decide +kernel
theorem dX6_growth_3 : decode cX6_growth 3 = .ok (.iadd, 1) := by decide +kernel
theorem dX6_growth_4 : decode cX6_growth 4 = .ok (.istore_n 3, 1) := by decide +kernel
theorem dX6_growth_5 : decode cX6_growth 5 = .ok (.iload_n 3, 1) := by decide +kernel
theorem dX6_growth_6 : decode cX6_growth 6 = .ok (.iconst 1, 1) := by decide +kernel
theorem dX6_growth_7 : decode cX6_growth 7 = .ok (.if_icmp .ge 5, 3) := by decide +kernel
theorem dX6_growth_10 : decode cX6_growth 10 = .ok (.iconst 0, 1) := by decide +kernel
theorem dX6_growth_11 : decode cX6_growth 11 = .ok (.ireturn, 1) := by decide +kernel
theorem dX6_growth_12 : decode cX6_growth 12 = .ok (.bipush 20, 2) := by decide +kernel
theorem dX6_growth_14 : decode cX6_growth 14 = .ok (.iload_n 2, 1) := by decide +kernel
theorem dX6_growth_15 : decode cX6_growth 15 = .ok (.imul, 1) := by decide +kernel
theorem dX6_growth_16 : decode cX6_growth 16 = .ok (.iload_n 3, 1) := by decide +kernel
theorem dX6_growth_17 : decode cX6_growth 17 = .ok (.idiv, 1) := by decide +kernel
theorem dX6_growth_18 : decode cX6_growth 18 = .ok (.istore 4, 2) := by decide +kernel
theorem dX6_growth_20 : decode cX6_growth 20 = .ok (.iload_n 0, 1) := by decide +kernel
theorem dX6_growth_21 : decode cX6_growth 21 = .ok (.iconst 1, 1) := by decide +kernel
theorem dX6_growth_22 : decode cX6_growth 22 = .ok (.if_icmp .ne 11, 3) := by decide +kernel
theorem dX6_growth_25 : decode cX6_growth 25 = .ok (.iload 4, 2) := by decide +kernel
theorem dX6_growth_27 : decode cX6_growth 27 = .ok (.iload 4, 2) := by decide +kernel
theorem dX6_growth_29 : decode cX6_growth 29 = .ok (.iconst 2, 1) := by decide +kernel
theorem dX6_growth_30 : decode cX6_growth 30 = .ok (.idiv, 1) := by decide +kernel
theorem dX6_growth_31 : decode cX6_growth 31 = .ok (.iadd, 1) := by decide +kernel
theorem dX6_growth_32 : decode cX6_growth 32 = .ok (.ireturn, 1) := by decide +kernel
theorem dX6_growth_33 : decode cX6_growth 33 = .ok (.iload_n 0, 1) := by decide +kernel
theorem dX6_growth_34 : decode cX6_growth 34 = .ok (.iconst 3, 1) := by decide +kernel
theorem dX6_growth_35 : decode cX6_growth 35 = .ok (.if_icmp .ne 10, 3) := by decide +kernel
theorem dX6_growth_38 : decode cX6_growth 38 = .ok (.iload 4, 2) := by decide +kernel
theorem dX6_growth_40 : decode cX6_growth 40 = .ok (.iconst 2, 1) := by decide +kernel
theorem dX6_growth_41 : decode cX6_growth 41 = .ok (.idiv, 1) := by decide +kernel
theorem dX6_growth_42 : decode cX6_growth 42 = .ok (.goto 5, 3) := by decide +kernel
theorem dX6_growth_45 : decode cX6_growth 45 = .ok (.iload 4, 2) := by decide +kernel
theorem dX6_growth_47 : decode cX6_growth 47 = .ok (.ireturn, 1) := by decide +kernel
set_option maxRecDepth 20000 in
theorem ggX6_thicker_X6_growth : GoodIn wsX6_thicker wsX6_growth := goodIn_r _ [8] (by decide +kernel) (by decide +kernel)
set_option maxRecDepth 20000 in
theorem gX6_thicker_X6_growth : GoodIn wsX6_thicker (va_wsS RX6 34 yX6_growth wsX6_growth) := goodIn_app (goodIn_of _ (by decide +kernel)) ggX6_thicker_X6_growth
theorem dX6_thicker_0 : decode cX6_thicker 0 = .ok (.sipush 300, 3) := by decide +kernel
theorem dX6_thicker_3 : decode cX6_thicker 3 = .ok (.iload_n 1, 1) := by decide +kernel
theorem dX6_thicker_4 : decode cX6_thicker 4 = .ok (.iload_n 0, 1) := by decide +kernel
theorem dX6_thicker_5 : decode cX6_thicker 5 = .ok (.iload_n 1, 1) := by decide +kernel
theorem dX6_thicker_6 : decode cX6_thicker 6 = .ok (.iload_n 2, 1) := by decide +kernel
theorem dX6_thicker_7 : decode cX6_thicker 7 = .ok (.invokestatic 34, 3) := by decide +kernel
theorem dX6_thicker_10 : decode cX6_thicker 10 = .ok (.iadd, 1) := by decide +kernel
theorem dX6_thicker_11 : decode cX6_thicker 11 = .ok (.invokestatic 28, 3) := by decide +kernel
theorem dX6_thicker_14 : decode cX6_thicker 14 = .ok (.ireturn, 1) := by decide +kernel
theorem dX6_kindOnceShut_0 : decode cX6_kindOnceShut 0 = .ok (.iload_n 0, 1) := by decide +kernel
theorem dX6_kindOnceShut_1 : decode cX6_kindOnceShut 1 = .ok (.ifCond .ne 7, 3) := by decide +kernel
theorem dX6_kindOnceShut_4 : decode cX6_kindOnceShut 4 = .ok (.iconst 1, 1) := by decide +kernel
theorem dX6_kindOnceShut_5 : decode cX6_kindOnceShut 5 = .ok (.goto 4, 3) := by decide +kernel
theorem dX6_kindOnceShut_8 : decode cX6_kindOnceShut 8 = .ok (.iload_n 0, 1) := by decide +kernel
theorem dX6_kindOnceShut_9 : decode cX6_kindOnceShut 9 = .ok (.ireturn, 1) := by decide +kernel
set_option maxRecDepth 20000 in
theorem ggX6_freeze_X6_shutOpen : GoodIn wsX6_freeze wsX6_shutOpen := goodIn_r _ [8, 9, 1, 2, 10, 3, 11, 12, 13, 7, 14, 15, 16, 17, 28, 29, 30, 31, 32] (by decide +kernel) (by decide +kernel)
set_option maxRecDepth 20000 in
theorem gX6_freeze_X6_shutOpen : GoodIn wsX6_freeze (wsV RX6 38 RX6 yX6_shutOpen wsX6_shutOpen) := goodIn_app (goodIn_of _ (by decide +kernel)) ggX6_freeze_X6_shutOpen
set_option maxRecDepth 20000 in
theorem ggX6_freeze_X6_thicker : GoodIn wsX6_freeze wsX6_thicker := goodIn_r _ [20, 21, 22, 23, 24, 25, 26, 7, 27] (by decide +kernel) (by decide +kernel)
set_option maxRecDepth 20000 in
theorem gX6_freeze_X6_thicker : GoodIn wsX6_freeze (va_wsS RX6 41 yX6_thicker wsX6_thicker) := goodIn_app (goodIn_of _ (by decide +kernel)) ggX6_freeze_X6_thicker
theorem dX6_freeze_0 : decode cX6_freeze 0 = .ok (.aload_n 0, 1) := by decide +kernel
theorem dX6_freeze_1 : decode cX6_freeze 1 = .ok (.invokevirtual 38, 3) := by decide +kernel
theorem dX6_freeze_4 : decode cX6_freeze 4 = .ok (.iconst 0, 1) := by decide +kernel
theorem dX6_freeze_5 : decode cX6_freeze 5 = .ok (.istore_n 2, 1) := by decide +kernel
theorem dX6_freeze_6 : decode cX6_freeze 6 = .ok (.iload_n 2, 1) := by decide +kernel
theorem dX6_freeze_7 : decode cX6_freeze 7 = .ok (.aload_n 0, 1) := by decide +kernel
theorem dX6_freeze_8 : decode cX6_freeze 8 = .ok (.getfield 21, 3) := by decide +kernel
theorem dX6_freeze_11 : decode cX6_freeze 11 = .ok (.if_icmp .ge 31, 3) := by decide +kernel
theorem dX6_freeze_14 : decode cX6_freeze 14 = .ok (.aload_n 0, 1) := by decide +kernel
theorem dX6_freeze_15 : decode cX6_freeze 15 = .ok (.getfield 15, 3) := by decide +kernel
theorem dX6_freeze_18 : decode cX6_freeze 18 = .ok (.iload_n 2, 1) := by decide +kernel
theorem dX6_freeze_19 : decode cX6_freeze 19 = .ok (.aload_n 0, 1) := by decide +kernel
theorem dX6_freeze_20 : decode cX6_freeze 20 = .ok (.getfield 11, 3) := by decide +kernel
theorem dX6_freeze_23 : decode cX6_freeze 23 = .ok (.iload_n 2, 1) := by decide +kernel
theorem dX6_freeze_24 : decode cX6_freeze 24 = .ok (.iaload, 1) := by decide +kernel
theorem dX6_freeze_25 : decode cX6_freeze 25 = .ok (.aload_n 0, 1) := by decide +kernel
theorem dX6_freeze_26 : decode cX6_freeze 26 = .ok (.getfield 15, 3) := by decide +kernel
theorem dX6_freeze_29 : decode cX6_freeze 29 = .ok (.iload_n 2, 1) := by decide +kernel
theorem dX6_freeze_30 : decode cX6_freeze 30 = .ok (.iaload, 1) := by decide +kernel
theorem dX6_freeze_31 : decode cX6_freeze 31 = .ok (.iload_n 1, 1) := by decide +kernel
theorem dX6_freeze_32 : decode cX6_freeze 32 = .ok (.invokestatic 41, 3) := by decide +kernel
theorem dX6_freeze_35 : decode cX6_freeze 35 = .ok (.iastore, 1) := by decide +kernel
theorem dX6_freeze_36 : decode cX6_freeze 36 = .ok (.iinc 2 1, 3) := by decide +kernel
theorem dX6_freeze_39 : decode cX6_freeze 39 = .ok (.goto (-33), 3) := by decide +kernel
theorem dX6_freeze_42 : decode cX6_freeze 42 = .ok (.return_, 1) := by decide +kernel
set_option maxRecDepth 20000 in
theorem ggX6_melt_X6_shutOpen : GoodIn wsX6_melt wsX6_shutOpen := goodIn_r _ [11, 12, 1, 2, 13, 14, 15, 16, 17, 10, 18, 19, 20, 21, 22, 23, 24, 25, 26] (by decide +kernel) (by decide +kernel)
set_option maxRecDepth 20000 in
theorem gX6_melt_X6_shutOpen : GoodIn wsX6_melt (wsV RX6 38 RX6 yX6_shutOpen wsX6_shutOpen) := goodIn_app (goodIn_of _ (by decide +kernel)) ggX6_melt_X6_shutOpen
theorem dX6_melt_0 : decode cX6_melt 0 = .ok (.aload_n 0, 1) := by decide +kernel
theorem dX6_melt_1 : decode cX6_melt 1 = .ok (.invokevirtual 38, 3) := by decide +kernel
theorem dX6_melt_4 : decode cX6_melt 4 = .ok (.iconst 0, 1) := by decide +kernel
theorem dX6_melt_5 : decode cX6_melt 5 = .ok (.istore_n 2, 1) := by decide +kernel
theorem dX6_melt_6 : decode cX6_melt 6 = .ok (.iload_n 2, 1) := by decide +kernel
theorem dX6_melt_7 : decode cX6_melt 7 = .ok (.aload_n 0, 1) := by decide +kernel
theorem dX6_melt_8 : decode cX6_melt 8 = .ok (.getfield 21, 3) := by decide +kernel
theorem dX6_melt_11 : decode cX6_melt 11 = .ok (.if_icmp .ge 27, 3) := by decide +kernel
theorem dX6_melt_14 : decode cX6_melt 14 = .ok (.aload_n 0, 1) := by decide +kernel
theorem dX6_melt_15 : decode cX6_melt 15 = .ok (.getfield 15, 3) := by decide +kernel
theorem dX6_melt_18 : decode cX6_melt 18 = .ok (.iload_n 2, 1) := by decide +kernel
theorem dX6_melt_19 : decode cX6_melt 19 = .ok (.iconst 0, 1) := by decide +kernel
theorem dX6_melt_20 : decode cX6_melt 20 = .ok (.aload_n 0, 1) := by decide +kernel
theorem dX6_melt_21 : decode cX6_melt 21 = .ok (.getfield 15, 3) := by decide +kernel
theorem dX6_melt_24 : decode cX6_melt 24 = .ok (.iload_n 2, 1) := by decide +kernel
theorem dX6_melt_25 : decode cX6_melt 25 = .ok (.iaload, 1) := by decide +kernel
theorem dX6_melt_26 : decode cX6_melt 26 = .ok (.iload_n 1, 1) := by decide +kernel
theorem dX6_melt_27 : decode cX6_melt 27 = .ok (.isub, 1) := by decide +kernel
theorem dX6_melt_28 : decode cX6_melt 28 = .ok (.invokestatic 44, 3) := by decide +kernel
theorem dX6_melt_31 : decode cX6_melt 31 = .ok (.iastore, 1) := by decide +kernel
theorem dX6_melt_32 : decode cX6_melt 32 = .ok (.iinc 2 1, 3) := by decide +kernel
theorem dX6_melt_35 : decode cX6_melt 35 = .ok (.goto (-29), 3) := by decide +kernel
theorem dX6_melt_38 : decode cX6_melt 38 = .ok (.return_, 1) := by decide +kernel
set_option maxRecDepth 20000 in
theorem ggX6_shutOpen_X6_isOpen : GoodIn wsX6_shutOpen wsX6_isOpen := goodIn_r _ [10, 1, 14, 15, 16, 17, 18] (by decide +kernel) (by decide +kernel)
set_option maxRecDepth 20000 in
theorem gX6_shutOpen_X6_isOpen : GoodIn wsX6_shutOpen (wsV RX6 47 RX6 yX6_isOpen wsX6_isOpen) := goodIn_app (goodIn_of _ (by decide +kernel)) ggX6_shutOpen_X6_isOpen
set_option maxRecDepth 20000 in
theorem ggX6_shutOpen_X6_kindOnceShut : GoodIn wsX6_shutOpen wsX6_kindOnceShut := goodIn_r _ [13] (by decide +kernel) (by decide +kernel)
set_option maxRecDepth 20000 in
theorem gX6_shutOpen_X6_kindOnceShut : GoodIn wsX6_shutOpen (va_wsS RX6 51 yX6_kindOnceShut wsX6_kindOnceShut) := goodIn_app (goodIn_of _ (by decide +kernel)) ggX6_shutOpen_X6_kindOnceShut
theorem dX6_shutOpen_0 : decode cX6_shutOpen 0 = .ok (.aload_n 0, 1) := by decide +kernel
theorem dX6_shutOpen_1 : decode cX6_shutOpen 1 = .ok (.getfield 25, 3) := by decide +kernel
theorem dX6_shutOpen_4 : decode cX6_shutOpen 4 = .ok (.ifCond .ne 4, 3) := by decide +kernel
theorem dX6_shutOpen_7 : decode cX6_shutOpen 7 = .ok (.return_, 1) := by decide +kernel
theorem dX6_shutOpen_8 : decode cX6_shutOpen 8 = .ok (.iconst 0, 1) := by decide +kernel
theorem dX6_shutOpen_9 : decode cX6_shutOpen 9 = .ok (.istore_n 1, 1) := by decide +kernel
theorem dX6_shutOpen_10 : decode cX6_shutOpen 10 = .ok (.iload_n 1, 1) := by decide +kernel
theorem dX6_shutOpen_11 : decode cX6_shutOpen 11 = .ok (.aload_n 0, 1) := by decide +kernel
theorem dX6_shutOpen_12 : decode cX6_shutOpen 12 = .ok (.getfield 21, 3) := by decide +kernel
theorem dX6_shutOpen_15 : decode cX6_shutOpen 15 = .ok (.if_icmp .ge 53, 3) := by decide +kernel
theorem dX6_shutOpen_18 : decode cX6_shutOpen 18 = .ok (.aload_n 0, 1) := by decide +kernel
theorem dX6_shutOpen_19 : decode cX6_shutOpen 19 = .ok (.iload_n 1, 1) := by decide +kernel
theorem dX6_shutOpen_20 : decode cX6_shutOpen 20 = .ok (.invokevirtual 47, 3) := by decide +kernel
theorem dX6_shutOpen_23 : decode cX6_shutOpen 23 = .ok (.ifCond .eq 39, 3) := by decide +kernel
theorem dX6_shutOpen_26 : decode cX6_shutOpen 26 = .ok (.aload_n 0, 1) := by decide +kernel
theorem dX6_shutOpen_27 : decode cX6_shutOpen 27 = .ok (.getfield 15, 3) := by decide +kernel
theorem dX6_shutOpen_30 : decode cX6_shutOpen 30 = .ok (.iload_n 1, 1) := by decide +kernel
theorem dX6_shutOpen_31 : decode cX6_shutOpen 31 = .ok (.aload_n 0, 1) := by decide +kernel
theorem dX6_shutOpen_32 : decode cX6_shutOpen 32 = .ok (.getfield 18, 3) := by decide +kernel
theorem dX6_shutOpen_35 : decode cX6_shutOpen 35 = .ok (.iload_n 1, 1) := by decide +kernel
theorem dX6_shutOpen_36 : decode cX6_shutOpen 36 = .ok (.iaload, 1) := by decide +kernel
theorem dX6_shutOpen_37 : decode cX6_shutOpen 37 = .ok (.iconst 3, 1) := by decide +kernel
theorem dX6_shutOpen_38 : decode cX6_shutOpen 38 = .ok (.idiv, 1) := by decide +kernel
theorem dX6_shutOpen_39 : decode cX6_shutOpen 39 = .ok (.iastore, 1) := by decide +kernel
theorem dX6_shutOpen_40 : decode cX6_shutOpen 40 = .ok (.aload_n 0, 1) := by decide +kernel
theorem dX6_shutOpen_41 : decode cX6_shutOpen 41 = .ok (.getfield 11, 3) := by decide +kernel
theorem dX6_shutOpen_44 : decode cX6_shutOpen 44 = .ok (.iload_n 1, 1) := by decide +kernel
theorem dX6_shutOpen_45 : decode cX6_shutOpen 45 = .ok (.aload_n 0, 1) := by decide +kernel
theorem dX6_shutOpen_46 : decode cX6_shutOpen 46 = .ok (.getfield 11, 3) := by decide +kernel
theorem dX6_shutOpen_49 : decode cX6_shutOpen 49 = .ok (.iload_n 1, 1) := by decide +kernel
theorem dX6_shutOpen_50 : decode cX6_shutOpen 50 = .ok (.iaload, 1) := by decide +kernel
theorem dX6_shutOpen_51 : decode cX6_shutOpen 51 = .ok (.invokestatic 51, 3) := by decide +kernel
theorem dX6_shutOpen_54 : decode cX6_shutOpen 54 = .ok (.iastore, 1) := by decide +kernel
theorem dX6_shutOpen_55 : decode cX6_shutOpen 55 = .ok (.aload_n 0, 1) := by decide +kernel
theorem dX6_shutOpen_56 : decode cX6_shutOpen 56 = .ok (.getfield 18, 3) := by decide +kernel
theorem dX6_shutOpen_59 : decode cX6_shutOpen 59 = .ok (.iload_n 1, 1) := by decide +kernel
theorem dX6_shutOpen_60 : decode cX6_shutOpen 60 = .ok (.iconst 0, 1) := by decide +kernel
theorem dX6_shutOpen_61 : decode cX6_shutOpen 61 = .ok (.iastore, 1) := by decide +kernel
theorem dX6_shutOpen_62 : decode cX6_shutOpen 62 = .ok (.iinc 1 1, 3) := by decide +kernel
theorem dX6_shutOpen_65 : decode cX6_shutOpen 65 = .ok (.goto (-55), 3) := by decide +kernel
theorem dX6_shutOpen_68 : decode cX6_shutOpen 68 = .ok (.aload_n 0, 1) := by decide +kernel
theorem dX6_shutOpen_69 : decode cX6_shutOpen 69 = .ok (.iconst 0, 1) := by decide +kernel
theorem dX6_shutOpen_70 : decode cX6_shutOpen 70 = .ok (.putfield 25, 3) := by decide +kernel
theorem dX6_shutOpen_73 : decode cX6_shutOpen 73 = .ok (.return_, 1) := by decide +kernel
theorem dX6_openFirst_0 : decode cX6_openFirst 0 = .ok (.iconst 0, 1) := by decide +kernel
theorem dX6_openFirst_1 : decode cX6_openFirst 1 = .ok (.istore_n 2, 1) := by decide +kernel
theorem dX6_openFirst_2 : decode cX6_openFirst 2 = .ok (.iload_n 2, 1) := by decide +kernel
theorem dX6_openFirst_3 : decode cX6_openFirst 3 = .ok (.iload_n 1, 1) := by decide +kernel
theorem dX6_openFirst_4 : decode cX6_openFirst 4 = .ok (.if_icmp .ge 57, 3) := by decide +kernel
theorem dX6_openFirst_7 : decode cX6_openFirst 7 = .ok (.iload_n 2, 1) := by decide +kernel
theorem dX6_openFirst_8 : decode cX6_openFirst 8 = .ok (.aload_n 0, 1) := by decide +kernel
theorem dX6_openFirst_9 : decode cX6_openFirst 9 = .ok (.getfield 21, 3) := by decide +kernel
theorem dX6_openFirst_12 : decode cX6_openFirst 12 = .ok (.if_icmp .ge 49, 3) := by decide +kernel
theorem dX6_openFirst_15 : decode cX6_openFirst 15 = .ok (.aload_n 0, 1) := by decide +kernel
theorem dX6_openFirst_16 : decode cX6_openFirst 16 = .ok (.getfield 15, 3) := by decide +kernel
theorem dX6_openFirst_19 : decode cX6_openFirst 19 = .ok (.iload_n 2, 1) := by decide +kernel
theorem dX6_openFirst_20 : decode cX6_openFirst 20 = .ok (.iaload, 1) := by decide +kernel
theorem dX6_openFirst_21 : decode cX6_openFirst 21 = .ok (.ifCond .le 34, 3) := by decide +kernel
theorem dX6_openFirst_24 : decode cX6_openFirst 24 = .ok (.aload_n 0, 1) := by decide +kernel
theorem dX6_openFirst_25 : decode cX6_openFirst 25 = .ok (.dup, 1) := by decide +kernel
theorem dX6_openFirst_26 : decode cX6_openFirst 26 = .ok (.getfield 25, 3) := by decide +kernel
theorem dX6_openFirst_29 : decode cX6_openFirst 29 = .ok (.iconst 1, 1) := by decide +kernel
theorem dX6_openFirst_30 : decode cX6_openFirst 30 = .ok (.iload_n 2, 1) := by decide +kernel
theorem dX6_openFirst_31 : decode cX6_openFirst 31 = .ok (.ishl, 1) := by decide +kernel
theorem dX6_openFirst_32 : decode cX6_openFirst 32 = .ok (.ior, 1) := by decide +kernel
theorem dX6_openFirst_33 : decode cX6_openFirst 33 = .ok (.putfield 25, 3) := by decide +kernel
theorem dX6_openFirst_36 : decode cX6_openFirst 36 = .ok (.aload_n 0, 1) := by decide +kernel
theorem dX6_openFirst_37 : decode cX6_openFirst 37 = .ok (.getfield 18, 3) := by decide +kernel
theorem dX6_openFirst_40 : decode cX6_openFirst 40 = .ok (.iload_n 2, 1) := by decide +kernel
theorem dX6_openFirst_41 : decode cX6_openFirst 41 = .ok (.aload_n 0, 1) := by decide +kernel
theorem dX6_openFirst_42 : decode cX6_openFirst 42 = .ok (.getfield 15, 3) := by decide +kernel
theorem dX6_openFirst_45 : decode cX6_openFirst 45 = .ok (.iload_n 2, 1) := by decide +kernel
theorem dX6_openFirst_46 : decode cX6_openFirst 46 = .ok (.iaload, 1) := by decide +kernel
theorem dX6_openFirst_47 : decode cX6_openFirst 47 = .ok (.iastore, 1) := by decide +kernel
theorem dX6_openFirst_48 : decode cX6_openFirst 48 = .ok (.aload_n 0, 1) := by decide +kernel
theorem dX6_openFirst_49 : decode cX6_openFirst 49 = .ok (.getfield 15, 3) := by decide +kernel
theorem dX6_openFirst_52 : decode cX6_openFirst 52 = .ok (.iload_n 2, 1) := by decide +kernel
theorem dX6_openFirst_53 : decode cX6_openFirst 53 = .ok (.iconst 0, 1) := by decide +kernel
theorem dX6_openFirst_54 : decode cX6_openFirst 54 = .ok (.iastore, 1) := by decide +kernel
theorem dX6_openFirst_55 : decode cX6_openFirst 55 = .ok (.iinc 2 1, 3) := by decide +kernel
theorem dX6_openFirst_58 : decode cX6_openFirst 58 = .ok (.goto (-56), 3) := by decide +kernel
theorem dX6_openFirst_61 : decode cX6_openFirst 61 = .ok (.return_, 1) := by decide +kernel
set_option maxRecDepth 20000 in
theorem ggX6_iceIfOf_X6_isOpen : GoodIn wsX6_iceIfOf wsX6_isOpen := goodIn_r _ [7, 8, 22, 23, 24, 25, 26] (by decide +kernel) (by decide +kernel)
set_option maxRecDepth 20000 in
theorem gX6_iceIfOf_X6_isOpen : GoodIn wsX6_iceIfOf (wsV RX6 47 RX6 yX6_isOpen wsX6_isOpen) := goodIn_app (goodIn_of _ (by decide +kernel)) ggX6_iceIfOf_X6_isOpen
set_option maxRecDepth 20000 in
theorem ggX6_iceIfOf_X6_kindOnceShut : GoodIn wsX6_iceIfOf wsX6_kindOnceShut := goodIn_r _ [11] (by decide +kernel) (by decide +kernel)
set_option maxRecDepth 20000 in
theorem gX6_iceIfOf_X6_kindOnceShut : GoodIn wsX6_iceIfOf (va_wsS RX6 51 yX6_kindOnceShut wsX6_kindOnceShut) := goodIn_app (goodIn_of _ (by decide +kernel)) ggX6_iceIfOf_X6_kindOnceShut
set_option maxRecDepth 20000 in
theorem ggX6_iceIfOf_X6_thicker : GoodIn wsX6_iceIfOf wsX6_thicker := goodIn_r _ [14, 15, 16, 17, 18, 19, 20, 6, 21] (by decide +kernel) (by decide +kernel)
set_option maxRecDepth 20000 in
theorem gX6_iceIfOf_X6_thicker : GoodIn wsX6_iceIfOf (va_wsS RX6 41 yX6_thicker wsX6_thicker) := goodIn_app (goodIn_of _ (by decide +kernel)) ggX6_iceIfOf_X6_thicker
theorem dX6_iceIfOf_0 : decode cX6_iceIfOf 0 = .ok (.iload_n 1, 1) := by decide +kernel
theorem dX6_iceIfOf_1 : decode cX6_iceIfOf 1 = .ok (.istore 5, 2) := by decide +kernel
theorem dX6_iceIfOf_3 : decode cX6_iceIfOf 3 = .ok (.aload_n 0, 1) := by decide +kernel
theorem dX6_iceIfOf_4 : decode cX6_iceIfOf 4 = .ok (.getfield 15, 3) := by decide +kernel
theorem dX6_iceIfOf_7 : decode cX6_iceIfOf 7 = .ok (.iload_n 2, 1) := by decide +kernel
theorem dX6_iceIfOf_8 : decode cX6_iceIfOf 8 = .ok (.iaload, 1) := by decide +kernel
theorem dX6_iceIfOf_9 : decode cX6_iceIfOf 9 = .ok (.istore 6, 2) := by decide +kernel
theorem dX6_iceIfOf_11 : decode cX6_iceIfOf 11 = .ok (.iload_n 3, 1) := by decide +kernel
theorem dX6_iceIfOf_12 : decode cX6_iceIfOf 12 = .ok (.ifCond .le 27, 3) := by decide +kernel
theorem dX6_iceIfOf_15 : decode cX6_iceIfOf 15 = .ok (.aload_n 0, 1) := by decide +kernel
theorem dX6_iceIfOf_16 : decode cX6_iceIfOf 16 = .ok (.iload_n 2, 1) := by decide +kernel
theorem dX6_iceIfOf_17 : decode cX6_iceIfOf 17 = .ok (.invokevirtual 47, 3) := by decide +kernel
theorem dX6_iceIfOf_20 : decode cX6_iceIfOf 20 = .ok (.ifCond .eq 19, 3) := by decide +kernel
theorem dX6_iceIfOf_23 : decode cX6_iceIfOf 23 = .ok (.iload_n 1, 1) := by decide +kernel
theorem dX6_iceIfOf_24 : decode cX6_iceIfOf 24 = .ok (.invokestatic 51, 3) := by decide +kernel
theorem dX6_iceIfOf_27 : decode cX6_iceIfOf 27 = .ok (.istore 5, 2) := by decide +kernel
theorem dX6_iceIfOf_29 : decode cX6_iceIfOf 29 = .ok (.aload_n 0, 1) := by decide +kernel
theorem dX6_iceIfOf_30 : decode cX6_iceIfOf 30 = .ok (.getfield 18, 3) := by decide +kernel
theorem dX6_iceIfOf_33 : decode cX6_iceIfOf 33 = .ok (.iload_n 2, 1) := by decide +kernel
theorem dX6_iceIfOf_34 : decode cX6_iceIfOf 34 = .ok (.iaload, 1) := by decide +kernel
theorem dX6_iceIfOf_35 : decode cX6_iceIfOf 35 = .ok (.iconst 3, 1) := by decide +kernel
theorem dX6_iceIfOf_36 : decode cX6_iceIfOf 36 = .ok (.idiv, 1) := by decide +kernel
theorem dX6_iceIfOf_37 : decode cX6_iceIfOf 37 = .ok (.istore 6, 2) := by decide +kernel
theorem dX6_iceIfOf_39 : decode cX6_iceIfOf 39 = .ok (.iconst 0, 1) := by decide +kernel
theorem dX6_iceIfOf_40 : decode cX6_iceIfOf 40 = .ok (.istore 7, 2) := by decide +kernel
theorem dX6_iceIfOf_42 : decode cX6_iceIfOf 42 = .ok (.iload 7, 2) := by decide +kernel
theorem dX6_iceIfOf_44 : decode cX6_iceIfOf 44 = .ok (.iload_n 3, 1) := by decide +kernel
theorem dX6_iceIfOf_45 : decode cX6_iceIfOf 45 = .ok (.if_icmp .ge 20, 3) := by decide +kernel
theorem dX6_iceIfOf_48 : decode cX6_iceIfOf 48 = .ok (.iload 5, 2) := by decide +kernel
theorem dX6_iceIfOf_50 : decode cX6_iceIfOf 50 = .ok (.iload 6, 2) := by decide +kernel
theorem dX6_iceIfOf_52 : decode cX6_iceIfOf 52 = .ok (.iload 4, 2) := by decide +kernel
theorem dX6_iceIfOf_54 : decode cX6_iceIfOf 54 = .ok (.invokestatic 41, 3) := by decide +kernel
theorem dX6_iceIfOf_57 : decode cX6_iceIfOf 57 = .ok (.istore 6, 2) := by decide +kernel
theorem dX6_iceIfOf_59 : decode cX6_iceIfOf 59 = .ok (.iinc 7 1, 3) := by decide +kernel
theorem dX6_iceIfOf_62 : decode cX6_iceIfOf 62 = .ok (.goto (-20), 3) := by decide +kernel
theorem dX6_iceIfOf_65 : decode cX6_iceIfOf 65 = .ok (.iload 6, 2) := by decide +kernel
theorem dX6_iceIfOf_67 : decode cX6_iceIfOf 67 = .ok (.ireturn, 1) := by decide +kernel
set_option maxRecDepth 20000 in
theorem ggX7_init_X3_init : GoodIn wsX7_init wsX3_init := goodIn_r _ [37, 38, 2, 3, 39, 40, 41, 42, 43, 44, 84, 85, 86, 87, 88, 89, 90, 91, 92, 93] (by decide +kernel) (by decide +kernel)
set_option maxRecDepth 20000 in
theorem gX7_init_X3_init_n9 : GoodIn wsX7_init (wsX3_init) := ggX7_init_X3_init
set_option maxRecDepth 20000 in
theorem ggX7_init_X0_init : GoodIn wsX7_init wsX0_init := goodIn_r _ [47, 48, 2, 3, 39, 49, 50, 104] (by decide +kernel) (by decide +kernel)
set_option maxRecDepth 20000 in
theorem gX7_init_X0_init : GoodIn wsX7_init (wsX0_init) := ggX7_init_X0_init
set_option maxRecDepth 20000 in
theorem ggX7_init_X5_init : GoodIn wsX7_init wsX5_init := goodIn_r _ [52, 53, 2, 3, 54, 28, 29, 55, 56, 57, 58, 59, 39, 60, 61, 62, 121, 122, 123, 124, 125, 105, 106, 107, 108] (by decide +kernel) (by decide +kernel)
set_option maxRecDepth 20000 in
theorem gX7_init_X5_init_n25 : GoodIn wsX7_init (wsX5_init) := ggX7_init_X5_init
set_option maxRecDepth 20000 in
theorem ggX7_init_X1_init : GoodIn wsX7_init wsX1_init := goodIn_r _ [64, 65, 2, 3, 39, 66, 67, 68, 69, 70, 71, 109, 110, 111, 112, 113, 114, 115, 116] (by decide +kernel) (by decide +kernel)
set_option maxRecDepth 20000 in
theorem gX7_init_X1_init_n40 : GoodIn wsX7_init (wsX1_init) := ggX7_init_X1_init
set_option maxRecDepth 20000 in
theorem ggX7_init_X4_init : GoodIn wsX7_init wsX4_init := goodIn_r _ [73, 74, 2, 3, 39, 75, 117, 118, 119, 120] (by decide +kernel) (by decide +kernel)
set_option maxRecDepth 20000 in
theorem gX7_init_X4_init_n47 : GoodIn wsX7_init (wsX4_init) := ggX7_init_X4_init
set_option maxRecDepth 20000 in
theorem ggX7_init_X6_init : GoodIn wsX7_init wsX6_init := goodIn_r _ [58, 59, 2, 3, 39, 60, 61, 62, 121, 122, 123, 124, 125] (by decide +kernel) (by decide +kernel)
set_option maxRecDepth 20000 in
theorem gX7_init_X6_init_n54 : GoodIn wsX7_init (wsX6_init) := ggX7_init_X6_init
set_option maxRecDepth 20000 in
theorem ggX7_init_X2_init : GoodIn wsX7_init wsX2_init := goodIn_r _ [78, 79, 2, 3, 80, 24, 25, 81, 82, 83, 28, 29, 72, 73, 74, 39, 75, 57, 58, 59, 60, 61, 62, 117, 118, 119, 120, 126, 127, 128, 129, 130, 131, 132, 133, 134, 135, 136, 137, 138, 139, 121, 122, 123, 124, 125] (by decide +kernel) (by decide +kernel)
set_option maxRecDepth 20000 in
theorem gX7_init_X2_init : GoodIn wsX7_init (wsX2_init) := ggX7_init_X2_init
end
section
theorem dX7_init_0 : decode cX7_init 0 = .ok (.aload_n 0, 1) := by decide +kernel
theorem dX7_init_1 : decode cX7_init 1 = .ok (.invokespecial 1, 3) := by decide +kernel
theorem dX7_init_4 : decode cX7_init 4 = .ok (.aload_n 0, 1) := by decide +kernel
theorem dX7_init_5 : decode cX7_init 5 = .ok (.new 7, 3) := by decide +kernel
theorem dX7_init_8 : decode cX7_init 8 = .ok (.dup, 1) := by decide +kernel
theorem dX7_init_9 : decode cX7_init 9 = .ok (.invokespecial 9, 3) := by decide +kernel
theorem dX7_init_12 : decode cX7_init 12 = .ok (.putfield 10, 3) := by decide +kernel
theorem dX7_init_15 : decode cX7_init 15 = .ok (.aload_n 0, 1) := by decide +kernel
theorem dX7_init_16 : decode cX7_init 16 = .ok (.new 16, 3) := by decide +kernel
theorem dX7_init_19 : decode cX7_init 19 = .ok (.dup, 1) := by decide +kernel
theorem dX7_init_20 : decode cX7_init 20 = .ok (.invokespecial 18, 3) := by decide +kernel
theorem dX7_init_23 : decode cX7_init 23 = .ok (.putfield 19, 3) := by decide +kernel
theorem dX7_init_26 : decode cX7_init 26 = .ok (.aload_n 0, 1) := by decide +kernel
theorem dX7_init_27 : decode cX7_init 27 = .ok (.new 23, 3) := by decide +kernel
theorem dX7_init_30 : decode cX7_init 30 = .ok (.dup, 1) := by decide +kernel
theorem dX7_init_31 : decode cX7_init 31 = .ok (.invokespecial 25, 3) := by decide +kernel
theorem dX7_init_34 : decode cX7_init 34 = .ok (.putfield 26, 3) := by decide +kernel
theorem dX7_init_37 : decode cX7_init 37 = .ok (.aload_n 0, 1) := by decide +kernel
theorem dX7_init_38 : decode cX7_init 38 = .ok (.iconst 2, 1) := by decide +kernel
theorem dX7_init_39 : decode cX7_init 39 = .ok (.anewarray 23, 3) := by decide +kernel
theorem dX7_init_42 : decode cX7_init 42 = .ok (.putfield 30, 3) := by decide +kernel
theorem dX7_init_45 : decode cX7_init 45 = .ok (.iconst 0, 1) := by decide +kernel
theorem dX7_init_46 : decode cX7_init 46 = .ok (.istore_n 1, 1) := by decide +kernel
theorem dX7_init_47 : decode cX7_init 47 = .ok (.iload_n 1, 1) := by decide +kernel
theorem dX7_init_48 : decode cX7_init 48 = .ok (.iconst 2, 1) := by decide +kernel
theorem dX7_init_49 : decode cX7_init 49 = .ok (.if_icmp .ge 22, 3) := by decide +kernel
theorem dX7_init_52 : decode cX7_init 52 = .ok (.aload_n 0, 1) := by decide +kernel
theorem dX7_init_53 : decode cX7_init 53 = .ok (.getfield 30, 3) := by decide +kernel
theorem dX7_init_56 : decode cX7_init 56 = .ok (.iload_n 1, 1) := by decide +kernel
theorem dX7_init_57 : decode cX7_init 57 = .ok (.new 23, 3) := by decide +kernel
theorem dX7_init_60 : decode cX7_init 60 = .ok (.dup, 1) := by decide +kernel
theorem dX7_init_61 : decode cX7_init 61 = .ok (.invokespecial 25, 3) := by decide +kernel
theorem dX7_init_64 : decode cX7_init 64 = .ok (.aastore, 1) := by decide +kernel
theorem dX7_init_65 : decode cX7_init 65 = .ok (.iinc 1 1, 3) := by decide +kernel
theorem dX7_init_68 : decode cX7_init 68 = .ok (.goto (-21), 3) := by decide +kernel
theorem dX7_init_71 : decode cX7_init 71 = .ok (.aload_n 0, 1) := by decide +kernel
theorem dX7_init_72 : decode cX7_init 72 = .ok (.iconst 2, 1) := by decide +kernel
theorem dX7_init_73 : decode cX7_init 73 = .ok (.newarray .boolean, 2) := by decide +kernel
theorem dX7_init_75 : decode cX7_init 75 = .ok (.putfield 34, 3) := by decide +kernel
theorem dX7_init_78 : decode cX7_init 78 = .ok (.aload_n 0, 1) := by decide +kernel
theorem dX7_init_79 : decode cX7_init 79 = .ok (.new 38, 3) := by decide +kernel
theorem dX7_init_82 : decode cX7_init 82 = .ok (.dup, 1) := by decide +kernel
theorem dX7_init_83 : decode cX7_init 83 = .ok (.invokespecial 40, 3) := by decide +kernel
theorem dX7_init_86 : decode cX7_init 86 = .ok (.putfield 41, 3) := by decide +kernel
theorem dX7_init_89 : decode cX7_init 89 = .ok (.aload_n 0, 1) := by decide +kernel
theorem dX7_init_90 : decode cX7_init 90 = .ok (.new 45, 3) := by decide +kernel
theorem dX7_init_93 : decode cX7_init 93 = .ok (.dup, 1) := by decide +kernel
theorem dX7_init_94 : decode cX7_init 94 = .ok (.invokespecial 47, 3) := by decide +kernel
theorem dX7_init_97 : decode cX7_init 97 = .ok (.putfield 48, 3) := by decide +kernel
theorem dX7_init_100 : decode cX7_init 100 = .ok (.aload_n 0, 1) := by decide +kernel
theorem dX7_init_101 : decode cX7_init 101 = .ok (.new 52, 3) := by decide +kernel
theorem dX7_init_104 : decode cX7_init 104 = .ok (.dup, 1) := by decide +kernel
theorem dX7_init_105 : decode cX7_init 105 = .ok (.invokespecial 54, 3) := by decide +kernel
theorem dX7_init_108 : decode cX7_init 108 = .ok (.putfield 55, 3) := by decide +kernel
theorem dX7_init_111 : decode cX7_init 111 = .ok (.aload_n 0, 1) := by decide +kernel
theorem dX7_init_112 : decode cX7_init 112 = .ok (.new 59, 3) := by decide +kernel
theorem dX7_init_115 : decode cX7_init 115 = .ok (.dup, 1) := by decide +kernel
theorem dX7_init_116 : decode cX7_init 116 = .ok (.invokespecial 61, 3) := by decide +kernel
theorem dX7_init_119 : decode cX7_init 119 = .ok (.putfield 62, 3) := by decide +kernel
theorem dX7_init_122 : decode cX7_init 122 = .ok (.aload_n 0, 1) := by decide +kernel
theorem dX7_init_123 : decode cX7_init 123 = .ok (.iconst (-1), 1) := by decide +kernel
theorem dX7_init_124 : decode cX7_init 124 = .ok (.putfield 66, 3) := by decide +kernel
theorem dX7_init_127 : decode cX7_init 127 = .ok (.return_, 1) := by decide +kernel
set_option maxRecDepth 20000 in
theorem ggX7_feed_X7_isOut : GoodIn wsX7_feed wsX7_isOut := goodIn_r _ [8] (by decide +kernel) (by decide +kernel)
set_option maxRecDepth 20000 in
theorem gX7_feed_X7_isOut : GoodIn wsX7_feed (va_wsS RX7 70 yX7_isOut wsX7_isOut) := goodIn_app (goodIn_of _ (by decide +kernel)) ggX7_feed_X7_isOut
set_option maxRecDepth 20000 in
theorem ggX7_feed_X3_isFull : GoodIn wsX7_feed wsX3_isFull := goodIn_r _ [13, 14, 31, 32, 33, 34, 35, 36, 37, 38, 39, 40] (by decide +kernel) (by decide +kernel)
set_option maxRecDepth 20000 in
theorem gX7_feed_X3_isFull : GoodIn wsX7_feed (wsV RX7 75 RX3 yX3_isFull wsX3_isFull) := goodIn_app (goodIn_of _ (by decide +kernel)) ggX7_feed_X3_isFull
set_option maxRecDepth 20000 in
theorem ggX7_feed_X3_add : GoodIn wsX7_feed wsX3_add := goodIn_r _ [18, 19, 14, 20, 10, 11, 12, 13, 31, 32, 33, 34, 35, 36, 37, 38, 39, 40] (by decide +kernel) (by decide +kernel)
set_option maxRecDepth 20000 in
theorem gX7_feed_X3_add : GoodIn wsX7_feed (wsV RX7 80 RX3 yX3_add wsX3_add) := goodIn_app (goodIn_of _ (by decide +kernel)) ggX7_feed_X3_add
theorem dX7_feed_0 : decode cX7_feed 0 = .ok (.iload_n 1, 1) := by decide +kernel
theorem dX7_feed_1 : decode cX7_feed 1 = .ok (.iconst 0, 1) := by decide +kernel
theorem dX7_feed_2 : decode cX7_feed 2 = .ok (.sipush 255, 3) := by decide +kernel
theorem dX7_feed_5 : decode cX7_feed 5 = .ok (.invokestatic 70, 3) := by decide +kernel
theorem dX7_feed_8 : decode cX7_feed 8 = .ok (.ifCond .eq 6, 3) := by decide +kernel
theorem dX7_feed_11 : decode cX7_feed 11 = .ok (.ldc 74, 2) := by decide +kernel
theorem dX7_feed_13 : decode cX7_feed 13 = .ok (.ireturn, 1) := by decide +kernel
theorem dX7_feed_14 : decode cX7_feed 14 = .ok (.aload_n 0, 1) := by decide +kernel
theorem dX7_feed_15 : decode cX7_feed 15 = .ok (.getfield 10, 3) := by decide +kernel
theorem dX7_feed_18 : decode cX7_feed 18 = .ok (.invokevirtual 75, 3) := by decide +kernel
theorem dX7_feed_21 : decode cX7_feed 21 = .ok (.ifCond .eq 6, 3) := by decide +kernel
theorem dX7_feed_24 : decode cX7_feed 24 = .ok (.ldc 79, 2) := by decide +kernel
theorem dX7_feed_26 : decode cX7_feed 26 = .ok (.ireturn, 1) := by decide +kernel
theorem dX7_feed_27 : decode cX7_feed 27 = .ok (.aload_n 0, 1) := by decide +kernel
theorem dX7_feed_28 : decode cX7_feed 28 = .ok (.getfield 10, 3) := by decide +kernel
theorem dX7_feed_31 : decode cX7_feed 31 = .ok (.iload_n 1, 1) := by decide +kernel
theorem dX7_feed_32 : decode cX7_feed 32 = .ok (.invokevirtual 80, 3) := by decide +kernel
theorem dX7_feed_35 : decode cX7_feed 35 = .ok (.aload_n 0, 1) := by decide +kernel
theorem dX7_feed_36 : decode cX7_feed 36 = .ok (.getfield 10, 3) := by decide +kernel
theorem dX7_feed_39 : decode cX7_feed 39 = .ok (.getfield 84, 3) := by decide +kernel
theorem dX7_feed_42 : decode cX7_feed 42 = .ok (.ireturn, 1) := by decide +kernel
set_option maxRecDepth 20000 in
theorem ggX7_cut_X3_read : GoodIn wsX7_cut wsX3_read := goodIn_r _ [20, 21, 22, 23, 24, 25, 26, 27, 28, 29, 30, 19, 31, 32, 33, 34, 35, 36, 37, 38, 39, 40, 41, 42, 43, 44, 45, 46, 47, 48, 49, 50, 51, 52, 53, 54, 55, 56, 57, 58, 59, 60, 61, 62, 63, 64, 65, 66, 67, 68, 69, 70, 71, 72, 73, 74, 75, 76, 77, 78, 79, 80, 126, 127, 128, 129, 130, 131, 132, 133, 134, 135] (by decide +kernel) (by decide +kernel)
set_option maxRecDepth 20000 in
theorem gX7_cut_X3_read : GoodIn wsX7_cut (wsV RX7 87 RX3 yX3_read wsX3_read) := goodIn_app (goodIn_of _ (by decide +kernel)) ggX7_cut_X3_read
set_option maxRecDepth 20000 in
theorem ggX7_cut_X0_become : GoodIn wsX7_cut wsX0_become := goodIn_r _ [85, 86, 145] (by decide +kernel) (by decide +kernel)
set_option maxRecDepth 20000 in
theorem gX7_cut_X0_become : GoodIn wsX7_cut (wsV RX7 98 RX0 yX0_become wsX0_become) := goodIn_app (goodIn_of _ (by decide +kernel)) ggX7_cut_X0_become
set_option maxRecDepth 20000 in
theorem ggX7_cut_X5_begin : GoodIn wsX7_cut wsX5_begin := goodIn_r _ [91, 92, 93, 94, 95, 96, 97, 98, 99, 100, 101, 102, 103, 104, 105, 106, 107, 108, 136, 137, 138, 139, 140, 141, 142, 143, 144] (by decide +kernel) (by decide +kernel)
set_option maxRecDepth 20000 in
theorem gX7_cut_X5_begin : GoodIn wsX7_cut (wsV RX7 111 RX5 yX5_begin wsX5_begin) := goodIn_app (goodIn_of _ (by decide +kernel)) ggX7_cut_X5_begin
set_option maxRecDepth 20000 in
theorem ggX7_cut_X1_clearAll : GoodIn wsX7_cut wsX1_clearAll := goodIn_r _ [113, 114, 115, 146, 147, 148, 149, 150, 151, 152, 153] (by decide +kernel) (by decide +kernel)
set_option maxRecDepth 20000 in
theorem gX7_cut_X1_clearAll : GoodIn wsX7_cut (wsV RX7 115 RX1 yX1_clearAll wsX1_clearAll) := goodIn_app (goodIn_of _ (by decide +kernel)) ggX7_cut_X1_clearAll
theorem dX7_cut_0 : decode cX7_cut 0 = .ok (.aload_n 0, 1) := by decide +kernel
theorem dX7_cut_1 : decode cX7_cut 1 = .ok (.getfield 10, 3) := by decide +kernel
theorem dX7_cut_4 : decode cX7_cut 4 = .ok (.invokevirtual 87, 3) := by decide +kernel
theorem dX7_cut_7 : decode cX7_cut 7 = .ok (.istore_n 1, 1) := by decide +kernel
theorem dX7_cut_8 : decode cX7_cut 8 = .ok (.aload_n 0, 1) := by decide +kernel
theorem dX7_cut_9 : decode cX7_cut 9 = .ok (.getfield 10, 3) := by decide +kernel
theorem dX7_cut_12 : decode cX7_cut 12 = .ok (.iconst 0, 1) := by decide +kernel
theorem dX7_cut_13 : decode cX7_cut 13 = .ok (.putfield 84, 3) := by decide +kernel
theorem dX7_cut_16 : decode cX7_cut 16 = .ok (.aload_n 0, 1) := by decide +kernel
theorem dX7_cut_17 : decode cX7_cut 17 = .ok (.aload_n 0, 1) := by decide +kernel
theorem dX7_cut_18 : decode cX7_cut 18 = .ok (.getfield 10, 3) := by decide +kernel
theorem dX7_cut_21 : decode cX7_cut 21 = .ok (.getfield 90, 3) := by decide +kernel
theorem dX7_cut_24 : decode cX7_cut 24 = .ok (.putfield 66, 3) := by decide +kernel
theorem dX7_cut_27 : decode cX7_cut 27 = .ok (.iload_n 1, 1) := by decide +kernel
theorem dX7_cut_28 : decode cX7_cut 28 = .ok (.ifCond .ne 14, 3) := by decide +kernel
theorem dX7_cut_31 : decode cX7_cut 31 = .ok (.bipush (-10), 2) := by decide +kernel
theorem dX7_cut_33 : decode cX7_cut 33 = .ok (.aload_n 0, 1) := by decide +kernel
theorem dX7_cut_34 : decode cX7_cut 34 = .ok (.getfield 10, 3) := by decide +kernel
theorem dX7_cut_37 : decode cX7_cut 37 = .ok (.getfield 91, 3) := by decide +kernel
theorem dX7_cut_40 : decode cX7_cut 40 = .ok (.isub, 1) := by decide +kernel
theorem dX7_cut_41 : decode cX7_cut 41 = .ok (.ireturn, 1) := by decide +kernel
theorem dX7_cut_42 : decode cX7_cut 42 = .ok (.aload_n 0, 1) := by decide +kernel
theorem dX7_cut_43 : decode cX7_cut 43 = .ok (.getfield 19, 3) := by decide +kernel
theorem dX7_cut_46 : decode cX7_cut 46 = .ok (.aload_n 0, 1) := by decide +kernel
theorem dX7_cut_47 : decode cX7_cut 47 = .ok (.getfield 10, 3) := by decide +kernel
theorem dX7_cut_50 : decode cX7_cut 50 = .ok (.getfield 94, 3) := by decide +kernel
theorem dX7_cut_53 : decode cX7_cut 53 = .ok (.invokevirtual 98, 3) := by decide +kernel
theorem dX7_cut_56 : decode cX7_cut 56 = .ok (.aload_n 0, 1) := by decide +kernel
theorem dX7_cut_57 : decode cX7_cut 57 = .ok (.getfield 26, 3) := by decide +kernel
theorem dX7_cut_60 : decode cX7_cut 60 = .ok (.aload_n 0, 1) := by decide +kernel
theorem dX7_cut_61 : decode cX7_cut 61 = .ok (.getfield 10, 3) := by decide +kernel
theorem dX7_cut_64 : decode cX7_cut 64 = .ok (.getfield 102, 3) := by decide +kernel
theorem dX7_cut_67 : decode cX7_cut 67 = .ok (.aload_n 0, 1) := by decide +kernel
theorem dX7_cut_68 : decode cX7_cut 68 = .ok (.getfield 10, 3) := by decide +kernel
theorem dX7_cut_71 : decode cX7_cut 71 = .ok (.getfield 105, 3) := by decide +kernel
theorem dX7_cut_74 : decode cX7_cut 74 = .ok (.aload_n 0, 1) := by decide +kernel
theorem dX7_cut_75 : decode cX7_cut 75 = .ok (.getfield 10, 3) := by decide +kernel
theorem dX7_cut_78 : decode cX7_cut 78 = .ok (.getfield 108, 3) := by decide +kernel
theorem dX7_cut_81 : decode cX7_cut 81 = .ok (.invokevirtual 111, 3) := by decide +kernel
theorem dX7_cut_84 : decode cX7_cut 84 = .ok (.aload_n 0, 1) := by decide +kernel
theorem dX7_cut_85 : decode cX7_cut 85 = .ok (.getfield 41, 3) := by decide +kernel
theorem dX7_cut_88 : decode cX7_cut 88 = .ok (.invokevirtual 115, 3) := by decide +kernel
theorem dX7_cut_91 : decode cX7_cut 91 = .ok (.iconst 0, 1) := by decide +kernel
theorem dX7_cut_92 : decode cX7_cut 92 = .ok (.istore_n 2, 1) := by decide +kernel
theorem dX7_cut_93 : decode cX7_cut 93 = .ok (.iload_n 2, 1) := by decide +kernel
theorem dX7_cut_94 : decode cX7_cut 94 = .ok (.iconst 2, 1) := by decide +kernel
theorem dX7_cut_95 : decode cX7_cut 95 = .ok (.if_icmp .ge 16, 3) := by decide +kernel
theorem dX7_cut_98 : decode cX7_cut 98 = .ok (.aload_n 0, 1) := by decide +kernel
theorem dX7_cut_99 : decode cX7_cut 99 = .ok (.getfield 34, 3) := by decide +kernel
theorem dX7_cut_102 : decode cX7_cut 102 = .ok (.iload_n 2, 1) := by decide +kernel
theorem dX7_cut_103 : decode cX7_cut 103 = .ok (.iconst 0, 1) := by decide +kernel
theorem dX7_cut_104 : decode cX7_cut 104 = .ok (.bastore, 1) := by decide +kernel
theorem dX7_cut_105 : decode cX7_cut 105 = .ok (.iinc 2 1, 3) := by decide +kernel
theorem dX7_cut_108 : decode cX7_cut 108 = .ok (.goto (-15), 3) := by decide +kernel
theorem dX7_cut_111 : decode cX7_cut 111 = .ok (.aload_n 0, 1) := by decide +kernel
theorem dX7_cut_112 : decode cX7_cut 112 = .ok (.getfield 26, 3) := by decide +kernel
theorem dX7_cut_115 : decode cX7_cut 115 = .ok (.getfield 118, 3) := by decide +kernel
theorem dX7_cut_118 : decode cX7_cut 118 = .ok (.getfield 121, 3) := by decide +kernel
theorem dX7_cut_121 : decode cX7_cut 121 = .ok (.ireturn, 1) := by decide +kernel
theorem dX7_fault_0 : decode cX7_fault 0 = .ok (.aload_n 0, 1) := by decide +kernel
theorem dX7_fault_1 : decode cX7_fault 1 = .ok (.getfield 66, 3) := by decide +kernel
theorem dX7_fault_4 : decode cX7_fault 4 = .ok (.ireturn, 1) := by decide +kernel
set_option maxRecDepth 20000 in
theorem ggX7_told_X7_isOut : GoodIn wsX7_told wsX7_isOut := goodIn_r _ [18] (by decide +kernel) (by decide +kernel)
set_option maxRecDepth 20000 in
theorem gX7_told_X7_isOut : GoodIn wsX7_told (va_wsS RX7 70 yX7_isOut wsX7_isOut) := goodIn_app (goodIn_of _ (by decide +kernel)) ggX7_told_X7_isOut
set_option maxRecDepth 20000 in
theorem ggX7_told_X0_laggardsTold : GoodIn wsX7_told wsX0_laggardsTold := goodIn_r _ [23, 24, 63] (by decide +kernel) (by decide +kernel)
set_option maxRecDepth 20000 in
theorem gX7_told_X0_laggardsTold : GoodIn wsX7_told (wsV RX7 131 RX0 yX0_laggardsTold wsX0_laggardsTold) := goodIn_app (goodIn_of _ (by decide +kernel)) ggX7_told_X0_laggardsTold
set_option maxRecDepth 20000 in
theorem ggX7_told_X0_swayBy : GoodIn wsX7_told wsX0_swayBy := goodIn_r _ [28, 24, 29, 30, 31, 32, 33, 34, 35, 63] (by decide +kernel) (by decide +kernel)
set_option maxRecDepth 20000 in
theorem gX7_told_X0_swayBy : GoodIn wsX7_told (wsV RX7 135 RX0 yX0_swayBy wsX0_swayBy) := goodIn_app (goodIn_of _ (by decide +kernel)) ggX7_told_X0_swayBy
set_option maxRecDepth 20000 in
theorem ggX7_told_X7_forceNow : GoodIn wsX7_told wsX7_forceNow := goodIn_r _ [39, 2, 4, 10, 40, 41, 42, 22, 43, 44, 45, 46, 47, 24, 48, 20, 21, 23, 49, 26, 27, 28, 29, 30, 31, 32, 33, 34, 35, 50, 51, 52, 53, 54, 55, 56, 57, 58, 59, 60, 61, 62, 64, 65, 66, 67, 63] (by decide +kernel) (by decide +kernel)
set_option maxRecDepth 20000 in
theorem gX7_told_X7_forceNow : GoodIn wsX7_told (wsV RX7 139 RX7 yX7_forceNow wsX7_forceNow) := goodIn_app (goodIn_of _ (by decide +kernel)) ggX7_told_X7_forceNow
theorem dX7_told_0 : decode cX7_told 0 = .ok (.iload_n 1, 1) := by decide +kernel
theorem dX7_told_1 : decode cX7_told 1 = .ok (.iconst 0, 1) := by decide +kernel
theorem dX7_told_2 : decode cX7_told 2 = .ok (.bipush 17, 2) := by decide +kernel
theorem dX7_told_4 : decode cX7_told 4 = .ok (.invokestatic 70, 3) := by decide +kernel
theorem dX7_told_7 : decode cX7_told 7 = .ok (.ifCond .eq 6, 3) := by decide +kernel
theorem dX7_told_10 : decode cX7_told 10 = .ok (.ldc 74, 2) := by decide +kernel
theorem dX7_told_12 : decode cX7_told 12 = .ok (.ireturn, 1) := by decide +kernel
theorem dX7_told_13 : decode cX7_told 13 = .ok (.iload_n 1, 1) := by decide +kernel
theorem dX7_told_14 : decode cX7_told 14 = .ok (.iconst 1, 1) := by decide +kernel
theorem dX7_told_15 : decode cX7_told 15 = .ok (.if_icmp .lt 21, 3) := by decide +kernel
theorem dX7_told_18 : decode cX7_told 18 = .ok (.iload_n 1, 1) := by decide +kernel
theorem dX7_told_19 : decode cX7_told 19 = .ok (.bipush 9, 2) := by decide +kernel
theorem dX7_told_21 : decode cX7_told 21 = .ok (.if_icmp .gt 15, 3) := by decide +kernel
theorem dX7_told_24 : decode cX7_told 24 = .ok (.aload_n 0, 1) := by decide +kernel
theorem dX7_told_25 : decode cX7_told 25 = .ok (.getfield 19, 3) := by decide +kernel
theorem dX7_told_28 : decode cX7_told 28 = .ok (.getfield 124, 3) := by decide +kernel
theorem dX7_told_31 : decode cX7_told 31 = .ok (.iload_n 1, 1) := by decide +kernel
theorem dX7_told_32 : decode cX7_told 32 = .ok (.iconst 1, 1) := by decide +kernel
theorem dX7_told_33 : decode cX7_told 33 = .ok (.isub, 1) := by decide +kernel
theorem dX7_told_34 : decode cX7_told 34 = .ok (.iaload, 1) := by decide +kernel
theorem dX7_told_35 : decode cX7_told 35 = .ok (.ireturn, 1) := by decide +kernel
theorem dX7_told_36 : decode cX7_told 36 = .ok (.iload_n 1, 1) := by decide +kernel
theorem dX7_told_37 : decode cX7_told 37 = .ok (.tableswitch 164 0 16 #[83, 164, 164, 164, 164, 164, 164, 164, 164, 164, 94, 102, 110, 118, 140, 145, 156], 83) := by decide +kernel
theorem dX7_told_120 : decode cX7_told 120 = .ok (.aload_n 0, 1) := by decide +kernel
theorem dX7_told_121 : decode cX7_told 121 = .ok (.getfield 26, 3) := by decide +kernel
theorem dX7_told_124 : decode cX7_told 124 = .ok (.getfield 118, 3) := by decide +kernel
theorem dX7_told_127 : decode cX7_told 127 = .ok (.getfield 121, 3) := by decide +kernel
theorem dX7_told_130 : decode cX7_told 130 = .ok (.ireturn, 1) := by decide +kernel
theorem dX7_told_131 : decode cX7_told 131 = .ok (.aload_n 0, 1) := by decide +kernel
theorem dX7_told_132 : decode cX7_told 132 = .ok (.getfield 10, 3) := by decide +kernel
theorem dX7_told_135 : decode cX7_told 135 = .ok (.getfield 84, 3) := by decide +kernel
theorem dX7_told_138 : decode cX7_told 138 = .ok (.ireturn, 1) := by decide +kernel
theorem dX7_told_139 : decode cX7_told 139 = .ok (.aload_n 0, 1) := by decide +kernel
theorem dX7_told_140 : decode cX7_told 140 = .ok (.getfield 26, 3) := by decide +kernel
theorem dX7_told_143 : decode cX7_told 143 = .ok (.getfield 125, 3) := by decide +kernel
theorem dX7_told_146 : decode cX7_told 146 = .ok (.ireturn, 1) := by decide +kernel
theorem dX7_told_147 : decode cX7_told 147 = .ok (.aload_n 0, 1) := by decide +kernel
theorem dX7_told_148 : decode cX7_told 148 = .ok (.getfield 26, 3) := by decide +kernel
theorem dX7_told_151 : decode cX7_told 151 = .ok (.getfield 128, 3) := by decide +kernel
theorem dX7_told_154 : decode cX7_told 154 = .ok (.ireturn, 1) := by decide +kernel
theorem dX7_told_155 : decode cX7_told 155 = .ok (.aload_n 0, 1) := by decide +kernel
theorem dX7_told_156 : decode cX7_told 156 = .ok (.getfield 19, 3) := by decide +kernel
theorem dX7_told_159 : decode cX7_told 159 = .ok (.aload_n 0, 1) := by decide +kernel
theorem dX7_told_160 : decode cX7_told 160 = .ok (.getfield 26, 3) := by decide +kernel
theorem dX7_told_163 : decode cX7_told 163 = .ok (.getfield 128, 3) := by decide +kernel
theorem dX7_told_166 : decode cX7_told 166 = .ok (.aload_n 0, 1) := by decide +kernel
theorem dX7_told_167 : decode cX7_told 167 = .ok (.getfield 19, 3) := by decide +kernel
theorem dX7_told_170 : decode cX7_told 170 = .ok (.invokevirtual 131, 3) := by decide +kernel
theorem dX7_told_173 : decode cX7_told 173 = .ok (.invokevirtual 135, 3) := by decide +kernel
theorem dX7_told_176 : decode cX7_told 176 = .ok (.ireturn, 1) := by decide +kernel
theorem dX7_told_177 : decode cX7_told 177 = .ok (.aload_n 0, 1) := by decide +kernel
theorem dX7_told_178 : decode cX7_told 178 = .ok (.invokevirtual 139, 3) := by decide +kernel
theorem dX7_told_181 : decode cX7_told 181 = .ok (.ireturn, 1) := by decide +kernel
theorem dX7_told_182 : decode cX7_told 182 = .ok (.aload_n 0, 1) := by decide +kernel
theorem dX7_told_183 : decode cX7_told 183 = .ok (.getfield 26, 3) := by decide +kernel
theorem dX7_told_186 : decode cX7_told 186 = .ok (.getfield 118, 3) := by decide +kernel
theorem dX7_told_189 : decode cX7_told 189 = .ok (.getfield 142, 3) := by decide +kernel
theorem dX7_told_192 : decode cX7_told 192 = .ok (.ireturn, 1) := by decide +kernel
theorem dX7_told_193 : decode cX7_told 193 = .ok (.aload_n 0, 1) := by decide +kernel
theorem dX7_told_194 : decode cX7_told 194 = .ok (.getfield 41, 3) := by decide +kernel
theorem dX7_told_197 : decode cX7_told 197 = .ok (.getfield 145, 3) := by decide +kernel
theorem dX7_told_200 : decode cX7_told 200 = .ok (.ireturn, 1) := by decide +kernel
theorem dX7_told_201 : decode cX7_told 201 = .ok (.aload_n 0, 1) := by decide +kernel
theorem dX7_told_202 : decode cX7_told 202 = .ok (.getfield 41, 3) := by decide +kernel
theorem dX7_told_205 : decode cX7_told 205 = .ok (.getfield 148, 3) := by decide +kernel
theorem dX7_told_208 : decode cX7_told 208 = .ok (.ireturn, 1) := by decide +kernel
set_option maxRecDepth 20000 in
theorem ggX7_yard_X6_has : GoodIn wsX7_yard wsX6_has := goodIn_r _ [12, 13, 28, 29, 30, 31, 32] (by decide +kernel) (by decide +kernel)
set_option maxRecDepth 20000 in
theorem gX7_yard_X6_has : GoodIn wsX7_yard (wsV RX7 151 RX6 yX6_has wsX6_has) := goodIn_app (goodIn_of _ (by decide +kernel)) ggX7_yard_X6_has
theorem dX7_yard_0 : decode cX7_yard 0 = .ok (.aload_n 0, 1) := by decide +kernel
theorem dX7_yard_1 : decode cX7_yard 1 = .ok (.getfield 26, 3) := by decide +kernel
theorem dX7_yard_4 : decode cX7_yard 4 = .ok (.getfield 118, 3) := by decide +kernel
theorem dX7_yard_7 : decode cX7_yard 7 = .ok (.iload_n 1, 1) := by decide +kernel
theorem dX7_yard_8 : decode cX7_yard 8 = .ok (.invokevirtual 151, 3) := by decide +kernel
theorem dX7_yard_11 : decode cX7_yard 11 = .ok (.ifCond .ne 6, 3) := by decide +kernel
theorem dX7_yard_14 : decode cX7_yard 14 = .ok (.ldc 155, 2) := by decide +kernel
theorem dX7_yard_16 : decode cX7_yard 16 = .ok (.ireturn, 1) := by decide +kernel
theorem dX7_yard_17 : decode cX7_yard 17 = .ok (.iload_n 2, 1) := by decide +kernel
theorem dX7_yard_18 : decode cX7_yard 18 = .ok (.tableswitch 65 0 2 #[26, 39, 52], 26) := by decide +kernel
theorem dX7_yard_44 : decode cX7_yard 44 = .ok (.aload_n 0, 1) := by decide +kernel
theorem dX7_yard_45 : decode cX7_yard 45 = .ok (.getfield 26, 3) := by decide +kernel
theorem dX7_yard_48 : decode cX7_yard 48 = .ok (.getfield 118, 3) := by decide +kernel
theorem dX7_yard_51 : decode cX7_yard 51 = .ok (.getfield 156, 3) := by decide +kernel
theorem dX7_yard_54 : decode cX7_yard 54 = .ok (.iload_n 1, 1) := by decide +kernel
theorem dX7_yard_55 : decode cX7_yard 55 = .ok (.iaload, 1) := by decide +kernel
theorem dX7_yard_56 : decode cX7_yard 56 = .ok (.ireturn, 1) := by decide +kernel
theorem dX7_yard_57 : decode cX7_yard 57 = .ok (.aload_n 0, 1) := by decide +kernel
theorem dX7_yard_58 : decode cX7_yard 58 = .ok (.getfield 26, 3) := by decide +kernel
theorem dX7_yard_61 : decode cX7_yard 61 = .ok (.getfield 118, 3) := by decide +kernel
theorem dX7_yard_64 : decode cX7_yard 64 = .ok (.getfield 159, 3) := by decide +kernel
theorem dX7_yard_67 : decode cX7_yard 67 = .ok (.iload_n 1, 1) := by decide +kernel
theorem dX7_yard_68 : decode cX7_yard 68 = .ok (.iaload, 1) := by decide +kernel
theorem dX7_yard_69 : decode cX7_yard 69 = .ok (.ireturn, 1) := by decide +kernel
theorem dX7_yard_70 : decode cX7_yard 70 = .ok (.aload_n 0, 1) := by decide +kernel
theorem dX7_yard_71 : decode cX7_yard 71 = .ok (.getfield 26, 3) := by decide +kernel
theorem dX7_yard_74 : decode cX7_yard 74 = .ok (.getfield 118, 3) := by decide +kernel
theorem dX7_yard_77 : decode cX7_yard 77 = .ok (.getfield 162, 3) := by decide +kernel
theorem dX7_yard_80 : decode cX7_yard 80 = .ok (.iload_n 1, 1) := by decide +kernel
theorem dX7_yard_81 : decode cX7_yard 81 = .ok (.iaload, 1) := by decide +kernel
theorem dX7_yard_82 : decode cX7_yard 82 = .ok (.ireturn, 1) := by decide +kernel
theorem dX7_yard_83 : decode cX7_yard 83 = .ok (.ldc 74, 2) := by decide +kernel
theorem dX7_yard_85 : decode cX7_yard 85 = .ok (.ireturn, 1) := by decide +kernel
set_option maxRecDepth 20000 in
theorem ggX7_grows_X6_has : GoodIn wsX7_grows wsX6_has := goodIn_r _ [11, 12, 34, 35, 36, 37, 38] (by decide +kernel) (by decide +kernel)
set_option maxRecDepth 20000 in
theorem gX7_grows_X6_has : GoodIn wsX7_grows (wsV RX7 151 RX6 yX6_has wsX6_has) := goodIn_app (goodIn_of _ (by decide +kernel)) ggX7_grows_X6_has
set_option maxRecDepth 20000 in
theorem ggX7_grows_X7_isOut : GoodIn wsX7_grows wsX7_isOut := goodIn_r _ [16] (by decide +kernel) (by decide +kernel)
set_option maxRecDepth 20000 in
theorem gX7_grows_X7_isOut : GoodIn wsX7_grows (va_wsS RX7 70 yX7_isOut wsX7_isOut) := goodIn_app (goodIn_of _ (by decide +kernel)) ggX7_grows_X7_isOut
set_option maxRecDepth 20000 in
theorem ggX7_grows_X6_growth : GoodIn wsX7_grows wsX6_growth := goodIn_r _ [19] (by decide +kernel) (by decide +kernel)
set_option maxRecDepth 20000 in
theorem gX7_grows_X6_growth : GoodIn wsX7_grows (va_wsS RX7 165 yX6_growth wsX6_growth) := goodIn_app (goodIn_of _ (by decide +kernel)) ggX7_grows_X6_growth
theorem dX7_grows_0 : decode cX7_grows 0 = .ok (.aload_n 0, 1) := by decide +kernel
theorem dX7_grows_1 : decode cX7_grows 1 = .ok (.getfield 26, 3) := by decide +kernel
theorem dX7_grows_4 : decode cX7_grows 4 = .ok (.getfield 118, 3) := by decide +kernel
theorem dX7_grows_7 : decode cX7_grows 7 = .ok (.iload_n 1, 1) := by decide +kernel
theorem dX7_grows_8 : decode cX7_grows 8 = .ok (.invokevirtual 151, 3) := by decide +kernel
theorem dX7_grows_11 : decode cX7_grows 11 = .ok (.ifCond .ne 6, 3) := by decide +kernel
theorem dX7_grows_14 : decode cX7_grows 14 = .ok (.ldc 155, 2) := by decide +kernel
theorem dX7_grows_16 : decode cX7_grows 16 = .ok (.ireturn, 1) := by decide +kernel
theorem dX7_grows_17 : decode cX7_grows 17 = .ok (.iload_n 2, 1) := by decide +kernel
theorem dX7_grows_18 : decode cX7_grows 18 = .ok (.iconst 0, 1) := by decide +kernel
theorem dX7_grows_19 : decode cX7_grows 19 = .ok (.bipush 30, 2) := by decide +kernel
theorem dX7_grows_21 : decode cX7_grows 21 = .ok (.invokestatic 70, 3) := by decide +kernel
theorem dX7_grows_24 : decode cX7_grows 24 = .ok (.ifCond .eq 6, 3) := by decide +kernel
theorem dX7_grows_27 : decode cX7_grows 27 = .ok (.ldc 74, 2) := by decide +kernel
theorem dX7_grows_29 : decode cX7_grows 29 = .ok (.ireturn, 1) := by decide +kernel
theorem dX7_grows_30 : decode cX7_grows 30 = .ok (.aload_n 0, 1) := by decide +kernel
theorem dX7_grows_31 : decode cX7_grows 31 = .ok (.getfield 26, 3) := by decide +kernel
theorem dX7_grows_34 : decode cX7_grows 34 = .ok (.getfield 118, 3) := by decide +kernel
theorem dX7_grows_37 : decode cX7_grows 37 = .ok (.getfield 156, 3) := by decide +kernel
theorem dX7_grows_40 : decode cX7_grows 40 = .ok (.iload_n 1, 1) := by decide +kernel
theorem dX7_grows_41 : decode cX7_grows 41 = .ok (.iaload, 1) := by decide +kernel
theorem dX7_grows_42 : decode cX7_grows 42 = .ok (.aload_n 0, 1) := by decide +kernel
theorem dX7_grows_43 : decode cX7_grows 43 = .ok (.getfield 26, 3) := by decide +kernel
theorem dX7_grows_46 : decode cX7_grows 46 = .ok (.getfield 118, 3) := by decide +kernel
theorem dX7_grows_49 : decode cX7_grows 49 = .ok (.getfield 159, 3) := by decide +kernel
theorem dX7_grows_52 : decode cX7_grows 52 = .ok (.iload_n 1, 1) := by decide +kernel
theorem dX7_grows_53 : decode cX7_grows 53 = .ok (.iaload, 1) := by decide +kernel
theorem dX7_grows_54 : decode cX7_grows 54 = .ok (.iload_n 2, 1) := by decide +kernel
theorem dX7_grows_55 : decode cX7_grows 55 = .ok (.invokestatic 165, 3) := by decide +kernel
theorem dX7_grows_58 : decode cX7_grows 58 = .ok (.ireturn, 1) := by decide +kernel
set_option maxRecDepth 20000 in
theorem ggX7_night_X7_isOut : GoodIn wsX7_night wsX7_isOut := goodIn_r _ [9] (by decide +kernel) (by decide +kernel)
set_option maxRecDepth 20000 in
theorem gX7_night_X7_isOut : GoodIn wsX7_night (va_wsS RX7 70 yX7_isOut wsX7_isOut) := goodIn_app (goodIn_of _ (by decide +kernel)) ggX7_night_X7_isOut
set_option maxRecDepth 20000 in
theorem ggX7_night_X5_passCold : GoodIn wsX7_night wsX5_passCold := goodIn_r _ [14, 15, 16, 17, 18, 19, 20, 21, 22, 23, 24, 25, 26, 27, 28, 29, 30, 31, 32, 33, 34, 35, 36, 37, 38, 39, 40, 41, 42, 43, 44, 45, 46, 47, 62, 63, 64, 65, 66, 67, 68, 69, 70] (by decide +kernel) (by decide +kernel)
set_option maxRecDepth 20000 in
theorem gX7_night_X5_passCold : GoodIn wsX7_night (wsV RX7 169 RX5 yX5_passCold wsX5_passCold) := goodIn_app (goodIn_of _ (by decide +kernel)) ggX7_night_X5_passCold
set_option maxRecDepth 20000 in
theorem ggX7_night_X6_iceTogether : GoodIn wsX7_night wsX6_iceTogether := goodIn_r _ [51, 22, 23, 66, 67, 68, 69, 70] (by decide +kernel) (by decide +kernel)
set_option maxRecDepth 20000 in
theorem gX7_night_X6_iceTogether : GoodIn wsX7_night (wsV RX7 172 RX6 yX6_iceTogether wsX6_iceTogether) := goodIn_app (goodIn_of _ (by decide +kernel)) ggX7_night_X6_iceTogether
theorem dX7_night_0 : decode cX7_night 0 = .ok (.iload_n 1, 1) := by decide +kernel
theorem dX7_night_1 : decode cX7_night 1 = .ok (.iconst 0, 1) := by decide +kernel
theorem dX7_night_2 : decode cX7_night 2 = .ok (.bipush 30, 2) := by decide +kernel
theorem dX7_night_4 : decode cX7_night 4 = .ok (.invokestatic 70, 3) := by decide +kernel
theorem dX7_night_7 : decode cX7_night 7 = .ok (.ifCond .ne 13, 3) := by decide +kernel
theorem dX7_night_10 : decode cX7_night 10 = .ok (.iload_n 2, 1) := by decide +kernel
theorem dX7_night_11 : decode cX7_night 11 = .ok (.iconst 1, 1) := by decide +kernel
theorem dX7_night_12 : decode cX7_night 12 = .ok (.bipush 99, 2) := by decide +kernel
theorem dX7_night_14 : decode cX7_night 14 = .ok (.invokestatic 70, 3) := by decide +kernel
theorem dX7_night_17 : decode cX7_night 17 = .ok (.ifCond .eq 6, 3) := by decide +kernel
theorem dX7_night_20 : decode cX7_night 20 = .ok (.ldc 74, 2) := by decide +kernel
theorem dX7_night_22 : decode cX7_night 22 = .ok (.ireturn, 1) := by decide +kernel
theorem dX7_night_23 : decode cX7_night 23 = .ok (.aload_n 0, 1) := by decide +kernel
theorem dX7_night_24 : decode cX7_night 24 = .ok (.getfield 26, 3) := by decide +kernel
theorem dX7_night_27 : decode cX7_night 27 = .ok (.getfield 125, 3) := by decide +kernel
theorem dX7_night_30 : decode cX7_night 30 = .ok (.sipush 9000, 3) := by decide +kernel
theorem dX7_night_33 : decode cX7_night 33 = .ok (.if_icmp .le 6, 3) := by decide +kernel
theorem dX7_night_36 : decode cX7_night 36 = .ok (.ldc 79, 2) := by decide +kernel
theorem dX7_night_38 : decode cX7_night 38 = .ok (.ireturn, 1) := by decide +kernel
theorem dX7_night_39 : decode cX7_night 39 = .ok (.iconst 0, 1) := by decide +kernel
theorem dX7_night_40 : decode cX7_night 40 = .ok (.istore_n 3, 1) := by decide +kernel
theorem dX7_night_41 : decode cX7_night 41 = .ok (.iload_n 3, 1) := by decide +kernel
theorem dX7_night_42 : decode cX7_night 42 = .ok (.iload_n 2, 1) := by decide +kernel
theorem dX7_night_43 : decode cX7_night 43 = .ok (.if_icmp .ge 17, 3) := by decide +kernel
theorem dX7_night_46 : decode cX7_night 46 = .ok (.aload_n 0, 1) := by decide +kernel
theorem dX7_night_47 : decode cX7_night 47 = .ok (.getfield 26, 3) := by decide +kernel
theorem dX7_night_50 : decode cX7_night 50 = .ok (.iload_n 1, 1) := by decide +kernel
theorem dX7_night_51 : decode cX7_night 51 = .ok (.invokevirtual 169, 3) := by decide +kernel
theorem dX7_night_54 : decode cX7_night 54 = .ok (.iinc 3 1, 3) := by decide +kernel
theorem dX7_night_57 : decode cX7_night 57 = .ok (.goto (-16), 3) := by decide +kernel
theorem dX7_night_60 : decode cX7_night 60 = .ok (.aload_n 0, 1) := by decide +kernel
theorem dX7_night_61 : decode cX7_night 61 = .ok (.getfield 26, 3) := by decide +kernel
theorem dX7_night_64 : decode cX7_night 64 = .ok (.getfield 118, 3) := by decide +kernel
theorem dX7_night_67 : decode cX7_night 67 = .ok (.invokevirtual 172, 3) := by decide +kernel
theorem dX7_night_70 : decode cX7_night 70 = .ok (.ireturn, 1) := by decide +kernel
set_option maxRecDepth 20000 in
theorem ggX7_thaw_X7_isOut : GoodIn wsX7_thaw wsX7_isOut := goodIn_r _ [9] (by decide +kernel) (by decide +kernel)
set_option maxRecDepth 20000 in
theorem gX7_thaw_X7_isOut : GoodIn wsX7_thaw (va_wsS RX7 70 yX7_isOut wsX7_isOut) := goodIn_app (goodIn_of _ (by decide +kernel)) ggX7_thaw_X7_isOut
set_option maxRecDepth 20000 in
theorem ggX7_thaw_X5_passThaw : GoodIn wsX7_thaw wsX5_passThaw := goodIn_r _ [14, 15, 16, 17, 18, 19, 20, 21, 22, 23, 24, 25, 26, 27, 28, 29, 30, 31, 32, 33, 34, 35, 36, 37, 38, 39, 40, 41, 56, 57, 58, 59, 60, 61, 62, 63, 64] (by decide +kernel) (by decide +kernel)
set_option maxRecDepth 20000 in
theorem gX7_thaw_X5_passThaw : GoodIn wsX7_thaw (wsV RX7 175 RX5 yX5_passThaw wsX5_passThaw) := goodIn_app (goodIn_of _ (by decide +kernel)) ggX7_thaw_X5_passThaw
set_option maxRecDepth 20000 in
theorem ggX7_thaw_X6_iceTogether : GoodIn wsX7_thaw wsX6_iceTogether := goodIn_r _ [45, 22, 23, 60, 61, 62, 63, 64] (by decide +kernel) (by decide +kernel)
set_option maxRecDepth 20000 in
theorem gX7_thaw_X6_iceTogether : GoodIn wsX7_thaw (wsV RX7 172 RX6 yX6_iceTogether wsX6_iceTogether) := goodIn_app (goodIn_of _ (by decide +kernel)) ggX7_thaw_X6_iceTogether
theorem dX7_thaw_0 : decode cX7_thaw 0 = .ok (.iload_n 1, 1) := by decide +kernel
theorem dX7_thaw_1 : decode cX7_thaw 1 = .ok (.iconst 0, 1) := by decide +kernel
theorem dX7_thaw_2 : decode cX7_thaw 2 = .ok (.bipush 60, 2) := by decide +kernel
theorem dX7_thaw_4 : decode cX7_thaw 4 = .ok (.invokestatic 70, 3) := by decide +kernel
theorem dX7_thaw_7 : decode cX7_thaw 7 = .ok (.ifCond .eq 6, 3) := by decide +kernel
theorem dX7_thaw_10 : decode cX7_thaw 10 = .ok (.ldc 74, 2) := by decide +kernel
theorem dX7_thaw_12 : decode cX7_thaw 12 = .ok (.ireturn, 1) := by decide +kernel
theorem dX7_thaw_13 : decode cX7_thaw 13 = .ok (.aload_n 0, 1) := by decide +kernel
theorem dX7_thaw_14 : decode cX7_thaw 14 = .ok (.getfield 26, 3) := by decide +kernel
theorem dX7_thaw_17 : decode cX7_thaw 17 = .ok (.getfield 125, 3) := by decide +kernel
theorem dX7_thaw_20 : decode cX7_thaw 20 = .ok (.sipush 9000, 3) := by decide +kernel
theorem dX7_thaw_23 : decode cX7_thaw 23 = .ok (.if_icmp .le 6, 3) := by decide +kernel
theorem dX7_thaw_26 : decode cX7_thaw 26 = .ok (.ldc 79, 2) := by decide +kernel
theorem dX7_thaw_28 : decode cX7_thaw 28 = .ok (.ireturn, 1) := by decide +kernel
theorem dX7_thaw_29 : decode cX7_thaw 29 = .ok (.aload_n 0, 1) := by decide +kernel
theorem dX7_thaw_30 : decode cX7_thaw 30 = .ok (.getfield 26, 3) := by decide +kernel
theorem dX7_thaw_33 : decode cX7_thaw 33 = .ok (.iload_n 1, 1) := by decide +kernel
theorem dX7_thaw_34 : decode cX7_thaw 34 = .ok (.invokevirtual 175, 3) := by decide +kernel
theorem dX7_thaw_37 : decode cX7_thaw 37 = .ok (.aload_n 0, 1) := by decide +kernel
theorem dX7_thaw_38 : decode cX7_thaw 38 = .ok (.getfield 26, 3) := by decide +kernel
theorem dX7_thaw_41 : decode cX7_thaw 41 = .ok (.getfield 118, 3) := by decide +kernel
theorem dX7_thaw_44 : decode cX7_thaw 44 = .ok (.invokevirtual 172, 3) := by decide +kernel
theorem dX7_thaw_47 : decode cX7_thaw 47 = .ok (.ireturn, 1) := by decide +kernel
set_option maxRecDepth 20000 in
theorem ggX7_beat_X7_isOut : GoodIn wsX7_beat wsX7_isOut := goodIn_r _ [7] (by decide +kernel) (by decide +kernel)
set_option maxRecDepth 20000 in
theorem gX7_beat_X7_isOut : GoodIn wsX7_beat (va_wsS RX7 70 yX7_isOut wsX7_isOut) := goodIn_app (goodIn_of _ (by decide +kernel)) ggX7_beat_X7_isOut
set_option maxRecDepth 20000 in
theorem ggX7_beat_X7_forceNow : GoodIn wsX7_beat wsX7_forceNow := goodIn_r _ [11, 12, 2, 3, 13, 14, 15, 16, 17, 18, 19, 20, 21, 22, 23, 24, 25, 26, 27, 28, 29, 30, 31, 32, 33, 34, 35, 36, 37, 38, 39, 40, 41, 42, 43, 44, 45, 46, 47, 48, 49, 50, 51, 52, 53, 54, 55] (by decide +kernel) (by decide +kernel)
set_option maxRecDepth 20000 in
theorem gX7_beat_X7_forceNow : GoodIn wsX7_beat (wsV RX7 139 RX7 yX7_forceNow wsX7_forceNow) := goodIn_app (goodIn_of _ (by decide +kernel)) ggX7_beat_X7_forceNow
theorem dX7_beat_0 : decode cX7_beat 0 = .ok (.iload_n 1, 1) := by decide +kernel
theorem dX7_beat_1 : decode cX7_beat 1 = .ok (.iconst 1, 1) := by decide +kernel
theorem dX7_beat_2 : decode cX7_beat 2 = .ok (.bipush 9, 2) := by decide +kernel
theorem dX7_beat_4 : decode cX7_beat 4 = .ok (.invokestatic 70, 3) := by decide +kernel
theorem dX7_beat_7 : decode cX7_beat 7 = .ok (.ifCond .eq 6, 3) := by decide +kernel
theorem dX7_beat_10 : decode cX7_beat 10 = .ok (.ldc 74, 2) := by decide +kernel
theorem dX7_beat_12 : decode cX7_beat 12 = .ok (.ireturn, 1) := by decide +kernel
theorem dX7_beat_13 : decode cX7_beat 13 = .ok (.aload_n 0, 1) := by decide +kernel
theorem dX7_beat_14 : decode cX7_beat 14 = .ok (.getfield 26, 3) := by decide +kernel
theorem dX7_beat_17 : decode cX7_beat 17 = .ok (.iload_n 1, 1) := by decide +kernel
theorem dX7_beat_18 : decode cX7_beat 18 = .ok (.putfield 128, 3) := by decide +kernel
theorem dX7_beat_21 : decode cX7_beat 21 = .ok (.aload_n 0, 1) := by decide +kernel
theorem dX7_beat_22 : decode cX7_beat 22 = .ok (.invokevirtual 139, 3) := by decide +kernel
theorem dX7_beat_25 : decode cX7_beat 25 = .ok (.ireturn, 1) := by decide +kernel
set_option maxRecDepth 20000 in
theorem ggX7_out_X7_isOutOfDay : GoodIn wsX7_out wsX7_isOutOfDay := goodIn_r _ [11, 12, 13, 10, 14] (by decide +kernel) (by decide +kernel)
set_option maxRecDepth 20000 in
theorem gX7_out_X7_isOutOfDay : GoodIn wsX7_out (va_wsS RX7 178 yX7_isOutOfDay wsX7_isOutOfDay) := goodIn_app (goodIn_of _ (by decide +kernel)) ggX7_out_X7_isOutOfDay
set_option maxRecDepth 20000 in
theorem ggX7_out_X7_goFromNow : GoodIn wsX7_out wsX7_goFromNow := goodIn_r _ [18, 6, 2, 3, 19, 20, 21, 22, 10, 23, 24, 25, 26, 27, 28, 29, 30, 31, 32, 33, 34, 35, 36, 37, 38, 39, 40, 41, 42, 43, 44, 45, 46, 47, 48, 49, 50, 51, 52, 53, 54, 55, 56, 57, 58, 59, 60, 61, 62, 63, 64, 65, 66, 67, 68, 69, 70, 71, 81, 82, 83, 84, 85, 86, 87, 88, 89, 90, 91, 92, 93, 94, 104, 100, 101, 102, 103, 95, 96, 97, 98, 99] (by decide +kernel) (by decide +kernel)
set_option maxRecDepth 20000 in
theorem gX7_out_X7_goFromNow : GoodIn wsX7_out (wsV RX7 182 RX7 yX7_goFromNow wsX7_goFromNow) := goodIn_app (goodIn_of _ (by decide +kernel)) ggX7_out_X7_goFromNow
set_option maxRecDepth 20000 in
theorem ggX7_out_X6_openFirst : GoodIn wsX7_out wsX6_openFirst := goodIn_r _ [76, 77, 78, 79, 80, 95, 96, 97, 98, 99] (by decide +kernel) (by decide +kernel)
set_option maxRecDepth 20000 in
theorem gX7_out_X6_openFirst : GoodIn wsX7_out (wsV RX7 188 RX6 yX6_openFirst wsX6_openFirst) := goodIn_app (goodIn_of _ (by decide +kernel)) ggX7_out_X6_openFirst
theorem dX7_out_0 : decode cX7_out 0 = .ok (.iload_n 1, 1) := by decide +kernel
theorem dX7_out_1 : decode cX7_out 1 = .ok (.invokestatic 178, 3) := by decide +kernel
theorem dX7_out_4 : decode cX7_out 4 = .ok (.ifCond .eq 6, 3) := by decide +kernel
theorem dX7_out_7 : decode cX7_out 7 = .ok (.ldc 74, 2) := by decide +kernel
theorem dX7_out_9 : decode cX7_out 9 = .ok (.ireturn, 1) := by decide +kernel
theorem dX7_out_10 : decode cX7_out 10 = .ok (.aload_n 0, 1) := by decide +kernel
theorem dX7_out_11 : decode cX7_out 11 = .ok (.getfield 26, 3) := by decide +kernel
theorem dX7_out_14 : decode cX7_out 14 = .ok (.getfield 118, 3) := by decide +kernel
theorem dX7_out_17 : decode cX7_out 17 = .ok (.getfield 121, 3) := by decide +kernel
theorem dX7_out_20 : decode cX7_out 20 = .ok (.ifCond .ne 6, 3) := by decide +kernel
theorem dX7_out_23 : decode cX7_out 23 = .ok (.ldc 181, 2) := by decide +kernel
theorem dX7_out_25 : decode cX7_out 25 = .ok (.ireturn, 1) := by decide +kernel
theorem dX7_out_26 : decode cX7_out 26 = .ok (.aload_n 0, 1) := by decide +kernel
theorem dX7_out_27 : decode cX7_out 27 = .ok (.iload_n 1, 1) := by decide +kernel
theorem dX7_out_28 : decode cX7_out 28 = .ok (.invokevirtual 182, 3) := by decide +kernel
theorem dX7_out_31 : decode cX7_out 31 = .ok (.aload_n 0, 1) := by decide +kernel
theorem dX7_out_32 : decode cX7_out 32 = .ok (.getfield 26, 3) := by decide +kernel
theorem dX7_out_35 : decode cX7_out 35 = .ok (.getfield 118, 3) := by decide +kernel
theorem dX7_out_38 : decode cX7_out 38 = .ok (.aload_n 0, 1) := by decide +kernel
theorem dX7_out_39 : decode cX7_out 39 = .ok (.getfield 48, 3) := by decide +kernel
theorem dX7_out_42 : decode cX7_out 42 = .ok (.getfield 185, 3) := by decide +kernel
theorem dX7_out_45 : decode cX7_out 45 = .ok (.invokevirtual 188, 3) := by decide +kernel
theorem dX7_out_48 : decode cX7_out 48 = .ok (.aload_n 0, 1) := by decide +kernel
theorem dX7_out_49 : decode cX7_out 49 = .ok (.getfield 48, 3) := by decide +kernel
theorem dX7_out_52 : decode cX7_out 52 = .ok (.getfield 185, 3) := by decide +kernel
theorem dX7_out_55 : decode cX7_out 55 = .ok (.ireturn, 1) := by decide +kernel
set_option maxRecDepth 20000 in
theorem ggX7_drift_X7_isOut : GoodIn wsX7_drift wsX7_isOut := goodIn_r _ [9] (by decide +kernel) (by decide +kernel)
set_option maxRecDepth 20000 in
theorem gX7_drift_X7_isOut : GoodIn wsX7_drift (va_wsS RX7 70 yX7_isOut wsX7_isOut) := goodIn_app (goodIn_of _ (by decide +kernel)) ggX7_drift_X7_isOut
set_option maxRecDepth 20000 in
theorem ggX7_drift_X5_passByDraws : GoodIn wsX7_drift wsX5_passByDraws := goodIn_r _ [14, 15, 16, 17, 13, 18, 19, 20, 21, 22, 23, 24, 25, 26, 27, 28, 29, 30, 31, 32, 33, 34, 35, 36, 37, 38, 39, 40, 41, 42, 43, 44, 45, 46, 47, 48, 49, 50, 51, 52, 53, 54, 55, 56, 57, 58, 59, 60, 61, 62, 63, 64, 65, 66, 67, 68, 69, 70, 71, 86, 87, 88, 89, 90, 91, 92, 93, 94] (by decide +kernel) (by decide +kernel)
set_option maxRecDepth 20000 in
theorem gX7_drift_X5_passByDraws : GoodIn wsX7_drift (wsV RX7 191 RX5 yX5_passByDraws wsX5_passByDraws) := goodIn_app (goodIn_of _ (by decide +kernel)) ggX7_drift_X5_passByDraws
set_option maxRecDepth 20000 in
theorem ggX7_drift_X6_iceTogether : GoodIn wsX7_drift wsX6_iceTogether := goodIn_r _ [75, 35, 36, 90, 91, 92, 93, 94] (by decide +kernel) (by decide +kernel)
set_option maxRecDepth 20000 in
theorem gX7_drift_X6_iceTogether : GoodIn wsX7_drift (wsV RX7 172 RX6 yX6_iceTogether wsX6_iceTogether) := goodIn_app (goodIn_of _ (by decide +kernel)) ggX7_drift_X6_iceTogether
theorem dX7_drift_0 : decode cX7_drift 0 = .ok (.iload_n 1, 1) := by decide +kernel
theorem dX7_drift_1 : decode cX7_drift 1 = .ok (.iconst 1, 1) := by decide +kernel
theorem dX7_drift_2 : decode cX7_drift 2 = .ok (.bipush 99, 2) := by decide +kernel
theorem dX7_drift_4 : decode cX7_drift 4 = .ok (.invokestatic 70, 3) := by decide +kernel
theorem dX7_drift_7 : decode cX7_drift 7 = .ok (.ifCond .eq 6, 3) := by decide +kernel
theorem dX7_drift_10 : decode cX7_drift 10 = .ok (.ldc 74, 2) := by decide +kernel
theorem dX7_drift_12 : decode cX7_drift 12 = .ok (.ireturn, 1) := by decide +kernel
theorem dX7_drift_13 : decode cX7_drift 13 = .ok (.aload_n 0, 1) := by decide +kernel
theorem dX7_drift_14 : decode cX7_drift 14 = .ok (.getfield 26, 3) := by decide +kernel
theorem dX7_drift_17 : decode cX7_drift 17 = .ok (.getfield 125, 3) := by decide +kernel
theorem dX7_drift_20 : decode cX7_drift 20 = .ok (.sipush 9000, 3) := by decide +kernel
theorem dX7_drift_23 : decode cX7_drift 23 = .ok (.if_icmp .le 6, 3) := by decide +kernel
theorem dX7_drift_26 : decode cX7_drift 26 = .ok (.ldc 79, 2) := by decide +kernel
theorem dX7_drift_28 : decode cX7_drift 28 = .ok (.ireturn, 1) := by decide +kernel
theorem dX7_drift_29 : decode cX7_drift 29 = .ok (.iconst 0, 1) := by decide +kernel
theorem dX7_drift_30 : decode cX7_drift 30 = .ok (.istore_n 2, 1) := by decide +kernel
theorem dX7_drift_31 : decode cX7_drift 31 = .ok (.iload_n 2, 1) := by decide +kernel
theorem dX7_drift_32 : decode cX7_drift 32 = .ok (.iload_n 1, 1) := by decide +kernel
theorem dX7_drift_33 : decode cX7_drift 33 = .ok (.if_icmp .ge 16, 3) := by decide +kernel
theorem dX7_drift_36 : decode cX7_drift 36 = .ok (.aload_n 0, 1) := by decide +kernel
theorem dX7_drift_37 : decode cX7_drift 37 = .ok (.getfield 26, 3) := by decide +kernel
theorem dX7_drift_40 : decode cX7_drift 40 = .ok (.invokevirtual 191, 3) := by decide +kernel
theorem dX7_drift_43 : decode cX7_drift 43 = .ok (.iinc 2 1, 3) := by decide +kernel
theorem dX7_drift_46 : decode cX7_drift 46 = .ok (.goto (-15), 3) := by decide +kernel
theorem dX7_drift_49 : decode cX7_drift 49 = .ok (.aload_n 0, 1) := by decide +kernel
theorem dX7_drift_50 : decode cX7_drift 50 = .ok (.getfield 26, 3) := by decide +kernel
theorem dX7_drift_53 : decode cX7_drift 53 = .ok (.getfield 118, 3) := by decide +kernel
theorem dX7_drift_56 : decode cX7_drift 56 = .ok (.invokevirtual 172, 3) := by decide +kernel
theorem dX7_drift_59 : decode cX7_drift 59 = .ok (.ireturn, 1) := by decide +kernel
set_option maxRecDepth 20000 in
theorem ggX7_today_X7_isOutOfDay : GoodIn wsX7_today wsX7_isOutOfDay := goodIn_r _ [8, 9, 10, 7, 11] (by decide +kernel) (by decide +kernel)
set_option maxRecDepth 20000 in
theorem gX7_today_X7_isOutOfDay : GoodIn wsX7_today (va_wsS RX7 178 yX7_isOutOfDay wsX7_isOutOfDay) := goodIn_app (goodIn_of _ (by decide +kernel)) ggX7_today_X7_isOutOfDay
set_option maxRecDepth 20000 in
theorem ggX7_today_X7_isOut : GoodIn wsX7_today wsX7_isOut := goodIn_r _ [11] (by decide +kernel) (by decide +kernel)
set_option maxRecDepth 20000 in
theorem gX7_today_X7_isOut : GoodIn wsX7_today (va_wsS RX7 70 yX7_isOut wsX7_isOut) := goodIn_app (goodIn_of _ (by decide +kernel)) ggX7_today_X7_isOut
set_option maxRecDepth 20000 in
theorem ggX7_today_X7_goFromNow : GoodIn wsX7_today wsX7_goFromNow := goodIn_r _ [15, 2, 16, 17, 18, 19, 20, 21, 7, 22, 23, 24, 25, 26, 27, 28, 29, 30, 31, 32, 33, 34, 35, 36, 37, 38, 39, 40, 41, 42, 43, 44, 45, 46, 47, 48, 49, 50, 51, 52, 53, 54, 55, 56, 57, 58, 59, 60, 61, 62, 63, 64, 65, 66, 67, 68, 69, 70, 71, 72, 73, 74, 75, 76, 77, 78, 79, 80, 85, 86, 87, 88, 89, 81, 82, 83, 84, 90, 91, 92, 93, 94] (by decide +kernel) (by decide +kernel)
set_option maxRecDepth 20000 in
theorem gX7_today_X7_goFromNow : GoodIn wsX7_today (wsV RX7 182 RX7 yX7_goFromNow wsX7_goFromNow) := goodIn_app (goodIn_of _ (by decide +kernel)) ggX7_today_X7_goFromNow
theorem dX7_today_0 : decode cX7_today 0 = .ok (.iload_n 1, 1) := by decide +kernel
theorem dX7_today_1 : decode cX7_today 1 = .ok (.invokestatic 178, 3) := by decide +kernel
theorem dX7_today_4 : decode cX7_today 4 = .ok (.ifCond .ne 12, 3) := by decide +kernel
theorem dX7_today_7 : decode cX7_today 7 = .ok (.iload_n 2, 1) := by decide +kernel
theorem dX7_today_8 : decode cX7_today 8 = .ok (.iconst 0, 1) := by decide +kernel
theorem dX7_today_9 : decode cX7_today 9 = .ok (.iconst 1, 1) := by decide +kernel
theorem dX7_today_10 : decode cX7_today 10 = .ok (.invokestatic 70, 3) := by decide +kernel
theorem dX7_today_13 : decode cX7_today 13 = .ok (.ifCond .eq 6, 3) := by decide +kernel
theorem dX7_today_16 : decode cX7_today 16 = .ok (.ldc 74, 2) := by decide +kernel
theorem dX7_today_18 : decode cX7_today 18 = .ok (.ireturn, 1) := by decide +kernel
theorem dX7_today_19 : decode cX7_today 19 = .ok (.aload_n 0, 1) := by decide +kernel
theorem dX7_today_20 : decode cX7_today 20 = .ok (.iload_n 1, 1) := by decide +kernel
theorem dX7_today_21 : decode cX7_today 21 = .ok (.invokevirtual 182, 3) := by decide +kernel
theorem dX7_today_24 : decode cX7_today 24 = .ok (.iload_n 2, 1) := by decide +kernel
theorem dX7_today_25 : decode cX7_today 25 = .ok (.ifCond .ne 13, 3) := by decide +kernel
theorem dX7_today_28 : decode cX7_today 28 = .ok (.aload_n 0, 1) := by decide +kernel
theorem dX7_today_29 : decode cX7_today 29 = .ok (.getfield 48, 3) := by decide +kernel
theorem dX7_today_32 : decode cX7_today 32 = .ok (.getfield 185, 3) := by decide +kernel
theorem dX7_today_35 : decode cX7_today 35 = .ok (.goto 10, 3) := by decide +kernel
theorem dX7_today_38 : decode cX7_today 38 = .ok (.aload_n 0, 1) := by decide +kernel
theorem dX7_today_39 : decode cX7_today 39 = .ok (.getfield 48, 3) := by decide +kernel
theorem dX7_today_42 : decode cX7_today 42 = .ok (.getfield 194, 3) := by decide +kernel
theorem dX7_today_45 : decode cX7_today 45 = .ok (.ireturn, 1) := by decide +kernel
set_option maxRecDepth 20000 in
theorem ggX7_bestBeat_X0_forceBy : GoodIn wsX7_bestBeat wsX0_forceBy := goodIn_r _ [6, 7, 8, 9, 5, 10, 11, 12, 13, 14, 15, 16, 17, 18, 19, 20, 21, 22, 23, 24, 25, 26, 27, 28, 29, 40] (by decide +kernel) (by decide +kernel)
set_option maxRecDepth 20000 in
theorem gX7_bestBeat_X0_forceBy : GoodIn wsX7_bestBeat (wsV RX7 197 RX0 yX0_forceBy wsX0_forceBy) := goodIn_app (goodIn_of _ (by decide +kernel)) ggX7_bestBeat_X0_forceBy
theorem dX7_bestBeat_0 : decode cX7_bestBeat 0 = .ok (.iconst 1, 1) := by decide +kernel
theorem dX7_bestBeat_1 : decode cX7_bestBeat 1 = .ok (.istore_n 1, 1) := by decide +kernel
theorem dX7_bestBeat_2 : decode cX7_bestBeat 2 = .ok (.iconst 2, 1) := by decide +kernel
theorem dX7_bestBeat_3 : decode cX7_bestBeat 3 = .ok (.istore_n 2, 1) := by decide +kernel
theorem dX7_bestBeat_4 : decode cX7_bestBeat 4 = .ok (.iload_n 2, 1) := by decide +kernel
theorem dX7_bestBeat_5 : decode cX7_bestBeat 5 = .ok (.bipush 9, 2) := by decide +kernel
theorem dX7_bestBeat_7 : decode cX7_bestBeat 7 = .ok (.if_icmp .gt 30, 3) := by decide +kernel
theorem dX7_bestBeat_10 : decode cX7_bestBeat 10 = .ok (.aload_n 0, 1) := by decide +kernel
theorem dX7_bestBeat_11 : decode cX7_bestBeat 11 = .ok (.getfield 19, 3) := by decide +kernel
theorem dX7_bestBeat_14 : decode cX7_bestBeat 14 = .ok (.iload_n 2, 1) := by decide +kernel
theorem dX7_bestBeat_15 : decode cX7_bestBeat 15 = .ok (.invokevirtual 197, 3) := by decide +kernel
theorem dX7_bestBeat_18 : decode cX7_bestBeat 18 = .ok (.aload_n 0, 1) := by decide +kernel
theorem dX7_bestBeat_19 : decode cX7_bestBeat 19 = .ok (.getfield 19, 3) := by decide +kernel
theorem dX7_bestBeat_22 : decode cX7_bestBeat 22 = .ok (.iload_n 1, 1) := by decide +kernel
theorem dX7_bestBeat_23 : decode cX7_bestBeat 23 = .ok (.invokevirtual 197, 3) := by decide +kernel
theorem dX7_bestBeat_26 : decode cX7_bestBeat 26 = .ok (.if_icmp .le 5, 3) := by decide +kernel
theorem dX7_bestBeat_29 : decode cX7_bestBeat 29 = .ok (.iload_n 2, 1) := by decide +kernel
theorem dX7_bestBeat_30 : decode cX7_bestBeat 30 = .ok (.istore_n 1, 1) := by decide +kernel
theorem dX7_bestBeat_31 : decode cX7_bestBeat 31 = .ok (.iinc 2 1, 3) := by decide +kernel
theorem dX7_bestBeat_34 : decode cX7_bestBeat 34 = .ok (.goto (-30), 3) := by decide +kernel
theorem dX7_bestBeat_37 : decode cX7_bestBeat 37 = .ok (.iload_n 1, 1) := by decide +kernel
theorem dX7_bestBeat_38 : decode cX7_bestBeat 38 = .ok (.ireturn, 1) := by decide +kernel
set_option maxRecDepth 20000 in
theorem ggX7_laggards_X7_isOutOfDay : GoodIn wsX7_laggards wsX7_isOutOfDay := goodIn_r _ [10, 11, 12, 9, 13] (by decide +kernel) (by decide +kernel)
set_option maxRecDepth 20000 in
theorem gX7_laggards_X7_isOutOfDay : GoodIn wsX7_laggards (va_wsS RX7 178 yX7_isOutOfDay wsX7_isOutOfDay) := goodIn_app (goodIn_of _ (by decide +kernel)) ggX7_laggards_X7_isOutOfDay
set_option maxRecDepth 20000 in
theorem ggX7_laggards_X0_horsesTold : GoodIn wsX7_laggards wsX0_horsesTold := goodIn_r _ [18, 19, 71] (by decide +kernel) (by decide +kernel)
set_option maxRecDepth 20000 in
theorem gX7_laggards_X0_horsesTold : GoodIn wsX7_laggards (wsV RX7 201 RX0 yX0_horsesTold wsX0_horsesTold) := goodIn_app (goodIn_of _ (by decide +kernel)) ggX7_laggards_X0_horsesTold
set_option maxRecDepth 20000 in
theorem ggX7_laggards_X0_swayBy : GoodIn wsX7_laggards wsX0_swayBy := goodIn_r _ [23, 19, 24, 25, 26, 27, 28, 29, 30, 71] (by decide +kernel) (by decide +kernel)
set_option maxRecDepth 20000 in
theorem gX7_laggards_X0_swayBy : GoodIn wsX7_laggards (wsV RX7 135 RX0 yX0_swayBy wsX0_swayBy) := goodIn_app (goodIn_of _ (by decide +kernel)) ggX7_laggards_X0_swayBy
set_option maxRecDepth 20000 in
theorem ggX7_laggards_X0_forceOf : GoodIn wsX7_laggards wsX0_forceOf := goodIn_r _ [33] (by decide +kernel) (by decide +kernel)
set_option maxRecDepth 20000 in
theorem gX7_laggards_X0_forceOf : GoodIn wsX7_laggards (va_wsS RX7 204 yX0_forceOf wsX0_forceOf) := goodIn_app (goodIn_of _ (by decide +kernel)) ggX7_laggards_X0_forceOf
set_option maxRecDepth 20000 in
theorem ggX7_laggards_X0_axeMinutes : GoodIn wsX7_laggards wsX0_axeMinutes := goodIn_r _ [37, 19, 71] (by decide +kernel) (by decide +kernel)
set_option maxRecDepth 20000 in
theorem gX7_laggards_X0_axeMinutes : GoodIn wsX7_laggards (wsV RX7 207 RX0 yX0_axeMinutes wsX0_axeMinutes) := goodIn_app (goodIn_of _ (by decide +kernel)) ggX7_laggards_X0_axeMinutes
set_option maxRecDepth 20000 in
theorem ggX7_laggards_X4_passes : GoodIn wsX7_laggards wsX4_passes := goodIn_r _ [42, 43, 44, 45, 46, 47, 41, 48, 49, 50, 51, 52, 53, 54, 55, 56, 72, 73, 74, 75, 76, 77, 78, 79, 80] (by decide +kernel) (by decide +kernel)
set_option maxRecDepth 20000 in
theorem gX7_laggards_X4_passes : GoodIn wsX7_laggards (wsV RX7 210 RX4 yX4_passes wsX4_passes) := goodIn_app (goodIn_of _ (by decide +kernel)) ggX7_laggards_X4_passes
theorem dX7_laggards_0 : decode cX7_laggards 0 = .ok (.iload_n 1, 1) := by decide +kernel
theorem dX7_laggards_1 : decode cX7_laggards 1 = .ok (.invokestatic 178, 3) := by decide +kernel
theorem dX7_laggards_4 : decode cX7_laggards 4 = .ok (.ifCond .eq 6, 3) := by decide +kernel
theorem dX7_laggards_7 : decode cX7_laggards 7 = .ok (.ldc 74, 2) := by decide +kernel
theorem dX7_laggards_9 : decode cX7_laggards 9 = .ok (.ireturn, 1) := by decide +kernel
theorem dX7_laggards_10 : decode cX7_laggards 10 = .ok (.iconst 0, 1) := by decide +kernel
theorem dX7_laggards_11 : decode cX7_laggards 11 = .ok (.istore_n 2, 1) := by decide +kernel
theorem dX7_laggards_12 : decode cX7_laggards 12 = .ok (.iload_n 2, 1) := by decide +kernel
theorem dX7_laggards_13 : decode cX7_laggards 13 = .ok (.bipush 20, 2) := by decide +kernel
theorem dX7_laggards_15 : decode cX7_laggards 15 = .ok (.if_icmp .gt 63, 3) := by decide +kernel
theorem dX7_laggards_18 : decode cX7_laggards 18 = .ok (.aload_n 0, 1) := by decide +kernel
theorem dX7_laggards_19 : decode cX7_laggards 19 = .ok (.getfield 19, 3) := by decide +kernel
theorem dX7_laggards_22 : decode cX7_laggards 22 = .ok (.invokevirtual 201, 3) := by decide +kernel
theorem dX7_laggards_25 : decode cX7_laggards 25 = .ok (.aload_n 0, 1) := by decide +kernel
theorem dX7_laggards_26 : decode cX7_laggards 26 = .ok (.getfield 19, 3) := by decide +kernel
theorem dX7_laggards_29 : decode cX7_laggards 29 = .ok (.aload_n 0, 1) := by decide +kernel
theorem dX7_laggards_30 : decode cX7_laggards 30 = .ok (.getfield 26, 3) := by decide +kernel
theorem dX7_laggards_33 : decode cX7_laggards 33 = .ok (.getfield 128, 3) := by decide +kernel
theorem dX7_laggards_36 : decode cX7_laggards 36 = .ok (.iload_n 2, 1) := by decide +kernel
theorem dX7_laggards_37 : decode cX7_laggards 37 = .ok (.invokevirtual 135, 3) := by decide +kernel
theorem dX7_laggards_40 : decode cX7_laggards 40 = .ok (.invokestatic 204, 3) := by decide +kernel
theorem dX7_laggards_43 : decode cX7_laggards 43 = .ok (.istore_n 3, 1) := by decide +kernel
theorem dX7_laggards_44 : decode cX7_laggards 44 = .ok (.aload_n 0, 1) := by decide +kernel
theorem dX7_laggards_45 : decode cX7_laggards 45 = .ok (.getfield 48, 3) := by decide +kernel
theorem dX7_laggards_48 : decode cX7_laggards 48 = .ok (.aload_n 0, 1) := by decide +kernel
theorem dX7_laggards_49 : decode cX7_laggards 49 = .ok (.getfield 26, 3) := by decide +kernel
theorem dX7_laggards_52 : decode cX7_laggards 52 = .ok (.getfield 118, 3) := by decide +kernel
theorem dX7_laggards_55 : decode cX7_laggards 55 = .ok (.iload_n 3, 1) := by decide +kernel
theorem dX7_laggards_56 : decode cX7_laggards 56 = .ok (.aload_n 0, 1) := by decide +kernel
theorem dX7_laggards_57 : decode cX7_laggards 57 = .ok (.getfield 19, 3) := by decide +kernel
theorem dX7_laggards_60 : decode cX7_laggards 60 = .ok (.invokevirtual 207, 3) := by decide +kernel
theorem dX7_laggards_63 : decode cX7_laggards 63 = .ok (.iload_n 1, 1) := by decide +kernel
theorem dX7_laggards_64 : decode cX7_laggards 64 = .ok (.invokevirtual 210, 3) := by decide +kernel
theorem dX7_laggards_67 : decode cX7_laggards 67 = .ok (.ifCond .ne 5, 3) := by decide +kernel
theorem dX7_laggards_70 : decode cX7_laggards 70 = .ok (.iload_n 2, 1) := by decide +kernel
theorem dX7_laggards_71 : decode cX7_laggards 71 = .ok (.ireturn, 1) := by decide +kernel
theorem dX7_laggards_72 : decode cX7_laggards 72 = .ok (.iinc 2 1, 3) := by decide +kernel
theorem dX7_laggards_75 : decode cX7_laggards 75 = .ok (.goto (-63), 3) := by decide +kernel
theorem dX7_laggards_78 : decode cX7_laggards 78 = .ok (.iconst (-1), 1) := by decide +kernel
theorem dX7_laggards_79 : decode cX7_laggards 79 = .ok (.ireturn, 1) := by decide +kernel
set_option maxRecDepth 20000 in
theorem ggX7_horses_X7_isOutOfDay : GoodIn wsX7_horses wsX7_isOutOfDay := goodIn_r _ [10, 11, 12, 9, 13] (by decide +kernel) (by decide +kernel)
set_option maxRecDepth 20000 in
theorem gX7_horses_X7_isOutOfDay : GoodIn wsX7_horses (va_wsS RX7 178 yX7_isOutOfDay wsX7_isOutOfDay) := goodIn_app (goodIn_of _ (by decide +kernel)) ggX7_horses_X7_isOutOfDay
set_option maxRecDepth 20000 in
theorem ggX7_horses_X0_laggardsTold : GoodIn wsX7_horses wsX0_laggardsTold := goodIn_r _ [18, 19, 71] (by decide +kernel) (by decide +kernel)
set_option maxRecDepth 20000 in
theorem gX7_horses_X0_laggardsTold : GoodIn wsX7_horses (wsV RX7 131 RX0 yX0_laggardsTold wsX0_laggardsTold) := goodIn_app (goodIn_of _ (by decide +kernel)) ggX7_horses_X0_laggardsTold
set_option maxRecDepth 20000 in
theorem ggX7_horses_X0_swayBy : GoodIn wsX7_horses wsX0_swayBy := goodIn_r _ [23, 19, 24, 25, 26, 27, 28, 29, 30, 71] (by decide +kernel) (by decide +kernel)
set_option maxRecDepth 20000 in
theorem gX7_horses_X0_swayBy : GoodIn wsX7_horses (wsV RX7 135 RX0 yX0_swayBy wsX0_swayBy) := goodIn_app (goodIn_of _ (by decide +kernel)) ggX7_horses_X0_swayBy
set_option maxRecDepth 20000 in
theorem ggX7_horses_X0_forceOf : GoodIn wsX7_horses wsX0_forceOf := goodIn_r _ [33] (by decide +kernel) (by decide +kernel)
set_option maxRecDepth 20000 in
theorem gX7_horses_X0_forceOf : GoodIn wsX7_horses (va_wsS RX7 204 yX0_forceOf wsX0_forceOf) := goodIn_app (goodIn_of _ (by decide +kernel)) ggX7_horses_X0_forceOf
set_option maxRecDepth 20000 in
theorem ggX7_horses_X0_axeMinutes : GoodIn wsX7_horses wsX0_axeMinutes := goodIn_r _ [37, 19, 71] (by decide +kernel) (by decide +kernel)
set_option maxRecDepth 20000 in
theorem gX7_horses_X0_axeMinutes : GoodIn wsX7_horses (wsV RX7 207 RX0 yX0_axeMinutes wsX0_axeMinutes) := goodIn_app (goodIn_of _ (by decide +kernel)) ggX7_horses_X0_axeMinutes
set_option maxRecDepth 20000 in
theorem ggX7_horses_X4_passes : GoodIn wsX7_horses wsX4_passes := goodIn_r _ [42, 43, 44, 45, 46, 47, 41, 48, 49, 50, 51, 52, 53, 54, 55, 56, 72, 73, 74, 75, 76, 77, 78, 79, 80] (by decide +kernel) (by decide +kernel)
set_option maxRecDepth 20000 in
theorem gX7_horses_X4_passes : GoodIn wsX7_horses (wsV RX7 210 RX4 yX4_passes wsX4_passes) := goodIn_app (goodIn_of _ (by decide +kernel)) ggX7_horses_X4_passes
theorem dX7_horses_0 : decode cX7_horses 0 = .ok (.iload_n 1, 1) := by decide +kernel
theorem dX7_horses_1 : decode cX7_horses 1 = .ok (.invokestatic 178, 3) := by decide +kernel
theorem dX7_horses_4 : decode cX7_horses 4 = .ok (.ifCond .eq 6, 3) := by decide +kernel
theorem dX7_horses_7 : decode cX7_horses 7 = .ok (.ldc 74, 2) := by decide +kernel
theorem dX7_horses_9 : decode cX7_horses 9 = .ok (.ireturn, 1) := by decide +kernel
theorem dX7_horses_10 : decode cX7_horses 10 = .ok (.aload_n 0, 1) := by decide +kernel
theorem dX7_horses_11 : decode cX7_horses 11 = .ok (.getfield 19, 3) := by decide +kernel
theorem dX7_horses_14 : decode cX7_horses 14 = .ok (.aload_n 0, 1) := by decide +kernel
theorem dX7_horses_15 : decode cX7_horses 15 = .ok (.getfield 26, 3) := by decide +kernel
theorem dX7_horses_18 : decode cX7_horses 18 = .ok (.getfield 128, 3) := by decide +kernel
theorem dX7_horses_21 : decode cX7_horses 21 = .ok (.aload_n 0, 1) := by decide +kernel
theorem dX7_horses_22 : decode cX7_horses 22 = .ok (.getfield 19, 3) := by decide +kernel
theorem dX7_horses_25 : decode cX7_horses 25 = .ok (.invokevirtual 131, 3) := by decide +kernel
theorem dX7_horses_28 : decode cX7_horses 28 = .ok (.invokevirtual 135, 3) := by decide +kernel
theorem dX7_horses_31 : decode cX7_horses 31 = .ok (.istore_n 2, 1) := by decide +kernel
theorem dX7_horses_32 : decode cX7_horses 32 = .ok (.iconst 1, 1) := by decide +kernel
theorem dX7_horses_33 : decode cX7_horses 33 = .ok (.istore_n 3, 1) := by decide +kernel
theorem dX7_horses_34 : decode cX7_horses 34 = .ok (.iload_n 3, 1) := by decide +kernel
theorem dX7_horses_35 : decode cX7_horses 35 = .ok (.bipush 12, 2) := by decide +kernel
theorem dX7_horses_37 : decode cX7_horses 37 = .ok (.if_icmp .gt 41, 3) := by decide +kernel
theorem dX7_horses_40 : decode cX7_horses 40 = .ok (.aload_n 0, 1) := by decide +kernel
theorem dX7_horses_41 : decode cX7_horses 41 = .ok (.getfield 48, 3) := by decide +kernel
theorem dX7_horses_44 : decode cX7_horses 44 = .ok (.aload_n 0, 1) := by decide +kernel
theorem dX7_horses_45 : decode cX7_horses 45 = .ok (.getfield 26, 3) := by decide +kernel
theorem dX7_horses_48 : decode cX7_horses 48 = .ok (.getfield 118, 3) := by decide +kernel
theorem dX7_horses_51 : decode cX7_horses 51 = .ok (.iload_n 3, 1) := by decide +kernel
theorem dX7_horses_52 : decode cX7_horses 52 = .ok (.iload_n 2, 1) := by decide +kernel
theorem dX7_horses_53 : decode cX7_horses 53 = .ok (.invokestatic 204, 3) := by decide +kernel
theorem dX7_horses_56 : decode cX7_horses 56 = .ok (.aload_n 0, 1) := by decide +kernel
theorem dX7_horses_57 : decode cX7_horses 57 = .ok (.getfield 19, 3) := by decide +kernel
theorem dX7_horses_60 : decode cX7_horses 60 = .ok (.invokevirtual 207, 3) := by decide +kernel
theorem dX7_horses_63 : decode cX7_horses 63 = .ok (.iload_n 1, 1) := by decide +kernel
theorem dX7_horses_64 : decode cX7_horses 64 = .ok (.invokevirtual 210, 3) := by decide +kernel
theorem dX7_horses_67 : decode cX7_horses 67 = .ok (.ifCond .eq 5, 3) := by decide +kernel
theorem dX7_horses_70 : decode cX7_horses 70 = .ok (.iload_n 3, 1) := by decide +kernel
theorem dX7_horses_71 : decode cX7_horses 71 = .ok (.ireturn, 1) := by decide +kernel
theorem dX7_horses_72 : decode cX7_horses 72 = .ok (.iinc 3 1, 3) := by decide +kernel
theorem dX7_horses_75 : decode cX7_horses 75 = .ok (.goto (-41), 3) := by decide +kernel
theorem dX7_horses_78 : decode cX7_horses 78 = .ok (.iconst (-1), 1) := by decide +kernel
theorem dX7_horses_79 : decode cX7_horses 79 = .ok (.ireturn, 1) := by decide +kernel
set_option maxRecDepth 20000 in
theorem ggX7_string_X7_isOutOfDay : GoodIn wsX7_string wsX7_isOutOfDay := goodIn_r _ [8, 9, 10, 7, 11] (by decide +kernel) (by decide +kernel)
set_option maxRecDepth 20000 in
theorem gX7_string_X7_isOutOfDay : GoodIn wsX7_string (va_wsS RX7 178 yX7_isOutOfDay wsX7_isOutOfDay) := goodIn_app (goodIn_of _ (by decide +kernel)) ggX7_string_X7_isOutOfDay
set_option maxRecDepth 20000 in
theorem ggX7_string_X7_isOut : GoodIn wsX7_string wsX7_isOut := goodIn_r _ [11] (by decide +kernel) (by decide +kernel)
set_option maxRecDepth 20000 in
theorem gX7_string_X7_isOut : GoodIn wsX7_string (va_wsS RX7 70 yX7_isOut wsX7_isOut) := goodIn_app (goodIn_of _ (by decide +kernel)) ggX7_string_X7_isOut
set_option maxRecDepth 20000 in
theorem ggX7_string_X7_goFromNow : GoodIn wsX7_string wsX7_goFromNow := goodIn_r _ [15, 2, 16, 17, 4, 18, 19, 20, 7, 21, 22, 23, 24, 25, 26, 27, 28, 29, 30, 31, 32, 33, 34, 35, 36, 37, 38, 39, 40, 41, 42, 43, 44, 45, 46, 47, 48, 49, 50, 51, 52, 53, 54, 55, 56, 57, 58, 59, 60, 61, 62, 63, 64, 65, 66, 67, 68, 69, 74, 75, 76, 77, 78, 79, 80, 81, 82, 83, 88, 89, 90, 91, 92, 84, 85, 86, 87, 93, 94, 95, 96, 97] (by decide +kernel) (by decide +kernel)
set_option maxRecDepth 20000 in
theorem gX7_string_X7_goFromNow : GoodIn wsX7_string (wsV RX7 182 RX7 yX7_goFromNow wsX7_goFromNow) := goodIn_app (goodIn_of _ (by decide +kernel)) ggX7_string_X7_goFromNow
set_option maxRecDepth 20000 in
theorem ggX7_string_X0_gapMinutes : GoodIn wsX7_string wsX0_gapMinutes := goodIn_r _ [73, 32, 92] (by decide +kernel) (by decide +kernel)
set_option maxRecDepth 20000 in
theorem gX7_string_X0_gapMinutes : GoodIn wsX7_string (wsV RX7 217 RX0 yX0_gapMinutes wsX0_gapMinutes) := goodIn_app (goodIn_of _ (by decide +kernel)) ggX7_string_X0_gapMinutes
theorem dX7_string_0 : decode cX7_string 0 = .ok (.iload_n 1, 1) := by decide +kernel
theorem dX7_string_1 : decode cX7_string 1 = .ok (.invokestatic 178, 3) := by decide +kernel
theorem dX7_string_4 : decode cX7_string 4 = .ok (.ifCond .ne 13, 3) := by decide +kernel
theorem dX7_string_7 : decode cX7_string 7 = .ok (.iload_n 2, 1) := by decide +kernel
theorem dX7_string_8 : decode cX7_string 8 = .ok (.iconst 1, 1) := by decide +kernel
theorem dX7_string_9 : decode cX7_string 9 = .ok (.bipush 99, 2) := by decide +kernel
theorem dX7_string_11 : decode cX7_string 11 = .ok (.invokestatic 70, 3) := by decide +kernel
theorem dX7_string_14 : decode cX7_string 14 = .ok (.ifCond .eq 6, 3) := by decide +kernel
theorem dX7_string_17 : decode cX7_string 17 = .ok (.ldc 74, 2) := by decide +kernel
theorem dX7_string_19 : decode cX7_string 19 = .ok (.ireturn, 1) := by decide +kernel
theorem dX7_string_20 : decode cX7_string 20 = .ok (.aload_n 0, 1) := by decide +kernel
theorem dX7_string_21 : decode cX7_string 21 = .ok (.iload_n 1, 1) := by decide +kernel
theorem dX7_string_22 : decode cX7_string 22 = .ok (.invokevirtual 182, 3) := by decide +kernel
theorem dX7_string_25 : decode cX7_string 25 = .ok (.aload_n 0, 1) := by decide +kernel
theorem dX7_string_26 : decode cX7_string 26 = .ok (.getfield 48, 3) := by decide +kernel
theorem dX7_string_29 : decode cX7_string 29 = .ok (.getfield 214, 3) := by decide +kernel
theorem dX7_string_32 : decode cX7_string 32 = .ok (.iconst (-1), 1) := by decide +kernel
theorem dX7_string_33 : decode cX7_string 33 = .ok (.if_icmp .ne 5, 3) := by decide +kernel
theorem dX7_string_36 : decode cX7_string 36 = .ok (.iconst (-1), 1) := by decide +kernel
theorem dX7_string_37 : decode cX7_string 37 = .ok (.ireturn, 1) := by decide +kernel
theorem dX7_string_38 : decode cX7_string 38 = .ok (.aload_n 0, 1) := by decide +kernel
theorem dX7_string_39 : decode cX7_string 39 = .ok (.getfield 19, 3) := by decide +kernel
theorem dX7_string_42 : decode cX7_string 42 = .ok (.invokevirtual 217, 3) := by decide +kernel
theorem dX7_string_45 : decode cX7_string 45 = .ok (.iconst 1, 1) := by decide +kernel
theorem dX7_string_46 : decode cX7_string 46 = .ok (.isub, 1) := by decide +kernel
theorem dX7_string_47 : decode cX7_string 47 = .ok (.iload_n 2, 1) := by decide +kernel
theorem dX7_string_48 : decode cX7_string 48 = .ok (.idiv, 1) := by decide +kernel
theorem dX7_string_49 : decode cX7_string 49 = .ok (.ireturn, 1) := by decide +kernel
set_option maxRecDepth 20000 in
theorem ggX7_turn_X7_isOutOfDay : GoodIn wsX7_turn wsX7_isOutOfDay := goodIn_r _ [7, 8, 9, 6, 10] (by decide +kernel) (by decide +kernel)
set_option maxRecDepth 20000 in
theorem gX7_turn_X7_isOutOfDay : GoodIn wsX7_turn (va_wsS RX7 178 yX7_isOutOfDay wsX7_isOutOfDay) := goodIn_app (goodIn_of _ (by decide +kernel)) ggX7_turn_X7_isOutOfDay
set_option maxRecDepth 20000 in
theorem ggX7_turn_X7_goFromNow : GoodIn wsX7_turn wsX7_goFromNow := goodIn_r _ [14, 2, 15, 16, 3, 17, 18, 19, 6, 20, 21, 22, 23, 24, 25, 26, 27, 28, 29, 30, 31, 32, 33, 34, 35, 36, 37, 38, 39, 40, 41, 42, 43, 44, 45, 46, 47, 48, 49, 50, 51, 52, 53, 54, 55, 56, 57, 58, 59, 60, 61, 62, 63, 64, 65, 66, 67, 68, 81, 82, 83, 84, 85, 86, 87, 88, 89, 90, 91, 92, 93, 94, 95, 96, 97, 98, 99, 100, 101, 102, 103, 104] (by decide +kernel) (by decide +kernel)
set_option maxRecDepth 20000 in
theorem gX7_turn_X7_goFromNow : GoodIn wsX7_turn (wsV RX7 182 RX7 yX7_goFromNow wsX7_goFromNow) := goodIn_app (goodIn_of _ (by decide +kernel)) ggX7_turn_X7_goFromNow
set_option maxRecDepth 20000 in
theorem ggX7_turn_X0_gapMinutes : GoodIn wsX7_turn wsX0_gapMinutes := goodIn_r _ [72, 31, 95] (by decide +kernel) (by decide +kernel)
set_option maxRecDepth 20000 in
theorem gX7_turn_X0_gapMinutes : GoodIn wsX7_turn (wsV RX7 217 RX0 yX0_gapMinutes wsX0_gapMinutes) := goodIn_app (goodIn_of _ (by decide +kernel)) ggX7_turn_X0_gapMinutes
set_option maxRecDepth 20000 in
theorem ggX7_turn_X4_furthestTurn : GoodIn wsX7_turn wsX4_furthestTurn := goodIn_r _ [76, 59, 65, 77, 78, 79, 57, 80, 61, 96, 97, 98, 99] (by decide +kernel) (by decide +kernel)
set_option maxRecDepth 20000 in
theorem gX7_turn_X4_furthestTurn : GoodIn wsX7_turn (wsV RX7 220 RX4 yX4_furthestTurn wsX4_furthestTurn) := goodIn_app (goodIn_of _ (by decide +kernel)) ggX7_turn_X4_furthestTurn
theorem dX7_turn_0 : decode cX7_turn 0 = .ok (.iload_n 1, 1) := by decide +kernel
theorem dX7_turn_1 : decode cX7_turn 1 = .ok (.invokestatic 178, 3) := by decide +kernel
theorem dX7_turn_4 : decode cX7_turn 4 = .ok (.ifCond .eq 6, 3) := by decide +kernel
theorem dX7_turn_7 : decode cX7_turn 7 = .ok (.ldc 74, 2) := by decide +kernel
theorem dX7_turn_9 : decode cX7_turn 9 = .ok (.ireturn, 1) := by decide +kernel
theorem dX7_turn_10 : decode cX7_turn 10 = .ok (.aload_n 0, 1) := by decide +kernel
theorem dX7_turn_11 : decode cX7_turn 11 = .ok (.iload_n 1, 1) := by decide +kernel
theorem dX7_turn_12 : decode cX7_turn 12 = .ok (.invokevirtual 182, 3) := by decide +kernel
theorem dX7_turn_15 : decode cX7_turn 15 = .ok (.aload_n 0, 1) := by decide +kernel
theorem dX7_turn_16 : decode cX7_turn 16 = .ok (.getfield 48, 3) := by decide +kernel
theorem dX7_turn_19 : decode cX7_turn 19 = .ok (.iload_n 1, 1) := by decide +kernel
theorem dX7_turn_20 : decode cX7_turn 20 = .ok (.aload_n 0, 1) := by decide +kernel
theorem dX7_turn_21 : decode cX7_turn 21 = .ok (.getfield 19, 3) := by decide +kernel
theorem dX7_turn_24 : decode cX7_turn 24 = .ok (.invokevirtual 217, 3) := by decide +kernel
theorem dX7_turn_27 : decode cX7_turn 27 = .ok (.invokevirtual 220, 3) := by decide +kernel
theorem dX7_turn_30 : decode cX7_turn 30 = .ok (.ireturn, 1) := by decide +kernel
set_option maxRecDepth 20000 in
theorem ggX7_plan_X7_isOut : GoodIn wsX7_plan wsX7_isOut := goodIn_r _ [13] (by decide +kernel) (by decide +kernel)
set_option maxRecDepth 20000 in
theorem gX7_plan_X7_isOut : GoodIn wsX7_plan (va_wsS RX7 70 yX7_isOut wsX7_isOut) := goodIn_app (goodIn_of _ (by decide +kernel)) ggX7_plan_X7_isOut
set_option maxRecDepth 20000 in
theorem ggX7_plan_X7_isOutOfDay : GoodIn wsX7_plan wsX7_isOutOfDay := goodIn_r _ [16, 10, 11, 12, 13] (by decide +kernel) (by decide +kernel)
set_option maxRecDepth 20000 in
theorem gX7_plan_X7_isOutOfDay : GoodIn wsX7_plan (va_wsS RX7 178 yX7_isOutOfDay wsX7_isOutOfDay) := goodIn_app (goodIn_of _ (by decide +kernel)) ggX7_plan_X7_isOutOfDay
set_option maxRecDepth 20000 in
theorem ggX7_plan_X2_start : GoodIn wsX7_plan wsX2_start := goodIn_r _ [21, 22, 23, 24, 25, 26, 27, 28, 29, 30, 31, 32, 33, 34, 35, 36, 37, 38, 39, 40, 41, 42, 43, 44, 45, 46, 47, 48, 49, 50, 51, 52, 53, 54, 55, 56, 57, 58, 59, 60, 61, 62, 63, 64, 65, 66, 67, 68, 69, 70, 71, 72, 73, 172, 173, 174, 175, 176, 177, 178, 179, 180, 181, 182, 183, 184, 185, 163, 164, 165, 166, 167, 168, 169, 170, 171, 186] (by decide +kernel) (by decide +kernel)
set_option maxRecDepth 20000 in
theorem gX7_plan_X2_start : GoodIn wsX7_plan (wsV RX7 223 RX2 yX2_start wsX2_start) := goodIn_app (goodIn_of _ (by decide +kernel)) ggX7_plan_X2_start
set_option maxRecDepth 20000 in
theorem ggX7_plan_X2_findPlan : GoodIn wsX7_plan wsX2_findPlan := goodIn_r _ [77, 78, 79, 80, 81, 82, 83, 84, 85, 86, 87, 46, 88, 52, 89, 90, 91, 92, 93, 94, 95, 96, 97, 98, 99, 20, 100, 28, 101, 62, 26, 63, 22, 102, 31, 32, 29, 103, 104, 105, 106, 107, 33, 34, 35, 36, 37, 38, 39, 40, 41, 42, 108, 109, 110, 111, 112, 113, 114, 115, 116, 117, 118, 119, 120, 121, 122, 123, 124, 125, 126, 25, 27, 127, 128, 129, 130, 131, 132, 133, 134, 135, 136, 137, 138, 139, 140, 141, 142, 143, 144, 145, 146, 147, 148, 149, 150, 151, 152, 172, 173, 174, 175, 176, 177, 178, 179, 180, 181, 182, 183, 184, 185, 186, 187, 188, 189, 190, 167, 168, 169, 170, 171] (by decide +kernel) (by decide +kernel)
set_option maxRecDepth 20000 in
theorem gX7_plan_X2_findPlan : GoodIn wsX7_plan (wsV RX7 227 RX2 yX2_findPlan wsX2_findPlan) := goodIn_app (goodIn_of _ (by decide +kernel)) ggX7_plan_X2_findPlan
theorem dX7_plan_0 : decode cX7_plan 0 = .ok (.iload_n 1, 1) := by decide +kernel
theorem dX7_plan_1 : decode cX7_plan 1 = .ok (.iconst 1, 1) := by decide +kernel
theorem dX7_plan_2 : decode cX7_plan 2 = .ok (.bipush 8, 2) := by decide +kernel
theorem dX7_plan_4 : decode cX7_plan 4 = .ok (.invokestatic 70, 3) := by decide +kernel
theorem dX7_plan_7 : decode cX7_plan 7 = .ok (.ifCond .ne 30, 3) := by decide +kernel
theorem dX7_plan_10 : decode cX7_plan 10 = .ok (.iload_n 2, 1) := by decide +kernel
theorem dX7_plan_11 : decode cX7_plan 11 = .ok (.invokestatic 178, 3) := by decide +kernel
theorem dX7_plan_14 : decode cX7_plan 14 = .ok (.ifCond .ne 23, 3) := by decide +kernel
theorem dX7_plan_17 : decode cX7_plan 17 = .ok (.iload_n 3, 1) := by decide +kernel
theorem dX7_plan_18 : decode cX7_plan 18 = .ok (.iconst 0, 1) := by decide +kernel
theorem dX7_plan_19 : decode cX7_plan 19 = .ok (.bipush 30, 2) := by decide +kernel
theorem dX7_plan_21 : decode cX7_plan 21 = .ok (.invokestatic 70, 3) := by decide +kernel
theorem dX7_plan_24 : decode cX7_plan 24 = .ok (.ifCond .ne 13, 3) := by decide +kernel
theorem dX7_plan_27 : decode cX7_plan 27 = .ok (.iload 4, 2) := by decide +kernel
theorem dX7_plan_29 : decode cX7_plan 29 = .ok (.iconst 0, 1) := by decide +kernel
theorem dX7_plan_30 : decode cX7_plan 30 = .ok (.iconst 1, 1) := by decide +kernel
theorem dX7_plan_31 : decode cX7_plan 31 = .ok (.invokestatic 70, 3) := by decide +kernel
theorem dX7_plan_34 : decode cX7_plan 34 = .ok (.ifCond .eq 6, 3) := by decide +kernel
theorem dX7_plan_37 : decode cX7_plan 37 = .ok (.ldc 74, 2) := by decide +kernel
theorem dX7_plan_39 : decode cX7_plan 39 = .ok (.ireturn, 1) := by decide +kernel
theorem dX7_plan_40 : decode cX7_plan 40 = .ok (.aload_n 0, 1) := by decide +kernel
theorem dX7_plan_41 : decode cX7_plan 41 = .ok (.getfield 26, 3) := by decide +kernel
theorem dX7_plan_44 : decode cX7_plan 44 = .ok (.getfield 118, 3) := by decide +kernel
theorem dX7_plan_47 : decode cX7_plan 47 = .ok (.getfield 121, 3) := by decide +kernel
theorem dX7_plan_50 : decode cX7_plan 50 = .ok (.ifCond .ne 6, 3) := by decide +kernel
theorem dX7_plan_53 : decode cX7_plan 53 = .ok (.ldc 181, 2) := by decide +kernel
theorem dX7_plan_55 : decode cX7_plan 55 = .ok (.ireturn, 1) := by decide +kernel
theorem dX7_plan_56 : decode cX7_plan 56 = .ok (.aload_n 0, 1) := by decide +kernel
theorem dX7_plan_57 : decode cX7_plan 57 = .ok (.getfield 62, 3) := by decide +kernel
theorem dX7_plan_60 : decode cX7_plan 60 = .ok (.aload_n 0, 1) := by decide +kernel
theorem dX7_plan_61 : decode cX7_plan 61 = .ok (.getfield 26, 3) := by decide +kernel
theorem dX7_plan_64 : decode cX7_plan 64 = .ok (.aload_n 0, 1) := by decide +kernel
theorem dX7_plan_65 : decode cX7_plan 65 = .ok (.getfield 19, 3) := by decide +kernel
theorem dX7_plan_68 : decode cX7_plan 68 = .ok (.iload_n 1, 1) := by decide +kernel
theorem dX7_plan_69 : decode cX7_plan 69 = .ok (.iload_n 2, 1) := by decide +kernel
theorem dX7_plan_70 : decode cX7_plan 70 = .ok (.invokevirtual 223, 3) := by decide +kernel
theorem dX7_plan_73 : decode cX7_plan 73 = .ok (.aload_n 0, 1) := by decide +kernel
theorem dX7_plan_74 : decode cX7_plan 74 = .ok (.getfield 62, 3) := by decide +kernel
theorem dX7_plan_77 : decode cX7_plan 77 = .ok (.aload_n 0, 1) := by decide +kernel
theorem dX7_plan_78 : decode cX7_plan 78 = .ok (.getfield 19, 3) := by decide +kernel
theorem dX7_plan_81 : decode cX7_plan 81 = .ok (.iload_n 3, 1) := by decide +kernel
theorem dX7_plan_82 : decode cX7_plan 82 = .ok (.invokevirtual 227, 3) := by decide +kernel
theorem dX7_plan_85 : decode cX7_plan 85 = .ok (.iload 4, 2) := by decide +kernel
theorem dX7_plan_87 : decode cX7_plan 87 = .ok (.ifCond .ne 13, 3) := by decide +kernel
theorem dX7_plan_90 : decode cX7_plan 90 = .ok (.aload_n 0, 1) := by decide +kernel
theorem dX7_plan_91 : decode cX7_plan 91 = .ok (.getfield 62, 3) := by decide +kernel
theorem dX7_plan_94 : decode cX7_plan 94 = .ok (.getfield 231, 3) := by decide +kernel
theorem dX7_plan_97 : decode cX7_plan 97 = .ok (.goto 10, 3) := by decide +kernel
theorem dX7_plan_100 : decode cX7_plan 100 = .ok (.aload_n 0, 1) := by decide +kernel
theorem dX7_plan_101 : decode cX7_plan 101 = .ok (.getfield 62, 3) := by decide +kernel
theorem dX7_plan_104 : decode cX7_plan 104 = .ok (.getfield 234, 3) := by decide +kernel
theorem dX7_plan_107 : decode cX7_plan 107 = .ok (.ireturn, 1) := by decide +kernel
set_option maxRecDepth 20000 in
theorem ggX7_lost_X7_isOut : GoodIn wsX7_lost wsX7_isOut := goodIn_r _ [10] (by decide +kernel) (by decide +kernel)
set_option maxRecDepth 20000 in
theorem gX7_lost_X7_isOut : GoodIn wsX7_lost (va_wsS RX7 70 yX7_isOut wsX7_isOut) := goodIn_app (goodIn_of _ (by decide +kernel)) ggX7_lost_X7_isOut
set_option maxRecDepth 20000 in
theorem ggX7_lost_X7_isOutOfDay : GoodIn wsX7_lost wsX7_isOutOfDay := goodIn_r _ [13, 7, 8, 9, 10] (by decide +kernel) (by decide +kernel)
set_option maxRecDepth 20000 in
theorem gX7_lost_X7_isOutOfDay : GoodIn wsX7_lost (va_wsS RX7 178 yX7_isOutOfDay wsX7_isOutOfDay) := goodIn_app (goodIn_of _ (by decide +kernel)) ggX7_lost_X7_isOutOfDay
set_option maxRecDepth 20000 in
theorem ggX7_lost_X7_forceNow : GoodIn wsX7_lost wsX7_forceNow := goodIn_r _ [17, 6, 3, 18, 19, 20, 21, 22, 23, 24, 25, 26, 27, 28, 29, 30, 31, 32, 33, 34, 35, 36, 37, 38, 39, 40, 41, 42, 43, 44, 45, 46, 104, 105, 106, 107, 108, 109, 110, 111, 112, 113, 114, 115, 116, 117, 118] (by decide +kernel) (by decide +kernel)
set_option maxRecDepth 20000 in
theorem gX7_lost_X7_forceNow : GoodIn wsX7_lost (wsV RX7 139 RX7 yX7_forceNow wsX7_forceNow) := goodIn_app (goodIn_of _ (by decide +kernel)) ggX7_lost_X7_forceNow
set_option maxRecDepth 20000 in
theorem ggX7_lost_X6_copyFrom : GoodIn wsX7_lost wsX6_copyFrom := goodIn_r _ [51, 52, 53, 54, 55, 56, 119, 120, 121, 122, 123] (by decide +kernel) (by decide +kernel)
set_option maxRecDepth 20000 in
theorem gX7_lost_X6_copyFrom : GoodIn wsX7_lost (wsV RX7 237 RX6 yX6_copyFrom wsX6_copyFrom) := goodIn_app (goodIn_of _ (by decide +kernel)) ggX7_lost_X6_copyFrom
set_option maxRecDepth 20000 in
theorem ggX7_lost_X6_freeze : GoodIn wsX7_lost wsX6_freeze := goodIn_r _ [60, 52, 55, 54, 61, 62, 63, 50, 64, 53, 56, 65, 66, 67, 68, 69, 70, 71, 72, 73, 74, 75, 76, 39, 77, 78, 79, 80, 119, 120, 121, 122, 123] (by decide +kernel) (by decide +kernel)
set_option maxRecDepth 20000 in
theorem gX7_lost_X6_freeze : GoodIn wsX7_lost (wsV RX7 241 RX6 yX6_freeze wsX6_freeze) := goodIn_app (goodIn_of _ (by decide +kernel)) ggX7_lost_X6_freeze
set_option maxRecDepth 20000 in
theorem ggX7_lost_X0_axeMinutes : GoodIn wsX7_lost wsX0_axeMinutes := goodIn_r _ [84, 28, 118] (by decide +kernel) (by decide +kernel)
set_option maxRecDepth 20000 in
theorem gX7_lost_X0_axeMinutes : GoodIn wsX7_lost (wsV RX7 207 RX0 yX0_axeMinutes wsX0_axeMinutes) := goodIn_app (goodIn_of _ (by decide +kernel)) ggX7_lost_X0_axeMinutes
set_option maxRecDepth 20000 in
theorem ggX7_lost_X4_passes : GoodIn wsX7_lost wsX4_passes := goodIn_r _ [89, 90, 91, 92, 93, 94, 88, 95, 96, 97, 98, 99, 100, 101, 102, 103, 124, 125, 126, 127, 119, 120, 121, 122, 123] (by decide +kernel) (by decide +kernel)
set_option maxRecDepth 20000 in
theorem gX7_lost_X4_passes : GoodIn wsX7_lost (wsV RX7 210 RX4 yX4_passes wsX4_passes) := goodIn_app (goodIn_of _ (by decide +kernel)) ggX7_lost_X4_passes
theorem dX7_lost_0 : decode cX7_lost 0 = .ok (.iload_n 1, 1) := by decide +kernel
theorem dX7_lost_1 : decode cX7_lost 1 = .ok (.iconst 0, 1) := by decide +kernel
theorem dX7_lost_2 : decode cX7_lost 2 = .ok (.bipush 30, 2) := by decide +kernel
theorem dX7_lost_4 : decode cX7_lost 4 = .ok (.invokestatic 70, 3) := by decide +kernel
theorem dX7_lost_7 : decode cX7_lost 7 = .ok (.ifCond .ne 10, 3) := by decide +kernel
theorem dX7_lost_10 : decode cX7_lost 10 = .ok (.iload_n 2, 1) := by decide +kernel
theorem dX7_lost_11 : decode cX7_lost 11 = .ok (.invokestatic 178, 3) := by decide +kernel
theorem dX7_lost_14 : decode cX7_lost 14 = .ok (.ifCond .eq 6, 3) := by decide +kernel
theorem dX7_lost_17 : decode cX7_lost 17 = .ok (.ldc 74, 2) := by decide +kernel
theorem dX7_lost_19 : decode cX7_lost 19 = .ok (.ireturn, 1) := by decide +kernel
theorem dX7_lost_20 : decode cX7_lost 20 = .ok (.aload_n 0, 1) := by decide +kernel
theorem dX7_lost_21 : decode cX7_lost 21 = .ok (.invokevirtual 139, 3) := by decide +kernel
theorem dX7_lost_24 : decode cX7_lost 24 = .ok (.istore_n 3, 1) := by decide +kernel
theorem dX7_lost_25 : decode cX7_lost 25 = .ok (.aload_n 0, 1) := by decide +kernel
theorem dX7_lost_26 : decode cX7_lost 26 = .ok (.getfield 55, 3) := by decide +kernel
theorem dX7_lost_29 : decode cX7_lost 29 = .ok (.aload_n 0, 1) := by decide +kernel
theorem dX7_lost_30 : decode cX7_lost 30 = .ok (.getfield 26, 3) := by decide +kernel
theorem dX7_lost_33 : decode cX7_lost 33 = .ok (.getfield 118, 3) := by decide +kernel
theorem dX7_lost_36 : decode cX7_lost 36 = .ok (.invokevirtual 237, 3) := by decide +kernel
theorem dX7_lost_39 : decode cX7_lost 39 = .ok (.iconst 0, 1) := by decide +kernel
theorem dX7_lost_40 : decode cX7_lost 40 = .ok (.istore 4, 2) := by decide +kernel
theorem dX7_lost_42 : decode cX7_lost 42 = .ok (.iload 4, 2) := by decide +kernel
theorem dX7_lost_44 : decode cX7_lost 44 = .ok (.bipush 60, 2) := by decide +kernel
theorem dX7_lost_46 : decode cX7_lost 46 = .ok (.if_icmp .gt 48, 3) := by decide +kernel
theorem dX7_lost_49 : decode cX7_lost 49 = .ok (.iload 4, 2) := by decide +kernel
theorem dX7_lost_51 : decode cX7_lost 51 = .ok (.ifCond .le 11, 3) := by decide +kernel
theorem dX7_lost_54 : decode cX7_lost 54 = .ok (.aload_n 0, 1) := by decide +kernel
theorem dX7_lost_55 : decode cX7_lost 55 = .ok (.getfield 55, 3) := by decide +kernel
theorem dX7_lost_58 : decode cX7_lost 58 = .ok (.iload_n 1, 1) := by decide +kernel
theorem dX7_lost_59 : decode cX7_lost 59 = .ok (.invokevirtual 241, 3) := by decide +kernel
theorem dX7_lost_62 : decode cX7_lost 62 = .ok (.aload_n 0, 1) := by decide +kernel
theorem dX7_lost_63 : decode cX7_lost 63 = .ok (.getfield 48, 3) := by decide +kernel
theorem dX7_lost_66 : decode cX7_lost 66 = .ok (.aload_n 0, 1) := by decide +kernel
theorem dX7_lost_67 : decode cX7_lost 67 = .ok (.getfield 55, 3) := by decide +kernel
theorem dX7_lost_70 : decode cX7_lost 70 = .ok (.iload_n 3, 1) := by decide +kernel
theorem dX7_lost_71 : decode cX7_lost 71 = .ok (.aload_n 0, 1) := by decide +kernel
theorem dX7_lost_72 : decode cX7_lost 72 = .ok (.getfield 19, 3) := by decide +kernel
theorem dX7_lost_75 : decode cX7_lost 75 = .ok (.invokevirtual 207, 3) := by decide +kernel
theorem dX7_lost_78 : decode cX7_lost 78 = .ok (.iload_n 2, 1) := by decide +kernel
theorem dX7_lost_79 : decode cX7_lost 79 = .ok (.invokevirtual 210, 3) := by decide +kernel
theorem dX7_lost_82 : decode cX7_lost 82 = .ok (.ifCond .ne 6, 3) := by decide +kernel
theorem dX7_lost_85 : decode cX7_lost 85 = .ok (.iload 4, 2) := by decide +kernel
theorem dX7_lost_87 : decode cX7_lost 87 = .ok (.ireturn, 1) := by decide +kernel
theorem dX7_lost_88 : decode cX7_lost 88 = .ok (.iinc 4 1, 3) := by decide +kernel
theorem dX7_lost_91 : decode cX7_lost 91 = .ok (.goto (-49), 3) := by decide +kernel
theorem dX7_lost_94 : decode cX7_lost 94 = .ok (.iconst (-1), 1) := by decide +kernel
theorem dX7_lost_95 : decode cX7_lost 95 = .ok (.ireturn, 1) := by decide +kernel
set_option maxRecDepth 20000 in
theorem ggX7_odds_X7_isOut : GoodIn wsX7_odds wsX7_isOut := goodIn_r _ [8] (by decide +kernel) (by decide +kernel)
set_option maxRecDepth 20000 in
theorem gX7_odds_X7_isOut : GoodIn wsX7_odds (va_wsS RX7 70 yX7_isOut wsX7_isOut) := goodIn_app (goodIn_of _ (by decide +kernel)) ggX7_odds_X7_isOut
set_option maxRecDepth 20000 in
theorem ggX7_odds_X7_isOutOfDay : GoodIn wsX7_odds wsX7_isOutOfDay := goodIn_r _ [11, 5, 6, 7, 8] (by decide +kernel) (by decide +kernel)
set_option maxRecDepth 20000 in
theorem gX7_odds_X7_isOutOfDay : GoodIn wsX7_odds (va_wsS RX7 178 yX7_isOutOfDay wsX7_isOutOfDay) := goodIn_app (goodIn_of _ (by decide +kernel)) ggX7_odds_X7_isOutOfDay
set_option maxRecDepth 20000 in
theorem ggX7_odds_X2_start : GoodIn wsX7_odds wsX2_start := goodIn_r _ [16, 17, 18, 19, 20, 21, 22, 23, 24, 25, 26, 27, 28, 29, 30, 31, 32, 33, 34, 35, 36, 37, 38, 39, 40, 41, 42, 43, 44, 45, 46, 47, 48, 49, 50, 51, 52, 53, 54, 55, 56, 57, 58, 59, 60, 61, 62, 63, 64, 65, 66, 67, 68, 139, 140, 141, 142, 143, 144, 145, 146, 147, 148, 149, 150, 151, 152, 153, 154, 155, 156, 157, 158, 159, 160, 161, 162] (by decide +kernel) (by decide +kernel)
set_option maxRecDepth 20000 in
theorem gX7_odds_X2_start : GoodIn wsX7_odds (wsV RX7 223 RX2 yX2_start wsX2_start) := goodIn_app (goodIn_of _ (by decide +kernel)) ggX7_odds_X2_start
set_option maxRecDepth 20000 in
theorem ggX7_odds_X2_findOdds : GoodIn wsX7_odds wsX2_findOdds := goodIn_r _ [72, 73, 74, 75, 76, 77, 78, 79, 15, 80, 23, 81, 17, 26, 27, 24, 82, 83, 84, 85, 86, 87, 88, 89, 90, 91, 92, 93, 94, 95, 96, 97, 98, 99, 100, 101, 28, 29, 30, 31, 32, 33, 34, 35, 36, 37, 102, 103, 104, 105, 106, 57, 21, 58, 107, 108, 109, 110, 111, 112, 113, 114, 115, 116, 117, 118, 119, 120, 121, 122, 123, 124, 125, 20, 22, 126, 127, 128, 139, 140, 141, 142, 143, 144, 145, 146, 147, 148, 149, 150, 151, 152, 163, 164, 165, 166, 157, 158, 159, 160, 161] (by decide +kernel) (by decide +kernel)
set_option maxRecDepth 20000 in
theorem gX7_odds_X2_findOdds : GoodIn wsX7_odds (wsV RX7 244 RX2 yX2_findOdds wsX2_findOdds) := goodIn_app (goodIn_of _ (by decide +kernel)) ggX7_odds_X2_findOdds
theorem dX7_odds_0 : decode cX7_odds 0 = .ok (.iload_n 1, 1) := by decide +kernel
theorem dX7_odds_1 : decode cX7_odds 1 = .ok (.iconst 1, 1) := by decide +kernel
theorem dX7_odds_2 : decode cX7_odds 2 = .ok (.bipush 8, 2) := by decide +kernel
theorem dX7_odds_4 : decode cX7_odds 4 = .ok (.invokestatic 70, 3) := by decide +kernel
theorem dX7_odds_7 : decode cX7_odds 7 = .ok (.ifCond .ne 42, 3) := by decide +kernel
theorem dX7_odds_10 : decode cX7_odds 10 = .ok (.iload_n 2, 1) := by decide +kernel
theorem dX7_odds_11 : decode cX7_odds 11 = .ok (.iconst 0, 1) := by decide +kernel
theorem dX7_odds_12 : decode cX7_odds 12 = .ok (.bipush 30, 2) := by decide +kernel
theorem dX7_odds_14 : decode cX7_odds 14 = .ok (.invokestatic 70, 3) := by decide +kernel
theorem dX7_odds_17 : decode cX7_odds 17 = .ok (.ifCond .ne 32, 3) := by decide +kernel
theorem dX7_odds_20 : decode cX7_odds 20 = .ok (.iload_n 3, 1) := by decide +kernel
theorem dX7_odds_21 : decode cX7_odds 21 = .ok (.iconst 0, 1) := by decide +kernel
theorem dX7_odds_22 : decode cX7_odds 22 = .ok (.bipush 60, 2) := by decide +kernel
theorem dX7_odds_24 : decode cX7_odds 24 = .ok (.invokestatic 70, 3) := by decide +kernel
theorem dX7_odds_27 : decode cX7_odds 27 = .ok (.ifCond .ne 22, 3) := by decide +kernel
theorem dX7_odds_30 : decode cX7_odds 30 = .ok (.iload 4, 2) := by decide +kernel
theorem dX7_odds_32 : decode cX7_odds 32 = .ok (.iconst 0, 1) := by decide +kernel
theorem dX7_odds_33 : decode cX7_odds 33 = .ok (.bipush 100, 2) := by decide +kernel
theorem dX7_odds_35 : decode cX7_odds 35 = .ok (.invokestatic 70, 3) := by decide +kernel
theorem dX7_odds_38 : decode cX7_odds 38 = .ok (.ifCond .ne 11, 3) := by decide +kernel
theorem dX7_odds_41 : decode cX7_odds 41 = .ok (.iload 5, 2) := by decide +kernel
theorem dX7_odds_43 : decode cX7_odds 43 = .ok (.invokestatic 178, 3) := by decide +kernel
theorem dX7_odds_46 : decode cX7_odds 46 = .ok (.ifCond .eq 6, 3) := by decide +kernel
theorem dX7_odds_49 : decode cX7_odds 49 = .ok (.ldc 74, 2) := by decide +kernel
theorem dX7_odds_51 : decode cX7_odds 51 = .ok (.ireturn, 1) := by decide +kernel
theorem dX7_odds_52 : decode cX7_odds 52 = .ok (.aload_n 0, 1) := by decide +kernel
theorem dX7_odds_53 : decode cX7_odds 53 = .ok (.getfield 62, 3) := by decide +kernel
theorem dX7_odds_56 : decode cX7_odds 56 = .ok (.aload_n 0, 1) := by decide +kernel
theorem dX7_odds_57 : decode cX7_odds 57 = .ok (.getfield 26, 3) := by decide +kernel
theorem dX7_odds_60 : decode cX7_odds 60 = .ok (.aload_n 0, 1) := by decide +kernel
theorem dX7_odds_61 : decode cX7_odds 61 = .ok (.getfield 19, 3) := by decide +kernel
theorem dX7_odds_64 : decode cX7_odds 64 = .ok (.iload_n 1, 1) := by decide +kernel
theorem dX7_odds_65 : decode cX7_odds 65 = .ok (.iload 5, 2) := by decide +kernel
theorem dX7_odds_67 : decode cX7_odds 67 = .ok (.invokevirtual 223, 3) := by decide +kernel
theorem dX7_odds_70 : decode cX7_odds 70 = .ok (.aload_n 0, 1) := by decide +kernel
theorem dX7_odds_71 : decode cX7_odds 71 = .ok (.getfield 62, 3) := by decide +kernel
theorem dX7_odds_74 : decode cX7_odds 74 = .ok (.iload_n 2, 1) := by decide +kernel
theorem dX7_odds_75 : decode cX7_odds 75 = .ok (.iload_n 3, 1) := by decide +kernel
theorem dX7_odds_76 : decode cX7_odds 76 = .ok (.iload 4, 2) := by decide +kernel
theorem dX7_odds_78 : decode cX7_odds 78 = .ok (.invokevirtual 244, 3) := by decide +kernel
theorem dX7_odds_81 : decode cX7_odds 81 = .ok (.ireturn, 1) := by decide +kernel
set_option maxRecDepth 20000 in
theorem ggX7_noFall_X7_isOut : GoodIn wsX7_noFall wsX7_isOut := goodIn_r _ [8] (by decide +kernel) (by decide +kernel)
set_option maxRecDepth 20000 in
theorem gX7_noFall_X7_isOut : GoodIn wsX7_noFall (va_wsS RX7 70 yX7_isOut wsX7_isOut) := goodIn_app (goodIn_of _ (by decide +kernel)) ggX7_noFall_X7_isOut
set_option maxRecDepth 20000 in
theorem ggX7_noFall_X0_horsesTold : GoodIn wsX7_noFall wsX0_horsesTold := goodIn_r _ [13, 14, 25] (by decide +kernel) (by decide +kernel)
set_option maxRecDepth 20000 in
theorem gX7_noFall_X0_horsesTold : GoodIn wsX7_noFall (wsV RX7 201 RX0 yX0_horsesTold wsX0_horsesTold) := goodIn_app (goodIn_of _ (by decide +kernel)) ggX7_noFall_X0_horsesTold
theorem dX7_noFall_0 : decode cX7_noFall 0 = .ok (.iload_n 1, 1) := by decide +kernel
theorem dX7_noFall_1 : decode cX7_noFall 1 = .ok (.iconst 0, 1) := by decide +kernel
theorem dX7_noFall_2 : decode cX7_noFall 2 = .ok (.bipush 99, 2) := by decide +kernel
theorem dX7_noFall_4 : decode cX7_noFall 4 = .ok (.invokestatic 70, 3) := by decide +kernel
theorem dX7_noFall_7 : decode cX7_noFall 7 = .ok (.ifCond .ne 14, 3) := by decide +kernel
theorem dX7_noFall_10 : decode cX7_noFall 10 = .ok (.iload_n 2, 1) := by decide +kernel
theorem dX7_noFall_11 : decode cX7_noFall 11 = .ok (.iconst 0, 1) := by decide +kernel
theorem dX7_noFall_12 : decode cX7_noFall 12 = .ok (.sipush 1000, 3) := by decide +kernel
theorem dX7_noFall_15 : decode cX7_noFall 15 = .ok (.invokestatic 70, 3) := by decide +kernel
theorem dX7_noFall_18 : decode cX7_noFall 18 = .ok (.ifCond .eq 6, 3) := by decide +kernel
theorem dX7_noFall_21 : decode cX7_noFall 21 = .ok (.ldc 74, 2) := by decide +kernel
theorem dX7_noFall_23 : decode cX7_noFall 23 = .ok (.ireturn, 1) := by decide +kernel
theorem dX7_noFall_24 : decode cX7_noFall 24 = .ok (.ldc2_w 247, 3) := by decide +kernel
theorem dX7_noFall_27 : decode cX7_noFall 27 = .ok (.lstore_n 3, 1) := by decide +kernel
theorem dX7_noFall_28 : decode cX7_noFall 28 = .ok (.iload_n 1, 1) := by decide +kernel
theorem dX7_noFall_29 : decode cX7_noFall 29 = .ok (.aload_n 0, 1) := by decide +kernel
theorem dX7_noFall_30 : decode cX7_noFall 30 = .ok (.getfield 19, 3) := by decide +kernel
theorem dX7_noFall_33 : decode cX7_noFall 33 = .ok (.invokevirtual 201, 3) := by decide +kernel
theorem dX7_noFall_36 : decode cX7_noFall 36 = .ok (.imul, 1) := by decide +kernel
theorem dX7_noFall_37 : decode cX7_noFall 37 = .ok (.istore 5, 2) := by decide +kernel
theorem dX7_noFall_39 : decode cX7_noFall 39 = .ok (.iconst 0, 1) := by decide +kernel
theorem dX7_noFall_40 : decode cX7_noFall 40 = .ok (.istore 6, 2) := by decide +kernel
theorem dX7_noFall_42 : decode cX7_noFall 42 = .ok (.iload 6, 2) := by decide +kernel
theorem dX7_noFall_44 : decode cX7_noFall 44 = .ok (.iload 5, 2) := by decide +kernel
theorem dX7_noFall_46 : decode cX7_noFall 46 = .ok (.if_icmp .ge 22, 3) := by decide +kernel
theorem dX7_noFall_49 : decode cX7_noFall 49 = .ok (.lload_n 3, 1) := by decide +kernel
theorem dX7_noFall_50 : decode cX7_noFall 50 = .ok (.sipush 1000, 3) := by decide +kernel
theorem dX7_noFall_53 : decode cX7_noFall 53 = .ok (.iload_n 2, 1) := by decide +kernel
theorem dX7_noFall_54 : decode cX7_noFall 54 = .ok (.isub, 1) := by decide +kernel
theorem dX7_noFall_55 : decode cX7_noFall 55 = .ok (.i2l, 1) := by decide +kernel
theorem dX7_noFall_56 : decode cX7_noFall 56 = .ok (.lmul, 1) := by decide +kernel
theorem dX7_noFall_57 : decode cX7_noFall 57 = .ok (.ldc2_w 249, 3) := by decide +kernel
theorem dX7_noFall_60 : decode cX7_noFall 60 = .ok (.ldiv, 1) := by decide +kernel
theorem dX7_noFall_61 : decode cX7_noFall 61 = .ok (.lstore_n 3, 1) := by decide +kernel
theorem dX7_noFall_62 : decode cX7_noFall 62 = .ok (.iinc 6 1, 3) := by decide +kernel
theorem dX7_noFall_65 : decode cX7_noFall 65 = .ok (.goto (-23), 3) := by decide +kernel
theorem dX7_noFall_68 : decode cX7_noFall 68 = .ok (.lload_n 3, 1) := by decide +kernel
theorem dX7_noFall_69 : decode cX7_noFall 69 = .ok (.l2i, 1) := by decide +kernel
theorem dX7_noFall_70 : decode cX7_noFall 70 = .ok (.ireturn, 1) := by decide +kernel
set_option maxRecDepth 20000 in
theorem ggX7_bore_X6_has : GoodIn wsX7_bore wsX6_has := goodIn_r _ [12, 13, 50, 51, 52, 53, 54] (by decide +kernel) (by decide +kernel)
set_option maxRecDepth 20000 in
theorem gX7_bore_X6_has : GoodIn wsX7_bore (wsV RX7 151 RX6 yX6_has wsX6_has) := goodIn_app (goodIn_of _ (by decide +kernel)) ggX7_bore_X6_has
set_option maxRecDepth 20000 in
theorem ggX7_bore_X7_isOut : GoodIn wsX7_bore wsX7_isOut := goodIn_r _ [17] (by decide +kernel) (by decide +kernel)
set_option maxRecDepth 20000 in
theorem gX7_bore_X7_isOut : GoodIn wsX7_bore (va_wsS RX7 70 yX7_isOut wsX7_isOut) := goodIn_app (goodIn_of _ (by decide +kernel)) ggX7_bore_X7_isOut
set_option maxRecDepth 20000 in
theorem ggX7_bore_X1_addBored : GoodIn wsX7_bore wsX1_addBored := goodIn_r _ [22, 23, 24, 25, 26, 27, 42, 43, 44, 45, 46, 47, 48, 49] (by decide +kernel) (by decide +kernel)
set_option maxRecDepth 20000 in
theorem gX7_bore_X1_addBored : GoodIn wsX7_bore (wsV RX7 251 RX1 yX1_addBored wsX1_addBored) := goodIn_app (goodIn_of _ (by decide +kernel)) ggX7_bore_X1_addBored
theorem dX7_bore_0 : decode cX7_bore 0 = .ok (.aload_n 0, 1) := by decide +kernel
theorem dX7_bore_1 : decode cX7_bore 1 = .ok (.getfield 26, 3) := by decide +kernel
theorem dX7_bore_4 : decode cX7_bore 4 = .ok (.getfield 118, 3) := by decide +kernel
theorem dX7_bore_7 : decode cX7_bore 7 = .ok (.iload_n 1, 1) := by decide +kernel
theorem dX7_bore_8 : decode cX7_bore 8 = .ok (.invokevirtual 151, 3) := by decide +kernel
theorem dX7_bore_11 : decode cX7_bore 11 = .ok (.ifCond .ne 6, 3) := by decide +kernel
theorem dX7_bore_14 : decode cX7_bore 14 = .ok (.ldc 155, 2) := by decide +kernel
theorem dX7_bore_16 : decode cX7_bore 16 = .ok (.ireturn, 1) := by decide +kernel
theorem dX7_bore_17 : decode cX7_bore 17 = .ok (.iload_n 2, 1) := by decide +kernel
theorem dX7_bore_18 : decode cX7_bore 18 = .ok (.iconst 0, 1) := by decide +kernel
theorem dX7_bore_19 : decode cX7_bore 19 = .ok (.bipush 9, 2) := by decide +kernel
theorem dX7_bore_21 : decode cX7_bore 21 = .ok (.invokestatic 70, 3) := by decide +kernel
theorem dX7_bore_24 : decode cX7_bore 24 = .ok (.ifCond .ne 25, 3) := by decide +kernel
theorem dX7_bore_27 : decode cX7_bore 27 = .ok (.iload_n 3, 1) := by decide +kernel
theorem dX7_bore_28 : decode cX7_bore 28 = .ok (.iconst 0, 1) := by decide +kernel
theorem dX7_bore_29 : decode cX7_bore 29 = .ok (.bipush 30, 2) := by decide +kernel
theorem dX7_bore_31 : decode cX7_bore 31 = .ok (.invokestatic 70, 3) := by decide +kernel
theorem dX7_bore_34 : decode cX7_bore 34 = .ok (.ifCond .ne 15, 3) := by decide +kernel
theorem dX7_bore_37 : decode cX7_bore 37 = .ok (.iload 4, 2) := by decide +kernel
theorem dX7_bore_39 : decode cX7_bore 39 = .ok (.iconst 0, 1) := by decide +kernel
theorem dX7_bore_40 : decode cX7_bore 40 = .ok (.sipush 300, 3) := by decide +kernel
theorem dX7_bore_43 : decode cX7_bore 43 = .ok (.invokestatic 70, 3) := by decide +kernel
theorem dX7_bore_46 : decode cX7_bore 46 = .ok (.ifCond .eq 6, 3) := by decide +kernel
theorem dX7_bore_49 : decode cX7_bore 49 = .ok (.ldc 74, 2) := by decide +kernel
theorem dX7_bore_51 : decode cX7_bore 51 = .ok (.ireturn, 1) := by decide +kernel
theorem dX7_bore_52 : decode cX7_bore 52 = .ok (.aload_n 0, 1) := by decide +kernel
theorem dX7_bore_53 : decode cX7_bore 53 = .ok (.getfield 41, 3) := by decide +kernel
theorem dX7_bore_56 : decode cX7_bore 56 = .ok (.iload_n 1, 1) := by decide +kernel
theorem dX7_bore_57 : decode cX7_bore 57 = .ok (.iload_n 2, 1) := by decide +kernel
theorem dX7_bore_58 : decode cX7_bore 58 = .ok (.iload_n 3, 1) := by decide +kernel
theorem dX7_bore_59 : decode cX7_bore 59 = .ok (.iload 4, 2) := by decide +kernel
theorem dX7_bore_61 : decode cX7_bore 61 = .ok (.invokevirtual 251, 3) := by decide +kernel
theorem dX7_bore_64 : decode cX7_bore 64 = .ok (.ifCond .eq 13, 3) := by decide +kernel
theorem dX7_bore_67 : decode cX7_bore 67 = .ok (.aload_n 0, 1) := by decide +kernel
theorem dX7_bore_68 : decode cX7_bore 68 = .ok (.getfield 41, 3) := by decide +kernel
theorem dX7_bore_71 : decode cX7_bore 71 = .ok (.getfield 145, 3) := by decide +kernel
theorem dX7_bore_74 : decode cX7_bore 74 = .ok (.goto 5, 3) := by decide +kernel
theorem dX7_bore_77 : decode cX7_bore 77 = .ok (.ldc 79, 2) := by decide +kernel
theorem dX7_bore_79 : decode cX7_bore 79 = .ok (.ireturn, 1) := by decide +kernel
set_option maxRecDepth 20000 in
theorem ggX7_kinds_X6_has : GoodIn wsX7_kinds wsX6_has := goodIn_r _ [9, 10, 59, 60, 61, 62, 63] (by decide +kernel) (by decide +kernel)
set_option maxRecDepth 20000 in
theorem gX7_kinds_X6_has : GoodIn wsX7_kinds (wsV RX7 151 RX6 yX6_has wsX6_has) := goodIn_app (goodIn_of _ (by decide +kernel)) ggX7_kinds_X6_has
set_option maxRecDepth 20000 in
theorem ggX7_kinds_X1_fits : GoodIn wsX7_kinds wsX1_fits := goodIn_r _ [15, 16, 17, 18, 19, 20, 21, 22, 23, 8, 24, 25, 26, 27, 28, 29, 30, 31, 32, 33, 34, 35, 36, 37, 38, 39, 40, 41, 42, 43, 44, 64, 65, 66, 67, 68, 69, 70, 71, 59, 60, 61, 62, 63] (by decide +kernel) (by decide +kernel)
set_option maxRecDepth 20000 in
theorem gX7_kinds_X1_fits : GoodIn wsX7_kinds (wsV RX7 255 RX1 yX1_fits wsX1_fits) := goodIn_app (goodIn_of _ (by decide +kernel)) ggX7_kinds_X1_fits
theorem dX7_kinds_0 : decode cX7_kinds 0 = .ok (.aload_n 0, 1) := by decide +kernel
theorem dX7_kinds_1 : decode cX7_kinds 1 = .ok (.getfield 26, 3) := by decide +kernel
theorem dX7_kinds_4 : decode cX7_kinds 4 = .ok (.getfield 118, 3) := by decide +kernel
theorem dX7_kinds_7 : decode cX7_kinds 7 = .ok (.iload_n 1, 1) := by decide +kernel
theorem dX7_kinds_8 : decode cX7_kinds 8 = .ok (.invokevirtual 151, 3) := by decide +kernel
theorem dX7_kinds_11 : decode cX7_kinds 11 = .ok (.ifCond .ne 6, 3) := by decide +kernel
theorem dX7_kinds_14 : decode cX7_kinds 14 = .ok (.ldc 155, 2) := by decide +kernel
theorem dX7_kinds_16 : decode cX7_kinds 16 = .ok (.ireturn, 1) := by decide +kernel
theorem dX7_kinds_17 : decode cX7_kinds 17 = .ok (.iconst 0, 1) := by decide +kernel
theorem dX7_kinds_18 : decode cX7_kinds 18 = .ok (.istore_n 2, 1) := by decide +kernel
theorem dX7_kinds_19 : decode cX7_kinds 19 = .ok (.iconst 0, 1) := by decide +kernel
theorem dX7_kinds_20 : decode cX7_kinds 20 = .ok (.istore_n 3, 1) := by decide +kernel
theorem dX7_kinds_21 : decode cX7_kinds 21 = .ok (.iload_n 3, 1) := by decide +kernel
theorem dX7_kinds_22 : decode cX7_kinds 22 = .ok (.iconst 3, 1) := by decide +kernel
theorem dX7_kinds_23 : decode cX7_kinds 23 = .ok (.if_icmp .gt 34, 3) := by decide +kernel
theorem dX7_kinds_26 : decode cX7_kinds 26 = .ok (.aload_n 0, 1) := by decide +kernel
theorem dX7_kinds_27 : decode cX7_kinds 27 = .ok (.getfield 41, 3) := by decide +kernel
theorem dX7_kinds_30 : decode cX7_kinds 30 = .ok (.aload_n 0, 1) := by decide +kernel
theorem dX7_kinds_31 : decode cX7_kinds 31 = .ok (.getfield 26, 3) := by decide +kernel
theorem dX7_kinds_34 : decode cX7_kinds 34 = .ok (.getfield 118, 3) := by decide +kernel
theorem dX7_kinds_37 : decode cX7_kinds 37 = .ok (.iload_n 1, 1) := by decide +kernel
theorem dX7_kinds_38 : decode cX7_kinds 38 = .ok (.iload_n 3, 1) := by decide +kernel
theorem dX7_kinds_39 : decode cX7_kinds 39 = .ok (.invokevirtual 255, 3) := by decide +kernel
theorem dX7_kinds_42 : decode cX7_kinds 42 = .ok (.ifCond .eq 9, 3) := by decide +kernel
theorem dX7_kinds_45 : decode cX7_kinds 45 = .ok (.iload_n 2, 1) := by decide +kernel
theorem dX7_kinds_46 : decode cX7_kinds 46 = .ok (.iconst 1, 1) := by decide +kernel
theorem dX7_kinds_47 : decode cX7_kinds 47 = .ok (.iload_n 3, 1) := by decide +kernel
theorem dX7_kinds_48 : decode cX7_kinds 48 = .ok (.ishl, 1) := by decide +kernel
theorem dX7_kinds_49 : decode cX7_kinds 49 = .ok (.ior, 1) := by decide +kernel
theorem dX7_kinds_50 : decode cX7_kinds 50 = .ok (.istore_n 2, 1) := by decide +kernel
theorem dX7_kinds_51 : decode cX7_kinds 51 = .ok (.iinc 3 1, 3) := by decide +kernel
theorem dX7_kinds_54 : decode cX7_kinds 54 = .ok (.goto (-33), 3) := by decide +kernel
theorem dX7_kinds_57 : decode cX7_kinds 57 = .ok (.iload_n 2, 1) := by decide +kernel
theorem dX7_kinds_58 : decode cX7_kinds 58 = .ok (.ireturn, 1) := by decide +kernel
set_option maxRecDepth 20000 in
theorem ggX7_write_X6_has : GoodIn wsX7_write wsX6_has := goodIn_r _ [12, 13, 48, 49, 50, 51, 52] (by decide +kernel) (by decide +kernel)
set_option maxRecDepth 20000 in
theorem gX7_write_X6_has : GoodIn wsX7_write (wsV RX7 151 RX6 yX6_has wsX6_has) := goodIn_app (goodIn_of _ (by decide +kernel)) ggX7_write_X6_has
set_option maxRecDepth 20000 in
theorem ggX7_write_X7_isOut : GoodIn wsX7_write wsX7_isOut := goodIn_r _ [17] (by decide +kernel) (by decide +kernel)
set_option maxRecDepth 20000 in
theorem gX7_write_X7_isOut : GoodIn wsX7_write (va_wsS RX7 70 yX7_isOut wsX7_isOut) := goodIn_app (goodIn_of _ (by decide +kernel)) ggX7_write_X7_isOut
set_option maxRecDepth 20000 in
theorem ggX7_write_X1_addEntry : GoodIn wsX7_write wsX1_addEntry := goodIn_r _ [22, 23, 24, 25, 40, 41, 42, 43, 44, 45, 46, 47] (by decide +kernel) (by decide +kernel)
set_option maxRecDepth 20000 in
theorem gX7_write_X1_addEntry : GoodIn wsX7_write (wsV RX7 259 RX1 yX1_addEntry wsX1_addEntry) := goodIn_app (goodIn_of _ (by decide +kernel)) ggX7_write_X1_addEntry
theorem dX7_write_0 : decode cX7_write 0 = .ok (.aload_n 0, 1) := by decide +kernel
theorem dX7_write_1 : decode cX7_write 1 = .ok (.getfield 26, 3) := by decide +kernel
theorem dX7_write_4 : decode cX7_write 4 = .ok (.getfield 118, 3) := by decide +kernel
theorem dX7_write_7 : decode cX7_write 7 = .ok (.iload_n 1, 1) := by decide +kernel
theorem dX7_write_8 : decode cX7_write 8 = .ok (.invokevirtual 151, 3) := by decide +kernel
theorem dX7_write_11 : decode cX7_write 11 = .ok (.ifCond .ne 6, 3) := by decide +kernel
theorem dX7_write_14 : decode cX7_write 14 = .ok (.ldc 155, 2) := by decide +kernel
theorem dX7_write_16 : decode cX7_write 16 = .ok (.ireturn, 1) := by decide +kernel
theorem dX7_write_17 : decode cX7_write 17 = .ok (.iload_n 2, 1) := by decide +kernel
theorem dX7_write_18 : decode cX7_write 18 = .ok (.iconst 0, 1) := by decide +kernel
theorem dX7_write_19 : decode cX7_write 19 = .ok (.sipush 300, 3) := by decide +kernel
theorem dX7_write_22 : decode cX7_write 22 = .ok (.invokestatic 70, 3) := by decide +kernel
theorem dX7_write_25 : decode cX7_write 25 = .ok (.ifCond .eq 6, 3) := by decide +kernel
theorem dX7_write_28 : decode cX7_write 28 = .ok (.ldc 74, 2) := by decide +kernel
theorem dX7_write_30 : decode cX7_write 30 = .ok (.ireturn, 1) := by decide +kernel
theorem dX7_write_31 : decode cX7_write 31 = .ok (.aload_n 0, 1) := by decide +kernel
theorem dX7_write_32 : decode cX7_write 32 = .ok (.getfield 41, 3) := by decide +kernel
theorem dX7_write_35 : decode cX7_write 35 = .ok (.iload_n 1, 1) := by decide +kernel
theorem dX7_write_36 : decode cX7_write 36 = .ok (.iload_n 2, 1) := by decide +kernel
theorem dX7_write_37 : decode cX7_write 37 = .ok (.invokevirtual 259, 3) := by decide +kernel
theorem dX7_write_40 : decode cX7_write 40 = .ok (.ifCond .eq 13, 3) := by decide +kernel
theorem dX7_write_43 : decode cX7_write 43 = .ok (.aload_n 0, 1) := by decide +kernel
theorem dX7_write_44 : decode cX7_write 44 = .ok (.getfield 41, 3) := by decide +kernel
theorem dX7_write_47 : decode cX7_write 47 = .ok (.getfield 148, 3) := by decide +kernel
theorem dX7_write_50 : decode cX7_write 50 = .ok (.goto 5, 3) := by decide +kernel
theorem dX7_write_53 : decode cX7_write 53 = .ok (.ldc 79, 2) := by decide +kernel
theorem dX7_write_55 : decode cX7_write 55 = .ok (.ireturn, 1) := by decide +kernel
set_option maxRecDepth 20000 in
theorem ggX7_tear_X1_clearAll : GoodIn wsX7_tear wsX1_clearAll := goodIn_r _ [8, 9, 10, 21, 22, 23, 24, 25, 26, 27, 28] (by decide +kernel) (by decide +kernel)
set_option maxRecDepth 20000 in
theorem gX7_tear_X1_clearAll : GoodIn wsX7_tear (wsV RX7 115 RX1 yX1_clearAll wsX1_clearAll) := goodIn_app (goodIn_of _ (by decide +kernel)) ggX7_tear_X1_clearAll
theorem dX7_tear_0 : decode cX7_tear 0 = .ok (.aload_n 0, 1) := by decide +kernel
theorem dX7_tear_1 : decode cX7_tear 1 = .ok (.getfield 41, 3) := by decide +kernel
theorem dX7_tear_4 : decode cX7_tear 4 = .ok (.getfield 145, 3) := by decide +kernel
theorem dX7_tear_7 : decode cX7_tear 7 = .ok (.aload_n 0, 1) := by decide +kernel
theorem dX7_tear_8 : decode cX7_tear 8 = .ok (.getfield 41, 3) := by decide +kernel
theorem dX7_tear_11 : decode cX7_tear 11 = .ok (.getfield 148, 3) := by decide +kernel
theorem dX7_tear_14 : decode cX7_tear 14 = .ok (.iadd, 1) := by decide +kernel
theorem dX7_tear_15 : decode cX7_tear 15 = .ok (.istore_n 1, 1) := by decide +kernel
theorem dX7_tear_16 : decode cX7_tear 16 = .ok (.aload_n 0, 1) := by decide +kernel
theorem dX7_tear_17 : decode cX7_tear 17 = .ok (.getfield 41, 3) := by decide +kernel
theorem dX7_tear_20 : decode cX7_tear 20 = .ok (.invokevirtual 115, 3) := by decide +kernel
theorem dX7_tear_23 : decode cX7_tear 23 = .ok (.iload_n 1, 1) := by decide +kernel
theorem dX7_tear_24 : decode cX7_tear 24 = .ok (.ireturn, 1) := by decide +kernel
set_option maxRecDepth 20000 in
theorem ggX7_judge_X1_firstWrong : GoodIn wsX7_judge wsX1_firstWrong := goodIn_r _ [8, 9, 10, 11, 12, 13, 14, 15, 16, 17, 18, 33, 34, 35, 36, 37, 38, 39, 40, 41, 42, 43, 44, 45] (by decide +kernel) (by decide +kernel)
set_option maxRecDepth 20000 in
theorem gX7_judge_X1_firstWrong : GoodIn wsX7_judge (wsV RX7 263 RX1 yX1_firstWrong wsX1_firstWrong) := goodIn_app (goodIn_of _ (by decide +kernel)) ggX7_judge_X1_firstWrong
theorem dX7_judge_0 : decode cX7_judge 0 = .ok (.aload_n 0, 1) := by decide +kernel
theorem dX7_judge_1 : decode cX7_judge 1 = .ok (.getfield 41, 3) := by decide +kernel
theorem dX7_judge_4 : decode cX7_judge 4 = .ok (.aload_n 0, 1) := by decide +kernel
theorem dX7_judge_5 : decode cX7_judge 5 = .ok (.getfield 26, 3) := by decide +kernel
theorem dX7_judge_8 : decode cX7_judge 8 = .ok (.getfield 118, 3) := by decide +kernel
theorem dX7_judge_11 : decode cX7_judge 11 = .ok (.invokevirtual 263, 3) := by decide +kernel
theorem dX7_judge_14 : decode cX7_judge 14 = .ok (.ireturn, 1) := by decide +kernel
theorem dX7_seed_0 : decode cX7_seed 0 = .ok (.iload_n 1, 1) := by decide +kernel
theorem dX7_seed_1 : decode cX7_seed 1 = .ok (.ifCond .ge 6, 3) := by decide +kernel
theorem dX7_seed_4 : decode cX7_seed 4 = .ok (.ldc 74, 2) := by decide +kernel
theorem dX7_seed_6 : decode cX7_seed 6 = .ok (.ireturn, 1) := by decide +kernel
theorem dX7_seed_7 : decode cX7_seed 7 = .ok (.aload_n 0, 1) := by decide +kernel
theorem dX7_seed_8 : decode cX7_seed 8 = .ok (.getfield 26, 3) := by decide +kernel
theorem dX7_seed_11 : decode cX7_seed 11 = .ok (.getfield 267, 3) := by decide +kernel
theorem dX7_seed_14 : decode cX7_seed 14 = .ok (.istore_n 2, 1) := by decide +kernel
theorem dX7_seed_15 : decode cX7_seed 15 = .ok (.aload_n 0, 1) := by decide +kernel
theorem dX7_seed_16 : decode cX7_seed 16 = .ok (.getfield 26, 3) := by decide +kernel
theorem dX7_seed_19 : decode cX7_seed 19 = .ok (.iload_n 1, 1) := by decide +kernel
theorem dX7_seed_20 : decode cX7_seed 20 = .ok (.putfield 267, 3) := by decide +kernel
theorem dX7_seed_23 : decode cX7_seed 23 = .ok (.iload_n 2, 1) := by decide +kernel
theorem dX7_seed_24 : decode cX7_seed 24 = .ok (.ireturn, 1) := by decide +kernel
set_option maxRecDepth 20000 in
theorem ggX7_keep_X7_isOut : GoodIn wsX7_keep wsX7_isOut := goodIn_r _ [8] (by decide +kernel) (by decide +kernel)
set_option maxRecDepth 20000 in
theorem gX7_keep_X7_isOut : GoodIn wsX7_keep (va_wsS RX7 70 yX7_isOut wsX7_isOut) := goodIn_app (goodIn_of _ (by decide +kernel)) ggX7_keep_X7_isOut
set_option maxRecDepth 20000 in
theorem ggX7_keep_X5_copyFrom : GoodIn wsX7_keep wsX5_copyFrom := goodIn_r _ [13, 14, 15, 16, 17, 18, 19, 20, 21, 22, 23, 24, 25, 26, 27, 38, 39, 40, 41, 42, 43, 44, 45, 46] (by decide +kernel) (by decide +kernel)
set_option maxRecDepth 20000 in
theorem gX7_keep_X5_copyFrom : GoodIn wsX7_keep (wsV RX7 270 RX5 yX5_copyFrom wsX5_copyFrom) := goodIn_app (goodIn_of _ (by decide +kernel)) ggX7_keep_X5_copyFrom
theorem dX7_keep_0 : decode cX7_keep 0 = .ok (.iload_n 1, 1) := by decide +kernel
theorem dX7_keep_1 : decode cX7_keep 1 = .ok (.iconst 0, 1) := by decide +kernel
theorem dX7_keep_2 : decode cX7_keep 2 = .ok (.iconst 1, 1) := by decide +kernel
theorem dX7_keep_3 : decode cX7_keep 3 = .ok (.invokestatic 70, 3) := by decide +kernel
theorem dX7_keep_6 : decode cX7_keep 6 = .ok (.ifCond .eq 6, 3) := by decide +kernel
theorem dX7_keep_9 : decode cX7_keep 9 = .ok (.ldc 155, 2) := by decide +kernel
theorem dX7_keep_11 : decode cX7_keep 11 = .ok (.ireturn, 1) := by decide +kernel
theorem dX7_keep_12 : decode cX7_keep 12 = .ok (.aload_n 0, 1) := by decide +kernel
theorem dX7_keep_13 : decode cX7_keep 13 = .ok (.getfield 30, 3) := by decide +kernel
theorem dX7_keep_16 : decode cX7_keep 16 = .ok (.iload_n 1, 1) := by decide +kernel
theorem dX7_keep_17 : decode cX7_keep 17 = .ok (.aaload, 1) := by decide +kernel
theorem dX7_keep_18 : decode cX7_keep 18 = .ok (.aload_n 0, 1) := by decide +kernel
theorem dX7_keep_19 : decode cX7_keep 19 = .ok (.getfield 26, 3) := by decide +kernel
theorem dX7_keep_22 : decode cX7_keep 22 = .ok (.invokevirtual 270, 3) := by decide +kernel
theorem dX7_keep_25 : decode cX7_keep 25 = .ok (.aload_n 0, 1) := by decide +kernel
theorem dX7_keep_26 : decode cX7_keep 26 = .ok (.getfield 34, 3) := by decide +kernel
theorem dX7_keep_29 : decode cX7_keep 29 = .ok (.iload_n 1, 1) := by decide +kernel
theorem dX7_keep_30 : decode cX7_keep 30 = .ok (.iconst 1, 1) := by decide +kernel
theorem dX7_keep_31 : decode cX7_keep 31 = .ok (.bastore, 1) := by decide +kernel
theorem dX7_keep_32 : decode cX7_keep 32 = .ok (.iconst 1, 1) := by decide +kernel
theorem dX7_keep_33 : decode cX7_keep 33 = .ok (.ireturn, 1) := by decide +kernel
set_option maxRecDepth 20000 in
theorem ggX7_goBack_X7_isOut : GoodIn wsX7_goBack wsX7_isOut := goodIn_r _ [9] (by decide +kernel) (by decide +kernel)
set_option maxRecDepth 20000 in
theorem gX7_goBack_X7_isOut : GoodIn wsX7_goBack (va_wsS RX7 70 yX7_isOut wsX7_isOut) := goodIn_app (goodIn_of _ (by decide +kernel)) ggX7_goBack_X7_isOut
set_option maxRecDepth 20000 in
theorem ggX7_goBack_X5_copyFrom : GoodIn wsX7_goBack wsX5_copyFrom := goodIn_r _ [14, 15, 16, 17, 18, 19, 20, 21, 22, 23, 24, 25, 26, 27, 28, 39, 40, 41, 42, 43, 44, 45, 46, 47] (by decide +kernel) (by decide +kernel)
set_option maxRecDepth 20000 in
theorem gX7_goBack_X5_copyFrom : GoodIn wsX7_goBack (wsV RX7 270 RX5 yX5_copyFrom wsX5_copyFrom) := goodIn_app (goodIn_of _ (by decide +kernel)) ggX7_goBack_X5_copyFrom
theorem dX7_goBack_0 : decode cX7_goBack 0 = .ok (.iload_n 1, 1) := by decide +kernel
theorem dX7_goBack_1 : decode cX7_goBack 1 = .ok (.iconst 0, 1) := by decide +kernel
theorem dX7_goBack_2 : decode cX7_goBack 2 = .ok (.iconst 1, 1) := by decide +kernel
theorem dX7_goBack_3 : decode cX7_goBack 3 = .ok (.invokestatic 70, 3) := by decide +kernel
theorem dX7_goBack_6 : decode cX7_goBack 6 = .ok (.ifCond .eq 6, 3) := by decide +kernel
theorem dX7_goBack_9 : decode cX7_goBack 9 = .ok (.ldc 155, 2) := by decide +kernel
theorem dX7_goBack_11 : decode cX7_goBack 11 = .ok (.ireturn, 1) := by decide +kernel
theorem dX7_goBack_12 : decode cX7_goBack 12 = .ok (.aload_n 0, 1) := by decide +kernel
theorem dX7_goBack_13 : decode cX7_goBack 13 = .ok (.getfield 34, 3) := by decide +kernel
theorem dX7_goBack_16 : decode cX7_goBack 16 = .ok (.iload_n 1, 1) := by decide +kernel
theorem dX7_goBack_17 : decode cX7_goBack 17 = .ok (.baload, 1) := by decide +kernel
theorem dX7_goBack_18 : decode cX7_goBack 18 = .ok (.ifCond .ne 6, 3) := by decide +kernel
theorem dX7_goBack_21 : decode cX7_goBack 21 = .ok (.ldc 181, 2) := by decide +kernel
theorem dX7_goBack_23 : decode cX7_goBack 23 = .ok (.ireturn, 1) := by decide +kernel
theorem dX7_goBack_24 : decode cX7_goBack 24 = .ok (.aload_n 0, 1) := by decide +kernel
theorem dX7_goBack_25 : decode cX7_goBack 25 = .ok (.getfield 26, 3) := by decide +kernel
theorem dX7_goBack_28 : decode cX7_goBack 28 = .ok (.aload_n 0, 1) := by decide +kernel
theorem dX7_goBack_29 : decode cX7_goBack 29 = .ok (.getfield 30, 3) := by decide +kernel
theorem dX7_goBack_32 : decode cX7_goBack 32 = .ok (.iload_n 1, 1) := by decide +kernel
theorem dX7_goBack_33 : decode cX7_goBack 33 = .ok (.aaload, 1) := by decide +kernel
theorem dX7_goBack_34 : decode cX7_goBack 34 = .ok (.invokevirtual 270, 3) := by decide +kernel
theorem dX7_goBack_37 : decode cX7_goBack 37 = .ok (.iconst 1, 1) := by decide +kernel
theorem dX7_goBack_38 : decode cX7_goBack 38 = .ok (.ireturn, 1) := by decide +kernel
theorem dX7_isOut_0 : decode cX7_isOut 0 = .ok (.iload_n 0, 1) := by decide +kernel
theorem dX7_isOut_1 : decode cX7_isOut 1 = .ok (.iload_n 1, 1) := by decide +kernel
theorem dX7_isOut_2 : decode cX7_isOut 2 = .ok (.if_icmp .lt 8, 3) := by decide +kernel
theorem dX7_isOut_5 : decode cX7_isOut 5 = .ok (.iload_n 0, 1) := by decide +kernel
theorem dX7_isOut_6 : decode cX7_isOut 6 = .ok (.iload_n 2, 1) := by decide +kernel
theorem dX7_isOut_7 : decode cX7_isOut 7 = .ok (.if_icmp .le 7, 3) := by decide +kernel
theorem dX7_isOut_10 : decode cX7_isOut 10 = .ok (.iconst 1, 1) := by decide +kernel
theorem dX7_isOut_11 : decode cX7_isOut 11 = .ok (.goto 4, 3) := by decide +kernel
theorem dX7_isOut_14 : decode cX7_isOut 14 = .ok (.iconst 0, 1) := by decide +kernel
theorem dX7_isOut_15 : decode cX7_isOut 15 = .ok (.ireturn, 1) := by decide +kernel
set_option maxRecDepth 20000 in
theorem ggX7_isOutOfDay_X7_isOut : GoodIn wsX7_isOutOfDay wsX7_isOut := goodIn_r _ [4] (by decide +kernel) (by decide +kernel)
set_option maxRecDepth 20000 in
theorem gX7_isOutOfDay_X7_isOut : GoodIn wsX7_isOutOfDay (va_wsS RX7 70 yX7_isOut wsX7_isOut) := goodIn_app (goodIn_of _ (by decide +kernel)) ggX7_isOutOfDay_X7_isOut
theorem dX7_isOutOfDay_0 : decode cX7_isOutOfDay 0 = .ok (.iload_n 0, 1) := by decide +kernel
theorem dX7_isOutOfDay_1 : decode cX7_isOutOfDay 1 = .ok (.iconst 1, 1) := by decide +kernel
theorem dX7_isOutOfDay_2 : decode cX7_isOutOfDay 2 = .ok (.sipush 999, 3) := by decide +kernel
theorem dX7_isOutOfDay_5 : decode cX7_isOutOfDay 5 = .ok (.invokestatic 70, 3) := by decide +kernel
theorem dX7_isOutOfDay_8 : decode cX7_isOutOfDay 8 = .ok (.ireturn, 1) := by decide +kernel
set_option maxRecDepth 20000 in
theorem ggX7_forceNow_X0_forceBy : GoodIn wsX7_forceNow wsX0_forceBy := goodIn_r _ [8, 9, 10, 11, 7, 12, 13, 14, 15, 16, 17, 18, 19, 20, 21, 22, 23, 24, 25, 26, 27, 28, 29, 30, 31, 46] (by decide +kernel) (by decide +kernel)
set_option maxRecDepth 20000 in
theorem gX7_forceNow_X0_forceBy : GoodIn wsX7_forceNow (wsV RX7 197 RX0 yX0_forceBy wsX0_forceBy) := goodIn_app (goodIn_of _ (by decide +kernel)) ggX7_forceNow_X0_forceBy
theorem dX7_forceNow_0 : decode cX7_forceNow 0 = .ok (.aload_n 0, 1) := by decide +kernel
theorem dX7_forceNow_1 : decode cX7_forceNow 1 = .ok (.getfield 19, 3) := by decide +kernel
theorem dX7_forceNow_4 : decode cX7_forceNow 4 = .ok (.aload_n 0, 1) := by decide +kernel
theorem dX7_forceNow_5 : decode cX7_forceNow 5 = .ok (.getfield 26, 3) := by decide +kernel
theorem dX7_forceNow_8 : decode cX7_forceNow 8 = .ok (.getfield 128, 3) := by decide +kernel
theorem dX7_forceNow_11 : decode cX7_forceNow 11 = .ok (.invokevirtual 197, 3) := by decide +kernel
theorem dX7_forceNow_14 : decode cX7_forceNow 14 = .ok (.ireturn, 1) := by decide +kernel
set_option maxRecDepth 20000 in
theorem ggX7_goFromNow_X7_forceNow : GoodIn wsX7_goFromNow wsX7_forceNow := goodIn_r _ [9, 4, 2, 10, 11, 12, 13, 14, 15, 16, 17, 18, 19, 20, 21, 22, 23, 24, 25, 26, 27, 28, 29, 30, 31, 32, 33, 34, 35, 36, 37, 38, 58, 59, 60, 61, 62, 63, 64, 65, 66, 67, 68, 69, 70, 71, 72] (by decide +kernel) (by decide +kernel)
set_option maxRecDepth 20000 in
theorem gX7_goFromNow_X7_forceNow : GoodIn wsX7_goFromNow (wsV RX7 139 RX7 yX7_forceNow wsX7_forceNow) := goodIn_app (goodIn_of _ (by decide +kernel)) ggX7_goFromNow_X7_forceNow
set_option maxRecDepth 20000 in
theorem ggX7_goFromNow_X0_axeMinutes : GoodIn wsX7_goFromNow wsX0_axeMinutes := goodIn_r _ [42, 20, 72] (by decide +kernel) (by decide +kernel)
set_option maxRecDepth 20000 in
theorem gX7_goFromNow_X0_axeMinutes : GoodIn wsX7_goFromNow (wsV RX7 207 RX0 yX0_axeMinutes wsX0_axeMinutes) := goodIn_app (goodIn_of _ (by decide +kernel)) ggX7_goFromNow_X0_axeMinutes
set_option maxRecDepth 20000 in
theorem ggX7_goFromNow_X4_go : GoodIn wsX7_goFromNow wsX4_go := goodIn_r _ [47, 48, 49, 50, 51, 52, 53, 54, 55, 56, 46, 57, 73, 74, 75, 76, 77, 78, 79, 80, 81] (by decide +kernel) (by decide +kernel)
set_option maxRecDepth 20000 in
theorem gX7_goFromNow_X4_go : GoodIn wsX7_goFromNow (wsV RX7 273 RX4 yX4_go wsX4_go) := goodIn_app (goodIn_of _ (by decide +kernel)) ggX7_goFromNow_X4_go
theorem dX7_goFromNow_0 : decode cX7_goFromNow 0 = .ok (.aload_n 0, 1) := by decide +kernel
theorem dX7_goFromNow_1 : decode cX7_goFromNow 1 = .ok (.getfield 48, 3) := by decide +kernel
theorem dX7_goFromNow_4 : decode cX7_goFromNow 4 = .ok (.aload_n 0, 1) := by decide +kernel
theorem dX7_goFromNow_5 : decode cX7_goFromNow 5 = .ok (.getfield 26, 3) := by decide +kernel
theorem dX7_goFromNow_8 : decode cX7_goFromNow 8 = .ok (.getfield 118, 3) := by decide +kernel
theorem dX7_goFromNow_11 : decode cX7_goFromNow 11 = .ok (.aload_n 0, 1) := by decide +kernel
theorem dX7_goFromNow_12 : decode cX7_goFromNow 12 = .ok (.invokevirtual 139, 3) := by decide +kernel
theorem dX7_goFromNow_15 : decode cX7_goFromNow 15 = .ok (.aload_n 0, 1) := by decide +kernel
theorem dX7_goFromNow_16 : decode cX7_goFromNow 16 = .ok (.getfield 19, 3) := by decide +kernel
theorem dX7_goFromNow_19 : decode cX7_goFromNow 19 = .ok (.invokevirtual 207, 3) := by decide +kernel
theorem dX7_goFromNow_22 : decode cX7_goFromNow 22 = .ok (.iload_n 1, 1) := by decide +kernel
theorem dX7_goFromNow_23 : decode cX7_goFromNow 23 = .ok (.invokevirtual 273, 3) := by decide +kernel
theorem dX7_goFromNow_26 : decode cX7_goFromNow 26 = .ok (.return_, 1) := by decide +kernel
set_option maxRecDepth 20000 in
theorem ggX8_init_X8_reads : GoodIn wsX8_init wsX8_reads := goodIn_r _ [25, 6, 26, 27, 28, 29, 10, 30, 31, 32, 33, 34, 35, 36, 37, 38, 39, 40, 41, 42, 43, 44, 45, 46, 47, 48, 49, 50, 51, 52, 53, 54, 55, 56, 57] (by decide +kernel) (by decide +kernel)
set_option maxRecDepth 20000 in
theorem gX8_init_X8_reads : GoodIn wsX8_init (wsV RX8 57 RX8 yX8_reads wsX8_reads) := goodIn_app (goodIn_of _ (by decide +kernel)) ggX8_init_X8_reads
end
section
theorem dX8_init_0 : decode cX8_init 0 = .ok (.aload_n 0, 1) := by decide +kernel
theorem dX8_init_1 : decode cX8_init 1 = .ok (.invokespecial 1, 3) := by decide +kernel
theorem dX8_init_4 : decode cX8_init 4 = .ok (.aload_n 0, 1) := by decide +kernel
theorem dX8_init_5 : decode cX8_init 5 = .ok (.sipush 204, 3) := by decide +kernel
theorem dX8_init_8 : decode cX8_init 8 = .ok (.newarray .int, 2) := by decide +kernel
theorem dX8_init_10 : decode cX8_init 10 = .ok (.putfield 7, 3) := by decide +kernel
theorem dX8_init_13 : decode cX8_init 13 = .ok (.aload_n 0, 1) := by decide +kernel
theorem dX8_init_14 : decode cX8_init 14 = .ok (.bipush 18, 2) := by decide +kernel
theorem dX8_init_16 : decode cX8_init 16 = .ok (.newarray .int, 2) := by decide +kernel
theorem dX8_init_18 : decode cX8_init 18 = .ok (.putfield 13, 3) := by decide +kernel
theorem dX8_init_21 : decode cX8_init 21 = .ok (.aload_n 0, 1) := by decide +kernel
theorem dX8_init_22 : decode cX8_init 22 = .ok (.iconst 2, 1) := by decide +kernel
theorem dX8_init_23 : decode cX8_init 23 = .ok (.newarray .boolean, 2) := by decide +kernel
theorem dX8_init_25 : decode cX8_init 25 = .ok (.putfield 16, 3) := by decide +kernel
theorem dX8_init_28 : decode cX8_init 28 = .ok (.aload_n 0, 1) := by decide +kernel
theorem dX8_init_29 : decode cX8_init 29 = .ok (.sipush 230, 3) := by decide +kernel
theorem dX8_init_32 : decode cX8_init 32 = .ok (.newarray .int, 2) := by decide +kernel
theorem dX8_init_34 : decode cX8_init 34 = .ok (.putfield 20, 3) := by decide +kernel
theorem dX8_init_37 : decode cX8_init 37 = .ok (.aload_n 0, 1) := by decide +kernel
theorem dX8_init_38 : decode cX8_init 38 = .ok (.iconst (-1), 1) := by decide +kernel
theorem dX8_init_39 : decode cX8_init 39 = .ok (.putfield 23, 3) := by decide +kernel
theorem dX8_init_42 : decode cX8_init 42 = .ok (.aload_n 0, 1) := by decide +kernel
theorem dX8_init_43 : decode cX8_init 43 = .ok (.bipush 12, 2) := by decide +kernel
theorem dX8_init_45 : decode cX8_init 45 = .ok (.newarray .int, 2) := by decide +kernel
theorem dX8_init_47 : decode cX8_init 47 = .ok (.putfield 27, 3) := by decide +kernel
theorem dX8_init_50 : decode cX8_init 50 = .ok (.aload_n 0, 1) := by decide +kernel
theorem dX8_init_51 : decode cX8_init 51 = .ok (.bipush 12, 2) := by decide +kernel
theorem dX8_init_53 : decode cX8_init 53 = .ok (.newarray .int, 2) := by decide +kernel
theorem dX8_init_55 : decode cX8_init 55 = .ok (.putfield 30, 3) := by decide +kernel
theorem dX8_init_58 : decode cX8_init 58 = .ok (.aload_n 0, 1) := by decide +kernel
theorem dX8_init_59 : decode cX8_init 59 = .ok (.bipush 12, 2) := by decide +kernel
theorem dX8_init_61 : decode cX8_init 61 = .ok (.newarray .int, 2) := by decide +kernel
theorem dX8_init_63 : decode cX8_init 63 = .ok (.putfield 33, 3) := by decide +kernel
theorem dX8_init_66 : decode cX8_init 66 = .ok (.aload_n 0, 1) := by decide +kernel
theorem dX8_init_67 : decode cX8_init 67 = .ok (.bipush 51, 2) := by decide +kernel
theorem dX8_init_69 : decode cX8_init 69 = .ok (.newarray .int, 2) := by decide +kernel
theorem dX8_init_71 : decode cX8_init 71 = .ok (.putfield 36, 3) := by decide +kernel
theorem dX8_init_74 : decode cX8_init 74 = .ok (.aload_n 0, 1) := by decide +kernel
theorem dX8_init_75 : decode cX8_init 75 = .ok (.bipush 10, 2) := by decide +kernel
theorem dX8_init_77 : decode cX8_init 77 = .ok (.newarray .int, 2) := by decide +kernel
theorem dX8_init_79 : decode cX8_init 79 = .ok (.putfield 39, 3) := by decide +kernel
theorem dX8_init_82 : decode cX8_init 82 = .ok (.aload_n 0, 1) := by decide +kernel
theorem dX8_init_83 : decode cX8_init 83 = .ok (.bipush 10, 2) := by decide +kernel
theorem dX8_init_85 : decode cX8_init 85 = .ok (.newarray .int, 2) := by decide +kernel
theorem dX8_init_87 : decode cX8_init 87 = .ok (.putfield 42, 3) := by decide +kernel
theorem dX8_init_90 : decode cX8_init 90 = .ok (.aload_n 0, 1) := by decide +kernel
theorem dX8_init_91 : decode cX8_init 91 = .ok (.bipush 10, 2) := by decide +kernel
theorem dX8_init_93 : decode cX8_init 93 = .ok (.newarray .int, 2) := by decide +kernel
theorem dX8_init_95 : decode cX8_init 95 = .ok (.putfield 45, 3) := by decide +kernel
theorem dX8_init_98 : decode cX8_init 98 = .ok (.aload_n 0, 1) := by decide +kernel
theorem dX8_init_99 : decode cX8_init 99 = .ok (.bipush 10, 2) := by decide +kernel
theorem dX8_init_101 : decode cX8_init 101 = .ok (.newarray .int, 2) := by decide +kernel
theorem dX8_init_103 : decode cX8_init 103 = .ok (.putfield 48, 3) := by decide +kernel
theorem dX8_init_106 : decode cX8_init 106 = .ok (.aload_n 0, 1) := by decide +kernel
theorem dX8_init_107 : decode cX8_init 107 = .ok (.bipush 15, 2) := by decide +kernel
theorem dX8_init_109 : decode cX8_init 109 = .ok (.newarray .int, 2) := by decide +kernel
theorem dX8_init_111 : decode cX8_init 111 = .ok (.putfield 51, 3) := by decide +kernel
theorem dX8_init_114 : decode cX8_init 114 = .ok (.aload_n 0, 1) := by decide +kernel
theorem dX8_init_115 : decode cX8_init 115 = .ok (.bipush 15, 2) := by decide +kernel
theorem dX8_init_117 : decode cX8_init 117 = .ok (.newarray .int, 2) := by decide +kernel
theorem dX8_init_119 : decode cX8_init 119 = .ok (.putfield 54, 3) := by decide +kernel
theorem dX8_init_122 : decode cX8_init 122 = .ok (.aload_n 0, 1) := by decide +kernel
theorem dX8_init_123 : decode cX8_init 123 = .ok (.invokevirtual 57, 3) := by decide +kernel
theorem dX8_init_126 : decode cX8_init 126 = .ok (.iconst 0, 1) := by decide +kernel
theorem dX8_init_127 : decode cX8_init 127 = .ok (.istore_n 1, 1) := by decide +kernel
theorem dX8_init_128 : decode cX8_init 128 = .ok (.iload_n 1, 1) := by decide +kernel
theorem dX8_init_129 : decode cX8_init 129 = .ok (.bipush 9, 2) := by decide +kernel
theorem dX8_init_131 : decode cX8_init 131 = .ok (.if_icmp .ge 24, 3) := by decide +kernel
theorem dX8_init_134 : decode cX8_init 134 = .ok (.aload_n 0, 1) := by decide +kernel
theorem dX8_init_135 : decode cX8_init 135 = .ok (.getfield 13, 3) := by decide +kernel
theorem dX8_init_138 : decode cX8_init 138 = .ok (.iload_n 1, 1) := by decide +kernel
theorem dX8_init_139 : decode cX8_init 139 = .ok (.aload_n 0, 1) := by decide +kernel
theorem dX8_init_140 : decode cX8_init 140 = .ok (.getfield 13, 3) := by decide +kernel
theorem dX8_init_143 : decode cX8_init 143 = .ok (.bipush 9, 2) := by decide +kernel
theorem dX8_init_145 : decode cX8_init 145 = .ok (.iload_n 1, 1) := by decide +kernel
theorem dX8_init_146 : decode cX8_init 146 = .ok (.iadd, 1) := by decide +kernel
theorem dX8_init_147 : decode cX8_init 147 = .ok (.iaload, 1) := by decide +kernel
theorem dX8_init_148 : decode cX8_init 148 = .ok (.iastore, 1) := by decide +kernel
theorem dX8_init_149 : decode cX8_init 149 = .ok (.iinc 1 1, 3) := by decide +kernel
theorem dX8_init_152 : decode cX8_init 152 = .ok (.goto (-24), 3) := by decide +kernel
theorem dX8_init_155 : decode cX8_init 155 = .ok (.aload_n 0, 1) := by decide +kernel
theorem dX8_init_156 : decode cX8_init 156 = .ok (.getfield 7, 3) := by decide +kernel
theorem dX8_init_159 : decode cX8_init 159 = .ok (.bipush 48, 2) := by decide +kernel
theorem dX8_init_161 : decode cX8_init 161 = .ok (.iconst 4, 1) := by decide +kernel
theorem dX8_init_162 : decode cX8_init 162 = .ok (.iastore, 1) := by decide +kernel
theorem dX8_init_163 : decode cX8_init 163 = .ok (.return_, 1) := by decide +kernel
theorem dX8_in_0 : decode cX8_in 0 = .ok (.lload_n 0, 1) := by decide +kernel
theorem dX8_in_1 : decode cX8_in 1 = .ok (.lload_n 2, 1) := by decide +kernel
theorem dX8_in_2 : decode cX8_in 2 = .ok (.lcmp, 1) := by decide +kernel
theorem dX8_in_3 : decode cX8_in 3 = .ok (.ifCond .lt 14, 3) := by decide +kernel
theorem dX8_in_6 : decode cX8_in 6 = .ok (.lload_n 0, 1) := by decide +kernel
theorem dX8_in_7 : decode cX8_in 7 = .ok (.lload 4, 2) := by decide +kernel
theorem dX8_in_9 : decode cX8_in 9 = .ok (.lcmp, 1) := by decide +kernel
theorem dX8_in_10 : decode cX8_in 10 = .ok (.ifCond .gt 7, 3) := by decide +kernel
theorem dX8_in_13 : decode cX8_in 13 = .ok (.iconst 1, 1) := by decide +kernel
theorem dX8_in_14 : decode cX8_in 14 = .ok (.goto 4, 3) := by decide +kernel
theorem dX8_in_17 : decode cX8_in 17 = .ok (.iconst 0, 1) := by decide +kernel
theorem dX8_in_18 : decode cX8_in 18 = .ok (.ireturn, 1) := by decide +kernel
set_option maxRecDepth 20000 in
theorem ggX8_isYard_X8_in : GoodIn wsX8_isYard wsX8_in := goodIn_r _ [5] (by decide +kernel) (by decide +kernel)
set_option maxRecDepth 20000 in
theorem gX8_isYard_X8_in : GoodIn wsX8_isYard (va_wsS RX8 63 yX8_in wsX8_in) := goodIn_app (goodIn_of _ (by decide +kernel)) ggX8_isYard_X8_in
theorem dX8_isYard_0 : decode cX8_isYard 0 = .ok (.iload_n 1, 1) := by decide +kernel
theorem dX8_isYard_1 : decode cX8_isYard 1 = .ok (.i2l, 1) := by decide +kernel
theorem dX8_isYard_2 : decode cX8_isYard 2 = .ok (.lconst 0, 1) := by decide +kernel
theorem dX8_isYard_3 : decode cX8_isYard 3 = .ok (.aload_n 0, 1) := by decide +kernel
theorem dX8_isYard_4 : decode cX8_isYard 4 = .ok (.getfield 60, 3) := by decide +kernel
theorem dX8_isYard_7 : decode cX8_isYard 7 = .ok (.iconst 1, 1) := by decide +kernel
theorem dX8_isYard_8 : decode cX8_isYard 8 = .ok (.isub, 1) := by decide +kernel
theorem dX8_isYard_9 : decode cX8_isYard 9 = .ok (.i2l, 1) := by decide +kernel
theorem dX8_isYard_10 : decode cX8_isYard 10 = .ok (.invokestatic 63, 3) := by decide +kernel
theorem dX8_isYard_13 : decode cX8_isYard 13 = .ok (.ireturn, 1) := by decide +kernel
set_option maxRecDepth 20000 in
theorem ggX8_isTime_X8_in : GoodIn wsX8_isTime wsX8_in := goodIn_r _ [5] (by decide +kernel) (by decide +kernel)
set_option maxRecDepth 20000 in
theorem gX8_isTime_X8_in : GoodIn wsX8_isTime (va_wsS RX8 63 yX8_in wsX8_in) := goodIn_app (goodIn_of _ (by decide +kernel)) ggX8_isTime_X8_in
theorem dX8_isTime_0 : decode cX8_isTime 0 = .ok (.iload_n 0, 1) := by decide +kernel
theorem dX8_isTime_1 : decode cX8_isTime 1 = .ok (.i2l, 1) := by decide +kernel
theorem dX8_isTime_2 : decode cX8_isTime 2 = .ok (.lconst 1, 1) := by decide +kernel
theorem dX8_isTime_3 : decode cX8_isTime 3 = .ok (.ldc2_w 67, 3) := by decide +kernel
theorem dX8_isTime_6 : decode cX8_isTime 6 = .ok (.invokestatic 63, 3) := by decide +kernel
theorem dX8_isTime_9 : decode cX8_isTime 9 = .ok (.ireturn, 1) := by decide +kernel
theorem dX8_copy_0 : decode cX8_copy 0 = .ok (.iconst 0, 1) := by decide +kernel
theorem dX8_copy_1 : decode cX8_copy 1 = .ok (.istore_n 3, 1) := by decide +kernel
theorem dX8_copy_2 : decode cX8_copy 2 = .ok (.iload_n 3, 1) := by decide +kernel
theorem dX8_copy_3 : decode cX8_copy 3 = .ok (.bipush 51, 2) := by decide +kernel
theorem dX8_copy_5 : decode cX8_copy 5 = .ok (.if_icmp .ge 25, 3) := by decide +kernel
theorem dX8_copy_8 : decode cX8_copy 8 = .ok (.aload_n 0, 1) := by decide +kernel
theorem dX8_copy_9 : decode cX8_copy 9 = .ok (.getfield 7, 3) := by decide +kernel
theorem dX8_copy_12 : decode cX8_copy 12 = .ok (.iload_n 2, 1) := by decide +kernel
theorem dX8_copy_13 : decode cX8_copy 13 = .ok (.iload_n 3, 1) := by decide +kernel
theorem dX8_copy_14 : decode cX8_copy 14 = .ok (.iadd, 1) := by decide +kernel
theorem dX8_copy_15 : decode cX8_copy 15 = .ok (.aload_n 0, 1) := by decide +kernel
theorem dX8_copy_16 : decode cX8_copy 16 = .ok (.getfield 7, 3) := by decide +kernel
theorem dX8_copy_19 : decode cX8_copy 19 = .ok (.iload_n 1, 1) := by decide +kernel
theorem dX8_copy_20 : decode cX8_copy 20 = .ok (.iload_n 3, 1) := by decide +kernel
theorem dX8_copy_21 : decode cX8_copy 21 = .ok (.iadd, 1) := by decide +kernel
theorem dX8_copy_22 : decode cX8_copy 22 = .ok (.iaload, 1) := by decide +kernel
theorem dX8_copy_23 : decode cX8_copy 23 = .ok (.iastore, 1) := by decide +kernel
theorem dX8_copy_24 : decode cX8_copy 24 = .ok (.iinc 3 1, 3) := by decide +kernel
theorem dX8_copy_27 : decode cX8_copy 27 = .ok (.goto (-25), 3) := by decide +kernel
theorem dX8_copy_30 : decode cX8_copy 30 = .ok (.return_, 1) := by decide +kernel
theorem dX8_reads_0 : decode cX8_reads 0 = .ok (.aload_n 0, 1) := by decide +kernel
theorem dX8_reads_1 : decode cX8_reads 1 = .ok (.getfield 13, 3) := by decide +kernel
theorem dX8_reads_4 : decode cX8_reads 4 = .ok (.bipush 9, 2) := by decide +kernel
theorem dX8_reads_6 : decode cX8_reads 6 = .ok (.iconst 4, 1) := by decide +kernel
theorem dX8_reads_7 : decode cX8_reads 7 = .ok (.iastore, 1) := by decide +kernel
theorem dX8_reads_8 : decode cX8_reads 8 = .ok (.aload_n 0, 1) := by decide +kernel
theorem dX8_reads_9 : decode cX8_reads 9 = .ok (.getfield 13, 3) := by decide +kernel
theorem dX8_reads_12 : decode cX8_reads 12 = .ok (.bipush 10, 2) := by decide +kernel
theorem dX8_reads_14 : decode cX8_reads 14 = .ok (.bipush 10, 2) := by decide +kernel
theorem dX8_reads_16 : decode cX8_reads 16 = .ok (.iastore, 1) := by decide +kernel
theorem dX8_reads_17 : decode cX8_reads 17 = .ok (.aload_n 0, 1) := by decide +kernel
theorem dX8_reads_18 : decode cX8_reads 18 = .ok (.getfield 13, 3) := by decide +kernel
theorem dX8_reads_21 : decode cX8_reads 21 = .ok (.bipush 11, 2) := by decide +kernel
theorem dX8_reads_23 : decode cX8_reads 23 = .ok (.iconst 4, 1) := by decide +kernel
theorem dX8_reads_24 : decode cX8_reads 24 = .ok (.iastore, 1) := by decide +kernel
theorem dX8_reads_25 : decode cX8_reads 25 = .ok (.aload_n 0, 1) := by decide +kernel
theorem dX8_reads_26 : decode cX8_reads 26 = .ok (.getfield 13, 3) := by decide +kernel
theorem dX8_reads_29 : decode cX8_reads 29 = .ok (.bipush 12, 2) := by decide +kernel
theorem dX8_reads_31 : decode cX8_reads 31 = .ok (.iconst 0, 1) := by decide +kernel
theorem dX8_reads_32 : decode cX8_reads 32 = .ok (.iastore, 1) := by decide +kernel
theorem dX8_reads_33 : decode cX8_reads 33 = .ok (.aload_n 0, 1) := by decide +kernel
theorem dX8_reads_34 : decode cX8_reads 34 = .ok (.getfield 13, 3) := by decide +kernel
theorem dX8_reads_37 : decode cX8_reads 37 = .ok (.bipush 13, 2) := by decide +kernel
theorem dX8_reads_39 : decode cX8_reads 39 = .ok (.bipush 60, 2) := by decide +kernel
theorem dX8_reads_41 : decode cX8_reads 41 = .ok (.iastore, 1) := by decide +kernel
theorem dX8_reads_42 : decode cX8_reads 42 = .ok (.aload_n 0, 1) := by decide +kernel
theorem dX8_reads_43 : decode cX8_reads 43 = .ok (.getfield 13, 3) := by decide +kernel
theorem dX8_reads_46 : decode cX8_reads 46 = .ok (.bipush 14, 2) := by decide +kernel
theorem dX8_reads_48 : decode cX8_reads 48 = .ok (.bipush 20, 2) := by decide +kernel
theorem dX8_reads_50 : decode cX8_reads 50 = .ok (.iastore, 1) := by decide +kernel
theorem dX8_reads_51 : decode cX8_reads 51 = .ok (.aload_n 0, 1) := by decide +kernel
theorem dX8_reads_52 : decode cX8_reads 52 = .ok (.getfield 13, 3) := by decide +kernel
theorem dX8_reads_55 : decode cX8_reads 55 = .ok (.bipush 15, 2) := by decide +kernel
theorem dX8_reads_57 : decode cX8_reads 57 = .ok (.iconst 3, 1) := by decide +kernel
theorem dX8_reads_58 : decode cX8_reads 58 = .ok (.iastore, 1) := by decide +kernel
theorem dX8_reads_59 : decode cX8_reads 59 = .ok (.aload_n 0, 1) := by decide +kernel
theorem dX8_reads_60 : decode cX8_reads 60 = .ok (.getfield 13, 3) := by decide +kernel
theorem dX8_reads_63 : decode cX8_reads 63 = .ok (.bipush 16, 2) := by decide +kernel
theorem dX8_reads_65 : decode cX8_reads 65 = .ok (.bipush 10, 2) := by decide +kernel
theorem dX8_reads_67 : decode cX8_reads 67 = .ok (.iastore, 1) := by decide +kernel
theorem dX8_reads_68 : decode cX8_reads 68 = .ok (.aload_n 0, 1) := by decide +kernel
theorem dX8_reads_69 : decode cX8_reads 69 = .ok (.getfield 13, 3) := by decide +kernel
theorem dX8_reads_72 : decode cX8_reads 72 = .ok (.bipush 17, 2) := by decide +kernel
theorem dX8_reads_74 : decode cX8_reads 74 = .ok (.bipush 50, 2) := by decide +kernel
theorem dX8_reads_76 : decode cX8_reads 76 = .ok (.iastore, 1) := by decide +kernel
theorem dX8_reads_77 : decode cX8_reads 77 = .ok (.aload_n 0, 1) := by decide +kernel
theorem dX8_reads_78 : decode cX8_reads 78 = .ok (.iconst 0, 1) := by decide +kernel
theorem dX8_reads_79 : decode cX8_reads 79 = .ok (.putfield 69, 3) := by decide +kernel
theorem dX8_reads_82 : decode cX8_reads 82 = .ok (.aload_n 0, 1) := by decide +kernel
theorem dX8_reads_83 : decode cX8_reads 83 = .ok (.iconst 0, 1) := by decide +kernel
theorem dX8_reads_84 : decode cX8_reads 84 = .ok (.putfield 72, 3) := by decide +kernel
theorem dX8_reads_87 : decode cX8_reads 87 = .ok (.aload_n 0, 1) := by decide +kernel
theorem dX8_reads_88 : decode cX8_reads 88 = .ok (.iconst 0, 1) := by decide +kernel
theorem dX8_reads_89 : decode cX8_reads 89 = .ok (.putfield 75, 3) := by decide +kernel
theorem dX8_reads_92 : decode cX8_reads 92 = .ok (.aload_n 0, 1) := by decide +kernel
theorem dX8_reads_93 : decode cX8_reads 93 = .ok (.iconst 0, 1) := by decide +kernel
theorem dX8_reads_94 : decode cX8_reads 94 = .ok (.putfield 78, 3) := by decide +kernel
theorem dX8_reads_97 : decode cX8_reads 97 = .ok (.aload_n 0, 1) := by decide +kernel
theorem dX8_reads_98 : decode cX8_reads 98 = .ok (.iconst (-1), 1) := by decide +kernel
theorem dX8_reads_99 : decode cX8_reads 99 = .ok (.putfield 23, 3) := by decide +kernel
theorem dX8_reads_102 : decode cX8_reads 102 = .ok (.return_, 1) := by decide +kernel
set_option maxRecDepth 20000 in
theorem ggX8_feed_X8_in : GoodIn wsX8_feed wsX8_in := goodIn_r _ [9] (by decide +kernel) (by decide +kernel)
set_option maxRecDepth 20000 in
theorem gX8_feed_X8_in : GoodIn wsX8_feed (va_wsS RX8 63 yX8_in wsX8_in) := goodIn_app (goodIn_of _ (by decide +kernel)) ggX8_feed_X8_in
theorem dX8_feed_0 : decode cX8_feed 0 = .ok (.iload_n 1, 1) := by decide +kernel
theorem dX8_feed_1 : decode cX8_feed 1 = .ok (.i2l, 1) := by decide +kernel
theorem dX8_feed_2 : decode cX8_feed 2 = .ok (.lconst 0, 1) := by decide +kernel
theorem dX8_feed_3 : decode cX8_feed 3 = .ok (.ldc2_w 81, 3) := by decide +kernel
theorem dX8_feed_6 : decode cX8_feed 6 = .ok (.invokestatic 63, 3) := by decide +kernel
theorem dX8_feed_9 : decode cX8_feed 9 = .ok (.ifCond .ne 6, 3) := by decide +kernel
theorem dX8_feed_12 : decode cX8_feed 12 = .ok (.ldc 83, 2) := by decide +kernel
theorem dX8_feed_14 : decode cX8_feed 14 = .ok (.ireturn, 1) := by decide +kernel
theorem dX8_feed_15 : decode cX8_feed 15 = .ok (.aload_n 0, 1) := by decide +kernel
theorem dX8_feed_16 : decode cX8_feed 16 = .ok (.getfield 84, 3) := by decide +kernel
theorem dX8_feed_19 : decode cX8_feed 19 = .ok (.sipush 230, 3) := by decide +kernel
theorem dX8_feed_22 : decode cX8_feed 22 = .ok (.if_icmp .ne 6, 3) := by decide +kernel
theorem dX8_feed_25 : decode cX8_feed 25 = .ok (.ldc 87, 2) := by decide +kernel
theorem dX8_feed_27 : decode cX8_feed 27 = .ok (.ireturn, 1) := by decide +kernel
theorem dX8_feed_28 : decode cX8_feed 28 = .ok (.aload_n 0, 1) := by decide +kernel
theorem dX8_feed_29 : decode cX8_feed 29 = .ok (.getfield 20, 3) := by decide +kernel
theorem dX8_feed_32 : decode cX8_feed 32 = .ok (.aload_n 0, 1) := by decide +kernel
theorem dX8_feed_33 : decode cX8_feed 33 = .ok (.getfield 84, 3) := by decide +kernel
theorem dX8_feed_36 : decode cX8_feed 36 = .ok (.iload_n 1, 1) := by decide +kernel
theorem dX8_feed_37 : decode cX8_feed 37 = .ok (.iastore, 1) := by decide +kernel
theorem dX8_feed_38 : decode cX8_feed 38 = .ok (.aload_n 0, 1) := by decide +kernel
theorem dX8_feed_39 : decode cX8_feed 39 = .ok (.dup, 1) := by decide +kernel
theorem dX8_feed_40 : decode cX8_feed 40 = .ok (.getfield 84, 3) := by decide +kernel
theorem dX8_feed_43 : decode cX8_feed 43 = .ok (.iconst 1, 1) := by decide +kernel
theorem dX8_feed_44 : decode cX8_feed 44 = .ok (.iadd, 1) := by decide +kernel
theorem dX8_feed_45 : decode cX8_feed 45 = .ok (.putfield 84, 3) := by decide +kernel
theorem dX8_feed_48 : decode cX8_feed 48 = .ok (.aload_n 0, 1) := by decide +kernel
theorem dX8_feed_49 : decode cX8_feed 49 = .ok (.getfield 84, 3) := by decide +kernel
theorem dX8_feed_52 : decode cX8_feed 52 = .ok (.ireturn, 1) := by decide +kernel
theorem dX8_letterAt_0 : decode cX8_letterAt 0 = .ok (.iload_n 1, 1) := by decide +kernel
theorem dX8_letterAt_1 : decode cX8_letterAt 1 = .ok (.aload_n 0, 1) := by decide +kernel
theorem dX8_letterAt_2 : decode cX8_letterAt 2 = .ok (.getfield 84, 3) := by decide +kernel
theorem dX8_letterAt_5 : decode cX8_letterAt 5 = .ok (.if_icmp .ge 12, 3) := by decide +kernel
theorem dX8_letterAt_8 : decode cX8_letterAt 8 = .ok (.aload_n 0, 1) := by decide +kernel
theorem dX8_letterAt_9 : decode cX8_letterAt 9 = .ok (.getfield 20, 3) := by decide +kernel
theorem dX8_letterAt_12 : decode cX8_letterAt 12 = .ok (.iload_n 1, 1) := by decide +kernel
theorem dX8_letterAt_13 : decode cX8_letterAt 13 = .ok (.iaload, 1) := by decide +kernel
theorem dX8_letterAt_14 : decode cX8_letterAt 14 = .ok (.goto 4, 3) := by decide +kernel
theorem dX8_letterAt_17 : decode cX8_letterAt 17 = .ok (.iconst (-1), 1) := by decide +kernel
theorem dX8_letterAt_18 : decode cX8_letterAt 18 = .ok (.ireturn, 1) := by decide +kernel
set_option maxRecDepth 20000 in
theorem ggX8_here_X8_letterAt : GoodIn wsX8_here wsX8_letterAt := goodIn_r _ [7, 8, 9, 10, 11, 12, 13, 14, 15, 16, 17, 18, 19, 20, 21, 22, 23, 24, 25, 26, 27, 28, 29, 30, 31, 32, 33, 34, 35, 36, 37] (by decide +kernel) (by decide +kernel)
set_option maxRecDepth 20000 in
theorem gX8_here_X8_letterAt : GoodIn wsX8_here (wsV RX8 88 RX8 yX8_letterAt wsX8_letterAt) := goodIn_app (goodIn_of _ (by decide +kernel)) ggX8_here_X8_letterAt
theorem dX8_here_0 : decode cX8_here 0 = .ok (.aload_n 0, 1) := by decide +kernel
theorem dX8_here_1 : decode cX8_here 1 = .ok (.aload_n 0, 1) := by decide +kernel
theorem dX8_here_2 : decode cX8_here 2 = .ok (.getfield 75, 3) := by decide +kernel
theorem dX8_here_5 : decode cX8_here 5 = .ok (.invokevirtual 88, 3) := by decide +kernel
theorem dX8_here_8 : decode cX8_here 8 = .ok (.bipush 32, 2) := by decide +kernel
theorem dX8_here_10 : decode cX8_here 10 = .ok (.if_icmp .ne 16, 3) := by decide +kernel
theorem dX8_here_13 : decode cX8_here 13 = .ok (.aload_n 0, 1) := by decide +kernel
theorem dX8_here_14 : decode cX8_here 14 = .ok (.dup, 1) := by decide +kernel
theorem dX8_here_15 : decode cX8_here 15 = .ok (.getfield 75, 3) := by decide +kernel
theorem dX8_here_18 : decode cX8_here 18 = .ok (.iconst 1, 1) := by decide +kernel
theorem dX8_here_19 : decode cX8_here 19 = .ok (.iadd, 1) := by decide +kernel
theorem dX8_here_20 : decode cX8_here 20 = .ok (.putfield 75, 3) := by decide +kernel
theorem dX8_here_23 : decode cX8_here 23 = .ok (.goto (-23), 3) := by decide +kernel
theorem dX8_here_26 : decode cX8_here 26 = .ok (.aload_n 0, 1) := by decide +kernel
theorem dX8_here_27 : decode cX8_here 27 = .ok (.aload_n 0, 1) := by decide +kernel
theorem dX8_here_28 : decode cX8_here 28 = .ok (.getfield 75, 3) := by decide +kernel
theorem dX8_here_31 : decode cX8_here 31 = .ok (.putfield 92, 3) := by decide +kernel
theorem dX8_here_34 : decode cX8_here 34 = .ok (.aload_n 0, 1) := by decide +kernel
theorem dX8_here_35 : decode cX8_here 35 = .ok (.aload_n 0, 1) := by decide +kernel
theorem dX8_here_36 : decode cX8_here 36 = .ok (.getfield 75, 3) := by decide +kernel
theorem dX8_here_39 : decode cX8_here 39 = .ok (.invokevirtual 88, 3) := by decide +kernel
theorem dX8_here_42 : decode cX8_here 42 = .ok (.ireturn, 1) := by decide +kernel
theorem dX8_fails_0 : decode cX8_fails 0 = .ok (.aload_n 0, 1) := by decide +kernel
theorem dX8_fails_1 : decode cX8_fails 1 = .ok (.iload_n 1, 1) := by decide +kernel
theorem dX8_fails_2 : decode cX8_fails 2 = .ok (.putfield 78, 3) := by decide +kernel
theorem dX8_fails_5 : decode cX8_fails 5 = .ok (.aload_n 0, 1) := by decide +kernel
theorem dX8_fails_6 : decode cX8_fails 6 = .ok (.iload_n 2, 1) := by decide +kernel
theorem dX8_fails_7 : decode cX8_fails 7 = .ok (.putfield 23, 3) := by decide +kernel
theorem dX8_fails_10 : decode cX8_fails 10 = .ok (.iconst 0, 1) := by decide +kernel
theorem dX8_fails_11 : decode cX8_fails 11 = .ok (.ireturn, 1) := by decide +kernel
set_option maxRecDepth 20000 in
theorem ggX8_takes_X8_here : GoodIn wsX8_takes wsX8_here := goodIn_r _ [7, 2, 1, 8, 9, 10, 6, 11, 12, 13, 20, 21, 22, 23, 24, 25, 26, 27, 28, 29, 30, 31, 32, 33, 34, 35, 36, 37, 38, 39, 40, 41, 42, 43, 44, 45, 46, 47] (by decide +kernel) (by decide +kernel)
set_option maxRecDepth 20000 in
theorem gX8_takes_X8_here : GoodIn wsX8_takes (wsV RX8 95 RX8 yX8_here wsX8_here) := goodIn_app (goodIn_of _ (by decide +kernel)) ggX8_takes_X8_here
set_option maxRecDepth 20000 in
theorem ggX8_takes_X8_fails : GoodIn wsX8_takes wsX8_fails := goodIn_r _ [17, 18, 19, 20, 21, 22, 23, 24, 25, 26, 27, 28, 29, 30, 31, 32, 33, 34, 35, 36, 37, 38, 39, 40, 41, 42, 43, 44, 45, 46, 47] (by decide +kernel) (by decide +kernel)
set_option maxRecDepth 20000 in
theorem gX8_takes_X8_fails : GoodIn wsX8_takes (wsV RX8 99 RX8 yX8_fails wsX8_fails) := goodIn_app (goodIn_of _ (by decide +kernel)) ggX8_takes_X8_fails
theorem dX8_takes_0 : decode cX8_takes 0 = .ok (.aload_n 0, 1) := by decide +kernel
theorem dX8_takes_1 : decode cX8_takes 1 = .ok (.invokevirtual 95, 3) := by decide +kernel
theorem dX8_takes_4 : decode cX8_takes 4 = .ok (.iload_n 1, 1) := by decide +kernel
theorem dX8_takes_5 : decode cX8_takes 5 = .ok (.if_icmp .eq 13, 3) := by decide +kernel
theorem dX8_takes_8 : decode cX8_takes 8 = .ok (.aload_n 0, 1) := by decide +kernel
theorem dX8_takes_9 : decode cX8_takes 9 = .ok (.iconst 1, 1) := by decide +kernel
theorem dX8_takes_10 : decode cX8_takes 10 = .ok (.aload_n 0, 1) := by decide +kernel
theorem dX8_takes_11 : decode cX8_takes 11 = .ok (.getfield 92, 3) := by decide +kernel
theorem dX8_takes_14 : decode cX8_takes 14 = .ok (.invokevirtual 99, 3) := by decide +kernel
theorem dX8_takes_17 : decode cX8_takes 17 = .ok (.ireturn, 1) := by decide +kernel
theorem dX8_takes_18 : decode cX8_takes 18 = .ok (.aload_n 0, 1) := by decide +kernel
theorem dX8_takes_19 : decode cX8_takes 19 = .ok (.dup, 1) := by decide +kernel
theorem dX8_takes_20 : decode cX8_takes 20 = .ok (.getfield 75, 3) := by decide +kernel
theorem dX8_takes_23 : decode cX8_takes 23 = .ok (.iconst 1, 1) := by decide +kernel
theorem dX8_takes_24 : decode cX8_takes 24 = .ok (.iadd, 1) := by decide +kernel
theorem dX8_takes_25 : decode cX8_takes 25 = .ok (.putfield 75, 3) := by decide +kernel
theorem dX8_takes_28 : decode cX8_takes 28 = .ok (.iconst 1, 1) := by decide +kernel
theorem dX8_takes_29 : decode cX8_takes 29 = .ok (.ireturn, 1) := by decide +kernel
set_option maxRecDepth 20000 in
theorem ggX8_takesNumber_X8_here : GoodIn wsX8_takesNumber wsX8_here := goodIn_r _ [10, 5, 3, 11, 12, 13, 9, 14, 15, 16, 26, 27, 28, 29, 30, 31, 32, 33, 34, 35, 36, 37, 38, 39, 40, 41, 42, 43, 44, 45, 46, 47, 48, 49, 50, 51, 52, 53] (by decide +kernel) (by decide +kernel)
set_option maxRecDepth 20000 in
theorem gX8_takesNumber_X8_here : GoodIn wsX8_takesNumber (wsV RX8 95 RX8 yX8_here wsX8_here) := goodIn_app (goodIn_of _ (by decide +kernel)) ggX8_takesNumber_X8_here
set_option maxRecDepth 20000 in
theorem ggX8_takesNumber_X8_in : GoodIn wsX8_takesNumber wsX8_in := goodIn_r _ [19] (by decide +kernel) (by decide +kernel)
set_option maxRecDepth 20000 in
theorem gX8_takesNumber_X8_in : GoodIn wsX8_takesNumber (va_wsS RX8 63 yX8_in wsX8_in) := goodIn_app (goodIn_of _ (by decide +kernel)) ggX8_takesNumber_X8_in
set_option maxRecDepth 20000 in
theorem ggX8_takesNumber_X8_fails : GoodIn wsX8_takesNumber wsX8_fails := goodIn_r _ [23, 24, 25, 26, 27, 28, 29, 30, 31, 32, 33, 34, 35, 36, 37, 38, 39, 40, 41, 42, 43, 44, 45, 46, 47, 48, 49, 50, 51, 52, 53] (by decide +kernel) (by decide +kernel)
set_option maxRecDepth 20000 in
theorem gX8_takesNumber_X8_fails : GoodIn wsX8_takesNumber (wsV RX8 99 RX8 yX8_fails wsX8_fails) := goodIn_app (goodIn_of _ (by decide +kernel)) ggX8_takesNumber_X8_fails
set_option maxRecDepth 20000 in
theorem ggX8_takesNumber_X8_letterAt : GoodIn wsX8_takesNumber wsX8_letterAt := goodIn_r _ [14, 15, 16, 26, 27, 28, 29, 30, 31, 32, 33, 34, 35, 36, 37, 38, 39, 40, 41, 42, 43, 44, 45, 46, 47, 48, 49, 50, 51, 52, 53] (by decide +kernel) (by decide +kernel)
set_option maxRecDepth 20000 in
theorem gX8_takesNumber_X8_letterAt : GoodIn wsX8_takesNumber (wsV RX8 88 RX8 yX8_letterAt wsX8_letterAt) := goodIn_app (goodIn_of _ (by decide +kernel)) ggX8_takesNumber_X8_letterAt
theorem dX8_takesNumber_0 : decode cX8_takesNumber 0 = .ok (.aload_n 0, 1) := by decide +kernel
theorem dX8_takesNumber_1 : decode cX8_takesNumber 1 = .ok (.invokevirtual 95, 3) := by decide +kernel
theorem dX8_takesNumber_4 : decode cX8_takesNumber 4 = .ok (.i2l, 1) := by decide +kernel
theorem dX8_takesNumber_5 : decode cX8_takesNumber 5 = .ok (.ldc2_w 103, 3) := by decide +kernel
theorem dX8_takesNumber_8 : decode cX8_takesNumber 8 = .ok (.ldc2_w 105, 3) := by decide +kernel
theorem dX8_takesNumber_11 : decode cX8_takesNumber 11 = .ok (.invokestatic 63, 3) := by decide +kernel
theorem dX8_takesNumber_14 : decode cX8_takesNumber 14 = .ok (.ifCond .ne 13, 3) := by decide +kernel
theorem dX8_takesNumber_17 : decode cX8_takesNumber 17 = .ok (.aload_n 0, 1) := by decide +kernel
theorem dX8_takesNumber_18 : decode cX8_takesNumber 18 = .ok (.iconst 1, 1) := by decide +kernel
theorem dX8_takesNumber_19 : decode cX8_takesNumber 19 = .ok (.aload_n 0, 1) := by decide +kernel
theorem dX8_takesNumber_20 : decode cX8_takesNumber 20 = .ok (.getfield 92, 3) := by decide +kernel
theorem dX8_takesNumber_23 : decode cX8_takesNumber 23 = .ok (.invokevirtual 99, 3) := by decide +kernel
theorem dX8_takesNumber_26 : decode cX8_takesNumber 26 = .ok (.ireturn, 1) := by decide +kernel
theorem dX8_takesNumber_27 : decode cX8_takesNumber 27 = .ok (.aload_n 0, 1) := by decide +kernel
theorem dX8_takesNumber_28 : decode cX8_takesNumber 28 = .ok (.iconst 0, 1) := by decide +kernel
theorem dX8_takesNumber_29 : decode cX8_takesNumber 29 = .ok (.putfield 107, 3) := by decide +kernel
theorem dX8_takesNumber_32 : decode cX8_takesNumber 32 = .ok (.aload_n 0, 1) := by decide +kernel
theorem dX8_takesNumber_33 : decode cX8_takesNumber 33 = .ok (.aload_n 0, 1) := by decide +kernel
theorem dX8_takesNumber_34 : decode cX8_takesNumber 34 = .ok (.getfield 75, 3) := by decide +kernel
theorem dX8_takesNumber_37 : decode cX8_takesNumber 37 = .ok (.invokevirtual 88, 3) := by decide +kernel
theorem dX8_takesNumber_40 : decode cX8_takesNumber 40 = .ok (.i2l, 1) := by decide +kernel
theorem dX8_takesNumber_41 : decode cX8_takesNumber 41 = .ok (.ldc2_w 103, 3) := by decide +kernel
theorem dX8_takesNumber_44 : decode cX8_takesNumber 44 = .ok (.ldc2_w 105, 3) := by decide +kernel
theorem dX8_takesNumber_47 : decode cX8_takesNumber 47 = .ok (.invokestatic 63, 3) := by decide +kernel
theorem dX8_takesNumber_50 : decode cX8_takesNumber 50 = .ok (.ifCond .eq 59, 3) := by decide +kernel
theorem dX8_takesNumber_53 : decode cX8_takesNumber 53 = .ok (.aload_n 0, 1) := by decide +kernel
theorem dX8_takesNumber_54 : decode cX8_takesNumber 54 = .ok (.aload_n 0, 1) := by decide +kernel
theorem dX8_takesNumber_55 : decode cX8_takesNumber 55 = .ok (.getfield 75, 3) := by decide +kernel
theorem dX8_takesNumber_58 : decode cX8_takesNumber 58 = .ok (.aload_n 0, 1) := by decide +kernel
theorem dX8_takesNumber_59 : decode cX8_takesNumber 59 = .ok (.getfield 92, 3) := by decide +kernel
theorem dX8_takesNumber_62 : decode cX8_takesNumber 62 = .ok (.isub, 1) := by decide +kernel
theorem dX8_takesNumber_63 : decode cX8_takesNumber 63 = .ok (.iconst 3, 1) := by decide +kernel
theorem dX8_takesNumber_64 : decode cX8_takesNumber 64 = .ok (.if_icmp .ge 25, 3) := by decide +kernel
theorem dX8_takesNumber_67 : decode cX8_takesNumber 67 = .ok (.bipush 10, 2) := by decide +kernel
theorem dX8_takesNumber_69 : decode cX8_takesNumber 69 = .ok (.aload_n 0, 1) := by decide +kernel
theorem dX8_takesNumber_70 : decode cX8_takesNumber 70 = .ok (.getfield 107, 3) := by decide +kernel
theorem dX8_takesNumber_73 : decode cX8_takesNumber 73 = .ok (.imul, 1) := by decide +kernel
theorem dX8_takesNumber_74 : decode cX8_takesNumber 74 = .ok (.aload_n 0, 1) := by decide +kernel
theorem dX8_takesNumber_75 : decode cX8_takesNumber 75 = .ok (.aload_n 0, 1) := by decide +kernel
theorem dX8_takesNumber_76 : decode cX8_takesNumber 76 = .ok (.getfield 75, 3) := by decide +kernel
theorem dX8_takesNumber_79 : decode cX8_takesNumber 79 = .ok (.invokevirtual 88, 3) := by decide +kernel
theorem dX8_takesNumber_82 : decode cX8_takesNumber 82 = .ok (.iadd, 1) := by decide +kernel
theorem dX8_takesNumber_83 : decode cX8_takesNumber 83 = .ok (.bipush 48, 2) := by decide +kernel
theorem dX8_takesNumber_85 : decode cX8_takesNumber 85 = .ok (.isub, 1) := by decide +kernel
theorem dX8_takesNumber_86 : decode cX8_takesNumber 86 = .ok (.goto 7, 3) := by decide +kernel
theorem dX8_takesNumber_89 : decode cX8_takesNumber 89 = .ok (.aload_n 0, 1) := by decide +kernel
theorem dX8_takesNumber_90 : decode cX8_takesNumber 90 = .ok (.getfield 107, 3) := by decide +kernel
theorem dX8_takesNumber_93 : decode cX8_takesNumber 93 = .ok (.putfield 107, 3) := by decide +kernel
theorem dX8_takesNumber_96 : decode cX8_takesNumber 96 = .ok (.aload_n 0, 1) := by decide +kernel
theorem dX8_takesNumber_97 : decode cX8_takesNumber 97 = .ok (.dup, 1) := by decide +kernel
theorem dX8_takesNumber_98 : decode cX8_takesNumber 98 = .ok (.getfield 75, 3) := by decide +kernel
theorem dX8_takesNumber_101 : decode cX8_takesNumber 101 = .ok (.iconst 1, 1) := by decide +kernel
theorem dX8_takesNumber_102 : decode cX8_takesNumber 102 = .ok (.iadd, 1) := by decide +kernel
theorem dX8_takesNumber_103 : decode cX8_takesNumber 103 = .ok (.putfield 75, 3) := by decide +kernel
theorem dX8_takesNumber_106 : decode cX8_takesNumber 106 = .ok (.goto (-74), 3) := by decide +kernel
theorem dX8_takesNumber_109 : decode cX8_takesNumber 109 = .ok (.aload_n 0, 1) := by decide +kernel
theorem dX8_takesNumber_110 : decode cX8_takesNumber 110 = .ok (.getfield 75, 3) := by decide +kernel
theorem dX8_takesNumber_113 : decode cX8_takesNumber 113 = .ok (.aload_n 0, 1) := by decide +kernel
theorem dX8_takesNumber_114 : decode cX8_takesNumber 114 = .ok (.getfield 92, 3) := by decide +kernel
theorem dX8_takesNumber_117 : decode cX8_takesNumber 117 = .ok (.isub, 1) := by decide +kernel
theorem dX8_takesNumber_118 : decode cX8_takesNumber 118 = .ok (.iconst 4, 1) := by decide +kernel
theorem dX8_takesNumber_119 : decode cX8_takesNumber 119 = .ok (.if_icmp .ge 18, 3) := by decide +kernel
theorem dX8_takesNumber_122 : decode cX8_takesNumber 122 = .ok (.aload_n 0, 1) := by decide +kernel
theorem dX8_takesNumber_123 : decode cX8_takesNumber 123 = .ok (.getfield 107, 3) := by decide +kernel
theorem dX8_takesNumber_126 : decode cX8_takesNumber 126 = .ok (.i2l, 1) := by decide +kernel
theorem dX8_takesNumber_127 : decode cX8_takesNumber 127 = .ok (.iload_n 1, 1) := by decide +kernel
theorem dX8_takesNumber_128 : decode cX8_takesNumber 128 = .ok (.i2l, 1) := by decide +kernel
theorem dX8_takesNumber_129 : decode cX8_takesNumber 129 = .ok (.iload_n 2, 1) := by decide +kernel
theorem dX8_takesNumber_130 : decode cX8_takesNumber 130 = .ok (.i2l, 1) := by decide +kernel
theorem dX8_takesNumber_131 : decode cX8_takesNumber 131 = .ok (.invokestatic 63, 3) := by decide +kernel
theorem dX8_takesNumber_134 : decode cX8_takesNumber 134 = .ok (.ifCond .ne 15, 3) := by decide +kernel
theorem dX8_takesNumber_137 : decode cX8_takesNumber 137 = .ok (.aload_n 0, 1) := by decide +kernel
theorem dX8_takesNumber_138 : decode cX8_takesNumber 138 = .ok (.iconst 2, 1) := by decide +kernel
theorem dX8_takesNumber_139 : decode cX8_takesNumber 139 = .ok (.aload_n 0, 1) := by decide +kernel
theorem dX8_takesNumber_140 : decode cX8_takesNumber 140 = .ok (.getfield 92, 3) := by decide +kernel
theorem dX8_takesNumber_143 : decode cX8_takesNumber 143 = .ok (.invokevirtual 99, 3) := by decide +kernel
theorem dX8_takesNumber_146 : decode cX8_takesNumber 146 = .ok (.ifCond .eq 7, 3) := by decide +kernel
theorem dX8_takesNumber_149 : decode cX8_takesNumber 149 = .ok (.iconst 1, 1) := by decide +kernel
theorem dX8_takesNumber_150 : decode cX8_takesNumber 150 = .ok (.goto 4, 3) := by decide +kernel
theorem dX8_takesNumber_153 : decode cX8_takesNumber 153 = .ok (.iconst 0, 1) := by decide +kernel
theorem dX8_takesNumber_154 : decode cX8_takesNumber 154 = .ok (.ireturn, 1) := by decide +kernel
set_option maxRecDepth 20000 in
theorem ggX8_tells_X8_takesNumber : GoodIn wsX8_tells wsX8_takesNumber := goodIn_r _ [7, 8, 9, 10, 2, 11, 12, 13, 14, 6, 15, 16, 17, 18, 19, 20, 21, 22, 23, 24, 25, 26, 27, 28, 29, 30, 31, 32, 33, 34, 35, 36, 37, 38, 39, 40, 41, 42, 43, 44, 45, 46, 47, 48, 49, 50, 51, 52, 53, 54, 55, 56, 57, 58] (by decide +kernel) (by decide +kernel)
set_option maxRecDepth 20000 in
theorem gX8_tells_X8_takesNumber : GoodIn wsX8_tells (wsV RX8 110 RX8 yX8_takesNumber wsX8_takesNumber) := goodIn_app (goodIn_of _ (by decide +kernel)) ggX8_tells_X8_takesNumber
theorem dX8_tells_0 : decode cX8_tells 0 = .ok (.aload_n 0, 1) := by decide +kernel
theorem dX8_tells_1 : decode cX8_tells 1 = .ok (.iload_n 2, 1) := by decide +kernel
theorem dX8_tells_2 : decode cX8_tells 2 = .ok (.iload_n 3, 1) := by decide +kernel
theorem dX8_tells_3 : decode cX8_tells 3 = .ok (.invokevirtual 110, 3) := by decide +kernel
theorem dX8_tells_6 : decode cX8_tells 6 = .ok (.istore 4, 2) := by decide +kernel
theorem dX8_tells_8 : decode cX8_tells 8 = .ok (.aload_n 0, 1) := by decide +kernel
theorem dX8_tells_9 : decode cX8_tells 9 = .ok (.getfield 13, 3) := by decide +kernel
theorem dX8_tells_12 : decode cX8_tells 12 = .ok (.bipush 9, 2) := by decide +kernel
theorem dX8_tells_14 : decode cX8_tells 14 = .ok (.iload_n 1, 1) := by decide +kernel
theorem dX8_tells_15 : decode cX8_tells 15 = .ok (.iadd, 1) := by decide +kernel
theorem dX8_tells_16 : decode cX8_tells 16 = .ok (.iload 4, 2) := by decide +kernel
theorem dX8_tells_18 : decode cX8_tells 18 = .ok (.ifCond .eq 10, 3) := by decide +kernel
theorem dX8_tells_21 : decode cX8_tells 21 = .ok (.aload_n 0, 1) := by decide +kernel
theorem dX8_tells_22 : decode cX8_tells 22 = .ok (.getfield 107, 3) := by decide +kernel
theorem dX8_tells_25 : decode cX8_tells 25 = .ok (.goto 12, 3) := by decide +kernel
theorem dX8_tells_28 : decode cX8_tells 28 = .ok (.aload_n 0, 1) := by decide +kernel
theorem dX8_tells_29 : decode cX8_tells 29 = .ok (.getfield 13, 3) := by decide +kernel
theorem dX8_tells_32 : decode cX8_tells 32 = .ok (.bipush 9, 2) := by decide +kernel
theorem dX8_tells_34 : decode cX8_tells 34 = .ok (.iload_n 1, 1) := by decide +kernel
theorem dX8_tells_35 : decode cX8_tells 35 = .ok (.iadd, 1) := by decide +kernel
theorem dX8_tells_36 : decode cX8_tells 36 = .ok (.iaload, 1) := by decide +kernel
theorem dX8_tells_37 : decode cX8_tells 37 = .ok (.iastore, 1) := by decide +kernel
theorem dX8_tells_38 : decode cX8_tells 38 = .ok (.iload 4, 2) := by decide +kernel
theorem dX8_tells_40 : decode cX8_tells 40 = .ok (.ireturn, 1) := by decide +kernel
set_option maxRecDepth 20000 in
theorem ggX8_takesYard_X8_takesNumber : GoodIn wsX8_takesYard wsX8_takesNumber := goodIn_r _ [9, 10, 11, 12, 3, 13, 14, 15, 16, 8, 17, 18, 19, 20, 21, 22, 23, 24, 25, 26, 27, 28, 29, 30, 31, 32, 33, 34, 35, 36, 37, 38, 39, 40, 41, 42, 43, 44, 45, 46, 47, 48, 49, 50, 51, 52, 53, 54, 55, 56, 57, 58, 59, 60] (by decide +kernel) (by decide +kernel)
set_option maxRecDepth 20000 in
theorem gX8_takesYard_X8_takesNumber : GoodIn wsX8_takesYard (wsV RX8 110 RX8 yX8_takesNumber wsX8_takesNumber) := goodIn_app (goodIn_of _ (by decide +kernel)) ggX8_takesYard_X8_takesNumber
theorem dX8_takesYard_0 : decode cX8_takesYard 0 = .ok (.aload_n 0, 1) := by decide +kernel
theorem dX8_takesYard_1 : decode cX8_takesYard 1 = .ok (.iconst 0, 1) := by decide +kernel
theorem dX8_takesYard_2 : decode cX8_takesYard 2 = .ok (.iconst 3, 1) := by decide +kernel
theorem dX8_takesYard_3 : decode cX8_takesYard 3 = .ok (.invokevirtual 110, 3) := by decide +kernel
theorem dX8_takesYard_6 : decode cX8_takesYard 6 = .ok (.ifCond .ne 5, 3) := by decide +kernel
theorem dX8_takesYard_9 : decode cX8_takesYard 9 = .ok (.iconst 0, 1) := by decide +kernel
theorem dX8_takesYard_10 : decode cX8_takesYard 10 = .ok (.ireturn, 1) := by decide +kernel
theorem dX8_takesYard_11 : decode cX8_takesYard 11 = .ok (.aload_n 0, 1) := by decide +kernel
theorem dX8_takesYard_12 : decode cX8_takesYard 12 = .ok (.getfield 27, 3) := by decide +kernel
theorem dX8_takesYard_15 : decode cX8_takesYard 15 = .ok (.aload_n 0, 1) := by decide +kernel
theorem dX8_takesYard_16 : decode cX8_takesYard 16 = .ok (.getfield 69, 3) := by decide +kernel
theorem dX8_takesYard_19 : decode cX8_takesYard 19 = .ok (.aload_n 0, 1) := by decide +kernel
theorem dX8_takesYard_20 : decode cX8_takesYard 20 = .ok (.getfield 107, 3) := by decide +kernel
theorem dX8_takesYard_23 : decode cX8_takesYard 23 = .ok (.iastore, 1) := by decide +kernel
theorem dX8_takesYard_24 : decode cX8_takesYard 24 = .ok (.aload_n 0, 1) := by decide +kernel
theorem dX8_takesYard_25 : decode cX8_takesYard 25 = .ok (.iconst 0, 1) := by decide +kernel
theorem dX8_takesYard_26 : decode cX8_takesYard 26 = .ok (.bipush 99, 2) := by decide +kernel
theorem dX8_takesYard_28 : decode cX8_takesYard 28 = .ok (.invokevirtual 110, 3) := by decide +kernel
theorem dX8_takesYard_31 : decode cX8_takesYard 31 = .ok (.ifCond .ne 5, 3) := by decide +kernel
theorem dX8_takesYard_34 : decode cX8_takesYard 34 = .ok (.iconst 0, 1) := by decide +kernel
theorem dX8_takesYard_35 : decode cX8_takesYard 35 = .ok (.ireturn, 1) := by decide +kernel
theorem dX8_takesYard_36 : decode cX8_takesYard 36 = .ok (.aload_n 0, 1) := by decide +kernel
theorem dX8_takesYard_37 : decode cX8_takesYard 37 = .ok (.getfield 30, 3) := by decide +kernel
theorem dX8_takesYard_40 : decode cX8_takesYard 40 = .ok (.aload_n 0, 1) := by decide +kernel
theorem dX8_takesYard_41 : decode cX8_takesYard 41 = .ok (.getfield 69, 3) := by decide +kernel
theorem dX8_takesYard_44 : decode cX8_takesYard 44 = .ok (.aload_n 0, 1) := by decide +kernel
theorem dX8_takesYard_45 : decode cX8_takesYard 45 = .ok (.getfield 107, 3) := by decide +kernel
theorem dX8_takesYard_48 : decode cX8_takesYard 48 = .ok (.iastore, 1) := by decide +kernel
theorem dX8_takesYard_49 : decode cX8_takesYard 49 = .ok (.aload_n 0, 1) := by decide +kernel
theorem dX8_takesYard_50 : decode cX8_takesYard 50 = .ok (.dup, 1) := by decide +kernel
theorem dX8_takesYard_51 : decode cX8_takesYard 51 = .ok (.getfield 69, 3) := by decide +kernel
theorem dX8_takesYard_54 : decode cX8_takesYard 54 = .ok (.iconst 1, 1) := by decide +kernel
theorem dX8_takesYard_55 : decode cX8_takesYard 55 = .ok (.iadd, 1) := by decide +kernel
theorem dX8_takesYard_56 : decode cX8_takesYard 56 = .ok (.putfield 69, 3) := by decide +kernel
theorem dX8_takesYard_59 : decode cX8_takesYard 59 = .ok (.iconst 1, 1) := by decide +kernel
theorem dX8_takesYard_60 : decode cX8_takesYard 60 = .ok (.ireturn, 1) := by decide +kernel
set_option maxRecDepth 20000 in
theorem ggX8_takesYards_X8_takesYard : GoodIn wsX8_takesYards wsX8_takesYard := goodIn_r _ [8, 9, 1, 10, 11, 12, 13, 14, 7, 15, 16, 17, 2, 3, 18, 19, 20, 21, 22, 23, 24, 25, 26, 27, 28, 29, 30, 31, 32, 33, 34, 35, 36, 37, 38, 39, 40, 41, 42, 43, 44, 45, 46, 47, 48, 49, 50, 51, 52, 53, 54, 55, 56, 57, 58, 59, 60, 61, 62, 63, 64] (by decide +kernel) (by decide +kernel)
set_option maxRecDepth 20000 in
theorem gX8_takesYards_X8_takesYard : GoodIn wsX8_takesYards (wsV RX8 113 RX8 yX8_takesYard wsX8_takesYard) := goodIn_app (goodIn_of _ (by decide +kernel)) ggX8_takesYards_X8_takesYard
set_option maxRecDepth 20000 in
theorem ggX8_takesYards_X8_here : GoodIn wsX8_takesYards wsX8_here := goodIn_r _ [21, 3, 2, 22, 23, 24, 7, 25, 26, 27, 37, 38, 39, 40, 41, 42, 43, 44, 45, 46, 47, 48, 49, 50, 51, 52, 53, 54, 55, 56, 57, 58, 59, 60, 61, 62, 63, 64] (by decide +kernel) (by decide +kernel)
set_option maxRecDepth 20000 in
theorem gX8_takesYards_X8_here : GoodIn wsX8_takesYards (wsV RX8 95 RX8 yX8_here wsX8_here) := goodIn_app (goodIn_of _ (by decide +kernel)) ggX8_takesYards_X8_here
set_option maxRecDepth 20000 in
theorem ggX8_takesYards_X8_fails : GoodIn wsX8_takesYards wsX8_fails := goodIn_r _ [34, 35, 36, 37, 38, 39, 40, 41, 42, 43, 44, 45, 46, 47, 48, 49, 50, 51, 52, 53, 54, 55, 56, 57, 58, 59, 60, 61, 62, 63, 64] (by decide +kernel) (by decide +kernel)
set_option maxRecDepth 20000 in
theorem gX8_takesYards_X8_fails : GoodIn wsX8_takesYards (wsV RX8 99 RX8 yX8_fails wsX8_fails) := goodIn_app (goodIn_of _ (by decide +kernel)) ggX8_takesYards_X8_fails
theorem dX8_takesYards_0 : decode cX8_takesYards 0 = .ok (.aload_n 0, 1) := by decide +kernel
theorem dX8_takesYards_1 : decode cX8_takesYards 1 = .ok (.invokevirtual 113, 3) := by decide +kernel
theorem dX8_takesYards_4 : decode cX8_takesYards 4 = .ok (.istore_n 1, 1) := by decide +kernel
theorem dX8_takesYards_5 : decode cX8_takesYards 5 = .ok (.iload_n 1, 1) := by decide +kernel
theorem dX8_takesYards_6 : decode cX8_takesYards 6 = .ok (.ifCond .eq 69, 3) := by decide +kernel
theorem dX8_takesYards_9 : decode cX8_takesYards 9 = .ok (.aload_n 0, 1) := by decide +kernel
theorem dX8_takesYards_10 : decode cX8_takesYards 10 = .ok (.invokevirtual 95, 3) := by decide +kernel
theorem dX8_takesYards_13 : decode cX8_takesYards 13 = .ok (.bipush 44, 2) := by decide +kernel
theorem dX8_takesYards_15 : decode cX8_takesYards 15 = .ok (.if_icmp .ne 60, 3) := by decide +kernel
theorem dX8_takesYards_18 : decode cX8_takesYards 18 = .ok (.aload_n 0, 1) := by decide +kernel
theorem dX8_takesYards_19 : decode cX8_takesYards 19 = .ok (.getfield 69, 3) := by decide +kernel
theorem dX8_takesYards_22 : decode cX8_takesYards 22 = .ok (.bipush 12, 2) := by decide +kernel
theorem dX8_takesYards_24 : decode cX8_takesYards 24 = .ok (.if_icmp .lt 15, 3) := by decide +kernel
theorem dX8_takesYards_27 : decode cX8_takesYards 27 = .ok (.aload_n 0, 1) := by decide +kernel
theorem dX8_takesYards_28 : decode cX8_takesYards 28 = .ok (.iconst 1, 1) := by decide +kernel
theorem dX8_takesYards_29 : decode cX8_takesYards 29 = .ok (.aload_n 0, 1) := by decide +kernel
theorem dX8_takesYards_30 : decode cX8_takesYards 30 = .ok (.getfield 92, 3) := by decide +kernel
theorem dX8_takesYards_33 : decode cX8_takesYards 33 = .ok (.invokevirtual 99, 3) := by decide +kernel
theorem dX8_takesYards_36 : decode cX8_takesYards 36 = .ok (.ifCond .eq 7, 3) := by decide +kernel
theorem dX8_takesYards_39 : decode cX8_takesYards 39 = .ok (.iconst 1, 1) := by decide +kernel
theorem dX8_takesYards_40 : decode cX8_takesYards 40 = .ok (.goto 4, 3) := by decide +kernel
theorem dX8_takesYards_43 : decode cX8_takesYards 43 = .ok (.iconst 0, 1) := by decide +kernel
theorem dX8_takesYards_44 : decode cX8_takesYards 44 = .ok (.istore_n 1, 1) := by decide +kernel
theorem dX8_takesYards_45 : decode cX8_takesYards 45 = .ok (.aload_n 0, 1) := by decide +kernel
theorem dX8_takesYards_46 : decode cX8_takesYards 46 = .ok (.dup, 1) := by decide +kernel
theorem dX8_takesYards_47 : decode cX8_takesYards 47 = .ok (.getfield 75, 3) := by decide +kernel
theorem dX8_takesYards_50 : decode cX8_takesYards 50 = .ok (.iconst 1, 1) := by decide +kernel
theorem dX8_takesYards_51 : decode cX8_takesYards 51 = .ok (.iadd, 1) := by decide +kernel
theorem dX8_takesYards_52 : decode cX8_takesYards 52 = .ok (.putfield 75, 3) := by decide +kernel
theorem dX8_takesYards_55 : decode cX8_takesYards 55 = .ok (.iload_n 1, 1) := by decide +kernel
theorem dX8_takesYards_56 : decode cX8_takesYards 56 = .ok (.ifCond .eq 14, 3) := by decide +kernel
theorem dX8_takesYards_59 : decode cX8_takesYards 59 = .ok (.aload_n 0, 1) := by decide +kernel
theorem dX8_takesYards_60 : decode cX8_takesYards 60 = .ok (.invokevirtual 113, 3) := by decide +kernel
theorem dX8_takesYards_63 : decode cX8_takesYards 63 = .ok (.ifCond .eq 7, 3) := by decide +kernel
theorem dX8_takesYards_66 : decode cX8_takesYards 66 = .ok (.iconst 1, 1) := by decide +kernel
theorem dX8_takesYards_67 : decode cX8_takesYards 67 = .ok (.goto 4, 3) := by decide +kernel
theorem dX8_takesYards_70 : decode cX8_takesYards 70 = .ok (.iconst 0, 1) := by decide +kernel
theorem dX8_takesYards_71 : decode cX8_takesYards 71 = .ok (.istore_n 1, 1) := by decide +kernel
theorem dX8_takesYards_72 : decode cX8_takesYards 72 = .ok (.goto (-67), 3) := by decide +kernel
theorem dX8_takesYards_75 : decode cX8_takesYards 75 = .ok (.iload_n 1, 1) := by decide +kernel
theorem dX8_takesYards_76 : decode cX8_takesYards 76 = .ok (.ireturn, 1) := by decide +kernel
set_option maxRecDepth 20000 in
theorem ggX8_takesClause_X8_here : GoodIn wsX8_takesClause wsX8_here := goodIn_r _ [8, 3, 2, 9, 10, 11, 7, 12, 13, 14, 51, 52, 53, 54, 55, 56, 57, 58, 59, 60, 61, 62, 63, 64, 65, 66, 67, 68, 69, 70, 71, 72, 73, 74, 75, 76, 77, 78] (by decide +kernel) (by decide +kernel)
set_option maxRecDepth 20000 in
theorem gX8_takesClause_X8_here : GoodIn wsX8_takesClause (wsV RX8 95 RX8 yX8_here wsX8_here) := goodIn_app (goodIn_of _ (by decide +kernel)) ggX8_takesClause_X8_here
set_option maxRecDepth 20000 in
theorem ggX8_takesClause_X8_fails : GoodIn wsX8_takesClause wsX8_fails := goodIn_r _ [18, 19, 20, 51, 52, 53, 54, 55, 56, 57, 58, 59, 60, 61, 62, 63, 64, 65, 66, 67, 68, 69, 70, 71, 72, 73, 74, 75, 76, 77, 78] (by decide +kernel) (by decide +kernel)
set_option maxRecDepth 20000 in
theorem gX8_takesClause_X8_fails : GoodIn wsX8_takesClause (wsV RX8 99 RX8 yX8_fails wsX8_fails) := goodIn_app (goodIn_of _ (by decide +kernel)) ggX8_takesClause_X8_fails
set_option maxRecDepth 20000 in
theorem ggX8_takesClause_X8_takesYards : GoodIn wsX8_takesClause wsX8_takesYards := goodIn_r _ [24, 25, 2, 3, 26, 27, 28, 7, 29, 30, 31, 32, 33, 34, 35, 36, 37, 38, 4, 5, 6, 8, 9, 10, 11, 12, 13, 14, 39, 40, 41, 15, 16, 17, 18, 19, 20, 51, 52, 53, 54, 55, 56, 57, 58, 59, 60, 61, 62, 63, 64, 65, 66, 67, 68, 69, 70, 71, 72, 73, 74, 75, 76, 77, 78] (by decide +kernel) (by decide +kernel)
set_option maxRecDepth 20000 in
theorem gX8_takesClause_X8_takesYards : GoodIn wsX8_takesClause (wsV RX8 117 RX8 yX8_takesYards wsX8_takesYards) := goodIn_app (goodIn_of _ (by decide +kernel)) ggX8_takesClause_X8_takesYards
set_option maxRecDepth 20000 in
theorem ggX8_takesClause_X8_tells : GoodIn wsX8_takesClause wsX8_tells := goodIn_r _ [45, 46, 31, 33, 34, 35, 7, 36, 37, 38, 2, 3, 4, 5, 6, 8, 9, 10, 11, 12, 13, 14, 39, 40, 41, 15, 16, 17, 18, 19, 20, 51, 52, 53, 54, 55, 56, 57, 58, 59, 60, 61, 62, 63, 64, 65, 66, 67, 68, 69, 70, 71, 72, 73, 74, 75, 76, 77, 78] (by decide +kernel) (by decide +kernel)
set_option maxRecDepth 20000 in
theorem gX8_takesClause_X8_tells : GoodIn wsX8_takesClause (wsV RX8 120 RX8 yX8_tells wsX8_tells) := goodIn_app (goodIn_of _ (by decide +kernel)) ggX8_takesClause_X8_tells
set_option maxRecDepth 20000 in
theorem ggX8_takesClause_X8_takes : GoodIn wsX8_takesClause wsX8_takes := goodIn_r _ [50, 2, 3, 4, 5, 6, 7, 8, 9, 10, 11, 12, 13, 14, 15, 16, 17, 18, 19, 20, 51, 52, 53, 54, 55, 56, 57, 58, 59, 60, 61, 62, 63, 64, 65, 66, 67, 68, 69, 70, 71, 72, 73, 74, 75, 76, 77, 78] (by decide +kernel) (by decide +kernel)
set_option maxRecDepth 20000 in
theorem gX8_takesClause_X8_takes : GoodIn wsX8_takesClause (wsV RX8 124 RX8 yX8_takes wsX8_takes) := goodIn_app (goodIn_of _ (by decide +kernel)) ggX8_takesClause_X8_takes
theorem dX8_takesClause_0 : decode cX8_takesClause 0 = .ok (.aload_n 0, 1) := by decide +kernel
theorem dX8_takesClause_1 : decode cX8_takesClause 1 = .ok (.invokevirtual 95, 3) := by decide +kernel
theorem dX8_takesClause_4 : decode cX8_takesClause 4 = .ok (.istore_n 1, 1) := by decide +kernel
theorem dX8_takesClause_5 : decode cX8_takesClause 5 = .ok (.iload_n 1, 1) := by decide +kernel
theorem dX8_takesClause_6 : decode cX8_takesClause 6 = .ok (.bipush 121, 2) := by decide +kernel
theorem dX8_takesClause_8 : decode cX8_takesClause 8 = .ok (.if_icmp .ne 7, 3) := by decide +kernel
theorem dX8_takesClause_11 : decode cX8_takesClause 11 = .ok (.iconst 1, 1) := by decide +kernel
theorem dX8_takesClause_12 : decode cX8_takesClause 12 = .ok (.goto 35, 3) := by decide +kernel
theorem dX8_takesClause_15 : decode cX8_takesClause 15 = .ok (.iload_n 1, 1) := by decide +kernel
theorem dX8_takesClause_16 : decode cX8_takesClause 16 = .ok (.bipush 98, 2) := by decide +kernel
theorem dX8_takesClause_18 : decode cX8_takesClause 18 = .ok (.if_icmp .ne 7, 3) := by decide +kernel
theorem dX8_takesClause_21 : decode cX8_takesClause 21 = .ok (.iconst 2, 1) := by decide +kernel
theorem dX8_takesClause_22 : decode cX8_takesClause 22 = .ok (.goto 25, 3) := by decide +kernel
theorem dX8_takesClause_25 : decode cX8_takesClause 25 = .ok (.iload_n 1, 1) := by decide +kernel
theorem dX8_takesClause_26 : decode cX8_takesClause 26 = .ok (.bipush 103, 2) := by decide +kernel
theorem dX8_takesClause_28 : decode cX8_takesClause 28 = .ok (.if_icmp .ne 7, 3) := by decide +kernel
theorem dX8_takesClause_31 : decode cX8_takesClause 31 = .ok (.iconst 4, 1) := by decide +kernel
theorem dX8_takesClause_32 : decode cX8_takesClause 32 = .ok (.goto 15, 3) := by decide +kernel
theorem dX8_takesClause_35 : decode cX8_takesClause 35 = .ok (.iload_n 1, 1) := by decide +kernel
theorem dX8_takesClause_36 : decode cX8_takesClause 36 = .ok (.bipush 99, 2) := by decide +kernel
theorem dX8_takesClause_38 : decode cX8_takesClause 38 = .ok (.if_icmp .ne 8, 3) := by decide +kernel
theorem dX8_takesClause_41 : decode cX8_takesClause 41 = .ok (.bipush 8, 2) := by decide +kernel
theorem dX8_takesClause_43 : decode cX8_takesClause 43 = .ok (.goto 4, 3) := by decide +kernel
theorem dX8_takesClause_46 : decode cX8_takesClause 46 = .ok (.iconst 0, 1) := by decide +kernel
theorem dX8_takesClause_47 : decode cX8_takesClause 47 = .ok (.istore_n 2, 1) := by decide +kernel
theorem dX8_takesClause_48 : decode cX8_takesClause 48 = .ok (.iload_n 2, 1) := by decide +kernel
theorem dX8_takesClause_49 : decode cX8_takesClause 49 = .ok (.ifCond .eq 15, 3) := by decide +kernel
theorem dX8_takesClause_52 : decode cX8_takesClause 52 = .ok (.aload_n 0, 1) := by decide +kernel
theorem dX8_takesClause_53 : decode cX8_takesClause 53 = .ok (.getfield 72, 3) := by decide +kernel
theorem dX8_takesClause_56 : decode cX8_takesClause 56 = .ok (.ifCond .ne 18, 3) := by decide +kernel
theorem dX8_takesClause_59 : decode cX8_takesClause 59 = .ok (.iload_n 2, 1) := by decide +kernel
theorem dX8_takesClause_60 : decode cX8_takesClause 60 = .ok (.iconst 1, 1) := by decide +kernel
theorem dX8_takesClause_61 : decode cX8_takesClause 61 = .ok (.if_icmp .le 13, 3) := by decide +kernel
theorem dX8_takesClause_64 : decode cX8_takesClause 64 = .ok (.aload_n 0, 1) := by decide +kernel
theorem dX8_takesClause_65 : decode cX8_takesClause 65 = .ok (.iconst 1, 1) := by decide +kernel
theorem dX8_takesClause_66 : decode cX8_takesClause 66 = .ok (.aload_n 0, 1) := by decide +kernel
theorem dX8_takesClause_67 : decode cX8_takesClause 67 = .ok (.getfield 92, 3) := by decide +kernel
theorem dX8_takesClause_70 : decode cX8_takesClause 70 = .ok (.invokevirtual 99, 3) := by decide +kernel
theorem dX8_takesClause_73 : decode cX8_takesClause 73 = .ok (.ireturn, 1) := by decide +kernel
theorem dX8_takesClause_74 : decode cX8_takesClause 74 = .ok (.aload_n 0, 1) := by decide +kernel
theorem dX8_takesClause_75 : decode cX8_takesClause 75 = .ok (.getfield 72, 3) := by decide +kernel
theorem dX8_takesClause_78 : decode cX8_takesClause 78 = .ok (.iload_n 2, 1) := by decide +kernel
theorem dX8_takesClause_79 : decode cX8_takesClause 79 = .ok (.iand, 1) := by decide +kernel
theorem dX8_takesClause_80 : decode cX8_takesClause 80 = .ok (.ifCond .eq 13, 3) := by decide +kernel
theorem dX8_takesClause_83 : decode cX8_takesClause 83 = .ok (.aload_n 0, 1) := by decide +kernel
theorem dX8_takesClause_84 : decode cX8_takesClause 84 = .ok (.iconst 3, 1) := by decide +kernel
theorem dX8_takesClause_85 : decode cX8_takesClause 85 = .ok (.aload_n 0, 1) := by decide +kernel
theorem dX8_takesClause_86 : decode cX8_takesClause 86 = .ok (.getfield 92, 3) := by decide +kernel
theorem dX8_takesClause_89 : decode cX8_takesClause 89 = .ok (.invokevirtual 99, 3) := by decide +kernel
theorem dX8_takesClause_92 : decode cX8_takesClause 92 = .ok (.ireturn, 1) := by decide +kernel
theorem dX8_takesClause_93 : decode cX8_takesClause 93 = .ok (.aload_n 0, 1) := by decide +kernel
theorem dX8_takesClause_94 : decode cX8_takesClause 94 = .ok (.dup, 1) := by decide +kernel
theorem dX8_takesClause_95 : decode cX8_takesClause 95 = .ok (.getfield 72, 3) := by decide +kernel
theorem dX8_takesClause_98 : decode cX8_takesClause 98 = .ok (.iload_n 2, 1) := by decide +kernel
theorem dX8_takesClause_99 : decode cX8_takesClause 99 = .ok (.ior, 1) := by decide +kernel
theorem dX8_takesClause_100 : decode cX8_takesClause 100 = .ok (.putfield 72, 3) := by decide +kernel
theorem dX8_takesClause_103 : decode cX8_takesClause 103 = .ok (.aload_n 0, 1) := by decide +kernel
theorem dX8_takesClause_104 : decode cX8_takesClause 104 = .ok (.dup, 1) := by decide +kernel
theorem dX8_takesClause_105 : decode cX8_takesClause 105 = .ok (.getfield 75, 3) := by decide +kernel
theorem dX8_takesClause_108 : decode cX8_takesClause 108 = .ok (.iconst 1, 1) := by decide +kernel
theorem dX8_takesClause_109 : decode cX8_takesClause 109 = .ok (.iadd, 1) := by decide +kernel
theorem dX8_takesClause_110 : decode cX8_takesClause 110 = .ok (.putfield 75, 3) := by decide +kernel
theorem dX8_takesClause_113 : decode cX8_takesClause 113 = .ok (.iload_n 1, 1) := by decide +kernel
theorem dX8_takesClause_114 : decode cX8_takesClause 114 = .ok (.lookupswitch 127 #[(98, 42), (103, 95), (121, 34)], 34) := by decide +kernel
theorem dX8_takesClause_148 : decode cX8_takesClause 148 = .ok (.aload_n 0, 1) := by decide +kernel
theorem dX8_takesClause_149 : decode cX8_takesClause 149 = .ok (.invokevirtual 117, 3) := by decide +kernel
theorem dX8_takesClause_152 : decode cX8_takesClause 152 = .ok (.istore_n 3, 1) := by decide +kernel
theorem dX8_takesClause_153 : decode cX8_takesClause 153 = .ok (.goto 131, 3) := by decide +kernel
theorem dX8_takesClause_156 : decode cX8_takesClause 156 = .ok (.aload_n 0, 1) := by decide +kernel
theorem dX8_takesClause_157 : decode cX8_takesClause 157 = .ok (.iconst 0, 1) := by decide +kernel
theorem dX8_takesClause_158 : decode cX8_takesClause 158 = .ok (.iconst 1, 1) := by decide +kernel
theorem dX8_takesClause_159 : decode cX8_takesClause 159 = .ok (.bipush 12, 2) := by decide +kernel
theorem dX8_takesClause_161 : decode cX8_takesClause 161 = .ok (.invokevirtual 120, 3) := by decide +kernel
theorem dX8_takesClause_164 : decode cX8_takesClause 164 = .ok (.ifCond .eq 40, 3) := by decide +kernel
theorem dX8_takesClause_167 : decode cX8_takesClause 167 = .ok (.aload_n 0, 1) := by decide +kernel
theorem dX8_takesClause_168 : decode cX8_takesClause 168 = .ok (.iconst 1, 1) := by decide +kernel
theorem dX8_takesClause_169 : decode cX8_takesClause 169 = .ok (.iconst 0, 1) := by decide +kernel
theorem dX8_takesClause_170 : decode cX8_takesClause 170 = .ok (.bipush 20, 2) := by decide +kernel
theorem dX8_takesClause_172 : decode cX8_takesClause 172 = .ok (.invokevirtual 120, 3) := by decide +kernel
theorem dX8_takesClause_175 : decode cX8_takesClause 175 = .ok (.ifCond .eq 29, 3) := by decide +kernel
theorem dX8_takesClause_178 : decode cX8_takesClause 178 = .ok (.aload_n 0, 1) := by decide +kernel
theorem dX8_takesClause_179 : decode cX8_takesClause 179 = .ok (.iconst 2, 1) := by decide +kernel
theorem dX8_takesClause_180 : decode cX8_takesClause 180 = .ok (.iconst 2, 1) := by decide +kernel
theorem dX8_takesClause_181 : decode cX8_takesClause 181 = .ok (.bipush 9, 2) := by decide +kernel
theorem dX8_takesClause_183 : decode cX8_takesClause 183 = .ok (.invokevirtual 120, 3) := by decide +kernel
theorem dX8_takesClause_186 : decode cX8_takesClause 186 = .ok (.ifCond .eq 18, 3) := by decide +kernel
theorem dX8_takesClause_189 : decode cX8_takesClause 189 = .ok (.aload_n 0, 1) := by decide +kernel
theorem dX8_takesClause_190 : decode cX8_takesClause 190 = .ok (.iconst 3, 1) := by decide +kernel
theorem dX8_takesClause_191 : decode cX8_takesClause 191 = .ok (.iconst 0, 1) := by decide +kernel
theorem dX8_takesClause_192 : decode cX8_takesClause 192 = .ok (.bipush 20, 2) := by decide +kernel
theorem dX8_takesClause_194 : decode cX8_takesClause 194 = .ok (.invokevirtual 120, 3) := by decide +kernel
theorem dX8_takesClause_197 : decode cX8_takesClause 197 = .ok (.ifCond .eq 7, 3) := by decide +kernel
theorem dX8_takesClause_200 : decode cX8_takesClause 200 = .ok (.iconst 1, 1) := by decide +kernel
theorem dX8_takesClause_201 : decode cX8_takesClause 201 = .ok (.goto 4, 3) := by decide +kernel
theorem dX8_takesClause_204 : decode cX8_takesClause 204 = .ok (.iconst 0, 1) := by decide +kernel
theorem dX8_takesClause_205 : decode cX8_takesClause 205 = .ok (.istore_n 3, 1) := by decide +kernel
theorem dX8_takesClause_206 : decode cX8_takesClause 206 = .ok (.goto 78, 3) := by decide +kernel
theorem dX8_takesClause_209 : decode cX8_takesClause 209 = .ok (.aload_n 0, 1) := by decide +kernel
theorem dX8_takesClause_210 : decode cX8_takesClause 210 = .ok (.iconst 4, 1) := by decide +kernel
theorem dX8_takesClause_211 : decode cX8_takesClause 211 = .ok (.iconst 1, 1) := by decide +kernel
theorem dX8_takesClause_212 : decode cX8_takesClause 212 = .ok (.sipush 999, 3) := by decide +kernel
theorem dX8_takesClause_215 : decode cX8_takesClause 215 = .ok (.invokevirtual 120, 3) := by decide +kernel
theorem dX8_takesClause_218 : decode cX8_takesClause 218 = .ok (.ifCond .eq 18, 3) := by decide +kernel
theorem dX8_takesClause_221 : decode cX8_takesClause 221 = .ok (.aload_n 0, 1) := by decide +kernel
theorem dX8_takesClause_222 : decode cX8_takesClause 222 = .ok (.iconst 5, 1) := by decide +kernel
theorem dX8_takesClause_223 : decode cX8_takesClause 223 = .ok (.iconst 0, 1) := by decide +kernel
theorem dX8_takesClause_224 : decode cX8_takesClause 224 = .ok (.bipush 99, 2) := by decide +kernel
theorem dX8_takesClause_226 : decode cX8_takesClause 226 = .ok (.invokevirtual 120, 3) := by decide +kernel
theorem dX8_takesClause_229 : decode cX8_takesClause 229 = .ok (.ifCond .eq 7, 3) := by decide +kernel
theorem dX8_takesClause_232 : decode cX8_takesClause 232 = .ok (.iconst 1, 1) := by decide +kernel
theorem dX8_takesClause_233 : decode cX8_takesClause 233 = .ok (.goto 4, 3) := by decide +kernel
theorem dX8_takesClause_236 : decode cX8_takesClause 236 = .ok (.iconst 0, 1) := by decide +kernel
theorem dX8_takesClause_237 : decode cX8_takesClause 237 = .ok (.istore_n 3, 1) := by decide +kernel
theorem dX8_takesClause_238 : decode cX8_takesClause 238 = .ok (.goto 46, 3) := by decide +kernel
theorem dX8_takesClause_241 : decode cX8_takesClause 241 = .ok (.aload_n 0, 1) := by decide +kernel
theorem dX8_takesClause_242 : decode cX8_takesClause 242 = .ok (.bipush 6, 2) := by decide +kernel
theorem dX8_takesClause_244 : decode cX8_takesClause 244 = .ok (.iconst 0, 1) := by decide +kernel
theorem dX8_takesClause_245 : decode cX8_takesClause 245 = .ok (.bipush 20, 2) := by decide +kernel
theorem dX8_takesClause_247 : decode cX8_takesClause 247 = .ok (.invokevirtual 120, 3) := by decide +kernel
theorem dX8_takesClause_250 : decode cX8_takesClause 250 = .ok (.ifCond .eq 32, 3) := by decide +kernel
theorem dX8_takesClause_253 : decode cX8_takesClause 253 = .ok (.aload_n 0, 1) := by decide +kernel
theorem dX8_takesClause_254 : decode cX8_takesClause 254 = .ok (.bipush 7, 2) := by decide +kernel
theorem dX8_takesClause_256 : decode cX8_takesClause 256 = .ok (.iconst 0, 1) := by decide +kernel
theorem dX8_takesClause_257 : decode cX8_takesClause 257 = .ok (.bipush 99, 2) := by decide +kernel
theorem dX8_takesClause_259 : decode cX8_takesClause 259 = .ok (.invokevirtual 120, 3) := by decide +kernel
theorem dX8_takesClause_262 : decode cX8_takesClause 262 = .ok (.ifCond .eq 20, 3) := by decide +kernel
theorem dX8_takesClause_265 : decode cX8_takesClause 265 = .ok (.aload_n 0, 1) := by decide +kernel
theorem dX8_takesClause_266 : decode cX8_takesClause 266 = .ok (.bipush 8, 2) := by decide +kernel
theorem dX8_takesClause_268 : decode cX8_takesClause 268 = .ok (.iconst 0, 1) := by decide +kernel
theorem dX8_takesClause_269 : decode cX8_takesClause 269 = .ok (.sipush 999, 3) := by decide +kernel
theorem dX8_takesClause_272 : decode cX8_takesClause 272 = .ok (.invokevirtual 120, 3) := by decide +kernel
theorem dX8_takesClause_275 : decode cX8_takesClause 275 = .ok (.ifCond .eq 7, 3) := by decide +kernel
theorem dX8_takesClause_278 : decode cX8_takesClause 278 = .ok (.iconst 1, 1) := by decide +kernel
theorem dX8_takesClause_279 : decode cX8_takesClause 279 = .ok (.goto 4, 3) := by decide +kernel
theorem dX8_takesClause_282 : decode cX8_takesClause 282 = .ok (.iconst 0, 1) := by decide +kernel
theorem dX8_takesClause_283 : decode cX8_takesClause 283 = .ok (.istore_n 3, 1) := by decide +kernel
theorem dX8_takesClause_284 : decode cX8_takesClause 284 = .ok (.iload_n 3, 1) := by decide +kernel
theorem dX8_takesClause_285 : decode cX8_takesClause 285 = .ok (.ifCond .eq 16, 3) := by decide +kernel
theorem dX8_takesClause_288 : decode cX8_takesClause 288 = .ok (.aload_n 0, 1) := by decide +kernel
theorem dX8_takesClause_289 : decode cX8_takesClause 289 = .ok (.bipush 59, 2) := by decide +kernel
theorem dX8_takesClause_291 : decode cX8_takesClause 291 = .ok (.invokevirtual 124, 3) := by decide +kernel
theorem dX8_takesClause_294 : decode cX8_takesClause 294 = .ok (.ifCond .eq 7, 3) := by decide +kernel
theorem dX8_takesClause_297 : decode cX8_takesClause 297 = .ok (.iconst 1, 1) := by decide +kernel
theorem dX8_takesClause_298 : decode cX8_takesClause 298 = .ok (.goto 4, 3) := by decide +kernel
theorem dX8_takesClause_301 : decode cX8_takesClause 301 = .ok (.iconst 0, 1) := by decide +kernel
theorem dX8_takesClause_302 : decode cX8_takesClause 302 = .ok (.ireturn, 1) := by decide +kernel
set_option maxRecDepth 20000 in
theorem ggX8_cut_X8_reads : GoodIn wsX8_cut wsX8_reads := goodIn_r _ [16, 8, 4, 17, 18, 2, 19, 64, 65, 66, 67, 68, 69, 70, 71, 72, 73, 74, 75, 76, 77, 78, 79, 80, 81, 82, 83, 84, 85, 86, 87, 88, 89, 90, 91] (by decide +kernel) (by decide +kernel)
set_option maxRecDepth 20000 in
theorem gX8_cut_X8_reads : GoodIn wsX8_cut (wsV RX8 57 RX8 yX8_reads wsX8_reads) := goodIn_app (goodIn_of _ (by decide +kernel)) ggX8_cut_X8_reads
set_option maxRecDepth 20000 in
theorem ggX8_cut_X8_here : GoodIn wsX8_cut wsX8_here := goodIn_r _ [23, 18, 24, 25, 26, 27, 15, 28, 1, 29, 64, 65, 66, 67, 68, 69, 70, 71, 72, 73, 74, 75, 76, 77, 78, 79, 80, 81, 82, 83, 84, 85, 86, 87, 88, 89, 90, 91] (by decide +kernel) (by decide +kernel)
set_option maxRecDepth 20000 in
theorem gX8_cut_X8_here : GoodIn wsX8_cut (wsV RX8 95 RX8 yX8_here wsX8_here) := goodIn_app (goodIn_of _ (by decide +kernel)) ggX8_cut_X8_here
set_option maxRecDepth 20000 in
theorem ggX8_cut_X8_takesClause : GoodIn wsX8_cut wsX8_takesClause := goodIn_r _ [33, 17, 24, 18, 20, 21, 22, 15, 23, 25, 26, 27, 28, 1, 29, 34, 35, 36, 37, 2, 19, 38, 39, 40, 41, 4, 42, 43, 44, 45, 6, 46, 7, 47, 48, 49, 50, 51, 52, 53, 54, 55, 56, 57, 58, 59, 8, 60, 61, 62, 63, 64, 65, 66, 67, 68, 69, 70, 71, 72, 73, 74, 75, 76, 77, 78, 79, 80, 81, 82, 83, 84, 85, 86, 87, 88, 89, 90, 91] (by decide +kernel) (by decide +kernel)
set_option maxRecDepth 20000 in
theorem gX8_cut_X8_takesClause : GoodIn wsX8_cut (wsV RX8 128 RX8 yX8_takesClause wsX8_takesClause) := goodIn_app (goodIn_of _ (by decide +kernel)) ggX8_cut_X8_takesClause
theorem dX8_cut_0 : decode cX8_cut 0 = .ok (.aload_n 0, 1) := by decide +kernel
theorem dX8_cut_1 : decode cX8_cut 1 = .ok (.invokevirtual 57, 3) := by decide +kernel
theorem dX8_cut_4 : decode cX8_cut 4 = .ok (.iconst 1, 1) := by decide +kernel
theorem dX8_cut_5 : decode cX8_cut 5 = .ok (.istore_n 1, 1) := by decide +kernel
theorem dX8_cut_6 : decode cX8_cut 6 = .ok (.iload_n 1, 1) := by decide +kernel
theorem dX8_cut_7 : decode cX8_cut 7 = .ok (.ifCond .eq 19, 3) := by decide +kernel
theorem dX8_cut_10 : decode cX8_cut 10 = .ok (.aload_n 0, 1) := by decide +kernel
theorem dX8_cut_11 : decode cX8_cut 11 = .ok (.invokevirtual 95, 3) := by decide +kernel
theorem dX8_cut_14 : decode cX8_cut 14 = .ok (.iconst (-1), 1) := by decide +kernel
theorem dX8_cut_15 : decode cX8_cut 15 = .ok (.if_icmp .eq 11, 3) := by decide +kernel
theorem dX8_cut_18 : decode cX8_cut 18 = .ok (.aload_n 0, 1) := by decide +kernel
theorem dX8_cut_19 : decode cX8_cut 19 = .ok (.invokevirtual 128, 3) := by decide +kernel
theorem dX8_cut_22 : decode cX8_cut 22 = .ok (.istore_n 1, 1) := by decide +kernel
theorem dX8_cut_23 : decode cX8_cut 23 = .ok (.goto (-17), 3) := by decide +kernel
theorem dX8_cut_26 : decode cX8_cut 26 = .ok (.aload_n 0, 1) := by decide +kernel
theorem dX8_cut_27 : decode cX8_cut 27 = .ok (.iconst 0, 1) := by decide +kernel
theorem dX8_cut_28 : decode cX8_cut 28 = .ok (.putfield 84, 3) := by decide +kernel
theorem dX8_cut_31 : decode cX8_cut 31 = .ok (.iload_n 1, 1) := by decide +kernel
theorem dX8_cut_32 : decode cX8_cut 32 = .ok (.ifCond .ne 11, 3) := by decide +kernel
theorem dX8_cut_35 : decode cX8_cut 35 = .ok (.bipush (-10), 2) := by decide +kernel
theorem dX8_cut_37 : decode cX8_cut 37 = .ok (.aload_n 0, 1) := by decide +kernel
theorem dX8_cut_38 : decode cX8_cut 38 = .ok (.getfield 78, 3) := by decide +kernel
theorem dX8_cut_41 : decode cX8_cut 41 = .ok (.isub, 1) := by decide +kernel
theorem dX8_cut_42 : decode cX8_cut 42 = .ok (.ireturn, 1) := by decide +kernel
theorem dX8_cut_43 : decode cX8_cut 43 = .ok (.aload_n 0, 1) := by decide +kernel
theorem dX8_cut_44 : decode cX8_cut 44 = .ok (.getfield 7, 3) := by decide +kernel
theorem dX8_cut_47 : decode cX8_cut 47 = .ok (.bipush 50, 2) := by decide +kernel
theorem dX8_cut_49 : decode cX8_cut 49 = .ok (.iaload, 1) := by decide +kernel
theorem dX8_cut_50 : decode cX8_cut 50 = .ok (.istore_n 2, 1) := by decide +kernel
theorem dX8_cut_51 : decode cX8_cut 51 = .ok (.iconst 0, 1) := by decide +kernel
theorem dX8_cut_52 : decode cX8_cut 52 = .ok (.istore_n 3, 1) := by decide +kernel
theorem dX8_cut_53 : decode cX8_cut 53 = .ok (.iload_n 3, 1) := by decide +kernel
theorem dX8_cut_54 : decode cX8_cut 54 = .ok (.bipush 51, 2) := by decide +kernel
theorem dX8_cut_56 : decode cX8_cut 56 = .ok (.if_icmp .ge 16, 3) := by decide +kernel
theorem dX8_cut_59 : decode cX8_cut 59 = .ok (.aload_n 0, 1) := by decide +kernel
theorem dX8_cut_60 : decode cX8_cut 60 = .ok (.getfield 7, 3) := by decide +kernel
theorem dX8_cut_63 : decode cX8_cut 63 = .ok (.iload_n 3, 1) := by decide +kernel
theorem dX8_cut_64 : decode cX8_cut 64 = .ok (.iconst 0, 1) := by decide +kernel
theorem dX8_cut_65 : decode cX8_cut 65 = .ok (.iastore, 1) := by decide +kernel
theorem dX8_cut_66 : decode cX8_cut 66 = .ok (.iinc 3 1, 3) := by decide +kernel
theorem dX8_cut_69 : decode cX8_cut 69 = .ok (.goto (-16), 3) := by decide +kernel
theorem dX8_cut_72 : decode cX8_cut 72 = .ok (.aload_n 0, 1) := by decide +kernel
theorem dX8_cut_73 : decode cX8_cut 73 = .ok (.getfield 7, 3) := by decide +kernel
theorem dX8_cut_76 : decode cX8_cut 76 = .ok (.bipush 50, 2) := by decide +kernel
theorem dX8_cut_78 : decode cX8_cut 78 = .ok (.iload_n 2, 1) := by decide +kernel
theorem dX8_cut_79 : decode cX8_cut 79 = .ok (.iastore, 1) := by decide +kernel
theorem dX8_cut_80 : decode cX8_cut 80 = .ok (.aload_n 0, 1) := by decide +kernel
theorem dX8_cut_81 : decode cX8_cut 81 = .ok (.getfield 7, 3) := by decide +kernel
theorem dX8_cut_84 : decode cX8_cut 84 = .ok (.bipush 48, 2) := by decide +kernel
theorem dX8_cut_86 : decode cX8_cut 86 = .ok (.iconst 4, 1) := by decide +kernel
theorem dX8_cut_87 : decode cX8_cut 87 = .ok (.iastore, 1) := by decide +kernel
theorem dX8_cut_88 : decode cX8_cut 88 = .ok (.aload_n 0, 1) := by decide +kernel
theorem dX8_cut_89 : decode cX8_cut 89 = .ok (.aload_n 0, 1) := by decide +kernel
theorem dX8_cut_90 : decode cX8_cut 90 = .ok (.getfield 69, 3) := by decide +kernel
theorem dX8_cut_93 : decode cX8_cut 93 = .ok (.putfield 60, 3) := by decide +kernel
theorem dX8_cut_96 : decode cX8_cut 96 = .ok (.iconst 0, 1) := by decide +kernel
theorem dX8_cut_97 : decode cX8_cut 97 = .ok (.istore_n 3, 1) := by decide +kernel
theorem dX8_cut_98 : decode cX8_cut 98 = .ok (.iload_n 3, 1) := by decide +kernel
theorem dX8_cut_99 : decode cX8_cut 99 = .ok (.aload_n 0, 1) := by decide +kernel
theorem dX8_cut_100 : decode cX8_cut 100 = .ok (.getfield 60, 3) := by decide +kernel
theorem dX8_cut_103 : decode cX8_cut 103 = .ok (.if_icmp .ge 38, 3) := by decide +kernel
theorem dX8_cut_106 : decode cX8_cut 106 = .ok (.aload_n 0, 1) := by decide +kernel
theorem dX8_cut_107 : decode cX8_cut 107 = .ok (.getfield 7, 3) := by decide +kernel
theorem dX8_cut_110 : decode cX8_cut 110 = .ok (.bipush 12, 2) := by decide +kernel
theorem dX8_cut_112 : decode cX8_cut 112 = .ok (.iload_n 3, 1) := by decide +kernel
theorem dX8_cut_113 : decode cX8_cut 113 = .ok (.iadd, 1) := by decide +kernel
theorem dX8_cut_114 : decode cX8_cut 114 = .ok (.aload_n 0, 1) := by decide +kernel
theorem dX8_cut_115 : decode cX8_cut 115 = .ok (.getfield 27, 3) := by decide +kernel
theorem dX8_cut_118 : decode cX8_cut 118 = .ok (.iload_n 3, 1) := by decide +kernel
theorem dX8_cut_119 : decode cX8_cut 119 = .ok (.iaload, 1) := by decide +kernel
theorem dX8_cut_120 : decode cX8_cut 120 = .ok (.iastore, 1) := by decide +kernel
theorem dX8_cut_121 : decode cX8_cut 121 = .ok (.aload_n 0, 1) := by decide +kernel
theorem dX8_cut_122 : decode cX8_cut 122 = .ok (.getfield 7, 3) := by decide +kernel
theorem dX8_cut_125 : decode cX8_cut 125 = .ok (.iconst 0, 1) := by decide +kernel
theorem dX8_cut_126 : decode cX8_cut 126 = .ok (.iload_n 3, 1) := by decide +kernel
theorem dX8_cut_127 : decode cX8_cut 127 = .ok (.iadd, 1) := by decide +kernel
theorem dX8_cut_128 : decode cX8_cut 128 = .ok (.aload_n 0, 1) := by decide +kernel
theorem dX8_cut_129 : decode cX8_cut 129 = .ok (.getfield 30, 3) := by decide +kernel
theorem dX8_cut_132 : decode cX8_cut 132 = .ok (.iload_n 3, 1) := by decide +kernel
theorem dX8_cut_133 : decode cX8_cut 133 = .ok (.iaload, 1) := by decide +kernel
theorem dX8_cut_134 : decode cX8_cut 134 = .ok (.iastore, 1) := by decide +kernel
theorem dX8_cut_135 : decode cX8_cut 135 = .ok (.iinc 3 1, 3) := by decide +kernel
theorem dX8_cut_138 : decode cX8_cut 138 = .ok (.goto (-40), 3) := by decide +kernel
theorem dX8_cut_141 : decode cX8_cut 141 = .ok (.iconst 0, 1) := by decide +kernel
theorem dX8_cut_142 : decode cX8_cut 142 = .ok (.istore_n 3, 1) := by decide +kernel
theorem dX8_cut_143 : decode cX8_cut 143 = .ok (.iload_n 3, 1) := by decide +kernel
theorem dX8_cut_144 : decode cX8_cut 144 = .ok (.bipush 9, 2) := by decide +kernel
theorem dX8_cut_146 : decode cX8_cut 146 = .ok (.if_icmp .ge 24, 3) := by decide +kernel
theorem dX8_cut_149 : decode cX8_cut 149 = .ok (.aload_n 0, 1) := by decide +kernel
theorem dX8_cut_150 : decode cX8_cut 150 = .ok (.getfield 13, 3) := by decide +kernel
theorem dX8_cut_153 : decode cX8_cut 153 = .ok (.iload_n 3, 1) := by decide +kernel
theorem dX8_cut_154 : decode cX8_cut 154 = .ok (.aload_n 0, 1) := by decide +kernel
theorem dX8_cut_155 : decode cX8_cut 155 = .ok (.getfield 13, 3) := by decide +kernel
theorem dX8_cut_158 : decode cX8_cut 158 = .ok (.bipush 9, 2) := by decide +kernel
theorem dX8_cut_160 : decode cX8_cut 160 = .ok (.iload_n 3, 1) := by decide +kernel
theorem dX8_cut_161 : decode cX8_cut 161 = .ok (.iadd, 1) := by decide +kernel
theorem dX8_cut_162 : decode cX8_cut 162 = .ok (.iaload, 1) := by decide +kernel
theorem dX8_cut_163 : decode cX8_cut 163 = .ok (.iastore, 1) := by decide +kernel
theorem dX8_cut_164 : decode cX8_cut 164 = .ok (.iinc 3 1, 3) := by decide +kernel
theorem dX8_cut_167 : decode cX8_cut 167 = .ok (.goto (-24), 3) := by decide +kernel
theorem dX8_cut_170 : decode cX8_cut 170 = .ok (.aload_n 0, 1) := by decide +kernel
theorem dX8_cut_171 : decode cX8_cut 171 = .ok (.getfield 16, 3) := by decide +kernel
theorem dX8_cut_174 : decode cX8_cut 174 = .ok (.iconst 0, 1) := by decide +kernel
theorem dX8_cut_175 : decode cX8_cut 175 = .ok (.iconst 0, 1) := by decide +kernel
theorem dX8_cut_176 : decode cX8_cut 176 = .ok (.bastore, 1) := by decide +kernel
theorem dX8_cut_177 : decode cX8_cut 177 = .ok (.aload_n 0, 1) := by decide +kernel
theorem dX8_cut_178 : decode cX8_cut 178 = .ok (.getfield 16, 3) := by decide +kernel
theorem dX8_cut_181 : decode cX8_cut 181 = .ok (.iconst 1, 1) := by decide +kernel
theorem dX8_cut_182 : decode cX8_cut 182 = .ok (.iconst 0, 1) := by decide +kernel
theorem dX8_cut_183 : decode cX8_cut 183 = .ok (.bastore, 1) := by decide +kernel
theorem dX8_cut_184 : decode cX8_cut 184 = .ok (.aload_n 0, 1) := by decide +kernel
theorem dX8_cut_185 : decode cX8_cut 185 = .ok (.iconst 0, 1) := by decide +kernel
theorem dX8_cut_186 : decode cX8_cut 186 = .ok (.putfield 131, 3) := by decide +kernel
theorem dX8_cut_189 : decode cX8_cut 189 = .ok (.aload_n 0, 1) := by decide +kernel
theorem dX8_cut_190 : decode cX8_cut 190 = .ok (.iconst 0, 1) := by decide +kernel
theorem dX8_cut_191 : decode cX8_cut 191 = .ok (.putfield 134, 3) := by decide +kernel
theorem dX8_cut_194 : decode cX8_cut 194 = .ok (.aload_n 0, 1) := by decide +kernel
theorem dX8_cut_195 : decode cX8_cut 195 = .ok (.getfield 60, 3) := by decide +kernel
theorem dX8_cut_198 : decode cX8_cut 198 = .ok (.ireturn, 1) := by decide +kernel
theorem dX8_fault_0 : decode cX8_fault 0 = .ok (.aload_n 0, 1) := by decide +kernel
theorem dX8_fault_1 : decode cX8_fault 1 = .ok (.getfield 23, 3) := by decide +kernel
theorem dX8_fault_4 : decode cX8_fault 4 = .ok (.ireturn, 1) := by decide +kernel
theorem dX8_swayOf_0 : decode cX8_swayOf 0 = .ok (.aload_n 0, 1) := by decide +kernel
theorem dX8_swayOf_1 : decode cX8_swayOf 1 = .ok (.getfield 13, 3) := by decide +kernel
theorem dX8_swayOf_4 : decode cX8_swayOf 4 = .ok (.iconst 1, 1) := by decide +kernel
theorem dX8_swayOf_5 : decode cX8_swayOf 5 = .ok (.iaload, 1) := by decide +kernel
theorem dX8_swayOf_6 : decode cX8_swayOf 6 = .ok (.iload_n 1, 1) := by decide +kernel
theorem dX8_swayOf_7 : decode cX8_swayOf 7 = .ok (.if_icmp .le 14, 3) := by decide +kernel
theorem dX8_swayOf_10 : decode cX8_swayOf 10 = .ok (.aload_n 0, 1) := by decide +kernel
theorem dX8_swayOf_11 : decode cX8_swayOf 11 = .ok (.getfield 13, 3) := by decide +kernel
theorem dX8_swayOf_14 : decode cX8_swayOf 14 = .ok (.iconst 1, 1) := by decide +kernel
theorem dX8_swayOf_15 : decode cX8_swayOf 15 = .ok (.iaload, 1) := by decide +kernel
theorem dX8_swayOf_16 : decode cX8_swayOf 16 = .ok (.iload_n 1, 1) := by decide +kernel
theorem dX8_swayOf_17 : decode cX8_swayOf 17 = .ok (.isub, 1) := by decide +kernel
theorem dX8_swayOf_18 : decode cX8_swayOf 18 = .ok (.goto 4, 3) := by decide +kernel
theorem dX8_swayOf_21 : decode cX8_swayOf 21 = .ok (.iconst 0, 1) := by decide +kernel
theorem dX8_swayOf_22 : decode cX8_swayOf 22 = .ok (.istore_n 3, 1) := by decide +kernel
theorem dX8_swayOf_23 : decode cX8_swayOf 23 = .ok (.iload_n 2, 1) := by decide +kernel
theorem dX8_swayOf_24 : decode cX8_swayOf 24 = .ok (.aload_n 0, 1) := by decide +kernel
theorem dX8_swayOf_25 : decode cX8_swayOf 25 = .ok (.getfield 13, 3) := by decide +kernel
theorem dX8_swayOf_28 : decode cX8_swayOf 28 = .ok (.iconst 2, 1) := by decide +kernel
theorem dX8_swayOf_29 : decode cX8_swayOf 29 = .ok (.iaload, 1) := by decide +kernel
theorem dX8_swayOf_30 : decode cX8_swayOf 30 = .ok (.if_icmp .le 14, 3) := by decide +kernel
theorem dX8_swayOf_33 : decode cX8_swayOf 33 = .ok (.iload_n 2, 1) := by decide +kernel
theorem dX8_swayOf_34 : decode cX8_swayOf 34 = .ok (.aload_n 0, 1) := by decide +kernel
theorem dX8_swayOf_35 : decode cX8_swayOf 35 = .ok (.getfield 13, 3) := by decide +kernel
theorem dX8_swayOf_38 : decode cX8_swayOf 38 = .ok (.iconst 2, 1) := by decide +kernel
theorem dX8_swayOf_39 : decode cX8_swayOf 39 = .ok (.iaload, 1) := by decide +kernel
theorem dX8_swayOf_40 : decode cX8_swayOf 40 = .ok (.isub, 1) := by decide +kernel
theorem dX8_swayOf_41 : decode cX8_swayOf 41 = .ok (.goto 11, 3) := by decide +kernel
theorem dX8_swayOf_44 : decode cX8_swayOf 44 = .ok (.aload_n 0, 1) := by decide +kernel
theorem dX8_swayOf_45 : decode cX8_swayOf 45 = .ok (.getfield 13, 3) := by decide +kernel
theorem dX8_swayOf_48 : decode cX8_swayOf 48 = .ok (.iconst 2, 1) := by decide +kernel
theorem dX8_swayOf_49 : decode cX8_swayOf 49 = .ok (.iaload, 1) := by decide +kernel
theorem dX8_swayOf_50 : decode cX8_swayOf 50 = .ok (.iload_n 2, 1) := by decide +kernel
theorem dX8_swayOf_51 : decode cX8_swayOf 51 = .ok (.isub, 1) := by decide +kernel
theorem dX8_swayOf_52 : decode cX8_swayOf 52 = .ok (.istore 4, 2) := by decide +kernel
theorem dX8_swayOf_54 : decode cX8_swayOf 54 = .ok (.iload 4, 2) := by decide +kernel
theorem dX8_swayOf_56 : decode cX8_swayOf 56 = .ok (.ifCond .ne 9, 3) := by decide +kernel
theorem dX8_swayOf_59 : decode cX8_swayOf 59 = .ok (.iconst 3, 1) := by decide +kernel
theorem dX8_swayOf_60 : decode cX8_swayOf 60 = .ok (.iload_n 3, 1) := by decide +kernel
theorem dX8_swayOf_61 : decode cX8_swayOf 61 = .ok (.imul, 1) := by decide +kernel
theorem dX8_swayOf_62 : decode cX8_swayOf 62 = .ok (.goto 16, 3) := by decide +kernel
theorem dX8_swayOf_65 : decode cX8_swayOf 65 = .ok (.iload 4, 2) := by decide +kernel
theorem dX8_swayOf_67 : decode cX8_swayOf 67 = .ok (.iconst 1, 1) := by decide +kernel
theorem dX8_swayOf_68 : decode cX8_swayOf 68 = .ok (.if_icmp .ne 7, 3) := by decide +kernel
theorem dX8_swayOf_71 : decode cX8_swayOf 71 = .ok (.iload_n 3, 1) := by decide +kernel
theorem dX8_swayOf_72 : decode cX8_swayOf 72 = .ok (.goto 6, 3) := by decide +kernel
theorem dX8_swayOf_75 : decode cX8_swayOf 75 = .ok (.iload_n 3, 1) := by decide +kernel
theorem dX8_swayOf_76 : decode cX8_swayOf 76 = .ok (.iconst 3, 1) := by decide +kernel
theorem dX8_swayOf_77 : decode cX8_swayOf 77 = .ok (.idiv, 1) := by decide +kernel
theorem dX8_swayOf_78 : decode cX8_swayOf 78 = .ok (.iconst 2, 1) := by decide +kernel
theorem dX8_swayOf_79 : decode cX8_swayOf 79 = .ok (.iload_n 1, 1) := by decide +kernel
theorem dX8_swayOf_80 : decode cX8_swayOf 80 = .ok (.imul, 1) := by decide +kernel
theorem dX8_swayOf_81 : decode cX8_swayOf 81 = .ok (.isub, 1) := by decide +kernel
theorem dX8_swayOf_82 : decode cX8_swayOf 82 = .ok (.istore 5, 2) := by decide +kernel
theorem dX8_swayOf_84 : decode cX8_swayOf 84 = .ok (.iload 5, 2) := by decide +kernel
theorem dX8_swayOf_86 : decode cX8_swayOf 86 = .ok (.ifCond .ge 7, 3) := by decide +kernel
theorem dX8_swayOf_89 : decode cX8_swayOf 89 = .ok (.iconst 0, 1) := by decide +kernel
theorem dX8_swayOf_90 : decode cX8_swayOf 90 = .ok (.goto 5, 3) := by decide +kernel
theorem dX8_swayOf_93 : decode cX8_swayOf 93 = .ok (.iload 5, 2) := by decide +kernel
theorem dX8_swayOf_95 : decode cX8_swayOf 95 = .ok (.ireturn, 1) := by decide +kernel
set_option maxRecDepth 20000 in
theorem ggX8_forceNow_X8_swayOf : GoodIn wsX8_forceNow wsX8_swayOf := goodIn_r _ [7, 1, 8, 9, 10, 11, 12, 13, 14, 15, 16, 17, 18, 19, 20, 21, 22, 23, 24, 25, 26, 27, 28, 29, 30, 31, 32, 33, 34, 35] (by decide +kernel) (by decide +kernel)
set_option maxRecDepth 20000 in
theorem gX8_forceNow_X8_swayOf : GoodIn wsX8_forceNow (wsV RX8 137 RX8 yX8_swayOf wsX8_swayOf) := goodIn_app (goodIn_of _ (by decide +kernel)) ggX8_forceNow_X8_swayOf
theorem dX8_forceNow_0 : decode cX8_forceNow 0 = .ok (.iconst 4, 1) := by decide +kernel
theorem dX8_forceNow_1 : decode cX8_forceNow 1 = .ok (.aload_n 0, 1) := by decide +kernel
theorem dX8_forceNow_2 : decode cX8_forceNow 2 = .ok (.getfield 13, 3) := by decide +kernel
theorem dX8_forceNow_5 : decode cX8_forceNow 5 = .ok (.iconst 0, 1) := by decide +kernel
theorem dX8_forceNow_6 : decode cX8_forceNow 6 = .ok (.iaload, 1) := by decide +kernel
theorem dX8_forceNow_7 : decode cX8_forceNow 7 = .ok (.imul, 1) := by decide +kernel
theorem dX8_forceNow_8 : decode cX8_forceNow 8 = .ok (.aload_n 0, 1) := by decide +kernel
theorem dX8_forceNow_9 : decode cX8_forceNow 9 = .ok (.aload_n 0, 1) := by decide +kernel
theorem dX8_forceNow_10 : decode cX8_forceNow 10 = .ok (.getfield 13, 3) := by decide +kernel
theorem dX8_forceNow_13 : decode cX8_forceNow 13 = .ok (.iconst 3, 1) := by decide +kernel
theorem dX8_forceNow_14 : decode cX8_forceNow 14 = .ok (.iaload, 1) := by decide +kernel
theorem dX8_forceNow_15 : decode cX8_forceNow 15 = .ok (.aload_n 0, 1) := by decide +kernel
theorem dX8_forceNow_16 : decode cX8_forceNow 16 = .ok (.getfield 7, 3) := by decide +kernel
theorem dX8_forceNow_19 : decode cX8_forceNow 19 = .ok (.bipush 48, 2) := by decide +kernel
theorem dX8_forceNow_21 : decode cX8_forceNow 21 = .ok (.iaload, 1) := by decide +kernel
theorem dX8_forceNow_22 : decode cX8_forceNow 22 = .ok (.invokevirtual 137, 3) := by decide +kernel
theorem dX8_forceNow_25 : decode cX8_forceNow 25 = .ok (.iadd, 1) := by decide +kernel
theorem dX8_forceNow_26 : decode cX8_forceNow 26 = .ok (.ireturn, 1) := by decide +kernel
theorem dX8_openSet_0 : decode cX8_openSet 0 = .ok (.iconst 0, 1) := by decide +kernel
theorem dX8_openSet_1 : decode cX8_openSet 1 = .ok (.istore_n 1, 1) := by decide +kernel
theorem dX8_openSet_2 : decode cX8_openSet 2 = .ok (.iconst 0, 1) := by decide +kernel
theorem dX8_openSet_3 : decode cX8_openSet 3 = .ok (.istore_n 2, 1) := by decide +kernel
theorem dX8_openSet_4 : decode cX8_openSet 4 = .ok (.iload_n 2, 1) := by decide +kernel
theorem dX8_openSet_5 : decode cX8_openSet 5 = .ok (.aload_n 0, 1) := by decide +kernel
theorem dX8_openSet_6 : decode cX8_openSet 6 = .ok (.getfield 60, 3) := by decide +kernel
theorem dX8_openSet_9 : decode cX8_openSet 9 = .ok (.if_icmp .ge 23, 3) := by decide +kernel
theorem dX8_openSet_12 : decode cX8_openSet 12 = .ok (.iload_n 1, 1) := by decide +kernel
theorem dX8_openSet_13 : decode cX8_openSet 13 = .ok (.aload_n 0, 1) := by decide +kernel
theorem dX8_openSet_14 : decode cX8_openSet 14 = .ok (.getfield 7, 3) := by decide +kernel
theorem dX8_openSet_17 : decode cX8_openSet 17 = .ok (.bipush 36, 2) := by decide +kernel
theorem dX8_openSet_19 : decode cX8_openSet 19 = .ok (.iload_n 2, 1) := by decide +kernel
theorem dX8_openSet_20 : decode cX8_openSet 20 = .ok (.iadd, 1) := by decide +kernel
theorem dX8_openSet_21 : decode cX8_openSet 21 = .ok (.iaload, 1) := by decide +kernel
theorem dX8_openSet_22 : decode cX8_openSet 22 = .ok (.iload_n 2, 1) := by decide +kernel
theorem dX8_openSet_23 : decode cX8_openSet 23 = .ok (.ishl, 1) := by decide +kernel
theorem dX8_openSet_24 : decode cX8_openSet 24 = .ok (.ior, 1) := by decide +kernel
theorem dX8_openSet_25 : decode cX8_openSet 25 = .ok (.istore_n 1, 1) := by decide +kernel
theorem dX8_openSet_26 : decode cX8_openSet 26 = .ok (.iinc 2 1, 3) := by decide +kernel
theorem dX8_openSet_29 : decode cX8_openSet 29 = .ok (.goto (-25), 3) := by decide +kernel
theorem dX8_openSet_32 : decode cX8_openSet 32 = .ok (.iload_n 1, 1) := by decide +kernel
theorem dX8_openSet_33 : decode cX8_openSet 33 = .ok (.ireturn, 1) := by decide +kernel
set_option maxRecDepth 20000 in
theorem ggX8_told_X8_swayOf : GoodIn wsX8_told wsX8_swayOf := goodIn_r _ [13, 4, 25, 26, 27, 28, 29, 30, 31, 32, 33, 34, 35, 36, 37, 38, 39, 40, 41, 42, 43, 44, 45, 46, 47, 48, 49, 50, 51, 52] (by decide +kernel) (by decide +kernel)
set_option maxRecDepth 20000 in
theorem gX8_told_X8_swayOf : GoodIn wsX8_told (wsV RX8 137 RX8 yX8_swayOf wsX8_swayOf) := goodIn_app (goodIn_of _ (by decide +kernel)) ggX8_told_X8_swayOf
set_option maxRecDepth 20000 in
theorem ggX8_told_X8_forceNow : GoodIn wsX8_told wsX8_forceNow := goodIn_r _ [17, 4, 3, 9, 10, 11, 12, 13, 25, 26, 27, 28, 29, 30, 31, 32, 33, 34, 35, 36, 37, 38, 39, 40, 41, 42, 43, 44, 45, 46, 47, 48, 49, 50, 51, 52] (by decide +kernel) (by decide +kernel)
set_option maxRecDepth 20000 in
theorem gX8_told_X8_forceNow : GoodIn wsX8_told (wsV RX8 141 RX8 yX8_forceNow wsX8_forceNow) := goodIn_app (goodIn_of _ (by decide +kernel)) ggX8_told_X8_forceNow
set_option maxRecDepth 20000 in
theorem ggX8_told_X8_openSet : GoodIn wsX8_told wsX8_openSet := goodIn_r _ [21, 1, 3, 25, 26, 27, 28, 29, 30, 31, 32, 33, 34, 35, 36, 37, 38, 39, 40, 41, 42, 43, 44, 45, 46, 47, 48, 49, 50, 51, 52] (by decide +kernel) (by decide +kernel)
set_option maxRecDepth 20000 in
theorem gX8_told_X8_openSet : GoodIn wsX8_told (wsV RX8 144 RX8 yX8_openSet wsX8_openSet) := goodIn_app (goodIn_of _ (by decide +kernel)) ggX8_told_X8_openSet
set_option maxRecDepth 20000 in
theorem ggX8_told_X8_in : GoodIn wsX8_told wsX8_in := goodIn_r _ [24] (by decide +kernel) (by decide +kernel)
set_option maxRecDepth 20000 in
theorem gX8_told_X8_in : GoodIn wsX8_told (va_wsS RX8 63 yX8_in wsX8_in) := goodIn_app (goodIn_of _ (by decide +kernel)) ggX8_told_X8_in
theorem dX8_told_0 : decode cX8_told 0 = .ok (.iload_n 1, 1) := by decide +kernel
theorem dX8_told_1 : decode cX8_told 1 = .ok (.tableswitch 151 0 17 #[87, 151, 151, 151, 151, 151, 151, 151, 151, 151, 92, 97, 105, 113, 131, 136, 141, 146], 87) := by decide +kernel
theorem dX8_told_88 : decode cX8_told 88 = .ok (.aload_n 0, 1) := by decide +kernel
theorem dX8_told_89 : decode cX8_told 89 = .ok (.getfield 60, 3) := by decide +kernel
theorem dX8_told_92 : decode cX8_told 92 = .ok (.ireturn, 1) := by decide +kernel
theorem dX8_told_93 : decode cX8_told 93 = .ok (.aload_n 0, 1) := by decide +kernel
theorem dX8_told_94 : decode cX8_told 94 = .ok (.getfield 84, 3) := by decide +kernel
theorem dX8_told_97 : decode cX8_told 97 = .ok (.ireturn, 1) := by decide +kernel
theorem dX8_told_98 : decode cX8_told 98 = .ok (.aload_n 0, 1) := by decide +kernel
theorem dX8_told_99 : decode cX8_told 99 = .ok (.getfield 7, 3) := by decide +kernel
theorem dX8_told_102 : decode cX8_told 102 = .ok (.bipush 49, 2) := by decide +kernel
theorem dX8_told_104 : decode cX8_told 104 = .ok (.iaload, 1) := by decide +kernel
theorem dX8_told_105 : decode cX8_told 105 = .ok (.ireturn, 1) := by decide +kernel
theorem dX8_told_106 : decode cX8_told 106 = .ok (.aload_n 0, 1) := by decide +kernel
theorem dX8_told_107 : decode cX8_told 107 = .ok (.getfield 7, 3) := by decide +kernel
theorem dX8_told_110 : decode cX8_told 110 = .ok (.bipush 48, 2) := by decide +kernel
theorem dX8_told_112 : decode cX8_told 112 = .ok (.iaload, 1) := by decide +kernel
theorem dX8_told_113 : decode cX8_told 113 = .ok (.ireturn, 1) := by decide +kernel
theorem dX8_told_114 : decode cX8_told 114 = .ok (.aload_n 0, 1) := by decide +kernel
theorem dX8_told_115 : decode cX8_told 115 = .ok (.aload_n 0, 1) := by decide +kernel
theorem dX8_told_116 : decode cX8_told 116 = .ok (.getfield 13, 3) := by decide +kernel
theorem dX8_told_119 : decode cX8_told 119 = .ok (.iconst 3, 1) := by decide +kernel
theorem dX8_told_120 : decode cX8_told 120 = .ok (.iaload, 1) := by decide +kernel
theorem dX8_told_121 : decode cX8_told 121 = .ok (.aload_n 0, 1) := by decide +kernel
theorem dX8_told_122 : decode cX8_told 122 = .ok (.getfield 7, 3) := by decide +kernel
theorem dX8_told_125 : decode cX8_told 125 = .ok (.bipush 48, 2) := by decide +kernel
theorem dX8_told_127 : decode cX8_told 127 = .ok (.iaload, 1) := by decide +kernel
theorem dX8_told_128 : decode cX8_told 128 = .ok (.invokevirtual 137, 3) := by decide +kernel
theorem dX8_told_131 : decode cX8_told 131 = .ok (.ireturn, 1) := by decide +kernel
theorem dX8_told_132 : decode cX8_told 132 = .ok (.aload_n 0, 1) := by decide +kernel
theorem dX8_told_133 : decode cX8_told 133 = .ok (.invokevirtual 141, 3) := by decide +kernel
theorem dX8_told_136 : decode cX8_told 136 = .ok (.ireturn, 1) := by decide +kernel
theorem dX8_told_137 : decode cX8_told 137 = .ok (.aload_n 0, 1) := by decide +kernel
theorem dX8_told_138 : decode cX8_told 138 = .ok (.invokevirtual 144, 3) := by decide +kernel
theorem dX8_told_141 : decode cX8_told 141 = .ok (.ireturn, 1) := by decide +kernel
theorem dX8_told_142 : decode cX8_told 142 = .ok (.aload_n 0, 1) := by decide +kernel
theorem dX8_told_143 : decode cX8_told 143 = .ok (.getfield 131, 3) := by decide +kernel
theorem dX8_told_146 : decode cX8_told 146 = .ok (.ireturn, 1) := by decide +kernel
theorem dX8_told_147 : decode cX8_told 147 = .ok (.aload_n 0, 1) := by decide +kernel
theorem dX8_told_148 : decode cX8_told 148 = .ok (.getfield 134, 3) := by decide +kernel
theorem dX8_told_151 : decode cX8_told 151 = .ok (.ireturn, 1) := by decide +kernel
theorem dX8_told_152 : decode cX8_told 152 = .ok (.iload_n 1, 1) := by decide +kernel
theorem dX8_told_153 : decode cX8_told 153 = .ok (.i2l, 1) := by decide +kernel
theorem dX8_told_154 : decode cX8_told 154 = .ok (.lconst 1, 1) := by decide +kernel
theorem dX8_told_155 : decode cX8_told 155 = .ok (.ldc2_w 147, 3) := by decide +kernel
theorem dX8_told_158 : decode cX8_told 158 = .ok (.invokestatic 63, 3) := by decide +kernel
theorem dX8_told_161 : decode cX8_told 161 = .ok (.ifCond .eq 14, 3) := by decide +kernel
theorem dX8_told_164 : decode cX8_told 164 = .ok (.aload_n 0, 1) := by decide +kernel
theorem dX8_told_165 : decode cX8_told 165 = .ok (.getfield 13, 3) := by decide +kernel
theorem dX8_told_168 : decode cX8_told 168 = .ok (.iload_n 1, 1) := by decide +kernel
theorem dX8_told_169 : decode cX8_told 169 = .ok (.iconst 1, 1) := by decide +kernel
theorem dX8_told_170 : decode cX8_told 170 = .ok (.isub, 1) := by decide +kernel
theorem dX8_told_171 : decode cX8_told 171 = .ok (.iaload, 1) := by decide +kernel
theorem dX8_told_172 : decode cX8_told 172 = .ok (.goto 5, 3) := by decide +kernel
theorem dX8_told_175 : decode cX8_told 175 = .ok (.ldc 83, 2) := by decide +kernel
theorem dX8_told_177 : decode cX8_told 177 = .ok (.ireturn, 1) := by decide +kernel
set_option maxRecDepth 20000 in
theorem ggX8_yard_X8_isYard : GoodIn wsX8_yard wsX8_isYard := goodIn_r _ [8, 9, 10, 11, 7, 12, 13, 14, 15, 16, 17, 18, 19, 20, 21, 22, 23, 24, 25, 26, 27, 28, 29, 30, 31, 32, 33, 34, 35, 36, 37, 38, 39, 40] (by decide +kernel) (by decide +kernel)
set_option maxRecDepth 20000 in
theorem gX8_yard_X8_isYard : GoodIn wsX8_yard (wsV RX8 149 RX8 yX8_isYard wsX8_isYard) := goodIn_app (goodIn_of _ (by decide +kernel)) ggX8_yard_X8_isYard
theorem dX8_yard_0 : decode cX8_yard 0 = .ok (.aload_n 0, 1) := by decide +kernel
theorem dX8_yard_1 : decode cX8_yard 1 = .ok (.iload_n 1, 1) := by decide +kernel
theorem dX8_yard_2 : decode cX8_yard 2 = .ok (.invokevirtual 149, 3) := by decide +kernel
theorem dX8_yard_5 : decode cX8_yard 5 = .ok (.ifCond .ne 6, 3) := by decide +kernel
theorem dX8_yard_8 : decode cX8_yard 8 = .ok (.ldc 152, 2) := by decide +kernel
theorem dX8_yard_10 : decode cX8_yard 10 = .ok (.ireturn, 1) := by decide +kernel
theorem dX8_yard_11 : decode cX8_yard 11 = .ok (.iload_n 2, 1) := by decide +kernel
theorem dX8_yard_12 : decode cX8_yard 12 = .ok (.ifCond .ne 15, 3) := by decide +kernel
theorem dX8_yard_15 : decode cX8_yard 15 = .ok (.aload_n 0, 1) := by decide +kernel
theorem dX8_yard_16 : decode cX8_yard 16 = .ok (.getfield 7, 3) := by decide +kernel
theorem dX8_yard_19 : decode cX8_yard 19 = .ok (.bipush 12, 2) := by decide +kernel
theorem dX8_yard_21 : decode cX8_yard 21 = .ok (.iload_n 1, 1) := by decide +kernel
theorem dX8_yard_22 : decode cX8_yard 22 = .ok (.iadd, 1) := by decide +kernel
theorem dX8_yard_23 : decode cX8_yard 23 = .ok (.iaload, 1) := by decide +kernel
theorem dX8_yard_24 : decode cX8_yard 24 = .ok (.goto 48, 3) := by decide +kernel
theorem dX8_yard_27 : decode cX8_yard 27 = .ok (.iload_n 2, 1) := by decide +kernel
theorem dX8_yard_28 : decode cX8_yard 28 = .ok (.iconst 1, 1) := by decide +kernel
theorem dX8_yard_29 : decode cX8_yard 29 = .ok (.if_icmp .ne 14, 3) := by decide +kernel
theorem dX8_yard_32 : decode cX8_yard 32 = .ok (.aload_n 0, 1) := by decide +kernel
theorem dX8_yard_33 : decode cX8_yard 33 = .ok (.getfield 7, 3) := by decide +kernel
theorem dX8_yard_36 : decode cX8_yard 36 = .ok (.iconst 0, 1) := by decide +kernel
theorem dX8_yard_37 : decode cX8_yard 37 = .ok (.iload_n 1, 1) := by decide +kernel
theorem dX8_yard_38 : decode cX8_yard 38 = .ok (.iadd, 1) := by decide +kernel
theorem dX8_yard_39 : decode cX8_yard 39 = .ok (.iaload, 1) := by decide +kernel
theorem dX8_yard_40 : decode cX8_yard 40 = .ok (.goto 32, 3) := by decide +kernel
theorem dX8_yard_43 : decode cX8_yard 43 = .ok (.iload_n 2, 1) := by decide +kernel
theorem dX8_yard_44 : decode cX8_yard 44 = .ok (.iconst 2, 1) := by decide +kernel
theorem dX8_yard_45 : decode cX8_yard 45 = .ok (.if_icmp .ne 25, 3) := by decide +kernel
theorem dX8_yard_48 : decode cX8_yard 48 = .ok (.aload_n 0, 1) := by decide +kernel
theorem dX8_yard_49 : decode cX8_yard 49 = .ok (.getfield 7, 3) := by decide +kernel
theorem dX8_yard_52 : decode cX8_yard 52 = .ok (.bipush 36, 2) := by decide +kernel
theorem dX8_yard_54 : decode cX8_yard 54 = .ok (.iload_n 1, 1) := by decide +kernel
theorem dX8_yard_55 : decode cX8_yard 55 = .ok (.iadd, 1) := by decide +kernel
theorem dX8_yard_56 : decode cX8_yard 56 = .ok (.iaload, 1) := by decide +kernel
theorem dX8_yard_57 : decode cX8_yard 57 = .ok (.aload_n 0, 1) := by decide +kernel
theorem dX8_yard_58 : decode cX8_yard 58 = .ok (.getfield 7, 3) := by decide +kernel
theorem dX8_yard_61 : decode cX8_yard 61 = .ok (.bipush 24, 2) := by decide +kernel
theorem dX8_yard_63 : decode cX8_yard 63 = .ok (.iload_n 1, 1) := by decide +kernel
theorem dX8_yard_64 : decode cX8_yard 64 = .ok (.iadd, 1) := by decide +kernel
theorem dX8_yard_65 : decode cX8_yard 65 = .ok (.iaload, 1) := by decide +kernel
theorem dX8_yard_66 : decode cX8_yard 66 = .ok (.imul, 1) := by decide +kernel
theorem dX8_yard_67 : decode cX8_yard 67 = .ok (.goto 5, 3) := by decide +kernel
theorem dX8_yard_70 : decode cX8_yard 70 = .ok (.ldc 83, 2) := by decide +kernel
theorem dX8_yard_72 : decode cX8_yard 72 = .ok (.ireturn, 1) := by decide +kernel
theorem dX8_growth_0 : decode cX8_growth 0 = .ok (.bipush 20, 2) := by decide +kernel
theorem dX8_growth_2 : decode cX8_growth 2 = .ok (.iload_n 2, 1) := by decide +kernel
theorem dX8_growth_3 : decode cX8_growth 3 = .ok (.imul, 1) := by decide +kernel
theorem dX8_growth_4 : decode cX8_growth 4 = .ok (.bipush 10, 2) := by decide +kernel
theorem dX8_growth_6 : decode cX8_growth 6 = .ok (.iload_n 1, 1) := by decide +kernel
theorem dX8_growth_7 : decode cX8_growth 7 = .ok (.iadd, 1) := by decide +kernel
theorem dX8_growth_8 : decode cX8_growth 8 = .ok (.idiv, 1) := by decide +kernel
theorem dX8_growth_9 : decode cX8_growth 9 = .ok (.istore_n 3, 1) := by decide +kernel
theorem dX8_growth_10 : decode cX8_growth 10 = .ok (.iload_n 0, 1) := by decide +kernel
theorem dX8_growth_11 : decode cX8_growth 11 = .ok (.iconst 1, 1) := by decide +kernel
theorem dX8_growth_12 : decode cX8_growth 12 = .ok (.if_icmp .ne 11, 3) := by decide +kernel
theorem dX8_growth_15 : decode cX8_growth 15 = .ok (.iload_n 3, 1) := by decide +kernel
theorem dX8_growth_16 : decode cX8_growth 16 = .ok (.iload_n 3, 1) := by decide +kernel
theorem dX8_growth_17 : decode cX8_growth 17 = .ok (.iconst 2, 1) := by decide +kernel
theorem dX8_growth_18 : decode cX8_growth 18 = .ok (.idiv, 1) := by decide +kernel
theorem dX8_growth_19 : decode cX8_growth 19 = .ok (.iadd, 1) := by decide +kernel
theorem dX8_growth_20 : decode cX8_growth 20 = .ok (.goto 15, 3) := by decide +kernel
theorem dX8_growth_23 : decode cX8_growth 23 = .ok (.iload_n 0, 1) := by decide +kernel
theorem dX8_growth_24 : decode cX8_growth 24 = .ok (.iconst 3, 1) := by decide +kernel
theorem dX8_growth_25 : decode cX8_growth 25 = .ok (.if_icmp .ne 9, 3) := by decide +kernel
theorem dX8_growth_28 : decode cX8_growth 28 = .ok (.iload_n 3, 1) := by decide +kernel
theorem dX8_growth_29 : decode cX8_growth 29 = .ok (.iconst 2, 1) := by decide +kernel
theorem dX8_growth_30 : decode cX8_growth 30 = .ok (.idiv, 1) := by decide +kernel
theorem dX8_growth_31 : decode cX8_growth 31 = .ok (.goto 4, 3) := by decide +kernel
theorem dX8_growth_34 : decode cX8_growth 34 = .ok (.iload_n 3, 1) := by decide +kernel
theorem dX8_growth_35 : decode cX8_growth 35 = .ok (.ireturn, 1) := by decide +kernel
set_option maxRecDepth 20000 in
theorem ggX8_grows_X8_isYard : GoodIn wsX8_grows wsX8_isYard := goodIn_r _ [9, 10, 11, 12, 8, 13, 17, 18, 19, 20, 21, 22, 23, 24, 25, 26, 27, 28, 29, 30, 31, 32, 33, 34, 35, 36, 37, 38, 39, 40, 41, 42, 43, 44] (by decide +kernel) (by decide +kernel)
set_option maxRecDepth 20000 in
theorem gX8_grows_X8_isYard : GoodIn wsX8_grows (wsV RX8 149 RX8 yX8_isYard wsX8_isYard) := goodIn_app (goodIn_of _ (by decide +kernel)) ggX8_grows_X8_isYard
set_option maxRecDepth 20000 in
theorem ggX8_grows_X8_in : GoodIn wsX8_grows wsX8_in := goodIn_r _ [13] (by decide +kernel) (by decide +kernel)
set_option maxRecDepth 20000 in
theorem gX8_grows_X8_in : GoodIn wsX8_grows (va_wsS RX8 63 yX8_in wsX8_in) := goodIn_app (goodIn_of _ (by decide +kernel)) ggX8_grows_X8_in
set_option maxRecDepth 20000 in
theorem ggX8_grows_X8_growth : GoodIn wsX8_grows wsX8_growth := goodIn_r _ [16] (by decide +kernel) (by decide +kernel)
set_option maxRecDepth 20000 in
theorem gX8_grows_X8_growth : GoodIn wsX8_grows (va_wsS RX8 155 yX8_growth wsX8_growth) := goodIn_app (goodIn_of _ (by decide +kernel)) ggX8_grows_X8_growth
theorem dX8_grows_0 : decode cX8_grows 0 = .ok (.aload_n 0, 1) := by decide +kernel
theorem dX8_grows_1 : decode cX8_grows 1 = .ok (.iload_n 1, 1) := by decide +kernel
theorem dX8_grows_2 : decode cX8_grows 2 = .ok (.invokevirtual 149, 3) := by decide +kernel
theorem dX8_grows_5 : decode cX8_grows 5 = .ok (.ifCond .ne 6, 3) := by decide +kernel
theorem dX8_grows_8 : decode cX8_grows 8 = .ok (.ldc 152, 2) := by decide +kernel
theorem dX8_grows_10 : decode cX8_grows 10 = .ok (.ireturn, 1) := by decide +kernel
theorem dX8_grows_11 : decode cX8_grows 11 = .ok (.iload_n 2, 1) := by decide +kernel
theorem dX8_grows_12 : decode cX8_grows 12 = .ok (.i2l, 1) := by decide +kernel
theorem dX8_grows_13 : decode cX8_grows 13 = .ok (.lconst 0, 1) := by decide +kernel
theorem dX8_grows_14 : decode cX8_grows 14 = .ok (.ldc2_w 153, 3) := by decide +kernel
theorem dX8_grows_17 : decode cX8_grows 17 = .ok (.invokestatic 63, 3) := by decide +kernel
theorem dX8_grows_20 : decode cX8_grows 20 = .ok (.ifCond .eq 27, 3) := by decide +kernel
theorem dX8_grows_23 : decode cX8_grows 23 = .ok (.aload_n 0, 1) := by decide +kernel
theorem dX8_grows_24 : decode cX8_grows 24 = .ok (.getfield 7, 3) := by decide +kernel
theorem dX8_grows_27 : decode cX8_grows 27 = .ok (.bipush 12, 2) := by decide +kernel
theorem dX8_grows_29 : decode cX8_grows 29 = .ok (.iload_n 1, 1) := by decide +kernel
theorem dX8_grows_30 : decode cX8_grows 30 = .ok (.iadd, 1) := by decide +kernel
theorem dX8_grows_31 : decode cX8_grows 31 = .ok (.iaload, 1) := by decide +kernel
theorem dX8_grows_32 : decode cX8_grows 32 = .ok (.aload_n 0, 1) := by decide +kernel
theorem dX8_grows_33 : decode cX8_grows 33 = .ok (.getfield 7, 3) := by decide +kernel
theorem dX8_grows_36 : decode cX8_grows 36 = .ok (.iconst 0, 1) := by decide +kernel
theorem dX8_grows_37 : decode cX8_grows 37 = .ok (.iload_n 1, 1) := by decide +kernel
theorem dX8_grows_38 : decode cX8_grows 38 = .ok (.iadd, 1) := by decide +kernel
theorem dX8_grows_39 : decode cX8_grows 39 = .ok (.iaload, 1) := by decide +kernel
theorem dX8_grows_40 : decode cX8_grows 40 = .ok (.iload_n 2, 1) := by decide +kernel
theorem dX8_grows_41 : decode cX8_grows 41 = .ok (.invokestatic 155, 3) := by decide +kernel
theorem dX8_grows_44 : decode cX8_grows 44 = .ok (.goto 5, 3) := by decide +kernel
theorem dX8_grows_47 : decode cX8_grows 47 = .ok (.ldc 83, 2) := by decide +kernel
theorem dX8_grows_49 : decode cX8_grows 49 = .ok (.ireturn, 1) := by decide +kernel
theorem dX8_shuts_0 : decode cX8_shuts 0 = .ok (.iconst 0, 1) := by decide +kernel
theorem dX8_shuts_1 : decode cX8_shuts 1 = .ok (.istore_n 2, 1) := by decide +kernel
theorem dX8_shuts_2 : decode cX8_shuts 2 = .ok (.iload_n 2, 1) := by decide +kernel
theorem dX8_shuts_3 : decode cX8_shuts 3 = .ok (.aload_n 0, 1) := by decide +kernel
theorem dX8_shuts_4 : decode cX8_shuts 4 = .ok (.getfield 60, 3) := by decide +kernel
theorem dX8_shuts_7 : decode cX8_shuts 7 = .ok (.if_icmp .ge 111, 3) := by decide +kernel
theorem dX8_shuts_10 : decode cX8_shuts 10 = .ok (.aload_n 0, 1) := by decide +kernel
theorem dX8_shuts_11 : decode cX8_shuts 11 = .ok (.getfield 7, 3) := by decide +kernel
theorem dX8_shuts_14 : decode cX8_shuts 14 = .ok (.iload_n 1, 1) := by decide +kernel
theorem dX8_shuts_15 : decode cX8_shuts 15 = .ok (.bipush 36, 2) := by decide +kernel
theorem dX8_shuts_17 : decode cX8_shuts 17 = .ok (.iadd, 1) := by decide +kernel
theorem dX8_shuts_18 : decode cX8_shuts 18 = .ok (.iload_n 2, 1) := by decide +kernel
theorem dX8_shuts_19 : decode cX8_shuts 19 = .ok (.iadd, 1) := by decide +kernel
theorem dX8_shuts_20 : decode cX8_shuts 20 = .ok (.iaload, 1) := by decide +kernel
theorem dX8_shuts_21 : decode cX8_shuts 21 = .ok (.iconst 1, 1) := by decide +kernel
theorem dX8_shuts_22 : decode cX8_shuts 22 = .ok (.if_icmp .ne 90, 3) := by decide +kernel
theorem dX8_shuts_25 : decode cX8_shuts 25 = .ok (.aload_n 0, 1) := by decide +kernel
theorem dX8_shuts_26 : decode cX8_shuts 26 = .ok (.getfield 7, 3) := by decide +kernel
theorem dX8_shuts_29 : decode cX8_shuts 29 = .ok (.iload_n 1, 1) := by decide +kernel
theorem dX8_shuts_30 : decode cX8_shuts 30 = .ok (.bipush 36, 2) := by decide +kernel
theorem dX8_shuts_32 : decode cX8_shuts 32 = .ok (.iadd, 1) := by decide +kernel
theorem dX8_shuts_33 : decode cX8_shuts 33 = .ok (.iload_n 2, 1) := by decide +kernel
theorem dX8_shuts_34 : decode cX8_shuts 34 = .ok (.iadd, 1) := by decide +kernel
theorem dX8_shuts_35 : decode cX8_shuts 35 = .ok (.iconst 0, 1) := by decide +kernel
theorem dX8_shuts_36 : decode cX8_shuts 36 = .ok (.iastore, 1) := by decide +kernel
theorem dX8_shuts_37 : decode cX8_shuts 37 = .ok (.aload_n 0, 1) := by decide +kernel
theorem dX8_shuts_38 : decode cX8_shuts 38 = .ok (.getfield 7, 3) := by decide +kernel
theorem dX8_shuts_41 : decode cX8_shuts 41 = .ok (.iload_n 1, 1) := by decide +kernel
theorem dX8_shuts_42 : decode cX8_shuts 42 = .ok (.iconst 0, 1) := by decide +kernel
theorem dX8_shuts_43 : decode cX8_shuts 43 = .ok (.iadd, 1) := by decide +kernel
theorem dX8_shuts_44 : decode cX8_shuts 44 = .ok (.iload_n 2, 1) := by decide +kernel
theorem dX8_shuts_45 : decode cX8_shuts 45 = .ok (.iadd, 1) := by decide +kernel
theorem dX8_shuts_46 : decode cX8_shuts 46 = .ok (.aload_n 0, 1) := by decide +kernel
theorem dX8_shuts_47 : decode cX8_shuts 47 = .ok (.getfield 7, 3) := by decide +kernel
theorem dX8_shuts_50 : decode cX8_shuts 50 = .ok (.iload_n 1, 1) := by decide +kernel
theorem dX8_shuts_51 : decode cX8_shuts 51 = .ok (.bipush 24, 2) := by decide +kernel
theorem dX8_shuts_53 : decode cX8_shuts 53 = .ok (.iadd, 1) := by decide +kernel
theorem dX8_shuts_54 : decode cX8_shuts 54 = .ok (.iload_n 2, 1) := by decide +kernel
theorem dX8_shuts_55 : decode cX8_shuts 55 = .ok (.iadd, 1) := by decide +kernel
theorem dX8_shuts_56 : decode cX8_shuts 56 = .ok (.iaload, 1) := by decide +kernel
theorem dX8_shuts_57 : decode cX8_shuts 57 = .ok (.iconst 3, 1) := by decide +kernel
theorem dX8_shuts_58 : decode cX8_shuts 58 = .ok (.idiv, 1) := by decide +kernel
theorem dX8_shuts_59 : decode cX8_shuts 59 = .ok (.iastore, 1) := by decide +kernel
theorem dX8_shuts_60 : decode cX8_shuts 60 = .ok (.aload_n 0, 1) := by decide +kernel
theorem dX8_shuts_61 : decode cX8_shuts 61 = .ok (.getfield 7, 3) := by decide +kernel
theorem dX8_shuts_64 : decode cX8_shuts 64 = .ok (.iload_n 1, 1) := by decide +kernel
theorem dX8_shuts_65 : decode cX8_shuts 65 = .ok (.bipush 24, 2) := by decide +kernel
theorem dX8_shuts_67 : decode cX8_shuts 67 = .ok (.iadd, 1) := by decide +kernel
theorem dX8_shuts_68 : decode cX8_shuts 68 = .ok (.iload_n 2, 1) := by decide +kernel
theorem dX8_shuts_69 : decode cX8_shuts 69 = .ok (.iadd, 1) := by decide +kernel
theorem dX8_shuts_70 : decode cX8_shuts 70 = .ok (.iconst 0, 1) := by decide +kernel
theorem dX8_shuts_71 : decode cX8_shuts 71 = .ok (.iastore, 1) := by decide +kernel
theorem dX8_shuts_72 : decode cX8_shuts 72 = .ok (.aload_n 0, 1) := by decide +kernel
theorem dX8_shuts_73 : decode cX8_shuts 73 = .ok (.getfield 7, 3) := by decide +kernel
theorem dX8_shuts_76 : decode cX8_shuts 76 = .ok (.iload_n 1, 1) := by decide +kernel
theorem dX8_shuts_77 : decode cX8_shuts 77 = .ok (.bipush 12, 2) := by decide +kernel
theorem dX8_shuts_79 : decode cX8_shuts 79 = .ok (.iadd, 1) := by decide +kernel
theorem dX8_shuts_80 : decode cX8_shuts 80 = .ok (.iload_n 2, 1) := by decide +kernel
theorem dX8_shuts_81 : decode cX8_shuts 81 = .ok (.iadd, 1) := by decide +kernel
theorem dX8_shuts_82 : decode cX8_shuts 82 = .ok (.aload_n 0, 1) := by decide +kernel
theorem dX8_shuts_83 : decode cX8_shuts 83 = .ok (.getfield 7, 3) := by decide +kernel
theorem dX8_shuts_86 : decode cX8_shuts 86 = .ok (.iload_n 1, 1) := by decide +kernel
theorem dX8_shuts_87 : decode cX8_shuts 87 = .ok (.bipush 12, 2) := by decide +kernel
theorem dX8_shuts_89 : decode cX8_shuts 89 = .ok (.iadd, 1) := by decide +kernel
theorem dX8_shuts_90 : decode cX8_shuts 90 = .ok (.iload_n 2, 1) := by decide +kernel
theorem dX8_shuts_91 : decode cX8_shuts 91 = .ok (.iadd, 1) := by decide +kernel
theorem dX8_shuts_92 : decode cX8_shuts 92 = .ok (.iaload, 1) := by decide +kernel
theorem dX8_shuts_93 : decode cX8_shuts 93 = .ok (.ifCond .ne 7, 3) := by decide +kernel
theorem dX8_shuts_96 : decode cX8_shuts 96 = .ok (.iconst 1, 1) := by decide +kernel
theorem dX8_shuts_97 : decode cX8_shuts 97 = .ok (.goto 14, 3) := by decide +kernel
theorem dX8_shuts_100 : decode cX8_shuts 100 = .ok (.aload_n 0, 1) := by decide +kernel
theorem dX8_shuts_101 : decode cX8_shuts 101 = .ok (.getfield 7, 3) := by decide +kernel
theorem dX8_shuts_104 : decode cX8_shuts 104 = .ok (.iload_n 1, 1) := by decide +kernel
theorem dX8_shuts_105 : decode cX8_shuts 105 = .ok (.bipush 12, 2) := by decide +kernel
theorem dX8_shuts_107 : decode cX8_shuts 107 = .ok (.iadd, 1) := by decide +kernel
theorem dX8_shuts_108 : decode cX8_shuts 108 = .ok (.iload_n 2, 1) := by decide +kernel
theorem dX8_shuts_109 : decode cX8_shuts 109 = .ok (.iadd, 1) := by decide +kernel
theorem dX8_shuts_110 : decode cX8_shuts 110 = .ok (.iaload, 1) := by decide +kernel
theorem dX8_shuts_111 : decode cX8_shuts 111 = .ok (.iastore, 1) := by decide +kernel
theorem dX8_shuts_112 : decode cX8_shuts 112 = .ok (.iinc 2 1, 3) := by decide +kernel
theorem dX8_shuts_115 : decode cX8_shuts 115 = .ok (.goto (-113), 3) := by decide +kernel
theorem dX8_shuts_118 : decode cX8_shuts 118 = .ok (.aload_n 0, 1) := by decide +kernel
theorem dX8_shuts_119 : decode cX8_shuts 119 = .ok (.getfield 7, 3) := by decide +kernel
theorem dX8_shuts_122 : decode cX8_shuts 122 = .ok (.iload_n 1, 1) := by decide +kernel
theorem dX8_shuts_123 : decode cX8_shuts 123 = .ok (.bipush 49, 2) := by decide +kernel
theorem dX8_shuts_125 : decode cX8_shuts 125 = .ok (.iadd, 1) := by decide +kernel
theorem dX8_shuts_126 : decode cX8_shuts 126 = .ok (.dup2, 1) := by decide +kernel
theorem dX8_shuts_127 : decode cX8_shuts 127 = .ok (.iaload, 1) := by decide +kernel
theorem dX8_shuts_128 : decode cX8_shuts 128 = .ok (.iconst 1, 1) := by decide +kernel
theorem dX8_shuts_129 : decode cX8_shuts 129 = .ok (.iadd, 1) := by decide +kernel
theorem dX8_shuts_130 : decode cX8_shuts 130 = .ok (.iastore, 1) := by decide +kernel
theorem dX8_shuts_131 : decode cX8_shuts 131 = .ok (.return_, 1) := by decide +kernel
set_option maxRecDepth 20000 in
theorem ggX8_nightOf_X8_shuts : GoodIn wsX8_nightOf wsX8_shuts := goodIn_r _ [7, 1, 2, 11, 12, 13, 14, 15, 16, 17, 18, 19, 20, 21, 22, 23, 24, 25, 26, 27, 28, 29, 30, 31, 32, 33, 34, 35, 36, 37, 38] (by decide +kernel) (by decide +kernel)
set_option maxRecDepth 20000 in
theorem gX8_nightOf_X8_shuts : GoodIn wsX8_nightOf (wsV RX8 159 RX8 yX8_shuts wsX8_shuts) := goodIn_app (goodIn_of _ (by decide +kernel)) ggX8_nightOf_X8_shuts
set_option maxRecDepth 20000 in
theorem ggX8_nightOf_X8_growth : GoodIn wsX8_nightOf wsX8_growth := goodIn_r _ [10] (by decide +kernel) (by decide +kernel)
set_option maxRecDepth 20000 in
theorem gX8_nightOf_X8_growth : GoodIn wsX8_nightOf (va_wsS RX8 155 yX8_growth wsX8_growth) := goodIn_app (goodIn_of _ (by decide +kernel)) ggX8_nightOf_X8_growth
theorem dX8_nightOf_0 : decode cX8_nightOf 0 = .ok (.aload_n 0, 1) := by decide +kernel
theorem dX8_nightOf_1 : decode cX8_nightOf 1 = .ok (.iload_n 1, 1) := by decide +kernel
theorem dX8_nightOf_2 : decode cX8_nightOf 2 = .ok (.invokevirtual 159, 3) := by decide +kernel
theorem dX8_nightOf_5 : decode cX8_nightOf 5 = .ok (.iconst 0, 1) := by decide +kernel
theorem dX8_nightOf_6 : decode cX8_nightOf 6 = .ok (.istore_n 3, 1) := by decide +kernel
theorem dX8_nightOf_7 : decode cX8_nightOf 7 = .ok (.iload_n 3, 1) := by decide +kernel
theorem dX8_nightOf_8 : decode cX8_nightOf 8 = .ok (.aload_n 0, 1) := by decide +kernel
theorem dX8_nightOf_9 : decode cX8_nightOf 9 = .ok (.getfield 60, 3) := by decide +kernel
theorem dX8_nightOf_12 : decode cX8_nightOf 12 = .ok (.if_icmp .ge 73, 3) := by decide +kernel
theorem dX8_nightOf_15 : decode cX8_nightOf 15 = .ok (.aload_n 0, 1) := by decide +kernel
theorem dX8_nightOf_16 : decode cX8_nightOf 16 = .ok (.getfield 7, 3) := by decide +kernel
theorem dX8_nightOf_19 : decode cX8_nightOf 19 = .ok (.iload_n 1, 1) := by decide +kernel
theorem dX8_nightOf_20 : decode cX8_nightOf 20 = .ok (.iconst 0, 1) := by decide +kernel
theorem dX8_nightOf_21 : decode cX8_nightOf 21 = .ok (.iadd, 1) := by decide +kernel
theorem dX8_nightOf_22 : decode cX8_nightOf 22 = .ok (.iload_n 3, 1) := by decide +kernel
theorem dX8_nightOf_23 : decode cX8_nightOf 23 = .ok (.iadd, 1) := by decide +kernel
theorem dX8_nightOf_24 : decode cX8_nightOf 24 = .ok (.iaload, 1) := by decide +kernel
theorem dX8_nightOf_25 : decode cX8_nightOf 25 = .ok (.aload_n 0, 1) := by decide +kernel
theorem dX8_nightOf_26 : decode cX8_nightOf 26 = .ok (.getfield 7, 3) := by decide +kernel
theorem dX8_nightOf_29 : decode cX8_nightOf 29 = .ok (.iload_n 1, 1) := by decide +kernel
theorem dX8_nightOf_30 : decode cX8_nightOf 30 = .ok (.bipush 12, 2) := by decide +kernel
theorem dX8_nightOf_32 : decode cX8_nightOf 32 = .ok (.iadd, 1) := by decide +kernel
theorem dX8_nightOf_33 : decode cX8_nightOf 33 = .ok (.iload_n 3, 1) := by decide +kernel
theorem dX8_nightOf_34 : decode cX8_nightOf 34 = .ok (.iadd, 1) := by decide +kernel
theorem dX8_nightOf_35 : decode cX8_nightOf 35 = .ok (.iaload, 1) := by decide +kernel
theorem dX8_nightOf_36 : decode cX8_nightOf 36 = .ok (.aload_n 0, 1) := by decide +kernel
theorem dX8_nightOf_37 : decode cX8_nightOf 37 = .ok (.getfield 7, 3) := by decide +kernel
theorem dX8_nightOf_40 : decode cX8_nightOf 40 = .ok (.iload_n 1, 1) := by decide +kernel
theorem dX8_nightOf_41 : decode cX8_nightOf 41 = .ok (.iconst 0, 1) := by decide +kernel
theorem dX8_nightOf_42 : decode cX8_nightOf 42 = .ok (.iadd, 1) := by decide +kernel
theorem dX8_nightOf_43 : decode cX8_nightOf 43 = .ok (.iload_n 3, 1) := by decide +kernel
theorem dX8_nightOf_44 : decode cX8_nightOf 44 = .ok (.iadd, 1) := by decide +kernel
theorem dX8_nightOf_45 : decode cX8_nightOf 45 = .ok (.iaload, 1) := by decide +kernel
theorem dX8_nightOf_46 : decode cX8_nightOf 46 = .ok (.iload_n 2, 1) := by decide +kernel
theorem dX8_nightOf_47 : decode cX8_nightOf 47 = .ok (.invokestatic 155, 3) := by decide +kernel
theorem dX8_nightOf_50 : decode cX8_nightOf 50 = .ok (.iadd, 1) := by decide +kernel
theorem dX8_nightOf_51 : decode cX8_nightOf 51 = .ok (.istore 4, 2) := by decide +kernel
theorem dX8_nightOf_53 : decode cX8_nightOf 53 = .ok (.aload_n 0, 1) := by decide +kernel
theorem dX8_nightOf_54 : decode cX8_nightOf 54 = .ok (.getfield 7, 3) := by decide +kernel
theorem dX8_nightOf_57 : decode cX8_nightOf 57 = .ok (.iload_n 1, 1) := by decide +kernel
theorem dX8_nightOf_58 : decode cX8_nightOf 58 = .ok (.iconst 0, 1) := by decide +kernel
theorem dX8_nightOf_59 : decode cX8_nightOf 59 = .ok (.iadd, 1) := by decide +kernel
theorem dX8_nightOf_60 : decode cX8_nightOf 60 = .ok (.iload_n 3, 1) := by decide +kernel
theorem dX8_nightOf_61 : decode cX8_nightOf 61 = .ok (.iadd, 1) := by decide +kernel
theorem dX8_nightOf_62 : decode cX8_nightOf 62 = .ok (.iload 4, 2) := by decide +kernel
theorem dX8_nightOf_64 : decode cX8_nightOf 64 = .ok (.sipush 300, 3) := by decide +kernel
theorem dX8_nightOf_67 : decode cX8_nightOf 67 = .ok (.if_icmp .le 9, 3) := by decide +kernel
theorem dX8_nightOf_70 : decode cX8_nightOf 70 = .ok (.sipush 300, 3) := by decide +kernel
theorem dX8_nightOf_73 : decode cX8_nightOf 73 = .ok (.goto 5, 3) := by decide +kernel
theorem dX8_nightOf_76 : decode cX8_nightOf 76 = .ok (.iload 4, 2) := by decide +kernel
theorem dX8_nightOf_78 : decode cX8_nightOf 78 = .ok (.iastore, 1) := by decide +kernel
theorem dX8_nightOf_79 : decode cX8_nightOf 79 = .ok (.iinc 3 1, 3) := by decide +kernel
theorem dX8_nightOf_82 : decode cX8_nightOf 82 = .ok (.goto (-75), 3) := by decide +kernel
theorem dX8_nightOf_85 : decode cX8_nightOf 85 = .ok (.return_, 1) := by decide +kernel
set_option maxRecDepth 20000 in
theorem ggX8_thawOf_X8_shuts : GoodIn wsX8_thawOf wsX8_shuts := goodIn_r _ [7, 1, 2, 8, 9, 10, 11, 12, 13, 14, 15, 16, 17, 18, 19, 20, 21, 22, 23, 24, 25, 26, 27, 28, 29, 30, 31, 32, 33, 34, 35] (by decide +kernel) (by decide +kernel)
set_option maxRecDepth 20000 in
theorem gX8_thawOf_X8_shuts : GoodIn wsX8_thawOf (wsV RX8 159 RX8 yX8_shuts wsX8_shuts) := goodIn_app (goodIn_of _ (by decide +kernel)) ggX8_thawOf_X8_shuts
theorem dX8_thawOf_0 : decode cX8_thawOf 0 = .ok (.aload_n 0, 1) := by decide +kernel
theorem dX8_thawOf_1 : decode cX8_thawOf 1 = .ok (.iload_n 1, 1) := by decide +kernel
theorem dX8_thawOf_2 : decode cX8_thawOf 2 = .ok (.invokevirtual 159, 3) := by decide +kernel
theorem dX8_thawOf_5 : decode cX8_thawOf 5 = .ok (.iconst 0, 1) := by decide +kernel
theorem dX8_thawOf_6 : decode cX8_thawOf 6 = .ok (.istore_n 3, 1) := by decide +kernel
theorem dX8_thawOf_7 : decode cX8_thawOf 7 = .ok (.iload_n 3, 1) := by decide +kernel
theorem dX8_thawOf_8 : decode cX8_thawOf 8 = .ok (.aload_n 0, 1) := by decide +kernel
theorem dX8_thawOf_9 : decode cX8_thawOf 9 = .ok (.getfield 60, 3) := by decide +kernel
theorem dX8_thawOf_12 : decode cX8_thawOf 12 = .ok (.if_icmp .ge 44, 3) := by decide +kernel
theorem dX8_thawOf_15 : decode cX8_thawOf 15 = .ok (.aload_n 0, 1) := by decide +kernel
theorem dX8_thawOf_16 : decode cX8_thawOf 16 = .ok (.getfield 7, 3) := by decide +kernel
theorem dX8_thawOf_19 : decode cX8_thawOf 19 = .ok (.iload_n 1, 1) := by decide +kernel
theorem dX8_thawOf_20 : decode cX8_thawOf 20 = .ok (.iconst 0, 1) := by decide +kernel
theorem dX8_thawOf_21 : decode cX8_thawOf 21 = .ok (.iadd, 1) := by decide +kernel
theorem dX8_thawOf_22 : decode cX8_thawOf 22 = .ok (.iload_n 3, 1) := by decide +kernel
theorem dX8_thawOf_23 : decode cX8_thawOf 23 = .ok (.iadd, 1) := by decide +kernel
theorem dX8_thawOf_24 : decode cX8_thawOf 24 = .ok (.iaload, 1) := by decide +kernel
theorem dX8_thawOf_25 : decode cX8_thawOf 25 = .ok (.iload_n 2, 1) := by decide +kernel
theorem dX8_thawOf_26 : decode cX8_thawOf 26 = .ok (.isub, 1) := by decide +kernel
theorem dX8_thawOf_27 : decode cX8_thawOf 27 = .ok (.istore 4, 2) := by decide +kernel
theorem dX8_thawOf_29 : decode cX8_thawOf 29 = .ok (.aload_n 0, 1) := by decide +kernel
theorem dX8_thawOf_30 : decode cX8_thawOf 30 = .ok (.getfield 7, 3) := by decide +kernel
theorem dX8_thawOf_33 : decode cX8_thawOf 33 = .ok (.iload_n 1, 1) := by decide +kernel
theorem dX8_thawOf_34 : decode cX8_thawOf 34 = .ok (.iconst 0, 1) := by decide +kernel
theorem dX8_thawOf_35 : decode cX8_thawOf 35 = .ok (.iadd, 1) := by decide +kernel
theorem dX8_thawOf_36 : decode cX8_thawOf 36 = .ok (.iload_n 3, 1) := by decide +kernel
theorem dX8_thawOf_37 : decode cX8_thawOf 37 = .ok (.iadd, 1) := by decide +kernel
theorem dX8_thawOf_38 : decode cX8_thawOf 38 = .ok (.iload 4, 2) := by decide +kernel
theorem dX8_thawOf_40 : decode cX8_thawOf 40 = .ok (.ifCond .ge 7, 3) := by decide +kernel
theorem dX8_thawOf_43 : decode cX8_thawOf 43 = .ok (.iconst 0, 1) := by decide +kernel
theorem dX8_thawOf_44 : decode cX8_thawOf 44 = .ok (.goto 5, 3) := by decide +kernel
theorem dX8_thawOf_47 : decode cX8_thawOf 47 = .ok (.iload 4, 2) := by decide +kernel
theorem dX8_thawOf_49 : decode cX8_thawOf 49 = .ok (.iastore, 1) := by decide +kernel
theorem dX8_thawOf_50 : decode cX8_thawOf 50 = .ok (.iinc 3 1, 3) := by decide +kernel
theorem dX8_thawOf_53 : decode cX8_thawOf 53 = .ok (.goto (-46), 3) := by decide +kernel
theorem dX8_thawOf_56 : decode cX8_thawOf 56 = .ok (.return_, 1) := by decide +kernel
theorem dX8_allIce_0 : decode cX8_allIce 0 = .ok (.iconst 0, 1) := by decide +kernel
theorem dX8_allIce_1 : decode cX8_allIce 1 = .ok (.istore_n 1, 1) := by decide +kernel
theorem dX8_allIce_2 : decode cX8_allIce 2 = .ok (.iconst 0, 1) := by decide +kernel
theorem dX8_allIce_3 : decode cX8_allIce 3 = .ok (.istore_n 2, 1) := by decide +kernel
theorem dX8_allIce_4 : decode cX8_allIce 4 = .ok (.iload_n 2, 1) := by decide +kernel
theorem dX8_allIce_5 : decode cX8_allIce 5 = .ok (.aload_n 0, 1) := by decide +kernel
theorem dX8_allIce_6 : decode cX8_allIce 6 = .ok (.getfield 60, 3) := by decide +kernel
theorem dX8_allIce_9 : decode cX8_allIce 9 = .ok (.if_icmp .ge 20, 3) := by decide +kernel
theorem dX8_allIce_12 : decode cX8_allIce 12 = .ok (.iload_n 1, 1) := by decide +kernel
theorem dX8_allIce_13 : decode cX8_allIce 13 = .ok (.aload_n 0, 1) := by decide +kernel
theorem dX8_allIce_14 : decode cX8_allIce 14 = .ok (.getfield 7, 3) := by decide +kernel
theorem dX8_allIce_17 : decode cX8_allIce 17 = .ok (.iconst 0, 1) := by decide +kernel
theorem dX8_allIce_18 : decode cX8_allIce 18 = .ok (.iload_n 2, 1) := by decide +kernel
theorem dX8_allIce_19 : decode cX8_allIce 19 = .ok (.iadd, 1) := by decide +kernel
theorem dX8_allIce_20 : decode cX8_allIce 20 = .ok (.iaload, 1) := by decide +kernel
theorem dX8_allIce_21 : decode cX8_allIce 21 = .ok (.iadd, 1) := by decide +kernel
theorem dX8_allIce_22 : decode cX8_allIce 22 = .ok (.istore_n 1, 1) := by decide +kernel
theorem dX8_allIce_23 : decode cX8_allIce 23 = .ok (.iinc 2 1, 3) := by decide +kernel
theorem dX8_allIce_26 : decode cX8_allIce 26 = .ok (.goto (-22), 3) := by decide +kernel
theorem dX8_allIce_29 : decode cX8_allIce 29 = .ok (.iload_n 1, 1) := by decide +kernel
theorem dX8_allIce_30 : decode cX8_allIce 30 = .ok (.ireturn, 1) := by decide +kernel
set_option maxRecDepth 20000 in
theorem ggX8_night_X8_in : GoodIn wsX8_night wsX8_in := goodIn_r _ [9] (by decide +kernel) (by decide +kernel)
set_option maxRecDepth 20000 in
theorem gX8_night_X8_in : GoodIn wsX8_night (va_wsS RX8 63 yX8_in wsX8_in) := goodIn_app (goodIn_of _ (by decide +kernel)) ggX8_night_X8_in
set_option maxRecDepth 20000 in
theorem ggX8_night_X8_nightOf : GoodIn wsX8_night wsX8_nightOf := goodIn_r _ [13, 14, 4, 15, 16, 17, 8, 18, 19, 20, 21, 26, 27, 28, 29, 30, 31, 32, 33, 34, 35, 36, 37, 38, 39, 40, 41, 42, 43, 44, 45, 46, 47, 48, 49, 50, 51, 52, 53] (by decide +kernel) (by decide +kernel)
set_option maxRecDepth 20000 in
theorem gX8_night_X8_nightOf : GoodIn wsX8_night (wsV RX8 165 RX8 yX8_nightOf wsX8_nightOf) := goodIn_app (goodIn_of _ (by decide +kernel)) ggX8_night_X8_nightOf
set_option maxRecDepth 20000 in
theorem ggX8_night_X8_allIce : GoodIn wsX8_night wsX8_allIce := goodIn_r _ [25, 14, 4, 26, 27, 28, 29, 30, 31, 32, 33, 34, 35, 36, 37, 38, 39, 40, 41, 42, 43, 44, 45, 46, 47, 48, 49, 50, 51, 52, 53] (by decide +kernel) (by decide +kernel)
set_option maxRecDepth 20000 in
theorem gX8_night_X8_allIce : GoodIn wsX8_night (wsV RX8 169 RX8 yX8_allIce wsX8_allIce) := goodIn_app (goodIn_of _ (by decide +kernel)) ggX8_night_X8_allIce
theorem dX8_night_0 : decode cX8_night 0 = .ok (.iload_n 1, 1) := by decide +kernel
theorem dX8_night_1 : decode cX8_night 1 = .ok (.i2l, 1) := by decide +kernel
theorem dX8_night_2 : decode cX8_night 2 = .ok (.lconst 0, 1) := by decide +kernel
theorem dX8_night_3 : decode cX8_night 3 = .ok (.ldc2_w 153, 3) := by decide +kernel
theorem dX8_night_6 : decode cX8_night 6 = .ok (.invokestatic 63, 3) := by decide +kernel
theorem dX8_night_9 : decode cX8_night 9 = .ok (.ifCond .eq 15, 3) := by decide +kernel
theorem dX8_night_12 : decode cX8_night 12 = .ok (.iload_n 2, 1) := by decide +kernel
theorem dX8_night_13 : decode cX8_night 13 = .ok (.i2l, 1) := by decide +kernel
theorem dX8_night_14 : decode cX8_night 14 = .ok (.lconst 1, 1) := by decide +kernel
theorem dX8_night_15 : decode cX8_night 15 = .ok (.ldc2_w 163, 3) := by decide +kernel
theorem dX8_night_18 : decode cX8_night 18 = .ok (.invokestatic 63, 3) := by decide +kernel
theorem dX8_night_21 : decode cX8_night 21 = .ok (.ifCond .ne 6, 3) := by decide +kernel
theorem dX8_night_24 : decode cX8_night 24 = .ok (.ldc 83, 2) := by decide +kernel
theorem dX8_night_26 : decode cX8_night 26 = .ok (.ireturn, 1) := by decide +kernel
theorem dX8_night_27 : decode cX8_night 27 = .ok (.aload_n 0, 1) := by decide +kernel
theorem dX8_night_28 : decode cX8_night 28 = .ok (.getfield 7, 3) := by decide +kernel
theorem dX8_night_31 : decode cX8_night 31 = .ok (.bipush 49, 2) := by decide +kernel
theorem dX8_night_33 : decode cX8_night 33 = .ok (.iaload, 1) := by decide +kernel
theorem dX8_night_34 : decode cX8_night 34 = .ok (.sipush 9000, 3) := by decide +kernel
theorem dX8_night_37 : decode cX8_night 37 = .ok (.if_icmp .le 6, 3) := by decide +kernel
theorem dX8_night_40 : decode cX8_night 40 = .ok (.ldc 87, 2) := by decide +kernel
theorem dX8_night_42 : decode cX8_night 42 = .ok (.ireturn, 1) := by decide +kernel
theorem dX8_night_43 : decode cX8_night 43 = .ok (.iconst 0, 1) := by decide +kernel
theorem dX8_night_44 : decode cX8_night 44 = .ok (.istore_n 3, 1) := by decide +kernel
theorem dX8_night_45 : decode cX8_night 45 = .ok (.iload_n 3, 1) := by decide +kernel
theorem dX8_night_46 : decode cX8_night 46 = .ok (.iload_n 2, 1) := by decide +kernel
theorem dX8_night_47 : decode cX8_night 47 = .ok (.if_icmp .ge 15, 3) := by decide +kernel
theorem dX8_night_50 : decode cX8_night 50 = .ok (.aload_n 0, 1) := by decide +kernel
theorem dX8_night_51 : decode cX8_night 51 = .ok (.iconst 0, 1) := by decide +kernel
theorem dX8_night_52 : decode cX8_night 52 = .ok (.iload_n 1, 1) := by decide +kernel
theorem dX8_night_53 : decode cX8_night 53 = .ok (.invokevirtual 165, 3) := by decide +kernel
theorem dX8_night_56 : decode cX8_night 56 = .ok (.iinc 3 1, 3) := by decide +kernel
theorem dX8_night_59 : decode cX8_night 59 = .ok (.goto (-14), 3) := by decide +kernel
theorem dX8_night_62 : decode cX8_night 62 = .ok (.aload_n 0, 1) := by decide +kernel
theorem dX8_night_63 : decode cX8_night 63 = .ok (.invokevirtual 169, 3) := by decide +kernel
theorem dX8_night_66 : decode cX8_night 66 = .ok (.ireturn, 1) := by decide +kernel
set_option maxRecDepth 20000 in
theorem ggX8_thaw_X8_in : GoodIn wsX8_thaw wsX8_in := goodIn_r _ [8] (by decide +kernel) (by decide +kernel)
set_option maxRecDepth 20000 in
theorem gX8_thaw_X8_in : GoodIn wsX8_thaw (va_wsS RX8 63 yX8_in wsX8_in) := goodIn_app (goodIn_of _ (by decide +kernel)) ggX8_thaw_X8_in
set_option maxRecDepth 20000 in
theorem ggX8_thaw_X8_thawOf : GoodIn wsX8_thaw wsX8_thawOf := goodIn_r _ [12, 13, 3, 14, 15, 16, 7, 17, 22, 23, 24, 25, 26, 27, 28, 29, 30, 31, 32, 33, 34, 35, 36, 37, 38, 39, 40, 41, 42, 43, 44, 45, 46, 47, 48, 49] (by decide +kernel) (by decide +kernel)
set_option maxRecDepth 20000 in
theorem gX8_thaw_X8_thawOf : GoodIn wsX8_thaw (wsV RX8 174 RX8 yX8_thawOf wsX8_thawOf) := goodIn_app (goodIn_of _ (by decide +kernel)) ggX8_thaw_X8_thawOf
set_option maxRecDepth 20000 in
theorem ggX8_thaw_X8_allIce : GoodIn wsX8_thaw wsX8_allIce := goodIn_r _ [21, 13, 3, 22, 23, 24, 25, 26, 27, 28, 29, 30, 31, 32, 33, 34, 35, 36, 37, 38, 39, 40, 41, 42, 43, 44, 45, 46, 47, 48, 49] (by decide +kernel) (by decide +kernel)
set_option maxRecDepth 20000 in
theorem gX8_thaw_X8_allIce : GoodIn wsX8_thaw (wsV RX8 169 RX8 yX8_allIce wsX8_allIce) := goodIn_app (goodIn_of _ (by decide +kernel)) ggX8_thaw_X8_allIce
theorem dX8_thaw_0 : decode cX8_thaw 0 = .ok (.iload_n 1, 1) := by decide +kernel
theorem dX8_thaw_1 : decode cX8_thaw 1 = .ok (.i2l, 1) := by decide +kernel
theorem dX8_thaw_2 : decode cX8_thaw 2 = .ok (.lconst 0, 1) := by decide +kernel
theorem dX8_thaw_3 : decode cX8_thaw 3 = .ok (.ldc2_w 172, 3) := by decide +kernel
theorem dX8_thaw_6 : decode cX8_thaw 6 = .ok (.invokestatic 63, 3) := by decide +kernel
theorem dX8_thaw_9 : decode cX8_thaw 9 = .ok (.ifCond .ne 6, 3) := by decide +kernel
theorem dX8_thaw_12 : decode cX8_thaw 12 = .ok (.ldc 83, 2) := by decide +kernel
theorem dX8_thaw_14 : decode cX8_thaw 14 = .ok (.ireturn, 1) := by decide +kernel
theorem dX8_thaw_15 : decode cX8_thaw 15 = .ok (.aload_n 0, 1) := by decide +kernel
theorem dX8_thaw_16 : decode cX8_thaw 16 = .ok (.getfield 7, 3) := by decide +kernel
theorem dX8_thaw_19 : decode cX8_thaw 19 = .ok (.bipush 49, 2) := by decide +kernel
theorem dX8_thaw_21 : decode cX8_thaw 21 = .ok (.iaload, 1) := by decide +kernel
theorem dX8_thaw_22 : decode cX8_thaw 22 = .ok (.sipush 9000, 3) := by decide +kernel
theorem dX8_thaw_25 : decode cX8_thaw 25 = .ok (.if_icmp .le 6, 3) := by decide +kernel
theorem dX8_thaw_28 : decode cX8_thaw 28 = .ok (.ldc 87, 2) := by decide +kernel
theorem dX8_thaw_30 : decode cX8_thaw 30 = .ok (.ireturn, 1) := by decide +kernel
theorem dX8_thaw_31 : decode cX8_thaw 31 = .ok (.aload_n 0, 1) := by decide +kernel
theorem dX8_thaw_32 : decode cX8_thaw 32 = .ok (.iconst 0, 1) := by decide +kernel
theorem dX8_thaw_33 : decode cX8_thaw 33 = .ok (.iload_n 1, 1) := by decide +kernel
theorem dX8_thaw_34 : decode cX8_thaw 34 = .ok (.invokevirtual 174, 3) := by decide +kernel
theorem dX8_thaw_37 : decode cX8_thaw 37 = .ok (.aload_n 0, 1) := by decide +kernel
theorem dX8_thaw_38 : decode cX8_thaw 38 = .ok (.invokevirtual 169, 3) := by decide +kernel
theorem dX8_thaw_41 : decode cX8_thaw 41 = .ok (.ireturn, 1) := by decide +kernel
set_option maxRecDepth 20000 in
theorem ggX8_beat_X8_in : GoodIn wsX8_beat wsX8_in := goodIn_r _ [7] (by decide +kernel) (by decide +kernel)
set_option maxRecDepth 20000 in
theorem gX8_beat_X8_in : GoodIn wsX8_beat (va_wsS RX8 63 yX8_in wsX8_in) := goodIn_app (goodIn_of _ (by decide +kernel)) ggX8_beat_X8_in
set_option maxRecDepth 20000 in
theorem ggX8_beat_X8_forceNow : GoodIn wsX8_beat wsX8_forceNow := goodIn_r _ [11, 12, 3, 13, 14, 15, 6, 16, 17, 18, 19, 20, 21, 22, 23, 24, 25, 26, 27, 28, 29, 30, 31, 32, 33, 34, 35, 36, 37, 38, 39, 40, 41, 42, 43, 44] (by decide +kernel) (by decide +kernel)
set_option maxRecDepth 20000 in
theorem gX8_beat_X8_forceNow : GoodIn wsX8_beat (wsV RX8 141 RX8 yX8_forceNow wsX8_forceNow) := goodIn_app (goodIn_of _ (by decide +kernel)) ggX8_beat_X8_forceNow
end
section
theorem dX8_beat_0 : decode cX8_beat 0 = .ok (.iload_n 1, 1) := by decide +kernel
theorem dX8_beat_1 : decode cX8_beat 1 = .ok (.i2l, 1) := by decide +kernel
theorem dX8_beat_2 : decode cX8_beat 2 = .ok (.lconst 1, 1) := by decide +kernel
theorem dX8_beat_3 : decode cX8_beat 3 = .ok (.ldc2_w 147, 3) := by decide +kernel
theorem dX8_beat_6 : decode cX8_beat 6 = .ok (.invokestatic 63, 3) := by decide +kernel
theorem dX8_beat_9 : decode cX8_beat 9 = .ok (.ifCond .ne 6, 3) := by decide +kernel
theorem dX8_beat_12 : decode cX8_beat 12 = .ok (.ldc 83, 2) := by decide +kernel
theorem dX8_beat_14 : decode cX8_beat 14 = .ok (.ireturn, 1) := by decide +kernel
theorem dX8_beat_15 : decode cX8_beat 15 = .ok (.aload_n 0, 1) := by decide +kernel
theorem dX8_beat_16 : decode cX8_beat 16 = .ok (.getfield 7, 3) := by decide +kernel
theorem dX8_beat_19 : decode cX8_beat 19 = .ok (.bipush 48, 2) := by decide +kernel
theorem dX8_beat_21 : decode cX8_beat 21 = .ok (.iload_n 1, 1) := by decide +kernel
theorem dX8_beat_22 : decode cX8_beat 22 = .ok (.iastore, 1) := by decide +kernel
theorem dX8_beat_23 : decode cX8_beat 23 = .ok (.aload_n 0, 1) := by decide +kernel
theorem dX8_beat_24 : decode cX8_beat 24 = .ok (.invokevirtual 141, 3) := by decide +kernel
theorem dX8_beat_27 : decode cX8_beat 27 = .ok (.ireturn, 1) := by decide +kernel
theorem dX8_goes_0 : decode cX8_goes 0 = .ok (.aload_n 0, 1) := by decide +kernel
theorem dX8_goes_1 : decode cX8_goes 1 = .ok (.iconst 0, 1) := by decide +kernel
theorem dX8_goes_2 : decode cX8_goes 2 = .ok (.putfield 177, 3) := by decide +kernel
theorem dX8_goes_5 : decode cX8_goes 5 = .ok (.aload_n 0, 1) := by decide +kernel
theorem dX8_goes_6 : decode cX8_goes 6 = .ok (.iconst 0, 1) := by decide +kernel
theorem dX8_goes_7 : decode cX8_goes 7 = .ok (.putfield 180, 3) := by decide +kernel
theorem dX8_goes_10 : decode cX8_goes 10 = .ok (.aload_n 0, 1) := by decide +kernel
theorem dX8_goes_11 : decode cX8_goes 11 = .ok (.iconst (-1), 1) := by decide +kernel
theorem dX8_goes_12 : decode cX8_goes 12 = .ok (.putfield 183, 3) := by decide +kernel
theorem dX8_goes_15 : decode cX8_goes 15 = .ok (.iconst 1, 1) := by decide +kernel
theorem dX8_goes_16 : decode cX8_goes 16 = .ok (.istore 4, 2) := by decide +kernel
theorem dX8_goes_18 : decode cX8_goes 18 = .ok (.iconst 0, 1) := by decide +kernel
theorem dX8_goes_19 : decode cX8_goes 19 = .ok (.istore 5, 2) := by decide +kernel
theorem dX8_goes_21 : decode cX8_goes 21 = .ok (.iload 5, 2) := by decide +kernel
theorem dX8_goes_23 : decode cX8_goes 23 = .ok (.aload_n 0, 1) := by decide +kernel
theorem dX8_goes_24 : decode cX8_goes 24 = .ok (.getfield 60, 3) := by decide +kernel
theorem dX8_goes_27 : decode cX8_goes 27 = .ok (.if_icmp .ge 228, 3) := by decide +kernel
theorem dX8_goes_30 : decode cX8_goes 30 = .ok (.iload 4, 2) := by decide +kernel
theorem dX8_goes_32 : decode cX8_goes 32 = .ok (.ifCond .eq 223, 3) := by decide +kernel
theorem dX8_goes_35 : decode cX8_goes 35 = .ok (.aload_n 0, 1) := by decide +kernel
theorem dX8_goes_36 : decode cX8_goes 36 = .ok (.getfield 7, 3) := by decide +kernel
theorem dX8_goes_39 : decode cX8_goes 39 = .ok (.iload_n 1, 1) := by decide +kernel
theorem dX8_goes_40 : decode cX8_goes 40 = .ok (.iconst 0, 1) := by decide +kernel
theorem dX8_goes_41 : decode cX8_goes 41 = .ok (.iadd, 1) := by decide +kernel
theorem dX8_goes_42 : decode cX8_goes 42 = .ok (.iload 5, 2) := by decide +kernel
theorem dX8_goes_44 : decode cX8_goes 44 = .ok (.iadd, 1) := by decide +kernel
theorem dX8_goes_45 : decode cX8_goes 45 = .ok (.iaload, 1) := by decide +kernel
theorem dX8_goes_46 : decode cX8_goes 46 = .ok (.istore 6, 2) := by decide +kernel
theorem dX8_goes_48 : decode cX8_goes 48 = .ok (.iload 6, 2) := by decide +kernel
theorem dX8_goes_50 : decode cX8_goes 50 = .ok (.ifCond .ne 7, 3) := by decide +kernel
theorem dX8_goes_53 : decode cX8_goes 53 = .ok (.iconst 1, 1) := by decide +kernel
theorem dX8_goes_54 : decode cX8_goes 54 = .ok (.goto 12, 3) := by decide +kernel
theorem dX8_goes_57 : decode cX8_goes 57 = .ok (.iconst 1, 1) := by decide +kernel
theorem dX8_goes_58 : decode cX8_goes 58 = .ok (.bipush 10, 2) := by decide +kernel
theorem dX8_goes_60 : decode cX8_goes 60 = .ok (.iload 6, 2) := by decide +kernel
theorem dX8_goes_62 : decode cX8_goes 62 = .ok (.imul, 1) := by decide +kernel
theorem dX8_goes_63 : decode cX8_goes 63 = .ok (.iload_n 3, 1) := by decide +kernel
theorem dX8_goes_64 : decode cX8_goes 64 = .ok (.idiv, 1) := by decide +kernel
theorem dX8_goes_65 : decode cX8_goes 65 = .ok (.iadd, 1) := by decide +kernel
theorem dX8_goes_66 : decode cX8_goes 66 = .ok (.istore 7, 2) := by decide +kernel
theorem dX8_goes_68 : decode cX8_goes 68 = .ok (.iload 6, 2) := by decide +kernel
theorem dX8_goes_70 : decode cX8_goes 70 = .ok (.iload_n 3, 1) := by decide +kernel
theorem dX8_goes_71 : decode cX8_goes 71 = .ok (.if_icmp .le 10, 3) := by decide +kernel
theorem dX8_goes_74 : decode cX8_goes 74 = .ok (.iconst 2, 1) := by decide +kernel
theorem dX8_goes_75 : decode cX8_goes 75 = .ok (.iload 7, 2) := by decide +kernel
theorem dX8_goes_77 : decode cX8_goes 77 = .ok (.imul, 1) := by decide +kernel
theorem dX8_goes_78 : decode cX8_goes 78 = .ok (.goto 5, 3) := by decide +kernel
theorem dX8_goes_81 : decode cX8_goes 81 = .ok (.iload 7, 2) := by decide +kernel
theorem dX8_goes_83 : decode cX8_goes 83 = .ok (.istore 7, 2) := by decide +kernel
theorem dX8_goes_85 : decode cX8_goes 85 = .ok (.iload 7, 2) := by decide +kernel
theorem dX8_goes_87 : decode cX8_goes 87 = .ok (.iload 6, 2) := by decide +kernel
theorem dX8_goes_89 : decode cX8_goes 89 = .ok (.ifCond .le 28, 3) := by decide +kernel
theorem dX8_goes_92 : decode cX8_goes 92 = .ok (.aload_n 0, 1) := by decide +kernel
theorem dX8_goes_93 : decode cX8_goes 93 = .ok (.getfield 7, 3) := by decide +kernel
theorem dX8_goes_96 : decode cX8_goes 96 = .ok (.iload_n 1, 1) := by decide +kernel
theorem dX8_goes_97 : decode cX8_goes 97 = .ok (.bipush 12, 2) := by decide +kernel
theorem dX8_goes_99 : decode cX8_goes 99 = .ok (.iadd, 1) := by decide +kernel
theorem dX8_goes_100 : decode cX8_goes 100 = .ok (.iload 5, 2) := by decide +kernel
theorem dX8_goes_102 : decode cX8_goes 102 = .ok (.iadd, 1) := by decide +kernel
theorem dX8_goes_103 : decode cX8_goes 103 = .ok (.iaload, 1) := by decide +kernel
theorem dX8_goes_104 : decode cX8_goes 104 = .ok (.iconst 2, 1) := by decide +kernel
theorem dX8_goes_105 : decode cX8_goes 105 = .ok (.if_icmp .ne 12, 3) := by decide +kernel
theorem dX8_goes_108 : decode cX8_goes 108 = .ok (.aload_n 0, 1) := by decide +kernel
theorem dX8_goes_109 : decode cX8_goes 109 = .ok (.getfield 13, 3) := by decide +kernel
theorem dX8_goes_112 : decode cX8_goes 112 = .ok (.iconst 5, 1) := by decide +kernel
theorem dX8_goes_113 : decode cX8_goes 113 = .ok (.iaload, 1) := by decide +kernel
theorem dX8_goes_114 : decode cX8_goes 114 = .ok (.goto 4, 3) := by decide +kernel
theorem dX8_goes_117 : decode cX8_goes 117 = .ok (.iconst 0, 1) := by decide +kernel
theorem dX8_goes_118 : decode cX8_goes 118 = .ok (.iadd, 1) := by decide +kernel
theorem dX8_goes_119 : decode cX8_goes 119 = .ok (.istore 7, 2) := by decide +kernel
theorem dX8_goes_121 : decode cX8_goes 121 = .ok (.iload 6, 2) := by decide +kernel
theorem dX8_goes_123 : decode cX8_goes 123 = .ok (.iconst 2, 1) := by decide +kernel
theorem dX8_goes_124 : decode cX8_goes 124 = .ok (.iload_n 3, 1) := by decide +kernel
theorem dX8_goes_125 : decode cX8_goes 125 = .ok (.imul, 1) := by decide +kernel
theorem dX8_goes_126 : decode cX8_goes 126 = .ok (.if_icmp .gt 18, 3) := by decide +kernel
theorem dX8_goes_129 : decode cX8_goes 129 = .ok (.aload_n 0, 1) := by decide +kernel
theorem dX8_goes_130 : decode cX8_goes 130 = .ok (.getfield 180, 3) := by decide +kernel
theorem dX8_goes_133 : decode cX8_goes 133 = .ok (.iload 7, 2) := by decide +kernel
theorem dX8_goes_135 : decode cX8_goes 135 = .ok (.iadd, 1) := by decide +kernel
theorem dX8_goes_136 : decode cX8_goes 136 = .ok (.iload_n 2, 1) := by decide +kernel
theorem dX8_goes_137 : decode cX8_goes 137 = .ok (.if_icmp .gt 7, 3) := by decide +kernel
theorem dX8_goes_140 : decode cX8_goes 140 = .ok (.iconst 1, 1) := by decide +kernel
theorem dX8_goes_141 : decode cX8_goes 141 = .ok (.goto 4, 3) := by decide +kernel
theorem dX8_goes_144 : decode cX8_goes 144 = .ok (.iconst 0, 1) := by decide +kernel
theorem dX8_goes_145 : decode cX8_goes 145 = .ok (.istore 4, 2) := by decide +kernel
theorem dX8_goes_147 : decode cX8_goes 147 = .ok (.iload 4, 2) := by decide +kernel
theorem dX8_goes_149 : decode cX8_goes 149 = .ok (.ifCond .eq 100, 3) := by decide +kernel
theorem dX8_goes_152 : decode cX8_goes 152 = .ok (.aload_n 0, 1) := by decide +kernel
theorem dX8_goes_153 : decode cX8_goes 153 = .ok (.dup, 1) := by decide +kernel
theorem dX8_goes_154 : decode cX8_goes 154 = .ok (.getfield 180, 3) := by decide +kernel
theorem dX8_goes_157 : decode cX8_goes 157 = .ok (.iload 7, 2) := by decide +kernel
theorem dX8_goes_159 : decode cX8_goes 159 = .ok (.iadd, 1) := by decide +kernel
theorem dX8_goes_160 : decode cX8_goes 160 = .ok (.putfield 180, 3) := by decide +kernel
theorem dX8_goes_163 : decode cX8_goes 163 = .ok (.aload_n 0, 1) := by decide +kernel
theorem dX8_goes_164 : decode cX8_goes 164 = .ok (.getfield 33, 3) := by decide +kernel
theorem dX8_goes_167 : decode cX8_goes 167 = .ok (.iload 5, 2) := by decide +kernel
theorem dX8_goes_169 : decode cX8_goes 169 = .ok (.aload_n 0, 1) := by decide +kernel
theorem dX8_goes_170 : decode cX8_goes 170 = .ok (.getfield 180, 3) := by decide +kernel
theorem dX8_goes_173 : decode cX8_goes 173 = .ok (.iastore, 1) := by decide +kernel
theorem dX8_goes_174 : decode cX8_goes 174 = .ok (.aload_n 0, 1) := by decide +kernel
theorem dX8_goes_175 : decode cX8_goes 175 = .ok (.dup, 1) := by decide +kernel
theorem dX8_goes_176 : decode cX8_goes 176 = .ok (.getfield 177, 3) := by decide +kernel
theorem dX8_goes_179 : decode cX8_goes 179 = .ok (.iconst 1, 1) := by decide +kernel
theorem dX8_goes_180 : decode cX8_goes 180 = .ok (.iadd, 1) := by decide +kernel
theorem dX8_goes_181 : decode cX8_goes 181 = .ok (.putfield 177, 3) := by decide +kernel
theorem dX8_goes_184 : decode cX8_goes 184 = .ok (.iload 6, 2) := by decide +kernel
theorem dX8_goes_186 : decode cX8_goes 186 = .ok (.ifCond .le 63, 3) := by decide +kernel
theorem dX8_goes_189 : decode cX8_goes 189 = .ok (.aload_n 0, 1) := by decide +kernel
theorem dX8_goes_190 : decode cX8_goes 190 = .ok (.aload_n 0, 1) := by decide +kernel
theorem dX8_goes_191 : decode cX8_goes 191 = .ok (.getfield 183, 3) := by decide +kernel
theorem dX8_goes_194 : decode cX8_goes 194 = .ok (.iconst (-1), 1) := by decide +kernel
theorem dX8_goes_195 : decode cX8_goes 195 = .ok (.if_icmp .ne 8, 3) := by decide +kernel
theorem dX8_goes_198 : decode cX8_goes 198 = .ok (.iload 5, 2) := by decide +kernel
theorem dX8_goes_200 : decode cX8_goes 200 = .ok (.goto 7, 3) := by decide +kernel
theorem dX8_goes_203 : decode cX8_goes 203 = .ok (.aload_n 0, 1) := by decide +kernel
theorem dX8_goes_204 : decode cX8_goes 204 = .ok (.getfield 183, 3) := by decide +kernel
theorem dX8_goes_207 : decode cX8_goes 207 = .ok (.putfield 183, 3) := by decide +kernel
theorem dX8_goes_210 : decode cX8_goes 210 = .ok (.aload_n 0, 1) := by decide +kernel
theorem dX8_goes_211 : decode cX8_goes 211 = .ok (.getfield 7, 3) := by decide +kernel
theorem dX8_goes_214 : decode cX8_goes 214 = .ok (.iload_n 1, 1) := by decide +kernel
theorem dX8_goes_215 : decode cX8_goes 215 = .ok (.bipush 24, 2) := by decide +kernel
theorem dX8_goes_217 : decode cX8_goes 217 = .ok (.iadd, 1) := by decide +kernel
theorem dX8_goes_218 : decode cX8_goes 218 = .ok (.iload 5, 2) := by decide +kernel
theorem dX8_goes_220 : decode cX8_goes 220 = .ok (.iadd, 1) := by decide +kernel
theorem dX8_goes_221 : decode cX8_goes 221 = .ok (.iload 6, 2) := by decide +kernel
theorem dX8_goes_223 : decode cX8_goes 223 = .ok (.iastore, 1) := by decide +kernel
theorem dX8_goes_224 : decode cX8_goes 224 = .ok (.aload_n 0, 1) := by decide +kernel
theorem dX8_goes_225 : decode cX8_goes 225 = .ok (.getfield 7, 3) := by decide +kernel
theorem dX8_goes_228 : decode cX8_goes 228 = .ok (.iload_n 1, 1) := by decide +kernel
theorem dX8_goes_229 : decode cX8_goes 229 = .ok (.iconst 0, 1) := by decide +kernel
theorem dX8_goes_230 : decode cX8_goes 230 = .ok (.iadd, 1) := by decide +kernel
theorem dX8_goes_231 : decode cX8_goes 231 = .ok (.iload 5, 2) := by decide +kernel
theorem dX8_goes_233 : decode cX8_goes 233 = .ok (.iadd, 1) := by decide +kernel
theorem dX8_goes_234 : decode cX8_goes 234 = .ok (.iconst 0, 1) := by decide +kernel
theorem dX8_goes_235 : decode cX8_goes 235 = .ok (.iastore, 1) := by decide +kernel
theorem dX8_goes_236 : decode cX8_goes 236 = .ok (.aload_n 0, 1) := by decide +kernel
theorem dX8_goes_237 : decode cX8_goes 237 = .ok (.getfield 7, 3) := by decide +kernel
theorem dX8_goes_240 : decode cX8_goes 240 = .ok (.iload_n 1, 1) := by decide +kernel
theorem dX8_goes_241 : decode cX8_goes 241 = .ok (.bipush 36, 2) := by decide +kernel
theorem dX8_goes_243 : decode cX8_goes 243 = .ok (.iadd, 1) := by decide +kernel
theorem dX8_goes_244 : decode cX8_goes 244 = .ok (.iload 5, 2) := by decide +kernel
theorem dX8_goes_246 : decode cX8_goes 246 = .ok (.iadd, 1) := by decide +kernel
theorem dX8_goes_247 : decode cX8_goes 247 = .ok (.iconst 1, 1) := by decide +kernel
theorem dX8_goes_248 : decode cX8_goes 248 = .ok (.iastore, 1) := by decide +kernel
theorem dX8_goes_249 : decode cX8_goes 249 = .ok (.iinc 5 1, 3) := by decide +kernel
theorem dX8_goes_252 : decode cX8_goes 252 = .ok (.goto (-231), 3) := by decide +kernel
theorem dX8_goes_255 : decode cX8_goes 255 = .ok (.return_, 1) := by decide +kernel
set_option maxRecDepth 20000 in
theorem ggX8_out_X8_isTime : GoodIn wsX8_out wsX8_isTime := goodIn_r _ [8, 9, 10, 11, 7, 12] (by decide +kernel) (by decide +kernel)
set_option maxRecDepth 20000 in
theorem gX8_out_X8_isTime : GoodIn wsX8_out (va_wsS RX8 186 yX8_isTime wsX8_isTime) := goodIn_app (goodIn_of _ (by decide +kernel)) ggX8_out_X8_isTime
set_option maxRecDepth 20000 in
theorem ggX8_out_X8_forceNow : GoodIn wsX8_out wsX8_forceNow := goodIn_r _ [16, 17, 18, 19, 20, 21, 7, 22, 30, 31, 32, 33, 34, 35, 36, 37, 38, 39, 40, 41, 42, 43, 44, 45, 46, 47, 48, 49, 50, 51, 52, 53, 54, 55, 56, 57] (by decide +kernel) (by decide +kernel)
set_option maxRecDepth 20000 in
theorem gX8_out_X8_forceNow : GoodIn wsX8_out (wsV RX8 141 RX8 yX8_forceNow wsX8_forceNow) := goodIn_app (goodIn_of _ (by decide +kernel)) ggX8_out_X8_forceNow
set_option maxRecDepth 20000 in
theorem ggX8_out_X8_goes : GoodIn wsX8_out wsX8_goes := goodIn_r _ [26, 4, 27, 28, 2, 18, 17, 29, 30, 31, 32, 33, 34, 35, 36, 37, 38, 39, 40, 41, 42, 43, 44, 45, 46, 47, 48, 49, 50, 51, 52, 53, 54, 55, 56, 57] (by decide +kernel) (by decide +kernel)
set_option maxRecDepth 20000 in
theorem gX8_out_X8_goes : GoodIn wsX8_out (wsV RX8 190 RX8 yX8_goes wsX8_goes) := goodIn_app (goodIn_of _ (by decide +kernel)) ggX8_out_X8_goes
theorem dX8_out_0 : decode cX8_out 0 = .ok (.iload_n 1, 1) := by decide +kernel
theorem dX8_out_1 : decode cX8_out 1 = .ok (.invokestatic 186, 3) := by decide +kernel
theorem dX8_out_4 : decode cX8_out 4 = .ok (.ifCond .ne 6, 3) := by decide +kernel
theorem dX8_out_7 : decode cX8_out 7 = .ok (.ldc 83, 2) := by decide +kernel
theorem dX8_out_9 : decode cX8_out 9 = .ok (.ireturn, 1) := by decide +kernel
theorem dX8_out_10 : decode cX8_out 10 = .ok (.aload_n 0, 1) := by decide +kernel
theorem dX8_out_11 : decode cX8_out 11 = .ok (.getfield 60, 3) := by decide +kernel
theorem dX8_out_14 : decode cX8_out 14 = .ok (.ifCond .ne 6, 3) := by decide +kernel
theorem dX8_out_17 : decode cX8_out 17 = .ok (.ldc 189, 2) := by decide +kernel
theorem dX8_out_19 : decode cX8_out 19 = .ok (.ireturn, 1) := by decide +kernel
theorem dX8_out_20 : decode cX8_out 20 = .ok (.aload_n 0, 1) := by decide +kernel
theorem dX8_out_21 : decode cX8_out 21 = .ok (.iconst 0, 1) := by decide +kernel
theorem dX8_out_22 : decode cX8_out 22 = .ok (.iload_n 1, 1) := by decide +kernel
theorem dX8_out_23 : decode cX8_out 23 = .ok (.aload_n 0, 1) := by decide +kernel
theorem dX8_out_24 : decode cX8_out 24 = .ok (.invokevirtual 141, 3) := by decide +kernel
theorem dX8_out_27 : decode cX8_out 27 = .ok (.invokevirtual 190, 3) := by decide +kernel
theorem dX8_out_30 : decode cX8_out 30 = .ok (.aload_n 0, 1) := by decide +kernel
theorem dX8_out_31 : decode cX8_out 31 = .ok (.getfield 177, 3) := by decide +kernel
theorem dX8_out_34 : decode cX8_out 34 = .ok (.ireturn, 1) := by decide +kernel
theorem dX8_draw_0 : decode cX8_draw 0 = .ok (.aload_n 0, 1) := by decide +kernel
theorem dX8_draw_1 : decode cX8_draw 1 = .ok (.getfield 7, 3) := by decide +kernel
theorem dX8_draw_4 : decode cX8_draw 4 = .ok (.bipush 50, 2) := by decide +kernel
theorem dX8_draw_6 : decode cX8_draw 6 = .ok (.aload_n 0, 1) := by decide +kernel
theorem dX8_draw_7 : decode cX8_draw 7 = .ok (.getfield 7, 3) := by decide +kernel
theorem dX8_draw_10 : decode cX8_draw 10 = .ok (.bipush 50, 2) := by decide +kernel
theorem dX8_draw_12 : decode cX8_draw 12 = .ok (.iaload, 1) := by decide +kernel
theorem dX8_draw_13 : decode cX8_draw 13 = .ok (.i2l, 1) := by decide +kernel
theorem dX8_draw_14 : decode cX8_draw 14 = .ok (.ldc2_w 194, 3) := by decide +kernel
theorem dX8_draw_17 : decode cX8_draw 17 = .ok (.lmul, 1) := by decide +kernel
theorem dX8_draw_18 : decode cX8_draw 18 = .ok (.ldc2_w 196, 3) := by decide +kernel
theorem dX8_draw_21 : decode cX8_draw 21 = .ok (.ladd, 1) := by decide +kernel
theorem dX8_draw_22 : decode cX8_draw 22 = .ok (.ldc2_w 198, 3) := by decide +kernel
theorem dX8_draw_25 : decode cX8_draw 25 = .ok (.lrem, 1) := by decide +kernel
theorem dX8_draw_26 : decode cX8_draw 26 = .ok (.l2i, 1) := by decide +kernel
theorem dX8_draw_27 : decode cX8_draw 27 = .ok (.iastore, 1) := by decide +kernel
theorem dX8_draw_28 : decode cX8_draw 28 = .ok (.aload_n 0, 1) := by decide +kernel
theorem dX8_draw_29 : decode cX8_draw 29 = .ok (.getfield 7, 3) := by decide +kernel
theorem dX8_draw_32 : decode cX8_draw 32 = .ok (.bipush 50, 2) := by decide +kernel
theorem dX8_draw_34 : decode cX8_draw 34 = .ok (.iaload, 1) := by decide +kernel
theorem dX8_draw_35 : decode cX8_draw 35 = .ok (.ldc 200, 2) := by decide +kernel
theorem dX8_draw_37 : decode cX8_draw 37 = .ok (.idiv, 1) := by decide +kernel
theorem dX8_draw_38 : decode cX8_draw 38 = .ok (.iload_n 1, 1) := by decide +kernel
theorem dX8_draw_39 : decode cX8_draw 39 = .ok (.irem, 1) := by decide +kernel
theorem dX8_draw_40 : decode cX8_draw 40 = .ok (.ireturn, 1) := by decide +kernel
set_option maxRecDepth 20000 in
theorem ggX8_drift_X8_in : GoodIn wsX8_drift wsX8_in := goodIn_r _ [8] (by decide +kernel) (by decide +kernel)
set_option maxRecDepth 20000 in
theorem gX8_drift_X8_in : GoodIn wsX8_drift (va_wsS RX8 63 yX8_in wsX8_in) := goodIn_app (goodIn_of _ (by decide +kernel)) ggX8_drift_X8_in
set_option maxRecDepth 20000 in
theorem ggX8_drift_X8_draw : GoodIn wsX8_drift wsX8_draw := goodIn_r _ [12, 3, 13, 14, 15, 16, 37, 38, 39, 40, 41, 42, 43, 44, 45, 46, 47, 48, 49, 50, 51, 52, 53, 54, 55, 56, 57, 58, 59, 60, 61, 62, 63, 64] (by decide +kernel) (by decide +kernel)
set_option maxRecDepth 20000 in
theorem gX8_drift_X8_draw : GoodIn wsX8_drift (wsV RX8 201 RX8 yX8_draw wsX8_draw) := goodIn_app (goodIn_of _ (by decide +kernel)) ggX8_drift_X8_draw
set_option maxRecDepth 20000 in
theorem ggX8_drift_X8_thawOf : GoodIn wsX8_drift wsX8_thawOf := goodIn_r _ [20, 21, 3, 22, 23, 24, 7, 25, 37, 38, 39, 40, 41, 42, 43, 44, 45, 46, 47, 48, 49, 50, 51, 52, 53, 54, 55, 56, 57, 58, 59, 60, 61, 62, 63, 64] (by decide +kernel) (by decide +kernel)
set_option maxRecDepth 20000 in
theorem gX8_drift_X8_thawOf : GoodIn wsX8_drift (wsV RX8 174 RX8 yX8_thawOf wsX8_thawOf) := goodIn_app (goodIn_of _ (by decide +kernel)) ggX8_drift_X8_thawOf
set_option maxRecDepth 20000 in
theorem ggX8_drift_X8_nightOf : GoodIn wsX8_drift wsX8_nightOf := goodIn_r _ [29, 21, 3, 22, 23, 24, 7, 25, 30, 31, 32, 37, 38, 39, 40, 41, 42, 43, 44, 45, 46, 47, 48, 49, 50, 51, 52, 53, 54, 55, 56, 57, 58, 59, 60, 61, 62, 63, 64] (by decide +kernel) (by decide +kernel)
set_option maxRecDepth 20000 in
theorem gX8_drift_X8_nightOf : GoodIn wsX8_drift (wsV RX8 165 RX8 yX8_nightOf wsX8_nightOf) := goodIn_app (goodIn_of _ (by decide +kernel)) ggX8_drift_X8_nightOf
set_option maxRecDepth 20000 in
theorem ggX8_drift_X8_allIce : GoodIn wsX8_drift wsX8_allIce := goodIn_r _ [36, 21, 3, 37, 38, 39, 40, 41, 42, 43, 44, 45, 46, 47, 48, 49, 50, 51, 52, 53, 54, 55, 56, 57, 58, 59, 60, 61, 62, 63, 64] (by decide +kernel) (by decide +kernel)
set_option maxRecDepth 20000 in
theorem gX8_drift_X8_allIce : GoodIn wsX8_drift (wsV RX8 169 RX8 yX8_allIce wsX8_allIce) := goodIn_app (goodIn_of _ (by decide +kernel)) ggX8_drift_X8_allIce
theorem dX8_drift_0 : decode cX8_drift 0 = .ok (.iload_n 1, 1) := by decide +kernel
theorem dX8_drift_1 : decode cX8_drift 1 = .ok (.i2l, 1) := by decide +kernel
theorem dX8_drift_2 : decode cX8_drift 2 = .ok (.lconst 1, 1) := by decide +kernel
theorem dX8_drift_3 : decode cX8_drift 3 = .ok (.ldc2_w 163, 3) := by decide +kernel
theorem dX8_drift_6 : decode cX8_drift 6 = .ok (.invokestatic 63, 3) := by decide +kernel
theorem dX8_drift_9 : decode cX8_drift 9 = .ok (.ifCond .ne 6, 3) := by decide +kernel
theorem dX8_drift_12 : decode cX8_drift 12 = .ok (.ldc 83, 2) := by decide +kernel
theorem dX8_drift_14 : decode cX8_drift 14 = .ok (.ireturn, 1) := by decide +kernel
theorem dX8_drift_15 : decode cX8_drift 15 = .ok (.aload_n 0, 1) := by decide +kernel
theorem dX8_drift_16 : decode cX8_drift 16 = .ok (.getfield 7, 3) := by decide +kernel
theorem dX8_drift_19 : decode cX8_drift 19 = .ok (.bipush 49, 2) := by decide +kernel
theorem dX8_drift_21 : decode cX8_drift 21 = .ok (.iaload, 1) := by decide +kernel
theorem dX8_drift_22 : decode cX8_drift 22 = .ok (.sipush 9000, 3) := by decide +kernel
theorem dX8_drift_25 : decode cX8_drift 25 = .ok (.if_icmp .le 6, 3) := by decide +kernel
theorem dX8_drift_28 : decode cX8_drift 28 = .ok (.ldc 87, 2) := by decide +kernel
theorem dX8_drift_30 : decode cX8_drift 30 = .ok (.ireturn, 1) := by decide +kernel
theorem dX8_drift_31 : decode cX8_drift 31 = .ok (.iconst 0, 1) := by decide +kernel
theorem dX8_drift_32 : decode cX8_drift 32 = .ok (.istore_n 2, 1) := by decide +kernel
theorem dX8_drift_33 : decode cX8_drift 33 = .ok (.iload_n 2, 1) := by decide +kernel
theorem dX8_drift_34 : decode cX8_drift 34 = .ok (.iload_n 1, 1) := by decide +kernel
theorem dX8_drift_35 : decode cX8_drift 35 = .ok (.if_icmp .ge 42, 3) := by decide +kernel
theorem dX8_drift_38 : decode cX8_drift 38 = .ok (.aload_n 0, 1) := by decide +kernel
theorem dX8_drift_39 : decode cX8_drift 39 = .ok (.iconst 5, 1) := by decide +kernel
theorem dX8_drift_40 : decode cX8_drift 40 = .ok (.invokevirtual 201, 3) := by decide +kernel
theorem dX8_drift_43 : decode cX8_drift 43 = .ok (.ifCond .ne 17, 3) := by decide +kernel
theorem dX8_drift_46 : decode cX8_drift 46 = .ok (.aload_n 0, 1) := by decide +kernel
theorem dX8_drift_47 : decode cX8_drift 47 = .ok (.iconst 0, 1) := by decide +kernel
theorem dX8_drift_48 : decode cX8_drift 48 = .ok (.aload_n 0, 1) := by decide +kernel
theorem dX8_drift_49 : decode cX8_drift 49 = .ok (.bipush 40, 2) := by decide +kernel
theorem dX8_drift_51 : decode cX8_drift 51 = .ok (.invokevirtual 201, 3) := by decide +kernel
theorem dX8_drift_54 : decode cX8_drift 54 = .ok (.invokevirtual 174, 3) := by decide +kernel
theorem dX8_drift_57 : decode cX8_drift 57 = .ok (.goto 14, 3) := by decide +kernel
theorem dX8_drift_60 : decode cX8_drift 60 = .ok (.aload_n 0, 1) := by decide +kernel
theorem dX8_drift_61 : decode cX8_drift 61 = .ok (.iconst 0, 1) := by decide +kernel
theorem dX8_drift_62 : decode cX8_drift 62 = .ok (.aload_n 0, 1) := by decide +kernel
theorem dX8_drift_63 : decode cX8_drift 63 = .ok (.bipush 31, 2) := by decide +kernel
theorem dX8_drift_65 : decode cX8_drift 65 = .ok (.invokevirtual 201, 3) := by decide +kernel
theorem dX8_drift_68 : decode cX8_drift 68 = .ok (.invokevirtual 165, 3) := by decide +kernel
theorem dX8_drift_71 : decode cX8_drift 71 = .ok (.iinc 2 1, 3) := by decide +kernel
theorem dX8_drift_74 : decode cX8_drift 74 = .ok (.goto (-41), 3) := by decide +kernel
theorem dX8_drift_77 : decode cX8_drift 77 = .ok (.aload_n 0, 1) := by decide +kernel
theorem dX8_drift_78 : decode cX8_drift 78 = .ok (.invokevirtual 169, 3) := by decide +kernel
theorem dX8_drift_81 : decode cX8_drift 81 = .ok (.ireturn, 1) := by decide +kernel
set_option maxRecDepth 20000 in
theorem ggX8_tries_X8_copy : GoodIn wsX8_tries wsX8_copy := goodIn_r _ [5, 6, 17, 18, 19, 20, 21, 22, 23, 24, 25, 26, 27, 28, 29, 30, 31, 32, 33, 34, 35, 36, 37, 38, 39, 40, 41, 42, 43, 44] (by decide +kernel) (by decide +kernel)
set_option maxRecDepth 20000 in
theorem gX8_tries_X8_copy : GoodIn wsX8_tries (wsV RX8 204 RX8 yX8_copy wsX8_copy) := goodIn_app (goodIn_of _ (by decide +kernel)) ggX8_tries_X8_copy
set_option maxRecDepth 20000 in
theorem ggX8_tries_X8_goes : GoodIn wsX8_tries wsX8_goes := goodIn_r _ [10, 11, 12, 13, 14, 6, 15, 16, 17, 18, 19, 20, 21, 22, 23, 24, 25, 26, 27, 28, 29, 30, 31, 32, 33, 34, 35, 36, 37, 38, 39, 40, 41, 42, 43, 44] (by decide +kernel) (by decide +kernel)
set_option maxRecDepth 20000 in
theorem gX8_tries_X8_goes : GoodIn wsX8_tries (wsV RX8 190 RX8 yX8_goes wsX8_goes) := goodIn_app (goodIn_of _ (by decide +kernel)) ggX8_tries_X8_goes
theorem dX8_tries_0 : decode cX8_tries 0 = .ok (.aload_n 0, 1) := by decide +kernel
theorem dX8_tries_1 : decode cX8_tries 1 = .ok (.iconst 0, 1) := by decide +kernel
theorem dX8_tries_2 : decode cX8_tries 2 = .ok (.bipush 51, 2) := by decide +kernel
theorem dX8_tries_4 : decode cX8_tries 4 = .ok (.invokevirtual 204, 3) := by decide +kernel
theorem dX8_tries_7 : decode cX8_tries 7 = .ok (.aload_n 0, 1) := by decide +kernel
theorem dX8_tries_8 : decode cX8_tries 8 = .ok (.bipush 51, 2) := by decide +kernel
theorem dX8_tries_10 : decode cX8_tries 10 = .ok (.iload_n 1, 1) := by decide +kernel
theorem dX8_tries_11 : decode cX8_tries 11 = .ok (.iload_n 2, 1) := by decide +kernel
theorem dX8_tries_12 : decode cX8_tries 12 = .ok (.invokevirtual 190, 3) := by decide +kernel
theorem dX8_tries_15 : decode cX8_tries 15 = .ok (.return_, 1) := by decide +kernel
set_option maxRecDepth 20000 in
theorem ggX8_today_X8_isTime : GoodIn wsX8_today wsX8_isTime := goodIn_r _ [7, 8, 9, 10, 6, 11] (by decide +kernel) (by decide +kernel)
set_option maxRecDepth 20000 in
theorem gX8_today_X8_isTime : GoodIn wsX8_today (va_wsS RX8 186 yX8_isTime wsX8_isTime) := goodIn_app (goodIn_of _ (by decide +kernel)) ggX8_today_X8_isTime
set_option maxRecDepth 20000 in
theorem ggX8_today_X8_in : GoodIn wsX8_today wsX8_in := goodIn_r _ [11] (by decide +kernel) (by decide +kernel)
set_option maxRecDepth 20000 in
theorem gX8_today_X8_in : GoodIn wsX8_today (va_wsS RX8 63 yX8_in wsX8_in) := goodIn_app (goodIn_of _ (by decide +kernel)) ggX8_today_X8_in
set_option maxRecDepth 20000 in
theorem ggX8_today_X8_forceNow : GoodIn wsX8_today wsX8_forceNow := goodIn_r _ [15, 16, 17, 18, 19, 20, 6, 21, 37, 38, 39, 40, 41, 42, 43, 44, 45, 46, 47, 48, 49, 50, 51, 52, 53, 54, 55, 56, 57, 58, 59, 60, 61, 62, 63, 64] (by decide +kernel) (by decide +kernel)
set_option maxRecDepth 20000 in
theorem gX8_today_X8_forceNow : GoodIn wsX8_today (wsV RX8 141 RX8 yX8_forceNow wsX8_forceNow) := goodIn_app (goodIn_of _ (by decide +kernel)) ggX8_today_X8_forceNow
set_option maxRecDepth 20000 in
theorem ggX8_today_X8_tries : GoodIn wsX8_today wsX8_tries := goodIn_r _ [25, 26, 27, 28, 6, 29, 17, 30, 31, 32, 33, 2, 3, 34, 35, 16, 36, 37, 38, 39, 40, 41, 42, 43, 44, 45, 46, 47, 48, 49, 50, 51, 52, 53, 54, 55, 56, 57, 58, 59, 60, 61, 62, 63, 64] (by decide +kernel) (by decide +kernel)
set_option maxRecDepth 20000 in
theorem gX8_today_X8_tries : GoodIn wsX8_today (wsV RX8 207 RX8 yX8_tries wsX8_tries) := goodIn_app (goodIn_of _ (by decide +kernel)) ggX8_today_X8_tries
theorem dX8_today_0 : decode cX8_today 0 = .ok (.iload_n 1, 1) := by decide +kernel
theorem dX8_today_1 : decode cX8_today 1 = .ok (.invokestatic 186, 3) := by decide +kernel
theorem dX8_today_4 : decode cX8_today 4 = .ok (.ifCond .eq 13, 3) := by decide +kernel
theorem dX8_today_7 : decode cX8_today 7 = .ok (.iload_n 2, 1) := by decide +kernel
theorem dX8_today_8 : decode cX8_today 8 = .ok (.i2l, 1) := by decide +kernel
theorem dX8_today_9 : decode cX8_today 9 = .ok (.lconst 0, 1) := by decide +kernel
theorem dX8_today_10 : decode cX8_today 10 = .ok (.lconst 1, 1) := by decide +kernel
theorem dX8_today_11 : decode cX8_today 11 = .ok (.invokestatic 63, 3) := by decide +kernel
theorem dX8_today_14 : decode cX8_today 14 = .ok (.ifCond .ne 6, 3) := by decide +kernel
theorem dX8_today_17 : decode cX8_today 17 = .ok (.ldc 83, 2) := by decide +kernel
theorem dX8_today_19 : decode cX8_today 19 = .ok (.ireturn, 1) := by decide +kernel
theorem dX8_today_20 : decode cX8_today 20 = .ok (.aload_n 0, 1) := by decide +kernel
theorem dX8_today_21 : decode cX8_today 21 = .ok (.iload_n 1, 1) := by decide +kernel
theorem dX8_today_22 : decode cX8_today 22 = .ok (.aload_n 0, 1) := by decide +kernel
theorem dX8_today_23 : decode cX8_today 23 = .ok (.invokevirtual 141, 3) := by decide +kernel
theorem dX8_today_26 : decode cX8_today 26 = .ok (.invokevirtual 207, 3) := by decide +kernel
theorem dX8_today_29 : decode cX8_today 29 = .ok (.iload_n 2, 1) := by decide +kernel
theorem dX8_today_30 : decode cX8_today 30 = .ok (.ifCond .ne 10, 3) := by decide +kernel
theorem dX8_today_33 : decode cX8_today 33 = .ok (.aload_n 0, 1) := by decide +kernel
theorem dX8_today_34 : decode cX8_today 34 = .ok (.getfield 177, 3) := by decide +kernel
theorem dX8_today_37 : decode cX8_today 37 = .ok (.goto 7, 3) := by decide +kernel
theorem dX8_today_40 : decode cX8_today 40 = .ok (.aload_n 0, 1) := by decide +kernel
theorem dX8_today_41 : decode cX8_today 41 = .ok (.getfield 180, 3) := by decide +kernel
theorem dX8_today_44 : decode cX8_today 44 = .ok (.ireturn, 1) := by decide +kernel
set_option maxRecDepth 20000 in
theorem ggX8_bestBeat_X8_swayOf : GoodIn wsX8_bestBeat wsX8_swayOf := goodIn_r _ [6, 1, 7, 8, 9, 10, 11, 12, 13, 14, 15, 16, 17, 18, 19, 20, 21, 22, 23, 24, 25, 26, 27, 28, 29, 30, 31, 32, 33, 34] (by decide +kernel) (by decide +kernel)
set_option maxRecDepth 20000 in
theorem gX8_bestBeat_X8_swayOf : GoodIn wsX8_bestBeat (wsV RX8 137 RX8 yX8_swayOf wsX8_swayOf) := goodIn_app (goodIn_of _ (by decide +kernel)) ggX8_bestBeat_X8_swayOf
theorem dX8_bestBeat_0 : decode cX8_bestBeat 0 = .ok (.iconst 1, 1) := by decide +kernel
theorem dX8_bestBeat_1 : decode cX8_bestBeat 1 = .ok (.istore_n 1, 1) := by decide +kernel
theorem dX8_bestBeat_2 : decode cX8_bestBeat 2 = .ok (.iconst 2, 1) := by decide +kernel
theorem dX8_bestBeat_3 : decode cX8_bestBeat 3 = .ok (.istore_n 2, 1) := by decide +kernel
theorem dX8_bestBeat_4 : decode cX8_bestBeat 4 = .ok (.iload_n 2, 1) := by decide +kernel
theorem dX8_bestBeat_5 : decode cX8_bestBeat 5 = .ok (.bipush 10, 2) := by decide +kernel
theorem dX8_bestBeat_7 : decode cX8_bestBeat 7 = .ok (.if_icmp .ge 40, 3) := by decide +kernel
theorem dX8_bestBeat_10 : decode cX8_bestBeat 10 = .ok (.aload_n 0, 1) := by decide +kernel
theorem dX8_bestBeat_11 : decode cX8_bestBeat 11 = .ok (.aload_n 0, 1) := by decide +kernel
theorem dX8_bestBeat_12 : decode cX8_bestBeat 12 = .ok (.getfield 13, 3) := by decide +kernel
theorem dX8_bestBeat_15 : decode cX8_bestBeat 15 = .ok (.iconst 3, 1) := by decide +kernel
theorem dX8_bestBeat_16 : decode cX8_bestBeat 16 = .ok (.iaload, 1) := by decide +kernel
theorem dX8_bestBeat_17 : decode cX8_bestBeat 17 = .ok (.iload_n 2, 1) := by decide +kernel
theorem dX8_bestBeat_18 : decode cX8_bestBeat 18 = .ok (.invokevirtual 137, 3) := by decide +kernel
theorem dX8_bestBeat_21 : decode cX8_bestBeat 21 = .ok (.aload_n 0, 1) := by decide +kernel
theorem dX8_bestBeat_22 : decode cX8_bestBeat 22 = .ok (.aload_n 0, 1) := by decide +kernel
theorem dX8_bestBeat_23 : decode cX8_bestBeat 23 = .ok (.getfield 13, 3) := by decide +kernel
theorem dX8_bestBeat_26 : decode cX8_bestBeat 26 = .ok (.iconst 3, 1) := by decide +kernel
theorem dX8_bestBeat_27 : decode cX8_bestBeat 27 = .ok (.iaload, 1) := by decide +kernel
theorem dX8_bestBeat_28 : decode cX8_bestBeat 28 = .ok (.iload_n 1, 1) := by decide +kernel
theorem dX8_bestBeat_29 : decode cX8_bestBeat 29 = .ok (.invokevirtual 137, 3) := by decide +kernel
theorem dX8_bestBeat_32 : decode cX8_bestBeat 32 = .ok (.if_icmp .le 7, 3) := by decide +kernel
theorem dX8_bestBeat_35 : decode cX8_bestBeat 35 = .ok (.iload_n 2, 1) := by decide +kernel
theorem dX8_bestBeat_36 : decode cX8_bestBeat 36 = .ok (.goto 4, 3) := by decide +kernel
theorem dX8_bestBeat_39 : decode cX8_bestBeat 39 = .ok (.iload_n 1, 1) := by decide +kernel
theorem dX8_bestBeat_40 : decode cX8_bestBeat 40 = .ok (.istore_n 1, 1) := by decide +kernel
theorem dX8_bestBeat_41 : decode cX8_bestBeat 41 = .ok (.iinc 2 1, 3) := by decide +kernel
theorem dX8_bestBeat_44 : decode cX8_bestBeat 44 = .ok (.goto (-40), 3) := by decide +kernel
theorem dX8_bestBeat_47 : decode cX8_bestBeat 47 = .ok (.iload_n 1, 1) := by decide +kernel
theorem dX8_bestBeat_48 : decode cX8_bestBeat 48 = .ok (.ireturn, 1) := by decide +kernel
set_option maxRecDepth 20000 in
theorem ggX8_laggards_X8_isTime : GoodIn wsX8_laggards wsX8_isTime := goodIn_r _ [9, 10, 11, 12, 8, 13] (by decide +kernel) (by decide +kernel)
set_option maxRecDepth 20000 in
theorem gX8_laggards_X8_isTime : GoodIn wsX8_laggards (va_wsS RX8 186 yX8_isTime wsX8_isTime) := goodIn_app (goodIn_of _ (by decide +kernel)) ggX8_laggards_X8_isTime
set_option maxRecDepth 20000 in
theorem ggX8_laggards_X8_swayOf : GoodIn wsX8_laggards wsX8_swayOf := goodIn_r _ [17, 2, 33, 34, 35, 36, 37, 38, 39, 40, 41, 42, 43, 44, 45, 46, 47, 48, 49, 50, 51, 52, 53, 54, 55, 56, 57, 58, 59, 60] (by decide +kernel) (by decide +kernel)
set_option maxRecDepth 20000 in
theorem gX8_laggards_X8_swayOf : GoodIn wsX8_laggards (wsV RX8 137 RX8 yX8_swayOf wsX8_swayOf) := goodIn_app (goodIn_of _ (by decide +kernel)) ggX8_laggards_X8_swayOf
set_option maxRecDepth 20000 in
theorem ggX8_laggards_X8_tries : GoodIn wsX8_laggards wsX8_tries := goodIn_r _ [21, 22, 23, 24, 8, 25, 3, 26, 27, 28, 29, 4, 30, 31, 5, 2, 32, 33, 34, 35, 36, 37, 38, 39, 40, 41, 42, 43, 44, 45, 46, 47, 48, 49, 50, 51, 52, 53, 54, 55, 56, 57, 58, 59, 60] (by decide +kernel) (by decide +kernel)
set_option maxRecDepth 20000 in
theorem gX8_laggards_X8_tries : GoodIn wsX8_laggards (wsV RX8 207 RX8 yX8_tries wsX8_tries) := goodIn_app (goodIn_of _ (by decide +kernel)) ggX8_laggards_X8_tries
theorem dX8_laggards_0 : decode cX8_laggards 0 = .ok (.iload_n 1, 1) := by decide +kernel
theorem dX8_laggards_1 : decode cX8_laggards 1 = .ok (.invokestatic 186, 3) := by decide +kernel
theorem dX8_laggards_4 : decode cX8_laggards 4 = .ok (.ifCond .ne 6, 3) := by decide +kernel
theorem dX8_laggards_7 : decode cX8_laggards 7 = .ok (.ldc 83, 2) := by decide +kernel
theorem dX8_laggards_9 : decode cX8_laggards 9 = .ok (.ireturn, 1) := by decide +kernel
theorem dX8_laggards_10 : decode cX8_laggards 10 = .ok (.iconst 0, 1) := by decide +kernel
theorem dX8_laggards_11 : decode cX8_laggards 11 = .ok (.istore_n 2, 1) := by decide +kernel
theorem dX8_laggards_12 : decode cX8_laggards 12 = .ok (.iload_n 2, 1) := by decide +kernel
theorem dX8_laggards_13 : decode cX8_laggards 13 = .ok (.bipush 20, 2) := by decide +kernel
theorem dX8_laggards_15 : decode cX8_laggards 15 = .ok (.if_icmp .gt 48, 3) := by decide +kernel
theorem dX8_laggards_18 : decode cX8_laggards 18 = .ok (.aload_n 0, 1) := by decide +kernel
theorem dX8_laggards_19 : decode cX8_laggards 19 = .ok (.iload_n 1, 1) := by decide +kernel
theorem dX8_laggards_20 : decode cX8_laggards 20 = .ok (.iconst 4, 1) := by decide +kernel
theorem dX8_laggards_21 : decode cX8_laggards 21 = .ok (.aload_n 0, 1) := by decide +kernel
theorem dX8_laggards_22 : decode cX8_laggards 22 = .ok (.getfield 13, 3) := by decide +kernel
theorem dX8_laggards_25 : decode cX8_laggards 25 = .ok (.iconst 0, 1) := by decide +kernel
theorem dX8_laggards_26 : decode cX8_laggards 26 = .ok (.iaload, 1) := by decide +kernel
theorem dX8_laggards_27 : decode cX8_laggards 27 = .ok (.imul, 1) := by decide +kernel
theorem dX8_laggards_28 : decode cX8_laggards 28 = .ok (.aload_n 0, 1) := by decide +kernel
theorem dX8_laggards_29 : decode cX8_laggards 29 = .ok (.iload_n 2, 1) := by decide +kernel
theorem dX8_laggards_30 : decode cX8_laggards 30 = .ok (.aload_n 0, 1) := by decide +kernel
theorem dX8_laggards_31 : decode cX8_laggards 31 = .ok (.getfield 7, 3) := by decide +kernel
theorem dX8_laggards_34 : decode cX8_laggards 34 = .ok (.bipush 48, 2) := by decide +kernel
theorem dX8_laggards_36 : decode cX8_laggards 36 = .ok (.iaload, 1) := by decide +kernel
theorem dX8_laggards_37 : decode cX8_laggards 37 = .ok (.invokevirtual 137, 3) := by decide +kernel
theorem dX8_laggards_40 : decode cX8_laggards 40 = .ok (.iadd, 1) := by decide +kernel
theorem dX8_laggards_41 : decode cX8_laggards 41 = .ok (.invokevirtual 207, 3) := by decide +kernel
theorem dX8_laggards_44 : decode cX8_laggards 44 = .ok (.aload_n 0, 1) := by decide +kernel
theorem dX8_laggards_45 : decode cX8_laggards 45 = .ok (.getfield 177, 3) := by decide +kernel
theorem dX8_laggards_48 : decode cX8_laggards 48 = .ok (.aload_n 0, 1) := by decide +kernel
theorem dX8_laggards_49 : decode cX8_laggards 49 = .ok (.getfield 60, 3) := by decide +kernel
theorem dX8_laggards_52 : decode cX8_laggards 52 = .ok (.if_icmp .ge 5, 3) := by decide +kernel
theorem dX8_laggards_55 : decode cX8_laggards 55 = .ok (.iload_n 2, 1) := by decide +kernel
theorem dX8_laggards_56 : decode cX8_laggards 56 = .ok (.ireturn, 1) := by decide +kernel
theorem dX8_laggards_57 : decode cX8_laggards 57 = .ok (.iinc 2 1, 3) := by decide +kernel
theorem dX8_laggards_60 : decode cX8_laggards 60 = .ok (.goto (-48), 3) := by decide +kernel
theorem dX8_laggards_63 : decode cX8_laggards 63 = .ok (.iconst (-1), 1) := by decide +kernel
theorem dX8_laggards_64 : decode cX8_laggards 64 = .ok (.ireturn, 1) := by decide +kernel
set_option maxRecDepth 20000 in
theorem ggX8_horses_X8_isTime : GoodIn wsX8_horses wsX8_isTime := goodIn_r _ [9, 10, 11, 12, 8, 13] (by decide +kernel) (by decide +kernel)
set_option maxRecDepth 20000 in
theorem gX8_horses_X8_isTime : GoodIn wsX8_horses (va_wsS RX8 186 yX8_isTime wsX8_isTime) := goodIn_app (goodIn_of _ (by decide +kernel)) ggX8_horses_X8_isTime
set_option maxRecDepth 20000 in
theorem ggX8_horses_X8_swayOf : GoodIn wsX8_horses wsX8_swayOf := goodIn_r _ [17, 2, 33, 34, 35, 36, 37, 38, 39, 40, 41, 42, 43, 44, 45, 46, 47, 48, 49, 50, 51, 52, 53, 54, 55, 56, 57, 58, 59, 60] (by decide +kernel) (by decide +kernel)
set_option maxRecDepth 20000 in
theorem gX8_horses_X8_swayOf : GoodIn wsX8_horses (wsV RX8 137 RX8 yX8_swayOf wsX8_swayOf) := goodIn_app (goodIn_of _ (by decide +kernel)) ggX8_horses_X8_swayOf
set_option maxRecDepth 20000 in
theorem ggX8_horses_X8_tries : GoodIn wsX8_horses wsX8_tries := goodIn_r _ [21, 22, 23, 24, 8, 25, 3, 26, 27, 28, 29, 4, 30, 31, 5, 2, 32, 33, 34, 35, 36, 37, 38, 39, 40, 41, 42, 43, 44, 45, 46, 47, 48, 49, 50, 51, 52, 53, 54, 55, 56, 57, 58, 59, 60] (by decide +kernel) (by decide +kernel)
set_option maxRecDepth 20000 in
theorem gX8_horses_X8_tries : GoodIn wsX8_horses (wsV RX8 207 RX8 yX8_tries wsX8_tries) := goodIn_app (goodIn_of _ (by decide +kernel)) ggX8_horses_X8_tries
theorem dX8_horses_0 : decode cX8_horses 0 = .ok (.iload_n 1, 1) := by decide +kernel
theorem dX8_horses_1 : decode cX8_horses 1 = .ok (.invokestatic 186, 3) := by decide +kernel
theorem dX8_horses_4 : decode cX8_horses 4 = .ok (.ifCond .ne 6, 3) := by decide +kernel
theorem dX8_horses_7 : decode cX8_horses 7 = .ok (.ldc 83, 2) := by decide +kernel
theorem dX8_horses_9 : decode cX8_horses 9 = .ok (.ireturn, 1) := by decide +kernel
theorem dX8_horses_10 : decode cX8_horses 10 = .ok (.iconst 1, 1) := by decide +kernel
theorem dX8_horses_11 : decode cX8_horses 11 = .ok (.istore_n 2, 1) := by decide +kernel
theorem dX8_horses_12 : decode cX8_horses 12 = .ok (.iload_n 2, 1) := by decide +kernel
theorem dX8_horses_13 : decode cX8_horses 13 = .ok (.bipush 12, 2) := by decide +kernel
theorem dX8_horses_15 : decode cX8_horses 15 = .ok (.if_icmp .gt 48, 3) := by decide +kernel
theorem dX8_horses_18 : decode cX8_horses 18 = .ok (.aload_n 0, 1) := by decide +kernel
theorem dX8_horses_19 : decode cX8_horses 19 = .ok (.iload_n 1, 1) := by decide +kernel
theorem dX8_horses_20 : decode cX8_horses 20 = .ok (.iconst 4, 1) := by decide +kernel
theorem dX8_horses_21 : decode cX8_horses 21 = .ok (.iload_n 2, 1) := by decide +kernel
theorem dX8_horses_22 : decode cX8_horses 22 = .ok (.imul, 1) := by decide +kernel
theorem dX8_horses_23 : decode cX8_horses 23 = .ok (.aload_n 0, 1) := by decide +kernel
theorem dX8_horses_24 : decode cX8_horses 24 = .ok (.aload_n 0, 1) := by decide +kernel
theorem dX8_horses_25 : decode cX8_horses 25 = .ok (.getfield 13, 3) := by decide +kernel
theorem dX8_horses_28 : decode cX8_horses 28 = .ok (.iconst 3, 1) := by decide +kernel
theorem dX8_horses_29 : decode cX8_horses 29 = .ok (.iaload, 1) := by decide +kernel
theorem dX8_horses_30 : decode cX8_horses 30 = .ok (.aload_n 0, 1) := by decide +kernel
theorem dX8_horses_31 : decode cX8_horses 31 = .ok (.getfield 7, 3) := by decide +kernel
theorem dX8_horses_34 : decode cX8_horses 34 = .ok (.bipush 48, 2) := by decide +kernel
theorem dX8_horses_36 : decode cX8_horses 36 = .ok (.iaload, 1) := by decide +kernel
theorem dX8_horses_37 : decode cX8_horses 37 = .ok (.invokevirtual 137, 3) := by decide +kernel
theorem dX8_horses_40 : decode cX8_horses 40 = .ok (.iadd, 1) := by decide +kernel
theorem dX8_horses_41 : decode cX8_horses 41 = .ok (.invokevirtual 207, 3) := by decide +kernel
theorem dX8_horses_44 : decode cX8_horses 44 = .ok (.aload_n 0, 1) := by decide +kernel
theorem dX8_horses_45 : decode cX8_horses 45 = .ok (.getfield 177, 3) := by decide +kernel
theorem dX8_horses_48 : decode cX8_horses 48 = .ok (.aload_n 0, 1) := by decide +kernel
theorem dX8_horses_49 : decode cX8_horses 49 = .ok (.getfield 60, 3) := by decide +kernel
theorem dX8_horses_52 : decode cX8_horses 52 = .ok (.if_icmp .ne 5, 3) := by decide +kernel
theorem dX8_horses_55 : decode cX8_horses 55 = .ok (.iload_n 2, 1) := by decide +kernel
theorem dX8_horses_56 : decode cX8_horses 56 = .ok (.ireturn, 1) := by decide +kernel
theorem dX8_horses_57 : decode cX8_horses 57 = .ok (.iinc 2 1, 3) := by decide +kernel
theorem dX8_horses_60 : decode cX8_horses 60 = .ok (.goto (-48), 3) := by decide +kernel
theorem dX8_horses_63 : decode cX8_horses 63 = .ok (.iconst (-1), 1) := by decide +kernel
theorem dX8_horses_64 : decode cX8_horses 64 = .ok (.ireturn, 1) := by decide +kernel
set_option maxRecDepth 20000 in
theorem ggX8_string_X8_isTime : GoodIn wsX8_string wsX8_isTime := goodIn_r _ [8, 9, 10, 11, 7, 12] (by decide +kernel) (by decide +kernel)
set_option maxRecDepth 20000 in
theorem gX8_string_X8_isTime : GoodIn wsX8_string (va_wsS RX8 186 yX8_isTime wsX8_isTime) := goodIn_app (goodIn_of _ (by decide +kernel)) ggX8_string_X8_isTime
set_option maxRecDepth 20000 in
theorem ggX8_string_X8_in : GoodIn wsX8_string wsX8_in := goodIn_r _ [12] (by decide +kernel) (by decide +kernel)
set_option maxRecDepth 20000 in
theorem gX8_string_X8_in : GoodIn wsX8_string (va_wsS RX8 63 yX8_in wsX8_in) := goodIn_app (goodIn_of _ (by decide +kernel)) ggX8_string_X8_in
set_option maxRecDepth 20000 in
theorem ggX8_string_X8_forceNow : GoodIn wsX8_string wsX8_forceNow := goodIn_r _ [16, 4, 17, 18, 19, 20, 7, 21, 38, 39, 40, 41, 42, 43, 44, 45, 46, 47, 48, 49, 50, 51, 52, 53, 54, 55, 56, 57, 58, 59, 60, 61, 62, 63, 64, 65] (by decide +kernel) (by decide +kernel)
set_option maxRecDepth 20000 in
theorem gX8_string_X8_forceNow : GoodIn wsX8_string (wsV RX8 141 RX8 yX8_forceNow wsX8_forceNow) := goodIn_app (goodIn_of _ (by decide +kernel)) ggX8_string_X8_forceNow
set_option maxRecDepth 20000 in
theorem ggX8_string_X8_tries : GoodIn wsX8_string wsX8_tries := goodIn_r _ [25, 26, 27, 28, 7, 29, 17, 30, 31, 32, 33, 34, 35, 3, 36, 4, 37, 38, 39, 40, 41, 42, 43, 44, 45, 46, 47, 48, 49, 50, 51, 52, 53, 54, 55, 56, 57, 58, 59, 60, 61, 62, 63, 64, 65] (by decide +kernel) (by decide +kernel)
set_option maxRecDepth 20000 in
theorem gX8_string_X8_tries : GoodIn wsX8_string (wsV RX8 207 RX8 yX8_tries wsX8_tries) := goodIn_app (goodIn_of _ (by decide +kernel)) ggX8_string_X8_tries
theorem dX8_string_0 : decode cX8_string 0 = .ok (.iload_n 1, 1) := by decide +kernel
theorem dX8_string_1 : decode cX8_string 1 = .ok (.invokestatic 186, 3) := by decide +kernel
theorem dX8_string_4 : decode cX8_string 4 = .ok (.ifCond .eq 15, 3) := by decide +kernel
theorem dX8_string_7 : decode cX8_string 7 = .ok (.iload_n 2, 1) := by decide +kernel
theorem dX8_string_8 : decode cX8_string 8 = .ok (.i2l, 1) := by decide +kernel
theorem dX8_string_9 : decode cX8_string 9 = .ok (.lconst 1, 1) := by decide +kernel
theorem dX8_string_10 : decode cX8_string 10 = .ok (.ldc2_w 163, 3) := by decide +kernel
theorem dX8_string_13 : decode cX8_string 13 = .ok (.invokestatic 63, 3) := by decide +kernel
theorem dX8_string_16 : decode cX8_string 16 = .ok (.ifCond .ne 6, 3) := by decide +kernel
theorem dX8_string_19 : decode cX8_string 19 = .ok (.ldc 83, 2) := by decide +kernel
theorem dX8_string_21 : decode cX8_string 21 = .ok (.ireturn, 1) := by decide +kernel
theorem dX8_string_22 : decode cX8_string 22 = .ok (.aload_n 0, 1) := by decide +kernel
theorem dX8_string_23 : decode cX8_string 23 = .ok (.iload_n 1, 1) := by decide +kernel
theorem dX8_string_24 : decode cX8_string 24 = .ok (.aload_n 0, 1) := by decide +kernel
theorem dX8_string_25 : decode cX8_string 25 = .ok (.invokevirtual 141, 3) := by decide +kernel
theorem dX8_string_28 : decode cX8_string 28 = .ok (.invokevirtual 207, 3) := by decide +kernel
theorem dX8_string_31 : decode cX8_string 31 = .ok (.aload_n 0, 1) := by decide +kernel
theorem dX8_string_32 : decode cX8_string 32 = .ok (.getfield 183, 3) := by decide +kernel
theorem dX8_string_35 : decode cX8_string 35 = .ok (.iconst (-1), 1) := by decide +kernel
theorem dX8_string_36 : decode cX8_string 36 = .ok (.if_icmp .ne 7, 3) := by decide +kernel
theorem dX8_string_39 : decode cX8_string 39 = .ok (.iconst (-1), 1) := by decide +kernel
theorem dX8_string_40 : decode cX8_string 40 = .ok (.goto 13, 3) := by decide +kernel
theorem dX8_string_43 : decode cX8_string 43 = .ok (.aload_n 0, 1) := by decide +kernel
theorem dX8_string_44 : decode cX8_string 44 = .ok (.getfield 13, 3) := by decide +kernel
theorem dX8_string_47 : decode cX8_string 47 = .ok (.iconst 4, 1) := by decide +kernel
theorem dX8_string_48 : decode cX8_string 48 = .ok (.iaload, 1) := by decide +kernel
theorem dX8_string_49 : decode cX8_string 49 = .ok (.iconst 1, 1) := by decide +kernel
theorem dX8_string_50 : decode cX8_string 50 = .ok (.isub, 1) := by decide +kernel
theorem dX8_string_51 : decode cX8_string 51 = .ok (.iload_n 2, 1) := by decide +kernel
theorem dX8_string_52 : decode cX8_string 52 = .ok (.idiv, 1) := by decide +kernel
theorem dX8_string_53 : decode cX8_string 53 = .ok (.ireturn, 1) := by decide +kernel
set_option maxRecDepth 20000 in
theorem ggX8_turn_X8_isTime : GoodIn wsX8_turn wsX8_isTime := goodIn_r _ [9, 10, 11, 12, 8, 13] (by decide +kernel) (by decide +kernel)
set_option maxRecDepth 20000 in
theorem gX8_turn_X8_isTime : GoodIn wsX8_turn (va_wsS RX8 186 yX8_isTime wsX8_isTime) := goodIn_app (goodIn_of _ (by decide +kernel)) ggX8_turn_X8_isTime
set_option maxRecDepth 20000 in
theorem ggX8_turn_X8_forceNow : GoodIn wsX8_turn wsX8_forceNow := goodIn_r _ [17, 5, 18, 19, 20, 21, 8, 22, 37, 38, 39, 40, 41, 42, 43, 44, 45, 46, 47, 48, 49, 50, 51, 52, 53, 54, 55, 56, 57, 58, 59, 60, 61, 62, 63, 64] (by decide +kernel) (by decide +kernel)
set_option maxRecDepth 20000 in
theorem gX8_turn_X8_forceNow : GoodIn wsX8_turn (wsV RX8 141 RX8 yX8_forceNow wsX8_forceNow) := goodIn_app (goodIn_of _ (by decide +kernel)) ggX8_turn_X8_forceNow
set_option maxRecDepth 20000 in
theorem ggX8_turn_X8_tries : GoodIn wsX8_turn wsX8_tries := goodIn_r _ [26, 27, 28, 29, 8, 30, 18, 31, 32, 33, 34, 2, 35, 4, 36, 5, 3, 37, 38, 39, 40, 41, 42, 43, 44, 45, 46, 47, 48, 49, 50, 51, 52, 53, 54, 55, 56, 57, 58, 59, 60, 61, 62, 63, 64] (by decide +kernel) (by decide +kernel)
set_option maxRecDepth 20000 in
theorem gX8_turn_X8_tries : GoodIn wsX8_turn (wsV RX8 207 RX8 yX8_tries wsX8_tries) := goodIn_app (goodIn_of _ (by decide +kernel)) ggX8_turn_X8_tries
theorem dX8_turn_0 : decode cX8_turn 0 = .ok (.iload_n 1, 1) := by decide +kernel
theorem dX8_turn_1 : decode cX8_turn 1 = .ok (.invokestatic 186, 3) := by decide +kernel
theorem dX8_turn_4 : decode cX8_turn 4 = .ok (.ifCond .ne 6, 3) := by decide +kernel
theorem dX8_turn_7 : decode cX8_turn 7 = .ok (.ldc 83, 2) := by decide +kernel
theorem dX8_turn_9 : decode cX8_turn 9 = .ok (.ireturn, 1) := by decide +kernel
theorem dX8_turn_10 : decode cX8_turn 10 = .ok (.aload_n 0, 1) := by decide +kernel
theorem dX8_turn_11 : decode cX8_turn 11 = .ok (.iload_n 1, 1) := by decide +kernel
theorem dX8_turn_12 : decode cX8_turn 12 = .ok (.aload_n 0, 1) := by decide +kernel
theorem dX8_turn_13 : decode cX8_turn 13 = .ok (.invokevirtual 141, 3) := by decide +kernel
theorem dX8_turn_16 : decode cX8_turn 16 = .ok (.invokevirtual 207, 3) := by decide +kernel
theorem dX8_turn_19 : decode cX8_turn 19 = .ok (.iconst 0, 1) := by decide +kernel
theorem dX8_turn_20 : decode cX8_turn 20 = .ok (.istore_n 2, 1) := by decide +kernel
theorem dX8_turn_21 : decode cX8_turn 21 = .ok (.iconst 1, 1) := by decide +kernel
theorem dX8_turn_22 : decode cX8_turn 22 = .ok (.istore_n 3, 1) := by decide +kernel
theorem dX8_turn_23 : decode cX8_turn 23 = .ok (.iload_n 3, 1) := by decide +kernel
theorem dX8_turn_24 : decode cX8_turn 24 = .ok (.aload_n 0, 1) := by decide +kernel
theorem dX8_turn_25 : decode cX8_turn 25 = .ok (.getfield 177, 3) := by decide +kernel
theorem dX8_turn_28 : decode cX8_turn 28 = .ok (.if_icmp .gt 101, 3) := by decide +kernel
theorem dX8_turn_31 : decode cX8_turn 31 = .ok (.aload_n 0, 1) := by decide +kernel
theorem dX8_turn_32 : decode cX8_turn 32 = .ok (.getfield 33, 3) := by decide +kernel
theorem dX8_turn_35 : decode cX8_turn 35 = .ok (.iload_n 3, 1) := by decide +kernel
theorem dX8_turn_36 : decode cX8_turn 36 = .ok (.iconst 1, 1) := by decide +kernel
theorem dX8_turn_37 : decode cX8_turn 37 = .ok (.isub, 1) := by decide +kernel
theorem dX8_turn_38 : decode cX8_turn 38 = .ok (.iaload, 1) := by decide +kernel
theorem dX8_turn_39 : decode cX8_turn 39 = .ok (.istore 4, 2) := by decide +kernel
theorem dX8_turn_41 : decode cX8_turn 41 = .ok (.aload_n 0, 1) := by decide +kernel
theorem dX8_turn_42 : decode cX8_turn 42 = .ok (.getfield 183, 3) := by decide +kernel
theorem dX8_turn_45 : decode cX8_turn 45 = .ok (.iconst (-1), 1) := by decide +kernel
theorem dX8_turn_46 : decode cX8_turn 46 = .ok (.if_icmp .eq 15, 3) := by decide +kernel
theorem dX8_turn_49 : decode cX8_turn 49 = .ok (.aload_n 0, 1) := by decide +kernel
theorem dX8_turn_50 : decode cX8_turn 50 = .ok (.getfield 183, 3) := by decide +kernel
theorem dX8_turn_53 : decode cX8_turn 53 = .ok (.iload_n 3, 1) := by decide +kernel
theorem dX8_turn_54 : decode cX8_turn 54 = .ok (.if_icmp .ge 7, 3) := by decide +kernel
theorem dX8_turn_57 : decode cX8_turn 57 = .ok (.iconst 1, 1) := by decide +kernel
theorem dX8_turn_58 : decode cX8_turn 58 = .ok (.goto 4, 3) := by decide +kernel
theorem dX8_turn_61 : decode cX8_turn 61 = .ok (.iconst 0, 1) := by decide +kernel
theorem dX8_turn_62 : decode cX8_turn 62 = .ok (.istore 5, 2) := by decide +kernel
theorem dX8_turn_64 : decode cX8_turn 64 = .ok (.iload 5, 2) := by decide +kernel
theorem dX8_turn_66 : decode cX8_turn 66 = .ok (.ifCond .eq 31, 3) := by decide +kernel
theorem dX8_turn_69 : decode cX8_turn 69 = .ok (.iload 4, 2) := by decide +kernel
theorem dX8_turn_71 : decode cX8_turn 71 = .ok (.iload_n 3, 1) := by decide +kernel
theorem dX8_turn_72 : decode cX8_turn 72 = .ok (.iadd, 1) := by decide +kernel
theorem dX8_turn_73 : decode cX8_turn 73 = .ok (.aload_n 0, 1) := by decide +kernel
theorem dX8_turn_74 : decode cX8_turn 74 = .ok (.getfield 183, 3) := by decide +kernel
theorem dX8_turn_77 : decode cX8_turn 77 = .ok (.isub, 1) := by decide +kernel
theorem dX8_turn_78 : decode cX8_turn 78 = .ok (.aload_n 0, 1) := by decide +kernel
theorem dX8_turn_79 : decode cX8_turn 79 = .ok (.getfield 33, 3) := by decide +kernel
theorem dX8_turn_82 : decode cX8_turn 82 = .ok (.aload_n 0, 1) := by decide +kernel
theorem dX8_turn_83 : decode cX8_turn 83 = .ok (.getfield 183, 3) := by decide +kernel
theorem dX8_turn_86 : decode cX8_turn 86 = .ok (.iaload, 1) := by decide +kernel
theorem dX8_turn_87 : decode cX8_turn 87 = .ok (.isub, 1) := by decide +kernel
theorem dX8_turn_88 : decode cX8_turn 88 = .ok (.aload_n 0, 1) := by decide +kernel
theorem dX8_turn_89 : decode cX8_turn 89 = .ok (.getfield 13, 3) := by decide +kernel
theorem dX8_turn_92 : decode cX8_turn 92 = .ok (.iconst 4, 1) := by decide +kernel
theorem dX8_turn_93 : decode cX8_turn 93 = .ok (.iaload, 1) := by decide +kernel
theorem dX8_turn_94 : decode cX8_turn 94 = .ok (.if_icmp .ge 7, 3) := by decide +kernel
theorem dX8_turn_97 : decode cX8_turn 97 = .ok (.iconst 1, 1) := by decide +kernel
theorem dX8_turn_98 : decode cX8_turn 98 = .ok (.goto 4, 3) := by decide +kernel
theorem dX8_turn_101 : decode cX8_turn 101 = .ok (.iconst 0, 1) := by decide +kernel
theorem dX8_turn_102 : decode cX8_turn 102 = .ok (.istore 6, 2) := by decide +kernel
theorem dX8_turn_104 : decode cX8_turn 104 = .ok (.iload 6, 2) := by decide +kernel
theorem dX8_turn_106 : decode cX8_turn 106 = .ok (.ifCond .eq 15, 3) := by decide +kernel
theorem dX8_turn_109 : decode cX8_turn 109 = .ok (.iload 4, 2) := by decide +kernel
theorem dX8_turn_111 : decode cX8_turn 111 = .ok (.iload_n 3, 1) := by decide +kernel
theorem dX8_turn_112 : decode cX8_turn 112 = .ok (.iadd, 1) := by decide +kernel
theorem dX8_turn_113 : decode cX8_turn 113 = .ok (.iload_n 1, 1) := by decide +kernel
theorem dX8_turn_114 : decode cX8_turn 114 = .ok (.if_icmp .gt 7, 3) := by decide +kernel
theorem dX8_turn_117 : decode cX8_turn 117 = .ok (.iload_n 3, 1) := by decide +kernel
theorem dX8_turn_118 : decode cX8_turn 118 = .ok (.goto 4, 3) := by decide +kernel
theorem dX8_turn_121 : decode cX8_turn 121 = .ok (.iload_n 2, 1) := by decide +kernel
theorem dX8_turn_122 : decode cX8_turn 122 = .ok (.istore_n 2, 1) := by decide +kernel
theorem dX8_turn_123 : decode cX8_turn 123 = .ok (.iinc 3 1, 3) := by decide +kernel
theorem dX8_turn_126 : decode cX8_turn 126 = .ok (.goto (-103), 3) := by decide +kernel
theorem dX8_turn_129 : decode cX8_turn 129 = .ok (.iload_n 2, 1) := by decide +kernel
theorem dX8_turn_130 : decode cX8_turn 130 = .ok (.ireturn, 1) := by decide +kernel
set_option maxRecDepth 20000 in
theorem ggX8_costOf_X8_copy : GoodIn wsX8_costOf wsX8_copy := goodIn_r _ [8, 9, 36, 37, 38, 39, 40, 41, 42, 43, 44, 45, 46, 47, 48, 49, 50, 51, 52, 53, 54, 55, 56, 57, 58, 59, 60, 61, 62, 63] (by decide +kernel) (by decide +kernel)
set_option maxRecDepth 20000 in
theorem gX8_costOf_X8_copy : GoodIn wsX8_costOf (wsV RX8 204 RX8 yX8_copy wsX8_copy) := goodIn_app (goodIn_of _ (by decide +kernel)) ggX8_costOf_X8_copy
set_option maxRecDepth 20000 in
theorem ggX8_costOf_X8_forceNow : GoodIn wsX8_costOf wsX8_forceNow := goodIn_r _ [13, 1, 9, 14, 15, 16, 7, 17, 36, 37, 38, 39, 40, 41, 42, 43, 44, 45, 46, 47, 48, 49, 50, 51, 52, 53, 54, 55, 56, 57, 58, 59, 60, 61, 62, 63] (by decide +kernel) (by decide +kernel)
set_option maxRecDepth 20000 in
theorem gX8_costOf_X8_forceNow : GoodIn wsX8_costOf (wsV RX8 141 RX8 yX8_forceNow wsX8_forceNow) := goodIn_app (goodIn_of _ (by decide +kernel)) ggX8_costOf_X8_forceNow
set_option maxRecDepth 20000 in
theorem ggX8_costOf_X8_goes : GoodIn wsX8_costOf wsX8_goes := goodIn_r _ [21, 2, 22, 23, 3, 9, 1, 24, 36, 37, 38, 39, 40, 41, 42, 43, 44, 45, 46, 47, 48, 49, 50, 51, 52, 53, 54, 55, 56, 57, 58, 59, 60, 61, 62, 63] (by decide +kernel) (by decide +kernel)
set_option maxRecDepth 20000 in
theorem gX8_costOf_X8_goes : GoodIn wsX8_costOf (wsV RX8 190 RX8 yX8_goes wsX8_goes) := goodIn_app (goodIn_of _ (by decide +kernel)) ggX8_costOf_X8_goes
set_option maxRecDepth 20000 in
theorem ggX8_costOf_X8_nightOf : GoodIn wsX8_costOf wsX8_nightOf := goodIn_r _ [28, 3, 9, 29, 30, 31, 7, 32, 33, 34, 35, 36, 37, 38, 39, 40, 41, 42, 43, 44, 45, 46, 47, 48, 49, 50, 51, 52, 53, 54, 55, 56, 57, 58, 59, 60, 61, 62, 63] (by decide +kernel) (by decide +kernel)
set_option maxRecDepth 20000 in
theorem gX8_costOf_X8_nightOf : GoodIn wsX8_costOf (wsV RX8 165 RX8 yX8_nightOf wsX8_nightOf) := goodIn_app (goodIn_of _ (by decide +kernel)) ggX8_costOf_X8_nightOf
theorem dX8_costOf_0 : decode cX8_costOf 0 = .ok (.aload_n 0, 1) := by decide +kernel
theorem dX8_costOf_1 : decode cX8_costOf 1 = .ok (.iconst 0, 1) := by decide +kernel
theorem dX8_costOf_2 : decode cX8_costOf 2 = .ok (.bipush 51, 2) := by decide +kernel
theorem dX8_costOf_4 : decode cX8_costOf 4 = .ok (.invokevirtual 204, 3) := by decide +kernel
theorem dX8_costOf_7 : decode cX8_costOf 7 = .ok (.aload_n 0, 1) := by decide +kernel
theorem dX8_costOf_8 : decode cX8_costOf 8 = .ok (.getfield 13, 3) := by decide +kernel
theorem dX8_costOf_11 : decode cX8_costOf 11 = .ok (.bipush 6, 2) := by decide +kernel
theorem dX8_costOf_13 : decode cX8_costOf 13 = .ok (.iaload, 1) := by decide +kernel
theorem dX8_costOf_14 : decode cX8_costOf 14 = .ok (.istore 5, 2) := by decide +kernel
theorem dX8_costOf_16 : decode cX8_costOf 16 = .ok (.iconst 0, 1) := by decide +kernel
theorem dX8_costOf_17 : decode cX8_costOf 17 = .ok (.istore 6, 2) := by decide +kernel
theorem dX8_costOf_19 : decode cX8_costOf 19 = .ok (.aload_n 0, 1) := by decide +kernel
theorem dX8_costOf_20 : decode cX8_costOf 20 = .ok (.invokevirtual 141, 3) := by decide +kernel
theorem dX8_costOf_23 : decode cX8_costOf 23 = .ok (.istore 7, 2) := by decide +kernel
theorem dX8_costOf_25 : decode cX8_costOf 25 = .ok (.iconst 0, 1) := by decide +kernel
theorem dX8_costOf_26 : decode cX8_costOf 26 = .ok (.istore 8, 2) := by decide +kernel
theorem dX8_costOf_28 : decode cX8_costOf 28 = .ok (.iload 8, 2) := by decide +kernel
theorem dX8_costOf_30 : decode cX8_costOf 30 = .ok (.iload_n 2, 1) := by decide +kernel
theorem dX8_costOf_31 : decode cX8_costOf 31 = .ok (.if_icmp .ge 109, 3) := by decide +kernel
theorem dX8_costOf_34 : decode cX8_costOf 34 = .ok (.iload 6, 2) := by decide +kernel
theorem dX8_costOf_36 : decode cX8_costOf 36 = .ok (.iload 5, 2) := by decide +kernel
theorem dX8_costOf_38 : decode cX8_costOf 38 = .ok (.ifCond .ne 13, 3) := by decide +kernel
theorem dX8_costOf_41 : decode cX8_costOf 41 = .ok (.aload_n 0, 1) := by decide +kernel
theorem dX8_costOf_42 : decode cX8_costOf 42 = .ok (.getfield 13, 3) := by decide +kernel
theorem dX8_costOf_45 : decode cX8_costOf 45 = .ok (.bipush 8, 2) := by decide +kernel
theorem dX8_costOf_47 : decode cX8_costOf 47 = .ok (.iaload, 1) := by decide +kernel
theorem dX8_costOf_48 : decode cX8_costOf 48 = .ok (.goto 4, 3) := by decide +kernel
theorem dX8_costOf_51 : decode cX8_costOf 51 = .ok (.iconst 0, 1) := by decide +kernel
theorem dX8_costOf_52 : decode cX8_costOf 52 = .ok (.iadd, 1) := by decide +kernel
theorem dX8_costOf_53 : decode cX8_costOf 53 = .ok (.istore 6, 2) := by decide +kernel
theorem dX8_costOf_55 : decode cX8_costOf 55 = .ok (.iload 5, 2) := by decide +kernel
theorem dX8_costOf_57 : decode cX8_costOf 57 = .ok (.iload 5, 2) := by decide +kernel
theorem dX8_costOf_59 : decode cX8_costOf 59 = .ok (.ifCond .ne 7, 3) := by decide +kernel
theorem dX8_costOf_62 : decode cX8_costOf 62 = .ok (.iconst 0, 1) := by decide +kernel
theorem dX8_costOf_63 : decode cX8_costOf 63 = .ok (.goto 4, 3) := by decide +kernel
theorem dX8_costOf_66 : decode cX8_costOf 66 = .ok (.iconst 1, 1) := by decide +kernel
theorem dX8_costOf_67 : decode cX8_costOf 67 = .ok (.isub, 1) := by decide +kernel
theorem dX8_costOf_68 : decode cX8_costOf 68 = .ok (.istore 5, 2) := by decide +kernel
theorem dX8_costOf_70 : decode cX8_costOf 70 = .ok (.iload_n 1, 1) := by decide +kernel
theorem dX8_costOf_71 : decode cX8_costOf 71 = .ok (.iload 8, 2) := by decide +kernel
theorem dX8_costOf_73 : decode cX8_costOf 73 = .ok (.ishr, 1) := by decide +kernel
theorem dX8_costOf_74 : decode cX8_costOf 74 = .ok (.iconst 1, 1) := by decide +kernel
theorem dX8_costOf_75 : decode cX8_costOf 75 = .ok (.iand, 1) := by decide +kernel
theorem dX8_costOf_76 : decode cX8_costOf 76 = .ok (.iconst 1, 1) := by decide +kernel
theorem dX8_costOf_77 : decode cX8_costOf 77 = .ok (.if_icmp .ne 49, 3) := by decide +kernel
theorem dX8_costOf_80 : decode cX8_costOf 80 = .ok (.iload 6, 2) := by decide +kernel
theorem dX8_costOf_82 : decode cX8_costOf 82 = .ok (.aload_n 0, 1) := by decide +kernel
theorem dX8_costOf_83 : decode cX8_costOf 83 = .ok (.getfield 13, 3) := by decide +kernel
theorem dX8_costOf_86 : decode cX8_costOf 86 = .ok (.bipush 7, 2) := by decide +kernel
theorem dX8_costOf_88 : decode cX8_costOf 88 = .ok (.iaload, 1) := by decide +kernel
theorem dX8_costOf_89 : decode cX8_costOf 89 = .ok (.iadd, 1) := by decide +kernel
theorem dX8_costOf_90 : decode cX8_costOf 90 = .ok (.istore 6, 2) := by decide +kernel
theorem dX8_costOf_92 : decode cX8_costOf 92 = .ok (.aload_n 0, 1) := by decide +kernel
theorem dX8_costOf_93 : decode cX8_costOf 93 = .ok (.bipush 51, 2) := by decide +kernel
theorem dX8_costOf_95 : decode cX8_costOf 95 = .ok (.iload_n 3, 1) := by decide +kernel
theorem dX8_costOf_96 : decode cX8_costOf 96 = .ok (.iload 7, 2) := by decide +kernel
theorem dX8_costOf_98 : decode cX8_costOf 98 = .ok (.invokevirtual 190, 3) := by decide +kernel
theorem dX8_costOf_101 : decode cX8_costOf 101 = .ok (.aload_n 0, 1) := by decide +kernel
theorem dX8_costOf_102 : decode cX8_costOf 102 = .ok (.getfield 177, 3) := by decide +kernel
theorem dX8_costOf_105 : decode cX8_costOf 105 = .ok (.aload_n 0, 1) := by decide +kernel
theorem dX8_costOf_106 : decode cX8_costOf 106 = .ok (.getfield 60, 3) := by decide +kernel
theorem dX8_costOf_109 : decode cX8_costOf 109 = .ok (.if_icmp .ne 13, 3) := by decide +kernel
theorem dX8_costOf_112 : decode cX8_costOf 112 = .ok (.aload_n 0, 1) := by decide +kernel
theorem dX8_costOf_113 : decode cX8_costOf 113 = .ok (.getfield 13, 3) := by decide +kernel
theorem dX8_costOf_116 : decode cX8_costOf 116 = .ok (.bipush 6, 2) := by decide +kernel
theorem dX8_costOf_118 : decode cX8_costOf 118 = .ok (.iaload, 1) := by decide +kernel
theorem dX8_costOf_119 : decode cX8_costOf 119 = .ok (.goto 5, 3) := by decide +kernel
theorem dX8_costOf_122 : decode cX8_costOf 122 = .ok (.iload 5, 2) := by decide +kernel
theorem dX8_costOf_124 : decode cX8_costOf 124 = .ok (.istore 5, 2) := by decide +kernel
theorem dX8_costOf_126 : decode cX8_costOf 126 = .ok (.aload_n 0, 1) := by decide +kernel
theorem dX8_costOf_127 : decode cX8_costOf 127 = .ok (.bipush 51, 2) := by decide +kernel
theorem dX8_costOf_129 : decode cX8_costOf 129 = .ok (.iload 4, 2) := by decide +kernel
theorem dX8_costOf_131 : decode cX8_costOf 131 = .ok (.invokevirtual 165, 3) := by decide +kernel
theorem dX8_costOf_134 : decode cX8_costOf 134 = .ok (.iinc 8 1, 3) := by decide +kernel
theorem dX8_costOf_137 : decode cX8_costOf 137 = .ok (.goto (-109), 3) := by decide +kernel
theorem dX8_costOf_140 : decode cX8_costOf 140 = .ok (.iload 6, 2) := by decide +kernel
theorem dX8_costOf_142 : decode cX8_costOf 142 = .ok (.ireturn, 1) := by decide +kernel
set_option maxRecDepth 20000 in
theorem ggX8_plan_X8_in : GoodIn wsX8_plan wsX8_in := goodIn_r _ [10] (by decide +kernel) (by decide +kernel)
set_option maxRecDepth 20000 in
theorem gX8_plan_X8_in : GoodIn wsX8_plan (va_wsS RX8 63 yX8_in wsX8_in) := goodIn_app (goodIn_of _ (by decide +kernel)) ggX8_plan_X8_in
set_option maxRecDepth 20000 in
theorem ggX8_plan_X8_isTime : GoodIn wsX8_plan wsX8_isTime := goodIn_r _ [13, 14, 7, 8, 9, 10] (by decide +kernel) (by decide +kernel)
set_option maxRecDepth 20000 in
theorem gX8_plan_X8_isTime : GoodIn wsX8_plan (va_wsS RX8 186 yX8_isTime wsX8_isTime) := goodIn_app (goodIn_of _ (by decide +kernel)) ggX8_plan_X8_isTime
set_option maxRecDepth 20000 in
theorem ggX8_plan_X8_costOf : GoodIn wsX8_plan wsX8_costOf := goodIn_r _ [18, 19, 20, 4, 21, 22, 23, 9, 24, 25, 26, 27, 28, 29, 30, 31, 32, 33, 34, 35, 36, 37, 38, 39, 40, 41, 42, 43, 44, 45, 46, 47, 48, 49, 50, 51, 52, 53, 54, 55, 56, 57, 58, 59, 60, 61, 62, 63, 64, 65, 66, 67, 68, 69, 70, 71, 72, 73, 74, 75, 76, 77, 78, 79] (by decide +kernel) (by decide +kernel)
set_option maxRecDepth 20000 in
theorem gX8_plan_X8_costOf : GoodIn wsX8_plan (wsV RX8 213 RX8 yX8_costOf wsX8_costOf) := goodIn_app (goodIn_of _ (by decide +kernel)) ggX8_plan_X8_costOf
theorem dX8_plan_0 : decode cX8_plan 0 = .ok (.iload_n 1, 1) := by decide +kernel
theorem dX8_plan_1 : decode cX8_plan 1 = .ok (.i2l, 1) := by decide +kernel
theorem dX8_plan_2 : decode cX8_plan 2 = .ok (.lconst 1, 1) := by decide +kernel
theorem dX8_plan_3 : decode cX8_plan 3 = .ok (.ldc2_w 210, 3) := by decide +kernel
theorem dX8_plan_6 : decode cX8_plan 6 = .ok (.invokestatic 63, 3) := by decide +kernel
theorem dX8_plan_9 : decode cX8_plan 9 = .ok (.ifCond .eq 33, 3) := by decide +kernel
theorem dX8_plan_12 : decode cX8_plan 12 = .ok (.iload_n 2, 1) := by decide +kernel
theorem dX8_plan_13 : decode cX8_plan 13 = .ok (.invokestatic 186, 3) := by decide +kernel
theorem dX8_plan_16 : decode cX8_plan 16 = .ok (.ifCond .eq 26, 3) := by decide +kernel
theorem dX8_plan_19 : decode cX8_plan 19 = .ok (.iload_n 3, 1) := by decide +kernel
theorem dX8_plan_20 : decode cX8_plan 20 = .ok (.i2l, 1) := by decide +kernel
theorem dX8_plan_21 : decode cX8_plan 21 = .ok (.lconst 0, 1) := by decide +kernel
theorem dX8_plan_22 : decode cX8_plan 22 = .ok (.ldc2_w 153, 3) := by decide +kernel
theorem dX8_plan_25 : decode cX8_plan 25 = .ok (.invokestatic 63, 3) := by decide +kernel
theorem dX8_plan_28 : decode cX8_plan 28 = .ok (.ifCond .eq 14, 3) := by decide +kernel
theorem dX8_plan_31 : decode cX8_plan 31 = .ok (.iload 4, 2) := by decide +kernel
theorem dX8_plan_33 : decode cX8_plan 33 = .ok (.i2l, 1) := by decide +kernel
theorem dX8_plan_34 : decode cX8_plan 34 = .ok (.lconst 0, 1) := by decide +kernel
theorem dX8_plan_35 : decode cX8_plan 35 = .ok (.lconst 1, 1) := by decide +kernel
theorem dX8_plan_36 : decode cX8_plan 36 = .ok (.invokestatic 63, 3) := by decide +kernel
theorem dX8_plan_39 : decode cX8_plan 39 = .ok (.ifCond .ne 6, 3) := by decide +kernel
theorem dX8_plan_42 : decode cX8_plan 42 = .ok (.ldc 83, 2) := by decide +kernel
theorem dX8_plan_44 : decode cX8_plan 44 = .ok (.ireturn, 1) := by decide +kernel
theorem dX8_plan_45 : decode cX8_plan 45 = .ok (.aload_n 0, 1) := by decide +kernel
theorem dX8_plan_46 : decode cX8_plan 46 = .ok (.getfield 60, 3) := by decide +kernel
theorem dX8_plan_49 : decode cX8_plan 49 = .ok (.ifCond .ne 6, 3) := by decide +kernel
theorem dX8_plan_52 : decode cX8_plan 52 = .ok (.ldc 189, 2) := by decide +kernel
theorem dX8_plan_54 : decode cX8_plan 54 = .ok (.ireturn, 1) := by decide +kernel
theorem dX8_plan_55 : decode cX8_plan 55 = .ok (.iconst 0, 1) := by decide +kernel
theorem dX8_plan_56 : decode cX8_plan 56 = .ok (.istore 5, 2) := by decide +kernel
theorem dX8_plan_58 : decode cX8_plan 58 = .ok (.ldc 212, 2) := by decide +kernel
theorem dX8_plan_60 : decode cX8_plan 60 = .ok (.istore 6, 2) := by decide +kernel
theorem dX8_plan_62 : decode cX8_plan 62 = .ok (.iconst 0, 1) := by decide +kernel
theorem dX8_plan_63 : decode cX8_plan 63 = .ok (.istore 7, 2) := by decide +kernel
theorem dX8_plan_65 : decode cX8_plan 65 = .ok (.iload 7, 2) := by decide +kernel
theorem dX8_plan_67 : decode cX8_plan 67 = .ok (.iconst 1, 1) := by decide +kernel
theorem dX8_plan_68 : decode cX8_plan 68 = .ok (.iload_n 1, 1) := by decide +kernel
theorem dX8_plan_69 : decode cX8_plan 69 = .ok (.ishl, 1) := by decide +kernel
theorem dX8_plan_70 : decode cX8_plan 70 = .ok (.if_icmp .ge 52, 3) := by decide +kernel
theorem dX8_plan_73 : decode cX8_plan 73 = .ok (.aload_n 0, 1) := by decide +kernel
theorem dX8_plan_74 : decode cX8_plan 74 = .ok (.iload 7, 2) := by decide +kernel
theorem dX8_plan_76 : decode cX8_plan 76 = .ok (.iload_n 1, 1) := by decide +kernel
theorem dX8_plan_77 : decode cX8_plan 77 = .ok (.iload_n 2, 1) := by decide +kernel
theorem dX8_plan_78 : decode cX8_plan 78 = .ok (.iload_n 3, 1) := by decide +kernel
theorem dX8_plan_79 : decode cX8_plan 79 = .ok (.invokevirtual 213, 3) := by decide +kernel
theorem dX8_plan_82 : decode cX8_plan 82 = .ok (.istore 8, 2) := by decide +kernel
theorem dX8_plan_84 : decode cX8_plan 84 = .ok (.iload 8, 2) := by decide +kernel
theorem dX8_plan_86 : decode cX8_plan 86 = .ok (.iload 6, 2) := by decide +kernel
theorem dX8_plan_88 : decode cX8_plan 88 = .ok (.if_icmp .ge 8, 3) := by decide +kernel
theorem dX8_plan_91 : decode cX8_plan 91 = .ok (.iload 7, 2) := by decide +kernel
theorem dX8_plan_93 : decode cX8_plan 93 = .ok (.goto 5, 3) := by decide +kernel
theorem dX8_plan_96 : decode cX8_plan 96 = .ok (.iload 5, 2) := by decide +kernel
theorem dX8_plan_98 : decode cX8_plan 98 = .ok (.istore 5, 2) := by decide +kernel
theorem dX8_plan_100 : decode cX8_plan 100 = .ok (.iload 8, 2) := by decide +kernel
theorem dX8_plan_102 : decode cX8_plan 102 = .ok (.iload 6, 2) := by decide +kernel
theorem dX8_plan_104 : decode cX8_plan 104 = .ok (.if_icmp .ge 8, 3) := by decide +kernel
theorem dX8_plan_107 : decode cX8_plan 107 = .ok (.iload 8, 2) := by decide +kernel
theorem dX8_plan_109 : decode cX8_plan 109 = .ok (.goto 5, 3) := by decide +kernel
theorem dX8_plan_112 : decode cX8_plan 112 = .ok (.iload 6, 2) := by decide +kernel
theorem dX8_plan_114 : decode cX8_plan 114 = .ok (.istore 6, 2) := by decide +kernel
theorem dX8_plan_116 : decode cX8_plan 116 = .ok (.iinc 7 1, 3) := by decide +kernel
theorem dX8_plan_119 : decode cX8_plan 119 = .ok (.goto (-54), 3) := by decide +kernel
theorem dX8_plan_122 : decode cX8_plan 122 = .ok (.iload 4, 2) := by decide +kernel
theorem dX8_plan_124 : decode cX8_plan 124 = .ok (.ifCond .ne 8, 3) := by decide +kernel
theorem dX8_plan_127 : decode cX8_plan 127 = .ok (.iload 6, 2) := by decide +kernel
theorem dX8_plan_129 : decode cX8_plan 129 = .ok (.goto 5, 3) := by decide +kernel
theorem dX8_plan_132 : decode cX8_plan 132 = .ok (.iload 5, 2) := by decide +kernel
theorem dX8_plan_134 : decode cX8_plan 134 = .ok (.ireturn, 1) := by decide +kernel
set_option maxRecDepth 20000 in
theorem ggX8_lost_X8_in : GoodIn wsX8_lost wsX8_in := goodIn_r _ [10] (by decide +kernel) (by decide +kernel)
set_option maxRecDepth 20000 in
theorem gX8_lost_X8_in : GoodIn wsX8_lost (va_wsS RX8 63 yX8_in wsX8_in) := goodIn_app (goodIn_of _ (by decide +kernel)) ggX8_lost_X8_in
set_option maxRecDepth 20000 in
theorem ggX8_lost_X8_isTime : GoodIn wsX8_lost wsX8_isTime := goodIn_r _ [13, 14, 7, 8, 9, 10] (by decide +kernel) (by decide +kernel)
set_option maxRecDepth 20000 in
theorem gX8_lost_X8_isTime : GoodIn wsX8_lost (va_wsS RX8 186 yX8_isTime wsX8_isTime) := goodIn_app (goodIn_of _ (by decide +kernel)) ggX8_lost_X8_isTime
set_option maxRecDepth 20000 in
theorem ggX8_lost_X8_forceNow : GoodIn wsX8_lost wsX8_forceNow := goodIn_r _ [18, 19, 4, 20, 21, 22, 9, 23, 46, 47, 48, 49, 50, 51, 52, 53, 54, 55, 56, 57, 58, 59, 60, 61, 62, 63, 64, 65, 66, 67, 68, 69, 70, 71, 72, 73] (by decide +kernel) (by decide +kernel)
set_option maxRecDepth 20000 in
theorem gX8_lost_X8_forceNow : GoodIn wsX8_lost (wsV RX8 141 RX8 yX8_forceNow wsX8_forceNow) := goodIn_app (goodIn_of _ (by decide +kernel)) ggX8_lost_X8_forceNow
set_option maxRecDepth 20000 in
theorem ggX8_lost_X8_copy : GoodIn wsX8_lost wsX8_copy := goodIn_r _ [27, 4, 46, 47, 48, 49, 50, 51, 52, 53, 54, 55, 56, 57, 58, 59, 60, 61, 62, 63, 64, 65, 66, 67, 68, 69, 70, 71, 72, 73] (by decide +kernel) (by decide +kernel)
set_option maxRecDepth 20000 in
theorem gX8_lost_X8_copy : GoodIn wsX8_lost (wsV RX8 204 RX8 yX8_copy wsX8_copy) := goodIn_app (goodIn_of _ (by decide +kernel)) ggX8_lost_X8_copy
set_option maxRecDepth 20000 in
theorem ggX8_lost_X8_goes : GoodIn wsX8_lost wsX8_goes := goodIn_r _ [31, 5, 32, 33, 6, 4, 19, 34, 46, 47, 48, 49, 50, 51, 52, 53, 54, 55, 56, 57, 58, 59, 60, 61, 62, 63, 64, 65, 66, 67, 68, 69, 70, 71, 72, 73] (by decide +kernel) (by decide +kernel)
set_option maxRecDepth 20000 in
theorem gX8_lost_X8_goes : GoodIn wsX8_lost (wsV RX8 190 RX8 yX8_goes wsX8_goes) := goodIn_app (goodIn_of _ (by decide +kernel)) ggX8_lost_X8_goes
set_option maxRecDepth 20000 in
theorem ggX8_lost_X8_nightOf : GoodIn wsX8_lost wsX8_nightOf := goodIn_r _ [38, 6, 4, 39, 40, 41, 9, 42, 43, 44, 45, 46, 47, 48, 49, 50, 51, 52, 53, 54, 55, 56, 57, 58, 59, 60, 61, 62, 63, 64, 65, 66, 67, 68, 69, 70, 71, 72, 73] (by decide +kernel) (by decide +kernel)
set_option maxRecDepth 20000 in
theorem gX8_lost_X8_nightOf : GoodIn wsX8_lost (wsV RX8 165 RX8 yX8_nightOf wsX8_nightOf) := goodIn_app (goodIn_of _ (by decide +kernel)) ggX8_lost_X8_nightOf
theorem dX8_lost_0 : decode cX8_lost 0 = .ok (.iload_n 1, 1) := by decide +kernel
theorem dX8_lost_1 : decode cX8_lost 1 = .ok (.i2l, 1) := by decide +kernel
theorem dX8_lost_2 : decode cX8_lost 2 = .ok (.lconst 0, 1) := by decide +kernel
theorem dX8_lost_3 : decode cX8_lost 3 = .ok (.ldc2_w 153, 3) := by decide +kernel
theorem dX8_lost_6 : decode cX8_lost 6 = .ok (.invokestatic 63, 3) := by decide +kernel
theorem dX8_lost_9 : decode cX8_lost 9 = .ok (.ifCond .eq 10, 3) := by decide +kernel
theorem dX8_lost_12 : decode cX8_lost 12 = .ok (.iload_n 2, 1) := by decide +kernel
theorem dX8_lost_13 : decode cX8_lost 13 = .ok (.invokestatic 186, 3) := by decide +kernel
theorem dX8_lost_16 : decode cX8_lost 16 = .ok (.ifCond .ne 6, 3) := by decide +kernel
theorem dX8_lost_19 : decode cX8_lost 19 = .ok (.ldc 83, 2) := by decide +kernel
theorem dX8_lost_21 : decode cX8_lost 21 = .ok (.ireturn, 1) := by decide +kernel
theorem dX8_lost_22 : decode cX8_lost 22 = .ok (.aload_n 0, 1) := by decide +kernel
theorem dX8_lost_23 : decode cX8_lost 23 = .ok (.invokevirtual 141, 3) := by decide +kernel
theorem dX8_lost_26 : decode cX8_lost 26 = .ok (.istore_n 3, 1) := by decide +kernel
theorem dX8_lost_27 : decode cX8_lost 27 = .ok (.aload_n 0, 1) := by decide +kernel
theorem dX8_lost_28 : decode cX8_lost 28 = .ok (.iconst 0, 1) := by decide +kernel
theorem dX8_lost_29 : decode cX8_lost 29 = .ok (.bipush 51, 2) := by decide +kernel
theorem dX8_lost_31 : decode cX8_lost 31 = .ok (.invokevirtual 204, 3) := by decide +kernel
theorem dX8_lost_34 : decode cX8_lost 34 = .ok (.iconst 0, 1) := by decide +kernel
theorem dX8_lost_35 : decode cX8_lost 35 = .ok (.istore 4, 2) := by decide +kernel
theorem dX8_lost_37 : decode cX8_lost 37 = .ok (.iload 4, 2) := by decide +kernel
theorem dX8_lost_39 : decode cX8_lost 39 = .ok (.bipush 60, 2) := by decide +kernel
theorem dX8_lost_41 : decode cX8_lost 41 = .ok (.if_icmp .gt 104, 3) := by decide +kernel
theorem dX8_lost_44 : decode cX8_lost 44 = .ok (.iconst 0, 1) := by decide +kernel
theorem dX8_lost_45 : decode cX8_lost 45 = .ok (.istore 5, 2) := by decide +kernel
theorem dX8_lost_47 : decode cX8_lost 47 = .ok (.iload 5, 2) := by decide +kernel
theorem dX8_lost_49 : decode cX8_lost 49 = .ok (.bipush 51, 2) := by decide +kernel
theorem dX8_lost_51 : decode cX8_lost 51 = .ok (.if_icmp .ge 26, 3) := by decide +kernel
theorem dX8_lost_54 : decode cX8_lost 54 = .ok (.aload_n 0, 1) := by decide +kernel
theorem dX8_lost_55 : decode cX8_lost 55 = .ok (.getfield 36, 3) := by decide +kernel
theorem dX8_lost_58 : decode cX8_lost 58 = .ok (.iload 5, 2) := by decide +kernel
theorem dX8_lost_60 : decode cX8_lost 60 = .ok (.aload_n 0, 1) := by decide +kernel
theorem dX8_lost_61 : decode cX8_lost 61 = .ok (.getfield 7, 3) := by decide +kernel
theorem dX8_lost_64 : decode cX8_lost 64 = .ok (.bipush 51, 2) := by decide +kernel
theorem dX8_lost_66 : decode cX8_lost 66 = .ok (.iload 5, 2) := by decide +kernel
theorem dX8_lost_68 : decode cX8_lost 68 = .ok (.iadd, 1) := by decide +kernel
theorem dX8_lost_69 : decode cX8_lost 69 = .ok (.iaload, 1) := by decide +kernel
theorem dX8_lost_70 : decode cX8_lost 70 = .ok (.iastore, 1) := by decide +kernel
theorem dX8_lost_71 : decode cX8_lost 71 = .ok (.iinc 5 1, 3) := by decide +kernel
theorem dX8_lost_74 : decode cX8_lost 74 = .ok (.goto (-27), 3) := by decide +kernel
theorem dX8_lost_77 : decode cX8_lost 77 = .ok (.aload_n 0, 1) := by decide +kernel
theorem dX8_lost_78 : decode cX8_lost 78 = .ok (.bipush 51, 2) := by decide +kernel
theorem dX8_lost_80 : decode cX8_lost 80 = .ok (.iload_n 2, 1) := by decide +kernel
theorem dX8_lost_81 : decode cX8_lost 81 = .ok (.iload_n 3, 1) := by decide +kernel
theorem dX8_lost_82 : decode cX8_lost 82 = .ok (.invokevirtual 190, 3) := by decide +kernel
theorem dX8_lost_85 : decode cX8_lost 85 = .ok (.aload_n 0, 1) := by decide +kernel
theorem dX8_lost_86 : decode cX8_lost 86 = .ok (.getfield 177, 3) := by decide +kernel
theorem dX8_lost_89 : decode cX8_lost 89 = .ok (.aload_n 0, 1) := by decide +kernel
theorem dX8_lost_90 : decode cX8_lost 90 = .ok (.getfield 60, 3) := by decide +kernel
theorem dX8_lost_93 : decode cX8_lost 93 = .ok (.if_icmp .ge 6, 3) := by decide +kernel
theorem dX8_lost_96 : decode cX8_lost 96 = .ok (.iload 4, 2) := by decide +kernel
theorem dX8_lost_98 : decode cX8_lost 98 = .ok (.ireturn, 1) := by decide +kernel
theorem dX8_lost_99 : decode cX8_lost 99 = .ok (.iconst 0, 1) := by decide +kernel
theorem dX8_lost_100 : decode cX8_lost 100 = .ok (.istore 5, 2) := by decide +kernel
theorem dX8_lost_102 : decode cX8_lost 102 = .ok (.iload 5, 2) := by decide +kernel
theorem dX8_lost_104 : decode cX8_lost 104 = .ok (.bipush 51, 2) := by decide +kernel
theorem dX8_lost_106 : decode cX8_lost 106 = .ok (.if_icmp .ge 26, 3) := by decide +kernel
theorem dX8_lost_109 : decode cX8_lost 109 = .ok (.aload_n 0, 1) := by decide +kernel
theorem dX8_lost_110 : decode cX8_lost 110 = .ok (.getfield 7, 3) := by decide +kernel
theorem dX8_lost_113 : decode cX8_lost 113 = .ok (.bipush 51, 2) := by decide +kernel
theorem dX8_lost_115 : decode cX8_lost 115 = .ok (.iload 5, 2) := by decide +kernel
theorem dX8_lost_117 : decode cX8_lost 117 = .ok (.iadd, 1) := by decide +kernel
theorem dX8_lost_118 : decode cX8_lost 118 = .ok (.aload_n 0, 1) := by decide +kernel
theorem dX8_lost_119 : decode cX8_lost 119 = .ok (.getfield 36, 3) := by decide +kernel
theorem dX8_lost_122 : decode cX8_lost 122 = .ok (.iload 5, 2) := by decide +kernel
theorem dX8_lost_124 : decode cX8_lost 124 = .ok (.iaload, 1) := by decide +kernel
theorem dX8_lost_125 : decode cX8_lost 125 = .ok (.iastore, 1) := by decide +kernel
theorem dX8_lost_126 : decode cX8_lost 126 = .ok (.iinc 5 1, 3) := by decide +kernel
theorem dX8_lost_129 : decode cX8_lost 129 = .ok (.goto (-27), 3) := by decide +kernel
theorem dX8_lost_132 : decode cX8_lost 132 = .ok (.aload_n 0, 1) := by decide +kernel
theorem dX8_lost_133 : decode cX8_lost 133 = .ok (.bipush 51, 2) := by decide +kernel
theorem dX8_lost_135 : decode cX8_lost 135 = .ok (.iload_n 1, 1) := by decide +kernel
theorem dX8_lost_136 : decode cX8_lost 136 = .ok (.invokevirtual 165, 3) := by decide +kernel
theorem dX8_lost_139 : decode cX8_lost 139 = .ok (.iinc 4 1, 3) := by decide +kernel
theorem dX8_lost_142 : decode cX8_lost 142 = .ok (.goto (-105), 3) := by decide +kernel
theorem dX8_lost_145 : decode cX8_lost 145 = .ok (.iconst (-1), 1) := by decide +kernel
theorem dX8_lost_146 : decode cX8_lost 146 = .ok (.ireturn, 1) := by decide +kernel
set_option maxRecDepth 20000 in
theorem ggX8_odds_X8_in : GoodIn wsX8_odds wsX8_in := goodIn_r _ [12] (by decide +kernel) (by decide +kernel)
set_option maxRecDepth 20000 in
theorem gX8_odds_X8_in : GoodIn wsX8_odds (va_wsS RX8 63 yX8_in wsX8_in) := goodIn_app (goodIn_of _ (by decide +kernel)) ggX8_odds_X8_in
set_option maxRecDepth 20000 in
theorem ggX8_odds_X8_isTime : GoodIn wsX8_odds wsX8_isTime := goodIn_r _ [15, 16, 9, 10, 11, 12] (by decide +kernel) (by decide +kernel)
set_option maxRecDepth 20000 in
theorem gX8_odds_X8_isTime : GoodIn wsX8_odds (va_wsS RX8 186 yX8_isTime wsX8_isTime) := goodIn_app (goodIn_of _ (by decide +kernel)) ggX8_odds_X8_isTime
set_option maxRecDepth 20000 in
theorem ggX8_odds_X8_forceNow : GoodIn wsX8_odds wsX8_forceNow := goodIn_r _ [20, 21, 22, 23, 24, 25, 11, 26, 53, 54, 55, 56, 57, 58, 59, 60, 61, 62, 63, 64, 65, 66, 67, 68, 69, 70, 71, 72, 73, 74, 75, 76, 77, 78, 79, 80] (by decide +kernel) (by decide +kernel)
set_option maxRecDepth 20000 in
theorem gX8_odds_X8_forceNow : GoodIn wsX8_odds (wsV RX8 141 RX8 yX8_forceNow wsX8_forceNow) := goodIn_app (goodIn_of _ (by decide +kernel)) ggX8_odds_X8_forceNow
set_option maxRecDepth 20000 in
theorem ggX8_odds_X8_copy : GoodIn wsX8_odds wsX8_copy := goodIn_r _ [30, 22, 53, 54, 55, 56, 57, 58, 59, 60, 61, 62, 63, 64, 65, 66, 67, 68, 69, 70, 71, 72, 73, 74, 75, 76, 77, 78, 79, 80] (by decide +kernel) (by decide +kernel)
set_option maxRecDepth 20000 in
theorem gX8_odds_X8_copy : GoodIn wsX8_odds (wsV RX8 204 RX8 yX8_copy wsX8_copy) := goodIn_app (goodIn_of _ (by decide +kernel)) ggX8_odds_X8_copy
set_option maxRecDepth 20000 in
theorem ggX8_odds_X8_thawOf : GoodIn wsX8_odds wsX8_thawOf := goodIn_r _ [34, 8, 22, 35, 36, 37, 11, 38, 53, 54, 55, 56, 57, 58, 59, 60, 61, 62, 63, 64, 65, 66, 67, 68, 69, 70, 71, 72, 73, 74, 75, 76, 77, 78, 79, 80] (by decide +kernel) (by decide +kernel)
set_option maxRecDepth 20000 in
theorem gX8_odds_X8_thawOf : GoodIn wsX8_odds (wsV RX8 174 RX8 yX8_thawOf wsX8_thawOf) := goodIn_app (goodIn_of _ (by decide +kernel)) ggX8_odds_X8_thawOf
set_option maxRecDepth 20000 in
theorem ggX8_odds_X8_nightOf : GoodIn wsX8_odds wsX8_nightOf := goodIn_r _ [42, 8, 22, 35, 36, 37, 11, 38, 43, 44, 45, 53, 54, 55, 56, 57, 58, 59, 60, 61, 62, 63, 64, 65, 66, 67, 68, 69, 70, 71, 72, 73, 74, 75, 76, 77, 78, 79, 80] (by decide +kernel) (by decide +kernel)
set_option maxRecDepth 20000 in
theorem gX8_odds_X8_nightOf : GoodIn wsX8_odds (wsV RX8 165 RX8 yX8_nightOf wsX8_nightOf) := goodIn_app (goodIn_of _ (by decide +kernel)) ggX8_odds_X8_nightOf
set_option maxRecDepth 20000 in
theorem ggX8_odds_X8_goes : GoodIn wsX8_odds wsX8_goes := goodIn_r _ [49, 7, 50, 51, 8, 22, 21, 52, 53, 54, 55, 56, 57, 58, 59, 60, 61, 62, 63, 64, 65, 66, 67, 68, 69, 70, 71, 72, 73, 74, 75, 76, 77, 78, 79, 80] (by decide +kernel) (by decide +kernel)
set_option maxRecDepth 20000 in
theorem gX8_odds_X8_goes : GoodIn wsX8_odds (wsV RX8 190 RX8 yX8_goes wsX8_goes) := goodIn_app (goodIn_of _ (by decide +kernel)) ggX8_odds_X8_goes
theorem dX8_odds_0 : decode cX8_odds 0 = .ok (.iload_n 1, 1) := by decide +kernel
theorem dX8_odds_1 : decode cX8_odds 1 = .ok (.i2l, 1) := by decide +kernel
theorem dX8_odds_2 : decode cX8_odds 2 = .ok (.lconst 1, 1) := by decide +kernel
theorem dX8_odds_3 : decode cX8_odds 3 = .ok (.ldc2_w 210, 3) := by decide +kernel
theorem dX8_odds_6 : decode cX8_odds 6 = .ok (.invokestatic 63, 3) := by decide +kernel
theorem dX8_odds_9 : decode cX8_odds 9 = .ok (.ifCond .eq 48, 3) := by decide +kernel
theorem dX8_odds_12 : decode cX8_odds 12 = .ok (.iload_n 2, 1) := by decide +kernel
theorem dX8_odds_13 : decode cX8_odds 13 = .ok (.i2l, 1) := by decide +kernel
theorem dX8_odds_14 : decode cX8_odds 14 = .ok (.lconst 0, 1) := by decide +kernel
theorem dX8_odds_15 : decode cX8_odds 15 = .ok (.ldc2_w 153, 3) := by decide +kernel
theorem dX8_odds_18 : decode cX8_odds 18 = .ok (.invokestatic 63, 3) := by decide +kernel
theorem dX8_odds_21 : decode cX8_odds 21 = .ok (.ifCond .eq 36, 3) := by decide +kernel
theorem dX8_odds_24 : decode cX8_odds 24 = .ok (.iload_n 3, 1) := by decide +kernel
theorem dX8_odds_25 : decode cX8_odds 25 = .ok (.i2l, 1) := by decide +kernel
theorem dX8_odds_26 : decode cX8_odds 26 = .ok (.lconst 0, 1) := by decide +kernel
theorem dX8_odds_27 : decode cX8_odds 27 = .ok (.ldc2_w 172, 3) := by decide +kernel
theorem dX8_odds_30 : decode cX8_odds 30 = .ok (.invokestatic 63, 3) := by decide +kernel
theorem dX8_odds_33 : decode cX8_odds 33 = .ok (.ifCond .eq 24, 3) := by decide +kernel
theorem dX8_odds_36 : decode cX8_odds 36 = .ok (.iload 4, 2) := by decide +kernel
theorem dX8_odds_38 : decode cX8_odds 38 = .ok (.i2l, 1) := by decide +kernel
theorem dX8_odds_39 : decode cX8_odds 39 = .ok (.lconst 0, 1) := by decide +kernel
theorem dX8_odds_40 : decode cX8_odds 40 = .ok (.ldc2_w 217, 3) := by decide +kernel
theorem dX8_odds_43 : decode cX8_odds 43 = .ok (.invokestatic 63, 3) := by decide +kernel
theorem dX8_odds_46 : decode cX8_odds 46 = .ok (.ifCond .eq 11, 3) := by decide +kernel
theorem dX8_odds_49 : decode cX8_odds 49 = .ok (.iload 5, 2) := by decide +kernel
theorem dX8_odds_51 : decode cX8_odds 51 = .ok (.invokestatic 186, 3) := by decide +kernel
theorem dX8_odds_54 : decode cX8_odds 54 = .ok (.ifCond .ne 6, 3) := by decide +kernel
theorem dX8_odds_57 : decode cX8_odds 57 = .ok (.ldc 83, 2) := by decide +kernel
theorem dX8_odds_59 : decode cX8_odds 59 = .ok (.ireturn, 1) := by decide +kernel
theorem dX8_odds_60 : decode cX8_odds 60 = .ok (.aload_n 0, 1) := by decide +kernel
theorem dX8_odds_61 : decode cX8_odds 61 = .ok (.invokevirtual 141, 3) := by decide +kernel
theorem dX8_odds_64 : decode cX8_odds 64 = .ok (.istore 6, 2) := by decide +kernel
theorem dX8_odds_66 : decode cX8_odds 66 = .ok (.lconst 0, 1) := by decide +kernel
theorem dX8_odds_67 : decode cX8_odds 67 = .ok (.lstore 7, 2) := by decide +kernel
theorem dX8_odds_69 : decode cX8_odds 69 = .ok (.iconst 0, 1) := by decide +kernel
theorem dX8_odds_70 : decode cX8_odds 70 = .ok (.istore 9, 2) := by decide +kernel
theorem dX8_odds_72 : decode cX8_odds 72 = .ok (.iload 9, 2) := by decide +kernel
theorem dX8_odds_74 : decode cX8_odds 74 = .ok (.iconst 1, 1) := by decide +kernel
theorem dX8_odds_75 : decode cX8_odds 75 = .ok (.iload_n 1, 1) := by decide +kernel
theorem dX8_odds_76 : decode cX8_odds 76 = .ok (.ishl, 1) := by decide +kernel
theorem dX8_odds_77 : decode cX8_odds 77 = .ok (.if_icmp .ge 119, 3) := by decide +kernel
theorem dX8_odds_80 : decode cX8_odds 80 = .ok (.aload_n 0, 1) := by decide +kernel
theorem dX8_odds_81 : decode cX8_odds 81 = .ok (.iconst 0, 1) := by decide +kernel
theorem dX8_odds_82 : decode cX8_odds 82 = .ok (.bipush 51, 2) := by decide +kernel
theorem dX8_odds_84 : decode cX8_odds 84 = .ok (.invokevirtual 204, 3) := by decide +kernel
theorem dX8_odds_87 : decode cX8_odds 87 = .ok (.ldc2_w 219, 3) := by decide +kernel
theorem dX8_odds_90 : decode cX8_odds 90 = .ok (.lstore 10, 2) := by decide +kernel
theorem dX8_odds_92 : decode cX8_odds 92 = .ok (.iconst 0, 1) := by decide +kernel
theorem dX8_odds_93 : decode cX8_odds 93 = .ok (.istore 12, 2) := by decide +kernel
theorem dX8_odds_95 : decode cX8_odds 95 = .ok (.iload 12, 2) := by decide +kernel
theorem dX8_odds_97 : decode cX8_odds 97 = .ok (.iload_n 1, 1) := by decide +kernel
theorem dX8_odds_98 : decode cX8_odds 98 = .ok (.if_icmp .ge 60, 3) := by decide +kernel
theorem dX8_odds_101 : decode cX8_odds 101 = .ok (.lload 10, 2) := by decide +kernel
theorem dX8_odds_103 : decode cX8_odds 103 = .ok (.iload 4, 2) := by decide +kernel
theorem dX8_odds_105 : decode cX8_odds 105 = .ok (.i2l, 1) := by decide +kernel
theorem dX8_odds_106 : decode cX8_odds 106 = .ok (.lmul, 1) := by decide +kernel
theorem dX8_odds_107 : decode cX8_odds 107 = .ok (.ldc2_w 217, 3) := by decide +kernel
theorem dX8_odds_110 : decode cX8_odds 110 = .ok (.ldiv, 1) := by decide +kernel
theorem dX8_odds_111 : decode cX8_odds 111 = .ok (.lstore 13, 2) := by decide +kernel
theorem dX8_odds_113 : decode cX8_odds 113 = .ok (.iload 9, 2) := by decide +kernel
theorem dX8_odds_115 : decode cX8_odds 115 = .ok (.iload 12, 2) := by decide +kernel
theorem dX8_odds_117 : decode cX8_odds 117 = .ok (.ishr, 1) := by decide +kernel
theorem dX8_odds_118 : decode cX8_odds 118 = .ok (.iconst 1, 1) := by decide +kernel
theorem dX8_odds_119 : decode cX8_odds 119 = .ok (.iand, 1) := by decide +kernel
theorem dX8_odds_120 : decode cX8_odds 120 = .ok (.iconst 1, 1) := by decide +kernel
theorem dX8_odds_121 : decode cX8_odds 121 = .ok (.if_icmp .ne 17, 3) := by decide +kernel
theorem dX8_odds_124 : decode cX8_odds 124 = .ok (.lload 13, 2) := by decide +kernel
theorem dX8_odds_126 : decode cX8_odds 126 = .ok (.lstore 10, 2) := by decide +kernel
theorem dX8_odds_128 : decode cX8_odds 128 = .ok (.aload_n 0, 1) := by decide +kernel
theorem dX8_odds_129 : decode cX8_odds 129 = .ok (.bipush 51, 2) := by decide +kernel
theorem dX8_odds_131 : decode cX8_odds 131 = .ok (.iload_n 3, 1) := by decide +kernel
theorem dX8_odds_132 : decode cX8_odds 132 = .ok (.invokevirtual 174, 3) := by decide +kernel
theorem dX8_odds_135 : decode cX8_odds 135 = .ok (.goto 17, 3) := by decide +kernel
theorem dX8_odds_138 : decode cX8_odds 138 = .ok (.lload 10, 2) := by decide +kernel
theorem dX8_odds_140 : decode cX8_odds 140 = .ok (.lload 13, 2) := by decide +kernel
theorem dX8_odds_142 : decode cX8_odds 142 = .ok (.lsub, 1) := by decide +kernel
theorem dX8_odds_143 : decode cX8_odds 143 = .ok (.lstore 10, 2) := by decide +kernel
theorem dX8_odds_145 : decode cX8_odds 145 = .ok (.aload_n 0, 1) := by decide +kernel
theorem dX8_odds_146 : decode cX8_odds 146 = .ok (.bipush 51, 2) := by decide +kernel
theorem dX8_odds_148 : decode cX8_odds 148 = .ok (.iload_n 2, 1) := by decide +kernel
theorem dX8_odds_149 : decode cX8_odds 149 = .ok (.invokevirtual 165, 3) := by decide +kernel
theorem dX8_odds_152 : decode cX8_odds 152 = .ok (.iinc 12 1, 3) := by decide +kernel
theorem dX8_odds_155 : decode cX8_odds 155 = .ok (.goto (-60), 3) := by decide +kernel
theorem dX8_odds_158 : decode cX8_odds 158 = .ok (.aload_n 0, 1) := by decide +kernel
theorem dX8_odds_159 : decode cX8_odds 159 = .ok (.bipush 51, 2) := by decide +kernel
theorem dX8_odds_161 : decode cX8_odds 161 = .ok (.iload 5, 2) := by decide +kernel
theorem dX8_odds_163 : decode cX8_odds 163 = .ok (.iload 6, 2) := by decide +kernel
theorem dX8_odds_165 : decode cX8_odds 165 = .ok (.invokevirtual 190, 3) := by decide +kernel
theorem dX8_odds_168 : decode cX8_odds 168 = .ok (.lload 7, 2) := by decide +kernel
theorem dX8_odds_170 : decode cX8_odds 170 = .ok (.aload_n 0, 1) := by decide +kernel
theorem dX8_odds_171 : decode cX8_odds 171 = .ok (.getfield 177, 3) := by decide +kernel
theorem dX8_odds_174 : decode cX8_odds 174 = .ok (.aload_n 0, 1) := by decide +kernel
theorem dX8_odds_175 : decode cX8_odds 175 = .ok (.getfield 60, 3) := by decide +kernel
theorem dX8_odds_178 : decode cX8_odds 178 = .ok (.if_icmp .ne 8, 3) := by decide +kernel
theorem dX8_odds_181 : decode cX8_odds 181 = .ok (.lload 10, 2) := by decide +kernel
theorem dX8_odds_183 : decode cX8_odds 183 = .ok (.goto 4, 3) := by decide +kernel
theorem dX8_odds_186 : decode cX8_odds 186 = .ok (.lconst 0, 1) := by decide +kernel
theorem dX8_odds_187 : decode cX8_odds 187 = .ok (.ladd, 1) := by decide +kernel
theorem dX8_odds_188 : decode cX8_odds 188 = .ok (.lstore 7, 2) := by decide +kernel
theorem dX8_odds_190 : decode cX8_odds 190 = .ok (.iinc 9 1, 3) := by decide +kernel
theorem dX8_odds_193 : decode cX8_odds 193 = .ok (.goto (-121), 3) := by decide +kernel
theorem dX8_odds_196 : decode cX8_odds 196 = .ok (.lload 7, 2) := by decide +kernel
theorem dX8_odds_198 : decode cX8_odds 198 = .ok (.l2i, 1) := by decide +kernel
theorem dX8_odds_199 : decode cX8_odds 199 = .ok (.ireturn, 1) := by decide +kernel
set_option maxRecDepth 20000 in
theorem ggX8_noFall_X8_in : GoodIn wsX8_noFall wsX8_in := goodIn_r _ [9] (by decide +kernel) (by decide +kernel)
set_option maxRecDepth 20000 in
theorem gX8_noFall_X8_in : GoodIn wsX8_noFall (va_wsS RX8 63 yX8_in wsX8_in) := goodIn_app (goodIn_of _ (by decide +kernel)) ggX8_noFall_X8_in
theorem dX8_noFall_0 : decode cX8_noFall 0 = .ok (.iload_n 1, 1) := by decide +kernel
theorem dX8_noFall_1 : decode cX8_noFall 1 = .ok (.i2l, 1) := by decide +kernel
theorem dX8_noFall_2 : decode cX8_noFall 2 = .ok (.lconst 0, 1) := by decide +kernel
theorem dX8_noFall_3 : decode cX8_noFall 3 = .ok (.ldc2_w 163, 3) := by decide +kernel
theorem dX8_noFall_6 : decode cX8_noFall 6 = .ok (.invokestatic 63, 3) := by decide +kernel
theorem dX8_noFall_9 : decode cX8_noFall 9 = .ok (.ifCond .eq 15, 3) := by decide +kernel
theorem dX8_noFall_12 : decode cX8_noFall 12 = .ok (.iload_n 2, 1) := by decide +kernel
theorem dX8_noFall_13 : decode cX8_noFall 13 = .ok (.i2l, 1) := by decide +kernel
theorem dX8_noFall_14 : decode cX8_noFall 14 = .ok (.lconst 0, 1) := by decide +kernel
theorem dX8_noFall_15 : decode cX8_noFall 15 = .ok (.ldc2_w 221, 3) := by decide +kernel
theorem dX8_noFall_18 : decode cX8_noFall 18 = .ok (.invokestatic 63, 3) := by decide +kernel
theorem dX8_noFall_21 : decode cX8_noFall 21 = .ok (.ifCond .ne 6, 3) := by decide +kernel
theorem dX8_noFall_24 : decode cX8_noFall 24 = .ok (.ldc 83, 2) := by decide +kernel
theorem dX8_noFall_26 : decode cX8_noFall 26 = .ok (.ireturn, 1) := by decide +kernel
theorem dX8_noFall_27 : decode cX8_noFall 27 = .ok (.ldc2_w 219, 3) := by decide +kernel
theorem dX8_noFall_30 : decode cX8_noFall 30 = .ok (.lstore_n 3, 1) := by decide +kernel
theorem dX8_noFall_31 : decode cX8_noFall 31 = .ok (.iconst 0, 1) := by decide +kernel
theorem dX8_noFall_32 : decode cX8_noFall 32 = .ok (.istore 5, 2) := by decide +kernel
theorem dX8_noFall_34 : decode cX8_noFall 34 = .ok (.iload 5, 2) := by decide +kernel
theorem dX8_noFall_36 : decode cX8_noFall 36 = .ok (.aload_n 0, 1) := by decide +kernel
theorem dX8_noFall_37 : decode cX8_noFall 37 = .ok (.getfield 13, 3) := by decide +kernel
theorem dX8_noFall_40 : decode cX8_noFall 40 = .ok (.iconst 0, 1) := by decide +kernel
theorem dX8_noFall_41 : decode cX8_noFall 41 = .ok (.iaload, 1) := by decide +kernel
theorem dX8_noFall_42 : decode cX8_noFall 42 = .ok (.iload_n 1, 1) := by decide +kernel
theorem dX8_noFall_43 : decode cX8_noFall 43 = .ok (.imul, 1) := by decide +kernel
theorem dX8_noFall_44 : decode cX8_noFall 44 = .ok (.if_icmp .ge 22, 3) := by decide +kernel
theorem dX8_noFall_47 : decode cX8_noFall 47 = .ok (.lload_n 3, 1) := by decide +kernel
theorem dX8_noFall_48 : decode cX8_noFall 48 = .ok (.sipush 1000, 3) := by decide +kernel
theorem dX8_noFall_51 : decode cX8_noFall 51 = .ok (.iload_n 2, 1) := by decide +kernel
theorem dX8_noFall_52 : decode cX8_noFall 52 = .ok (.isub, 1) := by decide +kernel
theorem dX8_noFall_53 : decode cX8_noFall 53 = .ok (.i2l, 1) := by decide +kernel
theorem dX8_noFall_54 : decode cX8_noFall 54 = .ok (.lmul, 1) := by decide +kernel
theorem dX8_noFall_55 : decode cX8_noFall 55 = .ok (.ldc2_w 221, 3) := by decide +kernel
theorem dX8_noFall_58 : decode cX8_noFall 58 = .ok (.ldiv, 1) := by decide +kernel
theorem dX8_noFall_59 : decode cX8_noFall 59 = .ok (.lstore_n 3, 1) := by decide +kernel
theorem dX8_noFall_60 : decode cX8_noFall 60 = .ok (.iinc 5 1, 3) := by decide +kernel
theorem dX8_noFall_63 : decode cX8_noFall 63 = .ok (.goto (-29), 3) := by decide +kernel
theorem dX8_noFall_66 : decode cX8_noFall 66 = .ok (.lload_n 3, 1) := by decide +kernel
theorem dX8_noFall_67 : decode cX8_noFall 67 = .ok (.l2i, 1) := by decide +kernel
theorem dX8_noFall_68 : decode cX8_noFall 68 = .ok (.ireturn, 1) := by decide +kernel
set_option maxRecDepth 20000 in
theorem ggX8_bore_X8_isYard : GoodIn wsX8_bore wsX8_isYard := goodIn_r _ [16, 17, 18, 19, 15, 20, 21, 22, 23, 24, 25, 26, 27, 28, 29, 30, 31, 32, 33, 34, 35, 36, 37, 38, 39, 40, 41, 42, 43, 44, 45, 46, 47, 48] (by decide +kernel) (by decide +kernel)
set_option maxRecDepth 20000 in
theorem gX8_bore_X8_isYard : GoodIn wsX8_bore (wsV RX8 149 RX8 yX8_isYard wsX8_isYard) := goodIn_app (goodIn_of _ (by decide +kernel)) ggX8_bore_X8_isYard
set_option maxRecDepth 20000 in
theorem ggX8_bore_X8_in : GoodIn wsX8_bore wsX8_in := goodIn_r _ [20] (by decide +kernel) (by decide +kernel)
set_option maxRecDepth 20000 in
theorem gX8_bore_X8_in : GoodIn wsX8_bore (va_wsS RX8 63 yX8_in wsX8_in) := goodIn_app (goodIn_of _ (by decide +kernel)) ggX8_bore_X8_in
theorem dX8_bore_0 : decode cX8_bore 0 = .ok (.aload_n 0, 1) := by decide +kernel
theorem dX8_bore_1 : decode cX8_bore 1 = .ok (.iload_n 1, 1) := by decide +kernel
theorem dX8_bore_2 : decode cX8_bore 2 = .ok (.invokevirtual 149, 3) := by decide +kernel
theorem dX8_bore_5 : decode cX8_bore 5 = .ok (.ifCond .ne 6, 3) := by decide +kernel
theorem dX8_bore_8 : decode cX8_bore 8 = .ok (.ldc 152, 2) := by decide +kernel
theorem dX8_bore_10 : decode cX8_bore 10 = .ok (.ireturn, 1) := by decide +kernel
theorem dX8_bore_11 : decode cX8_bore 11 = .ok (.iload_n 2, 1) := by decide +kernel
theorem dX8_bore_12 : decode cX8_bore 12 = .ok (.i2l, 1) := by decide +kernel
theorem dX8_bore_13 : decode cX8_bore 13 = .ok (.lconst 0, 1) := by decide +kernel
theorem dX8_bore_14 : decode cX8_bore 14 = .ok (.ldc2_w 147, 3) := by decide +kernel
theorem dX8_bore_17 : decode cX8_bore 17 = .ok (.invokestatic 63, 3) := by decide +kernel
theorem dX8_bore_20 : decode cX8_bore 20 = .ok (.ifCond .eq 28, 3) := by decide +kernel
theorem dX8_bore_23 : decode cX8_bore 23 = .ok (.iload_n 3, 1) := by decide +kernel
theorem dX8_bore_24 : decode cX8_bore 24 = .ok (.i2l, 1) := by decide +kernel
theorem dX8_bore_25 : decode cX8_bore 25 = .ok (.lconst 0, 1) := by decide +kernel
theorem dX8_bore_26 : decode cX8_bore 26 = .ok (.ldc2_w 153, 3) := by decide +kernel
theorem dX8_bore_29 : decode cX8_bore 29 = .ok (.invokestatic 63, 3) := by decide +kernel
theorem dX8_bore_32 : decode cX8_bore 32 = .ok (.ifCond .eq 16, 3) := by decide +kernel
theorem dX8_bore_35 : decode cX8_bore 35 = .ok (.iload 4, 2) := by decide +kernel
theorem dX8_bore_37 : decode cX8_bore 37 = .ok (.i2l, 1) := by decide +kernel
theorem dX8_bore_38 : decode cX8_bore 38 = .ok (.lconst 0, 1) := by decide +kernel
theorem dX8_bore_39 : decode cX8_bore 39 = .ok (.ldc2_w 223, 3) := by decide +kernel
theorem dX8_bore_42 : decode cX8_bore 42 = .ok (.invokestatic 63, 3) := by decide +kernel
theorem dX8_bore_45 : decode cX8_bore 45 = .ok (.ifCond .ne 6, 3) := by decide +kernel
theorem dX8_bore_48 : decode cX8_bore 48 = .ok (.ldc 83, 2) := by decide +kernel
theorem dX8_bore_50 : decode cX8_bore 50 = .ok (.ireturn, 1) := by decide +kernel
theorem dX8_bore_51 : decode cX8_bore 51 = .ok (.aload_n 0, 1) := by decide +kernel
theorem dX8_bore_52 : decode cX8_bore 52 = .ok (.getfield 131, 3) := by decide +kernel
theorem dX8_bore_55 : decode cX8_bore 55 = .ok (.bipush 10, 2) := by decide +kernel
theorem dX8_bore_57 : decode cX8_bore 57 = .ok (.if_icmp .ne 6, 3) := by decide +kernel
theorem dX8_bore_60 : decode cX8_bore 60 = .ok (.ldc 87, 2) := by decide +kernel
theorem dX8_bore_62 : decode cX8_bore 62 = .ok (.ireturn, 1) := by decide +kernel
theorem dX8_bore_63 : decode cX8_bore 63 = .ok (.aload_n 0, 1) := by decide +kernel
theorem dX8_bore_64 : decode cX8_bore 64 = .ok (.getfield 39, 3) := by decide +kernel
theorem dX8_bore_67 : decode cX8_bore 67 = .ok (.aload_n 0, 1) := by decide +kernel
theorem dX8_bore_68 : decode cX8_bore 68 = .ok (.getfield 131, 3) := by decide +kernel
theorem dX8_bore_71 : decode cX8_bore 71 = .ok (.iload_n 1, 1) := by decide +kernel
theorem dX8_bore_72 : decode cX8_bore 72 = .ok (.iastore, 1) := by decide +kernel
theorem dX8_bore_73 : decode cX8_bore 73 = .ok (.aload_n 0, 1) := by decide +kernel
theorem dX8_bore_74 : decode cX8_bore 74 = .ok (.getfield 42, 3) := by decide +kernel
theorem dX8_bore_77 : decode cX8_bore 77 = .ok (.aload_n 0, 1) := by decide +kernel
theorem dX8_bore_78 : decode cX8_bore 78 = .ok (.getfield 131, 3) := by decide +kernel
theorem dX8_bore_81 : decode cX8_bore 81 = .ok (.iload_n 2, 1) := by decide +kernel
theorem dX8_bore_82 : decode cX8_bore 82 = .ok (.iastore, 1) := by decide +kernel
theorem dX8_bore_83 : decode cX8_bore 83 = .ok (.aload_n 0, 1) := by decide +kernel
theorem dX8_bore_84 : decode cX8_bore 84 = .ok (.getfield 45, 3) := by decide +kernel
theorem dX8_bore_87 : decode cX8_bore 87 = .ok (.aload_n 0, 1) := by decide +kernel
theorem dX8_bore_88 : decode cX8_bore 88 = .ok (.getfield 131, 3) := by decide +kernel
theorem dX8_bore_91 : decode cX8_bore 91 = .ok (.iload_n 3, 1) := by decide +kernel
theorem dX8_bore_92 : decode cX8_bore 92 = .ok (.iastore, 1) := by decide +kernel
theorem dX8_bore_93 : decode cX8_bore 93 = .ok (.aload_n 0, 1) := by decide +kernel
theorem dX8_bore_94 : decode cX8_bore 94 = .ok (.getfield 48, 3) := by decide +kernel
theorem dX8_bore_97 : decode cX8_bore 97 = .ok (.aload_n 0, 1) := by decide +kernel
theorem dX8_bore_98 : decode cX8_bore 98 = .ok (.getfield 131, 3) := by decide +kernel
theorem dX8_bore_101 : decode cX8_bore 101 = .ok (.iload 4, 2) := by decide +kernel
theorem dX8_bore_103 : decode cX8_bore 103 = .ok (.iastore, 1) := by decide +kernel
theorem dX8_bore_104 : decode cX8_bore 104 = .ok (.aload_n 0, 1) := by decide +kernel
theorem dX8_bore_105 : decode cX8_bore 105 = .ok (.dup, 1) := by decide +kernel
theorem dX8_bore_106 : decode cX8_bore 106 = .ok (.getfield 131, 3) := by decide +kernel
theorem dX8_bore_109 : decode cX8_bore 109 = .ok (.iconst 1, 1) := by decide +kernel
theorem dX8_bore_110 : decode cX8_bore 110 = .ok (.iadd, 1) := by decide +kernel
theorem dX8_bore_111 : decode cX8_bore 111 = .ok (.putfield 131, 3) := by decide +kernel
theorem dX8_bore_114 : decode cX8_bore 114 = .ok (.aload_n 0, 1) := by decide +kernel
theorem dX8_bore_115 : decode cX8_bore 115 = .ok (.getfield 131, 3) := by decide +kernel
theorem dX8_bore_118 : decode cX8_bore 118 = .ok (.ireturn, 1) := by decide +kernel
set_option maxRecDepth 20000 in
theorem ggX8_kinds_X8_isYard : GoodIn wsX8_kinds wsX8_isYard := goodIn_r _ [12, 13, 14, 15, 11, 16, 32, 33, 34, 35, 36, 37, 38, 39, 40, 41, 42, 43, 44, 45, 46, 47, 48, 49, 50, 51, 52, 53, 54, 55, 56, 57, 58, 59] (by decide +kernel) (by decide +kernel)
set_option maxRecDepth 20000 in
theorem gX8_kinds_X8_isYard : GoodIn wsX8_kinds (wsV RX8 149 RX8 yX8_isYard wsX8_isYard) := goodIn_app (goodIn_of _ (by decide +kernel)) ggX8_kinds_X8_isYard
set_option maxRecDepth 20000 in
theorem ggX8_kinds_X8_copy : GoodIn wsX8_kinds wsX8_copy := goodIn_r _ [20, 4, 32, 33, 34, 35, 36, 37, 38, 39, 40, 41, 42, 43, 44, 45, 46, 47, 48, 49, 50, 51, 52, 53, 54, 55, 56, 57, 58, 59] (by decide +kernel) (by decide +kernel)
set_option maxRecDepth 20000 in
theorem gX8_kinds_X8_copy : GoodIn wsX8_kinds (wsV RX8 204 RX8 yX8_copy wsX8_copy) := goodIn_app (goodIn_of _ (by decide +kernel)) ggX8_kinds_X8_copy
set_option maxRecDepth 20000 in
theorem ggX8_kinds_X8_nightOf : GoodIn wsX8_kinds wsX8_nightOf := goodIn_r _ [24, 13, 4, 25, 26, 27, 11, 28, 29, 30, 31, 32, 33, 34, 35, 36, 37, 38, 39, 40, 41, 42, 43, 44, 45, 46, 47, 48, 49, 50, 51, 52, 53, 54, 55, 56, 57, 58, 59] (by decide +kernel) (by decide +kernel)
set_option maxRecDepth 20000 in
theorem gX8_kinds_X8_nightOf : GoodIn wsX8_kinds (wsV RX8 165 RX8 yX8_nightOf wsX8_nightOf) := goodIn_app (goodIn_of _ (by decide +kernel)) ggX8_kinds_X8_nightOf
theorem dX8_kinds_0 : decode cX8_kinds 0 = .ok (.aload_n 0, 1) := by decide +kernel
theorem dX8_kinds_1 : decode cX8_kinds 1 = .ok (.iload_n 1, 1) := by decide +kernel
theorem dX8_kinds_2 : decode cX8_kinds 2 = .ok (.invokevirtual 149, 3) := by decide +kernel
theorem dX8_kinds_5 : decode cX8_kinds 5 = .ok (.ifCond .ne 6, 3) := by decide +kernel
theorem dX8_kinds_8 : decode cX8_kinds 8 = .ok (.ldc 152, 2) := by decide +kernel
theorem dX8_kinds_10 : decode cX8_kinds 10 = .ok (.ireturn, 1) := by decide +kernel
theorem dX8_kinds_11 : decode cX8_kinds 11 = .ok (.iconst 0, 1) := by decide +kernel
theorem dX8_kinds_12 : decode cX8_kinds 12 = .ok (.istore_n 2, 1) := by decide +kernel
theorem dX8_kinds_13 : decode cX8_kinds 13 = .ok (.iconst 0, 1) := by decide +kernel
theorem dX8_kinds_14 : decode cX8_kinds 14 = .ok (.istore_n 3, 1) := by decide +kernel
theorem dX8_kinds_15 : decode cX8_kinds 15 = .ok (.iload_n 3, 1) := by decide +kernel
theorem dX8_kinds_16 : decode cX8_kinds 16 = .ok (.iconst 3, 1) := by decide +kernel
theorem dX8_kinds_17 : decode cX8_kinds 17 = .ok (.if_icmp .gt 138, 3) := by decide +kernel
theorem dX8_kinds_20 : decode cX8_kinds 20 = .ok (.iconst 1, 1) := by decide +kernel
theorem dX8_kinds_21 : decode cX8_kinds 21 = .ok (.istore 4, 2) := by decide +kernel
theorem dX8_kinds_23 : decode cX8_kinds 23 = .ok (.iconst 0, 1) := by decide +kernel
theorem dX8_kinds_24 : decode cX8_kinds 24 = .ok (.istore 5, 2) := by decide +kernel
theorem dX8_kinds_26 : decode cX8_kinds 26 = .ok (.iload 5, 2) := by decide +kernel
theorem dX8_kinds_28 : decode cX8_kinds 28 = .ok (.aload_n 0, 1) := by decide +kernel
theorem dX8_kinds_29 : decode cX8_kinds 29 = .ok (.getfield 131, 3) := by decide +kernel
theorem dX8_kinds_32 : decode cX8_kinds 32 = .ok (.if_icmp .ge 102, 3) := by decide +kernel
theorem dX8_kinds_35 : decode cX8_kinds 35 = .ok (.iload 4, 2) := by decide +kernel
theorem dX8_kinds_37 : decode cX8_kinds 37 = .ok (.ifCond .eq 97, 3) := by decide +kernel
theorem dX8_kinds_40 : decode cX8_kinds 40 = .ok (.aload_n 0, 1) := by decide +kernel
theorem dX8_kinds_41 : decode cX8_kinds 41 = .ok (.getfield 39, 3) := by decide +kernel
theorem dX8_kinds_44 : decode cX8_kinds 44 = .ok (.iload 5, 2) := by decide +kernel
theorem dX8_kinds_46 : decode cX8_kinds 46 = .ok (.iaload, 1) := by decide +kernel
theorem dX8_kinds_47 : decode cX8_kinds 47 = .ok (.iload_n 1, 1) := by decide +kernel
theorem dX8_kinds_48 : decode cX8_kinds 48 = .ok (.if_icmp .ne 80, 3) := by decide +kernel
theorem dX8_kinds_51 : decode cX8_kinds 51 = .ok (.aload_n 0, 1) := by decide +kernel
theorem dX8_kinds_52 : decode cX8_kinds 52 = .ok (.iconst 0, 1) := by decide +kernel
theorem dX8_kinds_53 : decode cX8_kinds 53 = .ok (.bipush 51, 2) := by decide +kernel
theorem dX8_kinds_55 : decode cX8_kinds 55 = .ok (.invokevirtual 204, 3) := by decide +kernel
theorem dX8_kinds_58 : decode cX8_kinds 58 = .ok (.aload_n 0, 1) := by decide +kernel
theorem dX8_kinds_59 : decode cX8_kinds 59 = .ok (.getfield 7, 3) := by decide +kernel
theorem dX8_kinds_62 : decode cX8_kinds 62 = .ok (.bipush 63, 2) := by decide +kernel
theorem dX8_kinds_64 : decode cX8_kinds 64 = .ok (.iload_n 1, 1) := by decide +kernel
theorem dX8_kinds_65 : decode cX8_kinds 65 = .ok (.iadd, 1) := by decide +kernel
theorem dX8_kinds_66 : decode cX8_kinds 66 = .ok (.iload_n 3, 1) := by decide +kernel
theorem dX8_kinds_67 : decode cX8_kinds 67 = .ok (.iastore, 1) := by decide +kernel
theorem dX8_kinds_68 : decode cX8_kinds 68 = .ok (.iconst 0, 1) := by decide +kernel
theorem dX8_kinds_69 : decode cX8_kinds 69 = .ok (.istore 6, 2) := by decide +kernel
theorem dX8_kinds_71 : decode cX8_kinds 71 = .ok (.iload 6, 2) := by decide +kernel
theorem dX8_kinds_73 : decode cX8_kinds 73 = .ok (.aload_n 0, 1) := by decide +kernel
theorem dX8_kinds_74 : decode cX8_kinds 74 = .ok (.getfield 42, 3) := by decide +kernel
theorem dX8_kinds_77 : decode cX8_kinds 77 = .ok (.iload 5, 2) := by decide +kernel
theorem dX8_kinds_79 : decode cX8_kinds 79 = .ok (.iaload, 1) := by decide +kernel
theorem dX8_kinds_80 : decode cX8_kinds 80 = .ok (.if_icmp .ge 22, 3) := by decide +kernel
theorem dX8_kinds_83 : decode cX8_kinds 83 = .ok (.aload_n 0, 1) := by decide +kernel
theorem dX8_kinds_84 : decode cX8_kinds 84 = .ok (.bipush 51, 2) := by decide +kernel
theorem dX8_kinds_86 : decode cX8_kinds 86 = .ok (.aload_n 0, 1) := by decide +kernel
theorem dX8_kinds_87 : decode cX8_kinds 87 = .ok (.getfield 45, 3) := by decide +kernel
theorem dX8_kinds_90 : decode cX8_kinds 90 = .ok (.iload 5, 2) := by decide +kernel
theorem dX8_kinds_92 : decode cX8_kinds 92 = .ok (.iaload, 1) := by decide +kernel
theorem dX8_kinds_93 : decode cX8_kinds 93 = .ok (.invokevirtual 165, 3) := by decide +kernel
theorem dX8_kinds_96 : decode cX8_kinds 96 = .ok (.iinc 6 1, 3) := by decide +kernel
theorem dX8_kinds_99 : decode cX8_kinds 99 = .ok (.goto (-28), 3) := by decide +kernel
theorem dX8_kinds_102 : decode cX8_kinds 102 = .ok (.aload_n 0, 1) := by decide +kernel
theorem dX8_kinds_103 : decode cX8_kinds 103 = .ok (.getfield 7, 3) := by decide +kernel
theorem dX8_kinds_106 : decode cX8_kinds 106 = .ok (.bipush 51, 2) := by decide +kernel
theorem dX8_kinds_108 : decode cX8_kinds 108 = .ok (.iload_n 1, 1) := by decide +kernel
theorem dX8_kinds_109 : decode cX8_kinds 109 = .ok (.iadd, 1) := by decide +kernel
theorem dX8_kinds_110 : decode cX8_kinds 110 = .ok (.iaload, 1) := by decide +kernel
theorem dX8_kinds_111 : decode cX8_kinds 111 = .ok (.aload_n 0, 1) := by decide +kernel
theorem dX8_kinds_112 : decode cX8_kinds 112 = .ok (.getfield 48, 3) := by decide +kernel
theorem dX8_kinds_115 : decode cX8_kinds 115 = .ok (.iload 5, 2) := by decide +kernel
theorem dX8_kinds_117 : decode cX8_kinds 117 = .ok (.iaload, 1) := by decide +kernel
theorem dX8_kinds_118 : decode cX8_kinds 118 = .ok (.if_icmp .ne 7, 3) := by decide +kernel
theorem dX8_kinds_121 : decode cX8_kinds 121 = .ok (.iconst 1, 1) := by decide +kernel
theorem dX8_kinds_122 : decode cX8_kinds 122 = .ok (.goto 4, 3) := by decide +kernel
theorem dX8_kinds_125 : decode cX8_kinds 125 = .ok (.iconst 0, 1) := by decide +kernel
theorem dX8_kinds_126 : decode cX8_kinds 126 = .ok (.istore 4, 2) := by decide +kernel
theorem dX8_kinds_128 : decode cX8_kinds 128 = .ok (.iinc 5 1, 3) := by decide +kernel
theorem dX8_kinds_131 : decode cX8_kinds 131 = .ok (.goto (-105), 3) := by decide +kernel
theorem dX8_kinds_134 : decode cX8_kinds 134 = .ok (.iload_n 2, 1) := by decide +kernel
theorem dX8_kinds_135 : decode cX8_kinds 135 = .ok (.iload 4, 2) := by decide +kernel
theorem dX8_kinds_137 : decode cX8_kinds 137 = .ok (.ifCond .eq 9, 3) := by decide +kernel
theorem dX8_kinds_140 : decode cX8_kinds 140 = .ok (.iconst 1, 1) := by decide +kernel
theorem dX8_kinds_141 : decode cX8_kinds 141 = .ok (.iload_n 3, 1) := by decide +kernel
theorem dX8_kinds_142 : decode cX8_kinds 142 = .ok (.ishl, 1) := by decide +kernel
theorem dX8_kinds_143 : decode cX8_kinds 143 = .ok (.goto 4, 3) := by decide +kernel
theorem dX8_kinds_146 : decode cX8_kinds 146 = .ok (.iconst 0, 1) := by decide +kernel
theorem dX8_kinds_147 : decode cX8_kinds 147 = .ok (.ior, 1) := by decide +kernel
theorem dX8_kinds_148 : decode cX8_kinds 148 = .ok (.istore_n 2, 1) := by decide +kernel
theorem dX8_kinds_149 : decode cX8_kinds 149 = .ok (.iinc 3 1, 3) := by decide +kernel
theorem dX8_kinds_152 : decode cX8_kinds 152 = .ok (.goto (-137), 3) := by decide +kernel
theorem dX8_kinds_155 : decode cX8_kinds 155 = .ok (.iload_n 2, 1) := by decide +kernel
theorem dX8_kinds_156 : decode cX8_kinds 156 = .ok (.ireturn, 1) := by decide +kernel
set_option maxRecDepth 20000 in
theorem ggX8_write_X8_isYard : GoodIn wsX8_write wsX8_isYard := goodIn_r _ [12, 13, 14, 15, 11, 16, 17, 18, 19, 20, 21, 22, 23, 24, 25, 26, 27, 28, 29, 30, 31, 32, 33, 34, 35, 36, 37, 38, 39, 40, 41, 42, 43, 44] (by decide +kernel) (by decide +kernel)
set_option maxRecDepth 20000 in
theorem gX8_write_X8_isYard : GoodIn wsX8_write (wsV RX8 149 RX8 yX8_isYard wsX8_isYard) := goodIn_app (goodIn_of _ (by decide +kernel)) ggX8_write_X8_isYard
set_option maxRecDepth 20000 in
theorem ggX8_write_X8_in : GoodIn wsX8_write wsX8_in := goodIn_r _ [16] (by decide +kernel) (by decide +kernel)
set_option maxRecDepth 20000 in
theorem gX8_write_X8_in : GoodIn wsX8_write (va_wsS RX8 63 yX8_in wsX8_in) := goodIn_app (goodIn_of _ (by decide +kernel)) ggX8_write_X8_in
theorem dX8_write_0 : decode cX8_write 0 = .ok (.aload_n 0, 1) := by decide +kernel
theorem dX8_write_1 : decode cX8_write 1 = .ok (.iload_n 1, 1) := by decide +kernel
theorem dX8_write_2 : decode cX8_write 2 = .ok (.invokevirtual 149, 3) := by decide +kernel
theorem dX8_write_5 : decode cX8_write 5 = .ok (.ifCond .ne 6, 3) := by decide +kernel
theorem dX8_write_8 : decode cX8_write 8 = .ok (.ldc 152, 2) := by decide +kernel
theorem dX8_write_10 : decode cX8_write 10 = .ok (.ireturn, 1) := by decide +kernel
theorem dX8_write_11 : decode cX8_write 11 = .ok (.iload_n 2, 1) := by decide +kernel
theorem dX8_write_12 : decode cX8_write 12 = .ok (.i2l, 1) := by decide +kernel
theorem dX8_write_13 : decode cX8_write 13 = .ok (.lconst 0, 1) := by decide +kernel
theorem dX8_write_14 : decode cX8_write 14 = .ok (.ldc2_w 223, 3) := by decide +kernel
theorem dX8_write_17 : decode cX8_write 17 = .ok (.invokestatic 63, 3) := by decide +kernel
theorem dX8_write_20 : decode cX8_write 20 = .ok (.ifCond .ne 6, 3) := by decide +kernel
theorem dX8_write_23 : decode cX8_write 23 = .ok (.ldc 83, 2) := by decide +kernel
theorem dX8_write_25 : decode cX8_write 25 = .ok (.ireturn, 1) := by decide +kernel
theorem dX8_write_26 : decode cX8_write 26 = .ok (.aload_n 0, 1) := by decide +kernel
theorem dX8_write_27 : decode cX8_write 27 = .ok (.getfield 134, 3) := by decide +kernel
theorem dX8_write_30 : decode cX8_write 30 = .ok (.bipush 15, 2) := by decide +kernel
theorem dX8_write_32 : decode cX8_write 32 = .ok (.if_icmp .ne 6, 3) := by decide +kernel
theorem dX8_write_35 : decode cX8_write 35 = .ok (.ldc 87, 2) := by decide +kernel
theorem dX8_write_37 : decode cX8_write 37 = .ok (.ireturn, 1) := by decide +kernel
theorem dX8_write_38 : decode cX8_write 38 = .ok (.aload_n 0, 1) := by decide +kernel
theorem dX8_write_39 : decode cX8_write 39 = .ok (.getfield 51, 3) := by decide +kernel
theorem dX8_write_42 : decode cX8_write 42 = .ok (.aload_n 0, 1) := by decide +kernel
theorem dX8_write_43 : decode cX8_write 43 = .ok (.getfield 134, 3) := by decide +kernel
theorem dX8_write_46 : decode cX8_write 46 = .ok (.iload_n 1, 1) := by decide +kernel
theorem dX8_write_47 : decode cX8_write 47 = .ok (.iastore, 1) := by decide +kernel
theorem dX8_write_48 : decode cX8_write 48 = .ok (.aload_n 0, 1) := by decide +kernel
theorem dX8_write_49 : decode cX8_write 49 = .ok (.getfield 54, 3) := by decide +kernel
theorem dX8_write_52 : decode cX8_write 52 = .ok (.aload_n 0, 1) := by decide +kernel
theorem dX8_write_53 : decode cX8_write 53 = .ok (.getfield 134, 3) := by decide +kernel
theorem dX8_write_56 : decode cX8_write 56 = .ok (.iload_n 2, 1) := by decide +kernel
theorem dX8_write_57 : decode cX8_write 57 = .ok (.iastore, 1) := by decide +kernel
theorem dX8_write_58 : decode cX8_write 58 = .ok (.aload_n 0, 1) := by decide +kernel
theorem dX8_write_59 : decode cX8_write 59 = .ok (.dup, 1) := by decide +kernel
theorem dX8_write_60 : decode cX8_write 60 = .ok (.getfield 134, 3) := by decide +kernel
theorem dX8_write_63 : decode cX8_write 63 = .ok (.iconst 1, 1) := by decide +kernel
theorem dX8_write_64 : decode cX8_write 64 = .ok (.iadd, 1) := by decide +kernel
theorem dX8_write_65 : decode cX8_write 65 = .ok (.putfield 134, 3) := by decide +kernel
theorem dX8_write_68 : decode cX8_write 68 = .ok (.aload_n 0, 1) := by decide +kernel
theorem dX8_write_69 : decode cX8_write 69 = .ok (.getfield 134, 3) := by decide +kernel
theorem dX8_write_72 : decode cX8_write 72 = .ok (.ireturn, 1) := by decide +kernel
theorem dX8_tear_0 : decode cX8_tear 0 = .ok (.aload_n 0, 1) := by decide +kernel
theorem dX8_tear_1 : decode cX8_tear 1 = .ok (.getfield 131, 3) := by decide +kernel
theorem dX8_tear_4 : decode cX8_tear 4 = .ok (.aload_n 0, 1) := by decide +kernel
theorem dX8_tear_5 : decode cX8_tear 5 = .ok (.getfield 134, 3) := by decide +kernel
theorem dX8_tear_8 : decode cX8_tear 8 = .ok (.iadd, 1) := by decide +kernel
theorem dX8_tear_9 : decode cX8_tear 9 = .ok (.istore_n 1, 1) := by decide +kernel
theorem dX8_tear_10 : decode cX8_tear 10 = .ok (.aload_n 0, 1) := by decide +kernel
theorem dX8_tear_11 : decode cX8_tear 11 = .ok (.iconst 0, 1) := by decide +kernel
theorem dX8_tear_12 : decode cX8_tear 12 = .ok (.putfield 131, 3) := by decide +kernel
theorem dX8_tear_15 : decode cX8_tear 15 = .ok (.aload_n 0, 1) := by decide +kernel
theorem dX8_tear_16 : decode cX8_tear 16 = .ok (.iconst 0, 1) := by decide +kernel
theorem dX8_tear_17 : decode cX8_tear 17 = .ok (.putfield 134, 3) := by decide +kernel
theorem dX8_tear_20 : decode cX8_tear 20 = .ok (.iload_n 1, 1) := by decide +kernel
theorem dX8_tear_21 : decode cX8_tear 21 = .ok (.ireturn, 1) := by decide +kernel
theorem dX8_judge_0 : decode cX8_judge 0 = .ok (.iconst 0, 1) := by decide +kernel
theorem dX8_judge_1 : decode cX8_judge 1 = .ok (.istore_n 1, 1) := by decide +kernel
theorem dX8_judge_2 : decode cX8_judge 2 = .ok (.iload_n 1, 1) := by decide +kernel
theorem dX8_judge_3 : decode cX8_judge 3 = .ok (.aload_n 0, 1) := by decide +kernel
theorem dX8_judge_4 : decode cX8_judge 4 = .ok (.getfield 134, 3) := by decide +kernel
theorem dX8_judge_7 : decode cX8_judge 7 = .ok (.if_icmp .ge 33, 3) := by decide +kernel
theorem dX8_judge_10 : decode cX8_judge 10 = .ok (.aload_n 0, 1) := by decide +kernel
theorem dX8_judge_11 : decode cX8_judge 11 = .ok (.getfield 7, 3) := by decide +kernel
theorem dX8_judge_14 : decode cX8_judge 14 = .ok (.iconst 0, 1) := by decide +kernel
theorem dX8_judge_15 : decode cX8_judge 15 = .ok (.aload_n 0, 1) := by decide +kernel
theorem dX8_judge_16 : decode cX8_judge 16 = .ok (.getfield 51, 3) := by decide +kernel
theorem dX8_judge_19 : decode cX8_judge 19 = .ok (.iload_n 1, 1) := by decide +kernel
theorem dX8_judge_20 : decode cX8_judge 20 = .ok (.iaload, 1) := by decide +kernel
theorem dX8_judge_21 : decode cX8_judge 21 = .ok (.iadd, 1) := by decide +kernel
theorem dX8_judge_22 : decode cX8_judge 22 = .ok (.iaload, 1) := by decide +kernel
theorem dX8_judge_23 : decode cX8_judge 23 = .ok (.aload_n 0, 1) := by decide +kernel
theorem dX8_judge_24 : decode cX8_judge 24 = .ok (.getfield 54, 3) := by decide +kernel
theorem dX8_judge_27 : decode cX8_judge 27 = .ok (.iload_n 1, 1) := by decide +kernel
theorem dX8_judge_28 : decode cX8_judge 28 = .ok (.iaload, 1) := by decide +kernel
theorem dX8_judge_29 : decode cX8_judge 29 = .ok (.if_icmp .eq 5, 3) := by decide +kernel
theorem dX8_judge_32 : decode cX8_judge 32 = .ok (.iload_n 1, 1) := by decide +kernel
theorem dX8_judge_33 : decode cX8_judge 33 = .ok (.ireturn, 1) := by decide +kernel
theorem dX8_judge_34 : decode cX8_judge 34 = .ok (.iinc 1 1, 3) := by decide +kernel
theorem dX8_judge_37 : decode cX8_judge 37 = .ok (.goto (-35), 3) := by decide +kernel
theorem dX8_judge_40 : decode cX8_judge 40 = .ok (.iconst (-1), 1) := by decide +kernel
theorem dX8_judge_41 : decode cX8_judge 41 = .ok (.ireturn, 1) := by decide +kernel
theorem dX8_seed_0 : decode cX8_seed 0 = .ok (.iload_n 1, 1) := by decide +kernel
theorem dX8_seed_1 : decode cX8_seed 1 = .ok (.ifCond .ge 6, 3) := by decide +kernel
theorem dX8_seed_4 : decode cX8_seed 4 = .ok (.ldc 83, 2) := by decide +kernel
theorem dX8_seed_6 : decode cX8_seed 6 = .ok (.ireturn, 1) := by decide +kernel
theorem dX8_seed_7 : decode cX8_seed 7 = .ok (.aload_n 0, 1) := by decide +kernel
theorem dX8_seed_8 : decode cX8_seed 8 = .ok (.getfield 7, 3) := by decide +kernel
theorem dX8_seed_11 : decode cX8_seed 11 = .ok (.bipush 50, 2) := by decide +kernel
theorem dX8_seed_13 : decode cX8_seed 13 = .ok (.iaload, 1) := by decide +kernel
theorem dX8_seed_14 : decode cX8_seed 14 = .ok (.istore_n 2, 1) := by decide +kernel
theorem dX8_seed_15 : decode cX8_seed 15 = .ok (.aload_n 0, 1) := by decide +kernel
theorem dX8_seed_16 : decode cX8_seed 16 = .ok (.getfield 7, 3) := by decide +kernel
theorem dX8_seed_19 : decode cX8_seed 19 = .ok (.bipush 50, 2) := by decide +kernel
theorem dX8_seed_21 : decode cX8_seed 21 = .ok (.iload_n 1, 1) := by decide +kernel
theorem dX8_seed_22 : decode cX8_seed 22 = .ok (.iastore, 1) := by decide +kernel
theorem dX8_seed_23 : decode cX8_seed 23 = .ok (.iload_n 2, 1) := by decide +kernel
theorem dX8_seed_24 : decode cX8_seed 24 = .ok (.ireturn, 1) := by decide +kernel
set_option maxRecDepth 20000 in
theorem ggX8_keep_X8_in : GoodIn wsX8_keep wsX8_in := goodIn_r _ [6] (by decide +kernel) (by decide +kernel)
set_option maxRecDepth 20000 in
theorem gX8_keep_X8_in : GoodIn wsX8_keep (va_wsS RX8 63 yX8_in wsX8_in) := goodIn_app (goodIn_of _ (by decide +kernel)) ggX8_keep_X8_in
set_option maxRecDepth 20000 in
theorem ggX8_keep_X8_copy : GoodIn wsX8_keep wsX8_copy := goodIn_r _ [10, 11, 12, 13, 14, 15, 16, 17, 18, 19, 20, 21, 22, 23, 24, 25, 26, 27, 28, 29, 30, 31, 32, 33, 34, 35, 36, 37, 38, 39] (by decide +kernel) (by decide +kernel)
set_option maxRecDepth 20000 in
theorem gX8_keep_X8_copy : GoodIn wsX8_keep (wsV RX8 204 RX8 yX8_copy wsX8_copy) := goodIn_app (goodIn_of _ (by decide +kernel)) ggX8_keep_X8_copy
theorem dX8_keep_0 : decode cX8_keep 0 = .ok (.iload_n 1, 1) := by decide +kernel
theorem dX8_keep_1 : decode cX8_keep 1 = .ok (.i2l, 1) := by decide +kernel
theorem dX8_keep_2 : decode cX8_keep 2 = .ok (.lconst 0, 1) := by decide +kernel
theorem dX8_keep_3 : decode cX8_keep 3 = .ok (.lconst 1, 1) := by decide +kernel
theorem dX8_keep_4 : decode cX8_keep 4 = .ok (.invokestatic 63, 3) := by decide +kernel
theorem dX8_keep_7 : decode cX8_keep 7 = .ok (.ifCond .ne 6, 3) := by decide +kernel
theorem dX8_keep_10 : decode cX8_keep 10 = .ok (.ldc 152, 2) := by decide +kernel
theorem dX8_keep_12 : decode cX8_keep 12 = .ok (.ireturn, 1) := by decide +kernel
theorem dX8_keep_13 : decode cX8_keep 13 = .ok (.aload_n 0, 1) := by decide +kernel
theorem dX8_keep_14 : decode cX8_keep 14 = .ok (.iconst 0, 1) := by decide +kernel
theorem dX8_keep_15 : decode cX8_keep 15 = .ok (.bipush 102, 2) := by decide +kernel
theorem dX8_keep_17 : decode cX8_keep 17 = .ok (.bipush 51, 2) := by decide +kernel
theorem dX8_keep_19 : decode cX8_keep 19 = .ok (.iload_n 1, 1) := by decide +kernel
theorem dX8_keep_20 : decode cX8_keep 20 = .ok (.imul, 1) := by decide +kernel
theorem dX8_keep_21 : decode cX8_keep 21 = .ok (.iadd, 1) := by decide +kernel
theorem dX8_keep_22 : decode cX8_keep 22 = .ok (.invokevirtual 204, 3) := by decide +kernel
theorem dX8_keep_25 : decode cX8_keep 25 = .ok (.aload_n 0, 1) := by decide +kernel
theorem dX8_keep_26 : decode cX8_keep 26 = .ok (.getfield 16, 3) := by decide +kernel
theorem dX8_keep_29 : decode cX8_keep 29 = .ok (.iload_n 1, 1) := by decide +kernel
theorem dX8_keep_30 : decode cX8_keep 30 = .ok (.iconst 1, 1) := by decide +kernel
theorem dX8_keep_31 : decode cX8_keep 31 = .ok (.bastore, 1) := by decide +kernel
theorem dX8_keep_32 : decode cX8_keep 32 = .ok (.iconst 1, 1) := by decide +kernel
theorem dX8_keep_33 : decode cX8_keep 33 = .ok (.ireturn, 1) := by decide +kernel
set_option maxRecDepth 20000 in
theorem ggX8_goBack_X8_in : GoodIn wsX8_goBack wsX8_in := goodIn_r _ [7] (by decide +kernel) (by decide +kernel)
set_option maxRecDepth 20000 in
theorem gX8_goBack_X8_in : GoodIn wsX8_goBack (va_wsS RX8 63 yX8_in wsX8_in) := goodIn_app (goodIn_of _ (by decide +kernel)) ggX8_goBack_X8_in
set_option maxRecDepth 20000 in
theorem ggX8_goBack_X8_copy : GoodIn wsX8_goBack wsX8_copy := goodIn_r _ [11, 12, 13, 14, 15, 16, 17, 18, 19, 20, 21, 22, 23, 24, 25, 26, 27, 28, 29, 30, 31, 32, 33, 34, 35, 36, 37, 38, 39, 40] (by decide +kernel) (by decide +kernel)
set_option maxRecDepth 20000 in
theorem gX8_goBack_X8_copy : GoodIn wsX8_goBack (wsV RX8 204 RX8 yX8_copy wsX8_copy) := goodIn_app (goodIn_of _ (by decide +kernel)) ggX8_goBack_X8_copy
theorem dX8_goBack_0 : decode cX8_goBack 0 = .ok (.iload_n 1, 1) := by decide +kernel
theorem dX8_goBack_1 : decode cX8_goBack 1 = .ok (.i2l, 1) := by decide +kernel
theorem dX8_goBack_2 : decode cX8_goBack 2 = .ok (.lconst 0, 1) := by decide +kernel
theorem dX8_goBack_3 : decode cX8_goBack 3 = .ok (.lconst 1, 1) := by decide +kernel
theorem dX8_goBack_4 : decode cX8_goBack 4 = .ok (.invokestatic 63, 3) := by decide +kernel
theorem dX8_goBack_7 : decode cX8_goBack 7 = .ok (.ifCond .ne 6, 3) := by decide +kernel
theorem dX8_goBack_10 : decode cX8_goBack 10 = .ok (.ldc 152, 2) := by decide +kernel
theorem dX8_goBack_12 : decode cX8_goBack 12 = .ok (.ireturn, 1) := by decide +kernel
theorem dX8_goBack_13 : decode cX8_goBack 13 = .ok (.aload_n 0, 1) := by decide +kernel
theorem dX8_goBack_14 : decode cX8_goBack 14 = .ok (.getfield 16, 3) := by decide +kernel
theorem dX8_goBack_17 : decode cX8_goBack 17 = .ok (.iload_n 1, 1) := by decide +kernel
theorem dX8_goBack_18 : decode cX8_goBack 18 = .ok (.baload, 1) := by decide +kernel
theorem dX8_goBack_19 : decode cX8_goBack 19 = .ok (.ifCond .ne 6, 3) := by decide +kernel
theorem dX8_goBack_22 : decode cX8_goBack 22 = .ok (.ldc 189, 2) := by decide +kernel
theorem dX8_goBack_24 : decode cX8_goBack 24 = .ok (.ireturn, 1) := by decide +kernel
theorem dX8_goBack_25 : decode cX8_goBack 25 = .ok (.aload_n 0, 1) := by decide +kernel
theorem dX8_goBack_26 : decode cX8_goBack 26 = .ok (.bipush 102, 2) := by decide +kernel
theorem dX8_goBack_28 : decode cX8_goBack 28 = .ok (.bipush 51, 2) := by decide +kernel
theorem dX8_goBack_30 : decode cX8_goBack 30 = .ok (.iload_n 1, 1) := by decide +kernel
theorem dX8_goBack_31 : decode cX8_goBack 31 = .ok (.imul, 1) := by decide +kernel
theorem dX8_goBack_32 : decode cX8_goBack 32 = .ok (.iadd, 1) := by decide +kernel
theorem dX8_goBack_33 : decode cX8_goBack 33 = .ok (.iconst 0, 1) := by decide +kernel
theorem dX8_goBack_34 : decode cX8_goBack 34 = .ok (.invokevirtual 204, 3) := by decide +kernel
theorem dX8_goBack_37 : decode cX8_goBack 37 = .ok (.iconst 1, 1) := by decide +kernel
theorem dX8_goBack_38 : decode cX8_goBack 38 = .ok (.ireturn, 1) := by decide +kernel
end
section
theorem dJ9_abs_0f7a4_0 : decode cJ9_abs_0f7a4 0 = .ok (.iload_n 0, 1) := by decide +kernel
theorem dJ9_abs_0f7a4_1 : decode cJ9_abs_0f7a4 1 = .ok (.ifCond .ge 8, 3) := by decide +kernel
theorem dJ9_abs_0f7a4_4 : decode cJ9_abs_0f7a4 4 = .ok (.iload_n 0, 1) := by decide +kernel
theorem dJ9_abs_0f7a4_5 : decode cJ9_abs_0f7a4 5 = .ok (.ineg, 1) := by decide +kernel
theorem dJ9_abs_0f7a4_6 : decode cJ9_abs_0f7a4 6 = .ok (.goto 4, 3) := by decide +kernel
theorem dJ9_abs_0f7a4_9 : decode cJ9_abs_0f7a4 9 = .ok (.iload_n 0, 1) := by decide +kernel
theorem dJ9_abs_0f7a4_10 : decode cJ9_abs_0f7a4 10 = .ok (.ireturn, 1) := by decide +kernel
theorem dJ9_max_7cf53_0 : decode cJ9_max_7cf53 0 = .ok (.iload_n 0, 1) := by decide +kernel
theorem dJ9_max_7cf53_1 : decode cJ9_max_7cf53 1 = .ok (.iload_n 1, 1) := by decide +kernel
theorem dJ9_max_7cf53_2 : decode cJ9_max_7cf53 2 = .ok (.if_icmp .lt 7, 3) := by decide +kernel
theorem dJ9_max_7cf53_5 : decode cJ9_max_7cf53 5 = .ok (.iload_n 0, 1) := by decide +kernel
theorem dJ9_max_7cf53_6 : decode cJ9_max_7cf53 6 = .ok (.goto 4, 3) := by decide +kernel
theorem dJ9_max_7cf53_9 : decode cJ9_max_7cf53 9 = .ok (.iload_n 1, 1) := by decide +kernel
theorem dJ9_max_7cf53_10 : decode cJ9_max_7cf53 10 = .ok (.ireturn, 1) := by decide +kernel
theorem dJ9_min_7cf53_0 : decode cJ9_min_7cf53 0 = .ok (.iload_n 0, 1) := by decide +kernel
theorem dJ9_min_7cf53_1 : decode cJ9_min_7cf53 1 = .ok (.iload_n 1, 1) := by decide +kernel
theorem dJ9_min_7cf53_2 : decode cJ9_min_7cf53 2 = .ok (.if_icmp .gt 7, 3) := by decide +kernel
theorem dJ9_min_7cf53_5 : decode cJ9_min_7cf53 5 = .ok (.iload_n 0, 1) := by decide +kernel
theorem dJ9_min_7cf53_6 : decode cJ9_min_7cf53 6 = .ok (.goto 4, 3) := by decide +kernel
theorem dJ9_min_7cf53_9 : decode cJ9_min_7cf53 9 = .ok (.iload_n 1, 1) := by decide +kernel
theorem dJ9_min_7cf53_10 : decode cJ9_min_7cf53 10 = .ok (.ireturn, 1) := by decide +kernel
theorem dL_law_0 : decode cL_law 0 = .ok (.new 7, 3) := by decide +kernel
theorem dL_law_3 : decode cL_law 3 = .ok (.dup, 1) := by decide +kernel
theorem dL_law_4 : decode cL_law 4 = .ok (.invokespecial 9, 3) := by decide +kernel
theorem dL_law_7 : decode cL_law 7 = .ok (.astore_n 1, 1) := by decide +kernel
theorem dL_law_8 : decode cL_law 8 = .ok (.new 10, 3) := by decide +kernel
theorem dL_law_11 : decode cL_law 11 = .ok (.dup, 1) := by decide +kernel
theorem dL_law_12 : decode cL_law 12 = .ok (.invokespecial 12, 3) := by decide +kernel
theorem dL_law_15 : decode cL_law 15 = .ok (.astore_n 2, 1) := by decide +kernel
theorem dL_law_16 : decode cL_law 16 = .ok (.iconst 0, 1) := by decide +kernel
theorem dL_law_17 : decode cL_law 17 = .ok (.istore_n 3, 1) := by decide +kernel
theorem dL_law_18 : decode cL_law 18 = .ok (.iload_n 3, 1) := by decide +kernel
theorem dL_law_19 : decode cL_law 19 = .ok (.aload_n 0, 1) := by decide +kernel
theorem dL_law_20 : decode cL_law 20 = .ok (.arraylength, 1) := by decide +kernel
theorem dL_law_21 : decode cL_law 21 = .ok (.bipush 6, 2) := by decide +kernel
theorem dL_law_23 : decode cL_law 23 = .ok (.isub, 1) := by decide +kernel
theorem dL_law_24 : decode cL_law 24 = .ok (.if_icmp .gt 943, 3) := by decide +kernel
theorem dL_law_27 : decode cL_law 27 = .ok (.aload_n 0, 1) := by decide +kernel
theorem dL_law_28 : decode cL_law 28 = .ok (.iload_n 3, 1) := by decide +kernel
theorem dL_law_29 : decode cL_law 29 = .ok (.iaload, 1) := by decide +kernel
theorem dL_law_30 : decode cL_law 30 = .ok (.bipush 31, 2) := by decide +kernel
theorem dL_law_32 : decode cL_law 32 = .ok (.iand, 1) := by decide +kernel
theorem dL_law_33 : decode cL_law 33 = .ok (.tableswitch 928 0 28 #[131, 154, 167, 180, 203, 236, 269, 302, 325, 348, 371, 394, 427, 440, 463, 486, 519, 542, 595, 628, 691, 724, 777, 800, 833, 846, 859, 882, 905], 131) := by decide +kernel
theorem dL_law_164 : decode cL_law 164 = .ok (.aload_n 1, 1) := by decide +kernel
theorem dL_law_165 : decode cL_law 165 = .ok (.aload_n 0, 1) := by decide +kernel
theorem dL_law_166 : decode cL_law 166 = .ok (.iload_n 3, 1) := by decide +kernel
theorem dL_law_167 : decode cL_law 167 = .ok (.iconst 1, 1) := by decide +kernel
theorem dL_law_168 : decode cL_law 168 = .ok (.iadd, 1) := by decide +kernel
theorem dL_law_169 : decode cL_law 169 = .ok (.iaload, 1) := by decide +kernel
theorem dL_law_170 : decode cL_law 170 = .ok (.invokevirtual 13, 3) := by decide +kernel
theorem dL_law_173 : decode cL_law 173 = .ok (.aload_n 2, 1) := by decide +kernel
theorem dL_law_174 : decode cL_law 174 = .ok (.aload_n 0, 1) := by decide +kernel
theorem dL_law_175 : decode cL_law 175 = .ok (.iload_n 3, 1) := by decide +kernel
theorem dL_law_176 : decode cL_law 176 = .ok (.iconst 1, 1) := by decide +kernel
theorem dL_law_177 : decode cL_law 177 = .ok (.iadd, 1) := by decide +kernel
theorem dL_law_178 : decode cL_law 178 = .ok (.iaload, 1) := by decide +kernel
theorem dL_law_179 : decode cL_law 179 = .ok (.invokevirtual 17, 3) := by decide +kernel
theorem dL_law_182 : decode cL_law 182 = .ok (.if_icmp .eq 779, 3) := by decide +kernel
theorem dL_law_185 : decode cL_law 185 = .ok (.iconst 0, 1) := by decide +kernel
theorem dL_law_186 : decode cL_law 186 = .ok (.ireturn, 1) := by decide +kernel
theorem dL_law_187 : decode cL_law 187 = .ok (.aload_n 1, 1) := by decide +kernel
theorem dL_law_188 : decode cL_law 188 = .ok (.invokevirtual 18, 3) := by decide +kernel
theorem dL_law_191 : decode cL_law 191 = .ok (.aload_n 2, 1) := by decide +kernel
theorem dL_law_192 : decode cL_law 192 = .ok (.invokevirtual 22, 3) := by decide +kernel
theorem dL_law_195 : decode cL_law 195 = .ok (.if_icmp .eq 766, 3) := by decide +kernel
theorem dL_law_198 : decode cL_law 198 = .ok (.iconst 0, 1) := by decide +kernel
theorem dL_law_199 : decode cL_law 199 = .ok (.ireturn, 1) := by decide +kernel
theorem dL_law_200 : decode cL_law 200 = .ok (.aload_n 1, 1) := by decide +kernel
theorem dL_law_201 : decode cL_law 201 = .ok (.invokevirtual 23, 3) := by decide +kernel
theorem dL_law_204 : decode cL_law 204 = .ok (.aload_n 2, 1) := by decide +kernel
theorem dL_law_205 : decode cL_law 205 = .ok (.invokevirtual 26, 3) := by decide +kernel
theorem dL_law_208 : decode cL_law 208 = .ok (.if_icmp .eq 753, 3) := by decide +kernel
theorem dL_law_211 : decode cL_law 211 = .ok (.iconst 0, 1) := by decide +kernel
theorem dL_law_212 : decode cL_law 212 = .ok (.ireturn, 1) := by decide +kernel
theorem dL_law_213 : decode cL_law 213 = .ok (.aload_n 1, 1) := by decide +kernel
theorem dL_law_214 : decode cL_law 214 = .ok (.aload_n 0, 1) := by decide +kernel
theorem dL_law_215 : decode cL_law 215 = .ok (.iload_n 3, 1) := by decide +kernel
theorem dL_law_216 : decode cL_law 216 = .ok (.iconst 1, 1) := by decide +kernel
theorem dL_law_217 : decode cL_law 217 = .ok (.iadd, 1) := by decide +kernel
theorem dL_law_218 : decode cL_law 218 = .ok (.iaload, 1) := by decide +kernel
theorem dL_law_219 : decode cL_law 219 = .ok (.invokevirtual 27, 3) := by decide +kernel
theorem dL_law_222 : decode cL_law 222 = .ok (.aload_n 2, 1) := by decide +kernel
theorem dL_law_223 : decode cL_law 223 = .ok (.aload_n 0, 1) := by decide +kernel
theorem dL_law_224 : decode cL_law 224 = .ok (.iload_n 3, 1) := by decide +kernel
theorem dL_law_225 : decode cL_law 225 = .ok (.iconst 1, 1) := by decide +kernel
theorem dL_law_226 : decode cL_law 226 = .ok (.iadd, 1) := by decide +kernel
theorem dL_law_227 : decode cL_law 227 = .ok (.iaload, 1) := by decide +kernel
theorem dL_law_228 : decode cL_law 228 = .ok (.invokevirtual 30, 3) := by decide +kernel
theorem dL_law_231 : decode cL_law 231 = .ok (.if_icmp .eq 730, 3) := by decide +kernel
theorem dL_law_234 : decode cL_law 234 = .ok (.iconst 0, 1) := by decide +kernel
theorem dL_law_235 : decode cL_law 235 = .ok (.ireturn, 1) := by decide +kernel
theorem dL_law_236 : decode cL_law 236 = .ok (.aload_n 1, 1) := by decide +kernel
theorem dL_law_237 : decode cL_law 237 = .ok (.aload_n 0, 1) := by decide +kernel
theorem dL_law_238 : decode cL_law 238 = .ok (.iload_n 3, 1) := by decide +kernel
theorem dL_law_239 : decode cL_law 239 = .ok (.iconst 1, 1) := by decide +kernel
theorem dL_law_240 : decode cL_law 240 = .ok (.iadd, 1) := by decide +kernel
theorem dL_law_241 : decode cL_law 241 = .ok (.iaload, 1) := by decide +kernel
theorem dL_law_242 : decode cL_law 242 = .ok (.aload_n 0, 1) := by decide +kernel
theorem dL_law_243 : decode cL_law 243 = .ok (.iload_n 3, 1) := by decide +kernel
theorem dL_law_244 : decode cL_law 244 = .ok (.iconst 2, 1) := by decide +kernel
theorem dL_law_245 : decode cL_law 245 = .ok (.iadd, 1) := by decide +kernel
theorem dL_law_246 : decode cL_law 246 = .ok (.iaload, 1) := by decide +kernel
theorem dL_law_247 : decode cL_law 247 = .ok (.invokevirtual 31, 3) := by decide +kernel
theorem dL_law_250 : decode cL_law 250 = .ok (.aload_n 2, 1) := by decide +kernel
theorem dL_law_251 : decode cL_law 251 = .ok (.aload_n 0, 1) := by decide +kernel
theorem dL_law_252 : decode cL_law 252 = .ok (.iload_n 3, 1) := by decide +kernel
theorem dL_law_253 : decode cL_law 253 = .ok (.iconst 1, 1) := by decide +kernel
theorem dL_law_254 : decode cL_law 254 = .ok (.iadd, 1) := by decide +kernel
theorem dL_law_255 : decode cL_law 255 = .ok (.iaload, 1) := by decide +kernel
theorem dL_law_256 : decode cL_law 256 = .ok (.aload_n 0, 1) := by decide +kernel
theorem dL_law_257 : decode cL_law 257 = .ok (.iload_n 3, 1) := by decide +kernel
theorem dL_law_258 : decode cL_law 258 = .ok (.iconst 2, 1) := by decide +kernel
theorem dL_law_259 : decode cL_law 259 = .ok (.iadd, 1) := by decide +kernel
theorem dL_law_260 : decode cL_law 260 = .ok (.iaload, 1) := by decide +kernel
theorem dL_law_261 : decode cL_law 261 = .ok (.invokevirtual 35, 3) := by decide +kernel
theorem dL_law_264 : decode cL_law 264 = .ok (.if_icmp .eq 697, 3) := by decide +kernel
theorem dL_law_267 : decode cL_law 267 = .ok (.iconst 0, 1) := by decide +kernel
theorem dL_law_268 : decode cL_law 268 = .ok (.ireturn, 1) := by decide +kernel
theorem dL_law_269 : decode cL_law 269 = .ok (.aload_n 1, 1) := by decide +kernel
theorem dL_law_270 : decode cL_law 270 = .ok (.aload_n 0, 1) := by decide +kernel
theorem dL_law_271 : decode cL_law 271 = .ok (.iload_n 3, 1) := by decide +kernel
theorem dL_law_272 : decode cL_law 272 = .ok (.iconst 1, 1) := by decide +kernel
theorem dL_law_273 : decode cL_law 273 = .ok (.iadd, 1) := by decide +kernel
theorem dL_law_274 : decode cL_law 274 = .ok (.iaload, 1) := by decide +kernel
theorem dL_law_275 : decode cL_law 275 = .ok (.aload_n 0, 1) := by decide +kernel
theorem dL_law_276 : decode cL_law 276 = .ok (.iload_n 3, 1) := by decide +kernel
theorem dL_law_277 : decode cL_law 277 = .ok (.iconst 2, 1) := by decide +kernel
theorem dL_law_278 : decode cL_law 278 = .ok (.iadd, 1) := by decide +kernel
theorem dL_law_279 : decode cL_law 279 = .ok (.iaload, 1) := by decide +kernel
theorem dL_law_280 : decode cL_law 280 = .ok (.invokevirtual 36, 3) := by decide +kernel
theorem dL_law_283 : decode cL_law 283 = .ok (.aload_n 2, 1) := by decide +kernel
theorem dL_law_284 : decode cL_law 284 = .ok (.aload_n 0, 1) := by decide +kernel
theorem dL_law_285 : decode cL_law 285 = .ok (.iload_n 3, 1) := by decide +kernel
theorem dL_law_286 : decode cL_law 286 = .ok (.iconst 1, 1) := by decide +kernel
theorem dL_law_287 : decode cL_law 287 = .ok (.iadd, 1) := by decide +kernel
theorem dL_law_288 : decode cL_law 288 = .ok (.iaload, 1) := by decide +kernel
theorem dL_law_289 : decode cL_law 289 = .ok (.aload_n 0, 1) := by decide +kernel
theorem dL_law_290 : decode cL_law 290 = .ok (.iload_n 3, 1) := by decide +kernel
theorem dL_law_291 : decode cL_law 291 = .ok (.iconst 2, 1) := by decide +kernel
theorem dL_law_292 : decode cL_law 292 = .ok (.iadd, 1) := by decide +kernel
theorem dL_law_293 : decode cL_law 293 = .ok (.iaload, 1) := by decide +kernel
theorem dL_law_294 : decode cL_law 294 = .ok (.invokevirtual 39, 3) := by decide +kernel
theorem dL_law_297 : decode cL_law 297 = .ok (.if_icmp .eq 664, 3) := by decide +kernel
theorem dL_law_300 : decode cL_law 300 = .ok (.iconst 0, 1) := by decide +kernel
theorem dL_law_301 : decode cL_law 301 = .ok (.ireturn, 1) := by decide +kernel
theorem dL_law_302 : decode cL_law 302 = .ok (.aload_n 1, 1) := by decide +kernel
theorem dL_law_303 : decode cL_law 303 = .ok (.aload_n 0, 1) := by decide +kernel
theorem dL_law_304 : decode cL_law 304 = .ok (.iload_n 3, 1) := by decide +kernel
theorem dL_law_305 : decode cL_law 305 = .ok (.iconst 1, 1) := by decide +kernel
theorem dL_law_306 : decode cL_law 306 = .ok (.iadd, 1) := by decide +kernel
theorem dL_law_307 : decode cL_law 307 = .ok (.iaload, 1) := by decide +kernel
theorem dL_law_308 : decode cL_law 308 = .ok (.aload_n 0, 1) := by decide +kernel
theorem dL_law_309 : decode cL_law 309 = .ok (.iload_n 3, 1) := by decide +kernel
theorem dL_law_310 : decode cL_law 310 = .ok (.iconst 2, 1) := by decide +kernel
theorem dL_law_311 : decode cL_law 311 = .ok (.iadd, 1) := by decide +kernel
theorem dL_law_312 : decode cL_law 312 = .ok (.iaload, 1) := by decide +kernel
theorem dL_law_313 : decode cL_law 313 = .ok (.invokevirtual 40, 3) := by decide +kernel
theorem dL_law_316 : decode cL_law 316 = .ok (.aload_n 2, 1) := by decide +kernel
theorem dL_law_317 : decode cL_law 317 = .ok (.aload_n 0, 1) := by decide +kernel
theorem dL_law_318 : decode cL_law 318 = .ok (.iload_n 3, 1) := by decide +kernel
theorem dL_law_319 : decode cL_law 319 = .ok (.iconst 1, 1) := by decide +kernel
theorem dL_law_320 : decode cL_law 320 = .ok (.iadd, 1) := by decide +kernel
theorem dL_law_321 : decode cL_law 321 = .ok (.iaload, 1) := by decide +kernel
theorem dL_law_322 : decode cL_law 322 = .ok (.aload_n 0, 1) := by decide +kernel
theorem dL_law_323 : decode cL_law 323 = .ok (.iload_n 3, 1) := by decide +kernel
theorem dL_law_324 : decode cL_law 324 = .ok (.iconst 2, 1) := by decide +kernel
theorem dL_law_325 : decode cL_law 325 = .ok (.iadd, 1) := by decide +kernel
theorem dL_law_326 : decode cL_law 326 = .ok (.iaload, 1) := by decide +kernel
theorem dL_law_327 : decode cL_law 327 = .ok (.invokevirtual 43, 3) := by decide +kernel
theorem dL_law_330 : decode cL_law 330 = .ok (.if_icmp .eq 631, 3) := by decide +kernel
theorem dL_law_333 : decode cL_law 333 = .ok (.iconst 0, 1) := by decide +kernel
theorem dL_law_334 : decode cL_law 334 = .ok (.ireturn, 1) := by decide +kernel
theorem dL_law_335 : decode cL_law 335 = .ok (.aload_n 1, 1) := by decide +kernel
theorem dL_law_336 : decode cL_law 336 = .ok (.aload_n 0, 1) := by decide +kernel
theorem dL_law_337 : decode cL_law 337 = .ok (.iload_n 3, 1) := by decide +kernel
theorem dL_law_338 : decode cL_law 338 = .ok (.iconst 1, 1) := by decide +kernel
theorem dL_law_339 : decode cL_law 339 = .ok (.iadd, 1) := by decide +kernel
theorem dL_law_340 : decode cL_law 340 = .ok (.iaload, 1) := by decide +kernel
theorem dL_law_341 : decode cL_law 341 = .ok (.invokevirtual 44, 3) := by decide +kernel
theorem dL_law_344 : decode cL_law 344 = .ok (.aload_n 2, 1) := by decide +kernel
theorem dL_law_345 : decode cL_law 345 = .ok (.aload_n 0, 1) := by decide +kernel
theorem dL_law_346 : decode cL_law 346 = .ok (.iload_n 3, 1) := by decide +kernel
theorem dL_law_347 : decode cL_law 347 = .ok (.iconst 1, 1) := by decide +kernel
theorem dL_law_348 : decode cL_law 348 = .ok (.iadd, 1) := by decide +kernel
theorem dL_law_349 : decode cL_law 349 = .ok (.iaload, 1) := by decide +kernel
theorem dL_law_350 : decode cL_law 350 = .ok (.invokevirtual 47, 3) := by decide +kernel
theorem dL_law_353 : decode cL_law 353 = .ok (.if_icmp .eq 608, 3) := by decide +kernel
theorem dL_law_356 : decode cL_law 356 = .ok (.iconst 0, 1) := by decide +kernel
theorem dL_law_357 : decode cL_law 357 = .ok (.ireturn, 1) := by decide +kernel
theorem dL_law_358 : decode cL_law 358 = .ok (.aload_n 1, 1) := by decide +kernel
theorem dL_law_359 : decode cL_law 359 = .ok (.aload_n 0, 1) := by decide +kernel
theorem dL_law_360 : decode cL_law 360 = .ok (.iload_n 3, 1) := by decide +kernel
theorem dL_law_361 : decode cL_law 361 = .ok (.iconst 1, 1) := by decide +kernel
theorem dL_law_362 : decode cL_law 362 = .ok (.iadd, 1) := by decide +kernel
theorem dL_law_363 : decode cL_law 363 = .ok (.iaload, 1) := by decide +kernel
theorem dL_law_364 : decode cL_law 364 = .ok (.invokevirtual 48, 3) := by decide +kernel
theorem dL_law_367 : decode cL_law 367 = .ok (.aload_n 2, 1) := by decide +kernel
theorem dL_law_368 : decode cL_law 368 = .ok (.aload_n 0, 1) := by decide +kernel
theorem dL_law_369 : decode cL_law 369 = .ok (.iload_n 3, 1) := by decide +kernel
theorem dL_law_370 : decode cL_law 370 = .ok (.iconst 1, 1) := by decide +kernel
theorem dL_law_371 : decode cL_law 371 = .ok (.iadd, 1) := by decide +kernel
theorem dL_law_372 : decode cL_law 372 = .ok (.iaload, 1) := by decide +kernel
theorem dL_law_373 : decode cL_law 373 = .ok (.invokevirtual 51, 3) := by decide +kernel
theorem dL_law_376 : decode cL_law 376 = .ok (.if_icmp .eq 585, 3) := by decide +kernel
theorem dL_law_379 : decode cL_law 379 = .ok (.iconst 0, 1) := by decide +kernel
theorem dL_law_380 : decode cL_law 380 = .ok (.ireturn, 1) := by decide +kernel
theorem dL_law_381 : decode cL_law 381 = .ok (.aload_n 1, 1) := by decide +kernel
theorem dL_law_382 : decode cL_law 382 = .ok (.aload_n 0, 1) := by decide +kernel
theorem dL_law_383 : decode cL_law 383 = .ok (.iload_n 3, 1) := by decide +kernel
theorem dL_law_384 : decode cL_law 384 = .ok (.iconst 1, 1) := by decide +kernel
theorem dL_law_385 : decode cL_law 385 = .ok (.iadd, 1) := by decide +kernel
theorem dL_law_386 : decode cL_law 386 = .ok (.iaload, 1) := by decide +kernel
theorem dL_law_387 : decode cL_law 387 = .ok (.invokevirtual 52, 3) := by decide +kernel
theorem dL_law_390 : decode cL_law 390 = .ok (.aload_n 2, 1) := by decide +kernel
theorem dL_law_391 : decode cL_law 391 = .ok (.aload_n 0, 1) := by decide +kernel
theorem dL_law_392 : decode cL_law 392 = .ok (.iload_n 3, 1) := by decide +kernel
theorem dL_law_393 : decode cL_law 393 = .ok (.iconst 1, 1) := by decide +kernel
theorem dL_law_394 : decode cL_law 394 = .ok (.iadd, 1) := by decide +kernel
theorem dL_law_395 : decode cL_law 395 = .ok (.iaload, 1) := by decide +kernel
theorem dL_law_396 : decode cL_law 396 = .ok (.invokevirtual 55, 3) := by decide +kernel
theorem dL_law_399 : decode cL_law 399 = .ok (.if_icmp .eq 562, 3) := by decide +kernel
theorem dL_law_402 : decode cL_law 402 = .ok (.iconst 0, 1) := by decide +kernel
theorem dL_law_403 : decode cL_law 403 = .ok (.ireturn, 1) := by decide +kernel
theorem dL_law_404 : decode cL_law 404 = .ok (.aload_n 1, 1) := by decide +kernel
theorem dL_law_405 : decode cL_law 405 = .ok (.aload_n 0, 1) := by decide +kernel
theorem dL_law_406 : decode cL_law 406 = .ok (.iload_n 3, 1) := by decide +kernel
theorem dL_law_407 : decode cL_law 407 = .ok (.iconst 1, 1) := by decide +kernel
theorem dL_law_408 : decode cL_law 408 = .ok (.iadd, 1) := by decide +kernel
theorem dL_law_409 : decode cL_law 409 = .ok (.iaload, 1) := by decide +kernel
theorem dL_law_410 : decode cL_law 410 = .ok (.invokevirtual 56, 3) := by decide +kernel
theorem dL_law_413 : decode cL_law 413 = .ok (.aload_n 2, 1) := by decide +kernel
theorem dL_law_414 : decode cL_law 414 = .ok (.aload_n 0, 1) := by decide +kernel
theorem dL_law_415 : decode cL_law 415 = .ok (.iload_n 3, 1) := by decide +kernel
theorem dL_law_416 : decode cL_law 416 = .ok (.iconst 1, 1) := by decide +kernel
theorem dL_law_417 : decode cL_law 417 = .ok (.iadd, 1) := by decide +kernel
theorem dL_law_418 : decode cL_law 418 = .ok (.iaload, 1) := by decide +kernel
theorem dL_law_419 : decode cL_law 419 = .ok (.invokevirtual 59, 3) := by decide +kernel
theorem dL_law_422 : decode cL_law 422 = .ok (.if_icmp .eq 539, 3) := by decide +kernel
theorem dL_law_425 : decode cL_law 425 = .ok (.iconst 0, 1) := by decide +kernel
theorem dL_law_426 : decode cL_law 426 = .ok (.ireturn, 1) := by decide +kernel
theorem dL_law_427 : decode cL_law 427 = .ok (.aload_n 1, 1) := by decide +kernel
theorem dL_law_428 : decode cL_law 428 = .ok (.aload_n 0, 1) := by decide +kernel
theorem dL_law_429 : decode cL_law 429 = .ok (.iload_n 3, 1) := by decide +kernel
theorem dL_law_430 : decode cL_law 430 = .ok (.iconst 1, 1) := by decide +kernel
theorem dL_law_431 : decode cL_law 431 = .ok (.iadd, 1) := by decide +kernel
theorem dL_law_432 : decode cL_law 432 = .ok (.iaload, 1) := by decide +kernel
theorem dL_law_433 : decode cL_law 433 = .ok (.aload_n 0, 1) := by decide +kernel
theorem dL_law_434 : decode cL_law 434 = .ok (.iload_n 3, 1) := by decide +kernel
theorem dL_law_435 : decode cL_law 435 = .ok (.iconst 2, 1) := by decide +kernel
theorem dL_law_436 : decode cL_law 436 = .ok (.iadd, 1) := by decide +kernel
theorem dL_law_437 : decode cL_law 437 = .ok (.iaload, 1) := by decide +kernel
theorem dL_law_438 : decode cL_law 438 = .ok (.invokevirtual 60, 3) := by decide +kernel
theorem dL_law_441 : decode cL_law 441 = .ok (.aload_n 2, 1) := by decide +kernel
theorem dL_law_442 : decode cL_law 442 = .ok (.aload_n 0, 1) := by decide +kernel
theorem dL_law_443 : decode cL_law 443 = .ok (.iload_n 3, 1) := by decide +kernel
theorem dL_law_444 : decode cL_law 444 = .ok (.iconst 1, 1) := by decide +kernel
theorem dL_law_445 : decode cL_law 445 = .ok (.iadd, 1) := by decide +kernel
theorem dL_law_446 : decode cL_law 446 = .ok (.iaload, 1) := by decide +kernel
theorem dL_law_447 : decode cL_law 447 = .ok (.aload_n 0, 1) := by decide +kernel
theorem dL_law_448 : decode cL_law 448 = .ok (.iload_n 3, 1) := by decide +kernel
theorem dL_law_449 : decode cL_law 449 = .ok (.iconst 2, 1) := by decide +kernel
theorem dL_law_450 : decode cL_law 450 = .ok (.iadd, 1) := by decide +kernel
theorem dL_law_451 : decode cL_law 451 = .ok (.iaload, 1) := by decide +kernel
theorem dL_law_452 : decode cL_law 452 = .ok (.invokevirtual 63, 3) := by decide +kernel
theorem dL_law_455 : decode cL_law 455 = .ok (.if_icmp .eq 506, 3) := by decide +kernel
theorem dL_law_458 : decode cL_law 458 = .ok (.iconst 0, 1) := by decide +kernel
theorem dL_law_459 : decode cL_law 459 = .ok (.ireturn, 1) := by decide +kernel
theorem dL_law_460 : decode cL_law 460 = .ok (.aload_n 1, 1) := by decide +kernel
theorem dL_law_461 : decode cL_law 461 = .ok (.invokevirtual 64, 3) := by decide +kernel
theorem dL_law_464 : decode cL_law 464 = .ok (.aload_n 2, 1) := by decide +kernel
theorem dL_law_465 : decode cL_law 465 = .ok (.invokevirtual 67, 3) := by decide +kernel
theorem dL_law_468 : decode cL_law 468 = .ok (.if_icmp .eq 493, 3) := by decide +kernel
theorem dL_law_471 : decode cL_law 471 = .ok (.iconst 0, 1) := by decide +kernel
theorem dL_law_472 : decode cL_law 472 = .ok (.ireturn, 1) := by decide +kernel
theorem dL_law_473 : decode cL_law 473 = .ok (.aload_n 1, 1) := by decide +kernel
theorem dL_law_474 : decode cL_law 474 = .ok (.aload_n 0, 1) := by decide +kernel
theorem dL_law_475 : decode cL_law 475 = .ok (.iload_n 3, 1) := by decide +kernel
theorem dL_law_476 : decode cL_law 476 = .ok (.iconst 1, 1) := by decide +kernel
theorem dL_law_477 : decode cL_law 477 = .ok (.iadd, 1) := by decide +kernel
theorem dL_law_478 : decode cL_law 478 = .ok (.iaload, 1) := by decide +kernel
theorem dL_law_479 : decode cL_law 479 = .ok (.invokevirtual 68, 3) := by decide +kernel
theorem dL_law_482 : decode cL_law 482 = .ok (.aload_n 2, 1) := by decide +kernel
theorem dL_law_483 : decode cL_law 483 = .ok (.aload_n 0, 1) := by decide +kernel
theorem dL_law_484 : decode cL_law 484 = .ok (.iload_n 3, 1) := by decide +kernel
theorem dL_law_485 : decode cL_law 485 = .ok (.iconst 1, 1) := by decide +kernel
theorem dL_law_486 : decode cL_law 486 = .ok (.iadd, 1) := by decide +kernel
theorem dL_law_487 : decode cL_law 487 = .ok (.iaload, 1) := by decide +kernel
theorem dL_law_488 : decode cL_law 488 = .ok (.invokevirtual 71, 3) := by decide +kernel
theorem dL_law_491 : decode cL_law 491 = .ok (.if_icmp .eq 470, 3) := by decide +kernel
theorem dL_law_494 : decode cL_law 494 = .ok (.iconst 0, 1) := by decide +kernel
theorem dL_law_495 : decode cL_law 495 = .ok (.ireturn, 1) := by decide +kernel
theorem dL_law_496 : decode cL_law 496 = .ok (.aload_n 1, 1) := by decide +kernel
theorem dL_law_497 : decode cL_law 497 = .ok (.aload_n 0, 1) := by decide +kernel
theorem dL_law_498 : decode cL_law 498 = .ok (.iload_n 3, 1) := by decide +kernel
theorem dL_law_499 : decode cL_law 499 = .ok (.iconst 1, 1) := by decide +kernel
theorem dL_law_500 : decode cL_law 500 = .ok (.iadd, 1) := by decide +kernel
theorem dL_law_501 : decode cL_law 501 = .ok (.iaload, 1) := by decide +kernel
theorem dL_law_502 : decode cL_law 502 = .ok (.invokevirtual 72, 3) := by decide +kernel
theorem dL_law_505 : decode cL_law 505 = .ok (.aload_n 2, 1) := by decide +kernel
theorem dL_law_506 : decode cL_law 506 = .ok (.aload_n 0, 1) := by decide +kernel
theorem dL_law_507 : decode cL_law 507 = .ok (.iload_n 3, 1) := by decide +kernel
theorem dL_law_508 : decode cL_law 508 = .ok (.iconst 1, 1) := by decide +kernel
theorem dL_law_509 : decode cL_law 509 = .ok (.iadd, 1) := by decide +kernel
theorem dL_law_510 : decode cL_law 510 = .ok (.iaload, 1) := by decide +kernel
theorem dL_law_511 : decode cL_law 511 = .ok (.invokevirtual 75, 3) := by decide +kernel
theorem dL_law_514 : decode cL_law 514 = .ok (.if_icmp .eq 447, 3) := by decide +kernel
theorem dL_law_517 : decode cL_law 517 = .ok (.iconst 0, 1) := by decide +kernel
theorem dL_law_518 : decode cL_law 518 = .ok (.ireturn, 1) := by decide +kernel
theorem dL_law_519 : decode cL_law 519 = .ok (.aload_n 1, 1) := by decide +kernel
theorem dL_law_520 : decode cL_law 520 = .ok (.aload_n 0, 1) := by decide +kernel
theorem dL_law_521 : decode cL_law 521 = .ok (.iload_n 3, 1) := by decide +kernel
theorem dL_law_522 : decode cL_law 522 = .ok (.iconst 1, 1) := by decide +kernel
theorem dL_law_523 : decode cL_law 523 = .ok (.iadd, 1) := by decide +kernel
theorem dL_law_524 : decode cL_law 524 = .ok (.iaload, 1) := by decide +kernel
theorem dL_law_525 : decode cL_law 525 = .ok (.aload_n 0, 1) := by decide +kernel
theorem dL_law_526 : decode cL_law 526 = .ok (.iload_n 3, 1) := by decide +kernel
theorem dL_law_527 : decode cL_law 527 = .ok (.iconst 2, 1) := by decide +kernel
theorem dL_law_528 : decode cL_law 528 = .ok (.iadd, 1) := by decide +kernel
theorem dL_law_529 : decode cL_law 529 = .ok (.iaload, 1) := by decide +kernel
theorem dL_law_530 : decode cL_law 530 = .ok (.invokevirtual 76, 3) := by decide +kernel
theorem dL_law_533 : decode cL_law 533 = .ok (.aload_n 2, 1) := by decide +kernel
theorem dL_law_534 : decode cL_law 534 = .ok (.aload_n 0, 1) := by decide +kernel
theorem dL_law_535 : decode cL_law 535 = .ok (.iload_n 3, 1) := by decide +kernel
theorem dL_law_536 : decode cL_law 536 = .ok (.iconst 1, 1) := by decide +kernel
theorem dL_law_537 : decode cL_law 537 = .ok (.iadd, 1) := by decide +kernel
theorem dL_law_538 : decode cL_law 538 = .ok (.iaload, 1) := by decide +kernel
theorem dL_law_539 : decode cL_law 539 = .ok (.aload_n 0, 1) := by decide +kernel
theorem dL_law_540 : decode cL_law 540 = .ok (.iload_n 3, 1) := by decide +kernel
theorem dL_law_541 : decode cL_law 541 = .ok (.iconst 2, 1) := by decide +kernel
theorem dL_law_542 : decode cL_law 542 = .ok (.iadd, 1) := by decide +kernel
theorem dL_law_543 : decode cL_law 543 = .ok (.iaload, 1) := by decide +kernel
theorem dL_law_544 : decode cL_law 544 = .ok (.invokevirtual 79, 3) := by decide +kernel
theorem dL_law_547 : decode cL_law 547 = .ok (.if_icmp .eq 414, 3) := by decide +kernel
theorem dL_law_550 : decode cL_law 550 = .ok (.iconst 0, 1) := by decide +kernel
theorem dL_law_551 : decode cL_law 551 = .ok (.ireturn, 1) := by decide +kernel
theorem dL_law_552 : decode cL_law 552 = .ok (.aload_n 1, 1) := by decide +kernel
theorem dL_law_553 : decode cL_law 553 = .ok (.aload_n 0, 1) := by decide +kernel
theorem dL_law_554 : decode cL_law 554 = .ok (.iload_n 3, 1) := by decide +kernel
theorem dL_law_555 : decode cL_law 555 = .ok (.iconst 1, 1) := by decide +kernel
theorem dL_law_556 : decode cL_law 556 = .ok (.iadd, 1) := by decide +kernel
theorem dL_law_557 : decode cL_law 557 = .ok (.iaload, 1) := by decide +kernel
theorem dL_law_558 : decode cL_law 558 = .ok (.invokevirtual 80, 3) := by decide +kernel
theorem dL_law_561 : decode cL_law 561 = .ok (.aload_n 2, 1) := by decide +kernel
theorem dL_law_562 : decode cL_law 562 = .ok (.aload_n 0, 1) := by decide +kernel
theorem dL_law_563 : decode cL_law 563 = .ok (.iload_n 3, 1) := by decide +kernel
theorem dL_law_564 : decode cL_law 564 = .ok (.iconst 1, 1) := by decide +kernel
theorem dL_law_565 : decode cL_law 565 = .ok (.iadd, 1) := by decide +kernel
theorem dL_law_566 : decode cL_law 566 = .ok (.iaload, 1) := by decide +kernel
theorem dL_law_567 : decode cL_law 567 = .ok (.invokevirtual 83, 3) := by decide +kernel
theorem dL_law_570 : decode cL_law 570 = .ok (.if_icmp .eq 391, 3) := by decide +kernel
theorem dL_law_573 : decode cL_law 573 = .ok (.iconst 0, 1) := by decide +kernel
theorem dL_law_574 : decode cL_law 574 = .ok (.ireturn, 1) := by decide +kernel
theorem dL_law_575 : decode cL_law 575 = .ok (.aload_n 1, 1) := by decide +kernel
theorem dL_law_576 : decode cL_law 576 = .ok (.aload_n 0, 1) := by decide +kernel
theorem dL_law_577 : decode cL_law 577 = .ok (.iload_n 3, 1) := by decide +kernel
theorem dL_law_578 : decode cL_law 578 = .ok (.iconst 1, 1) := by decide +kernel
theorem dL_law_579 : decode cL_law 579 = .ok (.iadd, 1) := by decide +kernel
theorem dL_law_580 : decode cL_law 580 = .ok (.iaload, 1) := by decide +kernel
theorem dL_law_581 : decode cL_law 581 = .ok (.aload_n 0, 1) := by decide +kernel
theorem dL_law_582 : decode cL_law 582 = .ok (.iload_n 3, 1) := by decide +kernel
theorem dL_law_583 : decode cL_law 583 = .ok (.iconst 2, 1) := by decide +kernel
theorem dL_law_584 : decode cL_law 584 = .ok (.iadd, 1) := by decide +kernel
theorem dL_law_585 : decode cL_law 585 = .ok (.iaload, 1) := by decide +kernel
theorem dL_law_586 : decode cL_law 586 = .ok (.aload_n 0, 1) := by decide +kernel
theorem dL_law_587 : decode cL_law 587 = .ok (.iload_n 3, 1) := by decide +kernel
theorem dL_law_588 : decode cL_law 588 = .ok (.iconst 3, 1) := by decide +kernel
theorem dL_law_589 : decode cL_law 589 = .ok (.iadd, 1) := by decide +kernel
theorem dL_law_590 : decode cL_law 590 = .ok (.iaload, 1) := by decide +kernel
theorem dL_law_591 : decode cL_law 591 = .ok (.aload_n 0, 1) := by decide +kernel
theorem dL_law_592 : decode cL_law 592 = .ok (.iload_n 3, 1) := by decide +kernel
theorem dL_law_593 : decode cL_law 593 = .ok (.iconst 4, 1) := by decide +kernel
theorem dL_law_594 : decode cL_law 594 = .ok (.iadd, 1) := by decide +kernel
theorem dL_law_595 : decode cL_law 595 = .ok (.iaload, 1) := by decide +kernel
theorem dL_law_596 : decode cL_law 596 = .ok (.invokevirtual 84, 3) := by decide +kernel
theorem dL_law_599 : decode cL_law 599 = .ok (.aload_n 2, 1) := by decide +kernel
theorem dL_law_600 : decode cL_law 600 = .ok (.aload_n 0, 1) := by decide +kernel
theorem dL_law_601 : decode cL_law 601 = .ok (.iload_n 3, 1) := by decide +kernel
theorem dL_law_602 : decode cL_law 602 = .ok (.iconst 1, 1) := by decide +kernel
theorem dL_law_603 : decode cL_law 603 = .ok (.iadd, 1) := by decide +kernel
theorem dL_law_604 : decode cL_law 604 = .ok (.iaload, 1) := by decide +kernel
theorem dL_law_605 : decode cL_law 605 = .ok (.aload_n 0, 1) := by decide +kernel
theorem dL_law_606 : decode cL_law 606 = .ok (.iload_n 3, 1) := by decide +kernel
theorem dL_law_607 : decode cL_law 607 = .ok (.iconst 2, 1) := by decide +kernel
theorem dL_law_608 : decode cL_law 608 = .ok (.iadd, 1) := by decide +kernel
theorem dL_law_609 : decode cL_law 609 = .ok (.iaload, 1) := by decide +kernel
theorem dL_law_610 : decode cL_law 610 = .ok (.aload_n 0, 1) := by decide +kernel
theorem dL_law_611 : decode cL_law 611 = .ok (.iload_n 3, 1) := by decide +kernel
theorem dL_law_612 : decode cL_law 612 = .ok (.iconst 3, 1) := by decide +kernel
theorem dL_law_613 : decode cL_law 613 = .ok (.iadd, 1) := by decide +kernel
theorem dL_law_614 : decode cL_law 614 = .ok (.iaload, 1) := by decide +kernel
theorem dL_law_615 : decode cL_law 615 = .ok (.aload_n 0, 1) := by decide +kernel
theorem dL_law_616 : decode cL_law 616 = .ok (.iload_n 3, 1) := by decide +kernel
theorem dL_law_617 : decode cL_law 617 = .ok (.iconst 4, 1) := by decide +kernel
theorem dL_law_618 : decode cL_law 618 = .ok (.iadd, 1) := by decide +kernel
theorem dL_law_619 : decode cL_law 619 = .ok (.iaload, 1) := by decide +kernel
theorem dL_law_620 : decode cL_law 620 = .ok (.invokevirtual 88, 3) := by decide +kernel
theorem dL_law_623 : decode cL_law 623 = .ok (.if_icmp .eq 338, 3) := by decide +kernel
theorem dL_law_626 : decode cL_law 626 = .ok (.iconst 0, 1) := by decide +kernel
theorem dL_law_627 : decode cL_law 627 = .ok (.ireturn, 1) := by decide +kernel
theorem dL_law_628 : decode cL_law 628 = .ok (.aload_n 1, 1) := by decide +kernel
theorem dL_law_629 : decode cL_law 629 = .ok (.aload_n 0, 1) := by decide +kernel
theorem dL_law_630 : decode cL_law 630 = .ok (.iload_n 3, 1) := by decide +kernel
theorem dL_law_631 : decode cL_law 631 = .ok (.iconst 1, 1) := by decide +kernel
theorem dL_law_632 : decode cL_law 632 = .ok (.iadd, 1) := by decide +kernel
theorem dL_law_633 : decode cL_law 633 = .ok (.iaload, 1) := by decide +kernel
theorem dL_law_634 : decode cL_law 634 = .ok (.aload_n 0, 1) := by decide +kernel
theorem dL_law_635 : decode cL_law 635 = .ok (.iload_n 3, 1) := by decide +kernel
theorem dL_law_636 : decode cL_law 636 = .ok (.iconst 2, 1) := by decide +kernel
theorem dL_law_637 : decode cL_law 637 = .ok (.iadd, 1) := by decide +kernel
theorem dL_law_638 : decode cL_law 638 = .ok (.iaload, 1) := by decide +kernel
theorem dL_law_639 : decode cL_law 639 = .ok (.invokevirtual 89, 3) := by decide +kernel
theorem dL_law_642 : decode cL_law 642 = .ok (.aload_n 2, 1) := by decide +kernel
theorem dL_law_643 : decode cL_law 643 = .ok (.aload_n 0, 1) := by decide +kernel
theorem dL_law_644 : decode cL_law 644 = .ok (.iload_n 3, 1) := by decide +kernel
theorem dL_law_645 : decode cL_law 645 = .ok (.iconst 1, 1) := by decide +kernel
theorem dL_law_646 : decode cL_law 646 = .ok (.iadd, 1) := by decide +kernel
theorem dL_law_647 : decode cL_law 647 = .ok (.iaload, 1) := by decide +kernel
theorem dL_law_648 : decode cL_law 648 = .ok (.aload_n 0, 1) := by decide +kernel
theorem dL_law_649 : decode cL_law 649 = .ok (.iload_n 3, 1) := by decide +kernel
theorem dL_law_650 : decode cL_law 650 = .ok (.iconst 2, 1) := by decide +kernel
theorem dL_law_651 : decode cL_law 651 = .ok (.iadd, 1) := by decide +kernel
theorem dL_law_652 : decode cL_law 652 = .ok (.iaload, 1) := by decide +kernel
theorem dL_law_653 : decode cL_law 653 = .ok (.invokevirtual 92, 3) := by decide +kernel
theorem dL_law_656 : decode cL_law 656 = .ok (.if_icmp .eq 305, 3) := by decide +kernel
theorem dL_law_659 : decode cL_law 659 = .ok (.iconst 0, 1) := by decide +kernel
theorem dL_law_660 : decode cL_law 660 = .ok (.ireturn, 1) := by decide +kernel
theorem dL_law_661 : decode cL_law 661 = .ok (.aload_n 1, 1) := by decide +kernel
theorem dL_law_662 : decode cL_law 662 = .ok (.aload_n 0, 1) := by decide +kernel
theorem dL_law_663 : decode cL_law 663 = .ok (.iload_n 3, 1) := by decide +kernel
theorem dL_law_664 : decode cL_law 664 = .ok (.iconst 1, 1) := by decide +kernel
theorem dL_law_665 : decode cL_law 665 = .ok (.iadd, 1) := by decide +kernel
theorem dL_law_666 : decode cL_law 666 = .ok (.iaload, 1) := by decide +kernel
theorem dL_law_667 : decode cL_law 667 = .ok (.aload_n 0, 1) := by decide +kernel
theorem dL_law_668 : decode cL_law 668 = .ok (.iload_n 3, 1) := by decide +kernel
theorem dL_law_669 : decode cL_law 669 = .ok (.iconst 2, 1) := by decide +kernel
theorem dL_law_670 : decode cL_law 670 = .ok (.iadd, 1) := by decide +kernel
theorem dL_law_671 : decode cL_law 671 = .ok (.iaload, 1) := by decide +kernel
theorem dL_law_672 : decode cL_law 672 = .ok (.aload_n 0, 1) := by decide +kernel
theorem dL_law_673 : decode cL_law 673 = .ok (.iload_n 3, 1) := by decide +kernel
theorem dL_law_674 : decode cL_law 674 = .ok (.iconst 3, 1) := by decide +kernel
theorem dL_law_675 : decode cL_law 675 = .ok (.iadd, 1) := by decide +kernel
theorem dL_law_676 : decode cL_law 676 = .ok (.iaload, 1) := by decide +kernel
theorem dL_law_677 : decode cL_law 677 = .ok (.aload_n 0, 1) := by decide +kernel
theorem dL_law_678 : decode cL_law 678 = .ok (.iload_n 3, 1) := by decide +kernel
theorem dL_law_679 : decode cL_law 679 = .ok (.iconst 4, 1) := by decide +kernel
theorem dL_law_680 : decode cL_law 680 = .ok (.iadd, 1) := by decide +kernel
theorem dL_law_681 : decode cL_law 681 = .ok (.iaload, 1) := by decide +kernel
theorem dL_law_682 : decode cL_law 682 = .ok (.aload_n 0, 1) := by decide +kernel
theorem dL_law_683 : decode cL_law 683 = .ok (.iload_n 3, 1) := by decide +kernel
theorem dL_law_684 : decode cL_law 684 = .ok (.iconst 5, 1) := by decide +kernel
theorem dL_law_685 : decode cL_law 685 = .ok (.iadd, 1) := by decide +kernel
theorem dL_law_686 : decode cL_law 686 = .ok (.iaload, 1) := by decide +kernel
theorem dL_law_687 : decode cL_law 687 = .ok (.invokevirtual 93, 3) := by decide +kernel
theorem dL_law_690 : decode cL_law 690 = .ok (.aload_n 2, 1) := by decide +kernel
theorem dL_law_691 : decode cL_law 691 = .ok (.aload_n 0, 1) := by decide +kernel
theorem dL_law_692 : decode cL_law 692 = .ok (.iload_n 3, 1) := by decide +kernel
theorem dL_law_693 : decode cL_law 693 = .ok (.iconst 1, 1) := by decide +kernel
theorem dL_law_694 : decode cL_law 694 = .ok (.iadd, 1) := by decide +kernel
theorem dL_law_695 : decode cL_law 695 = .ok (.iaload, 1) := by decide +kernel
theorem dL_law_696 : decode cL_law 696 = .ok (.aload_n 0, 1) := by decide +kernel
theorem dL_law_697 : decode cL_law 697 = .ok (.iload_n 3, 1) := by decide +kernel
theorem dL_law_698 : decode cL_law 698 = .ok (.iconst 2, 1) := by decide +kernel
theorem dL_law_699 : decode cL_law 699 = .ok (.iadd, 1) := by decide +kernel
theorem dL_law_700 : decode cL_law 700 = .ok (.iaload, 1) := by decide +kernel
theorem dL_law_701 : decode cL_law 701 = .ok (.aload_n 0, 1) := by decide +kernel
theorem dL_law_702 : decode cL_law 702 = .ok (.iload_n 3, 1) := by decide +kernel
theorem dL_law_703 : decode cL_law 703 = .ok (.iconst 3, 1) := by decide +kernel
theorem dL_law_704 : decode cL_law 704 = .ok (.iadd, 1) := by decide +kernel
theorem dL_law_705 : decode cL_law 705 = .ok (.iaload, 1) := by decide +kernel
theorem dL_law_706 : decode cL_law 706 = .ok (.aload_n 0, 1) := by decide +kernel
theorem dL_law_707 : decode cL_law 707 = .ok (.iload_n 3, 1) := by decide +kernel
theorem dL_law_708 : decode cL_law 708 = .ok (.iconst 4, 1) := by decide +kernel
theorem dL_law_709 : decode cL_law 709 = .ok (.iadd, 1) := by decide +kernel
theorem dL_law_710 : decode cL_law 710 = .ok (.iaload, 1) := by decide +kernel
theorem dL_law_711 : decode cL_law 711 = .ok (.aload_n 0, 1) := by decide +kernel
theorem dL_law_712 : decode cL_law 712 = .ok (.iload_n 3, 1) := by decide +kernel
theorem dL_law_713 : decode cL_law 713 = .ok (.iconst 5, 1) := by decide +kernel
theorem dL_law_714 : decode cL_law 714 = .ok (.iadd, 1) := by decide +kernel
theorem dL_law_715 : decode cL_law 715 = .ok (.iaload, 1) := by decide +kernel
theorem dL_law_716 : decode cL_law 716 = .ok (.invokevirtual 97, 3) := by decide +kernel
theorem dL_law_719 : decode cL_law 719 = .ok (.if_icmp .eq 242, 3) := by decide +kernel
theorem dL_law_722 : decode cL_law 722 = .ok (.iconst 0, 1) := by decide +kernel
theorem dL_law_723 : decode cL_law 723 = .ok (.ireturn, 1) := by decide +kernel
theorem dL_law_724 : decode cL_law 724 = .ok (.aload_n 1, 1) := by decide +kernel
theorem dL_law_725 : decode cL_law 725 = .ok (.aload_n 0, 1) := by decide +kernel
theorem dL_law_726 : decode cL_law 726 = .ok (.iload_n 3, 1) := by decide +kernel
theorem dL_law_727 : decode cL_law 727 = .ok (.iconst 1, 1) := by decide +kernel
theorem dL_law_728 : decode cL_law 728 = .ok (.iadd, 1) := by decide +kernel
theorem dL_law_729 : decode cL_law 729 = .ok (.iaload, 1) := by decide +kernel
theorem dL_law_730 : decode cL_law 730 = .ok (.aload_n 0, 1) := by decide +kernel
theorem dL_law_731 : decode cL_law 731 = .ok (.iload_n 3, 1) := by decide +kernel
theorem dL_law_732 : decode cL_law 732 = .ok (.iconst 2, 1) := by decide +kernel
theorem dL_law_733 : decode cL_law 733 = .ok (.iadd, 1) := by decide +kernel
theorem dL_law_734 : decode cL_law 734 = .ok (.iaload, 1) := by decide +kernel
theorem dL_law_735 : decode cL_law 735 = .ok (.invokevirtual 98, 3) := by decide +kernel
theorem dL_law_738 : decode cL_law 738 = .ok (.aload_n 2, 1) := by decide +kernel
theorem dL_law_739 : decode cL_law 739 = .ok (.aload_n 0, 1) := by decide +kernel
theorem dL_law_740 : decode cL_law 740 = .ok (.iload_n 3, 1) := by decide +kernel
theorem dL_law_741 : decode cL_law 741 = .ok (.iconst 1, 1) := by decide +kernel
theorem dL_law_742 : decode cL_law 742 = .ok (.iadd, 1) := by decide +kernel
theorem dL_law_743 : decode cL_law 743 = .ok (.iaload, 1) := by decide +kernel
theorem dL_law_744 : decode cL_law 744 = .ok (.aload_n 0, 1) := by decide +kernel
theorem dL_law_745 : decode cL_law 745 = .ok (.iload_n 3, 1) := by decide +kernel
theorem dL_law_746 : decode cL_law 746 = .ok (.iconst 2, 1) := by decide +kernel
theorem dL_law_747 : decode cL_law 747 = .ok (.iadd, 1) := by decide +kernel
theorem dL_law_748 : decode cL_law 748 = .ok (.iaload, 1) := by decide +kernel
theorem dL_law_749 : decode cL_law 749 = .ok (.invokevirtual 101, 3) := by decide +kernel
theorem dL_law_752 : decode cL_law 752 = .ok (.if_icmp .eq 209, 3) := by decide +kernel
theorem dL_law_755 : decode cL_law 755 = .ok (.iconst 0, 1) := by decide +kernel
theorem dL_law_756 : decode cL_law 756 = .ok (.ireturn, 1) := by decide +kernel
theorem dL_law_757 : decode cL_law 757 = .ok (.aload_n 1, 1) := by decide +kernel
theorem dL_law_758 : decode cL_law 758 = .ok (.aload_n 0, 1) := by decide +kernel
theorem dL_law_759 : decode cL_law 759 = .ok (.iload_n 3, 1) := by decide +kernel
theorem dL_law_760 : decode cL_law 760 = .ok (.iconst 1, 1) := by decide +kernel
theorem dL_law_761 : decode cL_law 761 = .ok (.iadd, 1) := by decide +kernel
theorem dL_law_762 : decode cL_law 762 = .ok (.iaload, 1) := by decide +kernel
theorem dL_law_763 : decode cL_law 763 = .ok (.aload_n 0, 1) := by decide +kernel
theorem dL_law_764 : decode cL_law 764 = .ok (.iload_n 3, 1) := by decide +kernel
theorem dL_law_765 : decode cL_law 765 = .ok (.iconst 2, 1) := by decide +kernel
theorem dL_law_766 : decode cL_law 766 = .ok (.iadd, 1) := by decide +kernel
theorem dL_law_767 : decode cL_law 767 = .ok (.iaload, 1) := by decide +kernel
theorem dL_law_768 : decode cL_law 768 = .ok (.aload_n 0, 1) := by decide +kernel
theorem dL_law_769 : decode cL_law 769 = .ok (.iload_n 3, 1) := by decide +kernel
theorem dL_law_770 : decode cL_law 770 = .ok (.iconst 3, 1) := by decide +kernel
theorem dL_law_771 : decode cL_law 771 = .ok (.iadd, 1) := by decide +kernel
theorem dL_law_772 : decode cL_law 772 = .ok (.iaload, 1) := by decide +kernel
theorem dL_law_773 : decode cL_law 773 = .ok (.aload_n 0, 1) := by decide +kernel
theorem dL_law_774 : decode cL_law 774 = .ok (.iload_n 3, 1) := by decide +kernel
theorem dL_law_775 : decode cL_law 775 = .ok (.iconst 4, 1) := by decide +kernel
theorem dL_law_776 : decode cL_law 776 = .ok (.iadd, 1) := by decide +kernel
theorem dL_law_777 : decode cL_law 777 = .ok (.iaload, 1) := by decide +kernel
theorem dL_law_778 : decode cL_law 778 = .ok (.invokevirtual 102, 3) := by decide +kernel
theorem dL_law_781 : decode cL_law 781 = .ok (.aload_n 2, 1) := by decide +kernel
theorem dL_law_782 : decode cL_law 782 = .ok (.aload_n 0, 1) := by decide +kernel
theorem dL_law_783 : decode cL_law 783 = .ok (.iload_n 3, 1) := by decide +kernel
theorem dL_law_784 : decode cL_law 784 = .ok (.iconst 1, 1) := by decide +kernel
theorem dL_law_785 : decode cL_law 785 = .ok (.iadd, 1) := by decide +kernel
theorem dL_law_786 : decode cL_law 786 = .ok (.iaload, 1) := by decide +kernel
theorem dL_law_787 : decode cL_law 787 = .ok (.aload_n 0, 1) := by decide +kernel
theorem dL_law_788 : decode cL_law 788 = .ok (.iload_n 3, 1) := by decide +kernel
theorem dL_law_789 : decode cL_law 789 = .ok (.iconst 2, 1) := by decide +kernel
theorem dL_law_790 : decode cL_law 790 = .ok (.iadd, 1) := by decide +kernel
theorem dL_law_791 : decode cL_law 791 = .ok (.iaload, 1) := by decide +kernel
theorem dL_law_792 : decode cL_law 792 = .ok (.aload_n 0, 1) := by decide +kernel
theorem dL_law_793 : decode cL_law 793 = .ok (.iload_n 3, 1) := by decide +kernel
theorem dL_law_794 : decode cL_law 794 = .ok (.iconst 3, 1) := by decide +kernel
theorem dL_law_795 : decode cL_law 795 = .ok (.iadd, 1) := by decide +kernel
theorem dL_law_796 : decode cL_law 796 = .ok (.iaload, 1) := by decide +kernel
theorem dL_law_797 : decode cL_law 797 = .ok (.aload_n 0, 1) := by decide +kernel
theorem dL_law_798 : decode cL_law 798 = .ok (.iload_n 3, 1) := by decide +kernel
theorem dL_law_799 : decode cL_law 799 = .ok (.iconst 4, 1) := by decide +kernel
theorem dL_law_800 : decode cL_law 800 = .ok (.iadd, 1) := by decide +kernel
theorem dL_law_801 : decode cL_law 801 = .ok (.iaload, 1) := by decide +kernel
theorem dL_law_802 : decode cL_law 802 = .ok (.invokevirtual 105, 3) := by decide +kernel
theorem dL_law_805 : decode cL_law 805 = .ok (.if_icmp .eq 156, 3) := by decide +kernel
theorem dL_law_808 : decode cL_law 808 = .ok (.iconst 0, 1) := by decide +kernel
theorem dL_law_809 : decode cL_law 809 = .ok (.ireturn, 1) := by decide +kernel
theorem dL_law_810 : decode cL_law 810 = .ok (.aload_n 1, 1) := by decide +kernel
theorem dL_law_811 : decode cL_law 811 = .ok (.aload_n 0, 1) := by decide +kernel
theorem dL_law_812 : decode cL_law 812 = .ok (.iload_n 3, 1) := by decide +kernel
theorem dL_law_813 : decode cL_law 813 = .ok (.iconst 1, 1) := by decide +kernel
theorem dL_law_814 : decode cL_law 814 = .ok (.iadd, 1) := by decide +kernel
theorem dL_law_815 : decode cL_law 815 = .ok (.iaload, 1) := by decide +kernel
theorem dL_law_816 : decode cL_law 816 = .ok (.invokevirtual 106, 3) := by decide +kernel
theorem dL_law_819 : decode cL_law 819 = .ok (.aload_n 2, 1) := by decide +kernel
theorem dL_law_820 : decode cL_law 820 = .ok (.aload_n 0, 1) := by decide +kernel
theorem dL_law_821 : decode cL_law 821 = .ok (.iload_n 3, 1) := by decide +kernel
theorem dL_law_822 : decode cL_law 822 = .ok (.iconst 1, 1) := by decide +kernel
theorem dL_law_823 : decode cL_law 823 = .ok (.iadd, 1) := by decide +kernel
theorem dL_law_824 : decode cL_law 824 = .ok (.iaload, 1) := by decide +kernel
theorem dL_law_825 : decode cL_law 825 = .ok (.invokevirtual 109, 3) := by decide +kernel
theorem dL_law_828 : decode cL_law 828 = .ok (.if_icmp .eq 133, 3) := by decide +kernel
theorem dL_law_831 : decode cL_law 831 = .ok (.iconst 0, 1) := by decide +kernel
theorem dL_law_832 : decode cL_law 832 = .ok (.ireturn, 1) := by decide +kernel
theorem dL_law_833 : decode cL_law 833 = .ok (.aload_n 1, 1) := by decide +kernel
theorem dL_law_834 : decode cL_law 834 = .ok (.aload_n 0, 1) := by decide +kernel
theorem dL_law_835 : decode cL_law 835 = .ok (.iload_n 3, 1) := by decide +kernel
theorem dL_law_836 : decode cL_law 836 = .ok (.iconst 1, 1) := by decide +kernel
theorem dL_law_837 : decode cL_law 837 = .ok (.iadd, 1) := by decide +kernel
theorem dL_law_838 : decode cL_law 838 = .ok (.iaload, 1) := by decide +kernel
theorem dL_law_839 : decode cL_law 839 = .ok (.aload_n 0, 1) := by decide +kernel
theorem dL_law_840 : decode cL_law 840 = .ok (.iload_n 3, 1) := by decide +kernel
theorem dL_law_841 : decode cL_law 841 = .ok (.iconst 2, 1) := by decide +kernel
theorem dL_law_842 : decode cL_law 842 = .ok (.iadd, 1) := by decide +kernel
theorem dL_law_843 : decode cL_law 843 = .ok (.iaload, 1) := by decide +kernel
theorem dL_law_844 : decode cL_law 844 = .ok (.invokevirtual 110, 3) := by decide +kernel
theorem dL_law_847 : decode cL_law 847 = .ok (.aload_n 2, 1) := by decide +kernel
theorem dL_law_848 : decode cL_law 848 = .ok (.aload_n 0, 1) := by decide +kernel
theorem dL_law_849 : decode cL_law 849 = .ok (.iload_n 3, 1) := by decide +kernel
theorem dL_law_850 : decode cL_law 850 = .ok (.iconst 1, 1) := by decide +kernel
theorem dL_law_851 : decode cL_law 851 = .ok (.iadd, 1) := by decide +kernel
theorem dL_law_852 : decode cL_law 852 = .ok (.iaload, 1) := by decide +kernel
theorem dL_law_853 : decode cL_law 853 = .ok (.aload_n 0, 1) := by decide +kernel
theorem dL_law_854 : decode cL_law 854 = .ok (.iload_n 3, 1) := by decide +kernel
theorem dL_law_855 : decode cL_law 855 = .ok (.iconst 2, 1) := by decide +kernel
theorem dL_law_856 : decode cL_law 856 = .ok (.iadd, 1) := by decide +kernel
theorem dL_law_857 : decode cL_law 857 = .ok (.iaload, 1) := by decide +kernel
theorem dL_law_858 : decode cL_law 858 = .ok (.invokevirtual 113, 3) := by decide +kernel
theorem dL_law_861 : decode cL_law 861 = .ok (.if_icmp .eq 100, 3) := by decide +kernel
theorem dL_law_864 : decode cL_law 864 = .ok (.iconst 0, 1) := by decide +kernel
theorem dL_law_865 : decode cL_law 865 = .ok (.ireturn, 1) := by decide +kernel
theorem dL_law_866 : decode cL_law 866 = .ok (.aload_n 1, 1) := by decide +kernel
theorem dL_law_867 : decode cL_law 867 = .ok (.invokevirtual 114, 3) := by decide +kernel
theorem dL_law_870 : decode cL_law 870 = .ok (.aload_n 2, 1) := by decide +kernel
theorem dL_law_871 : decode cL_law 871 = .ok (.invokevirtual 117, 3) := by decide +kernel
theorem dL_law_874 : decode cL_law 874 = .ok (.if_icmp .eq 87, 3) := by decide +kernel
theorem dL_law_877 : decode cL_law 877 = .ok (.iconst 0, 1) := by decide +kernel
theorem dL_law_878 : decode cL_law 878 = .ok (.ireturn, 1) := by decide +kernel
theorem dL_law_879 : decode cL_law 879 = .ok (.aload_n 1, 1) := by decide +kernel
theorem dL_law_880 : decode cL_law 880 = .ok (.invokevirtual 118, 3) := by decide +kernel
theorem dL_law_883 : decode cL_law 883 = .ok (.aload_n 2, 1) := by decide +kernel
theorem dL_law_884 : decode cL_law 884 = .ok (.invokevirtual 121, 3) := by decide +kernel
theorem dL_law_887 : decode cL_law 887 = .ok (.if_icmp .eq 74, 3) := by decide +kernel
theorem dL_law_890 : decode cL_law 890 = .ok (.iconst 0, 1) := by decide +kernel
theorem dL_law_891 : decode cL_law 891 = .ok (.ireturn, 1) := by decide +kernel
theorem dL_law_892 : decode cL_law 892 = .ok (.aload_n 1, 1) := by decide +kernel
theorem dL_law_893 : decode cL_law 893 = .ok (.aload_n 0, 1) := by decide +kernel
theorem dL_law_894 : decode cL_law 894 = .ok (.iload_n 3, 1) := by decide +kernel
theorem dL_law_895 : decode cL_law 895 = .ok (.iconst 1, 1) := by decide +kernel
theorem dL_law_896 : decode cL_law 896 = .ok (.iadd, 1) := by decide +kernel
theorem dL_law_897 : decode cL_law 897 = .ok (.iaload, 1) := by decide +kernel
theorem dL_law_898 : decode cL_law 898 = .ok (.invokevirtual 122, 3) := by decide +kernel
theorem dL_law_901 : decode cL_law 901 = .ok (.aload_n 2, 1) := by decide +kernel
theorem dL_law_902 : decode cL_law 902 = .ok (.aload_n 0, 1) := by decide +kernel
theorem dL_law_903 : decode cL_law 903 = .ok (.iload_n 3, 1) := by decide +kernel
theorem dL_law_904 : decode cL_law 904 = .ok (.iconst 1, 1) := by decide +kernel
theorem dL_law_905 : decode cL_law 905 = .ok (.iadd, 1) := by decide +kernel
theorem dL_law_906 : decode cL_law 906 = .ok (.iaload, 1) := by decide +kernel
theorem dL_law_907 : decode cL_law 907 = .ok (.invokevirtual 125, 3) := by decide +kernel
theorem dL_law_910 : decode cL_law 910 = .ok (.if_icmp .eq 51, 3) := by decide +kernel
theorem dL_law_913 : decode cL_law 913 = .ok (.iconst 0, 1) := by decide +kernel
theorem dL_law_914 : decode cL_law 914 = .ok (.ireturn, 1) := by decide +kernel
theorem dL_law_915 : decode cL_law 915 = .ok (.aload_n 1, 1) := by decide +kernel
theorem dL_law_916 : decode cL_law 916 = .ok (.aload_n 0, 1) := by decide +kernel
theorem dL_law_917 : decode cL_law 917 = .ok (.iload_n 3, 1) := by decide +kernel
theorem dL_law_918 : decode cL_law 918 = .ok (.iconst 1, 1) := by decide +kernel
theorem dL_law_919 : decode cL_law 919 = .ok (.iadd, 1) := by decide +kernel
theorem dL_law_920 : decode cL_law 920 = .ok (.iaload, 1) := by decide +kernel
theorem dL_law_921 : decode cL_law 921 = .ok (.invokevirtual 126, 3) := by decide +kernel
theorem dL_law_924 : decode cL_law 924 = .ok (.aload_n 2, 1) := by decide +kernel
theorem dL_law_925 : decode cL_law 925 = .ok (.aload_n 0, 1) := by decide +kernel
theorem dL_law_926 : decode cL_law 926 = .ok (.iload_n 3, 1) := by decide +kernel
theorem dL_law_927 : decode cL_law 927 = .ok (.iconst 1, 1) := by decide +kernel
theorem dL_law_928 : decode cL_law 928 = .ok (.iadd, 1) := by decide +kernel
theorem dL_law_929 : decode cL_law 929 = .ok (.iaload, 1) := by decide +kernel
theorem dL_law_930 : decode cL_law 930 = .ok (.invokevirtual 129, 3) := by decide +kernel
theorem dL_law_933 : decode cL_law 933 = .ok (.if_icmp .eq 28, 3) := by decide +kernel
theorem dL_law_936 : decode cL_law 936 = .ok (.iconst 0, 1) := by decide +kernel
theorem dL_law_937 : decode cL_law 937 = .ok (.ireturn, 1) := by decide +kernel
theorem dL_law_938 : decode cL_law 938 = .ok (.aload_n 1, 1) := by decide +kernel
theorem dL_law_939 : decode cL_law 939 = .ok (.aload_n 0, 1) := by decide +kernel
theorem dL_law_940 : decode cL_law 940 = .ok (.iload_n 3, 1) := by decide +kernel
theorem dL_law_941 : decode cL_law 941 = .ok (.iconst 1, 1) := by decide +kernel
theorem dL_law_942 : decode cL_law 942 = .ok (.iadd, 1) := by decide +kernel
theorem dL_law_943 : decode cL_law 943 = .ok (.iaload, 1) := by decide +kernel
theorem dL_law_944 : decode cL_law 944 = .ok (.invokevirtual 130, 3) := by decide +kernel
theorem dL_law_947 : decode cL_law 947 = .ok (.aload_n 2, 1) := by decide +kernel
theorem dL_law_948 : decode cL_law 948 = .ok (.aload_n 0, 1) := by decide +kernel
theorem dL_law_949 : decode cL_law 949 = .ok (.iload_n 3, 1) := by decide +kernel
theorem dL_law_950 : decode cL_law 950 = .ok (.iconst 1, 1) := by decide +kernel
theorem dL_law_951 : decode cL_law 951 = .ok (.iadd, 1) := by decide +kernel
theorem dL_law_952 : decode cL_law 952 = .ok (.iaload, 1) := by decide +kernel
theorem dL_law_953 : decode cL_law 953 = .ok (.invokevirtual 133, 3) := by decide +kernel
theorem dL_law_956 : decode cL_law 956 = .ok (.if_icmp .eq 5, 3) := by decide +kernel
theorem dL_law_959 : decode cL_law 959 = .ok (.iconst 0, 1) := by decide +kernel
theorem dL_law_960 : decode cL_law 960 = .ok (.ireturn, 1) := by decide +kernel
theorem dL_law_961 : decode cL_law 961 = .ok (.iinc 3 6, 3) := by decide +kernel
theorem dL_law_964 : decode cL_law 964 = .ok (.goto (-946), 3) := by decide +kernel
theorem dL_law_967 : decode cL_law 967 = .ok (.iconst 1, 1) := by decide +kernel
theorem dL_law_968 : decode cL_law 968 = .ok (.ireturn, 1) := by decide +kernel
end
section
/-! worlds in groups: a world is a list of groups of cells; a contract speaks of the groups that it reaches, and keeps every other -/
theorem gp_mem {D : va_G} {cl : List vw_C} {ws : va_W} {H : Heap} : va_P D cl ws H ↔ ∀ q ∈ ws, va_at D cl q H :=
  ⟨fun h q hq => by
    obtain ⟨k, hk⟩ := List.getElem?_of_mem hq
    exact h k q hk, fun h k q hk => h q (List.mem_of_getElem? hk)⟩
theorem gp_perm {D : va_G} {cl : List vw_C} {ws ws' : va_W} {H : Heap} (p : ws.Perm ws') (h : va_P D cl ws H) : va_P D cl ws' H :=
  gp_mem.mpr fun q hq => gp_mem.mp h q (p.mem_iff.mpr hq)
theorem gd_nd {A : Nat → Prop} {ws : va_W} : va_D A ws ↔ (ws.map Prod.fst).Nodup ∧ ∀ q ∈ ws, A q.1 := by
  constructor
  · rintro ⟨h1, h2⟩
    refine ⟨?_, fun q hq => ?_⟩
    · rw [List.nodup_iff_pairwise_ne, List.pairwise_iff_getElem]
      intro i j hi hj hij he
      rw [List.length_map] at hi hj
      have h3 := h1 i j _ _ (List.getElem?_eq_getElem hi) (List.getElem?_eq_getElem hj) (by simpa using he)
      omega
    · obtain ⟨k, hk⟩ := List.getElem?_of_mem hq
      exact h2 k q hk
  · rintro ⟨h1, h2⟩
    refine ⟨fun i j p q hi hj he => ?_, fun k q hk => h2 q (List.mem_of_getElem? hk)⟩
    have hl : i < (ws.map Prod.fst).length := by rw [List.length_map]; exact (List.getElem?_eq_some_iff.mp hi).1
    refine (List.getElem?_inj hl h1).mp ?_
    rw [List.getElem?_map, List.getElem?_map, hi, hj]
    exact congrArg some he
theorem gd_perm {A : Nat → Prop} {ws ws' : va_W} (p : ws.Perm ws') (h : va_D A ws) : va_D A ws' := by
  rw [gd_nd] at h ⊢
  exact ⟨(p.map Prod.fst).nodup h.1, fun q hq => h.2 q (p.mem_iff.mpr hq)⟩
def gW (D : va_G) (A : Nat → Prop) (H0 : Heap) (G : List va_W) (H : Heap) (locs : List Loc) : Prop := va_P D vwCl G.flatten H ∧ va_D A G.flatten ∧ va_S A H0 H locs
theorem gW.perm {D : va_G} {A : Nat → Prop} {H0 : Heap} {G G' : List va_W} {H : Heap} {locs : List Loc} (h : gW D A H0 G H locs) (p : G.Perm G') : gW D A H0 G' H locs := ⟨gp_perm p.flatten h.1, gd_perm p.flatten h.2.1, h.2.2⟩
section GMOVES
variable {D : va_G} {A : Nat → Prop} {H0 : Heap} {G : List va_W} {H : Heap} {locs : List Loc} {g0 g1 g2 g3 g4 g5 g6 g7 g8 g9 : va_W}
theorem gW.m1 (h : gW D A H0 (g0 :: g1 :: G) H locs) : gW D A H0 (g1 :: g0 :: G) H locs := h.perm (List.Perm.swap _ _ _)
theorem pm2 : (g0 :: g1 :: g2 :: G).Perm (g2 :: g0 :: g1 :: G) := (List.Perm.cons _ (List.Perm.swap _ _ _)).trans (List.Perm.swap _ _ _)
theorem pm3 : (g0 :: g1 :: g2 :: g3 :: G).Perm (g3 :: g0 :: g1 :: g2 :: G) := (List.Perm.cons _ pm2).trans (List.Perm.swap _ _ _)
theorem pm4 : (g0 :: g1 :: g2 :: g3 :: g4 :: G).Perm (g4 :: g0 :: g1 :: g2 :: g3 :: G) := (List.Perm.cons _ pm3).trans (List.Perm.swap _ _ _)
theorem pm5 : (g0 :: g1 :: g2 :: g3 :: g4 :: g5 :: G).Perm (g5 :: g0 :: g1 :: g2 :: g3 :: g4 :: G) := (List.Perm.cons _ pm4).trans (List.Perm.swap _ _ _)
theorem pm6 : (g0 :: g1 :: g2 :: g3 :: g4 :: g5 :: g6 :: G).Perm (g6 :: g0 :: g1 :: g2 :: g3 :: g4 :: g5 :: G) := (List.Perm.cons _ pm5).trans (List.Perm.swap _ _ _)
theorem pm7 : (g0 :: g1 :: g2 :: g3 :: g4 :: g5 :: g6 :: g7 :: G).Perm (g7 :: g0 :: g1 :: g2 :: g3 :: g4 :: g5 :: g6 :: G) := (List.Perm.cons _ pm6).trans (List.Perm.swap _ _ _)
theorem pm8 : (g0 :: g1 :: g2 :: g3 :: g4 :: g5 :: g6 :: g7 :: g8 :: G).Perm (g8 :: g0 :: g1 :: g2 :: g3 :: g4 :: g5 :: g6 :: g7 :: G) := (List.Perm.cons _ pm7).trans (List.Perm.swap _ _ _)
theorem pm9 : (g0 :: g1 :: g2 :: g3 :: g4 :: g5 :: g6 :: g7 :: g8 :: g9 :: G).Perm (g9 :: g0 :: g1 :: g2 :: g3 :: g4 :: g5 :: g6 :: g7 :: g8 :: G) := (List.Perm.cons _ pm8).trans (List.Perm.swap _ _ _)
theorem gW.m2 (h : gW D A H0 (g0 :: g1 :: g2 :: G) H locs) : gW D A H0 (g2 :: g0 :: g1 :: G) H locs := h.perm pm2
theorem gW.m3 (h : gW D A H0 (g0 :: g1 :: g2 :: g3 :: G) H locs) : gW D A H0 (g3 :: g0 :: g1 :: g2 :: G) H locs := h.perm pm3
theorem gW.m4 (h : gW D A H0 (g0 :: g1 :: g2 :: g3 :: g4 :: G) H locs) : gW D A H0 (g4 :: g0 :: g1 :: g2 :: g3 :: G) H locs := h.perm pm4
theorem gW.m5 (h : gW D A H0 (g0 :: g1 :: g2 :: g3 :: g4 :: g5 :: G) H locs) : gW D A H0 (g5 :: g0 :: g1 :: g2 :: g3 :: g4 :: G) H locs := h.perm pm5
theorem gW.m6 (h : gW D A H0 (g0 :: g1 :: g2 :: g3 :: g4 :: g5 :: g6 :: G) H locs) : gW D A H0 (g6 :: g0 :: g1 :: g2 :: g3 :: g4 :: g5 :: G) H locs := h.perm pm6
theorem gW.m7 (h : gW D A H0 (g0 :: g1 :: g2 :: g3 :: g4 :: g5 :: g6 :: g7 :: G) H locs) : gW D A H0 (g7 :: g0 :: g1 :: g2 :: g3 :: g4 :: g5 :: g6 :: G) H locs := h.perm pm7
theorem gW.m8 (h : gW D A H0 (g0 :: g1 :: g2 :: g3 :: g4 :: g5 :: g6 :: g7 :: g8 :: G) H locs) : gW D A H0 (g8 :: g0 :: g1 :: g2 :: g3 :: g4 :: g5 :: g6 :: g7 :: G) H locs := h.perm pm8
theorem gW.m9 (h : gW D A H0 (g0 :: g1 :: g2 :: g3 :: g4 :: g5 :: g6 :: g7 :: g8 :: g9 :: G) H locs) : gW D A H0 (g9 :: g0 :: g1 :: g2 :: g3 :: g4 :: g5 :: g6 :: g7 :: g8 :: G) H locs := h.perm pm9
/-- two groups become one, and back -/
theorem gW.join (h : gW D A H0 (g0 :: g1 :: G) H locs) : gW D A H0 ((g0 ++ g1) :: G) H locs := by
  have e : ((g0 ++ g1) :: G).flatten = (g0 :: g1 :: G).flatten := by simp
  unfold gW at h ⊢
  rw [e]; exact h
theorem gW.cut (h : gW D A H0 ((g0 ++ g1) :: G) H locs) : gW D A H0 (g0 :: g1 :: G) H locs := by
  have e : ((g0 ++ g1) :: G).flatten = (g0 :: g1 :: G).flatten := by simp
  unfold gW at h ⊢
  rw [← e]; exact h
/-- the whole tail becomes one group, and back -/
theorem gW.tail (h : gW D A H0 (g0 :: G) H locs) : gW D A H0 [g0, G.flatten] H locs := by
  have e : [g0, G.flatten].flatten = (g0 :: G).flatten := by simp
  unfold gW at h ⊢
  rw [e]; exact h
theorem gW.cast {G' : List va_W} (h : gW D A H0 G H locs) (e : G.flatten = G'.flatten) : gW D A H0 G' H locs := by
  unfold gW at h ⊢
  rw [← e]; exact h
end GMOVES
/-! the static rows of the class: what the Statement gives of them -/
def tbU : List Int32 := [4, 10, 4, 0, 60, 20, 3, 10, 50]
def tbL : List Int32 := [1, 0, 2, 0, 1, 0, 0, 0, 0]
def tbM : List Int32 := [12, 20, 9, 20, 999, 99, 20, 99, 999]
def tbF : List Int32 := [0, 0, 4, 6]
def tbE : List Int32 := [0, 4, 6, 9]
def sX (o : Option (Nat → Nat)) (A : Nat → Prop) (U : State) (H : Heap) : Prop := match o with
  | none => True
  | some t => (va_Z "IceSway$Boat" "UNTOLD" "[I" (.ref (t 0)) A U H ∧ va_T .int (t 0) 9 (fun j => .int (tbU.getD j 0)) A U H) ∧ (va_Z "IceSway$Boat" "LEAST" "[I" (.ref (t 1)) A U H ∧ va_T .int (t 1) 9 (fun j => .int (tbL.getD j 0)) A U H) ∧ (va_Z "IceSway$Boat" "GREATEST" "[I" (.ref (t 2)) A U H ∧ va_T .int (t 2) 9 (fun j => .int (tbM.getD j 0)) A U H) ∧ (va_Z "IceSway$Text" "FIRST" "[I" (.ref (t 3)) A U H ∧ va_T .int (t 3) 4 (fun j => .int (tbF.getD j 0)) A U H) ∧ (va_Z "IceSway$Text" "END" "[I" (.ref (t 4)) A U H ∧ va_T .int (t 4) 4 (fun j => .int (tbE.getD j 0)) A U H)
theorem sX.moved {o : Option (Nat → Nat)} {A : Nat → Prop} {u U : State} {H : Heap} (hvm : u.vm.Alike U.vm) (h : sX o A u H) : sX o A U H := by
  cases o with
  | none => trivial
  | some t =>
    obtain ⟨⟨a1, a2⟩, ⟨b1, b2⟩, ⟨c1, c2⟩, ⟨d1, d2⟩, e1, e2⟩ := h
    exact ⟨⟨a1.moved hvm, a2.moved hvm⟩, ⟨b1.moved hvm, b2.moved hvm⟩, ⟨c1.moved hvm, c2.moved hvm⟩, ⟨d1.moved hvm, d2.moved hvm⟩, e1.moved hvm, e2.moved hvm⟩
theorem sX.kept {o : Option (Nat → Nat)} {A : Nat → Prop} {U : State} {H H1 : Heap} (h : sX o A U H) (hq : ∀ a : Nat, a < H.size → ¬ A a → H1[a]? = H[a]?) : sX o A U H1 := by
  cases o with
  | none => trivial
  | some t =>
    obtain ⟨⟨a1, a2⟩, ⟨b1, b2⟩, ⟨c1, c2⟩, ⟨d1, d2⟩, e1, e2⟩ := h
    exact ⟨⟨a1.kept hq, a2.kept hq⟩, ⟨b1.kept hq, b2.kept hq⟩, ⟨c1.kept hq, c2.kept hq⟩, ⟨d1.kept hq, d2.kept hq⟩, e1.kept hq, e2.kept hq⟩
/-! contracts: int (and boolean), long, void; no cell is made -/
abbrev cPre (av : List Value) (D : va_G) (tys : List (ClassId × FieldType)) (A : Nat → Prop) (o : Option (Nat → Nat)) (G : List va_W) : Array Value → State → Prop := va_Pc av (fun U => va_P D vwCl G.flatten U.heap ∧ va_K D vwCl tys U ∧ va_D A G.flatten ∧ sX o A U U.heap)
abbrev cB {S : Type} (D : va_G) (A : Nat → Prop) (G' : S → List va_W) : S → State → Prop := fun u t => va_P D vwCl (G' u).flatten t.heap ∧ va_D A (G' u).flatten
def Ci (l : Launch) (y : MethodName) (ws : List Cond) (fr lo : Nat) (av : List Value) (D : va_G) (tys : List (ClassId × FieldType)) (A : Nat → Prop) (o : Option (Nat → Nat)) (G : List va_W) {S : Type} (post : Int32 → S → Prop) (G' : S → List va_W) : Prop :=
  Met l y ws { frames := fr, cells := 0, slots := 0, locals := lo } (cPre av D tys A o G) (va_Qi post (cB D A G') A) 0 0 A
def Cl (l : Launch) (y : MethodName) (ws : List Cond) (fr lo : Nat) (av : List Value) (D : va_G) (tys : List (ClassId × FieldType)) (A : Nat → Prop) (o : Option (Nat → Nat)) (G : List va_W) {S : Type} (post : Int64 → S → Prop) (G' : S → List va_W) : Prop :=
  Met l y ws { frames := fr, cells := 0, slots := 0, locals := lo } (cPre av D tys A o G) (va_Ql post (cB D A G') A) 0 0 A
def Cv (l : Launch) (y : MethodName) (ws : List Cond) (fr lo : Nat) (av : List Value) (D : va_G) (tys : List (ClassId × FieldType)) (A : Nat → Prop) (o : Option (Nat → Nat)) (G : List va_W) {S : Type} (post : S → Prop) (G' : S → List va_W) : Prop :=
  Met l y ws { frames := fr, cells := 0, slots := 0, locals := lo } (cPre av D tys A o G) (va_Qv post (cB D A G') A) 0 0 A
theorem cPre_blind (av : List Value) (D : va_G) (tys : List (ClassId × FieldType)) (A : Nat → Prop) (o : Option (Nat → Nat)) (G : List va_W) : FrameBlind (cPre av D tys A o G) := fun a U g mk q => by
  obtain ⟨q0, qP, qK, qD, qX⟩ := q
  exact ⟨q0, qP, va_K.moved (u := U) (U := U.calling g mk a) (Vm.Alike.refl U.vm) qK, qD, sX.moved (u := U) (U := U.calling g mk a) (Vm.Alike.refl U.vm) qX⟩
/-- what a method's walk begins with -/
abbrev cGo (p : Program) (s : State) (m : MethodId) (meth : Method) (c : Code) (args : Array Value) (cc : ByteArray) (maxL : Nat) (ret : Option FieldType) (ws : List Cond) (own : String) (D : va_G) (tys : List (ClassId × FieldType)) (A : Nat → Prop) (o : Option (Nat → Nat)) : Prop :=
  p.tables.exec = Jvm.exec ∧ c.code = cc ∧ c.maxLocals = maxL ∧ meth.sig.returnType = ret ∧ (∀ w ∈ ws, w.before args s = true) ∧ s.vm.findClass own = some m.cls ∧ meth.locks = false ∧ va_K D vwCl tys s ∧ sX o A s s.heap
theorem cOf {l : Launch} {y : MethodName} {ws ws' : List Cond} {rm : Room} {av : List Value} {D : va_G} {tys : List (ClassId × FieldType)} {A : Nat → Prop} {o : Option (Nat → Nat)} {G : List va_W} {Qc : Array Value → State → Outcome → State → Prop} {mc ms : Nat} {cc : ByteArray} {maxL : Nat} {ret : Option FieldType} {lv : List (Nat × Value)}
    (hy : plainName y.cls = true) (hw : ws = Cond.code y cc maxL ret :: ws') (hn : (lg_sl av).length ≤ maxL) (hlv : lv_args 0 av = lv)
    (body : ∀ (p : Program) (e : Env) (s : State) (m : MethodId) (below : List Frame) (meth : Method) (c : Code) (ls : Array Slot), cGo p s m meth c av.toArray cc maxL ret ws y.cls D tys A o → gW D A s.heap G s.heap [] → lv_has ls maxL lv →
      W p l e rm s m av.toArray below meth c s.heap [] 0 0 (MQ below Qc av.toArray s mc ms A) (F0 m 0 ls [])) : Met l y ws rm (cPre av D tys A o G) Qc mc ms A := by
  refine Met.ofW (cc := cc) (maxL := maxL) (ret := ret) hy hw ?_
  intro p e s m args below meth c s₁ B hml hv
  obtain ⟨rfl, hP, hK, hD, hX⟩ := hv
  have hl := lv_entry av (n := maxL) hn
  rw [lg_entry_eq]
  exact body p e s m below meth c _ ⟨B.exec, B.bytes, hml, B.returns, atoms_spec (ws := ws) B.pre, findClass_of_methodNamed B.named, B.notSynchronized, hK, hX⟩ ⟨hP, hD, va_S.rf⟩ (hlv ▸ hl)
end
section
section RROWS
variable {p : Program} {l : Launch} {e : Env} {R : Room} {s : State} {m : MethodId} {args : Array Value} {below : List Frame} {meth : Method} {c : Code} {H : Heap} {locs : List Loc} {cells slots : Nat} {Q : State → Prop}
variable {cc : ByteArray} {pc : Nat} {ls : Array Slot} {rest : List Value} {D : va_G} {A : Nat → Prop} {a : Nat} {tys : List (ClassId × FieldType)} {G : List va_W} {H0 : Heap}
theorem r_get (hexec : p.tables.exec = Jvm.exec) (hb : c.code = cc) {own C : String} {T : u_T} {N ci index : Nat} {Ts : List Cond} (hts : ∀ w ∈ Ts, w.before args s = true) (hin : ∀ w ∈ u_ws C T N, w ∈ Ts) (hown : s.vm.findClass own = some m.cls) (hK : va_K D vwCl tys s) (hw : gW D A H0 G H locs) (q0 : Nat) {fs : List Value} (he : G.flatten[q0]? = some (a, .inr (ci, fs))) (hc : vwCl[ci]? = some (C, T, N)) (k : Nat) (hk : k < N) (hlink : (Cond.fieldLink own index (T k).1 (T k).2.1 (T k).2.2.1).before args s = true) {v : Value} (hv : fs[k]? = some v) (hdg : decode cc pc = .ok (.getfield index, 3)) (kk : W p l e R s m args below meth c H locs cells slots Q (F0 m (pc + 3) ls (v :: rest))) : W p l e R s m args below meth c H locs cells slots Q (F0 m pc ls (.ref a :: rest)) :=
  va_get hexec hb hts hin hown hK hw.1 q0 he hc k hk hlink (fun _ h => h) hv hdg kk
theorem r_put (hexec : p.tables.exec = Jvm.exec) (hb : c.code = cc) {own C : String} {T : u_T} {N ci index : Nat} {Ts : List Cond} (hts : ∀ w ∈ Ts, w.before args s = true) (hin : ∀ w ∈ u_ws C T N, w ∈ Ts) (ty0 : Nat → FieldType) (hty : ∀ k, k < N → parseFieldDescriptor (T k).2.2.1 = some (ty0 k)) (hnm : ∀ a, a < N → ∀ b, b < N → a ≠ b → (T a).2.1 ≠ (T b).2.1) (hown : s.vm.findClass own = some m.cls) (hK : va_K D vwCl tys s) (hw : gW D A H0 G H locs) (q0 : Nat) {fs : List Value} (he : G.flatten[q0]? = some (a, .inr (ci, fs))) (hc : vwCl[ci]? = some (C, T, N)) (k : Nat) (hk : k < N) (hlink : (Cond.fieldLink own index (T k).1 (T k).2.1 (T k).2.2.1).before args s = true) (hfin : (T k).2.2.2 = false) (h0 : ty0 k = .int) (hl : k < fs.length) {x : Int32} {G' : List va_W} (hG : G.flatten.set q0 (a, .inr (ci, fs.set k (.int x))) = G'.flatten) (hdg : decode cc pc = .ok (.putfield index, 3)) (kk : ∀ (H1 : Heap) (locs1 : List Loc), gW D A H0 G' H1 locs1 → W p l e R s m args below meth c H1 locs1 cells slots Q (F0 m (pc + 3) ls rest)) : W p l e R s m args below meth c H locs cells slots Q (F0 m pc ls (.int x :: .ref a :: rest)) := by
  have hd : parseFieldDescriptor (T k).2.2.1 = some .int := by rw [hty k hk, h0]
  exact va_put hexec hb hts hin ty0 hty hnm hown hK hw.1 hw.2.1 hw.2.2 q0 he hc k hk hlink (fun _ h => h) hfin hd rfl rfl hl hdg (fun H1 locs1 a1 a2 a3 => kk H1 locs1 ⟨hG ▸ a1, hG ▸ a2, a3⟩)
theorem r_putR (hexec : p.tables.exec = Jvm.exec) (hb : c.code = cc) {own C : String} {T : u_T} {N ci index : Nat} {Ts : List Cond} (hts : ∀ w ∈ Ts, w.before args s = true) (hin : ∀ w ∈ u_ws C T N, w ∈ Ts) (ty0 : Nat → FieldType) (hty : ∀ k, k < N → parseFieldDescriptor (T k).2.2.1 = some (ty0 k)) (hnm : ∀ a, a < N → ∀ b, b < N → a ≠ b → (T a).2.1 ≠ (T b).2.1) (hown : s.vm.findClass own = some m.cls) (hK : va_K D vwCl tys s) (hw : gW D A H0 G H locs) (q0 : Nat) {fs : List Value} (he : G.flatten[q0]? = some (a, .inr (ci, fs))) (hc : vwCl[ci]? = some (C, T, N)) (k : Nat) (hk : k < N) (hlink : (Cond.fieldLink own index (T k).1 (T k).2.1 (T k).2.2.1).before args s = true) (hfin : (T k).2.2.2 = true) (hin2 : meth.name = "<init>") (hdecl : (T k).1 = own) {ty : FieldType} (h0 : ty0 k = ty) {v : Value} (hn : narrow ty v = v) (hfit : fits ty v = true) (hl : k < fs.length) {G' : List va_W} (hG : G.flatten.set q0 (a, .inr (ci, fs.set k v)) = G'.flatten) (hdg : decode cc pc = .ok (.putfield index, 3)) (kk : ∀ (H1 : Heap) (locs1 : List Loc), gW D A H0 G' H1 locs1 → W p l e R s m args below meth c H1 locs1 cells slots Q (F0 m (pc + 3) ls rest)) : W p l e R s m args below meth c H locs cells slots Q (F0 m pc ls (v :: .ref a :: rest)) := by
  have hd : parseFieldDescriptor (T k).2.2.1 = some ty := by rw [hty k hk, h0]
  exact va_putF hexec hb hts hin ty0 hty hnm hown hK hw.1 hw.2.1 hw.2.2 q0 he hc k hk hlink (fun _ h => h) hfin hin2 hdecl hd hn hfit hl hdg (fun H1 locs1 a1 a2 a3 => kk H1 locs1 ⟨hG ▸ a1, hG ▸ a2, a3⟩)
theorem r_iald (hexec : p.tables.exec = Jvm.exec) (hb : c.code = cc) (hK : va_K D vwCl tys s) (hw : gW D A H0 G H locs) (q0 t0 : Nat) {cA : ClassId} {n : Nat} {f : Nat → Int32} (ha : G.flatten[q0]? = some (a, .inl (cA, n, .inl f))) (ht : tys[t0]? = some (cA, .int)) (k : Nat) (hk : k < n) (hn : n < 2 ^ 31) (hdg : decode cc pc = .ok (.iaload, 1)) (kk : W p l e R s m args below meth c H locs cells slots Q (F0 m (pc + 1) ls (.int (f k) :: rest))) : W p l e R s m args below meth c H locs cells slots Q (F0 m pc ls (.int (nI k) :: .ref a :: rest)) := by
  refine va_iald hexec hb hK hw.1 q0 t0 ha ht (vp_in_nI hk hn) hdg ?_
  rw [nI_clamp (Nat.lt_trans hk hn)]
  exact kk
theorem r_zald (hexec : p.tables.exec = Jvm.exec) (hb : c.code = cc) (hK : va_K D vwCl tys s) (hw : gW D A H0 G H locs) (q0 t0 : Nat) {cA : ClassId} {n : Nat} {f : Nat → Int32} (ha : G.flatten[q0]? = some (a, .inl (cA, n, .inl f))) (ht : tys[t0]? = some (cA, .boolean)) (k : Nat) (hk : k < n) (hn : n < 2 ^ 31) (hdg : decode cc pc = .ok (.baload, 1)) (kk : W p l e R s m args below meth c H locs cells slots Q (F0 m (pc + 1) ls (.int (f k) :: rest))) : W p l e R s m args below meth c H locs cells slots Q (F0 m pc ls (.int (nI k) :: .ref a :: rest)) := by
  refine va_zald hexec hb hK hw.1 q0 t0 ha ht (vp_in_nI hk hn) hdg ?_
  rw [nI_clamp (Nat.lt_trans hk hn)]
  exact kk
theorem r_iast (hexec : p.tables.exec = Jvm.exec) (hb : c.code = cc) (hK : va_K D vwCl tys s) (hw : gW D A H0 G H locs) (q0 t0 : Nat) {cA : ClassId} {n : Nat} {f : Nat → Int32} (ha : G.flatten[q0]? = some (a, .inl (cA, n, .inl f))) (ht : tys[t0]? = some (cA, .int)) (k : Nat) {x : Int32} (hk : k < n) (hn : n < 2 ^ 31) {G' : List va_W} (hG : G.flatten.set q0 (a, .inl (cA, n, .inl (upd f k x))) = G'.flatten) (hdg : decode cc pc = .ok (.iastore, 1)) (kk : ∀ (H1 : Heap) (locs1 : List Loc), gW D A H0 G' H1 locs1 → W p l e R s m args below meth c H1 locs1 cells slots Q (F0 m (pc + 1) ls rest)) : W p l e R s m args below meth c H locs cells slots Q (F0 m pc ls (.int x :: .int (nI k) :: .ref a :: rest)) := by
  refine va_iast hexec hb hK hw.1 hw.2.1 hw.2.2 q0 t0 ha ht (vp_in_nI hk hn) hdg (fun H1 locs1 a1 a2 a3 => ?_)
  rw [nI_clamp (Nat.lt_trans hk hn)] at a1 a2
  exact kk H1 locs1 ⟨hG ▸ a1, hG ▸ a2, a3⟩
theorem r_zast (hexec : p.tables.exec = Jvm.exec) (hb : c.code = cc) (hK : va_K D vwCl tys s) (hw : gW D A H0 G H locs) (q0 t0 : Nat) {cA : ClassId} {n : Nat} {f : Nat → Int32} (ha : G.flatten[q0]? = some (a, .inl (cA, n, .inl f))) (ht : tys[t0]? = some (cA, .boolean)) (k : Nat) {x : Int32} (hx : vp_nar .boolean x = x) (hk : k < n) (hn : n < 2 ^ 31) {G' : List va_W} (hG : G.flatten.set q0 (a, .inl (cA, n, .inl (upd f k x))) = G'.flatten) (hdg : decode cc pc = .ok (.bastore, 1)) (kk : ∀ (H1 : Heap) (locs1 : List Loc), gW D A H0 G' H1 locs1 → W p l e R s m args below meth c H1 locs1 cells slots Q (F0 m (pc + 1) ls rest)) : W p l e R s m args below meth c H locs cells slots Q (F0 m pc ls (.int x :: .int (nI k) :: .ref a :: rest)) := by
  refine va_zast hexec hb hK hw.1 hw.2.1 hw.2.2 q0 t0 ha ht (vp_in_nI hk hn) hdg (fun H1 locs1 a1 a2 a3 => ?_)
  rw [nI_clamp (Nat.lt_trans hk hn), hx] at a1 a2
  exact kk H1 locs1 ⟨hG ▸ a1, hG ▸ a2, a3⟩
theorem r_aald (hexec : p.tables.exec = Jvm.exec) (hb : c.code = cc) (hK : va_K D vwCl tys s) (hw : gW D A H0 G H locs) (q0 t0 : Nat) {cA : ClassId} {C : String} {n : Nat} {f : Nat → Option Nat} (ha : G.flatten[q0]? = some (a, .inl (cA, n, .inr (.inr (.inr (.inr f)))))) (ht : tys[t0]? = some (cA, .object C)) (k : Nat) (hk : k < n) (hn : n < 2 ^ 31) {b : Nat} (hv : f k = some b) (hdg : decode cc pc = .ok (.aaload, 1)) (kk : W p l e R s m args below meth c H locs cells slots Q (F0 m (pc + 1) ls (.ref b :: rest))) : W p l e R s m args below meth c H locs cells slots Q (F0 m pc ls (.int (nI k) :: .ref a :: rest)) := by
  refine va_aldq hexec hb hK hw.1 q0 t0 ha ht (vp_in_nI hk hn) hdg ?_
  rw [nI_clamp (Nat.lt_trans hk hn), hv]
  exact kk
/-- static rows -/
theorem r_tab (hexec : p.tables.exec = Jvm.exec) (hb : c.code = cc) {t N : Nat} {f : Nat → Value} (hT : va_T .int t N f A s s.heap) (hw : gW D A s.heap G H locs) (k : Nat) (hk : k < N) (hn : N < 2 ^ 31) (hdg : decode cc pc = .ok (.iaload, 1)) (kk : W p l e R s m args below meth c H locs cells slots Q (F0 m (pc + 1) ls (f k :: rest))) : W p l e R s m args below meth c H locs cells slots Q (F0 m pc ls (.int (nI k) :: .ref t :: rest)) :=
  va_ti hexec hb hT hw.2.2 (vp_in_nI hk hn) (by rw [nI_clamp (Nat.lt_trans hk hn)]) hdg kk
theorem r_gets (hexec : p.tables.exec = Jvm.exec) (hb : c.code = cc) {C n d own : String} {v : Value} {index : Nat} (hZ : va_Z C n d v A s s.heap) (hw : gW D A s.heap G H locs) (hown : s.vm.findClass own = some m.cls) (hlink : (Cond.fieldLink own index C n d).before args s = true) (hdg : decode cc pc = .ok (.getstatic index, 3)) (kk : W p l e R s m args below meth c H locs cells slots Q (F0 m (pc + 3) ls (v :: rest))) : W p l e R s m args below meth c H locs cells slots Q (F0 m pc ls rest) :=
  va_gets hexec hb hZ hw.2.2 hown hlink (fun _ h => h) hdg kk
/-! numbers that are counts -/
theorem r_addN (hexec : p.tables.exec = Jvm.exec) (hb : c.code = cc) (x y : Nat) (hdg : decode cc pc = .ok (.iadd, 1)) (k : W p l e R s m args below meth c H locs cells slots Q (F0 m (pc + 1) ls (.int (nI (x + y)) :: rest))) : W p l e R s m args below meth c H locs cells slots Q (F0 m pc ls (.int (nI y) :: .int (nI x) :: rest)) := by
  refine lv_iadd hexec hb hdg ?_
  rw [nI_add]; exact k
theorem r_subN (hexec : p.tables.exec = Jvm.exec) (hb : c.code = cc) (x y : Nat) (h : y ≤ x) (hdg : decode cc pc = .ok (.isub, 1)) (k : W p l e R s m args below meth c H locs cells slots Q (F0 m (pc + 1) ls (.int (nI (x - y)) :: rest))) : W p l e R s m args below meth c H locs cells slots Q (F0 m pc ls (.int (nI y) :: .int (nI x) :: rest)) := by
  refine lv_isub hexec hb hdg ?_
  rw [pk_sub h]; exact k
theorem r_mulN (hexec : p.tables.exec = Jvm.exec) (hb : c.code = cc) (x y : Nat) (hdg : decode cc pc = .ok (.imul, 1)) (k : W p l e R s m args below meth c H locs cells slots Q (F0 m (pc + 1) ls (.int (nI (x * y)) :: rest))) : W p l e R s m args below meth c H locs cells slots Q (F0 m pc ls (.int (nI y) :: .int (nI x) :: rest)) := by
  refine lv_imul hexec hb hdg ?_
  rw [pk_mul]; exact k
theorem r_cge (hexec : p.tables.exec = Jvm.exec) (hb : c.code = cc) (x y : Nat) (hx : x < 2 ^ 31) (hy : y < 2 ^ 31) {off : Int} {tgt : Nat} (hdg : decode cc pc = .ok (.if_icmp .ge off, 3)) (ht : (pc : Int) + off = (tgt : Int)) (kt : y ≤ x → W p l e R s m args below meth c H locs cells slots Q (F0 m tgt ls rest)) (kf : x < y → W p l e R s m args below meth c H locs cells slots Q (F0 m (pc + 3) ls rest)) : W p l e R s m args below meth c H locs cells slots Q (F0 m pc ls (.int (nI y) :: .int (nI x) :: rest)) :=
  lv_icmp_ge hexec hb hdg ht (fun h => kt ((nI_leI hy hx).mp h)) (fun h => kf (by rw [nI_leI hy hx] at h; omega))
theorem r_cgt (hexec : p.tables.exec = Jvm.exec) (hb : c.code = cc) (x y : Nat) (hx : x < 2 ^ 31) (hy : y < 2 ^ 31) {off : Int} {tgt : Nat} (hdg : decode cc pc = .ok (.if_icmp .gt off, 3)) (ht : (pc : Int) + off = (tgt : Int)) (kt : y < x → W p l e R s m args below meth c H locs cells slots Q (F0 m tgt ls rest)) (kf : x ≤ y → W p l e R s m args below meth c H locs cells slots Q (F0 m (pc + 3) ls rest)) : W p l e R s m args below meth c H locs cells slots Q (F0 m pc ls (.int (nI y) :: .int (nI x) :: rest)) :=
  lv_icmp_gt hexec hb hdg ht (fun h => kt ((nI_ltI hy hx).mp h)) (fun h => kf (by rw [nI_ltI hy hx] at h; omega))
theorem r_cle (hexec : p.tables.exec = Jvm.exec) (hb : c.code = cc) (x y : Nat) (hx : x < 2 ^ 31) (hy : y < 2 ^ 31) {off : Int} {tgt : Nat} (hdg : decode cc pc = .ok (.if_icmp .le off, 3)) (ht : (pc : Int) + off = (tgt : Int)) (kt : x ≤ y → W p l e R s m args below meth c H locs cells slots Q (F0 m tgt ls rest)) (kf : y < x → W p l e R s m args below meth c H locs cells slots Q (F0 m (pc + 3) ls rest)) : W p l e R s m args below meth c H locs cells slots Q (F0 m pc ls (.int (nI y) :: .int (nI x) :: rest)) :=
  lv_icmp_le hexec hb hdg ht (fun h => kt ((nI_leI hx hy).mp h)) (fun h => kf (by rw [nI_leI hx hy] at h; omega))
theorem r_clt (hexec : p.tables.exec = Jvm.exec) (hb : c.code = cc) (x y : Nat) (hx : x < 2 ^ 31) (hy : y < 2 ^ 31) {off : Int} {tgt : Nat} (hdg : decode cc pc = .ok (.if_icmp .lt off, 3)) (ht : (pc : Int) + off = (tgt : Int)) (kt : x < y → W p l e R s m args below meth c H locs cells slots Q (F0 m tgt ls rest)) (kf : y ≤ x → W p l e R s m args below meth c H locs cells slots Q (F0 m (pc + 3) ls rest)) : W p l e R s m args below meth c H locs cells slots Q (F0 m pc ls (.int (nI y) :: .int (nI x) :: rest)) :=
  lv_icmp_lt hexec hb hdg ht (fun h => kt ((nI_ltI hx hy).mp h)) (fun h => kf (by rw [nI_ltI hx hy] at h; omega))
theorem r_ceq (hexec : p.tables.exec = Jvm.exec) (hb : c.code = cc) (x y : Nat) (hx : x < 2 ^ 31) (hy : y < 2 ^ 31) {off : Int} {tgt : Nat} (hdg : decode cc pc = .ok (.if_icmp .eq off, 3)) (ht : (pc : Int) + off = (tgt : Int)) (kt : x = y → W p l e R s m args below meth c H locs cells slots Q (F0 m tgt ls rest)) (kf : ¬ x = y → W p l e R s m args below meth c H locs cells slots Q (F0 m (pc + 3) ls rest)) : W p l e R s m args below meth c H locs cells slots Q (F0 m pc ls (.int (nI y) :: .int (nI x) :: rest)) :=
  lv_icmp_eq hexec hb hdg ht (fun h => kt ((nI_eq hx hy).mp h)) (fun h => kf (by rw [nI_eq hx hy] at h; exact h))
theorem r_cne (hexec : p.tables.exec = Jvm.exec) (hb : c.code = cc) (x y : Nat) (hx : x < 2 ^ 31) (hy : y < 2 ^ 31) {off : Int} {tgt : Nat} (hdg : decode cc pc = .ok (.if_icmp .ne off, 3)) (ht : (pc : Int) + off = (tgt : Int)) (kt : ¬ x = y → W p l e R s m args below meth c H locs cells slots Q (F0 m tgt ls rest)) (kf : x = y → W p l e R s m args below meth c H locs cells slots Q (F0 m (pc + 3) ls rest)) : W p l e R s m args below meth c H locs cells slots Q (F0 m pc ls (.int (nI y) :: .int (nI x) :: rest)) :=
  lv_icmp_ne hexec hb hdg ht (fun h => kt (by rw [nI_eq hx hy] at h; exact h)) (fun h => kf ((nI_eq hx hy).mp (by first | exact h | exact Decidable.of_not_not h)))
/-- a value on top gets another form -/
theorem r_top {x y : Int32} (h : x = y) (k : W p l e R s m args below meth c H locs cells slots Q (F0 m pc ls (.int y :: rest))) : W p l e R s m args below meth c H locs cells slots Q (F0 m pc ls (.int x :: rest)) := h ▸ k
theorem r_topl {x y : Int64} (h : x = y) (k : W p l e R s m args below meth c H locs cells slots Q (F0 m pc ls (.long y :: rest))) : W p l e R s m args below meth c H locs cells slots Q (F0 m pc ls (.long x :: rest)) := h ▸ k
/-! the ends -/
theorem r_iret {S : Type} {post : Int32 → S → Prop} {G' : S → List va_W} {v : Int32} (hexec : p.tables.exec = Jvm.exec) (hb : c.code = cc) (hr : meth.sig.returnType = some .int) (hlocks : meth.locks = false) (u : S) (hw : gW D A s.heap (G' u) H locs) (hp : post v u) (hdg : decode cc pc = .ok (.ireturn, 1)) : W p l e R s m args below meth c H locs 0 0 (MQ below (va_Qi post (cB D A G') A) args s 0 0 A) (F0 m pc ls [.int v]) :=
  W.iret hexec hb hr (fun t ht hW => ⟨⟨v, u, rfl, hp, by rw [ht]; exact hw.1, hw.2.1⟩, hw.2.2.F ht⟩) hw.2.2.2.2 hdg hlocks
theorem r_zret {S : Type} {post : Int32 → S → Prop} {G' : S → List va_W} {v : Int32} (hexec : p.tables.exec = Jvm.exec) (hb : c.code = cc) (hr : meth.sig.returnType = some .boolean) (hlocks : meth.locks = false) (u : S) (hn : narrow .boolean (.int v) = .int v) (hw : gW D A s.heap (G' u) H locs) (hp : post v u) (hdg : decode cc pc = .ok (.ireturn, 1)) : W p l e R s m args below meth c H locs 0 0 (MQ below (va_Qi post (cB D A G') A) args s 0 0 A) (F0 m pc ls [.int v]) :=
  W.zret hexec hb hr hn (fun t ht hW => ⟨⟨v, u, rfl, hp, by rw [ht]; exact hw.1, hw.2.1⟩, hw.2.2.F ht⟩) hw.2.2.2.2 hdg hlocks
theorem r_lret {S : Type} {post : Int64 → S → Prop} {G' : S → List va_W} {v : Int64} (hexec : p.tables.exec = Jvm.exec) (hb : c.code = cc) (hr : meth.sig.returnType = some .long) (hlocks : meth.locks = false) (u : S) (hw : gW D A s.heap (G' u) H locs) (hp : post v u) (hdg : decode cc pc = .ok (.lreturn, 1)) : W p l e R s m args below meth c H locs 0 0 (MQ below (va_Ql post (cB D A G') A) args s 0 0 A) (F0 m pc ls [.long v]) :=
  W.lret hexec hb hr (fun t ht hW => ⟨⟨v, u, rfl, hp, by rw [ht]; exact hw.1, hw.2.1⟩, hw.2.2.F ht⟩) hw.2.2.2.2 hdg hlocks
theorem r_vret {S : Type} {post : S → Prop} {G' : S → List va_W} (hexec : p.tables.exec = Jvm.exec) (hb : c.code = cc) (hr : meth.sig.returnType = none) (hlocks : meth.locks = false) (u : S) (hw : gW D A s.heap (G' u) H locs) (hp : post u) (hdg : decode cc pc = .ok (.return_, 1)) : W p l e R s m args below meth c H locs 0 0 (MQ below (va_Qv post (cB D A G') A) args s 0 0 A) (F0 m pc ls []) :=
  W.vret hexec hb hr (fun t ht hW => ⟨⟨u, rfl, hp, by rw [ht]; exact hw.1, hw.2.1⟩, hw.2.2.F ht⟩) hw.2.2.2.2 hdg hlocks
/-! calls -/
variable {o o' : Option (Nat → Nat)} {y : MethodName} {bytes : ByteArray} {maxL nL n index : Nat} {ret : Option FieldType} {wsc Ts : List Cond} {own C : String} {b fr lo ci : Nat} {As st0 : List Value} {fs : List Value} {q : vw_C} {S : Type} {G' : S → List va_W}
theorem c_pre (hK : va_K D vwCl tys s) (hX : sX o A s s.heap) (hw : gW D A s.heap G H locs) {av : List Value} : PreS s H (cPre av D tys A o G) av :=
  ⟨cPre_blind av D tys A o G, fun U hU hW => ⟨rfl, by rw [hU]; exact hw.1, va_K.moved hW.alike hK, hw.2.1, by rw [hU]; exact (hX.moved hW.alike).kept hw.2.2.2.1⟩⟩
theorem c_preV (hK : va_K D vwCl tys s) (hX : sX o A s s.heap) (hw : gW D A s.heap G H locs) (hc : vwCl[ci]? = some q) (he : G.flatten[0]? = some (b, .inr (ci, fs))) : PreV s H q.1 b (cPre (.ref b :: As) D tys A o G) As :=
  ⟨cPre_blind _ D tys A o G, va_recv hK hw.1 hc he, (c_pre hK hX hw).2⟩
theorem c_vi {post : Int32 → S → Prop} (fx : CallFix p m c cc nL s args Ts own) (hM : Ci l y wsc fr lo (.ref b :: As) D tys A o G post G') (cw : CallW R s args own q.1 index y bytes maxL ret wsc { frames := fr, cells := 0, slots := 0, locals := lo } 0 0 n) (hK : va_K D vwCl tys s) (hX : sX o A s s.heap) (hw : gW D A s.heap G H locs) (hc : vwCl[ci]? = some q) (he : G.flatten[0]? = some (b, .inr (ci, fs))) (hn : As.length = n) {lv0 : List (Nat × Value)} (hsz : lv_has ls nL lv0) (hst : st0 = As.reverse ++ .ref b :: rest) (hW : (rest.map fun v => v.category).sum ≤ 8) (hcs : cells ≤ R.cells ∧ slots ≤ R.slots) (hdg : decode cc pc = .ok (.invokevirtual index, 3))
    (kk : ∀ (r : Int32) (u : S) (H1 : Heap) (locs1 : List Loc), post r u → gW D A s.heap (G' u) H1 locs1 → W p l e R s m args below meth c H1 locs1 cells slots Q (F0 m (pc + 3) ls (.int r :: rest))) : W p l e R s m args below meth c H locs cells slots Q (F0 m pc ls st0) := by
  subst hst
  refine va_calli (va_runV (As := As) (rest := rest) fx hM cw (c_preV hK hX hw hc he) rfl hn hsz.1 rfl (lv_room hW) hdg hcs) hw.2.2 (fun q _ h => h) (fun q h => h) (fun r u t H1 locs1 ht _ hp hB _ _ hS => ?_)
  exact kk r u H1 locs1 hp ⟨by rw [← ht]; exact hB.1, hB.2, hS⟩
theorem c_vl {post : Int64 → S → Prop} (fx : CallFix p m c cc nL s args Ts own) (hM : Cl l y wsc fr lo (.ref b :: As) D tys A o G post G') (cw : CallW R s args own q.1 index y bytes maxL ret wsc { frames := fr, cells := 0, slots := 0, locals := lo } 0 0 n) (hK : va_K D vwCl tys s) (hX : sX o A s s.heap) (hw : gW D A s.heap G H locs) (hc : vwCl[ci]? = some q) (he : G.flatten[0]? = some (b, .inr (ci, fs))) (hn : As.length = n) {lv0 : List (Nat × Value)} (hsz : lv_has ls nL lv0) (hst : st0 = As.reverse ++ .ref b :: rest) (hW : (rest.map fun v => v.category).sum ≤ 8) (hcs : cells ≤ R.cells ∧ slots ≤ R.slots) (hdg : decode cc pc = .ok (.invokevirtual index, 3))
    (kk : ∀ (r : Int64) (u : S) (H1 : Heap) (locs1 : List Loc), post r u → gW D A s.heap (G' u) H1 locs1 → W p l e R s m args below meth c H1 locs1 cells slots Q (F0 m (pc + 3) ls (.long r :: rest))) : W p l e R s m args below meth c H locs cells slots Q (F0 m pc ls st0) := by
  subst hst
  refine va_calll (va_runV (As := As) (rest := rest) fx hM cw (c_preV hK hX hw hc he) rfl hn hsz.1 rfl (lv_room hW) hdg hcs) hw.2.2 (fun q _ h => h) (fun q h => h) (fun r u t H1 locs1 ht _ hp hB _ _ hS => ?_)
  exact kk r u H1 locs1 hp ⟨by rw [← ht]; exact hB.1, hB.2, hS⟩
theorem c_vv {post : S → Prop} (fx : CallFix p m c cc nL s args Ts own) (hM : Cv l y wsc fr lo (.ref b :: As) D tys A o G post G') (cw : CallW R s args own q.1 index y bytes maxL ret wsc { frames := fr, cells := 0, slots := 0, locals := lo } 0 0 n) (hK : va_K D vwCl tys s) (hX : sX o A s s.heap) (hw : gW D A s.heap G H locs) (hc : vwCl[ci]? = some q) (he : G.flatten[0]? = some (b, .inr (ci, fs))) (hn : As.length = n) {lv0 : List (Nat × Value)} (hsz : lv_has ls nL lv0) (hst : st0 = As.reverse ++ .ref b :: rest) (hW : (rest.map fun v => v.category).sum ≤ 8) (hcs : cells ≤ R.cells ∧ slots ≤ R.slots) (hdg : decode cc pc = .ok (.invokevirtual index, 3))
    (kk : ∀ (u : S) (H1 : Heap) (locs1 : List Loc), post u → gW D A s.heap (G' u) H1 locs1 → W p l e R s m args below meth c H1 locs1 cells slots Q (F0 m (pc + 3) ls rest)) : W p l e R s m args below meth c H locs cells slots Q (F0 m pc ls st0) := by
  subst hst
  refine va_callv (va_runV (As := As) (rest := rest) fx hM cw (c_preV hK hX hw hc he) rfl hn hsz.1 rfl (lv_room hW) hdg hcs) hw.2.2 (fun q _ h => h) (fun q h => h) (fun u t H1 locs1 ht _ hp hB _ _ hS => ?_)
  exact kk u H1 locs1 hp ⟨by rw [← ht]; exact hB.1, hB.2, hS⟩
theorem c_si {post : Int32 → S → Prop} (fx : CallFix p m c cc nL s args Ts own) (hM : Ci l y wsc fr lo As D tys A o G post G') (cw : CallB R s args own index y bytes maxL ret wsc { frames := fr, cells := 0, slots := 0, locals := lo } 0 0 n ∧ (Cond.static y).before args s = true) (hK : va_K D vwCl tys s) (hX : sX o A s s.heap) (hw : gW D A s.heap G H locs) (hn : As.length = n) {lv0 : List (Nat × Value)} (hsz : lv_has ls nL lv0) (hst : st0 = As.reverse ++ rest) (hW : (rest.map fun v => v.category).sum ≤ 8) (hcs : cells ≤ R.cells ∧ slots ≤ R.slots) (hdg : decode cc pc = .ok (.invokestatic index, 3))
    (kk : ∀ (r : Int32) (u : S) (H1 : Heap) (locs1 : List Loc), post r u → gW D A s.heap (G' u) H1 locs1 → W p l e R s m args below meth c H1 locs1 cells slots Q (F0 m (pc + 3) ls (.int r :: rest))) : W p l e R s m args below meth c H locs cells slots Q (F0 m pc ls st0) := by
  subst hst
  refine va_calli (va_runS (As := As) (rest := rest) fx hM cw (c_pre hK hX hw) rfl hn hsz.1 rfl (lv_room hW) hdg hcs) hw.2.2 (fun q _ h => h) (fun q h => h) (fun r u t H1 locs1 ht _ hp hB _ _ hS => ?_)
  exact kk r u H1 locs1 hp ⟨by rw [← ht]; exact hB.1, hB.2, hS⟩
end RROWS
end
section
/-! the groups: what the objects hold, by their addresses -/
abbrev tyA (c4 : Nat → ClassId) : List (ClassId × FieldType) := [(c4 0, .int), (c4 1, .boolean), (c4 2, .object RX5), (c4 3, .object RX6)]
/-- a row of ints -/
abbrev aG (c4 : Nat → ClassId) (a n : Nat) (f : Nat → Int32) : va_W := [(a, .inl (c4 0, n, .inl f))]
/-- a row of booleans -/
abbrev zG (c4 : Nat → ClassId) (a n : Nat) (f : Nat → Int32) : va_W := [(a, .inl (c4 1, n, .inl f))]
/-- Yards -/
abbrev yG (c4 : Nat → ClassId) (a : Nat → Nat) (n os : Int32) (kd ic br : Nat → Int32) : va_W := [(a 0, .inr (6, [.int n, .int os, .ref (a 1), .ref (a 2), .ref (a 3)])), (a 1, .inl (c4 0, 12, .inl kd)), (a 2, .inl (c4 0, 12, .inl ic)), (a 3, .inl (c4 0, 12, .inl br))]
/-- Winter (its Yards are another group) -/
abbrev wG (b y : Nat) (bt nt sd : Int32) : va_W := [(b, .inr (5, [.ref y, .int bt, .int nt, .int sd]))]
/-- Boat -/
abbrev bG (c4 : Nat → ClassId) (a : Nat → Nat) (nb : Nat → Int32) : va_W := [(a 0, .inr (0, [.ref (a 1)])), (a 1, .inl (c4 0, 9, .inl nb))]
/-- Trip -/
abbrev tG (c4 : Nat → ClassId) (a : Nat → Nat) (bh mi fb : Int32) (ba : Nat → Int32) : va_W := [(a 0, .inr (4, [.int bh, .int mi, .int fb, .ref (a 1)])), (a 1, .inl (c4 0, 12, .inl ba))]
/-- Records -/
abbrev rG (c4 : Nat → ClassId) (a : Nat → Nat) (bc ec : Int32) (by0 bn bd bi ey ei : Nat → Int32) : va_W := [(a 0, .inr (1, [.int bc, .int ec, .ref (a 1), .ref (a 2), .ref (a 3), .ref (a 4), .ref (a 5), .ref (a 6)])), (a 1, .inl (c4 0, 10, .inl by0)), (a 2, .inl (c4 0, 10, .inl bn)), (a 3, .inl (c4 0, 10, .inl bd)), (a 4, .inl (c4 0, 10, .inl bi)), (a 5, .inl (c4 0, 15, .inl ey)), (a 6, .inl (c4 0, 15, .inl ei))]
/-- Text -/
abbrev xG (c4 : Nat → ClassId) (a : Nat → Nat) (ln yc fn fp pl cs : Int32) (lt nb yk yi : Nat → Int32) : va_W := [(a 0, .inr (3, [.ref (a 1), .int ln, .ref (a 2), .ref (a 3), .ref (a 4), .int yc, .int fn, .int fp, .int pl, .int cs])), (a 1, .inl (c4 0, 230, .inl lt)), (a 2, .inl (c4 0, 9, .inl nb)), (a 3, .inl (c4 0, 12, .inl yk)), (a 4, .inl (c4 0, 12, .inl yi))]
/-- Search (its Trip and its levels' Yards are other groups) -/
abbrev sG (c4 : Nat → ClassId) (a : Nat → Nat) (lc lS dp mi fo ax co th pe cd dc wc : Int32) (lv : Nat → Option Nat) : va_W := [(a 0, .inr (2, [.int lc, .int lS, .ref (a 1), .ref (a 2), .int dp, .int mi, .int fo, .int ax, .int co, .int th, .int pe, .int cd, .int dc, .int wc])), (a 2, .inl (c4 3, 9, .inr (.inr (.inr (.inr lv)))))]
/-- IceSway (all that it holds are other groups) -/
abbrev iG (a : Nat → Nat) (fp : Int32) : va_W := [(a 0, .inr (7, [.ref (a 1), .ref (a 2), .ref (a 3), .ref (a 4), .ref (a 5), .ref (a 6), .ref (a 7), .ref (a 8), .ref (a 9), .int fp]))]
/-- the images' row -/
abbrev gG (c4 : Nat → ClassId) (a : Nat) (f : Nat → Option Nat) : va_W := [(a, .inl (c4 2, 2, .inr (.inr (.inr (.inr f)))))]
/-- the reference's object (its rows are other groups) -/
abbrev mG (a : Nat → Nat) (yn tx pl st va fy fa ry se bh mi fb bo bk : Int32) : va_W := [(a 0, .inr (8, [.ref (a 1), .ref (a 2), .int yn, .ref (a 3), .ref (a 4), .int tx, .int pl, .int st, .int va, .int fy, .int fa, .int ry, .int se, .ref (a 5), .ref (a 6), .ref (a 7), .int bh, .int mi, .int fb, .ref (a 8), .int bo, .ref (a 9), .ref (a 10), .ref (a 11), .ref (a 12), .int bk, .ref (a 13), .ref (a 14)]))]
/-! how a method's walk begins: its end is taken as given ('kr') -/
section BEGINS
variable {l : Launch} {y : MethodName} {ws ws' : List Cond} {fr lo : Nat} {av : List Value} {D : va_G} {tys : List (ClassId × FieldType)} {A : Nat → Prop} {o : Option (Nat → Nat)} {G : List va_W} {cc : ByteArray} {maxL : Nat} {lv : List (Nat × Value)} {S : Type} {G' : S → List va_W}
theorem cOi {post : Int32 → S → Prop} (hy : plainName y.cls = true) (hw : ws = Cond.code y cc maxL (some .int) :: ws') (hn : (lg_sl av).length ≤ maxL) (hlv : lv_args 0 av = lv)
    (body : ∀ (p : Program) (e : Env) (s : State) (m : MethodId) (below : List Frame) (meth : Method) (c : Code) (ls : Array Slot) (args : Array Value) (R : Room) (Q : State → Prop), R.frames = fr → R.locals = lo → cGo p s m meth c args cc maxL (some .int) ws y.cls D tys A o → gW D A s.heap G s.heap [] → lv_has ls maxL lv →
      (∀ (v : Int32) (u : S) (H : Heap) (locs : List Loc) (pc : Nat) (ls : Array Slot), gW D A s.heap (G' u) H locs → post v u → decode cc pc = .ok (.ireturn, 1) → W p l e R s m args below meth c H locs 0 0 Q (F0 m pc ls [.int v])) →
      W p l e R s m args below meth c s.heap [] 0 0 Q (F0 m 0 ls [])) : Ci l y ws fr lo av D tys A o G post G' :=
  cOf hy hw hn hlv (fun p e s m below meth c ls hg hw hl => body p e s m below meth c ls _ _ _ rfl rfl hg hw hl (fun v u H locs pc ls hw hp hd => r_iret hg.1 hg.2.1 hg.2.2.2.1 hg.2.2.2.2.2.2.1 u hw hp hd))
theorem cOz {post : Int32 → S → Prop} (hy : plainName y.cls = true) (hw : ws = Cond.code y cc maxL (some .boolean) :: ws') (hn : (lg_sl av).length ≤ maxL) (hlv : lv_args 0 av = lv)
    (body : ∀ (p : Program) (e : Env) (s : State) (m : MethodId) (below : List Frame) (meth : Method) (c : Code) (ls : Array Slot) (args : Array Value) (R : Room) (Q : State → Prop), R.frames = fr → R.locals = lo → cGo p s m meth c args cc maxL (some .boolean) ws y.cls D tys A o → gW D A s.heap G s.heap [] → lv_has ls maxL lv →
      (∀ (v : Int32) (u : S) (H : Heap) (locs : List Loc) (pc : Nat) (ls : Array Slot), gW D A s.heap (G' u) H locs → narrow .boolean (.int v) = .int v → post v u → decode cc pc = .ok (.ireturn, 1) → W p l e R s m args below meth c H locs 0 0 Q (F0 m pc ls [.int v])) →
      W p l e R s m args below meth c s.heap [] 0 0 Q (F0 m 0 ls [])) : Ci l y ws fr lo av D tys A o G post G' :=
  cOf hy hw hn hlv (fun p e s m below meth c ls hg hw hl => body p e s m below meth c ls _ _ _ rfl rfl hg hw hl (fun v u H locs pc ls hw hnr hp hd => r_zret hg.1 hg.2.1 hg.2.2.2.1 hg.2.2.2.2.2.2.1 u hnr hw hp hd))
theorem cOl {post : Int64 → S → Prop} (hy : plainName y.cls = true) (hw : ws = Cond.code y cc maxL (some .long) :: ws') (hn : (lg_sl av).length ≤ maxL) (hlv : lv_args 0 av = lv)
    (body : ∀ (p : Program) (e : Env) (s : State) (m : MethodId) (below : List Frame) (meth : Method) (c : Code) (ls : Array Slot) (args : Array Value) (R : Room) (Q : State → Prop), R.frames = fr → R.locals = lo → cGo p s m meth c args cc maxL (some .long) ws y.cls D tys A o → gW D A s.heap G s.heap [] → lv_has ls maxL lv →
      (∀ (v : Int64) (u : S) (H : Heap) (locs : List Loc) (pc : Nat) (ls : Array Slot), gW D A s.heap (G' u) H locs → post v u → decode cc pc = .ok (.lreturn, 1) → W p l e R s m args below meth c H locs 0 0 Q (F0 m pc ls [.long v])) →
      W p l e R s m args below meth c s.heap [] 0 0 Q (F0 m 0 ls [])) : Cl l y ws fr lo av D tys A o G post G' :=
  cOf hy hw hn hlv (fun p e s m below meth c ls hg hw hl => body p e s m below meth c ls _ _ _ rfl rfl hg hw hl (fun v u H locs pc ls hw hp hd => r_lret hg.1 hg.2.1 hg.2.2.2.1 hg.2.2.2.2.2.2.1 u hw hp hd))
theorem cOv {post : S → Prop} (hy : plainName y.cls = true) (hw : ws = Cond.code y cc maxL none :: ws') (hn : (lg_sl av).length ≤ maxL) (hlv : lv_args 0 av = lv)
    (body : ∀ (p : Program) (e : Env) (s : State) (m : MethodId) (below : List Frame) (meth : Method) (c : Code) (ls : Array Slot) (args : Array Value) (R : Room) (Q : State → Prop), R.frames = fr → R.locals = lo → cGo p s m meth c args cc maxL none ws y.cls D tys A o → gW D A s.heap G s.heap [] → lv_has ls maxL lv →
      (∀ (u : S) (H : Heap) (locs : List Loc) (pc : Nat) (ls : Array Slot), gW D A s.heap (G' u) H locs → post u → decode cc pc = .ok (.return_, 1) → W p l e R s m args below meth c H locs 0 0 Q (F0 m pc ls [])) →
      W p l e R s m args below meth c s.heap [] 0 0 Q (F0 m 0 ls [])) : Cv l y ws fr lo av D tys A o G post G' :=
  cOf hy hw hn hlv (fun p e s m below meth c ls hg hw hl => body p e s m below meth c ls _ _ _ rfl rfl hg hw hl (fun u H locs pc ls hw hp hd => r_vret hg.1 hg.2.1 hg.2.2.2.1 hg.2.2.2.2.2.2.1 u hw hp hd))
end BEGINS
theorem rmv {fr lo mL Rf Rl : Nat} (h1 : fr + 1 ≤ Rf) (h2 : 8 + (mL + 11) + lo ≤ Rl) {R : Room} (hf : R.frames = Rf) (hl : R.locals = Rl) : fr + 1 ≤ R.frames ∧ 8 + (mL + 11) + lo ≤ R.locals := by
  rw [hf, hl]; exact ⟨h1, h2⟩
end
section
/-! plain facts on numbers and arrays, to paste: each family by itself; over the kit's rows on nI and upd -/
/-! ===== order of ints, in all its forms, and through longs ===== -/
theorem fa_lt (a b : Int32) : a < b ↔ a.toInt < b.toInt := Int32.lt_iff_toInt_lt
theorem fa_le (a b : Int32) : a ≤ b ↔ a.toInt ≤ b.toInt := Int32.le_iff_toInt_le
theorem fa_eq (a b : Int32) : a = b ↔ a.toInt = b.toInt := Int32.toInt_inj.symm
theorem fa_lt64 (a b : Int64) : a < b ↔ a.toInt < b.toInt := Int64.lt_iff_toInt_lt
theorem fa_le64 (a b : Int64) : a ≤ b ↔ a.toInt ≤ b.toInt := Int64.le_iff_toInt_le
theorem fa_eq64 (a b : Int64) : a = b ↔ a.toInt = b.toInt := Int64.toInt_inj.symm
/-- a comparison of two ints taken as longs -/
theorem fa_wide_lt (a b : Int32) : a.toInt64 < b.toInt64 ↔ a < b := by rw [fa_lt64, fa_lt, Int32.toInt_toInt64, Int32.toInt_toInt64]
theorem fa_wide_le (a b : Int32) : a.toInt64 ≤ b.toInt64 ↔ a ≤ b := by rw [fa_le64, fa_le, Int32.toInt_toInt64, Int32.toInt_toInt64]
theorem fa_wide_eq (a b : Int32) : a.toInt64 = b.toInt64 ↔ a = b := by rw [fa_eq64, fa_eq, Int32.toInt_toInt64, Int32.toInt_toInt64]
/-- one strict comparison gives all the others -/
theorem fa_of_lt {a b : Int32} (h : a < b) : a ≤ b ∧ ¬ b ≤ a ∧ ¬ b < a ∧ a ≠ b ∧ b ≠ a := by
  rw [fa_lt] at h
  refine ⟨?_, ?_, ?_, ?_, ?_⟩
  · rw [fa_le]; omega
  · rw [fa_le]; omega
  · rw [fa_lt]; omega
  · intro e; rw [fa_eq] at e; omega
  · intro e; rw [fa_eq] at e; omega
theorem fa_of_nlt {a b : Int32} (h : ¬ a < b) : b ≤ a := by
  rw [fa_lt] at h
  rw [fa_le]
  omega
theorem fa_of_nle {a b : Int32} (h : ¬ a ≤ b) : b < a := by
  rw [fa_le] at h
  rw [fa_lt]
  omega
theorem fa_le_ne {a b : Int32} (h : a ≤ b) (h2 : a ≠ b) : a < b := by
  rw [fa_le] at h
  rw [fa_lt]
  have h3 : a.toInt ≠ b.toInt := fun e => h2 ((fa_eq a b).mpr e)
  omega
theorem fa_three (a b : Int32) : a < b ∨ a = b ∨ b < a := by
  rw [fa_lt, fa_lt, fa_eq]
  omega
theorem fa_trans {a b c : Int32} (h : a < b) (h2 : b ≤ c) : a < c := by
  rw [fa_lt] at *
  rw [fa_le] at h2
  omega
/-! ===== small literals as numbers ===== -/
theorem fa_lit (n : Nat) : (OfNat.ofNat n : Int32) = nI n := rfl
theorem fa_litL (n : Nat) : (OfNat.ofNat n : Int64) = lN n := rfl
/-! ===== bits of a number: 'or', masks, one bit ===== -/
theorem fa_and (a b : Nat) : nI a &&& nI b = nI (a &&& b) := by
  apply Int32.toBitVec_inj.1
  show BitVec.ofNat 32 a &&& BitVec.ofNat 32 b = BitVec.ofNat 32 (a &&& b)
  apply BitVec.eq_of_getLsbD_eq
  intro i hi
  simp [hi]
theorem fa_or (a b : Nat) : nI a ||| nI b = nI (a ||| b) := by
  apply Int32.toBitVec_inj.1
  show BitVec.ofNat 32 a ||| BitVec.ofNat 32 b = BitVec.ofNat 32 (a ||| b)
  apply BitVec.eq_of_getLsbD_eq
  intro i hi
  simp [hi]
/-- a remainder by a power of two, as a mask -/
theorem fa_mask (n k : Nat) : nI n &&& nI (2 ^ k - 1) = nI (n % 2 ^ k) := by rw [fa_and, Nat.and_two_pow_sub_one_eq_mod]
/-- 'or' of a high part and a low one that don't meet is their sum -/
theorem fa_or_sum {a k : Nat} (b : Nat) (h : a < 2 ^ k) : nI (2 ^ k * b) ||| nI a = nI (2 ^ k * b + a) := by rw [fa_or, Nat.two_pow_add_eq_or_of_lt h]
/-- one bit, by 'and' with a power of two -/
theorem fa_bit {n j : Nat} (hj : j < 31) : nI n &&& nI (2 ^ j) = 0 ↔ n.testBit j = false := by
  have h2 : (2 : Nat) ^ j < 2 ^ 31 := Nat.pow_lt_pow_right (by decide) hj
  have hle : n &&& 2 ^ j ≤ 2 ^ j := Nat.and_le_right
  have e : n &&& 2 ^ j = 0 ↔ n.testBit j = false := by
    constructor
    · intro h
      have h1 : (n &&& 2 ^ j).testBit j = false := by rw [h]; simp
      rw [Nat.testBit_and] at h1
      first | simpa using h1 | simpa [Nat.testBit_two_pow_self] using h1 | simpa [Nat.testBit_two_pow] using h1
    · intro h
      apply Nat.eq_of_testBit_eq
      intro i
      rw [Nat.testBit_and]
      by_cases hi : j = i
      · subst hi; simp [h]
      · first | (simp [Nat.testBit_two_pow, hi]; done) | (simp [Nat.testBit_two_pow_of_ne hi]; done)
  rw [fa_and]
  constructor
  · intro h
    apply e.mp
    rcases Nat.eq_zero_or_pos (n &&& 2 ^ j) with z | z
    · exact z
    · exact absurd h (nI_ne0 z (Nat.lt_of_le_of_lt hle h2))
  · intro h
    rw [e.mpr h]; exact nI_0
/-- a remainder by a power of two of a number that isn't negative, as Java divides -/
theorem fa_rem {a k : Nat} (ha : a < 2 ^ 31) (hk : k < 31) : nI a - nI a / nI (2 ^ k) * nI (2 ^ k) = nI (a % 2 ^ k) := pk_rem ha (Nat.two_pow_pos k) (Nat.pow_lt_pow_right (by decide) hk)
/-! ===== cuts to a byte, a short ===== -/
theorem fa_byte_xor (x y : Int32) : (x ^^^ y).toInt8 = x.toInt8 ^^^ y.toInt8 := by
  apply Int8.toBitVec_inj.1
  apply BitVec.eq_of_getLsbD_eq
  intro i hi
  first | (simp [hi]; done) | (simp [hi, BitVec.getLsbD_setWidth, BitVec.getLsbD_signExtend]; done)
theorem fa_short_xor (x y : Int32) : (x ^^^ y).toInt16 = x.toInt16 ^^^ y.toInt16 := by
  apply Int16.toBitVec_inj.1
  apply BitVec.eq_of_getLsbD_eq
  intro i hi
  first | (simp [hi]; done) | (simp [hi, BitVec.getLsbD_setWidth, BitVec.getLsbD_signExtend]; done)
/-- the cut to a byte sees the low byte alone -/
theorem fa_byte_low (x : Int32) : (x &&& 255).toInt8 = x.toInt8 := by
  apply Int8.toBitVec_inj.1
  apply BitVec.eq_of_getLsbD_eq
  intro i hi
  have h2 : (255 : Int32).toBitVec.getLsbD i = true := by
    have : ∀ j : Fin 8, (255 : Int32).toBitVec.getLsbD j.val = true := by decide +kernel
    exact this ⟨i, hi⟩
  have h4 : (x &&& 255).toBitVec.getLsbD i = x.toBitVec.getLsbD i := by
    show (x.toBitVec &&& (255 : Int32).toBitVec).getLsbD i = _
    rw [BitVec.getLsbD_and, h2, Bool.and_true]
  have h3 : i < 32 := by omega
  first
    | (show (((x &&& 255).toBitVec).signExtend 8).getLsbD i = (x.toBitVec.signExtend 8).getLsbD i; rw [BitVec.getLsbD_signExtend, BitVec.getLsbD_signExtend, if_pos h3, if_pos h3, h4])
    | (show (((x &&& 255).toBitVec).setWidth 8).getLsbD i = (x.toBitVec.setWidth 8).getLsbD i; rw [BitVec.getLsbD_setWidth, BitVec.getLsbD_setWidth, h4])
    | (simp [hi, h3, h4]; done)
theorem fa_short_low (x : Int32) : (x &&& 65535).toInt16 = x.toInt16 := by
  apply Int16.toBitVec_inj.1
  apply BitVec.eq_of_getLsbD_eq
  intro i hi
  have h2 : (65535 : Int32).toBitVec.getLsbD i = true := by
    have : ∀ j : Fin 16, (65535 : Int32).toBitVec.getLsbD j.val = true := by decide +kernel
    exact this ⟨i, hi⟩
  have h4 : (x &&& 65535).toBitVec.getLsbD i = x.toBitVec.getLsbD i := by
    show (x.toBitVec &&& (65535 : Int32).toBitVec).getLsbD i = _
    rw [BitVec.getLsbD_and, h2, Bool.and_true]
  have h3 : i < 32 := by omega
  first
    | (show (((x &&& 65535).toBitVec).signExtend 16).getLsbD i = (x.toBitVec.signExtend 16).getLsbD i; rw [BitVec.getLsbD_signExtend, BitVec.getLsbD_signExtend, if_pos h3, if_pos h3, h4])
    | (show (((x &&& 65535).toBitVec).setWidth 16).getLsbD i = (x.toBitVec.setWidth 16).getLsbD i; rw [BitVec.getLsbD_setWidth, BitVec.getLsbD_setWidth, h4])
    | (simp [hi, h3, h4]; done)
/-- a small number is its own byte, its own short -/
theorem fa_byte_small {n : Nat} (h : n < 128) : (nI n).toInt8.toInt32 = nI n := by
  have : ∀ j : Fin 128, (nI j.val).toInt8.toInt32 = nI j.val := by decide +kernel
  exact this ⟨n, h⟩
/-! ===== absolute difference ===== -/
theorem fa_absdiff {a b : Nat} (ha : a < 2 ^ 31) (hb : b < 2 ^ 31) : (if nI a < nI b then nI b - nI a else nI a - nI b) = nI (if a < b then b - a else a - b) := by
  by_cases h : a < b
  · rw [if_pos (nI_lt h hb), if_pos h]
    exact pk_sub (Nat.le_of_lt h)
  · rw [if_neg (nI_nlt (Nat.le_of_not_lt h) ha), if_neg h]
    exact pk_sub (Nat.le_of_not_lt h)
/-! ===== an array behind i stores, a conditional store, a row copied ===== -/
/-- f where k < i, what stood there else -/
def fa_fill {α : Type} (f g : Nat → α) (i : Nat) : Nat → α := fun k => if k < i then f k else g k
theorem fa_fill_0 {α : Type} (f g : Nat → α) : fa_fill f g 0 = g := funext fun k => if_neg (Nat.not_lt_zero k)
theorem fa_fill_in {α : Type} {f g : Nat → α} {i k : Nat} (h : k < i) : fa_fill f g i k = f k := if_pos h
theorem fa_fill_out {α : Type} {f g : Nat → α} {i k : Nat} (h : i ≤ k) : fa_fill f g i k = g k := if_neg (Nat.not_lt.mpr h)
theorem fa_fill_succ (f g : Nat → Int32) (i : Nat) : upd (fa_fill f g i) i (f i) = fa_fill f g (i + 1) := by
  funext k
  by_cases e : k = i
  · subst e
    rw [pk_us]
    exact (if_pos (Nat.lt_succ_self k)).symm
  · rw [pk_un e]
    by_cases h : k < i
    · rw [fa_fill_in h, fa_fill_in (Nat.lt_succ_of_lt h)]
    · rw [fa_fill_out (Nat.le_of_not_lt h), fa_fill_out (by omega)]
/-- a store that changes nothing -/
theorem fa_upd_same {f : Nat → Int32} {i : Nat} {x : Int32} (h : f i = x) : upd f i x = f := by
  funext k
  by_cases e : k = i
  · subst e
    rw [pk_us, h]
  · rw [pk_un e]
/-- a store under a condition, told as one -/
theorem fa_upd_if (c : Prop) [Decidable c] (f : Nat → Int32) (i : Nat) (x : Int32) : (if c then upd f i x else f) = upd f i (if c then x else f i) := by
  by_cases h : c
  · rw [if_pos h, if_pos h]
  · rw [if_neg h, if_neg h, fa_upd_same rfl]
/-- two stores at one place, at two -/
theorem fa_upd_twice (f : Nat → Int32) (i : Nat) (x y : Int32) : upd (upd f i x) i y = upd f i y := by
  funext k
  by_cases e : k = i
  · subst e
    rw [pk_us, pk_us]
  · rw [pk_un e, pk_un e, pk_un e]
theorem fa_upd_swap (f : Nat → Int32) {i j : Nat} (h : i ≠ j) (x y : Int32) : upd (upd f i x) j y = upd (upd f j y) i x := by
  funext k
  by_cases e : k = i
  · subst e
    rw [pk_un h, pk_us, pk_us]
  · by_cases e2 : k = j
    · subst e2
      rw [pk_us, pk_un e, pk_us]
    · rw [pk_un e2, pk_un e, pk_un e, pk_un e2]
/-! ===== the first index with a property; a count ===== -/
/-- the first k < n with p k, n if there is none -/
def fa_first (p : Nat → Bool) : Nat → Nat
  | 0 => 0
  | n + 1 => if fa_first p n < n then fa_first p n else if p n then n else n + 1
theorem fa_first_le (p : Nat → Bool) : ∀ n, fa_first p n ≤ n
  | 0 => Nat.le_refl 0
  | n + 1 => by
    have ih := fa_first_le p n
    unfold fa_first
    split
    · omega
    · split
      · omega
      · omega
theorem fa_first_no (p : Nat → Bool) : ∀ n k, k < fa_first p n → p k = false
  | 0, k, h => absurd h (Nat.not_lt_zero k)
  | n + 1, k, h => by
    have ih := fa_first_no p n
    have hl := fa_first_le p n
    unfold fa_first at h
    split at h
    · exact ih k h
    · rename_i h1
      split at h
      · exact ih k (by omega)
      · rename_i h2
        by_cases e : k = n
        · subst e
          exact Bool.eq_false_iff.mpr h2
        · exact ih k (by omega)
theorem fa_first_yes (p : Nat → Bool) : ∀ n, fa_first p n < n → p (fa_first p n) = true
  | 0, h => absurd h (Nat.not_lt_zero _)
  | n + 1, h => by
    have ih := fa_first_yes p n
    have hl := fa_first_le p n
    unfold fa_first at h ⊢
    split at h
    · rename_i h1
      rw [if_pos h1]
      exact ih h1
    · rename_i h1
      rw [if_neg h1]
      split at h
      · rename_i h2
        rw [if_pos h2]
        exact h2
      · omega
/-- how many k < n have p k -/
def fa_cnt (p : Nat → Bool) : Nat → Nat
  | 0 => 0
  | n + 1 => fa_cnt p n + if p n then 1 else 0
theorem fa_cnt_le (p : Nat → Bool) : ∀ n, fa_cnt p n ≤ n
  | 0 => Nat.le_refl 0
  | n + 1 => by
    have ih := fa_cnt_le p n
    unfold fa_cnt
    split
    · omega
    · omega
theorem fa_cnt_yes {p : Nat → Bool} {n : Nat} (h : p n = true) : fa_cnt p (n + 1) = fa_cnt p n + 1 := by rw [fa_cnt, if_pos h]
theorem fa_cnt_no {p : Nat → Bool} {n : Nat} (h : p n = false) : fa_cnt p (n + 1) = fa_cnt p n := by rw [fa_cnt, if_neg (by rw [h]; decide)]; rfl
theorem fa_cnt_cong {p q : Nat → Bool} : ∀ {n : Nat}, (∀ k, k < n → p k = q k) → fa_cnt p n = fa_cnt q n
  | 0, _ => rfl
  | n + 1, h => by rw [fa_cnt, fa_cnt, fa_cnt_cong (fun k hk => h k (Nat.lt_succ_of_lt hk)), h n (Nat.lt_succ_self n)]
/-! ===== an answer carried into a post; a branch on a boolean answer ===== -/
theorem fa_post {α : Type} {P : α → Prop} {x y : α} (h : x = y) (hp : P y) : P x := h ▸ hp
theorem fa_post2 {α β : Type} {P : α → β → Prop} {x y : α} {u v : β} (h : x = y) (h2 : u = v) (hp : P y v) : P x u := h ▸ h2 ▸ hp
theorem fa_bool {r : Int32} {b : Bool} (h : r = if b then 1 else 0) : (r = 0 ↔ b = false) ∧ (¬ r = 0 ↔ b = true) := by
  subst h
  cases b
  · exact ⟨⟨fun _ => rfl, fun _ => rfl⟩, ⟨fun h => absurd rfl h, fun h => absurd h (by decide)⟩⟩
  · exact ⟨⟨fun h => absurd h (by decide), fun h => absurd h (by decide)⟩, ⟨fun _ => rfl, fun _ => by decide⟩⟩
/-- a boolean's narrowing changes nothing -/
theorem fa_bool_and {r : Int32} (h : r = 0 ∨ r = 1) : r &&& 1 = r := by
  rcases h with rfl | rfl
  · decide
  · decide
theorem fa_bool_prop {c : Prop} [Decidable c] {r : Int32} (h : r = if c then 1 else 0) : (r = 0 ↔ ¬ c) ∧ (¬ r = 0 ↔ c) := by
  subst h
  by_cases hc : c
  · rw [if_pos hc]
    exact ⟨⟨fun h => absurd h (by decide), fun h => absurd hc h⟩, ⟨fun _ => hc, fun _ => by decide⟩⟩
  · rw [if_neg hc]
    exact ⟨⟨fun _ => hc, fun _ => rfl⟩, ⟨fun h => absurd rfl h, fun h => absurd h hc⟩⟩
end
section
/-! plain facts to paste, each family by itself; over the kit's nI, lN and upd -/
/-! ===== drawers: more things than places ===== -/
theorem fb_holes : ∀ (m n : Nat) (f : Nat → Nat), (∀ i, i < n → f i < m) → (∀ i j, i < j → j < n → f i ≠ f j) → n ≤ m := by
  intro m
  induction m with
  | zero =>
    intro n f h1 _
    rcases Nat.eq_zero_or_pos n with h | h
    · omega
    · exact absurd (h1 0 h) (Nat.not_lt_zero _)
  | succ m ih =>
    intro n f h1 h2
    by_cases hx : ∃ i, i < n ∧ f i = m
    · obtain ⟨a, ha, hfa⟩ := hx
      have hg := ih (n - 1) (fun i => if i < a then f i else f (i + 1)) (by
        intro i hi
        by_cases q : i < a
        · simp only [if_pos q]
          have b1 := h1 i (by omega)
          have b2 := h2 i a q ha
          omega
        · simp only [if_neg q]
          have b1 := h1 (i + 1) (by omega)
          have b2 := h2 a (i + 1) (by omega) (by omega)
          omega) (by
        intro i j hij hj
        by_cases q : i < a
        · by_cases r : j < a
          · simp only [if_pos q, if_pos r]
            exact h2 i j hij (by omega)
          · simp only [if_pos q, if_neg r]
            exact h2 i (j + 1) (by omega) (by omega)
        · have r : ¬ j < a := by omega
          simp only [if_neg q, if_neg r]
          exact h2 (i + 1) (j + 1) (by omega) (by omega))
      omega
    · have hg := ih n f (fun i hi => by
        have b1 := h1 i hi
        have b2 : f i ≠ m := fun e => hx ⟨i, hi, e⟩
        omega) h2
      omega
/-- two of them in one place -/
theorem fb_twice {m n : Nat} {f : Nat → Nat} (h : ∀ i, i < n → f i < m) (hm : m < n) : ∃ i j, i < j ∧ j < n ∧ f i = f j := by
  refine Classical.byContradiction fun hx => ?_
  have := fb_holes m n f h (fun i j hij hj e => hx ⟨i, j, hij, hj, e⟩)
  omega
/-- as many as places, none twice: each place is taken -/
theorem fb_onto {n : Nat} {f : Nat → Nat} (h : ∀ i, i < n → f i < n) (h2 : ∀ i j, i < j → j < n → f i ≠ f j) {y : Nat} (hy : y < n) : ∃ i, i < n ∧ f i = y := by
  refine Classical.byContradiction fun hx => ?_
  have hne : ∀ i, i < n → f i ≠ y := fun i hi e => hx ⟨i, hi, e⟩
  have := fb_holes (n - 1) n (fun i => if f i < y then f i else f i - 1) (by
    intro i hi
    have b1 := h i hi
    have b2 := hne i hi
    by_cases q : f i < y
    · simp only [if_pos q]; omega
    · simp only [if_neg q]; omega) (by
    intro i j hij hj
    have b1 := hne i (by omega)
    have b2 := hne j hj
    have b3 := h2 i j hij hj
    by_cases q : f i < y
    · by_cases r : f j < y
      · simp only [if_pos q, if_pos r]; exact b3
      · simp only [if_pos q, if_neg r]; omega
    · by_cases r : f j < y
      · simp only [if_neg q, if_pos r]; omega
      · simp only [if_neg q, if_neg r]; omega)
  omega
/-! ===== how many places have a property ===== -/
def fb_ct (p : Nat → Bool) : Nat → Nat
  | 0 => 0
  | n + 1 => fb_ct p n + (if p n then 1 else 0)
theorem fb_ct_succ (p : Nat → Bool) (n : Nat) : fb_ct p (n + 1) = fb_ct p n + (if p n then 1 else 0) := rfl
theorem fb_ct_le (p : Nat → Bool) : ∀ n, fb_ct p n ≤ n
  | 0 => Nat.le_refl _
  | n + 1 => by
    have h := fb_ct_le p n
    rw [fb_ct_succ]
    split <;> omega
theorem fb_ct_step (p : Nat → Bool) (m : Nat) : ∀ n, fb_ct p m ≤ fb_ct p (m + n)
  | 0 => Nat.le_refl _
  | n + 1 => by
    have h := fb_ct_step p m n
    show fb_ct p m ≤ fb_ct p (m + n + 1)
    rw [fb_ct_succ]
    omega
theorem fb_ct_mono (p : Nat → Bool) {m n : Nat} (h : m ≤ n) : fb_ct p m ≤ fb_ct p n := by
  have := fb_ct_step p m (n - m)
  rwa [Nat.add_sub_cancel' h] at this
theorem fb_ct_cong {p q : Nat → Bool} : ∀ {n : Nat}, (∀ k, k < n → p k = q k) → fb_ct p n = fb_ct q n
  | 0, _ => rfl
  | n + 1, h => by
    rw [fb_ct_succ, fb_ct_succ, fb_ct_cong (fun k hk => h k (by omega)), h n (by omega)]
/-- one place changed -/
theorem fb_ct_out (p : Nat → Bool) (b : Bool) {i n : Nat} (h : n ≤ i) : fb_ct (fun k => if k = i then b else p k) n = fb_ct p n :=
  fb_ct_cong fun k hk => if_neg (by omega)
theorem fb_ct_upd (p : Nat → Bool) (b : Bool) {i : Nat} : ∀ {n : Nat}, i < n → fb_ct (fun k => if k = i then b else p k) n + (if p i then 1 else 0) = fb_ct p n + (if b then 1 else 0)
  | 0, h => absurd h (Nat.not_lt_zero i)
  | n + 1, h => by
    rw [fb_ct_succ, fb_ct_succ]
    rcases Nat.lt_or_ge i n with q | q
    · have := fb_ct_upd p b q
      have e : (if n = i then b else p n) = p n := if_neg (by omega)
      rw [e]
      omega
    · have e : i = n := by omega
      subst e
      rw [fb_ct_out p b (Nat.le_refl _)]
      simp only [if_true]
      omega
theorem fb_ct_sub {p q : Nat → Bool} : ∀ {n : Nat}, (∀ k, k < n → p k = true → q k = true) → fb_ct p n ≤ fb_ct q n
  | 0, _ => Nat.le_refl _
  | n + 1, h => by
    have h1 := fb_ct_sub (n := n) (p := p) (q := q) (fun k hk => h k (by omega))
    have h2 := h n (by omega)
    rw [fb_ct_succ, fb_ct_succ]
    cases hp : p n <;> cases hq : q n <;> simp_all <;> omega
theorem fb_ct_or {p q : Nat → Bool} : ∀ {n : Nat}, (∀ k, k < n → ¬ (p k = true ∧ q k = true)) → fb_ct (fun k => p k || q k) n = fb_ct p n + fb_ct q n
  | 0, _ => rfl
  | n + 1, h => by
    have h1 := fb_ct_or (n := n) (p := p) (q := q) (fun k hk => h k (by omega))
    have h2 := h n (by omega)
    rw [fb_ct_succ, fb_ct_succ, fb_ct_succ, h1]
    cases hp : p n <;> cases hq : q n <;> simp_all <;> omega
theorem fb_ct_not (p : Nat → Bool) : ∀ n, fb_ct p n + fb_ct (fun k => !p k) n = n
  | 0 => rfl
  | n + 1 => by
    have h := fb_ct_not p n
    rw [fb_ct_succ, fb_ct_succ]
    cases p n <;> simp <;> omega
theorem fb_ct_split (p : Nat → Bool) (m : Nat) : ∀ n, fb_ct p (m + n) = fb_ct p m + fb_ct (fun k => p (m + k)) n
  | 0 => rfl
  | n + 1 => by
    have h := fb_ct_split p m n
    show fb_ct p (m + n + 1) = _
    rw [fb_ct_succ, fb_ct_succ, h, Nat.add_assoc]
theorem fb_ct_zero {p : Nat → Bool} : ∀ {n : Nat}, fb_ct p n = 0 ↔ ∀ k, k < n → p k = false
  | 0 => ⟨fun _ k hk => absurd hk (Nat.not_lt_zero k), fun _ => rfl⟩
  | n + 1 => by
    have h := fb_ct_zero (p := p) (n := n)
    rw [fb_ct_succ]
    constructor
    · intro e k hk
      have e1 : fb_ct p n = 0 := by omega
      rcases Nat.lt_or_ge k n with q | q
      · exact h.mp e1 k q
      · have ek : k = n := by omega
        subst ek
        cases hp : p k
        · rfl
        · simp [hp] at e
    · intro a
      rw [h.mpr (fun k hk => a k (by omega)), a n (by omega)]
      rfl
theorem fb_ct_pos {p : Nat → Bool} {n : Nat} : 0 < fb_ct p n ↔ ∃ k, k < n ∧ p k = true := by
  constructor
  · intro h
    refine Classical.byContradiction fun hx => ?_
    have := fb_ct_zero.mpr (fun k hk => by
      cases hp : p k
      · rfl
      · exact absurd ⟨k, hk, hp⟩ hx : ∀ k, k < n → p k = false)
    omega
  · rintro ⟨k, hk, hp⟩
    rcases Nat.eq_zero_or_pos (fb_ct p n) with e | e
    · have := fb_ct_zero.mp e k hk
      rw [this] at hp
      cases hp
    · exact e
theorem fb_ct_all {p : Nat → Bool} {n : Nat} : fb_ct p n = n ↔ ∀ k, k < n → p k = true := by
  have h := fb_ct_not p n
  constructor
  · intro e k hk
    have z : fb_ct (fun k => !p k) n = 0 := by omega
    have := fb_ct_zero.mp z k hk
    cases hp : p k
    · simp [hp] at this
    · rfl
  · intro a
    have z : fb_ct (fun k => !p k) n = 0 := fb_ct_zero.mpr (fun k hk => by simp [a k hk])
    omega
/-- the k-th place with the property -/
theorem fb_ct_kth {p : Nat → Bool} {k : Nat} : ∀ {n : Nat}, k < fb_ct p n → ∃ i, i < n ∧ p i = true ∧ fb_ct p i = k
  | 0, h => absurd h (Nat.not_lt_zero k)
  | n + 1, h => by
    rcases Nat.lt_or_ge k (fb_ct p n) with q | q
    · obtain ⟨i, h1, h2⟩ := fb_ct_kth q
      exact ⟨i, by omega, h2⟩
    · rw [fb_ct_succ] at h
      cases hp : p n
      · simp [hp] at h; omega
      · simp [hp] at h
        exact ⟨n, by omega, hp, by omega⟩
theorem fb_ct_kth_one {p : Nat → Bool} {i j : Nat} (hi : p i = true) (hj : p j = true) (e : fb_ct p i = fb_ct p j) : i = j := by
  have key : ∀ a b : Nat, a < b → p a = true → fb_ct p a < fb_ct p b := by
    intro a b hab ha
    have h := fb_ct_mono p (show a + 1 ≤ b from hab)
    rw [fb_ct_succ, ha] at h
    simp at h
    omega
  rcases Nat.lt_trichotomy i j with q | q | q
  · have := key i j q hi; omega
  · exact q
  · have := key j i q hj; omega
/-! ===== sums over a range: one place changed, parts, bounds ===== -/
def fb_sm (f : Nat → Nat) : Nat → Nat
  | 0 => 0
  | n + 1 => fb_sm f n + f n
theorem fb_sm_succ (f : Nat → Nat) (n : Nat) : fb_sm f (n + 1) = fb_sm f n + f n := rfl
theorem fb_sm_cong {f g : Nat → Nat} : ∀ {n : Nat}, (∀ k, k < n → f k = g k) → fb_sm f n = fb_sm g n
  | 0, _ => rfl
  | n + 1, h => by rw [fb_sm_succ, fb_sm_succ, fb_sm_cong (fun k hk => h k (by omega)), h n (by omega)]
theorem fb_sm_out (f : Nat → Nat) (v : Nat) {i n : Nat} (h : n ≤ i) : fb_sm (fun k => if k = i then v else f k) n = fb_sm f n :=
  fb_sm_cong fun k hk => if_neg (by omega)
theorem fb_sm_upd (f : Nat → Nat) (v : Nat) {i : Nat} : ∀ {n : Nat}, i < n → fb_sm (fun k => if k = i then v else f k) n + f i = fb_sm f n + v
  | 0, h => absurd h (Nat.not_lt_zero i)
  | n + 1, h => by
    rw [fb_sm_succ, fb_sm_succ]
    rcases Nat.lt_or_ge i n with q | q
    · have := fb_sm_upd f v q
      have e : (if n = i then v else f n) = f n := if_neg (by omega)
      rw [e]
      omega
    · have e : i = n := by omega
      subst e
      rw [fb_sm_out f v (Nat.le_refl _)]
      simp only [if_true]
      omega
theorem fb_sm_add (f g : Nat → Nat) : ∀ n, fb_sm (fun k => f k + g k) n = fb_sm f n + fb_sm g n
  | 0 => rfl
  | n + 1 => by
    have h := fb_sm_add f g n
    rw [fb_sm_succ, fb_sm_succ, fb_sm_succ, h]
    omega
theorem fb_sm_le {f g : Nat → Nat} : ∀ {n : Nat}, (∀ k, k < n → f k ≤ g k) → fb_sm f n ≤ fb_sm g n
  | 0, _ => Nat.le_refl _
  | n + 1, h => by
    have h1 := fb_sm_le (n := n) (f := f) (g := g) (fun k hk => h k (by omega))
    have h2 := h n (by omega)
    rw [fb_sm_succ, fb_sm_succ]
    omega
theorem fb_sm_const (c : Nat) : ∀ n, fb_sm (fun _ => c) n = n * c
  | 0 => by rw [Nat.zero_mul]; rfl
  | n + 1 => by rw [fb_sm_succ, fb_sm_const c n, Nat.succ_mul]
theorem fb_sm_bound {f : Nat → Nat} {c n : Nat} (h : ∀ k, k < n → f k ≤ c) : fb_sm f n ≤ n * c := by
  rw [← fb_sm_const c n]
  exact fb_sm_le h
theorem fb_sm_mono (f : Nat → Nat) (m : Nat) : ∀ n, fb_sm f m ≤ fb_sm f (m + n)
  | 0 => Nat.le_refl _
  | n + 1 => by
    have h := fb_sm_mono f m n
    show fb_sm f m ≤ fb_sm f (m + n + 1)
    rw [fb_sm_succ]
    omega
theorem fb_sm_part (f : Nat → Nat) {i n : Nat} (h : i < n) : fb_sm f i + f i ≤ fb_sm f n := by
  have := fb_sm_mono f (i + 1) (n - (i + 1))
  rw [fb_sm_succ, show i + 1 + (n - (i + 1)) = n by omega] at this
  exact this
theorem fb_sm_split (f : Nat → Nat) (m : Nat) : ∀ n, fb_sm f (m + n) = fb_sm f m + fb_sm (fun k => f (m + k)) n
  | 0 => rfl
  | n + 1 => by
    have h := fb_sm_split f m n
    show fb_sm f (m + n + 1) = _
    rw [fb_sm_succ, fb_sm_succ, h, Nat.add_assoc]
theorem fb_sm_zero {f : Nat → Nat} {n : Nat} (h : fb_sm f n = 0) : ∀ k, k < n → f k = 0 := fun k hk => by
  have := fb_sm_part f hk
  omega
/-- the same over whole numbers -/
def fb_si (f : Nat → Int) : Nat → Int
  | 0 => 0
  | n + 1 => fb_si f n + f n
theorem fb_si_succ (f : Nat → Int) (n : Nat) : fb_si f (n + 1) = fb_si f n + f n := rfl
theorem fb_si_cong {f g : Nat → Int} : ∀ {n : Nat}, (∀ k, k < n → f k = g k) → fb_si f n = fb_si g n
  | 0, _ => rfl
  | n + 1, h => by rw [fb_si_succ, fb_si_succ, fb_si_cong (fun k hk => h k (by omega)), h n (by omega)]
theorem fb_si_out (f : Nat → Int) (v : Int) {i n : Nat} (h : n ≤ i) : fb_si (fun k => if k = i then v else f k) n = fb_si f n :=
  fb_si_cong fun k hk => if_neg (by omega)
theorem fb_si_upd (f : Nat → Int) (v : Int) {i : Nat} : ∀ {n : Nat}, i < n → fb_si (fun k => if k = i then v else f k) n = fb_si f n - f i + v
  | 0, h => absurd h (Nat.not_lt_zero i)
  | n + 1, h => by
    rw [fb_si_succ, fb_si_succ]
    rcases Nat.lt_or_ge i n with q | q
    · have := fb_si_upd f v q
      have e : (if n = i then v else f n) = f n := if_neg (by omega)
      rw [e]
      omega
    · have e : i = n := by omega
      subst e
      rw [fb_si_out f v (Nat.le_refl _)]
      simp only [if_true]
      omega
theorem fb_si_add (f g : Nat → Int) : ∀ n, fb_si (fun k => f k + g k) n = fb_si f n + fb_si g n
  | 0 => rfl
  | n + 1 => by
    have h := fb_si_add f g n
    rw [fb_si_succ, fb_si_succ, fb_si_succ, h]
    omega
theorem fb_si_sub (f g : Nat → Int) : ∀ n, fb_si (fun k => f k - g k) n = fb_si f n - fb_si g n
  | 0 => rfl
  | n + 1 => by
    have h := fb_si_sub f g n
    rw [fb_si_succ, fb_si_succ, fb_si_succ, h]
    omega
theorem fb_si_mul (c : Int) (f : Nat → Int) : ∀ n, fb_si (fun k => c * f k) n = c * fb_si f n
  | 0 => (Int.mul_zero c).symm
  | n + 1 => by
    have h := fb_si_mul c f n
    rw [fb_si_succ, fb_si_succ, h, Int.mul_add]
theorem fb_si_split (f : Nat → Int) (m : Nat) : ∀ n, fb_si f (m + n) = fb_si f m + fb_si (fun k => f (m + k)) n
  | 0 => (Int.add_zero _).symm
  | n + 1 => by
    have h := fb_si_split f m n
    show fb_si f (m + n + 1) = _
    rw [fb_si_succ, fb_si_succ, h, Int.add_assoc]
theorem fb_si_nat (f : Nat → Nat) : ∀ n, fb_si (fun k => (f k : Int)) n = (fb_sm f n : Int)
  | 0 => rfl
  | n + 1 => by
    have h := fb_si_nat f n
    rw [fb_si_succ, fb_sm_succ, h]
    omega
theorem fb_si_bound {f : Nat → Int} {c : Int} (hc : 0 ≤ c) : ∀ {n : Nat}, (∀ k, k < n → -c ≤ f k ∧ f k ≤ c) → -(n * c) ≤ fb_si f n ∧ fb_si f n ≤ n * c
  | 0, _ => by simp [fb_si]
  | n + 1, h => by
    have h1 := fb_si_bound (n := n) (f := f) hc (fun k hk => h k (by omega))
    have h2 := h n (by omega)
    have e : ((n + 1 : Nat) : Int) * c = n * c + c := by rw [Int.natCast_add, Int.add_mul]; simp
    rw [fb_si_succ, e]
    omega
/-! ===== bits of a long that isn't negative ===== -/
theorem fb_andL (a b : Nat) : lN a &&& lN b = lN (a &&& b) := by
  apply Int64.toBitVec_inj.1
  show BitVec.ofNat 64 a &&& BitVec.ofNat 64 b = BitVec.ofNat 64 (a &&& b)
  apply BitVec.eq_of_getLsbD_eq
  intro i hi
  simp [hi]
theorem fb_orL (a b : Nat) : lN a ||| lN b = lN (a ||| b) := by
  apply Int64.toBitVec_inj.1
  show BitVec.ofNat 64 a ||| BitVec.ofNat 64 b = BitVec.ofNat 64 (a ||| b)
  apply BitVec.eq_of_getLsbD_eq
  intro i hi
  simp [hi]
theorem fb_xorL (a b : Nat) : lN a ^^^ lN b = lN (a ^^^ b) := by
  apply Int64.toBitVec_inj.1
  show BitVec.ofNat 64 a ^^^ BitVec.ofNat 64 b = BitVec.ofNat 64 (a ^^^ b)
  apply BitVec.eq_of_getLsbD_eq
  intro i hi
  simp [hi]
theorem fb_xorI (a b : Nat) : nI a ^^^ nI b = nI (a ^^^ b) := by
  apply Int32.toBitVec_inj.1
  show BitVec.ofNat 32 a ^^^ BitVec.ofNat 32 b = BitVec.ofNat 32 (a ^^^ b)
  apply BitVec.eq_of_getLsbD_eq
  intro i hi
  simp [hi]
theorem fb_maskL (n k : Nat) : lN n &&& lN (2 ^ k - 1) = lN (n % 2 ^ k) := by rw [fb_andL, Nat.and_two_pow_sub_one_eq_mod]
theorem fb_or_sumL {a k : Nat} (b : Nat) (h : a < 2 ^ k) : lN (2 ^ k * b) ||| lN a = lN (2 ^ k * b + a) := by rw [fb_orL, Nat.two_pow_add_eq_or_of_lt h]
theorem fb_lN_inj {a b : Nat} (ha : a < 2 ^ 63) (hb : b < 2 ^ 63) : lN a = lN b ↔ a = b := by
  constructor
  · intro h
    have h1 : (BitVec.ofNat 64 a).toNat = (BitVec.ofNat 64 b).toNat := congrArg (fun x : Int64 => x.toBitVec.toNat) h
    rw [BitVec.toNat_ofNat, BitVec.toNat_ofNat, Nat.mod_eq_of_lt (by omega), Nat.mod_eq_of_lt (by omega)] at h1
    exact h1
  · rintro rfl; rfl
theorem fb_bit_nat (n j : Nat) : n &&& 2 ^ j = 0 ↔ n.testBit j = false := by
  constructor
  · intro h
    have h1 : (n &&& 2 ^ j).testBit j = false := by rw [h]; simp
    rw [Nat.testBit_and] at h1
    simpa using h1
  · intro h
    apply Nat.eq_of_testBit_eq
    intro i
    rw [Nat.testBit_and]
    by_cases hi : j = i
    · subst hi; simp [h]
    · first | (simp [Nat.testBit_two_pow, hi]; done) | (simp [Nat.testBit_two_pow_of_ne hi]; done)
/-- one bit of a long -/
theorem fb_bitL {n j : Nat} (hj : j < 63) : lN n &&& lN (2 ^ j) = 0 ↔ n.testBit j = false := by
  have h2 : (2 : Nat) ^ j < 2 ^ 63 := Nat.pow_lt_pow_right (by decide) hj
  have hle : n &&& 2 ^ j ≤ 2 ^ j := Nat.and_le_right
  rw [fb_andL, ← fb_bit_nat, show (0 : Int64) = lN 0 from rfl]
  exact fb_lN_inj (by omega) (by decide)
/-- a bit set, a bit taken off -/
theorem fb_bit_set (n j i : Nat) : (n ||| 2 ^ j).testBit i = (n.testBit i || decide (i = j)) := by
  rw [Nat.testBit_or]
  by_cases h : j = i
  · subst h; simp
  · have h2 : ¬ i = j := fun e => h e.symm
    first | (simp [Nat.testBit_two_pow, h, h2]; done) | (simp [Nat.testBit_two_pow_of_ne h, h2]; done)
theorem fb_bit_flip (n j i : Nat) : (n ^^^ 2 ^ j).testBit i = (n.testBit i ^^ decide (i = j)) := by
  rw [Nat.testBit_xor]
  by_cases h : j = i
  · subst h; simp
  · have h2 : ¬ i = j := fun e => h e.symm
    first | (simp [Nat.testBit_two_pow, h, h2]; done) | (simp [Nat.testBit_two_pow_of_ne h, h2]; done)
/-! ===== a stretch of an array written over by a function ===== -/
def fb_put {α : Type} (f g : Nat → α) (a n : Nat) : Nat → α := fun k => if a ≤ k ∧ k < a + n then g (k - a) else f k
theorem fb_put_0 {α : Type} (f g : Nat → α) (a : Nat) : fb_put f g a 0 = f := funext fun k => if_neg (by omega)
theorem fb_put_in {α : Type} {f g : Nat → α} {a n k : Nat} (h1 : a ≤ k) (h2 : k < a + n) : fb_put f g a n k = g (k - a) := if_pos ⟨h1, h2⟩
theorem fb_put_out {α : Type} {f g : Nat → α} {a n k : Nat} (h : k < a ∨ a + n ≤ k) : fb_put f g a n k = f k := if_neg (by omega)
theorem fb_put_succ (f g : Nat → Int32) (a n : Nat) : upd (fb_put f g a n) (a + n) (g n) = fb_put f g a (n + 1) := by
  funext k
  by_cases h : k = a + n
  · subst h
    simp [upd, fb_put]
  · by_cases h1 : a ≤ k ∧ k < a + n
    · have h2 : a ≤ k ∧ k < a + (n + 1) := by omega
      simp only [upd, fb_put, if_neg h, if_pos h1, if_pos h2]
    · have h2 : ¬ (a ≤ k ∧ k < a + (n + 1)) := by omega
      simp only [upd, fb_put, if_neg h, if_neg h1, if_neg h2]
/-- .. from the far end down -/
theorem fb_put_down (f g : Nat → Int32) {a n m : Nat} (h : m < n) : upd (fb_put f (fun k => g (k + (m + 1))) (a + (m + 1)) (n - (m + 1))) (a + m) (g m) = fb_put f (fun k => g (k + m)) (a + m) (n - m) := by
  funext k
  by_cases h0 : k = a + m
  · subst h0
    simp only [upd, if_true]
    rw [fb_put_in (by omega) (by omega)]
    exact congrArg g (by omega)
  · simp only [upd, if_neg h0]
    by_cases h1 : a + (m + 1) ≤ k ∧ k < a + (m + 1) + (n - (m + 1))
    · rw [fb_put_in h1.1 h1.2, fb_put_in (by omega) (by omega)]
      exact congrArg g (by omega)
    · rw [fb_put_out (by omega), fb_put_out (by omega)]
theorem fb_put_cong {α : Type} {f f2 g g2 : Nat → α} {a n : Nat} (hf : ∀ k, (k < a ∨ a + n ≤ k) → f k = f2 k) (hg : ∀ k, k < n → g k = g2 k) : fb_put f g a n = fb_put f2 g2 a n := by
  funext k
  by_cases h : a ≤ k ∧ k < a + n
  · rw [fb_put_in h.1 h.2, fb_put_in h.1 h.2, hg _ (by omega)]
  · rw [fb_put_out (by omega), fb_put_out (by omega), hf _ (by omega)]
/-! ===== the least, the first, the best so far; that there is one alone ===== -/
theorem fb_first {p : Nat → Prop} [DecidablePred p] : ∀ {n : Nat}, (∃ i, i < n ∧ p i) → ∃ i, i < n ∧ p i ∧ ∀ j, j < i → ¬ p j
  | 0, h => by obtain ⟨i, hi, -⟩ := h; exact absurd hi (Nat.not_lt_zero i)
  | n + 1, h => by
    by_cases q : ∃ i, i < n ∧ p i
    · obtain ⟨i, h1, h2⟩ := fb_first q
      exact ⟨i, by omega, h2⟩
    · obtain ⟨i, h1, h2⟩ := h
      have e : i = n := by
        rcases Nat.lt_or_ge i n with r | r
        · exact absurd ⟨i, r, h2⟩ q
        · omega
      subst e
      exact ⟨i, by omega, h2, fun j hj hp => q ⟨j, hj, hp⟩⟩
theorem fb_first_one {p : Nat → Prop} {i j : Nat} (hi : p i) (hi2 : ∀ k, k < i → ¬ p k) (hj : p j) (hj2 : ∀ k, k < j → ¬ p k) : i = j := by
  rcases Nat.lt_trichotomy i j with q | q | q
  · exact absurd hi (hj2 i q)
  · exact q
  · exact absurd hj (hi2 j q)
theorem fb_last {p : Nat → Prop} [DecidablePred p] : ∀ {n : Nat}, (∃ i, i < n ∧ p i) → ∃ i, i < n ∧ p i ∧ ∀ j, i < j → j < n → ¬ p j
  | 0, h => by obtain ⟨i, hi, -⟩ := h; exact absurd hi (Nat.not_lt_zero i)
  | n + 1, h => by
    by_cases q : p n
    · exact ⟨n, by omega, q, fun j h1 h2 => by omega⟩
    · obtain ⟨i, h1, h2⟩ := h
      have hi : i < n := by
        rcases Nat.lt_or_ge i n with r | r
        · exact r
        · have e : i = n := by omega
          subst e
          exact absurd h2 q
      obtain ⟨i2, a1, a2, a3⟩ := fb_last (n := n) ⟨i, hi, h2⟩
      refine ⟨i2, by omega, a2, fun j b1 b2 => ?_⟩
      rcases Nat.lt_or_ge j n with r | r
      · exact a3 j b1 r
      · have e : j = n := by omega
        subst e
        exact q
/-- the first greatest -/
theorem fb_best (f : Nat → Int) : ∀ {n : Nat}, 0 < n → ∃ i, i < n ∧ (∀ j, j < n → f j ≤ f i) ∧ ∀ j, j < i → f j < f i
  | 0, h => absurd h (Nat.lt_irrefl 0)
  | 1, _ => ⟨0, by omega, fun j hj => by have e : j = 0 := by omega
                                         subst e; exact Int.le_refl _, fun j hj => absurd hj (Nat.not_lt_zero j)⟩
  | n + 2, _ => by
    obtain ⟨i, h1, h2, h3⟩ := fb_best f (n := n + 1) (by omega)
    by_cases q : f i < f (n + 1)
    · refine ⟨n + 1, by omega, fun j hj => ?_, fun j hj => ?_⟩
      · rcases Nat.lt_or_ge j (n + 1) with r | r
        · have := h2 j r; omega
        · have e : j = n + 1 := by omega
          subst e; exact Int.le_refl _
      · have := h2 j hj; omega
    · refine ⟨i, by omega, fun j hj => ?_, h3⟩
      rcases Nat.lt_or_ge j (n + 1) with r | r
      · exact h2 j r
      · have e : j = n + 1 := by omega
        subst e; omega
theorem fb_best_one {f : Nat → Int} {n i j : Nat} (hi : i < n) (hi2 : ∀ k, k < n → f k ≤ f i) (hi3 : ∀ k, k < i → f k < f i) (hj : j < n) (hj2 : ∀ k, k < n → f k ≤ f j) (hj3 : ∀ k, k < j → f k < f j) : i = j := by
  rcases Nat.lt_trichotomy i j with q | q | q
  · have a := hj3 i q
    have b := hi2 j hj
    omega
  · exact q
  · have a := hi3 j q
    have b := hj2 i hi
    omega
/-- the first least -/
theorem fb_low (f : Nat → Int) {n : Nat} (h : 0 < n) : ∃ i, i < n ∧ (∀ j, j < n → f i ≤ f j) ∧ ∀ j, j < i → f i < f j := by
  obtain ⟨i, h1, h2, h3⟩ := fb_best (fun k => -f k) h
  exact ⟨i, h1, fun j hj => by have := h2 j hj; omega, fun j hj => by have := h3 j hj; omega⟩
/-! ===== signed ints as whole numbers, within bounds ===== -/
theorem fb_rng (x : Int32) : -2147483648 ≤ x.toInt ∧ x.toInt < 2147483648 := by
  have h1 := Int32.le_toInt x
  have h2 := Int32.toInt_lt x
  omega
theorem fb_bmod {z : Int} (h1 : -2147483648 ≤ z) (h2 : z < 2147483648) : z.bmod (2 ^ 32) = z := by
  rw [Int.bmod_eq_of_le (by omega) (by omega)]
theorem fb_addI {x y : Int32} (h1 : -2147483648 ≤ x.toInt + y.toInt) (h2 : x.toInt + y.toInt < 2147483648) : (x + y).toInt = x.toInt + y.toInt := by
  rw [Int32.toInt_add, fb_bmod h1 h2]
theorem fb_subI {x y : Int32} (h1 : -2147483648 ≤ x.toInt - y.toInt) (h2 : x.toInt - y.toInt < 2147483648) : (x - y).toInt = x.toInt - y.toInt := by
  rw [Int32.toInt_sub, fb_bmod h1 h2]
theorem fb_mulI {x y : Int32} (h1 : -2147483648 ≤ x.toInt * y.toInt) (h2 : x.toInt * y.toInt < 2147483648) : (x * y).toInt = x.toInt * y.toInt := by
  rw [Int32.toInt_mul, fb_bmod h1 h2]
theorem fb_negI {x : Int32} (h : x.toInt ≠ -2147483648) : (-x).toInt = -x.toInt := by
  have := fb_rng x
  rw [Int32.toInt_neg, fb_bmod (by omega) (by omega)]
theorem fb_ofI {z : Int} (h1 : -2147483648 ≤ z) (h2 : z < 2147483648) : (Int32.ofInt z).toInt = z := by
  rw [Int32.toInt_ofInt, fb_bmod h1 h2]
theorem fb_asI (x : Int32) : Int32.ofInt x.toInt = x := Int32.ofInt_toInt x
theorem fb_rngL (x : Int64) : -9223372036854775808 ≤ x.toInt ∧ x.toInt < 9223372036854775808 := by
  have h1 := Int64.le_toInt x
  have h2 := Int64.toInt_lt x
  omega
theorem fb_bmodL {z : Int} (h1 : -9223372036854775808 ≤ z) (h2 : z < 9223372036854775808) : z.bmod (2 ^ 64) = z := by
  rw [Int.bmod_eq_of_le (by omega) (by omega)]
theorem fb_addL {x y : Int64} (h1 : -9223372036854775808 ≤ x.toInt + y.toInt) (h2 : x.toInt + y.toInt < 9223372036854775808) : (x + y).toInt = x.toInt + y.toInt := by
  rw [Int64.toInt_add, fb_bmodL h1 h2]
theorem fb_subL {x y : Int64} (h1 : -9223372036854775808 ≤ x.toInt - y.toInt) (h2 : x.toInt - y.toInt < 9223372036854775808) : (x - y).toInt = x.toInt - y.toInt := by
  rw [Int64.toInt_sub, fb_bmodL h1 h2]
theorem fb_mulL {x y : Int64} (h1 : -9223372036854775808 ≤ x.toInt * y.toInt) (h2 : x.toInt * y.toInt < 9223372036854775808) : (x * y).toInt = x.toInt * y.toInt := by
  rw [Int64.toInt_mul, fb_bmodL h1 h2]
/-! ===== cuts of what is narrow already ===== -/
theorem fb_byte {x : Int32} (h1 : -128 ≤ x.toInt) (h2 : x.toInt < 128) : x.toInt8.toInt32 = x := by
  apply Int32.toInt_inj.1
  rw [Int8.toInt_toInt32, Int32.toInt_toInt8, Int.bmod_eq_of_le (by omega) (by omega)]
theorem fb_short {x : Int32} (h1 : -32768 ≤ x.toInt) (h2 : x.toInt < 32768) : x.toInt16.toInt32 = x := by
  apply Int32.toInt_inj.1
  rw [Int16.toInt_toInt32, Int32.toInt_toInt16, Int.bmod_eq_of_le (by omega) (by omega)]
theorem fb_byte_rng (x : Int32) : -128 ≤ x.toInt8.toInt32.toInt ∧ x.toInt8.toInt32.toInt < 128 := by
  rw [Int8.toInt_toInt32]
  have h1 := Int8.le_toInt x.toInt8
  have h2 := Int8.toInt_lt x.toInt8
  omega
theorem fb_short_rng (x : Int32) : -32768 ≤ x.toInt16.toInt32.toInt ∧ x.toInt16.toInt32.toInt < 32768 := by
  rw [Int16.toInt_toInt32]
  have h1 := Int16.le_toInt x.toInt16
  have h2 := Int16.toInt_lt x.toInt16
  omega
theorem fb_byte_twice (x : Int32) : x.toInt8.toInt32.toInt8.toInt32 = x.toInt8.toInt32 := fb_byte (fb_byte_rng x).1 (fb_byte_rng x).2
theorem fb_short_twice (x : Int32) : x.toInt16.toInt32.toInt16.toInt32 = x.toInt16.toInt32 := fb_short (fb_short_rng x).1 (fb_short_rng x).2
theorem fb_char {n : Nat} (h : n < 65536) : (nI n).toUInt32.toUInt16.toUInt32.toInt32 = nI n := by
  apply Int32.toBitVec_inj.1
  apply BitVec.eq_of_toNat_eq
  have e1 : (nI n).toBitVec.toNat = n := by
    show (BitVec.ofNat 32 n).toNat = n
    rw [BitVec.toNat_ofNat, Nat.mod_eq_of_lt (by omega)]
  have e2 : ((nI n).toUInt32.toUInt16.toUInt32).toNat = n := by
    rw [UInt16.toNat_toUInt32, UInt32.toNat_toUInt16]
    show (nI n).toBitVec.toNat % 2 ^ 16 = n
    rw [e1, Nat.mod_eq_of_lt (by omega)]
  rw [e1]
  exact e2
end
section
/-! the document's numbers, plain -/
def iceOk (i : Int32) : Prop := 0 ≤ i.toInt ∧ i.toInt ≤ 300
def pGrow (k i c : Int32) : Int32 := if k = 1 then 20 * c / (10 + i) + 20 * c / (10 + i) / 2 else if k = 3 then 20 * c / (10 + i) / 2 else 20 * c / (10 + i)
def pThick (k i c : Int32) : Int32 := if i + pGrow k i c < 300 then i + pGrow k i c else 300
def pShut (k : Int32) : Int32 := if k = 0 then 1 else k
def pLess (i d : Int32) : Int32 := if 0 < i - d then i - d else 0
/-- a yard: ice, kind, what was broken, open -/
abbrev Yq : Type := Int32 × Int32 × Int32 × Bool
abbrev qI (q : Yq) : Int32 := q.1
abbrev qK (q : Yq) : Int32 := q.2.1
abbrev qB (q : Yq) : Int32 := q.2.2.1
abbrev qO (q : Yq) : Bool := q.2.2.2
def shutQ (q : Yq) : Yq := if qO q = true then (qB q / 3, pShut (qK q), 0, false) else q
def nightQ (c : Int32) (q : Yq) : Yq := (pThick (qK (shutQ q)) (qI (shutQ q)) c, (shutQ q).2)
def thawQ (d : Int32) (q : Yq) : Yq := (pLess (qI (shutQ q)) d, (shutQ q).2)
def openQ (q : Yq) : Yq := if 0 < qI q then (0, qK q, qI q, true) else q
/-- what a yard may be -/
def okQ (q : Yq) : Prop := iceOk (qI q) ∧ (0 ≤ (qK q).toInt ∧ (qK q).toInt ≤ 3) ∧ iceOk (qB q) ∧ (qO q = false → qB q = 0)
/-- the open ones as a set -/
def oset (q : Nat → Yq) : Nat → Nat
  | 0 => 0
  | n + 1 => oset q n + (if qO (q n) = true then 2 ^ n else 0)
/-- the class's Yards hold the yards q -/
def yR (q : Nat → Yq) (n : Nat) (os : Int32) (kd ic br : Nat → Int32) : Prop :=
  (∀ y, y < n → okQ (q y) ∧ ic y = qI (q y) ∧ kd y = qK (q y) ∧ br y = qB (q y)) ∧ os = nI (oset q n)
theorem oset_lt (q : Nat → Yq) : ∀ n, oset q n < 2 ^ n
  | 0 => by simp [oset]
  | n + 1 => by
    have h := oset_lt q n
    simp only [oset, Nat.pow_succ]
    split <;> omega
theorem oset_bit (q : Nat → Yq) : ∀ n y, (oset q n).testBit y = (decide (y < n) && qO (q y))
  | 0, y => by simp [oset]
  | n + 1, y => by
    have h := oset_bit q n y
    have hl := oset_lt q n
    simp only [oset]
    by_cases hq : qO (q n) = true
    · rw [if_pos hq, Nat.add_comm]
      rcases Nat.lt_trichotomy y n with e | e | e
      · rw [Nat.testBit_two_pow_add_gt e, h]
        simp [e, Nat.lt_succ_of_lt e]
      · subst e
        rw [Nat.testBit_two_pow_add_eq, Nat.testBit_lt_two_pow hl]
        simp [hq]
      · have e3 : ¬ y < n + 1 := by omega
        have e4 : 2 ^ n + oset q n < 2 ^ y := Nat.lt_of_lt_of_le (by rw [Nat.pow_succ]; omega : 2 ^ n + oset q n < 2 ^ (n + 1)) (Nat.pow_le_pow_right (by decide) e)
        rw [Nat.testBit_lt_two_pow e4]
        simp [e3]
    · rw [if_neg hq, Nat.add_zero, h]
      by_cases e : y = n
      · subst e
        simp [hq]
      · by_cases e2 : y < n
        · simp [e2, Nat.lt_succ_of_lt e2]
        · have e3 : ¬ y < n + 1 := by omega
          simp [e2, e3]
theorem oset_eq {q : Nat → Yq} {n b : Nat} (h : ∀ y, b.testBit y = (decide (y < n) && qO (q y))) : b = oset q n :=
  Nat.eq_of_testBit_eq fun y => by rw [h, oset_bit]
end
section
/-! facts of yards -/
theorem s_l : ∀ n, n < 32 → ((nI n &&& 31).toBitVec.smod 32).toNat = n := by decide +kernel
theorem nI_one : (1 : Int32) = nI 1 := rfl
/-- bit k of a set -/
theorem bit_at {b k : Nat} (hb : b < 2 ^ 31) (hk : k < 32) : (nI b >>> (nI k &&& 31)) &&& 1 = nI (b / 2 ^ k % 2) := by
  rw [pk_shrN hb _ k (s_l k hk), show (1 : Int32) = nI (2 ^ 1 - 1) from rfl, fa_mask]
theorem bit_one {b k : Nat} (hb : b < 2 ^ 31) (hk : k < 32) : (nI b >>> (nI k &&& 31)) &&& 1 = 1 ↔ b.testBit k = true := by
  rw [bit_at hb hk, nI_one, nI_eq (by omega) (by decide), Nat.testBit_eq_decide_div_mod_eq, decide_eq_true_eq]
theorem shl_one {k : Nat} (hk : k < 31) : (1 : Int32) <<< (nI k &&& 31) = nI (2 ^ k) := by
  have h := pk_shlN (n := 1) (nI k &&& 31) k (s_l k (by omega)) (by rw [Nat.one_mul]; exact Nat.pow_lt_pow_right (by decide) (by omega))
  rw [Nat.one_mul] at h
  exact h
theorem oset_small {q : Nat → Yq} {n : Nat} (hn : n ≤ 12) : oset q n < 2 ^ 31 :=
  Nat.lt_of_lt_of_le (oset_lt q n) (Nat.pow_le_pow_right (by decide) (by omega))
theorem open_bit {q : Nat → Yq} {n k : Nat} (hn : n ≤ 12) (hk : k < n) : (nI (oset q n) >>> (nI k &&& 31)) &&& 1 = 1 ↔ qO (q k) = true := by
  rw [bit_one (oset_small hn) (by omega), oset_bit]
  simp [hk]
theorem oset_zero {q : Nat → Yq} {n : Nat} (hn : n ≤ 12) : nI (oset q n) = 0 ↔ ∀ y, y < n → qO (q y) = false := by
  rw [show (0 : Int32) = nI 0 from rfl, nI_eq (oset_small hn) (by decide)]
  constructor
  · intro h y hy
    have h2 := oset_bit q n y
    rw [h] at h2
    simpa [hy] using h2.symm
  · intro h
    exact (oset_eq (q := q) (n := n) (b := 0) (fun y => by
      by_cases hy : y < n
      · simp [h y hy]
      · simp [hy])).symm
theorem oset_congr {q z : Nat → Yq} {n : Nat} (h : ∀ y, y < n → qO (q y) = qO (z y)) : oset q n = oset z n :=
  oset_eq fun y => by
    rw [oset_bit]
    by_cases hy : y < n
    · simp [hy, h y hy]
    · simp [hy]
/-- the rows hold the yards q -/
def yA (q : Nat → Yq) (n : Nat) (kd ic br : Nat → Int32) : Prop := ∀ y, y < n → ic y = qI (q y) ∧ kd y = qK (q y) ∧ br y = qB (q y)
def mixQ (f : Yq → Yq) (q : Nat → Yq) (i : Nat) : Nat → Yq := fun y => if y < i then f (q y) else q y
theorem mixQ_0 (f : Yq → Yq) (q : Nat → Yq) : mixQ f q 0 = q := by funext y; simp [mixQ]
theorem mixQ_at (f : Yq → Yq) (q : Nat → Yq) (i : Nat) : mixQ f q i i = q i := by simp [mixQ]
theorem mixQ_lt {f : Yq → Yq} {q : Nat → Yq} {i y : Nat} (h : y < i) : mixQ f q i y = f (q y) := by simp [mixQ, h]
theorem mixQ_ne {f : Yq → Yq} {q : Nat → Yq} {i y : Nat} (h : y ≠ i) : mixQ f q (i + 1) y = mixQ f q i y := by
  unfold mixQ
  by_cases e : y < i
  · rw [if_pos e, if_pos (by omega)]
  · rw [if_neg e, if_neg (by omega)]
theorem yA.step {f : Yq → Yq} {q : Nat → Yq} {n i : Nat} {kd ic br kd2 ic2 br2 : Nat → Int32} (h : yA (mixQ f q i) n kd ic br)
    (ho : ∀ y, y ≠ i → kd2 y = kd y ∧ ic2 y = ic y ∧ br2 y = br y) (hn : ic2 i = qI (f (q i)) ∧ kd2 i = qK (f (q i)) ∧ br2 i = qB (f (q i))) : yA (mixQ f q (i + 1)) n kd2 ic2 br2 := by
  intro y hy
  by_cases e : y = i
  · subst e
    rw [mixQ_lt (Nat.lt_succ_self _)]
    exact hn
  · rw [mixQ_ne e, (ho y e).1, (ho y e).2.1, (ho y e).2.2]
    exact h y hy
theorem yA.done {f : Yq → Yq} {q : Nat → Yq} {n : Nat} {kd ic br : Nat → Int32} (h : yA (mixQ f q n) n kd ic br) : yA (fun y => f (q y)) n kd ic br := fun y hy => by
  have h2 := h y hy
  rw [mixQ_lt hy] at h2
  exact h2
theorem yR.rows {q : Nat → Yq} {n : Nat} {os : Int32} {kd ic br : Nat → Int32} (h : yR q n os kd ic br) : yA q n kd ic br := fun y hy => (h.1 y hy).2
theorem yR.ok {q : Nat → Yq} {n : Nat} {os : Int32} {kd ic br : Nat → Int32} (h : yR q n os kd ic br) {y : Nat} (hy : y < n) : okQ (q y) := (h.1 y hy).1
theorem yR.of {q : Nat → Yq} {n : Nat} {os : Int32} {kd ic br : Nat → Int32} (ho : ∀ y, y < n → okQ (q y)) (h : yA q n kd ic br) (hs : os = nI (oset q n)) : yR q n os kd ic br := ⟨fun y hy => ⟨ho y hy, h y hy⟩, hs⟩
/-! numbers -/
theorem toI_lit (n : Nat) (h : n < 2 ^ 31) : (nI n).toInt = n := nI_toInt h
theorem ice_add {i : Int32} (h : iceOk i) : (10 + i).toInt = 10 + i.toInt := by
  have e : (10 : Int32).toInt = 10 := rfl
  have h2 := fb_addI (x := 10) (y := i) (by rw [e]; have := h.1; omega) (by rw [e]; have := h.2; omega)
  rw [e] at h2
  exact h2
theorem ice_nz {i : Int32} (h : iceOk i) : ¬ (10 + i) = 0 := by
  intro e
  have h2 := ice_add h
  rw [e, show (0 : Int32).toInt = 0 from rfl] at h2
  have := h.1
  omega
theorem ice_ge {i : Int32} (h : iceOk i) : (1 : Int32) ≤ 10 + i := by
  rw [fa_le, ice_add h, show (1 : Int32).toInt = 1 from rfl]
  have := h.1
  omega
theorem iceOk0 : iceOk 0 := by unfold iceOk; rw [show (0 : Int32).toInt = 0 from rfl]; omega
theorem iceOk300 : iceOk 300 := by unfold iceOk; rw [show (300 : Int32).toInt = 300 from rfl]; omega
/-- a division that stays whole -/
theorem div_I {x y : Int32} (hx : 0 ≤ x.toInt) (hy : 0 < y.toInt) : (x / y).toInt = x.toInt / y.toInt := by
  have hne : x ≠ Int32.minValue := by
    rintro rfl
    exact absurd hx (by decide)
  rw [Int32.toInt_div_of_ne_left _ _ hne, Int.tdiv_eq_ediv_of_nonneg hx]
theorem ice_third {b : Int32} (h : iceOk b) : iceOk (b / 3) := by
  have e := div_I (x := b) (y := 3) h.1 (by decide)
  rw [show (3 : Int32).toInt = 3 from rfl] at e
  unfold iceOk
  rw [e]
  have h1 := h.1
  have h2 := h.2
  omega
/-- what grows is between 0 and some hundred -/
theorem grow_rng {k i c : Int32} (hi : iceOk i) (hc : 0 ≤ c.toInt ∧ c.toInt ≤ 30) : 0 ≤ (pGrow k i c).toInt ∧ (pGrow k i c).toInt ≤ 90 := by
  have e20 : (20 : Int32).toInt = 20 := rfl
  have e2 : (2 : Int32).toInt = 2 := rfl
  have hm : (20 * c).toInt = 20 * c.toInt := by
    have h2 := fb_mulI (x := 20) (y := c) (by rw [e20]; omega) (by rw [e20]; omega)
    rw [e20] at h2
    exact h2
  have hd : (20 * c / (10 + i)).toInt = 20 * c.toInt / (10 + i.toInt) := by
    rw [div_I (by rw [hm]; omega) (by rw [ice_add hi]; have := hi.1; omega), hm, ice_add hi]
  have hb : 0 ≤ 20 * c.toInt / (10 + i.toInt) ∧ 20 * c.toInt / (10 + i.toInt) ≤ 60 := by
    have h1 := hi.1
    constructor
    · exact Int.ediv_nonneg (by omega) (by omega)
    · have h3 : 20 * c.toInt / (10 + i.toInt) ≤ 20 * c.toInt / 10 := by
        apply Int.le_ediv_of_mul_le (by decide)
        have h4 : 20 * c.toInt / (10 + i.toInt) * (10 + i.toInt) ≤ 20 * c.toInt := Int.ediv_mul_le _ (by omega)
        have h5 : 0 ≤ 20 * c.toInt / (10 + i.toInt) := Int.ediv_nonneg (by omega) (by omega)
        have h6 : 20 * c.toInt / (10 + i.toInt) * 10 ≤ 20 * c.toInt / (10 + i.toInt) * (10 + i.toInt) := Int.mul_le_mul_of_nonneg_left (by omega) h5
        omega
      omega
  have hh : (20 * c / (10 + i) / 2).toInt = 20 * c.toInt / (10 + i.toInt) / 2 := by
    rw [div_I (by rw [hd]; omega) (by decide), hd, e2]
  unfold pGrow
  split
  · rw [fb_addI (by rw [hd, hh]; omega) (by rw [hd, hh]; omega), hd, hh]; omega
  · split
    · rw [hh]; omega
    · rw [hd]; omega
theorem thick_ok {k i c : Int32} (hi : iceOk i) (hc : 0 ≤ c.toInt ∧ c.toInt ≤ 30) : iceOk (pThick k i c) := by
  have hg := grow_rng (k := k) hi hc
  have h1 := hi.1
  have h2 := hi.2
  have ha : (i + pGrow k i c).toInt = i.toInt + (pGrow k i c).toInt := fb_addI (by omega) (by omega)
  unfold pThick
  split
  · rename_i h
    rw [fa_lt, ha, show (300 : Int32).toInt = 300 from rfl] at h
    unfold iceOk
    rw [ha]
    omega
  · exact iceOk300
theorem less_ok {i d : Int32} (hi : iceOk i) (hd : 0 ≤ d.toInt ∧ d.toInt ≤ 60) : iceOk (pLess i d) := by
  have h1 := hi.1
  have h2 := hi.2
  have ha : (i - d).toInt = i.toInt - d.toInt := fb_subI (by omega) (by omega)
  unfold pLess
  split
  · rename_i h
    rw [fa_lt, ha, show (0 : Int32).toInt = 0 from rfl] at h
    unfold iceOk
    rw [ha]
    omega
  · exact iceOk0
theorem shut_ok {q : Yq} (h : okQ q) : okQ (shutQ q) := by
  unfold shutQ
  split
  · refine ⟨ice_third h.2.2.1, ?_, iceOk0, fun _ => rfl⟩
    show 0 ≤ (pShut (qK q)).toInt ∧ (pShut (qK q)).toInt ≤ 3
    unfold pShut
    split
    · decide
    · exact h.2.1
  · exact h
theorem shut_no (q : Yq) (h : okQ q) : qO (shutQ q) = false := by
  unfold shutQ
  split
  · rfl
  · rename_i h2
    simpa using h2
theorem night_ok {q : Yq} {c : Int32} (h : okQ q) (hc : 0 ≤ c.toInt ∧ c.toInt ≤ 30) : okQ (nightQ c q) :=
  ⟨thick_ok (shut_ok h).1 hc, (shut_ok h).2.1, (shut_ok h).2.2.1, (shut_ok h).2.2.2⟩
theorem thaw_ok {q : Yq} {d : Int32} (h : okQ q) (hd : 0 ≤ d.toInt ∧ d.toInt ≤ 60) : okQ (thawQ d q) :=
  ⟨less_ok (shut_ok h).1 hd, (shut_ok h).2.1, (shut_ok h).2.2.1, (shut_ok h).2.2.2⟩
theorem open_ok {q : Yq} (h : okQ q) : okQ (openQ q) := by
  unfold openQ
  split
  · exact ⟨iceOk0, h.2.1, h.1, fun e => Bool.noConfusion e⟩
  · exact h
end
