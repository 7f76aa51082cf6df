set_option maxHeartbeats 4000000 in
set_option maxRecDepth 100000 in
theorem k_X2_oddsOf_8 (l : Launch) (D : va_G) (c4 : Nat → ClassId) (A : Nat → Prop) (Ts : List va_W) (sa : Nat → Nat) (tr : Nat → Nat) (la : Nat → Nat → Nat) (lc : Int32) (lS : Int32) (t : Int32) (f : Int32) (x : Int32) (c : Int32) (th : Int32) (pe : Int32) (cd : Int32) (dc : Int32) (wc : Int32) (dp : Nat) (lv : Nat → Option Nat) (bh : Int32) (mi : Int32) (fb : Int32) (ba : Nat → Int32) (n : Nat) (os : Int32) (kd : Nat → Int32) (ic : Nat → Int32) (br : Nat → Int32) (q : Nat → Yq) (gn : Nat → Int32) (go : Nat → Int32) (gk : Nat → Nat → Int32) (gi : Nat → Nat → Int32) (gb : Nat → Nat → Int32) (pt : Int64) (hdp : dp ≤ 8) (hn : n ≤ 12) (hY : yR q n os kd ic br) (hf : fOk f x) (hc : 0 ≤ c.toInt ∧ c.toInt ≤ 30) (hlv : ∀ k, k < 9 → lv k = some (la k 0)) (ht0 : 0 ≤ th.toInt ∧ th.toInt ≤ 60) : Cl l yX2_oddsOf wsX2_oddsOf 3 74 [.ref (sa 0), .int 8, .long pt] D (tyA c4) A none ((sG c4 sa (tr 0) lc lS (nI dp) t f x c th pe cd dc wc lv) :: (tG c4 tr bh mi fb ba) :: (yG c4 (la 8) (nI n) os kd ic br) :: Ts) (S := Int32 × Int32 × Int32 × (Nat → Int32) × (Nat → Int32) × (Nat → Int32) × (Nat → Nat → Int32) × (Nat → Nat → Int32) × (Nat → Nat → Int32)) (fun (r : Int64) (u : Int32 × Int32 × Int32 × (Nat → Int32) × (Nat → Int32) × (Nat → Int32) × (Nat → Nat → Int32) × (Nat → Nat → Int32) × (Nat → Nat → Int32)) => r = (oddP n f x t c th pe (dp - 8) q pt)) (fun u => ((sG c4 sa (tr 0) lc lS (nI dp) t f x c th pe cd dc wc lv) :: (tG c4 tr u.1 u.2.1 u.2.2.1 u.2.2.2.1) :: (yG c4 (la 8) (nI n) os kd ic br) :: Ts)) := by
  refine cOl (cc := cX2_oddsOf) (maxL := 9) (by decide) rfl (Nat.le_of_ble_eq_true rfl) rfl ?_
  rintro jp je js jm below meth jc ls args R Q H locs hRf hRl ⟨hx, hb, hml, hr, hts, hown, hlocks, hK, hX⟩ hw hl kr
  have hown : js.vm.findClass RX2 = some jm.cls := hown
  have f_0 := hts (.fieldLink RX2 41 "IceSway$Search" "depth" "I") (by decide +kernel)
  have f_1 := hts (.fieldLink RX2 12 "IceSway$Search" "trip" "LIceSway$Trip;") (by decide +kernel)
  have f_2 := hts (.fieldLink RX2 20 "IceSway$Search" "levels" "[LIceSway$Yards;") (by decide +kernel)
  have f_3 := hts (.fieldLink RX2 57 "IceSway$Search" "force" "I") (by decide +kernel)
  have f_4 := hts (.fieldLink RX2 64 "IceSway$Search" "axe" "I") (by decide +kernel)
  have f_5 := hts (.fieldLink RX2 45 "IceSway$Search" "minutes" "I") (by decide +kernel)
  have hi2 : ∀ w ∈ u_ws RX2 TX2 14, w ∈ wsX2_oddsOf := fun w h => List.mem_cons_of_mem _ (List.mem_append_left _ (List.mem_append_left _ (List.mem_append_right _ h)))
  refine lv_lload_n hx hb dX2_oddsOf_0 rfl (lv_at hl 2 rfl) ?_
  refine lv_lconst (v := 0) hx hb dX2_oddsOf_1 (by decide) ?_
  refine W.lcmp hx hb dX2_oddsOf_2 ?_
  refine lv_if_ne (tgt := 8) hx hb dX2_oddsOf_3 (by decide) (fun c_3 => ?_) (fun c_3 => ?_)
  · refine lv_iload_n hx hb dX2_oddsOf_8 rfl (lv_at hl 1 rfl) ?_
    refine lv_aload_n hx hb dX2_oddsOf_9 rfl (lv_at hl 0 rfl) ?_
    refine r_get (T := TX2) (v := .int (nI dp)) hx hb hts hi2 hown hK hw 0 rfl rfl 4 (by decide) f_0 rfl dX2_oddsOf_10 ?_
    refine r_clt hx hb 8 dp (by omega) (by omega) (tgt := 50) dX2_oddsOf_13 (by decide) (fun c_13 => ?_) (fun c_13 => ?_)
    · exact absurd c_13 (by omega)
    · refine lv_aload_n hx hb dX2_oddsOf_16 rfl (lv_at hl 0 rfl) ?_
      refine r_get (T := TX2) (v := .ref (tr 0)) hx hb hts hi2 hown hK hw 0 rfl rfl 2 (by decide) f_1 rfl dX2_oddsOf_17 ?_
      refine lv_aload_n hx hb dX2_oddsOf_20 rfl (lv_at hl 0 rfl) ?_
      refine r_get (T := TX2) (v := .ref (sa 1)) hx hb hts hi2 hown hK hw 0 rfl rfl 3 (by decide) f_2 rfl dX2_oddsOf_21 ?_
      refine lv_iload_n hx hb dX2_oddsOf_24 rfl (lv_at hl 1 rfl) ?_
      refine r_aald hx hb hK hw 1 3 rfl rfl 8 (by decide) (by decide) (b := ((la 8) 0)) (hlv 8 (by decide)) dX2_oddsOf_25 ?_
      refine lv_aload_n hx hb dX2_oddsOf_26 rfl (lv_at hl 0 rfl) ?_
      refine r_get (T := TX2) (v := .int f) hx hb hts hi2 hown hK hw 0 rfl rfl 6 (by decide) f_3 rfl dX2_oddsOf_27 ?_
      refine lv_aload_n hx hb dX2_oddsOf_30 rfl (lv_at hl 0 rfl) ?_
      refine r_get (T := TX2) (v := .int x) hx hb hts hi2 hown hK hw 0 rfl rfl 7 (by decide) f_4 rfl dX2_oddsOf_31 ?_
      refine lv_aload_n hx hb dX2_oddsOf_34 rfl (lv_at hl 0 rfl) ?_
      refine r_get (T := TX2) (v := .int t) hx hb hts hi2 hown hK hw 0 rfl rfl 5 (by decide) f_5 rfl dX2_oddsOf_35 ?_
      have hw := hw.m2
      have hw := hw.m2
      refine c_vi (As := [.ref ((la 8) 0), .int f, .int x, .int t]) (rest := []) ⟨hx, hb, hml, hown, hts⟩ (k_X4_passes l D c4 A ((sG c4 sa (tr 0) lc lS (nI dp) t f x c th pe cd dc wc lv) :: Ts) tr bh mi fb ba (la 8) n os kd ic br q f x t hn hY hf) (cwV 4 hts gX2_oddsOf_X4_passes rfl rfl rfl (by decide +kernel) (rmv (Nat.le_of_ble_eq_true rfl) (Nat.le_of_ble_eq_true rfl) hRf hRl)) hK trivial hw rfl rfl rfl hl rfl (Nat.le_of_ble_eq_true rfl) ⟨Nat.zero_le _, Nat.zero_le _⟩ dX2_oddsOf_38 (fun r_38 u_38 H locs hpq hw => ?_)
      obtain ⟨b2_38, ba2_38⟩ := u_38
      have hw : gW D A js.heap ((tG c4 tr (nI b2_38) (cumQ f x q b2_38) (fbQ q b2_38) ba2_38) :: (yG c4 (la 8) (nI n) os kd ic br) :: (sG c4 sa (tr 0) lc lS (nI dp) t f x c th pe cd dc wc lv) :: Ts) H locs := hw
      obtain ⟨h0_38, h1_38, hb2_38, hba_38⟩ := hpq
      have h0_38 : r_38 = 0 → ¬ b2_38 = n := h0_38
      have h1_38 : ¬ r_38 = 0 → b2_38 = n := h1_38
      have hb2_38 : b2_38 = bhQ f x t q n := hb2_38
      have hba_38 : ∀ k, k < b2_38 → ba2_38 k = cumQ f x q (k + 1) := hba_38
      have kj_41 : ∀ (w_1 : Int64) (ls : Array Slot), w_1 = (if r_38 = 0 then 0 else pt) → lv_has ls 9 [(0, .ref (sa 0)), (1, .int 8), (2, .long pt)] → W jp l je R js jm args below meth jc H locs 0 0 Q (F0 jm 49 ls [.long w_1]) := by
        intro w_1 ls e_w_1 hl
        subst e_w_1
        have hw := hw.m1
        have hw := hw.m1
        have hw := hw.m2
        exact kr (if r_38 = 0 then 0 else pt) ((nI b2_38), (cumQ f x q b2_38), (fbQ q b2_38), ba2_38, gn, go, gk, gi, gb) _ _ _ _ hw (od_leaf (d := 8) c_13 (fun z => c_3 ((lg_zero pt).mpr z)) hb2_38 h0_38 h1_38) dX2_oddsOf_49
      refine lv_if_eq (tgt := 48) hx hb dX2_oddsOf_41 (by decide) (fun c_41 => ?_) (fun c_41 => ?_)
      · refine lv_lconst (v := 0) hx hb dX2_oddsOf_48 (by decide) ?_
        exact kj_41 _ ls (by first | rfl | (rw [if_pos c_41]; done) | (simp only [if_pos c_41]; done) | simp [c_41]) (lv_sub hl [0, 1, 2] rfl)
      · refine lv_lload_n hx hb dX2_oddsOf_44 rfl (lv_at hl 2 rfl) ?_
        refine lv_goto (tgt := 49) hx hb dX2_oddsOf_45 (by decide) ?_
        exact kj_41 _ ls (by first | rfl | (rw [if_neg c_41]; done) | (simp only [if_neg c_41]; done) | simp [c_41]) (lv_sub hl [0, 1, 2] rfl)
  · refine lv_lconst (v := 0) hx hb dX2_oddsOf_6 (by decide) ?_
    exact kr 0 (bh, mi, fb, ba, gn, go, gk, gi, gb) _ _ _ _ hw (od_0 ((lg_zero pt).mp c_3)) dX2_oddsOf_7
set_option maxHeartbeats 4000000 in
set_option maxRecDepth 100000 in
theorem k_X2_oddsOf_7 (l : Launch) (D : va_G) (c4 : Nat → ClassId) (A : Nat → Prop) (Ts : List va_W) (sa : Nat → Nat) (tr : Nat → Nat) (la : Nat → Nat → Nat) (lc : Int32) (lS : Int32) (t : Int32) (f : Int32) (x : Int32) (c : Int32) (th : Int32) (pe : Int32) (cd : Int32) (dc : Int32) (wc : Int32) (dp : Nat) (lv : Nat → Option Nat) (bh : Int32) (mi : Int32) (fb : Int32) (ba : Nat → Int32) (n : Nat) (os : Int32) (kd : Nat → Int32) (ic : Nat → Int32) (br : Nat → Int32) (q : Nat → Yq) (gn : Nat → Int32) (go : Nat → Int32) (gk : Nat → Nat → Int32) (gi : Nat → Nat → Int32) (gb : Nat → Nat → Int32) (pt : Int64) (hdp : dp ≤ 8) (hn : n ≤ 12) (hY : yR q n os kd ic br) (hf : fOk f x) (hc : 0 ≤ c.toInt ∧ c.toInt ≤ 30) (hlv : ∀ k, k < 9 → lv k = some (la k 0)) (ht0 : 0 ≤ th.toInt ∧ th.toInt ≤ 60) : Cl l yX2_oddsOf wsX2_oddsOf 4 102 [.ref (sa 0), .int 7, .long pt] D (tyA c4) A none ((sG c4 sa (tr 0) lc lS (nI dp) t f x c th pe cd dc wc lv) :: (tG c4 tr bh mi fb ba) :: (yG c4 (la 7) (nI n) os kd ic br) :: (yG c4 (la 8) (gn 8) (go 8) (gk 8) (gi 8) (gb 8)) :: Ts) (S := Int32 × Int32 × Int32 × (Nat → Int32) × (Nat → Int32) × (Nat → Int32) × (Nat → Nat → Int32) × (Nat → Nat → Int32) × (Nat → Nat → Int32)) (fun (r : Int64) (u : Int32 × Int32 × Int32 × (Nat → Int32) × (Nat → Int32) × (Nat → Int32) × (Nat → Nat → Int32) × (Nat → Nat → Int32) × (Nat → Nat → Int32)) => r = (oddP n f x t c th pe (dp - 7) q pt)) (fun u => ((sG c4 sa (tr 0) lc lS (nI dp) t f x c th pe cd dc wc lv) :: (tG c4 tr u.1 u.2.1 u.2.2.1 u.2.2.2.1) :: (yG c4 (la 7) (nI n) os kd ic br) :: (yG c4 (la 8) (u.2.2.2.2.1 8) (u.2.2.2.2.2.1 8) (u.2.2.2.2.2.2.1 8) (u.2.2.2.2.2.2.2.1 8) (u.2.2.2.2.2.2.2.2 8)) :: Ts)) := by
  refine cOl (cc := cX2_oddsOf) (maxL := 9) (by decide) rfl (Nat.le_of_ble_eq_true rfl) rfl ?_
  rintro jp je js jm below meth jc ls args R Q H locs hRf hRl ⟨hx, hb, hml, hr, hts, hown, hlocks, hK, hX⟩ hw hl kr
  have hown : js.vm.findClass RX2 = some jm.cls := hown
  have f_0 := hts (.fieldLink RX2 41 "IceSway$Search" "depth" "I") (by decide +kernel)
  have f_1 := hts (.fieldLink RX2 20 "IceSway$Search" "levels" "[LIceSway$Yards;") (by decide +kernel)
  have f_2 := hts (.fieldLink RX2 120 "IceSway$Search" "percent" "I") (by decide +kernel)
  have f_3 := hts (.constantLong RX2 129 (100)) (by decide +kernel)
  have f_4 := hts (.fieldLink RX2 117 "IceSway$Search" "thaw" "I") (by decide +kernel)
  have f_5 := hts (.fieldLink RX2 67 "IceSway$Search" "cold" "I") (by decide +kernel)
  have f_6 := hts (.fieldLink RX2 12 "IceSway$Search" "trip" "LIceSway$Trip;") (by decide +kernel)
  have f_7 := hts (.fieldLink RX2 57 "IceSway$Search" "force" "I") (by decide +kernel)
  have f_8 := hts (.fieldLink RX2 64 "IceSway$Search" "axe" "I") (by decide +kernel)
  have f_9 := hts (.fieldLink RX2 45 "IceSway$Search" "minutes" "I") (by decide +kernel)
  have hi2 : ∀ w ∈ u_ws RX2 TX2 14, w ∈ wsX2_oddsOf := fun w h => List.mem_cons_of_mem _ (List.mem_append_left _ (List.mem_append_left _ (List.mem_append_right _ h)))
  refine lv_lload_n hx hb dX2_oddsOf_0 rfl (lv_at hl 2 rfl) ?_
  refine lv_lconst (v := 0) hx hb dX2_oddsOf_1 (by decide) ?_
  refine W.lcmp hx hb dX2_oddsOf_2 ?_
  refine lv_if_ne (tgt := 8) hx hb dX2_oddsOf_3 (by decide) (fun c_3 => ?_) (fun c_3 => ?_)
  · refine lv_iload_n hx hb dX2_oddsOf_8 rfl (lv_at hl 1 rfl) ?_
    refine lv_aload_n hx hb dX2_oddsOf_9 rfl (lv_at hl 0 rfl) ?_
    refine r_get (T := TX2) (v := .int (nI dp)) hx hb hts hi2 hown hK hw 0 rfl rfl 4 (by decide) f_0 rfl dX2_oddsOf_10 ?_
    refine r_clt hx hb 7 dp (by omega) (by omega) (tgt := 50) dX2_oddsOf_13 (by decide) (fun c_13 => ?_) (fun c_13 => ?_)
    · refine lv_aload_n hx hb dX2_oddsOf_50 rfl (lv_at hl 0 rfl) ?_
      refine r_get (T := TX2) (v := .ref (sa 1)) hx hb hts hi2 hown hK hw 0 rfl rfl 3 (by decide) f_1 rfl dX2_oddsOf_51 ?_
      refine lv_iload_n hx hb dX2_oddsOf_54 rfl (lv_at hl 1 rfl) ?_
      refine lv_iconst (v := 1) hx hb dX2_oddsOf_55 (by decide) ?_
      refine r_addN hx hb 7 1 dX2_oddsOf_56 ?_
      refine r_aald hx hb hK hw 1 3 rfl rfl 8 (by decide) (by decide) (b := ((la 8) 0)) (hlv 8 (by decide)) dX2_oddsOf_57 ?_
      refine lv_astore (lv' := [(4, .ref ((la 8) 0)), (0, .ref (sa 0)), (1, .int 7), (2, .long pt)]) hx hb dX2_oddsOf_58 hl (by decide) rfl (fun ls hl => ?_)
      refine lv_lload_n hx hb dX2_oddsOf_60 rfl (lv_at hl 3 rfl) ?_
      refine lv_aload_n hx hb dX2_oddsOf_61 rfl (lv_at hl 1 rfl) ?_
      refine r_get (T := TX2) (v := .int pe) hx hb hts hi2 hown hK hw 0 rfl rfl 10 (by decide) f_2 rfl dX2_oddsOf_62 ?_
      refine lv_i2l hx hb dX2_oddsOf_65 rfl ?_
      refine lv_lmul hx hb dX2_oddsOf_66 ?_
      refine lv_ldc2 hx hb hown f_3 dX2_oddsOf_67 ?_
      refine lv_ldiv hx hb dX2_oddsOf_70 (by decide) ?_
      refine lv_lstore (lv' := [(5, .long ((pt * pe.toInt64) / 100)), (4, .ref ((la 8) 0)), (0, .ref (sa 0)), (1, .int 7), (2, .long pt)]) hx hb dX2_oddsOf_71 hl (by decide) rfl (fun ls hl => ?_)
      refine lv_aload hx hb dX2_oddsOf_73 (lv_at hl 1 rfl) ?_
      refine lv_aload_n hx hb dX2_oddsOf_75 rfl (lv_at hl 2 rfl) ?_
      refine r_get (T := TX2) (v := .ref (sa 1)) hx hb hts hi2 hown hK hw 0 rfl rfl 3 (by decide) f_1 rfl dX2_oddsOf_76 ?_
      refine lv_iload_n hx hb dX2_oddsOf_79 rfl (lv_at hl 3 rfl) ?_
      refine r_aald hx hb hK hw 1 3 rfl rfl 7 (by decide) (by decide) (b := ((la 7) 0)) (hlv 7 (by decide)) dX2_oddsOf_80 ?_
      have hw := hw.m2
      have hw := hw.m3
      refine c_vv (As := [.ref ((la 7) 0)]) (rest := []) ⟨hx, hb, hml, hown, hts⟩ (k_X6_copyFrom l D c4 A ((sG c4 sa (tr 0) lc lS (nI dp) t f x c th pe cd dc wc lv) :: (tG c4 tr bh mi fb ba) :: Ts) (la 8) (gn 8) (go 8) (gk 8) (gi 8) (gb 8) (la 7) n os kd ic br q hn hY) (cwV 1 hts gX2_oddsOf_X6_copyFrom rfl rfl rfl (by decide +kernel) (rmv (Nat.le_of_ble_eq_true rfl) (Nat.le_of_ble_eq_true rfl) hRf hRl)) hK trivial hw rfl rfl rfl hl rfl (Nat.le_of_ble_eq_true rfl) ⟨Nat.zero_le _, Nat.zero_le _⟩ dX2_oddsOf_81 (fun u_81 H locs hpq hw => ?_)
      obtain ⟨kd2_81, ic2_81, br2_81⟩ := u_81
      have hw : gW D A js.heap ((yG c4 (la 8) (nI n) os kd2_81 ic2_81 br2_81) :: (yG c4 (la 7) (nI n) os kd ic br) :: (sG c4 sa (tr 0) lc lS (nI dp) t f x c th pe cd dc wc lv) :: (tG c4 tr bh mi fb ba) :: Ts) H locs := hw
      have hY_81 := hpq
      have hY_81 : yR q n os kd2_81 ic2_81 br2_81 := hY_81
      refine lv_aload hx hb dX2_oddsOf_84 (lv_at hl 1 rfl) ?_
      refine lv_aload_n hx hb dX2_oddsOf_86 rfl (lv_at hl 2 rfl) ?_
      refine r_get (T := TX2) (v := .int th) hx hb hts hi2 hown hK hw 8 rfl rfl 9 (by decide) f_4 rfl dX2_oddsOf_87 ?_
      refine c_vv (As := [.int th]) (rest := []) ⟨hx, hb, hml, hown, hts⟩ (k_X6_melt l D c4 A ((yG c4 (la 7) (nI n) os kd ic br) :: (sG c4 sa (tr 0) lc lS (nI dp) t f x c th pe cd dc wc lv) :: (tG c4 tr bh mi fb ba) :: Ts) (la 8) n os kd2_81 ic2_81 br2_81 q th hn hY_81 ht0) (cwV 1 hts gX2_oddsOf_X6_melt rfl rfl rfl (by decide +kernel) (rmv (Nat.le_of_ble_eq_true rfl) (Nat.le_of_ble_eq_true rfl) hRf hRl)) hK trivial hw rfl rfl rfl hl rfl (Nat.le_of_ble_eq_true rfl) ⟨Nat.zero_le _, Nat.zero_le _⟩ dX2_oddsOf_90 (fun u_90 H locs hpq hw => ?_)
      obtain ⟨os2_90, kd2_90, ic2_90, br2_90⟩ := u_90
      have hw : gW D A js.heap ((yG c4 (la 8) (nI n) os2_90 kd2_90 ic2_90 br2_90) :: (yG c4 (la 7) (nI n) os kd ic br) :: (sG c4 sa (tr 0) lc lS (nI dp) t f x c th pe cd dc wc lv) :: (tG c4 tr bh mi fb ba) :: Ts) H locs := hw
      have hY_90 := hpq
      have hY_90 : yR (fun y => thawQ th (q y)) n os2_90 kd2_90 ic2_90 br2_90 := hY_90
      refine lv_aload_n hx hb dX2_oddsOf_93 rfl (lv_at hl 2 rfl) ?_
      refine lv_iload_n hx hb dX2_oddsOf_94 rfl (lv_at hl 3 rfl) ?_
      refine lv_iconst (v := 1) hx hb dX2_oddsOf_95 (by decide) ?_
      refine r_addN hx hb 7 1 dX2_oddsOf_96 ?_
      refine lv_lload hx hb dX2_oddsOf_97 (lv_at hl 0 rfl) ?_
      have hw := hw.m3
      have hw := hw.m3
      refine c_vl (As := [.int 8, .long ((pt * pe.toInt64) / 100)]) (rest := []) ⟨hx, hb, hml, hown, hts⟩ (k_X2_oddsOf_8 l D c4 A ((yG c4 (la 7) (nI n) os kd ic br) :: Ts) sa tr la lc lS t f x c th pe cd dc wc dp lv bh mi fb ba n os2_90 kd2_90 ic2_90 br2_90 (fun y => thawQ th (q y)) gn go gk gi gb ((pt * pe.toInt64) / 100) hdp hn hY_90 hf hc hlv ht0) (cwV 2 hts gX2_oddsOf_X2_oddsOf rfl rfl rfl (by decide +kernel) (rmv (Nat.le_of_ble_eq_true rfl) (Nat.le_of_ble_eq_true rfl) hRf hRl)) hK trivial hw rfl rfl rfl hl rfl (Nat.le_of_ble_eq_true rfl) ⟨Nat.zero_le _, Nat.zero_le _⟩ dX2_oddsOf_99 (fun r_99 u_99 H locs hpq hw => ?_)
      obtain ⟨bh2_99, mi2_99, fb2_99, ba2_99, gn2_99, go2_99, gk2_99, gi2_99, gb2_99⟩ := u_99
      have hw : gW D A js.heap ((sG c4 sa (tr 0) lc lS (nI dp) t f x c th pe cd dc wc lv) :: (tG c4 tr bh2_99 mi2_99 fb2_99 ba2_99) :: (yG c4 (la 8) (nI n) os2_90 kd2_90 ic2_90 br2_90) :: (yG c4 (la 7) (nI n) os kd ic br) :: Ts) H locs := hw
      have er_99 := hpq
      have er_99 : r_99 = (oddP n f x t c th pe (dp - 8) (fun y => thawQ th (q y)) ((pt * pe.toInt64) / 100)) := er_99
      subst er_99
      refine lv_lstore (lv' := [(7, .long (oddP n f x t c th pe (dp - 8) (fun y => thawQ th (q y)) ((pt * pe.toInt64) / 100))), (5, .long ((pt * pe.toInt64) / 100)), (4, .ref ((la 8) 0)), (0, .ref (sa 0)), (1, .int 7), (2, .long pt)]) hx hb dX2_oddsOf_102 hl (by decide) rfl (fun ls hl => ?_)
      refine lv_aload hx hb dX2_oddsOf_104 (lv_at hl 2 rfl) ?_
      refine lv_aload_n hx hb dX2_oddsOf_106 rfl (lv_at hl 3 rfl) ?_
      refine r_get (T := TX2) (v := .ref (sa 1)) hx hb hts hi2 hown hK hw 0 rfl rfl 3 (by decide) f_1 rfl dX2_oddsOf_107 ?_
      refine lv_iload_n hx hb dX2_oddsOf_110 rfl (lv_at hl 4 rfl) ?_
      refine r_aald hx hb hK hw 1 3 rfl rfl 7 (by decide) (by decide) (b := ((la 7) 0)) (hlv 7 (by decide)) dX2_oddsOf_111 ?_
      have hw := hw.m3
      have hw := hw.m3
      refine c_vv (As := [.ref ((la 7) 0)]) (rest := []) ⟨hx, hb, hml, hown, hts⟩ (k_X6_copyFrom l D c4 A ((sG c4 sa (tr 0) lc lS (nI dp) t f x c th pe cd dc wc lv) :: (tG c4 tr bh2_99 mi2_99 fb2_99 ba2_99) :: Ts) (la 8) (nI n) os2_90 kd2_90 ic2_90 br2_90 (la 7) n os kd ic br q hn hY) (cwV 1 hts gX2_oddsOf_X6_copyFrom rfl rfl rfl (by decide +kernel) (rmv (Nat.le_of_ble_eq_true rfl) (Nat.le_of_ble_eq_true rfl) hRf hRl)) hK trivial hw rfl rfl rfl hl rfl (Nat.le_of_ble_eq_true rfl) ⟨Nat.zero_le _, Nat.zero_le _⟩ dX2_oddsOf_112 (fun u_112 H locs hpq hw => ?_)
      obtain ⟨kd2_112, ic2_112, br2_112⟩ := u_112
      have hw : gW D A js.heap ((yG c4 (la 8) (nI n) os kd2_112 ic2_112 br2_112) :: (yG c4 (la 7) (nI n) os kd ic br) :: (sG c4 sa (tr 0) lc lS (nI dp) t f x c th pe cd dc wc lv) :: (tG c4 tr bh2_99 mi2_99 fb2_99 ba2_99) :: Ts) H locs := hw
      have hY_112 := hpq
      have hY_112 : yR q n os kd2_112 ic2_112 br2_112 := hY_112
      refine lv_aload hx hb dX2_oddsOf_115 (lv_at hl 2 rfl) ?_
      refine lv_aload_n hx hb dX2_oddsOf_117 rfl (lv_at hl 3 rfl) ?_
      refine r_get (T := TX2) (v := .int c) hx hb hts hi2 hown hK hw 8 rfl rfl 8 (by decide) f_5 rfl dX2_oddsOf_118 ?_
      refine c_vv (As := [.int c]) (rest := []) ⟨hx, hb, hml, hown, hts⟩ (k_X6_freeze l D c4 A ((yG c4 (la 7) (nI n) os kd ic br) :: (sG c4 sa (tr 0) lc lS (nI dp) t f x c th pe cd dc wc lv) :: (tG c4 tr bh2_99 mi2_99 fb2_99 ba2_99) :: Ts) (la 8) n os kd2_112 ic2_112 br2_112 q c hn hY_112 hc) (cwV 1 hts gX2_oddsOf_X6_freeze rfl rfl rfl (by decide +kernel) (rmv (Nat.le_of_ble_eq_true rfl) (Nat.le_of_ble_eq_true rfl) hRf hRl)) hK trivial hw rfl rfl rfl hl rfl (Nat.le_of_ble_eq_true rfl) ⟨Nat.zero_le _, Nat.zero_le _⟩ dX2_oddsOf_121 (fun u_121 H locs hpq hw => ?_)
      obtain ⟨os2_121, kd2_121, ic2_121, br2_121⟩ := u_121
      have hw : gW D A js.heap ((yG c4 (la 8) (nI n) os2_121 kd2_121 ic2_121 br2_121) :: (yG c4 (la 7) (nI n) os kd ic br) :: (sG c4 sa (tr 0) lc lS (nI dp) t f x c th pe cd dc wc lv) :: (tG c4 tr bh2_99 mi2_99 fb2_99 ba2_99) :: Ts) H locs := hw
      have hY_121 := hpq
      have hY_121 : yR (fun y => nightQ c (q y)) n os2_121 kd2_121 ic2_121 br2_121 := hY_121
      refine lv_lload hx hb dX2_oddsOf_124 (lv_at hl 0 rfl) ?_
      refine lv_aload_n hx hb dX2_oddsOf_126 rfl (lv_at hl 3 rfl) ?_
      refine lv_iload_n hx hb dX2_oddsOf_127 rfl (lv_at hl 4 rfl) ?_
      refine lv_iconst (v := 1) hx hb dX2_oddsOf_128 (by decide) ?_
      refine r_addN hx hb 7 1 dX2_oddsOf_129 ?_
      refine lv_lload_n hx hb dX2_oddsOf_130 rfl (lv_at hl 5 rfl) ?_
      refine lv_lload hx hb dX2_oddsOf_131 (lv_at hl 1 rfl) ?_
      refine lv_lsub hx hb dX2_oddsOf_133 ?_
      have hw := hw.m3
      have hw := hw.m3
      refine c_vl (As := [.int 8, .long (pt - ((pt * pe.toInt64) / 100))]) (rest := [.long (oddP n f x t c th pe (dp - 8) (fun y => thawQ th (q y)) ((pt * pe.toInt64) / 100))]) ⟨hx, hb, hml, hown, hts⟩ (k_X2_oddsOf_8 l D c4 A ((yG c4 (la 7) (nI n) os kd ic br) :: Ts) sa tr la lc lS t f x c th pe cd dc wc dp lv bh2_99 mi2_99 fb2_99 ba2_99 n os2_121 kd2_121 ic2_121 br2_121 (fun y => nightQ c (q y)) gn2_99 go2_99 gk2_99 gi2_99 gb2_99 (pt - ((pt * pe.toInt64) / 100)) hdp hn hY_121 hf hc hlv ht0) (cwV 2 hts gX2_oddsOf_X2_oddsOf rfl rfl rfl (by decide +kernel) (rmv (Nat.le_of_ble_eq_true rfl) (Nat.le_of_ble_eq_true rfl) hRf hRl)) hK trivial hw rfl rfl rfl hl rfl (Nat.le_of_ble_eq_true rfl) ⟨Nat.zero_le _, Nat.zero_le _⟩ dX2_oddsOf_134 (fun r_134 u_134 H locs hpq hw => ?_)
      obtain ⟨bh2_134, mi2_134, fb2_134, ba2_134, gn2_134, go2_134, gk2_134, gi2_134, gb2_134⟩ := u_134
      have hw : gW D A js.heap ((sG c4 sa (tr 0) lc lS (nI dp) t f x c th pe cd dc wc lv) :: (tG c4 tr bh2_134 mi2_134 fb2_134 ba2_134) :: (yG c4 (la 8) (nI n) os2_121 kd2_121 ic2_121 br2_121) :: (yG c4 (la 7) (nI n) os kd ic br) :: Ts) H locs := hw
      have er_134 := hpq
      have er_134 : r_134 = (oddP n f x t c th pe (dp - 8) (fun y => nightQ c (q y)) (pt - ((pt * pe.toInt64) / 100))) := er_134
      subst er_134
      refine lv_ladd hx hb dX2_oddsOf_137 ?_
      have hw := hw.m2
      have hw := hw.m3
      have hw := hw.m3
      have hw := hw.m3
      exact kr ((oddP n f x t c th pe (dp - 8) (fun y => thawQ th (q y)) ((pt * pe.toInt64) / 100)) + (oddP n f x t c th pe (dp - 8) (fun y => nightQ c (q y)) (pt - ((pt * pe.toInt64) / 100)))) (bh2_134, mi2_134, fb2_134, ba2_134, upd gn2_134 8 (nI n), upd go2_134 8 os2_121, va_up gk2_134 8 kd2_121, va_up gi2_134 8 ic2_121, va_up gb2_134 8 br2_121) _ _ _ _ hw (od_node (d := 7) c_13 (fun z => c_3 ((lg_zero pt).mpr z))) dX2_oddsOf_138
    · refine lv_aload_n hx hb dX2_oddsOf_16 rfl (lv_at hl 0 rfl) ?_
      refine r_get (T := TX2) (v := .ref (tr 0)) hx hb hts hi2 hown hK hw 0 rfl rfl 2 (by decide) f_6 rfl dX2_oddsOf_17 ?_
      refine lv_aload_n hx hb dX2_oddsOf_20 rfl (lv_at hl 0 rfl) ?_
      refine r_get (T := TX2) (v := .ref (sa 1)) hx hb hts hi2 hown hK hw 0 rfl rfl 3 (by decide) f_1 rfl dX2_oddsOf_21 ?_
      refine lv_iload_n hx hb dX2_oddsOf_24 rfl (lv_at hl 1 rfl) ?_
      refine r_aald hx hb hK hw 1 3 rfl rfl 7 (by decide) (by decide) (b := ((la 7) 0)) (hlv 7 (by decide)) dX2_oddsOf_25 ?_
      refine lv_aload_n hx hb dX2_oddsOf_26 rfl (lv_at hl 0 rfl) ?_
      refine r_get (T := TX2) (v := .int f) hx hb hts hi2 hown hK hw 0 rfl rfl 6 (by decide) f_7 rfl dX2_oddsOf_27 ?_
      refine lv_aload_n hx hb dX2_oddsOf_30 rfl (lv_at hl 0 rfl) ?_
      refine r_get (T := TX2) (v := .int x) hx hb hts hi2 hown hK hw 0 rfl rfl 7 (by decide) f_8 rfl dX2_oddsOf_31 ?_
      refine lv_aload_n hx hb dX2_oddsOf_34 rfl (lv_at hl 0 rfl) ?_
      refine r_get (T := TX2) (v := .int t) hx hb hts hi2 hown hK hw 0 rfl rfl 5 (by decide) f_9 rfl dX2_oddsOf_35 ?_
      have hw := hw.m2
      have hw := hw.m2
      refine c_vi (As := [.ref ((la 7) 0), .int f, .int x, .int t]) (rest := []) ⟨hx, hb, hml, hown, hts⟩ (k_X4_passes l D c4 A ((sG c4 sa (tr 0) lc lS (nI dp) t f x c th pe cd dc wc lv) :: (yG c4 (la 8) (gn 8) (go 8) (gk 8) (gi 8) (gb 8)) :: Ts) tr bh mi fb ba (la 7) n os kd ic br q f x t hn hY hf) (cwV 4 hts gX2_oddsOf_X4_passes rfl rfl rfl (by decide +kernel) (rmv (Nat.le_of_ble_eq_true rfl) (Nat.le_of_ble_eq_true rfl) hRf hRl)) hK trivial hw rfl rfl rfl hl rfl (Nat.le_of_ble_eq_true rfl) ⟨Nat.zero_le _, Nat.zero_le _⟩ dX2_oddsOf_38 (fun r_38 u_38 H locs hpq hw => ?_)
      obtain ⟨b2_38, ba2_38⟩ := u_38
      have hw : gW D A js.heap ((tG c4 tr (nI b2_38) (cumQ f x q b2_38) (fbQ q b2_38) ba2_38) :: (yG c4 (la 7) (nI n) os kd ic br) :: (sG c4 sa (tr 0) lc lS (nI dp) t f x c th pe cd dc wc lv) :: (yG c4 (la 8) (gn 8) (go 8) (gk 8) (gi 8) (gb 8)) :: Ts) H locs := hw
      obtain ⟨h0_38, h1_38, hb2_38, hba_38⟩ := hpq
      have h0_38 : r_38 = 0 → ¬ b2_38 = n := h0_38
      have h1_38 : ¬ r_38 = 0 → b2_38 = n := h1_38
      have hb2_38 : b2_38 = bhQ f x t q n := hb2_38
      have hba_38 : ∀ k, k < b2_38 → ba2_38 k = cumQ f x q (k + 1) := hba_38
      have kj_41 : ∀ (w_1 : Int64) (ls : Array Slot), w_1 = (if r_38 = 0 then 0 else pt) → lv_has ls 9 [(0, .ref (sa 0)), (1, .int 7), (2, .long pt)] → W jp l je R js jm args below meth jc H locs 0 0 Q (F0 jm 49 ls [.long w_1]) := by
        intro w_1 ls e_w_1 hl
        subst e_w_1
        have hw := hw.m3
        have hw := hw.m2
        have hw := hw.m2
        have hw := hw.m3
        exact kr (if r_38 = 0 then 0 else pt) ((nI b2_38), (cumQ f x q b2_38), (fbQ q b2_38), ba2_38, gn, go, gk, gi, gb) _ _ _ _ hw (od_leaf (d := 7) c_13 (fun z => c_3 ((lg_zero pt).mpr z)) hb2_38 h0_38 h1_38) dX2_oddsOf_49
      refine lv_if_eq (tgt := 48) hx hb dX2_oddsOf_41 (by decide) (fun c_41 => ?_) (fun c_41 => ?_)
      · refine lv_lconst (v := 0) hx hb dX2_oddsOf_48 (by decide) ?_
        exact kj_41 _ ls (by first | rfl | (rw [if_pos c_41]; done) | (simp only [if_pos c_41]; done) | simp [c_41]) (lv_sub hl [0, 1, 2] rfl)
      · refine lv_lload_n hx hb dX2_oddsOf_44 rfl (lv_at hl 2 rfl) ?_
        refine lv_goto (tgt := 49) hx hb dX2_oddsOf_45 (by decide) ?_
        exact kj_41 _ ls (by first | rfl | (rw [if_neg c_41]; done) | (simp only [if_neg c_41]; done) | simp [c_41]) (lv_sub hl [0, 1, 2] rfl)
  · refine lv_lconst (v := 0) hx hb dX2_oddsOf_6 (by decide) ?_
    exact kr 0 (bh, mi, fb, ba, gn, go, gk, gi, gb) _ _ _ _ hw (od_0 ((lg_zero pt).mp c_3)) dX2_oddsOf_7
set_option maxHeartbeats 4000000 in
set_option maxRecDepth 100000 in
theorem k_X2_oddsOf_6 (l : Launch) (D : va_G) (c4 : Nat → ClassId) (A : Nat → Prop) (Ts : List va_W) (sa : Nat → Nat) (tr : Nat → Nat) (la : Nat → Nat → Nat) (lc : Int32) (lS : Int32) (t : Int32) (f : Int32) (x : Int32) (c : Int32) (th : Int32) (pe : Int32) (cd : Int32) (dc : Int32) (wc : Int32) (dp : Nat) (lv : Nat → Option Nat) (bh : Int32) (mi : Int32) (fb : Int32) (ba : Nat → Int32) (n : Nat) (os : Int32) (kd : Nat → Int32) (ic : Nat → Int32) (br : Nat → Int32) (q : Nat → Yq) (gn : Nat → Int32) (go : Nat → Int32) (gk : Nat → Nat → Int32) (gi : Nat → Nat → Int32) (gb : Nat → Nat → Int32) (pt : Int64) (hdp : dp ≤ 8) (hn : n ≤ 12) (hY : yR q n os kd ic br) (hf : fOk f x) (hc : 0 ≤ c.toInt ∧ c.toInt ≤ 30) (hlv : ∀ k, k < 9 → lv k = some (la k 0)) (ht0 : 0 ≤ th.toInt ∧ th.toInt ≤ 60) : Cl l yX2_oddsOf wsX2_oddsOf 5 130 [.ref (sa 0), .int 6, .long pt] D (tyA c4) A none ((sG c4 sa (tr 0) lc lS (nI dp) t f x c th pe cd dc wc lv) :: (tG c4 tr bh mi fb ba) :: (yG c4 (la 6) (nI n) os kd ic br) :: (yG c4 (la 7) (gn 7) (go 7) (gk 7) (gi 7) (gb 7)) :: (yG c4 (la 8) (gn 8) (go 8) (gk 8) (gi 8) (gb 8)) :: Ts) (S := Int32 × Int32 × Int32 × (Nat → Int32) × (Nat → Int32) × (Nat → Int32) × (Nat → Nat → Int32) × (Nat → Nat → Int32) × (Nat → Nat → Int32)) (fun (r : Int64) (u : Int32 × Int32 × Int32 × (Nat → Int32) × (Nat → Int32) × (Nat → Int32) × (Nat → Nat → Int32) × (Nat → Nat → Int32) × (Nat → Nat → Int32)) => r = (oddP n f x t c th pe (dp - 6) q pt)) (fun u => ((sG c4 sa (tr 0) lc lS (nI dp) t f x c th pe cd dc wc lv) :: (tG c4 tr u.1 u.2.1 u.2.2.1 u.2.2.2.1) :: (yG c4 (la 6) (nI n) os kd ic br) :: (yG c4 (la 7) (u.2.2.2.2.1 7) (u.2.2.2.2.2.1 7) (u.2.2.2.2.2.2.1 7) (u.2.2.2.2.2.2.2.1 7) (u.2.2.2.2.2.2.2.2 7)) :: (yG c4 (la 8) (u.2.2.2.2.1 8) (u.2.2.2.2.2.1 8) (u.2.2.2.2.2.2.1 8) (u.2.2.2.2.2.2.2.1 8) (u.2.2.2.2.2.2.2.2 8)) :: Ts)) := by
  refine cOl (cc := cX2_oddsOf) (maxL := 9) (by decide) rfl (Nat.le_of_ble_eq_true rfl) rfl ?_
  rintro jp je js jm below meth jc ls args R Q H locs hRf hRl ⟨hx, hb, hml, hr, hts, hown, hlocks, hK, hX⟩ hw hl kr
  have hown : js.vm.findClass RX2 = some jm.cls := hown
  have f_0 := hts (.fieldLink RX2 41 "IceSway$Search" "depth" "I") (by decide +kernel)
  have f_1 := hts (.fieldLink RX2 20 "IceSway$Search" "levels" "[LIceSway$Yards;") (by decide +kernel)
  have f_2 := hts (.fieldLink RX2 120 "IceSway$Search" "percent" "I") (by decide +kernel)
  have f_3 := hts (.constantLong RX2 129 (100)) (by decide +kernel)
  have f_4 := hts (.fieldLink RX2 117 "IceSway$Search" "thaw" "I") (by decide +kernel)
  have f_5 := hts (.fieldLink RX2 67 "IceSway$Search" "cold" "I") (by decide +kernel)
  have f_6 := hts (.fieldLink RX2 12 "IceSway$Search" "trip" "LIceSway$Trip;") (by decide +kernel)
  have f_7 := hts (.fieldLink RX2 57 "IceSway$Search" "force" "I") (by decide +kernel)
  have f_8 := hts (.fieldLink RX2 64 "IceSway$Search" "axe" "I") (by decide +kernel)
  have f_9 := hts (.fieldLink RX2 45 "IceSway$Search" "minutes" "I") (by decide +kernel)
  have hi2 : ∀ w ∈ u_ws RX2 TX2 14, w ∈ wsX2_oddsOf := fun w h => List.mem_cons_of_mem _ (List.mem_append_left _ (List.mem_append_left _ (List.mem_append_right _ h)))
  refine lv_lload_n hx hb dX2_oddsOf_0 rfl (lv_at hl 2 rfl) ?_
  refine lv_lconst (v := 0) hx hb dX2_oddsOf_1 (by decide) ?_
  refine W.lcmp hx hb dX2_oddsOf_2 ?_
  refine lv_if_ne (tgt := 8) hx hb dX2_oddsOf_3 (by decide) (fun c_3 => ?_) (fun c_3 => ?_)
  · refine lv_iload_n hx hb dX2_oddsOf_8 rfl (lv_at hl 1 rfl) ?_
    refine lv_aload_n hx hb dX2_oddsOf_9 rfl (lv_at hl 0 rfl) ?_
    refine r_get (T := TX2) (v := .int (nI dp)) hx hb hts hi2 hown hK hw 0 rfl rfl 4 (by decide) f_0 rfl dX2_oddsOf_10 ?_
    refine r_clt hx hb 6 dp (by omega) (by omega) (tgt := 50) dX2_oddsOf_13 (by decide) (fun c_13 => ?_) (fun c_13 => ?_)
    · refine lv_aload_n hx hb dX2_oddsOf_50 rfl (lv_at hl 0 rfl) ?_
      refine r_get (T := TX2) (v := .ref (sa 1)) hx hb hts hi2 hown hK hw 0 rfl rfl 3 (by decide) f_1 rfl dX2_oddsOf_51 ?_
      refine lv_iload_n hx hb dX2_oddsOf_54 rfl (lv_at hl 1 rfl) ?_
      refine lv_iconst (v := 1) hx hb dX2_oddsOf_55 (by decide) ?_
      refine r_addN hx hb 6 1 dX2_oddsOf_56 ?_
      refine r_aald hx hb hK hw 1 3 rfl rfl 7 (by decide) (by decide) (b := ((la 7) 0)) (hlv 7 (by decide)) dX2_oddsOf_57 ?_
      refine lv_astore (lv' := [(4, .ref ((la 7) 0)), (0, .ref (sa 0)), (1, .int 6), (2, .long pt)]) hx hb dX2_oddsOf_58 hl (by decide) rfl (fun ls hl => ?_)
      refine lv_lload_n hx hb dX2_oddsOf_60 rfl (lv_at hl 3 rfl) ?_
      refine lv_aload_n hx hb dX2_oddsOf_61 rfl (lv_at hl 1 rfl) ?_
      refine r_get (T := TX2) (v := .int pe) hx hb hts hi2 hown hK hw 0 rfl rfl 10 (by decide) f_2 rfl dX2_oddsOf_62 ?_
      refine lv_i2l hx hb dX2_oddsOf_65 rfl ?_
      refine lv_lmul hx hb dX2_oddsOf_66 ?_
      refine lv_ldc2 hx hb hown f_3 dX2_oddsOf_67 ?_
      refine lv_ldiv hx hb dX2_oddsOf_70 (by decide) ?_
      refine lv_lstore (lv' := [(5, .long ((pt * pe.toInt64) / 100)), (4, .ref ((la 7) 0)), (0, .ref (sa 0)), (1, .int 6), (2, .long pt)]) hx hb dX2_oddsOf_71 hl (by decide) rfl (fun ls hl => ?_)
      refine lv_aload hx hb dX2_oddsOf_73 (lv_at hl 1 rfl) ?_
      refine lv_aload_n hx hb dX2_oddsOf_75 rfl (lv_at hl 2 rfl) ?_
      refine r_get (T := TX2) (v := .ref (sa 1)) hx hb hts hi2 hown hK hw 0 rfl rfl 3 (by decide) f_1 rfl dX2_oddsOf_76 ?_
      refine lv_iload_n hx hb dX2_oddsOf_79 rfl (lv_at hl 3 rfl) ?_
      refine r_aald hx hb hK hw 1 3 rfl rfl 6 (by decide) (by decide) (b := ((la 6) 0)) (hlv 6 (by decide)) dX2_oddsOf_80 ?_
      have hw := hw.m2
      have hw := hw.m3
      refine c_vv (As := [.ref ((la 6) 0)]) (rest := []) ⟨hx, hb, hml, hown, hts⟩ (k_X6_copyFrom l D c4 A ((sG c4 sa (tr 0) lc lS (nI dp) t f x c th pe cd dc wc lv) :: (tG c4 tr bh mi fb ba) :: (yG c4 (la 8) (gn 8) (go 8) (gk 8) (gi 8) (gb 8)) :: Ts) (la 7) (gn 7) (go 7) (gk 7) (gi 7) (gb 7) (la 6) n os kd ic br q hn hY) (cwV 1 hts gX2_oddsOf_X6_copyFrom rfl rfl rfl (by decide +kernel) (rmv (Nat.le_of_ble_eq_true rfl) (Nat.le_of_ble_eq_true rfl) hRf hRl)) hK trivial hw rfl rfl rfl hl rfl (Nat.le_of_ble_eq_true rfl) ⟨Nat.zero_le _, Nat.zero_le _⟩ dX2_oddsOf_81 (fun u_81 H locs hpq hw => ?_)
      obtain ⟨kd2_81, ic2_81, br2_81⟩ := u_81
      have hw : gW D A js.heap ((yG c4 (la 7) (nI n) os kd2_81 ic2_81 br2_81) :: (yG c4 (la 6) (nI n) os kd ic br) :: (sG c4 sa (tr 0) lc lS (nI dp) t f x c th pe cd dc wc lv) :: (tG c4 tr bh mi fb ba) :: (yG c4 (la 8) (gn 8) (go 8) (gk 8) (gi 8) (gb 8)) :: Ts) H locs := hw
      have hY_81 := hpq
      have hY_81 : yR q n os kd2_81 ic2_81 br2_81 := hY_81
      refine lv_aload hx hb dX2_oddsOf_84 (lv_at hl 1 rfl) ?_
      refine lv_aload_n hx hb dX2_oddsOf_86 rfl (lv_at hl 2 rfl) ?_
      refine r_get (T := TX2) (v := .int th) hx hb hts hi2 hown hK hw 8 rfl rfl 9 (by decide) f_4 rfl dX2_oddsOf_87 ?_
      refine c_vv (As := [.int th]) (rest := []) ⟨hx, hb, hml, hown, hts⟩ (k_X6_melt l D c4 A ((yG c4 (la 6) (nI n) os kd ic br) :: (sG c4 sa (tr 0) lc lS (nI dp) t f x c th pe cd dc wc lv) :: (tG c4 tr bh mi fb ba) :: (yG c4 (la 8) (gn 8) (go 8) (gk 8) (gi 8) (gb 8)) :: Ts) (la 7) n os kd2_81 ic2_81 br2_81 q th hn hY_81 ht0) (cwV 1 hts gX2_oddsOf_X6_melt rfl rfl rfl (by decide +kernel) (rmv (Nat.le_of_ble_eq_true rfl) (Nat.le_of_ble_eq_true rfl) hRf hRl)) hK trivial hw rfl rfl rfl hl rfl (Nat.le_of_ble_eq_true rfl) ⟨Nat.zero_le _, Nat.zero_le _⟩ dX2_oddsOf_90 (fun u_90 H locs hpq hw => ?_)
      obtain ⟨os2_90, kd2_90, ic2_90, br2_90⟩ := u_90
      have hw : gW D A js.heap ((yG c4 (la 7) (nI n) os2_90 kd2_90 ic2_90 br2_90) :: (yG c4 (la 6) (nI n) os kd ic br) :: (sG c4 sa (tr 0) lc lS (nI dp) t f x c th pe cd dc wc lv) :: (tG c4 tr bh mi fb ba) :: (yG c4 (la 8) (gn 8) (go 8) (gk 8) (gi 8) (gb 8)) :: Ts) H locs := hw
      have hY_90 := hpq
      have hY_90 : yR (fun y => thawQ th (q y)) n os2_90 kd2_90 ic2_90 br2_90 := hY_90
      refine lv_aload_n hx hb dX2_oddsOf_93 rfl (lv_at hl 2 rfl) ?_
      refine lv_iload_n hx hb dX2_oddsOf_94 rfl (lv_at hl 3 rfl) ?_
      refine lv_iconst (v := 1) hx hb dX2_oddsOf_95 (by decide) ?_
      refine r_addN hx hb 6 1 dX2_oddsOf_96 ?_
      refine lv_lload hx hb dX2_oddsOf_97 (lv_at hl 0 rfl) ?_
      have hw := hw.m4
      have hw := hw.m1
      have hw := hw.m4
      have hw := hw.m4
      refine c_vl (As := [.int 7, .long ((pt * pe.toInt64) / 100)]) (rest := []) ⟨hx, hb, hml, hown, hts⟩ (k_X2_oddsOf_7 l D c4 A ((yG c4 (la 6) (nI n) os kd ic br) :: Ts) sa tr la lc lS t f x c th pe cd dc wc dp lv bh mi fb ba n os2_90 kd2_90 ic2_90 br2_90 (fun y => thawQ th (q y)) gn go gk gi gb ((pt * pe.toInt64) / 100) hdp hn hY_90 hf hc hlv ht0) (cwV 2 hts gX2_oddsOf_X2_oddsOf rfl rfl rfl (by decide +kernel) (rmv (Nat.le_of_ble_eq_true rfl) (Nat.le_of_ble_eq_true rfl) hRf hRl)) hK trivial hw rfl rfl rfl hl rfl (Nat.le_of_ble_eq_true rfl) ⟨Nat.zero_le _, Nat.zero_le _⟩ dX2_oddsOf_99 (fun r_99 u_99 H locs hpq hw => ?_)
      obtain ⟨bh2_99, mi2_99, fb2_99, ba2_99, gn2_99, go2_99, gk2_99, gi2_99, gb2_99⟩ := u_99
      have hw : gW D A js.heap ((sG c4 sa (tr 0) lc lS (nI dp) t f x c th pe cd dc wc lv) :: (tG c4 tr bh2_99 mi2_99 fb2_99 ba2_99) :: (yG c4 (la 7) (nI n) os2_90 kd2_90 ic2_90 br2_90) :: (yG c4 (la 8) (gn2_99 8) (go2_99 8) (gk2_99 8) (gi2_99 8) (gb2_99 8)) :: (yG c4 (la 6) (nI n) os kd ic br) :: Ts) H locs := hw
      have er_99 := hpq
      have er_99 : r_99 = (oddP n f x t c th pe (dp - 7) (fun y => thawQ th (q y)) ((pt * pe.toInt64) / 100)) := er_99
      subst er_99
      refine lv_lstore (lv' := [(7, .long (oddP n f x t c th pe (dp - 7) (fun y => thawQ th (q y)) ((pt * pe.toInt64) / 100))), (5, .long ((pt * pe.toInt64) / 100)), (4, .ref ((la 7) 0)), (0, .ref (sa 0)), (1, .int 6), (2, .long pt)]) hx hb dX2_oddsOf_102 hl (by decide) rfl (fun ls hl => ?_)
      refine lv_aload hx hb dX2_oddsOf_104 (lv_at hl 2 rfl) ?_
      refine lv_aload_n hx hb dX2_oddsOf_106 rfl (lv_at hl 3 rfl) ?_
      refine r_get (T := TX2) (v := .ref (sa 1)) hx hb hts hi2 hown hK hw 0 rfl rfl 3 (by decide) f_1 rfl dX2_oddsOf_107 ?_
      refine lv_iload_n hx hb dX2_oddsOf_110 rfl (lv_at hl 4 rfl) ?_
      refine r_aald hx hb hK hw 1 3 rfl rfl 6 (by decide) (by decide) (b := ((la 6) 0)) (hlv 6 (by decide)) dX2_oddsOf_111 ?_
      have hw := hw.m4
      have hw := hw.m3
      refine c_vv (As := [.ref ((la 6) 0)]) (rest := []) ⟨hx, hb, hml, hown, hts⟩ (k_X6_copyFrom l D c4 A ((sG c4 sa (tr 0) lc lS (nI dp) t f x c th pe cd dc wc lv) :: (tG c4 tr bh2_99 mi2_99 fb2_99 ba2_99) :: (yG c4 (la 8) (gn2_99 8) (go2_99 8) (gk2_99 8) (gi2_99 8) (gb2_99 8)) :: Ts) (la 7) (nI n) os2_90 kd2_90 ic2_90 br2_90 (la 6) n os kd ic br q hn hY) (cwV 1 hts gX2_oddsOf_X6_copyFrom rfl rfl rfl (by decide +kernel) (rmv (Nat.le_of_ble_eq_true rfl) (Nat.le_of_ble_eq_true rfl) hRf hRl)) hK trivial hw rfl rfl rfl hl rfl (Nat.le_of_ble_eq_true rfl) ⟨Nat.zero_le _, Nat.zero_le _⟩ dX2_oddsOf_112 (fun u_112 H locs hpq hw => ?_)
      obtain ⟨kd2_112, ic2_112, br2_112⟩ := u_112
      have hw : gW D A js.heap ((yG c4 (la 7) (nI n) os kd2_112 ic2_112 br2_112) :: (yG c4 (la 6) (nI n) os kd ic br) :: (sG c4 sa (tr 0) lc lS (nI dp) t f x c th pe cd dc wc lv) :: (tG c4 tr bh2_99 mi2_99 fb2_99 ba2_99) :: (yG c4 (la 8) (gn2_99 8) (go2_99 8) (gk2_99 8) (gi2_99 8) (gb2_99 8)) :: Ts) H locs := hw
      have hY_112 := hpq
      have hY_112 : yR q n os kd2_112 ic2_112 br2_112 := hY_112
      refine lv_aload hx hb dX2_oddsOf_115 (lv_at hl 2 rfl) ?_
      refine lv_aload_n hx hb dX2_oddsOf_117 rfl (lv_at hl 3 rfl) ?_
      refine r_get (T := TX2) (v := .int c) hx hb hts hi2 hown hK hw 8 rfl rfl 8 (by decide) f_5 rfl dX2_oddsOf_118 ?_
      refine c_vv (As := [.int c]) (rest := []) ⟨hx, hb, hml, hown, hts⟩ (k_X6_freeze l D c4 A ((yG c4 (la 6) (nI n) os kd ic br) :: (sG c4 sa (tr 0) lc lS (nI dp) t f x c th pe cd dc wc lv) :: (tG c4 tr bh2_99 mi2_99 fb2_99 ba2_99) :: (yG c4 (la 8) (gn2_99 8) (go2_99 8) (gk2_99 8) (gi2_99 8) (gb2_99 8)) :: Ts) (la 7) n os kd2_112 ic2_112 br2_112 q c hn hY_112 hc) (cwV 1 hts gX2_oddsOf_X6_freeze rfl rfl rfl (by decide +kernel) (rmv (Nat.le_of_ble_eq_true rfl) (Nat.le_of_ble_eq_true rfl) hRf hRl)) hK trivial hw rfl rfl rfl hl rfl (Nat.le_of_ble_eq_true rfl) ⟨Nat.zero_le _, Nat.zero_le _⟩ dX2_oddsOf_121 (fun u_121 H locs hpq hw => ?_)
      obtain ⟨os2_121, kd2_121, ic2_121, br2_121⟩ := u_121
      have hw : gW D A js.heap ((yG c4 (la 7) (nI n) os2_121 kd2_121 ic2_121 br2_121) :: (yG c4 (la 6) (nI n) os kd ic br) :: (sG c4 sa (tr 0) lc lS (nI dp) t f x c th pe cd dc wc lv) :: (tG c4 tr bh2_99 mi2_99 fb2_99 ba2_99) :: (yG c4 (la 8) (gn2_99 8) (go2_99 8) (gk2_99 8) (gi2_99 8) (gb2_99 8)) :: Ts) H locs := hw
      have hY_121 := hpq
      have hY_121 : yR (fun y => nightQ c (q y)) n os2_121 kd2_121 ic2_121 br2_121 := hY_121
      refine lv_lload hx hb dX2_oddsOf_124 (lv_at hl 0 rfl) ?_
      refine lv_aload_n hx hb dX2_oddsOf_126 rfl (lv_at hl 3 rfl) ?_
      refine lv_iload_n hx hb dX2_oddsOf_127 rfl (lv_at hl 4 rfl) ?_
      refine lv_iconst (v := 1) hx hb dX2_oddsOf_128 (by decide) ?_
      refine r_addN hx hb 6 1 dX2_oddsOf_129 ?_
      refine lv_lload_n hx hb dX2_oddsOf_130 rfl (lv_at hl 5 rfl) ?_
      refine lv_lload hx hb dX2_oddsOf_131 (lv_at hl 1 rfl) ?_
      refine lv_lsub hx hb dX2_oddsOf_133 ?_
      have hw := hw.m4
      have hw := hw.m1
      have hw := hw.m4
      have hw := hw.m4
      refine c_vl (As := [.int 7, .long (pt - ((pt * pe.toInt64) / 100))]) (rest := [.long (oddP n f x t c th pe (dp - 7) (fun y => thawQ th (q y)) ((pt * pe.toInt64) / 100))]) ⟨hx, hb, hml, hown, hts⟩ (k_X2_oddsOf_7 l D c4 A ((yG c4 (la 6) (nI n) os kd ic br) :: Ts) sa tr la lc lS t f x c th pe cd dc wc dp lv bh2_99 mi2_99 fb2_99 ba2_99 n os2_121 kd2_121 ic2_121 br2_121 (fun y => nightQ c (q y)) gn2_99 go2_99 gk2_99 gi2_99 gb2_99 (pt - ((pt * pe.toInt64) / 100)) hdp hn hY_121 hf hc hlv ht0) (cwV 2 hts gX2_oddsOf_X2_oddsOf rfl rfl rfl (by decide +kernel) (rmv (Nat.le_of_ble_eq_true rfl) (Nat.le_of_ble_eq_true rfl) hRf hRl)) hK trivial hw rfl rfl rfl hl rfl (Nat.le_of_ble_eq_true rfl) ⟨Nat.zero_le _, Nat.zero_le _⟩ dX2_oddsOf_134 (fun r_134 u_134 H locs hpq hw => ?_)
      obtain ⟨bh2_134, mi2_134, fb2_134, ba2_134, gn2_134, go2_134, gk2_134, gi2_134, gb2_134⟩ := u_134
      have hw : gW D A js.heap ((sG c4 sa (tr 0) lc lS (nI dp) t f x c th pe cd dc wc lv) :: (tG c4 tr bh2_134 mi2_134 fb2_134 ba2_134) :: (yG c4 (la 7) (nI n) os2_121 kd2_121 ic2_121 br2_121) :: (yG c4 (la 8) (gn2_134 8) (go2_134 8) (gk2_134 8) (gi2_134 8) (gb2_134 8)) :: (yG c4 (la 6) (nI n) os kd ic br) :: Ts) H locs := hw
      have er_134 := hpq
      have er_134 : r_134 = (oddP n f x t c th pe (dp - 7) (fun y => nightQ c (q y)) (pt - ((pt * pe.toInt64) / 100))) := er_134
      subst er_134
      refine lv_ladd hx hb dX2_oddsOf_137 ?_
      have hw := hw.m3
      have hw := hw.m3
      have hw := hw.m4
      have hw := hw.m4
      have hw := hw.m4
      exact kr ((oddP n f x t c th pe (dp - 7) (fun y => thawQ th (q y)) ((pt * pe.toInt64) / 100)) + (oddP n f x t c th pe (dp - 7) (fun y => nightQ c (q y)) (pt - ((pt * pe.toInt64) / 100)))) (bh2_134, mi2_134, fb2_134, ba2_134, upd gn2_134 7 (nI n), upd go2_134 7 os2_121, va_up gk2_134 7 kd2_121, va_up gi2_134 7 ic2_121, va_up gb2_134 7 br2_121) _ _ _ _ hw (od_node (d := 6) c_13 (fun z => c_3 ((lg_zero pt).mpr z))) dX2_oddsOf_138
    · refine lv_aload_n hx hb dX2_oddsOf_16 rfl (lv_at hl 0 rfl) ?_
      refine r_get (T := TX2) (v := .ref (tr 0)) hx hb hts hi2 hown hK hw 0 rfl rfl 2 (by decide) f_6 rfl dX2_oddsOf_17 ?_
      refine lv_aload_n hx hb dX2_oddsOf_20 rfl (lv_at hl 0 rfl) ?_
      refine r_get (T := TX2) (v := .ref (sa 1)) hx hb hts hi2 hown hK hw 0 rfl rfl 3 (by decide) f_1 rfl dX2_oddsOf_21 ?_
      refine lv_iload_n hx hb dX2_oddsOf_24 rfl (lv_at hl 1 rfl) ?_
      refine r_aald hx hb hK hw 1 3 rfl rfl 6 (by decide) (by decide) (b := ((la 6) 0)) (hlv 6 (by decide)) dX2_oddsOf_25 ?_
      refine lv_aload_n hx hb dX2_oddsOf_26 rfl (lv_at hl 0 rfl) ?_
      refine r_get (T := TX2) (v := .int f) hx hb hts hi2 hown hK hw 0 rfl rfl 6 (by decide) f_7 rfl dX2_oddsOf_27 ?_
      refine lv_aload_n hx hb dX2_oddsOf_30 rfl (lv_at hl 0 rfl) ?_
      refine r_get (T := TX2) (v := .int x) hx hb hts hi2 hown hK hw 0 rfl rfl 7 (by decide) f_8 rfl dX2_oddsOf_31 ?_
      refine lv_aload_n hx hb dX2_oddsOf_34 rfl (lv_at hl 0 rfl) ?_
      refine r_get (T := TX2) (v := .int t) hx hb hts hi2 hown hK hw 0 rfl rfl 5 (by decide) f_9 rfl dX2_oddsOf_35 ?_
      have hw := hw.m2
      have hw := hw.m2
      refine c_vi (As := [.ref ((la 6) 0), .int f, .int x, .int t]) (rest := []) ⟨hx, hb, hml, hown, hts⟩ (k_X4_passes l D c4 A ((sG c4 sa (tr 0) lc lS (nI dp) t f x c th pe cd dc wc lv) :: (yG c4 (la 7) (gn 7) (go 7) (gk 7) (gi 7) (gb 7)) :: (yG c4 (la 8) (gn 8) (go 8) (gk 8) (gi 8) (gb 8)) :: Ts) tr bh mi fb ba (la 6) n os kd ic br q f x t hn hY hf) (cwV 4 hts gX2_oddsOf_X4_passes rfl rfl rfl (by decide +kernel) (rmv (Nat.le_of_ble_eq_true rfl) (Nat.le_of_ble_eq_true rfl) hRf hRl)) hK trivial hw rfl rfl rfl hl rfl (Nat.le_of_ble_eq_true rfl) ⟨Nat.zero_le _, Nat.zero_le _⟩ dX2_oddsOf_38 (fun r_38 u_38 H locs hpq hw => ?_)
      obtain ⟨b2_38, ba2_38⟩ := u_38
      have hw : gW D A js.heap ((tG c4 tr (nI b2_38) (cumQ f x q b2_38) (fbQ q b2_38) ba2_38) :: (yG c4 (la 6) (nI n) os kd ic br) :: (sG c4 sa (tr 0) lc lS (nI dp) t f x c th pe cd dc wc lv) :: (yG c4 (la 7) (gn 7) (go 7) (gk 7) (gi 7) (gb 7)) :: (yG c4 (la 8) (gn 8) (go 8) (gk 8) (gi 8) (gb 8)) :: Ts) H locs := hw
      obtain ⟨h0_38, h1_38, hb2_38, hba_38⟩ := hpq
      have h0_38 : r_38 = 0 → ¬ b2_38 = n := h0_38
      have h1_38 : ¬ r_38 = 0 → b2_38 = n := h1_38
      have hb2_38 : b2_38 = bhQ f x t q n := hb2_38
      have hba_38 : ∀ k, k < b2_38 → ba2_38 k = cumQ f x q (k + 1) := hba_38
      have kj_41 : ∀ (w_1 : Int64) (ls : Array Slot), w_1 = (if r_38 = 0 then 0 else pt) → lv_has ls 9 [(0, .ref (sa 0)), (1, .int 6), (2, .long pt)] → W jp l je R js jm args below meth jc H locs 0 0 Q (F0 jm 49 ls [.long w_1]) := by
        intro w_1 ls e_w_1 hl
        subst e_w_1
        have hw := hw.m4
        have hw := hw.m4
        have hw := hw.m3
        have hw := hw.m3
        have hw := hw.m4
        exact kr (if r_38 = 0 then 0 else pt) ((nI b2_38), (cumQ f x q b2_38), (fbQ q b2_38), ba2_38, gn, go, gk, gi, gb) _ _ _ _ hw (od_leaf (d := 6) c_13 (fun z => c_3 ((lg_zero pt).mpr z)) hb2_38 h0_38 h1_38) dX2_oddsOf_49
      refine lv_if_eq (tgt := 48) hx hb dX2_oddsOf_41 (by decide) (fun c_41 => ?_) (fun c_41 => ?_)
      · refine lv_lconst (v := 0) hx hb dX2_oddsOf_48 (by decide) ?_
        exact kj_41 _ ls (by first | rfl | (rw [if_pos c_41]; done) | (simp only [if_pos c_41]; done) | simp [c_41]) (lv_sub hl [0, 1, 2] rfl)
      · refine lv_lload_n hx hb dX2_oddsOf_44 rfl (lv_at hl 2 rfl) ?_
        refine lv_goto (tgt := 49) hx hb dX2_oddsOf_45 (by decide) ?_
        exact kj_41 _ ls (by first | rfl | (rw [if_neg c_41]; done) | (simp only [if_neg c_41]; done) | simp [c_41]) (lv_sub hl [0, 1, 2] rfl)
  · refine lv_lconst (v := 0) hx hb dX2_oddsOf_6 (by decide) ?_
    exact kr 0 (bh, mi, fb, ba, gn, go, gk, gi, gb) _ _ _ _ hw (od_0 ((lg_zero pt).mp c_3)) dX2_oddsOf_7
set_option maxHeartbeats 4000000 in
set_option maxRecDepth 100000 in
theorem k_X2_oddsOf_5 (l : Launch) (D : va_G) (c4 : Nat → ClassId) (A : Nat → Prop) (Ts : List va_W) (sa : Nat → Nat) (tr : Nat → Nat) (la : Nat → Nat → Nat) (lc : Int32) (lS : Int32) (t : Int32) (f : Int32) (x : Int32) (c : Int32) (th : Int32) (pe : Int32) (cd : Int32) (dc : Int32) (wc : Int32) (dp : Nat) (lv : Nat → Option Nat) (bh : Int32) (mi : Int32) (fb : Int32) (ba : Nat → Int32) (n : Nat) (os : Int32) (kd : Nat → Int32) (ic : Nat → Int32) (br : Nat → Int32) (q : Nat → Yq) (gn : Nat → Int32) (go : Nat → Int32) (gk : Nat → Nat → Int32) (gi : Nat → Nat → Int32) (gb : Nat → Nat → Int32) (pt : Int64) (hdp : dp ≤ 8) (hn : n ≤ 12) (hY : yR q n os kd ic br) (hf : fOk f x) (hc : 0 ≤ c.toInt ∧ c.toInt ≤ 30) (hlv : ∀ k, k < 9 → lv k = some (la k 0)) (ht0 : 0 ≤ th.toInt ∧ th.toInt ≤ 60) : Cl l yX2_oddsOf wsX2_oddsOf 6 158 [.ref (sa 0), .int 5, .long pt] D (tyA c4) A none ((sG c4 sa (tr 0) lc lS (nI dp) t f x c th pe cd dc wc lv) :: (tG c4 tr bh mi fb ba) :: (yG c4 (la 5) (nI n) os kd ic br) :: (yG c4 (la 6) (gn 6) (go 6) (gk 6) (gi 6) (gb 6)) :: (yG c4 (la 7) (gn 7) (go 7) (gk 7) (gi 7) (gb 7)) :: (yG c4 (la 8) (gn 8) (go 8) (gk 8) (gi 8) (gb 8)) :: Ts) (S := Int32 × Int32 × Int32 × (Nat → Int32) × (Nat → Int32) × (Nat → Int32) × (Nat → Nat → Int32) × (Nat → Nat → Int32) × (Nat → Nat → Int32)) (fun (r : Int64) (u : Int32 × Int32 × Int32 × (Nat → Int32) × (Nat → Int32) × (Nat → Int32) × (Nat → Nat → Int32) × (Nat → Nat → Int32) × (Nat → Nat → Int32)) => r = (oddP n f x t c th pe (dp - 5) q pt)) (fun u => ((sG c4 sa (tr 0) lc lS (nI dp) t f x c th pe cd dc wc lv) :: (tG c4 tr u.1 u.2.1 u.2.2.1 u.2.2.2.1) :: (yG c4 (la 5) (nI n) os kd ic br) :: (yG c4 (la 6) (u.2.2.2.2.1 6) (u.2.2.2.2.2.1 6) (u.2.2.2.2.2.2.1 6) (u.2.2.2.2.2.2.2.1 6) (u.2.2.2.2.2.2.2.2 6)) :: (yG c4 (la 7) (u.2.2.2.2.1 7) (u.2.2.2.2.2.1 7) (u.2.2.2.2.2.2.1 7) (u.2.2.2.2.2.2.2.1 7) (u.2.2.2.2.2.2.2.2 7)) :: (yG c4 (la 8) (u.2.2.2.2.1 8) (u.2.2.2.2.2.1 8) (u.2.2.2.2.2.2.1 8) (u.2.2.2.2.2.2.2.1 8) (u.2.2.2.2.2.2.2.2 8)) :: Ts)) := by
  refine cOl (cc := cX2_oddsOf) (maxL := 9) (by decide) rfl (Nat.le_of_ble_eq_true rfl) rfl ?_
  rintro jp je js jm below meth jc ls args R Q H locs hRf hRl ⟨hx, hb, hml, hr, hts, hown, hlocks, hK, hX⟩ hw hl kr
  have hown : js.vm.findClass RX2 = some jm.cls := hown
  have f_0 := hts (.fieldLink RX2 41 "IceSway$Search" "depth" "I") (by decide +kernel)
  have f_1 := hts (.fieldLink RX2 20 "IceSway$Search" "levels" "[LIceSway$Yards;") (by decide +kernel)
  have f_2 := hts (.fieldLink RX2 120 "IceSway$Search" "percent" "I") (by decide +kernel)
  have f_3 := hts (.constantLong RX2 129 (100)) (by decide +kernel)
  have f_4 := hts (.fieldLink RX2 117 "IceSway$Search" "thaw" "I") (by decide +kernel)
  have f_5 := hts (.fieldLink RX2 67 "IceSway$Search" "cold" "I") (by decide +kernel)
  have f_6 := hts (.fieldLink RX2 12 "IceSway$Search" "trip" "LIceSway$Trip;") (by decide +kernel)
  have f_7 := hts (.fieldLink RX2 57 "IceSway$Search" "force" "I") (by decide +kernel)
  have f_8 := hts (.fieldLink RX2 64 "IceSway$Search" "axe" "I") (by decide +kernel)
  have f_9 := hts (.fieldLink RX2 45 "IceSway$Search" "minutes" "I") (by decide +kernel)
  have hi2 : ∀ w ∈ u_ws RX2 TX2 14, w ∈ wsX2_oddsOf := fun w h => List.mem_cons_of_mem _ (List.mem_append_left _ (List.mem_append_left _ (List.mem_append_right _ h)))
  refine lv_lload_n hx hb dX2_oddsOf_0 rfl (lv_at hl 2 rfl) ?_
  refine lv_lconst (v := 0) hx hb dX2_oddsOf_1 (by decide) ?_
  refine W.lcmp hx hb dX2_oddsOf_2 ?_
  refine lv_if_ne (tgt := 8) hx hb dX2_oddsOf_3 (by decide) (fun c_3 => ?_) (fun c_3 => ?_)
  · refine lv_iload_n hx hb dX2_oddsOf_8 rfl (lv_at hl 1 rfl) ?_
    refine lv_aload_n hx hb dX2_oddsOf_9 rfl (lv_at hl 0 rfl) ?_
    refine r_get (T := TX2) (v := .int (nI dp)) hx hb hts hi2 hown hK hw 0 rfl rfl 4 (by decide) f_0 rfl dX2_oddsOf_10 ?_
    refine r_clt hx hb 5 dp (by omega) (by omega) (tgt := 50) dX2_oddsOf_13 (by decide) (fun c_13 => ?_) (fun c_13 => ?_)
    · refine lv_aload_n hx hb dX2_oddsOf_50 rfl (lv_at hl 0 rfl) ?_
      refine r_get (T := TX2) (v := .ref (sa 1)) hx hb hts hi2 hown hK hw 0 rfl rfl 3 (by decide) f_1 rfl dX2_oddsOf_51 ?_
      refine lv_iload_n hx hb dX2_oddsOf_54 rfl (lv_at hl 1 rfl) ?_
      refine lv_iconst (v := 1) hx hb dX2_oddsOf_55 (by decide) ?_
      refine r_addN hx hb 5 1 dX2_oddsOf_56 ?_
      refine r_aald hx hb hK hw 1 3 rfl rfl 6 (by decide) (by decide) (b := ((la 6) 0)) (hlv 6 (by decide)) dX2_oddsOf_57 ?_
      refine lv_astore (lv' := [(4, .ref ((la 6) 0)), (0, .ref (sa 0)), (1, .int 5), (2, .long pt)]) hx hb dX2_oddsOf_58 hl (by decide) rfl (fun ls hl => ?_)
      refine lv_lload_n hx hb dX2_oddsOf_60 rfl (lv_at hl 3 rfl) ?_
      refine lv_aload_n hx hb dX2_oddsOf_61 rfl (lv_at hl 1 rfl) ?_
      refine r_get (T := TX2) (v := .int pe) hx hb hts hi2 hown hK hw 0 rfl rfl 10 (by decide) f_2 rfl dX2_oddsOf_62 ?_
      refine lv_i2l hx hb dX2_oddsOf_65 rfl ?_
      refine lv_lmul hx hb dX2_oddsOf_66 ?_
      refine lv_ldc2 hx hb hown f_3 dX2_oddsOf_67 ?_
      refine lv_ldiv hx hb dX2_oddsOf_70 (by decide) ?_
      refine lv_lstore (lv' := [(5, .long ((pt * pe.toInt64) / 100)), (4, .ref ((la 6) 0)), (0, .ref (sa 0)), (1, .int 5), (2, .long pt)]) hx hb dX2_oddsOf_71 hl (by decide) rfl (fun ls hl => ?_)
      refine lv_aload hx hb dX2_oddsOf_73 (lv_at hl 1 rfl) ?_
      refine lv_aload_n hx hb dX2_oddsOf_75 rfl (lv_at hl 2 rfl) ?_
      refine r_get (T := TX2) (v := .ref (sa 1)) hx hb hts hi2 hown hK hw 0 rfl rfl 3 (by decide) f_1 rfl dX2_oddsOf_76 ?_
      refine lv_iload_n hx hb dX2_oddsOf_79 rfl (lv_at hl 3 rfl) ?_
      refine r_aald hx hb hK hw 1 3 rfl rfl 5 (by decide) (by decide) (b := ((la 5) 0)) (hlv 5 (by decide)) dX2_oddsOf_80 ?_
      have hw := hw.m2
      have hw := hw.m3
      refine c_vv (As := [.ref ((la 5) 0)]) (rest := []) ⟨hx, hb, hml, hown, hts⟩ (k_X6_copyFrom l D c4 A ((sG c4 sa (tr 0) lc lS (nI dp) t f x c th pe cd dc wc lv) :: (tG c4 tr bh mi fb ba) :: (yG c4 (la 7) (gn 7) (go 7) (gk 7) (gi 7) (gb 7)) :: (yG c4 (la 8) (gn 8) (go 8) (gk 8) (gi 8) (gb 8)) :: Ts) (la 6) (gn 6) (go 6) (gk 6) (gi 6) (gb 6) (la 5) n os kd ic br q hn hY) (cwV 1 hts gX2_oddsOf_X6_copyFrom rfl rfl rfl (by decide +kernel) (rmv (Nat.le_of_ble_eq_true rfl) (Nat.le_of_ble_eq_true rfl) hRf hRl)) hK trivial hw rfl rfl rfl hl rfl (Nat.le_of_ble_eq_true rfl) ⟨Nat.zero_le _, Nat.zero_le _⟩ dX2_oddsOf_81 (fun u_81 H locs hpq hw => ?_)
      obtain ⟨kd2_81, ic2_81, br2_81⟩ := u_81
      have hw : gW D A js.heap ((yG c4 (la 6) (nI n) os kd2_81 ic2_81 br2_81) :: (yG c4 (la 5) (nI n) os kd ic br) :: (sG c4 sa (tr 0) lc lS (nI dp) t f x c th pe cd dc wc lv) :: (tG c4 tr bh mi fb ba) :: (yG c4 (la 7) (gn 7) (go 7) (gk 7) (gi 7) (gb 7)) :: (yG c4 (la 8) (gn 8) (go 8) (gk 8) (gi 8) (gb 8)) :: Ts) H locs := hw
      have hY_81 := hpq
      have hY_81 : yR q n os kd2_81 ic2_81 br2_81 := hY_81
      refine lv_aload hx hb dX2_oddsOf_84 (lv_at hl 1 rfl) ?_
      refine lv_aload_n hx hb dX2_oddsOf_86 rfl (lv_at hl 2 rfl) ?_
      refine r_get (T := TX2) (v := .int th) hx hb hts hi2 hown hK hw 8 rfl rfl 9 (by decide) f_4 rfl dX2_oddsOf_87 ?_
      refine c_vv (As := [.int th]) (rest := []) ⟨hx, hb, hml, hown, hts⟩ (k_X6_melt l D c4 A ((yG c4 (la 5) (nI n) os kd ic br) :: (sG c4 sa (tr 0) lc lS (nI dp) t f x c th pe cd dc wc lv) :: (tG c4 tr bh mi fb ba) :: (yG c4 (la 7) (gn 7) (go 7) (gk 7) (gi 7) (gb 7)) :: (yG c4 (la 8) (gn 8) (go 8) (gk 8) (gi 8) (gb 8)) :: Ts) (la 6) n os kd2_81 ic2_81 br2_81 q th hn hY_81 ht0) (cwV 1 hts gX2_oddsOf_X6_melt rfl rfl rfl (by decide +kernel) (rmv (Nat.le_of_ble_eq_true rfl) (Nat.le_of_ble_eq_true rfl) hRf hRl)) hK trivial hw rfl rfl rfl hl rfl (Nat.le_of_ble_eq_true rfl) ⟨Nat.zero_le _, Nat.zero_le _⟩ dX2_oddsOf_90 (fun u_90 H locs hpq hw => ?_)
      obtain ⟨os2_90, kd2_90, ic2_90, br2_90⟩ := u_90
      have hw : gW D A js.heap ((yG c4 (la 6) (nI n) os2_90 kd2_90 ic2_90 br2_90) :: (yG c4 (la 5) (nI n) os kd ic br) :: (sG c4 sa (tr 0) lc lS (nI dp) t f x c th pe cd dc wc lv) :: (tG c4 tr bh mi fb ba) :: (yG c4 (la 7) (gn 7) (go 7) (gk 7) (gi 7) (gb 7)) :: (yG c4 (la 8) (gn 8) (go 8) (gk 8) (gi 8) (gb 8)) :: Ts) H locs := hw
      have hY_90 := hpq
      have hY_90 : yR (fun y => thawQ th (q y)) n os2_90 kd2_90 ic2_90 br2_90 := hY_90
      refine lv_aload_n hx hb dX2_oddsOf_93 rfl (lv_at hl 2 rfl) ?_
      refine lv_iload_n hx hb dX2_oddsOf_94 rfl (lv_at hl 3 rfl) ?_
      refine lv_iconst (v := 1) hx hb dX2_oddsOf_95 (by decide) ?_
      refine r_addN hx hb 5 1 dX2_oddsOf_96 ?_
      refine lv_lload hx hb dX2_oddsOf_97 (lv_at hl 0 rfl) ?_
      have hw := hw.m5
      have hw := hw.m5
      have hw := hw.m2
      have hw := hw.m5
      have hw := hw.m5
      refine c_vl (As := [.int 6, .long ((pt * pe.toInt64) / 100)]) (rest := []) ⟨hx, hb, hml, hown, hts⟩ (k_X2_oddsOf_6 l D c4 A ((yG c4 (la 5) (nI n) os kd ic br) :: Ts) sa tr la lc lS t f x c th pe cd dc wc dp lv bh mi fb ba n os2_90 kd2_90 ic2_90 br2_90 (fun y => thawQ th (q y)) gn go gk gi gb ((pt * pe.toInt64) / 100) hdp hn hY_90 hf hc hlv ht0) (cwV 2 hts gX2_oddsOf_X2_oddsOf rfl rfl rfl (by decide +kernel) (rmv (Nat.le_of_ble_eq_true rfl) (Nat.le_of_ble_eq_true rfl) hRf hRl)) hK trivial hw rfl rfl rfl hl rfl (Nat.le_of_ble_eq_true rfl) ⟨Nat.zero_le _, Nat.zero_le _⟩ dX2_oddsOf_99 (fun r_99 u_99 H locs hpq hw => ?_)
      obtain ⟨bh2_99, mi2_99, fb2_99, ba2_99, gn2_99, go2_99, gk2_99, gi2_99, gb2_99⟩ := u_99
      have hw : gW D A js.heap ((sG c4 sa (tr 0) lc lS (nI dp) t f x c th pe cd dc wc lv) :: (tG c4 tr bh2_99 mi2_99 fb2_99 ba2_99) :: (yG c4 (la 6) (nI n) os2_90 kd2_90 ic2_90 br2_90) :: (yG c4 (la 7) (gn2_99 7) (go2_99 7) (gk2_99 7) (gi2_99 7) (gb2_99 7)) :: (yG c4 (la 8) (gn2_99 8) (go2_99 8) (gk2_99 8) (gi2_99 8) (gb2_99 8)) :: (yG c4 (la 5) (nI n) os kd ic br) :: Ts) H locs := hw
      have er_99 := hpq
      have er_99 : r_99 = (oddP n f x t c th pe (dp - 6) (fun y => thawQ th (q y)) ((pt * pe.toInt64) / 100)) := er_99
      subst er_99
      refine lv_lstore (lv' := [(7, .long (oddP n f x t c th pe (dp - 6) (fun y => thawQ th (q y)) ((pt * pe.toInt64) / 100))), (5, .long ((pt * pe.toInt64) / 100)), (4, .ref ((la 6) 0)), (0, .ref (sa 0)), (1, .int 5), (2, .long pt)]) hx hb dX2_oddsOf_102 hl (by decide) rfl (fun ls hl => ?_)
      refine lv_aload hx hb dX2_oddsOf_104 (lv_at hl 2 rfl) ?_
      refine lv_aload_n hx hb dX2_oddsOf_106 rfl (lv_at hl 3 rfl) ?_
      refine r_get (T := TX2) (v := .ref (sa 1)) hx hb hts hi2 hown hK hw 0 rfl rfl 3 (by decide) f_1 rfl dX2_oddsOf_107 ?_
      refine lv_iload_n hx hb dX2_oddsOf_110 rfl (lv_at hl 4 rfl) ?_
      refine r_aald hx hb hK hw 1 3 rfl rfl 5 (by decide) (by decide) (b := ((la 5) 0)) (hlv 5 (by decide)) dX2_oddsOf_111 ?_
      have hw := hw.m5
      have hw := hw.m3
      refine c_vv (As := [.ref ((la 5) 0)]) (rest := []) ⟨hx, hb, hml, hown, hts⟩ (k_X6_copyFrom l D c4 A ((sG c4 sa (tr 0) lc lS (nI dp) t f x c th pe cd dc wc lv) :: (tG c4 tr bh2_99 mi2_99 fb2_99 ba2_99) :: (yG c4 (la 7) (gn2_99 7) (go2_99 7) (gk2_99 7) (gi2_99 7) (gb2_99 7)) :: (yG c4 (la 8) (gn2_99 8) (go2_99 8) (gk2_99 8) (gi2_99 8) (gb2_99 8)) :: Ts) (la 6) (nI n) os2_90 kd2_90 ic2_90 br2_90 (la 5) n os kd ic br q hn hY) (cwV 1 hts gX2_oddsOf_X6_copyFrom rfl rfl rfl (by decide +kernel) (rmv (Nat.le_of_ble_eq_true rfl) (Nat.le_of_ble_eq_true rfl) hRf hRl)) hK trivial hw rfl rfl rfl hl rfl (Nat.le_of_ble_eq_true rfl) ⟨Nat.zero_le _, Nat.zero_le _⟩ dX2_oddsOf_112 (fun u_112 H locs hpq hw => ?_)
      obtain ⟨kd2_112, ic2_112, br2_112⟩ := u_112
      have hw : gW D A js.heap ((yG c4 (la 6) (nI n) os kd2_112 ic2_112 br2_112) :: (yG c4 (la 5) (nI n) os kd ic br) :: (sG c4 sa (tr 0) lc lS (nI dp) t f x c th pe cd dc wc lv) :: (tG c4 tr bh2_99 mi2_99 fb2_99 ba2_99) :: (yG c4 (la 7) (gn2_99 7) (go2_99 7) (gk2_99 7) (gi2_99 7) (gb2_99 7)) :: (yG c4 (la 8) (gn2_99 8) (go2_99 8) (gk2_99 8) (gi2_99 8) (gb2_99 8)) :: Ts) H locs := hw
      have hY_112 := hpq
      have hY_112 : yR q n os kd2_112 ic2_112 br2_112 := hY_112
      refine lv_aload hx hb dX2_oddsOf_115 (lv_at hl 2 rfl) ?_
      refine lv_aload_n hx hb dX2_oddsOf_117 rfl (lv_at hl 3 rfl) ?_
      refine r_get (T := TX2) (v := .int c) hx hb hts hi2 hown hK hw 8 rfl rfl 8 (by decide) f_5 rfl dX2_oddsOf_118 ?_
      refine c_vv (As := [.int c]) (rest := []) ⟨hx, hb, hml, hown, hts⟩ (k_X6_freeze l D c4 A ((yG c4 (la 5) (nI n) os kd ic br) :: (sG c4 sa (tr 0) lc lS (nI dp) t f x c th pe cd dc wc lv) :: (tG c4 tr bh2_99 mi2_99 fb2_99 ba2_99) :: (yG c4 (la 7) (gn2_99 7) (go2_99 7) (gk2_99 7) (gi2_99 7) (gb2_99 7)) :: (yG c4 (la 8) (gn2_99 8) (go2_99 8) (gk2_99 8) (gi2_99 8) (gb2_99 8)) :: Ts) (la 6) n os kd2_112 ic2_112 br2_112 q c hn hY_112 hc) (cwV 1 hts gX2_oddsOf_X6_freeze rfl rfl rfl (by decide +kernel) (rmv (Nat.le_of_ble_eq_true rfl) (Nat.le_of_ble_eq_true rfl) hRf hRl)) hK trivial hw rfl rfl rfl hl rfl (Nat.le_of_ble_eq_true rfl) ⟨Nat.zero_le _, Nat.zero_le _⟩ dX2_oddsOf_121 (fun u_121 H locs hpq hw => ?_)
      obtain ⟨os2_121, kd2_121, ic2_121, br2_121⟩ := u_121
      have hw : gW D A js.heap ((yG c4 (la 6) (nI n) os2_121 kd2_121 ic2_121 br2_121) :: (yG c4 (la 5) (nI n) os kd ic br) :: (sG c4 sa (tr 0) lc lS (nI dp) t f x c th pe cd dc wc lv) :: (tG c4 tr bh2_99 mi2_99 fb2_99 ba2_99) :: (yG c4 (la 7) (gn2_99 7) (go2_99 7) (gk2_99 7) (gi2_99 7) (gb2_99 7)) :: (yG c4 (la 8) (gn2_99 8) (go2_99 8) (gk2_99 8) (gi2_99 8) (gb2_99 8)) :: Ts) H locs := hw
      have hY_121 := hpq
      have hY_121 : yR (fun y => nightQ c (q y)) n os2_121 kd2_121 ic2_121 br2_121 := hY_121
      refine lv_lload hx hb dX2_oddsOf_124 (lv_at hl 0 rfl) ?_
      refine lv_aload_n hx hb dX2_oddsOf_126 rfl (lv_at hl 3 rfl) ?_
      refine lv_iload_n hx hb dX2_oddsOf_127 rfl (lv_at hl 4 rfl) ?_
      refine lv_iconst (v := 1) hx hb dX2_oddsOf_128 (by decide) ?_
      refine r_addN hx hb 5 1 dX2_oddsOf_129 ?_
      refine lv_lload_n hx hb dX2_oddsOf_130 rfl (lv_at hl 5 rfl) ?_
      refine lv_lload hx hb dX2_oddsOf_131 (lv_at hl 1 rfl) ?_
      refine lv_lsub hx hb dX2_oddsOf_133 ?_
      have hw := hw.m5
      have hw := hw.m5
      have hw := hw.m2
      have hw := hw.m5
      have hw := hw.m5
      refine c_vl (As := [.int 6, .long (pt - ((pt * pe.toInt64) / 100))]) (rest := [.long (oddP n f x t c th pe (dp - 6) (fun y => thawQ th (q y)) ((pt * pe.toInt64) / 100))]) ⟨hx, hb, hml, hown, hts⟩ (k_X2_oddsOf_6 l D c4 A ((yG c4 (la 5) (nI n) os kd ic br) :: Ts) sa tr la lc lS t f x c th pe cd dc wc dp lv bh2_99 mi2_99 fb2_99 ba2_99 n os2_121 kd2_121 ic2_121 br2_121 (fun y => nightQ c (q y)) gn2_99 go2_99 gk2_99 gi2_99 gb2_99 (pt - ((pt * pe.toInt64) / 100)) hdp hn hY_121 hf hc hlv ht0) (cwV 2 hts gX2_oddsOf_X2_oddsOf rfl rfl rfl (by decide +kernel) (rmv (Nat.le_of_ble_eq_true rfl) (Nat.le_of_ble_eq_true rfl) hRf hRl)) hK trivial hw rfl rfl rfl hl rfl (Nat.le_of_ble_eq_true rfl) ⟨Nat.zero_le _, Nat.zero_le _⟩ dX2_oddsOf_134 (fun r_134 u_134 H locs hpq hw => ?_)
      obtain ⟨bh2_134, mi2_134, fb2_134, ba2_134, gn2_134, go2_134, gk2_134, gi2_134, gb2_134⟩ := u_134
      have hw : gW D A js.heap ((sG c4 sa (tr 0) lc lS (nI dp) t f x c th pe cd dc wc lv) :: (tG c4 tr bh2_134 mi2_134 fb2_134 ba2_134) :: (yG c4 (la 6) (nI n) os2_121 kd2_121 ic2_121 br2_121) :: (yG c4 (la 7) (gn2_134 7) (go2_134 7) (gk2_134 7) (gi2_134 7) (gb2_134 7)) :: (yG c4 (la 8) (gn2_134 8) (go2_134 8) (gk2_134 8) (gi2_134 8) (gb2_134 8)) :: (yG c4 (la 5) (nI n) os kd ic br) :: Ts) H locs := hw
      have er_134 := hpq
      have er_134 : r_134 = (oddP n f x t c th pe (dp - 6) (fun y => nightQ c (q y)) (pt - ((pt * pe.toInt64) / 100))) := er_134
      subst er_134
      refine lv_ladd hx hb dX2_oddsOf_137 ?_
      have hw := hw.m4
      have hw := hw.m4
      have hw := hw.m4
      have hw := hw.m5
      have hw := hw.m5
      have hw := hw.m5
      exact kr ((oddP n f x t c th pe (dp - 6) (fun y => thawQ th (q y)) ((pt * pe.toInt64) / 100)) + (oddP n f x t c th pe (dp - 6) (fun y => nightQ c (q y)) (pt - ((pt * pe.toInt64) / 100)))) (bh2_134, mi2_134, fb2_134, ba2_134, upd gn2_134 6 (nI n), upd go2_134 6 os2_121, va_up gk2_134 6 kd2_121, va_up gi2_134 6 ic2_121, va_up gb2_134 6 br2_121) _ _ _ _ hw (od_node (d := 5) c_13 (fun z => c_3 ((lg_zero pt).mpr z))) dX2_oddsOf_138
    · refine lv_aload_n hx hb dX2_oddsOf_16 rfl (lv_at hl 0 rfl) ?_
      refine r_get (T := TX2) (v := .ref (tr 0)) hx hb hts hi2 hown hK hw 0 rfl rfl 2 (by decide) f_6 rfl dX2_oddsOf_17 ?_
      refine lv_aload_n hx hb dX2_oddsOf_20 rfl (lv_at hl 0 rfl) ?_
      refine r_get (T := TX2) (v := .ref (sa 1)) hx hb hts hi2 hown hK hw 0 rfl rfl 3 (by decide) f_1 rfl dX2_oddsOf_21 ?_
      refine lv_iload_n hx hb dX2_oddsOf_24 rfl (lv_at hl 1 rfl) ?_
      refine r_aald hx hb hK hw 1 3 rfl rfl 5 (by decide) (by decide) (b := ((la 5) 0)) (hlv 5 (by decide)) dX2_oddsOf_25 ?_
      refine lv_aload_n hx hb dX2_oddsOf_26 rfl (lv_at hl 0 rfl) ?_
      refine r_get (T := TX2) (v := .int f) hx hb hts hi2 hown hK hw 0 rfl rfl 6 (by decide) f_7 rfl dX2_oddsOf_27 ?_
      refine lv_aload_n hx hb dX2_oddsOf_30 rfl (lv_at hl 0 rfl) ?_
      refine r_get (T := TX2) (v := .int x) hx hb hts hi2 hown hK hw 0 rfl rfl 7 (by decide) f_8 rfl dX2_oddsOf_31 ?_
      refine lv_aload_n hx hb dX2_oddsOf_34 rfl (lv_at hl 0 rfl) ?_
      refine r_get (T := TX2) (v := .int t) hx hb hts hi2 hown hK hw 0 rfl rfl 5 (by decide) f_9 rfl dX2_oddsOf_35 ?_
      have hw := hw.m2
      have hw := hw.m2
      refine c_vi (As := [.ref ((la 5) 0), .int f, .int x, .int t]) (rest := []) ⟨hx, hb, hml, hown, hts⟩ (k_X4_passes l D c4 A ((sG c4 sa (tr 0) lc lS (nI dp) t f x c th pe cd dc wc lv) :: (yG c4 (la 6) (gn 6) (go 6) (gk 6) (gi 6) (gb 6)) :: (yG c4 (la 7) (gn 7) (go 7) (gk 7) (gi 7) (gb 7)) :: (yG c4 (la 8) (gn 8) (go 8) (gk 8) (gi 8) (gb 8)) :: Ts) tr bh mi fb ba (la 5) n os kd ic br q f x t hn hY hf) (cwV 4 hts gX2_oddsOf_X4_passes rfl rfl rfl (by decide +kernel) (rmv (Nat.le_of_ble_eq_true rfl) (Nat.le_of_ble_eq_true rfl) hRf hRl)) hK trivial hw rfl rfl rfl hl rfl (Nat.le_of_ble_eq_true rfl) ⟨Nat.zero_le _, Nat.zero_le _⟩ dX2_oddsOf_38 (fun r_38 u_38 H locs hpq hw => ?_)
      obtain ⟨b2_38, ba2_38⟩ := u_38
      have hw : gW D A js.heap ((tG c4 tr (nI b2_38) (cumQ f x q b2_38) (fbQ q b2_38) ba2_38) :: (yG c4 (la 5) (nI n) os kd ic br) :: (sG c4 sa (tr 0) lc lS (nI dp) t f x c th pe cd dc wc lv) :: (yG c4 (la 6) (gn 6) (go 6) (gk 6) (gi 6) (gb 6)) :: (yG c4 (la 7) (gn 7) (go 7) (gk 7) (gi 7) (gb 7)) :: (yG c4 (la 8) (gn 8) (go 8) (gk 8) (gi 8) (gb 8)) :: Ts) H locs := hw
      obtain ⟨h0_38, h1_38, hb2_38, hba_38⟩ := hpq
      have h0_38 : r_38 = 0 → ¬ b2_38 = n := h0_38
      have h1_38 : ¬ r_38 = 0 → b2_38 = n := h1_38
      have hb2_38 : b2_38 = bhQ f x t q n := hb2_38
      have hba_38 : ∀ k, k < b2_38 → ba2_38 k = cumQ f x q (k + 1) := hba_38
      have kj_41 : ∀ (w_1 : Int64) (ls : Array Slot), w_1 = (if r_38 = 0 then 0 else pt) → lv_has ls 9 [(0, .ref (sa 0)), (1, .int 5), (2, .long pt)] → W jp l je R js jm args below meth jc H locs 0 0 Q (F0 jm 49 ls [.long w_1]) := by
        intro w_1 ls e_w_1 hl
        subst e_w_1
        have hw := hw.m5
        have hw := hw.m5
        have hw := hw.m5
        have hw := hw.m4
        have hw := hw.m4
        have hw := hw.m5
        exact kr (if r_38 = 0 then 0 else pt) ((nI b2_38), (cumQ f x q b2_38), (fbQ q b2_38), ba2_38, gn, go, gk, gi, gb) _ _ _ _ hw (od_leaf (d := 5) c_13 (fun z => c_3 ((lg_zero pt).mpr z)) hb2_38 h0_38 h1_38) dX2_oddsOf_49
      refine lv_if_eq (tgt := 48) hx hb dX2_oddsOf_41 (by decide) (fun c_41 => ?_) (fun c_41 => ?_)
      · refine lv_lconst (v := 0) hx hb dX2_oddsOf_48 (by decide) ?_
        exact kj_41 _ ls (by first | rfl | (rw [if_pos c_41]; done) | (simp only [if_pos c_41]; done) | simp [c_41]) (lv_sub hl [0, 1, 2] rfl)
      · refine lv_lload_n hx hb dX2_oddsOf_44 rfl (lv_at hl 2 rfl) ?_
        refine lv_goto (tgt := 49) hx hb dX2_oddsOf_45 (by decide) ?_
        exact kj_41 _ ls (by first | rfl | (rw [if_neg c_41]; done) | (simp only [if_neg c_41]; done) | simp [c_41]) (lv_sub hl [0, 1, 2] rfl)
  · refine lv_lconst (v := 0) hx hb dX2_oddsOf_6 (by decide) ?_
    exact kr 0 (bh, mi, fb, ba, gn, go, gk, gi, gb) _ _ _ _ hw (od_0 ((lg_zero pt).mp c_3)) dX2_oddsOf_7
set_option maxHeartbeats 4000000 in
set_option maxRecDepth 100000 in
theorem k_X2_oddsOf_4 (l : Launch) (D : va_G) (c4 : Nat → ClassId) (A : Nat → Prop) (Ts : List va_W) (sa : Nat → Nat) (tr : Nat → Nat) (la : Nat → Nat → Nat) (lc : Int32) (lS : Int32) (t : Int32) (f : Int32) (x : Int32) (c : Int32) (th : Int32) (pe : Int32) (cd : Int32) (dc : Int32) (wc : Int32) (dp : Nat) (lv : Nat → Option Nat) (bh : Int32) (mi : Int32) (fb : Int32) (ba : Nat → Int32) (n : Nat) (os : Int32) (kd : Nat → Int32) (ic : Nat → Int32) (br : Nat → Int32) (q : Nat → Yq) (gn : Nat → Int32) (go : Nat → Int32) (gk : Nat → Nat → Int32) (gi : Nat → Nat → Int32) (gb : Nat → Nat → Int32) (pt : Int64) (hdp : dp ≤ 8) (hn : n ≤ 12) (hY : yR q n os kd ic br) (hf : fOk f x) (hc : 0 ≤ c.toInt ∧ c.toInt ≤ 30) (hlv : ∀ k, k < 9 → lv k = some (la k 0)) (ht0 : 0 ≤ th.toInt ∧ th.toInt ≤ 60) : Cl l yX2_oddsOf wsX2_oddsOf 7 186 [.ref (sa 0), .int 4, .long pt] D (tyA c4) A none ((sG c4 sa (tr 0) lc lS (nI dp) t f x c th pe cd dc wc lv) :: (tG c4 tr bh mi fb ba) :: (yG c4 (la 4) (nI n) os kd ic br) :: (yG c4 (la 5) (gn 5) (go 5) (gk 5) (gi 5) (gb 5)) :: (yG c4 (la 6) (gn 6) (go 6) (gk 6) (gi 6) (gb 6)) :: (yG c4 (la 7) (gn 7) (go 7) (gk 7) (gi 7) (gb 7)) :: (yG c4 (la 8) (gn 8) (go 8) (gk 8) (gi 8) (gb 8)) :: Ts) (S := Int32 × Int32 × Int32 × (Nat → Int32) × (Nat → Int32) × (Nat → Int32) × (Nat → Nat → Int32) × (Nat → Nat → Int32) × (Nat → Nat → Int32)) (fun (r : Int64) (u : Int32 × Int32 × Int32 × (Nat → Int32) × (Nat → Int32) × (Nat → Int32) × (Nat → Nat → Int32) × (Nat → Nat → Int32) × (Nat → Nat → Int32)) => r = (oddP n f x t c th pe (dp - 4) q pt)) (fun u => ((sG c4 sa (tr 0) lc lS (nI dp) t f x c th pe cd dc wc lv) :: (tG c4 tr u.1 u.2.1 u.2.2.1 u.2.2.2.1) :: (yG c4 (la 4) (nI n) os kd ic br) :: (yG c4 (la 5) (u.2.2.2.2.1 5) (u.2.2.2.2.2.1 5) (u.2.2.2.2.2.2.1 5) (u.2.2.2.2.2.2.2.1 5) (u.2.2.2.2.2.2.2.2 5)) :: (yG c4 (la 6) (u.2.2.2.2.1 6) (u.2.2.2.2.2.1 6) (u.2.2.2.2.2.2.1 6) (u.2.2.2.2.2.2.2.1 6) (u.2.2.2.2.2.2.2.2 6)) :: (yG c4 (la 7) (u.2.2.2.2.1 7) (u.2.2.2.2.2.1 7) (u.2.2.2.2.2.2.1 7) (u.2.2.2.2.2.2.2.1 7) (u.2.2.2.2.2.2.2.2 7)) :: (yG c4 (la 8) (u.2.2.2.2.1 8) (u.2.2.2.2.2.1 8) (u.2.2.2.2.2.2.1 8) (u.2.2.2.2.2.2.2.1 8) (u.2.2.2.2.2.2.2.2 8)) :: Ts)) := by
  refine cOl (cc := cX2_oddsOf) (maxL := 9) (by decide) rfl (Nat.le_of_ble_eq_true rfl) rfl ?_
  rintro jp je js jm below meth jc ls args R Q H locs hRf hRl ⟨hx, hb, hml, hr, hts, hown, hlocks, hK, hX⟩ hw hl kr
  have hown : js.vm.findClass RX2 = some jm.cls := hown
  have f_0 := hts (.fieldLink RX2 41 "IceSway$Search" "depth" "I") (by decide +kernel)
  have f_1 := hts (.fieldLink RX2 20 "IceSway$Search" "levels" "[LIceSway$Yards;") (by decide +kernel)
  have f_2 := hts (.fieldLink RX2 120 "IceSway$Search" "percent" "I") (by decide +kernel)
  have f_3 := hts (.constantLong RX2 129 (100)) (by decide +kernel)
  have f_4 := hts (.fieldLink RX2 117 "IceSway$Search" "thaw" "I") (by decide +kernel)
  have f_5 := hts (.fieldLink RX2 67 "IceSway$Search" "cold" "I") (by decide +kernel)
  have f_6 := hts (.fieldLink RX2 12 "IceSway$Search" "trip" "LIceSway$Trip;") (by decide +kernel)
  have f_7 := hts (.fieldLink RX2 57 "IceSway$Search" "force" "I") (by decide +kernel)
  have f_8 := hts (.fieldLink RX2 64 "IceSway$Search" "axe" "I") (by decide +kernel)
  have f_9 := hts (.fieldLink RX2 45 "IceSway$Search" "minutes" "I") (by decide +kernel)
  have hi2 : ∀ w ∈ u_ws RX2 TX2 14, w ∈ wsX2_oddsOf := fun w h => List.mem_cons_of_mem _ (List.mem_append_left _ (List.mem_append_left _ (List.mem_append_right _ h)))
  refine lv_lload_n hx hb dX2_oddsOf_0 rfl (lv_at hl 2 rfl) ?_
  refine lv_lconst (v := 0) hx hb dX2_oddsOf_1 (by decide) ?_
  refine W.lcmp hx hb dX2_oddsOf_2 ?_
  refine lv_if_ne (tgt := 8) hx hb dX2_oddsOf_3 (by decide) (fun c_3 => ?_) (fun c_3 => ?_)
  · refine lv_iload_n hx hb dX2_oddsOf_8 rfl (lv_at hl 1 rfl) ?_
    refine lv_aload_n hx hb dX2_oddsOf_9 rfl (lv_at hl 0 rfl) ?_
    refine r_get (T := TX2) (v := .int (nI dp)) hx hb hts hi2 hown hK hw 0 rfl rfl 4 (by decide) f_0 rfl dX2_oddsOf_10 ?_
    refine r_clt hx hb 4 dp (by omega) (by omega) (tgt := 50) dX2_oddsOf_13 (by decide) (fun c_13 => ?_) (fun c_13 => ?_)
    · refine lv_aload_n hx hb dX2_oddsOf_50 rfl (lv_at hl 0 rfl) ?_
      refine r_get (T := TX2) (v := .ref (sa 1)) hx hb hts hi2 hown hK hw 0 rfl rfl 3 (by decide) f_1 rfl dX2_oddsOf_51 ?_
      refine lv_iload_n hx hb dX2_oddsOf_54 rfl (lv_at hl 1 rfl) ?_
      refine lv_iconst (v := 1) hx hb dX2_oddsOf_55 (by decide) ?_
      refine r_addN hx hb 4 1 dX2_oddsOf_56 ?_
      refine r_aald hx hb hK hw 1 3 rfl rfl 5 (by decide) (by decide) (b := ((la 5) 0)) (hlv 5 (by decide)) dX2_oddsOf_57 ?_
      refine lv_astore (lv' := [(4, .ref ((la 5) 0)), (0, .ref (sa 0)), (1, .int 4), (2, .long pt)]) hx hb dX2_oddsOf_58 hl (by decide) rfl (fun ls hl => ?_)
      refine lv_lload_n hx hb dX2_oddsOf_60 rfl (lv_at hl 3 rfl) ?_
      refine lv_aload_n hx hb dX2_oddsOf_61 rfl (lv_at hl 1 rfl) ?_
      refine r_get (T := TX2) (v := .int pe) hx hb hts hi2 hown hK hw 0 rfl rfl 10 (by decide) f_2 rfl dX2_oddsOf_62 ?_
      refine lv_i2l hx hb dX2_oddsOf_65 rfl ?_
      refine lv_lmul hx hb dX2_oddsOf_66 ?_
      refine lv_ldc2 hx hb hown f_3 dX2_oddsOf_67 ?_
      refine lv_ldiv hx hb dX2_oddsOf_70 (by decide) ?_
      refine lv_lstore (lv' := [(5, .long ((pt * pe.toInt64) / 100)), (4, .ref ((la 5) 0)), (0, .ref (sa 0)), (1, .int 4), (2, .long pt)]) hx hb dX2_oddsOf_71 hl (by decide) rfl (fun ls hl => ?_)
      refine lv_aload hx hb dX2_oddsOf_73 (lv_at hl 1 rfl) ?_
      refine lv_aload_n hx hb dX2_oddsOf_75 rfl (lv_at hl 2 rfl) ?_
      refine r_get (T := TX2) (v := .ref (sa 1)) hx hb hts hi2 hown hK hw 0 rfl rfl 3 (by decide) f_1 rfl dX2_oddsOf_76 ?_
      refine lv_iload_n hx hb dX2_oddsOf_79 rfl (lv_at hl 3 rfl) ?_
      refine r_aald hx hb hK hw 1 3 rfl rfl 4 (by decide) (by decide) (b := ((la 4) 0)) (hlv 4 (by decide)) dX2_oddsOf_80 ?_
      have hw := hw.m2
      have hw := hw.m3
      refine c_vv (As := [.ref ((la 4) 0)]) (rest := []) ⟨hx, hb, hml, hown, hts⟩ (k_X6_copyFrom l D c4 A ((sG c4 sa (tr 0) lc lS (nI dp) t f x c th pe cd dc wc lv) :: (tG c4 tr bh mi fb ba) :: (yG c4 (la 6) (gn 6) (go 6) (gk 6) (gi 6) (gb 6)) :: (yG c4 (la 7) (gn 7) (go 7) (gk 7) (gi 7) (gb 7)) :: (yG c4 (la 8) (gn 8) (go 8) (gk 8) (gi 8) (gb 8)) :: Ts) (la 5) (gn 5) (go 5) (gk 5) (gi 5) (gb 5) (la 4) n os kd ic br q hn hY) (cwV 1 hts gX2_oddsOf_X6_copyFrom rfl rfl rfl (by decide +kernel) (rmv (Nat.le_of_ble_eq_true rfl) (Nat.le_of_ble_eq_true rfl) hRf hRl)) hK trivial hw rfl rfl rfl hl rfl (Nat.le_of_ble_eq_true rfl) ⟨Nat.zero_le _, Nat.zero_le _⟩ dX2_oddsOf_81 (fun u_81 H locs hpq hw => ?_)
      obtain ⟨kd2_81, ic2_81, br2_81⟩ := u_81
      have hw : gW D A js.heap ((yG c4 (la 5) (nI n) os kd2_81 ic2_81 br2_81) :: (yG c4 (la 4) (nI n) os kd ic br) :: (sG c4 sa (tr 0) lc lS (nI dp) t f x c th pe cd dc wc lv) :: (tG c4 tr bh mi fb ba) :: (yG c4 (la 6) (gn 6) (go 6) (gk 6) (gi 6) (gb 6)) :: (yG c4 (la 7) (gn 7) (go 7) (gk 7) (gi 7) (gb 7)) :: (yG c4 (la 8) (gn 8) (go 8) (gk 8) (gi 8) (gb 8)) :: Ts) H locs := hw
      have hY_81 := hpq
      have hY_81 : yR q n os kd2_81 ic2_81 br2_81 := hY_81
      refine lv_aload hx hb dX2_oddsOf_84 (lv_at hl 1 rfl) ?_
      refine lv_aload_n hx hb dX2_oddsOf_86 rfl (lv_at hl 2 rfl) ?_
      refine r_get (T := TX2) (v := .int th) hx hb hts hi2 hown hK hw 8 rfl rfl 9 (by decide) f_4 rfl dX2_oddsOf_87 ?_
      refine c_vv (As := [.int th]) (rest := []) ⟨hx, hb, hml, hown, hts⟩ (k_X6_melt l D c4 A ((yG c4 (la 4) (nI n) os kd ic br) :: (sG c4 sa (tr 0) lc lS (nI dp) t f x c th pe cd dc wc lv) :: (tG c4 tr bh mi fb ba) :: (yG c4 (la 6) (gn 6) (go 6) (gk 6) (gi 6) (gb 6)) :: (yG c4 (la 7) (gn 7) (go 7) (gk 7) (gi 7) (gb 7)) :: (yG c4 (la 8) (gn 8) (go 8) (gk 8) (gi 8) (gb 8)) :: Ts) (la 5) n os kd2_81 ic2_81 br2_81 q th hn hY_81 ht0) (cwV 1 hts gX2_oddsOf_X6_melt rfl rfl rfl (by decide +kernel) (rmv (Nat.le_of_ble_eq_true rfl) (Nat.le_of_ble_eq_true rfl) hRf hRl)) hK trivial hw rfl rfl rfl hl rfl (Nat.le_of_ble_eq_true rfl) ⟨Nat.zero_le _, Nat.zero_le _⟩ dX2_oddsOf_90 (fun u_90 H locs hpq hw => ?_)
      obtain ⟨os2_90, kd2_90, ic2_90, br2_90⟩ := u_90
      have hw : gW D A js.heap ((yG c4 (la 5) (nI n) os2_90 kd2_90 ic2_90 br2_90) :: (yG c4 (la 4) (nI n) os kd ic br) :: (sG c4 sa (tr 0) lc lS (nI dp) t f x c th pe cd dc wc lv) :: (tG c4 tr bh mi fb ba) :: (yG c4 (la 6) (gn 6) (go 6) (gk 6) (gi 6) (gb 6)) :: (yG c4 (la 7) (gn 7) (go 7) (gk 7) (gi 7) (gb 7)) :: (yG c4 (la 8) (gn 8) (go 8) (gk 8) (gi 8) (gb 8)) :: Ts) H locs := hw
      have hY_90 := hpq
      have hY_90 : yR (fun y => thawQ th (q y)) n os2_90 kd2_90 ic2_90 br2_90 := hY_90
      refine lv_aload_n hx hb dX2_oddsOf_93 rfl (lv_at hl 2 rfl) ?_
      refine lv_iload_n hx hb dX2_oddsOf_94 rfl (lv_at hl 3 rfl) ?_
      refine lv_iconst (v := 1) hx hb dX2_oddsOf_95 (by decide) ?_
      refine r_addN hx hb 4 1 dX2_oddsOf_96 ?_
      refine lv_lload hx hb dX2_oddsOf_97 (lv_at hl 0 rfl) ?_
      have hw := hw.m6
      have hw := hw.m6
      have hw := hw.m6
      have hw := hw.m3
      have hw := hw.m6
      have hw := hw.m6
      refine c_vl (As := [.int 5, .long ((pt * pe.toInt64) / 100)]) (rest := []) ⟨hx, hb, hml, hown, hts⟩ (k_X2_oddsOf_5 l D c4 A ((yG c4 (la 4) (nI n) os kd ic br) :: Ts) sa tr la lc lS t f x c th pe cd dc wc dp lv bh mi fb ba n os2_90 kd2_90 ic2_90 br2_90 (fun y => thawQ th (q y)) gn go gk gi gb ((pt * pe.toInt64) / 100) hdp hn hY_90 hf hc hlv ht0) (cwV 2 hts gX2_oddsOf_X2_oddsOf rfl rfl rfl (by decide +kernel) (rmv (Nat.le_of_ble_eq_true rfl) (Nat.le_of_ble_eq_true rfl) hRf hRl)) hK trivial hw rfl rfl rfl hl rfl (Nat.le_of_ble_eq_true rfl) ⟨Nat.zero_le _, Nat.zero_le _⟩ dX2_oddsOf_99 (fun r_99 u_99 H locs hpq hw => ?_)
      obtain ⟨bh2_99, mi2_99, fb2_99, ba2_99, gn2_99, go2_99, gk2_99, gi2_99, gb2_99⟩ := u_99
      have hw : gW D A js.heap ((sG c4 sa (tr 0) lc lS (nI dp) t f x c th pe cd dc wc lv) :: (tG c4 tr bh2_99 mi2_99 fb2_99 ba2_99) :: (yG c4 (la 5) (nI n) os2_90 kd2_90 ic2_90 br2_90) :: (yG c4 (la 6) (gn2_99 6) (go2_99 6) (gk2_99 6) (gi2_99 6) (gb2_99 6)) :: (yG c4 (la 7) (gn2_99 7) (go2_99 7) (gk2_99 7) (gi2_99 7) (gb2_99 7)) :: (yG c4 (la 8) (gn2_99 8) (go2_99 8) (gk2_99 8) (gi2_99 8) (gb2_99 8)) :: (yG c4 (la 4) (nI n) os kd ic br) :: Ts) H locs := hw
      have er_99 := hpq
      have er_99 : r_99 = (oddP n f x t c th pe (dp - 5) (fun y => thawQ th (q y)) ((pt * pe.toInt64) / 100)) := er_99
      subst er_99
      refine lv_lstore (lv' := [(7, .long (oddP n f x t c th pe (dp - 5) (fun y => thawQ th (q y)) ((pt * pe.toInt64) / 100))), (5, .long ((pt * pe.toInt64) / 100)), (4, .ref ((la 5) 0)), (0, .ref (sa 0)), (1, .int 4), (2, .long pt)]) hx hb dX2_oddsOf_102 hl (by decide) rfl (fun ls hl => ?_)
      refine lv_aload hx hb dX2_oddsOf_104 (lv_at hl 2 rfl) ?_
      refine lv_aload_n hx hb dX2_oddsOf_106 rfl (lv_at hl 3 rfl) ?_
      refine r_get (T := TX2) (v := .ref (sa 1)) hx hb hts hi2 hown hK hw 0 rfl rfl 3 (by decide) f_1 rfl dX2_oddsOf_107 ?_
      refine lv_iload_n hx hb dX2_oddsOf_110 rfl (lv_at hl 4 rfl) ?_
      refine r_aald hx hb hK hw 1 3 rfl rfl 4 (by decide) (by decide) (b := ((la 4) 0)) (hlv 4 (by decide)) dX2_oddsOf_111 ?_
      have hw := hw.m6
      have hw := hw.m3
      refine c_vv (As := [.ref ((la 4) 0)]) (rest := []) ⟨hx, hb, hml, hown, hts⟩ (k_X6_copyFrom l D c4 A ((sG c4 sa (tr 0) lc lS (nI dp) t f x c th pe cd dc wc lv) :: (tG c4 tr bh2_99 mi2_99 fb2_99 ba2_99) :: (yG c4 (la 6) (gn2_99 6) (go2_99 6) (gk2_99 6) (gi2_99 6) (gb2_99 6)) :: (yG c4 (la 7) (gn2_99 7) (go2_99 7) (gk2_99 7) (gi2_99 7) (gb2_99 7)) :: (yG c4 (la 8) (gn2_99 8) (go2_99 8) (gk2_99 8) (gi2_99 8) (gb2_99 8)) :: Ts) (la 5) (nI n) os2_90 kd2_90 ic2_90 br2_90 (la 4) n os kd ic br q hn hY) (cwV 1 hts gX2_oddsOf_X6_copyFrom rfl rfl rfl (by decide +kernel) (rmv (Nat.le_of_ble_eq_true rfl) (Nat.le_of_ble_eq_true rfl) hRf hRl)) hK trivial hw rfl rfl rfl hl rfl (Nat.le_of_ble_eq_true rfl) ⟨Nat.zero_le _, Nat.zero_le _⟩ dX2_oddsOf_112 (fun u_112 H locs hpq hw => ?_)
      obtain ⟨kd2_112, ic2_112, br2_112⟩ := u_112
      have hw : gW D A js.heap ((yG c4 (la 5) (nI n) os kd2_112 ic2_112 br2_112) :: (yG c4 (la 4) (nI n) os kd ic br) :: (sG c4 sa (tr 0) lc lS (nI dp) t f x c th pe cd dc wc lv) :: (tG c4 tr bh2_99 mi2_99 fb2_99 ba2_99) :: (yG c4 (la 6) (gn2_99 6) (go2_99 6) (gk2_99 6) (gi2_99 6) (gb2_99 6)) :: (yG c4 (la 7) (gn2_99 7) (go2_99 7) (gk2_99 7) (gi2_99 7) (gb2_99 7)) :: (yG c4 (la 8) (gn2_99 8) (go2_99 8) (gk2_99 8) (gi2_99 8) (gb2_99 8)) :: Ts) H locs := hw
      have hY_112 := hpq
      have hY_112 : yR q n os kd2_112 ic2_112 br2_112 := hY_112
      refine lv_aload hx hb dX2_oddsOf_115 (lv_at hl 2 rfl) ?_
      refine lv_aload_n hx hb dX2_oddsOf_117 rfl (lv_at hl 3 rfl) ?_
      refine r_get (T := TX2) (v := .int c) hx hb hts hi2 hown hK hw 8 rfl rfl 8 (by decide) f_5 rfl dX2_oddsOf_118 ?_
      refine c_vv (As := [.int c]) (rest := []) ⟨hx, hb, hml, hown, hts⟩ (k_X6_freeze l D c4 A ((yG c4 (la 4) (nI n) os kd ic br) :: (sG c4 sa (tr 0) lc lS (nI dp) t f x c th pe cd dc wc lv) :: (tG c4 tr bh2_99 mi2_99 fb2_99 ba2_99) :: (yG c4 (la 6) (gn2_99 6) (go2_99 6) (gk2_99 6) (gi2_99 6) (gb2_99 6)) :: (yG c4 (la 7) (gn2_99 7) (go2_99 7) (gk2_99 7) (gi2_99 7) (gb2_99 7)) :: (yG c4 (la 8) (gn2_99 8) (go2_99 8) (gk2_99 8) (gi2_99 8) (gb2_99 8)) :: Ts) (la 5) n os kd2_112 ic2_112 br2_112 q c hn hY_112 hc) (cwV 1 hts gX2_oddsOf_X6_freeze rfl rfl rfl (by decide +kernel) (rmv (Nat.le_of_ble_eq_true rfl) (Nat.le_of_ble_eq_true rfl) hRf hRl)) hK trivial hw rfl rfl rfl hl rfl (Nat.le_of_ble_eq_true rfl) ⟨Nat.zero_le _, Nat.zero_le _⟩ dX2_oddsOf_121 (fun u_121 H locs hpq hw => ?_)
      obtain ⟨os2_121, kd2_121, ic2_121, br2_121⟩ := u_121
      have hw : gW D A js.heap ((yG c4 (la 5) (nI n) os2_121 kd2_121 ic2_121 br2_121) :: (yG c4 (la 4) (nI n) os kd ic br) :: (sG c4 sa (tr 0) lc lS (nI dp) t f x c th pe cd dc wc lv) :: (tG c4 tr bh2_99 mi2_99 fb2_99 ba2_99) :: (yG c4 (la 6) (gn2_99 6) (go2_99 6) (gk2_99 6) (gi2_99 6) (gb2_99 6)) :: (yG c4 (la 7) (gn2_99 7) (go2_99 7) (gk2_99 7) (gi2_99 7) (gb2_99 7)) :: (yG c4 (la 8) (gn2_99 8) (go2_99 8) (gk2_99 8) (gi2_99 8) (gb2_99 8)) :: Ts) H locs := hw
      have hY_121 := hpq
      have hY_121 : yR (fun y => nightQ c (q y)) n os2_121 kd2_121 ic2_121 br2_121 := hY_121
      refine lv_lload hx hb dX2_oddsOf_124 (lv_at hl 0 rfl) ?_
      refine lv_aload_n hx hb dX2_oddsOf_126 rfl (lv_at hl 3 rfl) ?_
      refine lv_iload_n hx hb dX2_oddsOf_127 rfl (lv_at hl 4 rfl) ?_
      refine lv_iconst (v := 1) hx hb dX2_oddsOf_128 (by decide) ?_
      refine r_addN hx hb 4 1 dX2_oddsOf_129 ?_
      refine lv_lload_n hx hb dX2_oddsOf_130 rfl (lv_at hl 5 rfl) ?_
      refine lv_lload hx hb dX2_oddsOf_131 (lv_at hl 1 rfl) ?_
      refine lv_lsub hx hb dX2_oddsOf_133 ?_
      have hw := hw.m6
      have hw := hw.m6
      have hw := hw.m6
      have hw := hw.m3
      have hw := hw.m6
      have hw := hw.m6
      refine c_vl (As := [.int 5, .long (pt - ((pt * pe.toInt64) / 100))]) (rest := [.long (oddP n f x t c th pe (dp - 5) (fun y => thawQ th (q y)) ((pt * pe.toInt64) / 100))]) ⟨hx, hb, hml, hown, hts⟩ (k_X2_oddsOf_5 l D c4 A ((yG c4 (la 4) (nI n) os kd ic br) :: Ts) sa tr la lc lS t f x c th pe cd dc wc dp lv bh2_99 mi2_99 fb2_99 ba2_99 n os2_121 kd2_121 ic2_121 br2_121 (fun y => nightQ c (q y)) gn2_99 go2_99 gk2_99 gi2_99 gb2_99 (pt - ((pt * pe.toInt64) / 100)) hdp hn hY_121 hf hc hlv ht0) (cwV 2 hts gX2_oddsOf_X2_oddsOf rfl rfl rfl (by decide +kernel) (rmv (Nat.le_of_ble_eq_true rfl) (Nat.le_of_ble_eq_true rfl) hRf hRl)) hK trivial hw rfl rfl rfl hl rfl (Nat.le_of_ble_eq_true rfl) ⟨Nat.zero_le _, Nat.zero_le _⟩ dX2_oddsOf_134 (fun r_134 u_134 H locs hpq hw => ?_)
      obtain ⟨bh2_134, mi2_134, fb2_134, ba2_134, gn2_134, go2_134, gk2_134, gi2_134, gb2_134⟩ := u_134
      have hw : gW D A js.heap ((sG c4 sa (tr 0) lc lS (nI dp) t f x c th pe cd dc wc lv) :: (tG c4 tr bh2_134 mi2_134 fb2_134 ba2_134) :: (yG c4 (la 5) (nI n) os2_121 kd2_121 ic2_121 br2_121) :: (yG c4 (la 6) (gn2_134 6) (go2_134 6) (gk2_134 6) (gi2_134 6) (gb2_134 6)) :: (yG c4 (la 7) (gn2_134 7) (go2_134 7) (gk2_134 7) (gi2_134 7) (gb2_134 7)) :: (yG c4 (la 8) (gn2_134 8) (go2_134 8) (gk2_134 8) (gi2_134 8) (gb2_134 8)) :: (yG c4 (la 4) (nI n) os kd ic br) :: Ts) H locs := hw
      have er_134 := hpq
      have er_134 : r_134 = (oddP n f x t c th pe (dp - 5) (fun y => nightQ c (q y)) (pt - ((pt * pe.toInt64) / 100))) := er_134
      subst er_134
      refine lv_ladd hx hb dX2_oddsOf_137 ?_
      have hw := hw.m5
      have hw := hw.m5
      have hw := hw.m5
      have hw := hw.m5
      have hw := hw.m6
      have hw := hw.m6
      have hw := hw.m6
      exact kr ((oddP n f x t c th pe (dp - 5) (fun y => thawQ th (q y)) ((pt * pe.toInt64) / 100)) + (oddP n f x t c th pe (dp - 5) (fun y => nightQ c (q y)) (pt - ((pt * pe.toInt64) / 100)))) (bh2_134, mi2_134, fb2_134, ba2_134, upd gn2_134 5 (nI n), upd go2_134 5 os2_121, va_up gk2_134 5 kd2_121, va_up gi2_134 5 ic2_121, va_up gb2_134 5 br2_121) _ _ _ _ hw (od_node (d := 4) c_13 (fun z => c_3 ((lg_zero pt).mpr z))) dX2_oddsOf_138
    · refine lv_aload_n hx hb dX2_oddsOf_16 rfl (lv_at hl 0 rfl) ?_
      refine r_get (T := TX2) (v := .ref (tr 0)) hx hb hts hi2 hown hK hw 0 rfl rfl 2 (by decide) f_6 rfl dX2_oddsOf_17 ?_
      refine lv_aload_n hx hb dX2_oddsOf_20 rfl (lv_at hl 0 rfl) ?_
      refine r_get (T := TX2) (v := .ref (sa 1)) hx hb hts hi2 hown hK hw 0 rfl rfl 3 (by decide) f_1 rfl dX2_oddsOf_21 ?_
      refine lv_iload_n hx hb dX2_oddsOf_24 rfl (lv_at hl 1 rfl) ?_
      refine r_aald hx hb hK hw 1 3 rfl rfl 4 (by decide) (by decide) (b := ((la 4) 0)) (hlv 4 (by decide)) dX2_oddsOf_25 ?_
      refine lv_aload_n hx hb dX2_oddsOf_26 rfl (lv_at hl 0 rfl) ?_
      refine r_get (T := TX2) (v := .int f) hx hb hts hi2 hown hK hw 0 rfl rfl 6 (by decide) f_7 rfl dX2_oddsOf_27 ?_
      refine lv_aload_n hx hb dX2_oddsOf_30 rfl (lv_at hl 0 rfl) ?_
      refine r_get (T := TX2) (v := .int x) hx hb hts hi2 hown hK hw 0 rfl rfl 7 (by decide) f_8 rfl dX2_oddsOf_31 ?_
      refine lv_aload_n hx hb dX2_oddsOf_34 rfl (lv_at hl 0 rfl) ?_
      refine r_get (T := TX2) (v := .int t) hx hb hts hi2 hown hK hw 0 rfl rfl 5 (by decide) f_9 rfl dX2_oddsOf_35 ?_
      have hw := hw.m2
      have hw := hw.m2
      refine c_vi (As := [.ref ((la 4) 0), .int f, .int x, .int t]) (rest := []) ⟨hx, hb, hml, hown, hts⟩ (k_X4_passes l D c4 A ((sG c4 sa (tr 0) lc lS (nI dp) t f x c th pe cd dc wc lv) :: (yG c4 (la 5) (gn 5) (go 5) (gk 5) (gi 5) (gb 5)) :: (yG c4 (la 6) (gn 6) (go 6) (gk 6) (gi 6) (gb 6)) :: (yG c4 (la 7) (gn 7) (go 7) (gk 7) (gi 7) (gb 7)) :: (yG c4 (la 8) (gn 8) (go 8) (gk 8) (gi 8) (gb 8)) :: Ts) tr bh mi fb ba (la 4) n os kd ic br q f x t hn hY hf) (cwV 4 hts gX2_oddsOf_X4_passes rfl rfl rfl (by decide +kernel) (rmv (Nat.le_of_ble_eq_true rfl) (Nat.le_of_ble_eq_true rfl) hRf hRl)) hK trivial hw rfl rfl rfl hl rfl (Nat.le_of_ble_eq_true rfl) ⟨Nat.zero_le _, Nat.zero_le _⟩ dX2_oddsOf_38 (fun r_38 u_38 H locs hpq hw => ?_)
      obtain ⟨b2_38, ba2_38⟩ := u_38
      have hw : gW D A js.heap ((tG c4 tr (nI b2_38) (cumQ f x q b2_38) (fbQ q b2_38) ba2_38) :: (yG c4 (la 4) (nI n) os kd ic br) :: (sG c4 sa (tr 0) lc lS (nI dp) t f x c th pe cd dc wc lv) :: (yG c4 (la 5) (gn 5) (go 5) (gk 5) (gi 5) (gb 5)) :: (yG c4 (la 6) (gn 6) (go 6) (gk 6) (gi 6) (gb 6)) :: (yG c4 (la 7) (gn 7) (go 7) (gk 7) (gi 7) (gb 7)) :: (yG c4 (la 8) (gn 8) (go 8) (gk 8) (gi 8) (gb 8)) :: Ts) H locs := hw
      obtain ⟨h0_38, h1_38, hb2_38, hba_38⟩ := hpq
      have h0_38 : r_38 = 0 → ¬ b2_38 = n := h0_38
      have h1_38 : ¬ r_38 = 0 → b2_38 = n := h1_38
      have hb2_38 : b2_38 = bhQ f x t q n := hb2_38
      have hba_38 : ∀ k, k < b2_38 → ba2_38 k = cumQ f x q (k + 1) := hba_38
      have kj_41 : ∀ (w_1 : Int64) (ls : Array Slot), w_1 = (if r_38 = 0 then 0 else pt) → lv_has ls 9 [(0, .ref (sa 0)), (1, .int 4), (2, .long pt)] → W jp l je R js jm args below meth jc H locs 0 0 Q (F0 jm 49 ls [.long w_1]) := by
        intro w_1 ls e_w_1 hl
        subst e_w_1
        have hw := hw.m6
        have hw := hw.m6
        have hw := hw.m6
        have hw := hw.m6
        have hw := hw.m5
        have hw := hw.m5
        have hw := hw.m6
        exact kr (if r_38 = 0 then 0 else pt) ((nI b2_38), (cumQ f x q b2_38), (fbQ q b2_38), ba2_38, gn, go, gk, gi, gb) _ _ _ _ hw (od_leaf (d := 4) c_13 (fun z => c_3 ((lg_zero pt).mpr z)) hb2_38 h0_38 h1_38) dX2_oddsOf_49
      refine lv_if_eq (tgt := 48) hx hb dX2_oddsOf_41 (by decide) (fun c_41 => ?_) (fun c_41 => ?_)
      · refine lv_lconst (v := 0) hx hb dX2_oddsOf_48 (by decide) ?_
        exact kj_41 _ ls (by first | rfl | (rw [if_pos c_41]; done) | (simp only [if_pos c_41]; done) | simp [c_41]) (lv_sub hl [0, 1, 2] rfl)
      · refine lv_lload_n hx hb dX2_oddsOf_44 rfl (lv_at hl 2 rfl) ?_
        refine lv_goto (tgt := 49) hx hb dX2_oddsOf_45 (by decide) ?_
        exact kj_41 _ ls (by first | rfl | (rw [if_neg c_41]; done) | (simp only [if_neg c_41]; done) | simp [c_41]) (lv_sub hl [0, 1, 2] rfl)
  · refine lv_lconst (v := 0) hx hb dX2_oddsOf_6 (by decide) ?_
    exact kr 0 (bh, mi, fb, ba, gn, go, gk, gi, gb) _ _ _ _ hw (od_0 ((lg_zero pt).mp c_3)) dX2_oddsOf_7
set_option maxHeartbeats 4000000 in
set_option maxRecDepth 100000 in
theorem k_X2_oddsOf_3 (l : Launch) (D : va_G) (c4 : Nat → ClassId) (A : Nat → Prop) (Ts : List va_W) (sa : Nat → Nat) (tr : Nat → Nat) (la : Nat → Nat → Nat) (lc : Int32) (lS : Int32) (t : Int32) (f : Int32) (x : Int32) (c : Int32) (th : Int32) (pe : Int32) (cd : Int32) (dc : Int32) (wc : Int32) (dp : Nat) (lv : Nat → Option Nat) (bh : Int32) (mi : Int32) (fb : Int32) (ba : Nat → Int32) (n : Nat) (os : Int32) (kd : Nat → Int32) (ic : Nat → Int32) (br : Nat → Int32) (q : Nat → Yq) (gn : Nat → Int32) (go : Nat → Int32) (gk : Nat → Nat → Int32) (gi : Nat → Nat → Int32) (gb : Nat → Nat → Int32) (pt : Int64) (hdp : dp ≤ 8) (hn : n ≤ 12) (hY : yR q n os kd ic br) (hf : fOk f x) (hc : 0 ≤ c.toInt ∧ c.toInt ≤ 30) (hlv : ∀ k, k < 9 → lv k = some (la k 0)) (ht0 : 0 ≤ th.toInt ∧ th.toInt ≤ 60) : Cl l yX2_oddsOf wsX2_oddsOf 8 214 [.ref (sa 0), .int 3, .long pt] D (tyA c4) A none ((sG c4 sa (tr 0) lc lS (nI dp) t f x c th pe cd dc wc lv) :: (tG c4 tr bh mi fb ba) :: (yG c4 (la 3) (nI n) os kd ic br) :: (yG c4 (la 4) (gn 4) (go 4) (gk 4) (gi 4) (gb 4)) :: (yG c4 (la 5) (gn 5) (go 5) (gk 5) (gi 5) (gb 5)) :: (yG c4 (la 6) (gn 6) (go 6) (gk 6) (gi 6) (gb 6)) :: (yG c4 (la 7) (gn 7) (go 7) (gk 7) (gi 7) (gb 7)) :: (yG c4 (la 8) (gn 8) (go 8) (gk 8) (gi 8) (gb 8)) :: Ts) (S := Int32 × Int32 × Int32 × (Nat → Int32) × (Nat → Int32) × (Nat → Int32) × (Nat → Nat → Int32) × (Nat → Nat → Int32) × (Nat → Nat → Int32)) (fun (r : Int64) (u : Int32 × Int32 × Int32 × (Nat → Int32) × (Nat → Int32) × (Nat → Int32) × (Nat → Nat → Int32) × (Nat → Nat → Int32) × (Nat → Nat → Int32)) => r = (oddP n f x t c th pe (dp - 3) q pt)) (fun u => ((sG c4 sa (tr 0) lc lS (nI dp) t f x c th pe cd dc wc lv) :: (tG c4 tr u.1 u.2.1 u.2.2.1 u.2.2.2.1) :: (yG c4 (la 3) (nI n) os kd ic br) :: (yG c4 (la 4) (u.2.2.2.2.1 4) (u.2.2.2.2.2.1 4) (u.2.2.2.2.2.2.1 4) (u.2.2.2.2.2.2.2.1 4) (u.2.2.2.2.2.2.2.2 4)) :: (yG c4 (la 5) (u.2.2.2.2.1 5) (u.2.2.2.2.2.1 5) (u.2.2.2.2.2.2.1 5) (u.2.2.2.2.2.2.2.1 5) (u.2.2.2.2.2.2.2.2 5)) :: (yG c4 (la 6) (u.2.2.2.2.1 6) (u.2.2.2.2.2.1 6) (u.2.2.2.2.2.2.1 6) (u.2.2.2.2.2.2.2.1 6) (u.2.2.2.2.2.2.2.2 6)) :: (yG c4 (la 7) (u.2.2.2.2.1 7) (u.2.2.2.2.2.1 7) (u.2.2.2.2.2.2.1 7) (u.2.2.2.2.2.2.2.1 7) (u.2.2.2.2.2.2.2.2 7)) :: (yG c4 (la 8) (u.2.2.2.2.1 8) (u.2.2.2.2.2.1 8) (u.2.2.2.2.2.2.1 8) (u.2.2.2.2.2.2.2.1 8) (u.2.2.2.2.2.2.2.2 8)) :: Ts)) := by
  refine cOl (cc := cX2_oddsOf) (maxL := 9) (by decide) rfl (Nat.le_of_ble_eq_true rfl) rfl ?_
  rintro jp je js jm below meth jc ls args R Q H locs hRf hRl ⟨hx, hb, hml, hr, hts, hown, hlocks, hK, hX⟩ hw hl kr
  have hown : js.vm.findClass RX2 = some jm.cls := hown
  have f_0 := hts (.fieldLink RX2 41 "IceSway$Search" "depth" "I") (by decide +kernel)
  have f_1 := hts (.fieldLink RX2 20 "IceSway$Search" "levels" "[LIceSway$Yards;") (by decide +kernel)
  have f_2 := hts (.fieldLink RX2 120 "IceSway$Search" "percent" "I") (by decide +kernel)
  have f_3 := hts (.constantLong RX2 129 (100)) (by decide +kernel)
  have f_4 := hts (.fieldLink RX2 117 "IceSway$Search" "thaw" "I") (by decide +kernel)
  have f_5 := hts (.fieldLink RX2 67 "IceSway$Search" "cold" "I") (by decide +kernel)
  have f_6 := hts (.fieldLink RX2 12 "IceSway$Search" "trip" "LIceSway$Trip;") (by decide +kernel)
  have f_7 := hts (.fieldLink RX2 57 "IceSway$Search" "force" "I") (by decide +kernel)
  have f_8 := hts (.fieldLink RX2 64 "IceSway$Search" "axe" "I") (by decide +kernel)
  have f_9 := hts (.fieldLink RX2 45 "IceSway$Search" "minutes" "I") (by decide +kernel)
  have hi2 : ∀ w ∈ u_ws RX2 TX2 14, w ∈ wsX2_oddsOf := fun w h => List.mem_cons_of_mem _ (List.mem_append_left _ (List.mem_append_left _ (List.mem_append_right _ h)))
  refine lv_lload_n hx hb dX2_oddsOf_0 rfl (lv_at hl 2 rfl) ?_
  refine lv_lconst (v := 0) hx hb dX2_oddsOf_1 (by decide) ?_
  refine W.lcmp hx hb dX2_oddsOf_2 ?_
  refine lv_if_ne (tgt := 8) hx hb dX2_oddsOf_3 (by decide) (fun c_3 => ?_) (fun c_3 => ?_)
  · refine lv_iload_n hx hb dX2_oddsOf_8 rfl (lv_at hl 1 rfl) ?_
    refine lv_aload_n hx hb dX2_oddsOf_9 rfl (lv_at hl 0 rfl) ?_
    refine r_get (T := TX2) (v := .int (nI dp)) hx hb hts hi2 hown hK hw 0 rfl rfl 4 (by decide) f_0 rfl dX2_oddsOf_10 ?_
    refine r_clt hx hb 3 dp (by omega) (by omega) (tgt := 50) dX2_oddsOf_13 (by decide) (fun c_13 => ?_) (fun c_13 => ?_)
    · refine lv_aload_n hx hb dX2_oddsOf_50 rfl (lv_at hl 0 rfl) ?_
      refine r_get (T := TX2) (v := .ref (sa 1)) hx hb hts hi2 hown hK hw 0 rfl rfl 3 (by decide) f_1 rfl dX2_oddsOf_51 ?_
      refine lv_iload_n hx hb dX2_oddsOf_54 rfl (lv_at hl 1 rfl) ?_
      refine lv_iconst (v := 1) hx hb dX2_oddsOf_55 (by decide) ?_
      refine r_addN hx hb 3 1 dX2_oddsOf_56 ?_
      refine r_aald hx hb hK hw 1 3 rfl rfl 4 (by decide) (by decide) (b := ((la 4) 0)) (hlv 4 (by decide)) dX2_oddsOf_57 ?_
      refine lv_astore (lv' := [(4, .ref ((la 4) 0)), (0, .ref (sa 0)), (1, .int 3), (2, .long pt)]) hx hb dX2_oddsOf_58 hl (by decide) rfl (fun ls hl => ?_)
      refine lv_lload_n hx hb dX2_oddsOf_60 rfl (lv_at hl 3 rfl) ?_
      refine lv_aload_n hx hb dX2_oddsOf_61 rfl (lv_at hl 1 rfl) ?_
      refine r_get (T := TX2) (v := .int pe) hx hb hts hi2 hown hK hw 0 rfl rfl 10 (by decide) f_2 rfl dX2_oddsOf_62 ?_
      refine lv_i2l hx hb dX2_oddsOf_65 rfl ?_
      refine lv_lmul hx hb dX2_oddsOf_66 ?_
      refine lv_ldc2 hx hb hown f_3 dX2_oddsOf_67 ?_
      refine lv_ldiv hx hb dX2_oddsOf_70 (by decide) ?_
      refine lv_lstore (lv' := [(5, .long ((pt * pe.toInt64) / 100)), (4, .ref ((la 4) 0)), (0, .ref (sa 0)), (1, .int 3), (2, .long pt)]) hx hb dX2_oddsOf_71 hl (by decide) rfl (fun ls hl => ?_)
      refine lv_aload hx hb dX2_oddsOf_73 (lv_at hl 1 rfl) ?_
      refine lv_aload_n hx hb dX2_oddsOf_75 rfl (lv_at hl 2 rfl) ?_
      refine r_get (T := TX2) (v := .ref (sa 1)) hx hb hts hi2 hown hK hw 0 rfl rfl 3 (by decide) f_1 rfl dX2_oddsOf_76 ?_
      refine lv_iload_n hx hb dX2_oddsOf_79 rfl (lv_at hl 3 rfl) ?_
      refine r_aald hx hb hK hw 1 3 rfl rfl 3 (by decide) (by decide) (b := ((la 3) 0)) (hlv 3 (by decide)) dX2_oddsOf_80 ?_
      have hw := hw.m2
      have hw := hw.m3
      refine c_vv (As := [.ref ((la 3) 0)]) (rest := []) ⟨hx, hb, hml, hown, hts⟩ (k_X6_copyFrom l D c4 A ((sG c4 sa (tr 0) lc lS (nI dp) t f x c th pe cd dc wc lv) :: (tG c4 tr bh mi fb ba) :: (yG c4 (la 5) (gn 5) (go 5) (gk 5) (gi 5) (gb 5)) :: (yG c4 (la 6) (gn 6) (go 6) (gk 6) (gi 6) (gb 6)) :: (yG c4 (la 7) (gn 7) (go 7) (gk 7) (gi 7) (gb 7)) :: (yG c4 (la 8) (gn 8) (go 8) (gk 8) (gi 8) (gb 8)) :: Ts) (la 4) (gn 4) (go 4) (gk 4) (gi 4) (gb 4) (la 3) n os kd ic br q hn hY) (cwV 1 hts gX2_oddsOf_X6_copyFrom rfl rfl rfl (by decide +kernel) (rmv (Nat.le_of_ble_eq_true rfl) (Nat.le_of_ble_eq_true rfl) hRf hRl)) hK trivial hw rfl rfl rfl hl rfl (Nat.le_of_ble_eq_true rfl) ⟨Nat.zero_le _, Nat.zero_le _⟩ dX2_oddsOf_81 (fun u_81 H locs hpq hw => ?_)
      obtain ⟨kd2_81, ic2_81, br2_81⟩ := u_81
      have hw : gW D A js.heap ((yG c4 (la 4) (nI n) os kd2_81 ic2_81 br2_81) :: (yG c4 (la 3) (nI n) os kd ic br) :: (sG c4 sa (tr 0) lc lS (nI dp) t f x c th pe cd dc wc lv) :: (tG c4 tr bh mi fb ba) :: (yG c4 (la 5) (gn 5) (go 5) (gk 5) (gi 5) (gb 5)) :: (yG c4 (la 6) (gn 6) (go 6) (gk 6) (gi 6) (gb 6)) :: (yG c4 (la 7) (gn 7) (go 7) (gk 7) (gi 7) (gb 7)) :: (yG c4 (la 8) (gn 8) (go 8) (gk 8) (gi 8) (gb 8)) :: Ts) H locs := hw
      have hY_81 := hpq
      have hY_81 : yR q n os kd2_81 ic2_81 br2_81 := hY_81
      refine lv_aload hx hb dX2_oddsOf_84 (lv_at hl 1 rfl) ?_
      refine lv_aload_n hx hb dX2_oddsOf_86 rfl (lv_at hl 2 rfl) ?_
      refine r_get (T := TX2) (v := .int th) hx hb hts hi2 hown hK hw 8 rfl rfl 9 (by decide) f_4 rfl dX2_oddsOf_87 ?_
      refine c_vv (As := [.int th]) (rest := []) ⟨hx, hb, hml, hown, hts⟩ (k_X6_melt l D c4 A ((yG c4 (la 3) (nI n) os kd ic br) :: (sG c4 sa (tr 0) lc lS (nI dp) t f x c th pe cd dc wc lv) :: (tG c4 tr bh mi fb ba) :: (yG c4 (la 5) (gn 5) (go 5) (gk 5) (gi 5) (gb 5)) :: (yG c4 (la 6) (gn 6) (go 6) (gk 6) (gi 6) (gb 6)) :: (yG c4 (la 7) (gn 7) (go 7) (gk 7) (gi 7) (gb 7)) :: (yG c4 (la 8) (gn 8) (go 8) (gk 8) (gi 8) (gb 8)) :: Ts) (la 4) n os kd2_81 ic2_81 br2_81 q th hn hY_81 ht0) (cwV 1 hts gX2_oddsOf_X6_melt rfl rfl rfl (by decide +kernel) (rmv (Nat.le_of_ble_eq_true rfl) (Nat.le_of_ble_eq_true rfl) hRf hRl)) hK trivial hw rfl rfl rfl hl rfl (Nat.le_of_ble_eq_true rfl) ⟨Nat.zero_le _, Nat.zero_le _⟩ dX2_oddsOf_90 (fun u_90 H locs hpq hw => ?_)
      obtain ⟨os2_90, kd2_90, ic2_90, br2_90⟩ := u_90
      have hw : gW D A js.heap ((yG c4 (la 4) (nI n) os2_90 kd2_90 ic2_90 br2_90) :: (yG c4 (la 3) (nI n) os kd ic br) :: (sG c4 sa (tr 0) lc lS (nI dp) t f x c th pe cd dc wc lv) :: (tG c4 tr bh mi fb ba) :: (yG c4 (la 5) (gn 5) (go 5) (gk 5) (gi 5) (gb 5)) :: (yG c4 (la 6) (gn 6) (go 6) (gk 6) (gi 6) (gb 6)) :: (yG c4 (la 7) (gn 7) (go 7) (gk 7) (gi 7) (gb 7)) :: (yG c4 (la 8) (gn 8) (go 8) (gk 8) (gi 8) (gb 8)) :: Ts) H locs := hw
      have hY_90 := hpq
      have hY_90 : yR (fun y => thawQ th (q y)) n os2_90 kd2_90 ic2_90 br2_90 := hY_90
      refine lv_aload_n hx hb dX2_oddsOf_93 rfl (lv_at hl 2 rfl) ?_
      refine lv_iload_n hx hb dX2_oddsOf_94 rfl (lv_at hl 3 rfl) ?_
      refine lv_iconst (v := 1) hx hb dX2_oddsOf_95 (by decide) ?_
      refine r_addN hx hb 3 1 dX2_oddsOf_96 ?_
      refine lv_lload hx hb dX2_oddsOf_97 (lv_at hl 0 rfl) ?_
      have hw := hw.m7
      have hw := hw.m7
      have hw := hw.m7
      have hw := hw.m7
      have hw := hw.m4
      have hw := hw.m7
      have hw := hw.m7
      refine c_vl (As := [.int 4, .long ((pt * pe.toInt64) / 100)]) (rest := []) ⟨hx, hb, hml, hown, hts⟩ (k_X2_oddsOf_4 l D c4 A ((yG c4 (la 3) (nI n) os kd ic br) :: Ts) sa tr la lc lS t f x c th pe cd dc wc dp lv bh mi fb ba n os2_90 kd2_90 ic2_90 br2_90 (fun y => thawQ th (q y)) gn go gk gi gb ((pt * pe.toInt64) / 100) hdp hn hY_90 hf hc hlv ht0) (cwV 2 hts gX2_oddsOf_X2_oddsOf rfl rfl rfl (by decide +kernel) (rmv (Nat.le_of_ble_eq_true rfl) (Nat.le_of_ble_eq_true rfl) hRf hRl)) hK trivial hw rfl rfl rfl hl rfl (Nat.le_of_ble_eq_true rfl) ⟨Nat.zero_le _, Nat.zero_le _⟩ dX2_oddsOf_99 (fun r_99 u_99 H locs hpq hw => ?_)
      obtain ⟨bh2_99, mi2_99, fb2_99, ba2_99, gn2_99, go2_99, gk2_99, gi2_99, gb2_99⟩ := u_99
      have hw : gW D A js.heap ((sG c4 sa (tr 0) lc lS (nI dp) t f x c th pe cd dc wc lv) :: (tG c4 tr bh2_99 mi2_99 fb2_99 ba2_99) :: (yG c4 (la 4) (nI n) os2_90 kd2_90 ic2_90 br2_90) :: (yG c4 (la 5) (gn2_99 5) (go2_99 5) (gk2_99 5) (gi2_99 5) (gb2_99 5)) :: (yG c4 (la 6) (gn2_99 6) (go2_99 6) (gk2_99 6) (gi2_99 6) (gb2_99 6)) :: (yG c4 (la 7) (gn2_99 7) (go2_99 7) (gk2_99 7) (gi2_99 7) (gb2_99 7)) :: (yG c4 (la 8) (gn2_99 8) (go2_99 8) (gk2_99 8) (gi2_99 8) (gb2_99 8)) :: (yG c4 (la 3) (nI n) os kd ic br) :: Ts) H locs := hw
      have er_99 := hpq
      have er_99 : r_99 = (oddP n f x t c th pe (dp - 4) (fun y => thawQ th (q y)) ((pt * pe.toInt64) / 100)) := er_99
      subst er_99
      refine lv_lstore (lv' := [(7, .long (oddP n f x t c th pe (dp - 4) (fun y => thawQ th (q y)) ((pt * pe.toInt64) / 100))), (5, .long ((pt * pe.toInt64) / 100)), (4, .ref ((la 4) 0)), (0, .ref (sa 0)), (1, .int 3), (2, .long pt)]) hx hb dX2_oddsOf_102 hl (by decide) rfl (fun ls hl => ?_)
      refine lv_aload hx hb dX2_oddsOf_104 (lv_at hl 2 rfl) ?_
      refine lv_aload_n hx hb dX2_oddsOf_106 rfl (lv_at hl 3 rfl) ?_
      refine r_get (T := TX2) (v := .ref (sa 1)) hx hb hts hi2 hown hK hw 0 rfl rfl 3 (by decide) f_1 rfl dX2_oddsOf_107 ?_
      refine lv_iload_n hx hb dX2_oddsOf_110 rfl (lv_at hl 4 rfl) ?_
      refine r_aald hx hb hK hw 1 3 rfl rfl 3 (by decide) (by decide) (b := ((la 3) 0)) (hlv 3 (by decide)) dX2_oddsOf_111 ?_
      have hw := hw.m7
      have hw := hw.m3
      refine c_vv (As := [.ref ((la 3) 0)]) (rest := []) ⟨hx, hb, hml, hown, hts⟩ (k_X6_copyFrom l D c4 A ((sG c4 sa (tr 0) lc lS (nI dp) t f x c th pe cd dc wc lv) :: (tG c4 tr bh2_99 mi2_99 fb2_99 ba2_99) :: (yG c4 (la 5) (gn2_99 5) (go2_99 5) (gk2_99 5) (gi2_99 5) (gb2_99 5)) :: (yG c4 (la 6) (gn2_99 6) (go2_99 6) (gk2_99 6) (gi2_99 6) (gb2_99 6)) :: (yG c4 (la 7) (gn2_99 7) (go2_99 7) (gk2_99 7) (gi2_99 7) (gb2_99 7)) :: (yG c4 (la 8) (gn2_99 8) (go2_99 8) (gk2_99 8) (gi2_99 8) (gb2_99 8)) :: Ts) (la 4) (nI n) os2_90 kd2_90 ic2_90 br2_90 (la 3) n os kd ic br q hn hY) (cwV 1 hts gX2_oddsOf_X6_copyFrom rfl rfl rfl (by decide +kernel) (rmv (Nat.le_of_ble_eq_true rfl) (Nat.le_of_ble_eq_true rfl) hRf hRl)) hK trivial hw rfl rfl rfl hl rfl (Nat.le_of_ble_eq_true rfl) ⟨Nat.zero_le _, Nat.zero_le _⟩ dX2_oddsOf_112 (fun u_112 H locs hpq hw => ?_)
      obtain ⟨kd2_112, ic2_112, br2_112⟩ := u_112
      have hw : gW D A js.heap ((yG c4 (la 4) (nI n) os kd2_112 ic2_112 br2_112) :: (yG c4 (la 3) (nI n) os kd ic br) :: (sG c4 sa (tr 0) lc lS (nI dp) t f x c th pe cd dc wc lv) :: (tG c4 tr bh2_99 mi2_99 fb2_99 ba2_99) :: (yG c4 (la 5) (gn2_99 5) (go2_99 5) (gk2_99 5) (gi2_99 5) (gb2_99 5)) :: (yG c4 (la 6) (gn2_99 6) (go2_99 6) (gk2_99 6) (gi2_99 6) (gb2_99 6)) :: (yG c4 (la 7) (gn2_99 7) (go2_99 7) (gk2_99 7) (gi2_99 7) (gb2_99 7)) :: (yG c4 (la 8) (gn2_99 8) (go2_99 8) (gk2_99 8) (gi2_99 8) (gb2_99 8)) :: Ts) H locs := hw
      have hY_112 := hpq
      have hY_112 : yR q n os kd2_112 ic2_112 br2_112 := hY_112
      refine lv_aload hx hb dX2_oddsOf_115 (lv_at hl 2 rfl) ?_
      refine lv_aload_n hx hb dX2_oddsOf_117 rfl (lv_at hl 3 rfl) ?_
      refine r_get (T := TX2) (v := .int c) hx hb hts hi2 hown hK hw 8 rfl rfl 8 (by decide) f_5 rfl dX2_oddsOf_118 ?_
      refine c_vv (As := [.int c]) (rest := []) ⟨hx, hb, hml, hown, hts⟩ (k_X6_freeze l D c4 A ((yG c4 (la 3) (nI n) os kd ic br) :: (sG c4 sa (tr 0) lc lS (nI dp) t f x c th pe cd dc wc lv) :: (tG c4 tr bh2_99 mi2_99 fb2_99 ba2_99) :: (yG c4 (la 5) (gn2_99 5) (go2_99 5) (gk2_99 5) (gi2_99 5) (gb2_99 5)) :: (yG c4 (la 6) (gn2_99 6) (go2_99 6) (gk2_99 6) (gi2_99 6) (gb2_99 6)) :: (yG c4 (la 7) (gn2_99 7) (go2_99 7) (gk2_99 7) (gi2_99 7) (gb2_99 7)) :: (yG c4 (la 8) (gn2_99 8) (go2_99 8) (gk2_99 8) (gi2_99 8) (gb2_99 8)) :: Ts) (la 4) n os kd2_112 ic2_112 br2_112 q c hn hY_112 hc) (cwV 1 hts gX2_oddsOf_X6_freeze rfl rfl rfl (by decide +kernel) (rmv (Nat.le_of_ble_eq_true rfl) (Nat.le_of_ble_eq_true rfl) hRf hRl)) hK trivial hw rfl rfl rfl hl rfl (Nat.le_of_ble_eq_true rfl) ⟨Nat.zero_le _, Nat.zero_le _⟩ dX2_oddsOf_121 (fun u_121 H locs hpq hw => ?_)
      obtain ⟨os2_121, kd2_121, ic2_121, br2_121⟩ := u_121
      have hw : gW D A js.heap ((yG c4 (la 4) (nI n) os2_121 kd2_121 ic2_121 br2_121) :: (yG c4 (la 3) (nI n) os kd ic br) :: (sG c4 sa (tr 0) lc lS (nI dp) t f x c th pe cd dc wc lv) :: (tG c4 tr bh2_99 mi2_99 fb2_99 ba2_99) :: (yG c4 (la 5) (gn2_99 5) (go2_99 5) (gk2_99 5) (gi2_99 5) (gb2_99 5)) :: (yG c4 (la 6) (gn2_99 6) (go2_99 6) (gk2_99 6) (gi2_99 6) (gb2_99 6)) :: (yG c4 (la 7) (gn2_99 7) (go2_99 7) (gk2_99 7) (gi2_99 7) (gb2_99 7)) :: (yG c4 (la 8) (gn2_99 8) (go2_99 8) (gk2_99 8) (gi2_99 8) (gb2_99 8)) :: Ts) H locs := hw
      have hY_121 := hpq
      have hY_121 : yR (fun y => nightQ c (q y)) n os2_121 kd2_121 ic2_121 br2_121 := hY_121
      refine lv_lload hx hb dX2_oddsOf_124 (lv_at hl 0 rfl) ?_
      refine lv_aload_n hx hb dX2_oddsOf_126 rfl (lv_at hl 3 rfl) ?_
      refine lv_iload_n hx hb dX2_oddsOf_127 rfl (lv_at hl 4 rfl) ?_
      refine lv_iconst (v := 1) hx hb dX2_oddsOf_128 (by decide) ?_
      refine r_addN hx hb 3 1 dX2_oddsOf_129 ?_
      refine lv_lload_n hx hb dX2_oddsOf_130 rfl (lv_at hl 5 rfl) ?_
      refine lv_lload hx hb dX2_oddsOf_131 (lv_at hl 1 rfl) ?_
      refine lv_lsub hx hb dX2_oddsOf_133 ?_
      have hw := hw.m7
      have hw := hw.m7
      have hw := hw.m7
      have hw := hw.m7
      have hw := hw.m4
      have hw := hw.m7
      have hw := hw.m7
      refine c_vl (As := [.int 4, .long (pt - ((pt * pe.toInt64) / 100))]) (rest := [.long (oddP n f x t c th pe (dp - 4) (fun y => thawQ th (q y)) ((pt * pe.toInt64) / 100))]) ⟨hx, hb, hml, hown, hts⟩ (k_X2_oddsOf_4 l D c4 A ((yG c4 (la 3) (nI n) os kd ic br) :: Ts) sa tr la lc lS t f x c th pe cd dc wc dp lv bh2_99 mi2_99 fb2_99 ba2_99 n os2_121 kd2_121 ic2_121 br2_121 (fun y => nightQ c (q y)) gn2_99 go2_99 gk2_99 gi2_99 gb2_99 (pt - ((pt * pe.toInt64) / 100)) hdp hn hY_121 hf hc hlv ht0) (cwV 2 hts gX2_oddsOf_X2_oddsOf rfl rfl rfl (by decide +kernel) (rmv (Nat.le_of_ble_eq_true rfl) (Nat.le_of_ble_eq_true rfl) hRf hRl)) hK trivial hw rfl rfl rfl hl rfl (Nat.le_of_ble_eq_true rfl) ⟨Nat.zero_le _, Nat.zero_le _⟩ dX2_oddsOf_134 (fun r_134 u_134 H locs hpq hw => ?_)
      obtain ⟨bh2_134, mi2_134, fb2_134, ba2_134, gn2_134, go2_134, gk2_134, gi2_134, gb2_134⟩ := u_134
      have hw : gW D A js.heap ((sG c4 sa (tr 0) lc lS (nI dp) t f x c th pe cd dc wc lv) :: (tG c4 tr bh2_134 mi2_134 fb2_134 ba2_134) :: (yG c4 (la 4) (nI n) os2_121 kd2_121 ic2_121 br2_121) :: (yG c4 (la 5) (gn2_134 5) (go2_134 5) (gk2_134 5) (gi2_134 5) (gb2_134 5)) :: (yG c4 (la 6) (gn2_134 6) (go2_134 6) (gk2_134 6) (gi2_134 6) (gb2_134 6)) :: (yG c4 (la 7) (gn2_134 7) (go2_134 7) (gk2_134 7) (gi2_134 7) (gb2_134 7)) :: (yG c4 (la 8) (gn2_134 8) (go2_134 8) (gk2_134 8) (gi2_134 8) (gb2_134 8)) :: (yG c4 (la 3) (nI n) os kd ic br) :: Ts) H locs := hw
      have er_134 := hpq
      have er_134 : r_134 = (oddP n f x t c th pe (dp - 4) (fun y => nightQ c (q y)) (pt - ((pt * pe.toInt64) / 100))) := er_134
      subst er_134
      refine lv_ladd hx hb dX2_oddsOf_137 ?_
      have hw := hw.m6
      have hw := hw.m6
      have hw := hw.m6
      have hw := hw.m6
      have hw := hw.m6
      have hw := hw.m7
      have hw := hw.m7
      have hw := hw.m7
      exact kr ((oddP n f x t c th pe (dp - 4) (fun y => thawQ th (q y)) ((pt * pe.toInt64) / 100)) + (oddP n f x t c th pe (dp - 4) (fun y => nightQ c (q y)) (pt - ((pt * pe.toInt64) / 100)))) (bh2_134, mi2_134, fb2_134, ba2_134, upd gn2_134 4 (nI n), upd go2_134 4 os2_121, va_up gk2_134 4 kd2_121, va_up gi2_134 4 ic2_121, va_up gb2_134 4 br2_121) _ _ _ _ hw (od_node (d := 3) c_13 (fun z => c_3 ((lg_zero pt).mpr z))) dX2_oddsOf_138
    · refine lv_aload_n hx hb dX2_oddsOf_16 rfl (lv_at hl 0 rfl) ?_
      refine r_get (T := TX2) (v := .ref (tr 0)) hx hb hts hi2 hown hK hw 0 rfl rfl 2 (by decide) f_6 rfl dX2_oddsOf_17 ?_
      refine lv_aload_n hx hb dX2_oddsOf_20 rfl (lv_at hl 0 rfl) ?_
      refine r_get (T := TX2) (v := .ref (sa 1)) hx hb hts hi2 hown hK hw 0 rfl rfl 3 (by decide) f_1 rfl dX2_oddsOf_21 ?_
      refine lv_iload_n hx hb dX2_oddsOf_24 rfl (lv_at hl 1 rfl) ?_
      refine r_aald hx hb hK hw 1 3 rfl rfl 3 (by decide) (by decide) (b := ((la 3) 0)) (hlv 3 (by decide)) dX2_oddsOf_25 ?_
      refine lv_aload_n hx hb dX2_oddsOf_26 rfl (lv_at hl 0 rfl) ?_
      refine r_get (T := TX2) (v := .int f) hx hb hts hi2 hown hK hw 0 rfl rfl 6 (by decide) f_7 rfl dX2_oddsOf_27 ?_
      refine lv_aload_n hx hb dX2_oddsOf_30 rfl (lv_at hl 0 rfl) ?_
      refine r_get (T := TX2) (v := .int x) hx hb hts hi2 hown hK hw 0 rfl rfl 7 (by decide) f_8 rfl dX2_oddsOf_31 ?_
      refine lv_aload_n hx hb dX2_oddsOf_34 rfl (lv_at hl 0 rfl) ?_
      refine r_get (T := TX2) (v := .int t) hx hb hts hi2 hown hK hw 0 rfl rfl 5 (by decide) f_9 rfl dX2_oddsOf_35 ?_
      have hw := hw.m2
      have hw := hw.m2
      refine c_vi (As := [.ref ((la 3) 0), .int f, .int x, .int t]) (rest := []) ⟨hx, hb, hml, hown, hts⟩ (k_X4_passes l D c4 A ((sG c4 sa (tr 0) lc lS (nI dp) t f x c th pe cd dc wc lv) :: (yG c4 (la 4) (gn 4) (go 4) (gk 4) (gi 4) (gb 4)) :: (yG c4 (la 5) (gn 5) (go 5) (gk 5) (gi 5) (gb 5)) :: (yG c4 (la 6) (gn 6) (go 6) (gk 6) (gi 6) (gb 6)) :: (yG c4 (la 7) (gn 7) (go 7) (gk 7) (gi 7) (gb 7)) :: (yG c4 (la 8) (gn 8) (go 8) (gk 8) (gi 8) (gb 8)) :: Ts) tr bh mi fb ba (la 3) n os kd ic br q f x t hn hY hf) (cwV 4 hts gX2_oddsOf_X4_passes rfl rfl rfl (by decide +kernel) (rmv (Nat.le_of_ble_eq_true rfl) (Nat.le_of_ble_eq_true rfl) hRf hRl)) hK trivial hw rfl rfl rfl hl rfl (Nat.le_of_ble_eq_true rfl) ⟨Nat.zero_le _, Nat.zero_le _⟩ dX2_oddsOf_38 (fun r_38 u_38 H locs hpq hw => ?_)
      obtain ⟨b2_38, ba2_38⟩ := u_38
      have hw : gW D A js.heap ((tG c4 tr (nI b2_38) (cumQ f x q b2_38) (fbQ q b2_38) ba2_38) :: (yG c4 (la 3) (nI n) os kd ic br) :: (sG c4 sa (tr 0) lc lS (nI dp) t f x c th pe cd dc wc lv) :: (yG c4 (la 4) (gn 4) (go 4) (gk 4) (gi 4) (gb 4)) :: (yG c4 (la 5) (gn 5) (go 5) (gk 5) (gi 5) (gb 5)) :: (yG c4 (la 6) (gn 6) (go 6) (gk 6) (gi 6) (gb 6)) :: (yG c4 (la 7) (gn 7) (go 7) (gk 7) (gi 7) (gb 7)) :: (yG c4 (la 8) (gn 8) (go 8) (gk 8) (gi 8) (gb 8)) :: Ts) H locs := hw
      obtain ⟨h0_38, h1_38, hb2_38, hba_38⟩ := hpq
      have h0_38 : r_38 = 0 → ¬ b2_38 = n := h0_38
      have h1_38 : ¬ r_38 = 0 → b2_38 = n := h1_38
      have hb2_38 : b2_38 = bhQ f x t q n := hb2_38
      have hba_38 : ∀ k, k < b2_38 → ba2_38 k = cumQ f x q (k + 1) := hba_38
      have kj_41 : ∀ (w_1 : Int64) (ls : Array Slot), w_1 = (if r_38 = 0 then 0 else pt) → lv_has ls 9 [(0, .ref (sa 0)), (1, .int 3), (2, .long pt)] → W jp l je R js jm args below meth jc H locs 0 0 Q (F0 jm 49 ls [.long w_1]) := by
        intro w_1 ls e_w_1 hl
        subst e_w_1
        have hw := hw.m7
        have hw := hw.m7
        have hw := hw.m7
        have hw := hw.m7
        have hw := hw.m7
        have hw := hw.m6
        have hw := hw.m6
        have hw := hw.m7
        exact kr (if r_38 = 0 then 0 else pt) ((nI b2_38), (cumQ f x q b2_38), (fbQ q b2_38), ba2_38, gn, go, gk, gi, gb) _ _ _ _ hw (od_leaf (d := 3) c_13 (fun z => c_3 ((lg_zero pt).mpr z)) hb2_38 h0_38 h1_38) dX2_oddsOf_49
      refine lv_if_eq (tgt := 48) hx hb dX2_oddsOf_41 (by decide) (fun c_41 => ?_) (fun c_41 => ?_)
      · refine lv_lconst (v := 0) hx hb dX2_oddsOf_48 (by decide) ?_
        exact kj_41 _ ls (by first | rfl | (rw [if_pos c_41]; done) | (simp only [if_pos c_41]; done) | simp [c_41]) (lv_sub hl [0, 1, 2] rfl)
      · refine lv_lload_n hx hb dX2_oddsOf_44 rfl (lv_at hl 2 rfl) ?_
        refine lv_goto (tgt := 49) hx hb dX2_oddsOf_45 (by decide) ?_
        exact kj_41 _ ls (by first | rfl | (rw [if_neg c_41]; done) | (simp only [if_neg c_41]; done) | simp [c_41]) (lv_sub hl [0, 1, 2] rfl)
  · refine lv_lconst (v := 0) hx hb dX2_oddsOf_6 (by decide) ?_
    exact kr 0 (bh, mi, fb, ba, gn, go, gk, gi, gb) _ _ _ _ hw (od_0 ((lg_zero pt).mp c_3)) dX2_oddsOf_7
set_option maxHeartbeats 4000000 in
set_option maxRecDepth 100000 in
theorem k_X2_oddsOf_2 (l : Launch) (D : va_G) (c4 : Nat → ClassId) (A : Nat → Prop) (Ts : List va_W) (sa : Nat → Nat) (tr : Nat → Nat) (la : Nat → Nat → Nat) (lc : Int32) (lS : Int32) (t : Int32) (f : Int32) (x : Int32) (c : Int32) (th : Int32) (pe : Int32) (cd : Int32) (dc : Int32) (wc : Int32) (dp : Nat) (lv : Nat → Option Nat) (bh : Int32) (mi : Int32) (fb : Int32) (ba : Nat → Int32) (n : Nat) (os : Int32) (kd : Nat → Int32) (ic : Nat → Int32) (br : Nat → Int32) (q : Nat → Yq) (gn : Nat → Int32) (go : Nat → Int32) (gk : Nat → Nat → Int32) (gi : Nat → Nat → Int32) (gb : Nat → Nat → Int32) (pt : Int64) (hdp : dp ≤ 8) (hn : n ≤ 12) (hY : yR q n os kd ic br) (hf : fOk f x) (hc : 0 ≤ c.toInt ∧ c.toInt ≤ 30) (hlv : ∀ k, k < 9 → lv k = some (la k 0)) (ht0 : 0 ≤ th.toInt ∧ th.toInt ≤ 60) : Cl l yX2_oddsOf wsX2_oddsOf 9 242 [.ref (sa 0), .int 2, .long pt] D (tyA c4) A none ((sG c4 sa (tr 0) lc lS (nI dp) t f x c th pe cd dc wc lv) :: (tG c4 tr bh mi fb ba) :: (yG c4 (la 2) (nI n) os kd ic br) :: (yG c4 (la 3) (gn 3) (go 3) (gk 3) (gi 3) (gb 3)) :: (yG c4 (la 4) (gn 4) (go 4) (gk 4) (gi 4) (gb 4)) :: (yG c4 (la 5) (gn 5) (go 5) (gk 5) (gi 5) (gb 5)) :: (yG c4 (la 6) (gn 6) (go 6) (gk 6) (gi 6) (gb 6)) :: (yG c4 (la 7) (gn 7) (go 7) (gk 7) (gi 7) (gb 7)) :: (yG c4 (la 8) (gn 8) (go 8) (gk 8) (gi 8) (gb 8)) :: Ts) (S := Int32 × Int32 × Int32 × (Nat → Int32) × (Nat → Int32) × (Nat → Int32) × (Nat → Nat → Int32) × (Nat → Nat → Int32) × (Nat → Nat → Int32)) (fun (r : Int64) (u : Int32 × Int32 × Int32 × (Nat → Int32) × (Nat → Int32) × (Nat → Int32) × (Nat → Nat → Int32) × (Nat → Nat → Int32) × (Nat → Nat → Int32)) => r = (oddP n f x t c th pe (dp - 2) q pt)) (fun u => ((sG c4 sa (tr 0) lc lS (nI dp) t f x c th pe cd dc wc lv) :: (tG c4 tr u.1 u.2.1 u.2.2.1 u.2.2.2.1) :: (yG c4 (la 2) (nI n) os kd ic br) :: (yG c4 (la 3) (u.2.2.2.2.1 3) (u.2.2.2.2.2.1 3) (u.2.2.2.2.2.2.1 3) (u.2.2.2.2.2.2.2.1 3) (u.2.2.2.2.2.2.2.2 3)) :: (yG c4 (la 4) (u.2.2.2.2.1 4) (u.2.2.2.2.2.1 4) (u.2.2.2.2.2.2.1 4) (u.2.2.2.2.2.2.2.1 4) (u.2.2.2.2.2.2.2.2 4)) :: (yG c4 (la 5) (u.2.2.2.2.1 5) (u.2.2.2.2.2.1 5) (u.2.2.2.2.2.2.1 5) (u.2.2.2.2.2.2.2.1 5) (u.2.2.2.2.2.2.2.2 5)) :: (yG c4 (la 6) (u.2.2.2.2.1 6) (u.2.2.2.2.2.1 6) (u.2.2.2.2.2.2.1 6) (u.2.2.2.2.2.2.2.1 6) (u.2.2.2.2.2.2.2.2 6)) :: (yG c4 (la 7) (u.2.2.2.2.1 7) (u.2.2.2.2.2.1 7) (u.2.2.2.2.2.2.1 7) (u.2.2.2.2.2.2.2.1 7) (u.2.2.2.2.2.2.2.2 7)) :: (yG c4 (la 8) (u.2.2.2.2.1 8) (u.2.2.2.2.2.1 8) (u.2.2.2.2.2.2.1 8) (u.2.2.2.2.2.2.2.1 8) (u.2.2.2.2.2.2.2.2 8)) :: Ts)) := by
  refine cOl (cc := cX2_oddsOf) (maxL := 9) (by decide) rfl (Nat.le_of_ble_eq_true rfl) rfl ?_
  rintro jp je js jm below meth jc ls args R Q H locs hRf hRl ⟨hx, hb, hml, hr, hts, hown, hlocks, hK, hX⟩ hw hl kr
  have hown : js.vm.findClass RX2 = some jm.cls := hown
  have f_0 := hts (.fieldLink RX2 41 "IceSway$Search" "depth" "I") (by decide +kernel)
  have f_1 := hts (.fieldLink RX2 20 "IceSway$Search" "levels" "[LIceSway$Yards;") (by decide +kernel)
  have f_2 := hts (.fieldLink RX2 120 "IceSway$Search" "percent" "I") (by decide +kernel)
  have f_3 := hts (.constantLong RX2 129 (100)) (by decide +kernel)
  have f_4 := hts (.fieldLink RX2 117 "IceSway$Search" "thaw" "I") (by decide +kernel)
  have f_5 := hts (.fieldLink RX2 67 "IceSway$Search" "cold" "I") (by decide +kernel)
  have f_6 := hts (.fieldLink RX2 12 "IceSway$Search" "trip" "LIceSway$Trip;") (by decide +kernel)
  have f_7 := hts (.fieldLink RX2 57 "IceSway$Search" "force" "I") (by decide +kernel)
  have f_8 := hts (.fieldLink RX2 64 "IceSway$Search" "axe" "I") (by decide +kernel)
  have f_9 := hts (.fieldLink RX2 45 "IceSway$Search" "minutes" "I") (by decide +kernel)
  have hi2 : ∀ w ∈ u_ws RX2 TX2 14, w ∈ wsX2_oddsOf := fun w h => List.mem_cons_of_mem _ (List.mem_append_left _ (List.mem_append_left _ (List.mem_append_right _ h)))
  refine lv_lload_n hx hb dX2_oddsOf_0 rfl (lv_at hl 2 rfl) ?_
  refine lv_lconst (v := 0) hx hb dX2_oddsOf_1 (by decide) ?_
  refine W.lcmp hx hb dX2_oddsOf_2 ?_
  refine lv_if_ne (tgt := 8) hx hb dX2_oddsOf_3 (by decide) (fun c_3 => ?_) (fun c_3 => ?_)
  · refine lv_iload_n hx hb dX2_oddsOf_8 rfl (lv_at hl 1 rfl) ?_
    refine lv_aload_n hx hb dX2_oddsOf_9 rfl (lv_at hl 0 rfl) ?_
    refine r_get (T := TX2) (v := .int (nI dp)) hx hb hts hi2 hown hK hw 0 rfl rfl 4 (by decide) f_0 rfl dX2_oddsOf_10 ?_
    refine r_clt hx hb 2 dp (by omega) (by omega) (tgt := 50) dX2_oddsOf_13 (by decide) (fun c_13 => ?_) (fun c_13 => ?_)
    · refine lv_aload_n hx hb dX2_oddsOf_50 rfl (lv_at hl 0 rfl) ?_
      refine r_get (T := TX2) (v := .ref (sa 1)) hx hb hts hi2 hown hK hw 0 rfl rfl 3 (by decide) f_1 rfl dX2_oddsOf_51 ?_
      refine lv_iload_n hx hb dX2_oddsOf_54 rfl (lv_at hl 1 rfl) ?_
      refine lv_iconst (v := 1) hx hb dX2_oddsOf_55 (by decide) ?_
      refine r_addN hx hb 2 1 dX2_oddsOf_56 ?_
      refine r_aald hx hb hK hw 1 3 rfl rfl 3 (by decide) (by decide) (b := ((la 3) 0)) (hlv 3 (by decide)) dX2_oddsOf_57 ?_
      refine lv_astore (lv' := [(4, .ref ((la 3) 0)), (0, .ref (sa 0)), (1, .int 2), (2, .long pt)]) hx hb dX2_oddsOf_58 hl (by decide) rfl (fun ls hl => ?_)
      refine lv_lload_n hx hb dX2_oddsOf_60 rfl (lv_at hl 3 rfl) ?_
      refine lv_aload_n hx hb dX2_oddsOf_61 rfl (lv_at hl 1 rfl) ?_
      refine r_get (T := TX2) (v := .int pe) hx hb hts hi2 hown hK hw 0 rfl rfl 10 (by decide) f_2 rfl dX2_oddsOf_62 ?_
      refine lv_i2l hx hb dX2_oddsOf_65 rfl ?_
      refine lv_lmul hx hb dX2_oddsOf_66 ?_
      refine lv_ldc2 hx hb hown f_3 dX2_oddsOf_67 ?_
      refine lv_ldiv hx hb dX2_oddsOf_70 (by decide) ?_
      refine lv_lstore (lv' := [(5, .long ((pt * pe.toInt64) / 100)), (4, .ref ((la 3) 0)), (0, .ref (sa 0)), (1, .int 2), (2, .long pt)]) hx hb dX2_oddsOf_71 hl (by decide) rfl (fun ls hl => ?_)
      refine lv_aload hx hb dX2_oddsOf_73 (lv_at hl 1 rfl) ?_
      refine lv_aload_n hx hb dX2_oddsOf_75 rfl (lv_at hl 2 rfl) ?_
      refine r_get (T := TX2) (v := .ref (sa 1)) hx hb hts hi2 hown hK hw 0 rfl rfl 3 (by decide) f_1 rfl dX2_oddsOf_76 ?_
      refine lv_iload_n hx hb dX2_oddsOf_79 rfl (lv_at hl 3 rfl) ?_
      refine r_aald hx hb hK hw 1 3 rfl rfl 2 (by decide) (by decide) (b := ((la 2) 0)) (hlv 2 (by decide)) dX2_oddsOf_80 ?_
      have hw := hw.m2
      have hw := hw.m3
      refine c_vv (As := [.ref ((la 2) 0)]) (rest := []) ⟨hx, hb, hml, hown, hts⟩ (k_X6_copyFrom l D c4 A ((sG c4 sa (tr 0) lc lS (nI dp) t f x c th pe cd dc wc lv) :: (tG c4 tr bh mi fb ba) :: (yG c4 (la 4) (gn 4) (go 4) (gk 4) (gi 4) (gb 4)) :: (yG c4 (la 5) (gn 5) (go 5) (gk 5) (gi 5) (gb 5)) :: (yG c4 (la 6) (gn 6) (go 6) (gk 6) (gi 6) (gb 6)) :: (yG c4 (la 7) (gn 7) (go 7) (gk 7) (gi 7) (gb 7)) :: (yG c4 (la 8) (gn 8) (go 8) (gk 8) (gi 8) (gb 8)) :: Ts) (la 3) (gn 3) (go 3) (gk 3) (gi 3) (gb 3) (la 2) n os kd ic br q hn hY) (cwV 1 hts gX2_oddsOf_X6_copyFrom rfl rfl rfl (by decide +kernel) (rmv (Nat.le_of_ble_eq_true rfl) (Nat.le_of_ble_eq_true rfl) hRf hRl)) hK trivial hw rfl rfl rfl hl rfl (Nat.le_of_ble_eq_true rfl) ⟨Nat.zero_le _, Nat.zero_le _⟩ dX2_oddsOf_81 (fun u_81 H locs hpq hw => ?_)
      obtain ⟨kd2_81, ic2_81, br2_81⟩ := u_81
      have hw : gW D A js.heap ((yG c4 (la 3) (nI n) os kd2_81 ic2_81 br2_81) :: (yG c4 (la 2) (nI n) os kd ic br) :: (sG c4 sa (tr 0) lc lS (nI dp) t f x c th pe cd dc wc lv) :: (tG c4 tr bh mi fb ba) :: (yG c4 (la 4) (gn 4) (go 4) (gk 4) (gi 4) (gb 4)) :: (yG c4 (la 5) (gn 5) (go 5) (gk 5) (gi 5) (gb 5)) :: (yG c4 (la 6) (gn 6) (go 6) (gk 6) (gi 6) (gb 6)) :: (yG c4 (la 7) (gn 7) (go 7) (gk 7) (gi 7) (gb 7)) :: (yG c4 (la 8) (gn 8) (go 8) (gk 8) (gi 8) (gb 8)) :: Ts) H locs := hw
      have hY_81 := hpq
      have hY_81 : yR q n os kd2_81 ic2_81 br2_81 := hY_81
      refine lv_aload hx hb dX2_oddsOf_84 (lv_at hl 1 rfl) ?_
      refine lv_aload_n hx hb dX2_oddsOf_86 rfl (lv_at hl 2 rfl) ?_
      refine r_get (T := TX2) (v := .int th) hx hb hts hi2 hown hK hw 8 rfl rfl 9 (by decide) f_4 rfl dX2_oddsOf_87 ?_
      refine c_vv (As := [.int th]) (rest := []) ⟨hx, hb, hml, hown, hts⟩ (k_X6_melt l D c4 A ((yG c4 (la 2) (nI n) os kd ic br) :: (sG c4 sa (tr 0) lc lS (nI dp) t f x c th pe cd dc wc lv) :: (tG c4 tr bh mi fb ba) :: (yG c4 (la 4) (gn 4) (go 4) (gk 4) (gi 4) (gb 4)) :: (yG c4 (la 5) (gn 5) (go 5) (gk 5) (gi 5) (gb 5)) :: (yG c4 (la 6) (gn 6) (go 6) (gk 6) (gi 6) (gb 6)) :: (yG c4 (la 7) (gn 7) (go 7) (gk 7) (gi 7) (gb 7)) :: (yG c4 (la 8) (gn 8) (go 8) (gk 8) (gi 8) (gb 8)) :: Ts) (la 3) n os kd2_81 ic2_81 br2_81 q th hn hY_81 ht0) (cwV 1 hts gX2_oddsOf_X6_melt rfl rfl rfl (by decide +kernel) (rmv (Nat.le_of_ble_eq_true rfl) (Nat.le_of_ble_eq_true rfl) hRf hRl)) hK trivial hw rfl rfl rfl hl rfl (Nat.le_of_ble_eq_true rfl) ⟨Nat.zero_le _, Nat.zero_le _⟩ dX2_oddsOf_90 (fun u_90 H locs hpq hw => ?_)
      obtain ⟨os2_90, kd2_90, ic2_90, br2_90⟩ := u_90
      have hw : gW D A js.heap ((yG c4 (la 3) (nI n) os2_90 kd2_90 ic2_90 br2_90) :: (yG c4 (la 2) (nI n) os kd ic br) :: (sG c4 sa (tr 0) lc lS (nI dp) t f x c th pe cd dc wc lv) :: (tG c4 tr bh mi fb ba) :: (yG c4 (la 4) (gn 4) (go 4) (gk 4) (gi 4) (gb 4)) :: (yG c4 (la 5) (gn 5) (go 5) (gk 5) (gi 5) (gb 5)) :: (yG c4 (la 6) (gn 6) (go 6) (gk 6) (gi 6) (gb 6)) :: (yG c4 (la 7) (gn 7) (go 7) (gk 7) (gi 7) (gb 7)) :: (yG c4 (la 8) (gn 8) (go 8) (gk 8) (gi 8) (gb 8)) :: Ts) H locs := hw
      have hY_90 := hpq
      have hY_90 : yR (fun y => thawQ th (q y)) n os2_90 kd2_90 ic2_90 br2_90 := hY_90
      refine lv_aload_n hx hb dX2_oddsOf_93 rfl (lv_at hl 2 rfl) ?_
      refine lv_iload_n hx hb dX2_oddsOf_94 rfl (lv_at hl 3 rfl) ?_
      refine lv_iconst (v := 1) hx hb dX2_oddsOf_95 (by decide) ?_
      refine r_addN hx hb 2 1 dX2_oddsOf_96 ?_
      refine lv_lload hx hb dX2_oddsOf_97 (lv_at hl 0 rfl) ?_
      have hw := hw.m8
      have hw := hw.m8
      have hw := hw.m8
      have hw := hw.m8
      have hw := hw.m8
      have hw := hw.m5
      have hw := hw.m8
      have hw := hw.m8
      refine c_vl (As := [.int 3, .long ((pt * pe.toInt64) / 100)]) (rest := []) ⟨hx, hb, hml, hown, hts⟩ (k_X2_oddsOf_3 l D c4 A ((yG c4 (la 2) (nI n) os kd ic br) :: Ts) sa tr la lc lS t f x c th pe cd dc wc dp lv bh mi fb ba n os2_90 kd2_90 ic2_90 br2_90 (fun y => thawQ th (q y)) gn go gk gi gb ((pt * pe.toInt64) / 100) hdp hn hY_90 hf hc hlv ht0) (cwV 2 hts gX2_oddsOf_X2_oddsOf rfl rfl rfl (by decide +kernel) (rmv (Nat.le_of_ble_eq_true rfl) (Nat.le_of_ble_eq_true rfl) hRf hRl)) hK trivial hw rfl rfl rfl hl rfl (Nat.le_of_ble_eq_true rfl) ⟨Nat.zero_le _, Nat.zero_le _⟩ dX2_oddsOf_99 (fun r_99 u_99 H locs hpq hw => ?_)
      obtain ⟨bh2_99, mi2_99, fb2_99, ba2_99, gn2_99, go2_99, gk2_99, gi2_99, gb2_99⟩ := u_99
      have hw : gW D A js.heap ((sG c4 sa (tr 0) lc lS (nI dp) t f x c th pe cd dc wc lv) :: (tG c4 tr bh2_99 mi2_99 fb2_99 ba2_99) :: (yG c4 (la 3) (nI n) os2_90 kd2_90 ic2_90 br2_90) :: (yG c4 (la 4) (gn2_99 4) (go2_99 4) (gk2_99 4) (gi2_99 4) (gb2_99 4)) :: (yG c4 (la 5) (gn2_99 5) (go2_99 5) (gk2_99 5) (gi2_99 5) (gb2_99 5)) :: (yG c4 (la 6) (gn2_99 6) (go2_99 6) (gk2_99 6) (gi2_99 6) (gb2_99 6)) :: (yG c4 (la 7) (gn2_99 7) (go2_99 7) (gk2_99 7) (gi2_99 7) (gb2_99 7)) :: (yG c4 (la 8) (gn2_99 8) (go2_99 8) (gk2_99 8) (gi2_99 8) (gb2_99 8)) :: (yG c4 (la 2) (nI n) os kd ic br) :: Ts) H locs := hw
      have er_99 := hpq
      have er_99 : r_99 = (oddP n f x t c th pe (dp - 3) (fun y => thawQ th (q y)) ((pt * pe.toInt64) / 100)) := er_99
      subst er_99
      refine lv_lstore (lv' := [(7, .long (oddP n f x t c th pe (dp - 3) (fun y => thawQ th (q y)) ((pt * pe.toInt64) / 100))), (5, .long ((pt * pe.toInt64) / 100)), (4, .ref ((la 3) 0)), (0, .ref (sa 0)), (1, .int 2), (2, .long pt)]) hx hb dX2_oddsOf_102 hl (by decide) rfl (fun ls hl => ?_)
      refine lv_aload hx hb dX2_oddsOf_104 (lv_at hl 2 rfl) ?_
      refine lv_aload_n hx hb dX2_oddsOf_106 rfl (lv_at hl 3 rfl) ?_
      refine r_get (T := TX2) (v := .ref (sa 1)) hx hb hts hi2 hown hK hw 0 rfl rfl 3 (by decide) f_1 rfl dX2_oddsOf_107 ?_
      refine lv_iload_n hx hb dX2_oddsOf_110 rfl (lv_at hl 4 rfl) ?_
      refine r_aald hx hb hK hw 1 3 rfl rfl 2 (by decide) (by decide) (b := ((la 2) 0)) (hlv 2 (by decide)) dX2_oddsOf_111 ?_
      have hw := hw.m8
      have hw := hw.m3
      refine c_vv (As := [.ref ((la 2) 0)]) (rest := []) ⟨hx, hb, hml, hown, hts⟩ (k_X6_copyFrom l D c4 A ((sG c4 sa (tr 0) lc lS (nI dp) t f x c th pe cd dc wc lv) :: (tG c4 tr bh2_99 mi2_99 fb2_99 ba2_99) :: (yG c4 (la 4) (gn2_99 4) (go2_99 4) (gk2_99 4) (gi2_99 4) (gb2_99 4)) :: (yG c4 (la 5) (gn2_99 5) (go2_99 5) (gk2_99 5) (gi2_99 5) (gb2_99 5)) :: (yG c4 (la 6) (gn2_99 6) (go2_99 6) (gk2_99 6) (gi2_99 6) (gb2_99 6)) :: (yG c4 (la 7) (gn2_99 7) (go2_99 7) (gk2_99 7) (gi2_99 7) (gb2_99 7)) :: (yG c4 (la 8) (gn2_99 8) (go2_99 8) (gk2_99 8) (gi2_99 8) (gb2_99 8)) :: Ts) (la 3) (nI n) os2_90 kd2_90 ic2_90 br2_90 (la 2) n os kd ic br q hn hY) (cwV 1 hts gX2_oddsOf_X6_copyFrom rfl rfl rfl (by decide +kernel) (rmv (Nat.le_of_ble_eq_true rfl) (Nat.le_of_ble_eq_true rfl) hRf hRl)) hK trivial hw rfl rfl rfl hl rfl (Nat.le_of_ble_eq_true rfl) ⟨Nat.zero_le _, Nat.zero_le _⟩ dX2_oddsOf_112 (fun u_112 H locs hpq hw => ?_)
      obtain ⟨kd2_112, ic2_112, br2_112⟩ := u_112
      have hw : gW D A js.heap ((yG c4 (la 3) (nI n) os kd2_112 ic2_112 br2_112) :: (yG c4 (la 2) (nI n) os kd ic br) :: (sG c4 sa (tr 0) lc lS (nI dp) t f x c th pe cd dc wc lv) :: (tG c4 tr bh2_99 mi2_99 fb2_99 ba2_99) :: (yG c4 (la 4) (gn2_99 4) (go2_99 4) (gk2_99 4) (gi2_99 4) (gb2_99 4)) :: (yG c4 (la 5) (gn2_99 5) (go2_99 5) (gk2_99 5) (gi2_99 5) (gb2_99 5)) :: (yG c4 (la 6) (gn2_99 6) (go2_99 6) (gk2_99 6) (gi2_99 6) (gb2_99 6)) :: (yG c4 (la 7) (gn2_99 7) (go2_99 7) (gk2_99 7) (gi2_99 7) (gb2_99 7)) :: (yG c4 (la 8) (gn2_99 8) (go2_99 8) (gk2_99 8) (gi2_99 8) (gb2_99 8)) :: Ts) H locs := hw
      have hY_112 := hpq
      have hY_112 : yR q n os kd2_112 ic2_112 br2_112 := hY_112
      refine lv_aload hx hb dX2_oddsOf_115 (lv_at hl 2 rfl) ?_
      refine lv_aload_n hx hb dX2_oddsOf_117 rfl (lv_at hl 3 rfl) ?_
      refine r_get (T := TX2) (v := .int c) hx hb hts hi2 hown hK hw 8 rfl rfl 8 (by decide) f_5 rfl dX2_oddsOf_118 ?_
      refine c_vv (As := [.int c]) (rest := []) ⟨hx, hb, hml, hown, hts⟩ (k_X6_freeze l D c4 A ((yG c4 (la 2) (nI n) os kd ic br) :: (sG c4 sa (tr 0) lc lS (nI dp) t f x c th pe cd dc wc lv) :: (tG c4 tr bh2_99 mi2_99 fb2_99 ba2_99) :: (yG c4 (la 4) (gn2_99 4) (go2_99 4) (gk2_99 4) (gi2_99 4) (gb2_99 4)) :: (yG c4 (la 5) (gn2_99 5) (go2_99 5) (gk2_99 5) (gi2_99 5) (gb2_99 5)) :: (yG c4 (la 6) (gn2_99 6) (go2_99 6) (gk2_99 6) (gi2_99 6) (gb2_99 6)) :: (yG c4 (la 7) (gn2_99 7) (go2_99 7) (gk2_99 7) (gi2_99 7) (gb2_99 7)) :: (yG c4 (la 8) (gn2_99 8) (go2_99 8) (gk2_99 8) (gi2_99 8) (gb2_99 8)) :: Ts) (la 3) n os kd2_112 ic2_112 br2_112 q c hn hY_112 hc) (cwV 1 hts gX2_oddsOf_X6_freeze rfl rfl rfl (by decide +kernel) (rmv (Nat.le_of_ble_eq_true rfl) (Nat.le_of_ble_eq_true rfl) hRf hRl)) hK trivial hw rfl rfl rfl hl rfl (Nat.le_of_ble_eq_true rfl) ⟨Nat.zero_le _, Nat.zero_le _⟩ dX2_oddsOf_121 (fun u_121 H locs hpq hw => ?_)
      obtain ⟨os2_121, kd2_121, ic2_121, br2_121⟩ := u_121
      have hw : gW D A js.heap ((yG c4 (la 3) (nI n) os2_121 kd2_121 ic2_121 br2_121) :: (yG c4 (la 2) (nI n) os kd ic br) :: (sG c4 sa (tr 0) lc lS (nI dp) t f x c th pe cd dc wc lv) :: (tG c4 tr bh2_99 mi2_99 fb2_99 ba2_99) :: (yG c4 (la 4) (gn2_99 4) (go2_99 4) (gk2_99 4) (gi2_99 4) (gb2_99 4)) :: (yG c4 (la 5) (gn2_99 5) (go2_99 5) (gk2_99 5) (gi2_99 5) (gb2_99 5)) :: (yG c4 (la 6) (gn2_99 6) (go2_99 6) (gk2_99 6) (gi2_99 6) (gb2_99 6)) :: (yG c4 (la 7) (gn2_99 7) (go2_99 7) (gk2_99 7) (gi2_99 7) (gb2_99 7)) :: (yG c4 (la 8) (gn2_99 8) (go2_99 8) (gk2_99 8) (gi2_99 8) (gb2_99 8)) :: Ts) H locs := hw
      have hY_121 := hpq
      have hY_121 : yR (fun y => nightQ c (q y)) n os2_121 kd2_121 ic2_121 br2_121 := hY_121
      refine lv_lload hx hb dX2_oddsOf_124 (lv_at hl 0 rfl) ?_
      refine lv_aload_n hx hb dX2_oddsOf_126 rfl (lv_at hl 3 rfl) ?_
      refine lv_iload_n hx hb dX2_oddsOf_127 rfl (lv_at hl 4 rfl) ?_
      refine lv_iconst (v := 1) hx hb dX2_oddsOf_128 (by decide) ?_
      refine r_addN hx hb 2 1 dX2_oddsOf_129 ?_
      refine lv_lload_n hx hb dX2_oddsOf_130 rfl (lv_at hl 5 rfl) ?_
      refine lv_lload hx hb dX2_oddsOf_131 (lv_at hl 1 rfl) ?_
      refine lv_lsub hx hb dX2_oddsOf_133 ?_
      have hw := hw.m8
      have hw := hw.m8
      have hw := hw.m8
      have hw := hw.m8
      have hw := hw.m8
      have hw := hw.m5
      have hw := hw.m8
      have hw := hw.m8
      refine c_vl (As := [.int 3, .long (pt - ((pt * pe.toInt64) / 100))]) (rest := [.long (oddP n f x t c th pe (dp - 3) (fun y => thawQ th (q y)) ((pt * pe.toInt64) / 100))]) ⟨hx, hb, hml, hown, hts⟩ (k_X2_oddsOf_3 l D c4 A ((yG c4 (la 2) (nI n) os kd ic br) :: Ts) sa tr la lc lS t f x c th pe cd dc wc dp lv bh2_99 mi2_99 fb2_99 ba2_99 n os2_121 kd2_121 ic2_121 br2_121 (fun y => nightQ c (q y)) gn2_99 go2_99 gk2_99 gi2_99 gb2_99 (pt - ((pt * pe.toInt64) / 100)) hdp hn hY_121 hf hc hlv ht0) (cwV 2 hts gX2_oddsOf_X2_oddsOf rfl rfl rfl (by decide +kernel) (rmv (Nat.le_of_ble_eq_true rfl) (Nat.le_of_ble_eq_true rfl) hRf hRl)) hK trivial hw rfl rfl rfl hl rfl (Nat.le_of_ble_eq_true rfl) ⟨Nat.zero_le _, Nat.zero_le _⟩ dX2_oddsOf_134 (fun r_134 u_134 H locs hpq hw => ?_)
      obtain ⟨bh2_134, mi2_134, fb2_134, ba2_134, gn2_134, go2_134, gk2_134, gi2_134, gb2_134⟩ := u_134
      have hw : gW D A js.heap ((sG c4 sa (tr 0) lc lS (nI dp) t f x c th pe cd dc wc lv) :: (tG c4 tr bh2_134 mi2_134 fb2_134 ba2_134) :: (yG c4 (la 3) (nI n) os2_121 kd2_121 ic2_121 br2_121) :: (yG c4 (la 4) (gn2_134 4) (go2_134 4) (gk2_134 4) (gi2_134 4) (gb2_134 4)) :: (yG c4 (la 5) (gn2_134 5) (go2_134 5) (gk2_134 5) (gi2_134 5) (gb2_134 5)) :: (yG c4 (la 6) (gn2_134 6) (go2_134 6) (gk2_134 6) (gi2_134 6) (gb2_134 6)) :: (yG c4 (la 7) (gn2_134 7) (go2_134 7) (gk2_134 7) (gi2_134 7) (gb2_134 7)) :: (yG c4 (la 8) (gn2_134 8) (go2_134 8) (gk2_134 8) (gi2_134 8) (gb2_134 8)) :: (yG c4 (la 2) (nI n) os kd ic br) :: Ts) H locs := hw
      have er_134 := hpq
      have er_134 : r_134 = (oddP n f x t c th pe (dp - 3) (fun y => nightQ c (q y)) (pt - ((pt * pe.toInt64) / 100))) := er_134
      subst er_134
      refine lv_ladd hx hb dX2_oddsOf_137 ?_
      have hw := hw.m7
      have hw := hw.m7
      have hw := hw.m7
      have hw := hw.m7
      have hw := hw.m7
      have hw := hw.m7
      have hw := hw.m8
      have hw := hw.m8
      have hw := hw.m8
      exact kr ((oddP n f x t c th pe (dp - 3) (fun y => thawQ th (q y)) ((pt * pe.toInt64) / 100)) + (oddP n f x t c th pe (dp - 3) (fun y => nightQ c (q y)) (pt - ((pt * pe.toInt64) / 100)))) (bh2_134, mi2_134, fb2_134, ba2_134, upd gn2_134 3 (nI n), upd go2_134 3 os2_121, va_up gk2_134 3 kd2_121, va_up gi2_134 3 ic2_121, va_up gb2_134 3 br2_121) _ _ _ _ hw (od_node (d := 2) c_13 (fun z => c_3 ((lg_zero pt).mpr z))) dX2_oddsOf_138
    · refine lv_aload_n hx hb dX2_oddsOf_16 rfl (lv_at hl 0 rfl) ?_
      refine r_get (T := TX2) (v := .ref (tr 0)) hx hb hts hi2 hown hK hw 0 rfl rfl 2 (by decide) f_6 rfl dX2_oddsOf_17 ?_
      refine lv_aload_n hx hb dX2_oddsOf_20 rfl (lv_at hl 0 rfl) ?_
      refine r_get (T := TX2) (v := .ref (sa 1)) hx hb hts hi2 hown hK hw 0 rfl rfl 3 (by decide) f_1 rfl dX2_oddsOf_21 ?_
      refine lv_iload_n hx hb dX2_oddsOf_24 rfl (lv_at hl 1 rfl) ?_
      refine r_aald hx hb hK hw 1 3 rfl rfl 2 (by decide) (by decide) (b := ((la 2) 0)) (hlv 2 (by decide)) dX2_oddsOf_25 ?_
      refine lv_aload_n hx hb dX2_oddsOf_26 rfl (lv_at hl 0 rfl) ?_
      refine r_get (T := TX2) (v := .int f) hx hb hts hi2 hown hK hw 0 rfl rfl 6 (by decide) f_7 rfl dX2_oddsOf_27 ?_
      refine lv_aload_n hx hb dX2_oddsOf_30 rfl (lv_at hl 0 rfl) ?_
      refine r_get (T := TX2) (v := .int x) hx hb hts hi2 hown hK hw 0 rfl rfl 7 (by decide) f_8 rfl dX2_oddsOf_31 ?_
      refine lv_aload_n hx hb dX2_oddsOf_34 rfl (lv_at hl 0 rfl) ?_
      refine r_get (T := TX2) (v := .int t) hx hb hts hi2 hown hK hw 0 rfl rfl 5 (by decide) f_9 rfl dX2_oddsOf_35 ?_
      have hw := hw.m2
      have hw := hw.m2
      refine c_vi (As := [.ref ((la 2) 0), .int f, .int x, .int t]) (rest := []) ⟨hx, hb, hml, hown, hts⟩ (k_X4_passes l D c4 A ((sG c4 sa (tr 0) lc lS (nI dp) t f x c th pe cd dc wc lv) :: (yG c4 (la 3) (gn 3) (go 3) (gk 3) (gi 3) (gb 3)) :: (yG c4 (la 4) (gn 4) (go 4) (gk 4) (gi 4) (gb 4)) :: (yG c4 (la 5) (gn 5) (go 5) (gk 5) (gi 5) (gb 5)) :: (yG c4 (la 6) (gn 6) (go 6) (gk 6) (gi 6) (gb 6)) :: (yG c4 (la 7) (gn 7) (go 7) (gk 7) (gi 7) (gb 7)) :: (yG c4 (la 8) (gn 8) (go 8) (gk 8) (gi 8) (gb 8)) :: Ts) tr bh mi fb ba (la 2) n os kd ic br q f x t hn hY hf) (cwV 4 hts gX2_oddsOf_X4_passes rfl rfl rfl (by decide +kernel) (rmv (Nat.le_of_ble_eq_true rfl) (Nat.le_of_ble_eq_true rfl) hRf hRl)) hK trivial hw rfl rfl rfl hl rfl (Nat.le_of_ble_eq_true rfl) ⟨Nat.zero_le _, Nat.zero_le _⟩ dX2_oddsOf_38 (fun r_38 u_38 H locs hpq hw => ?_)
      obtain ⟨b2_38, ba2_38⟩ := u_38
      have hw : gW D A js.heap ((tG c4 tr (nI b2_38) (cumQ f x q b2_38) (fbQ q b2_38) ba2_38) :: (yG c4 (la 2) (nI n) os kd ic br) :: (sG c4 sa (tr 0) lc lS (nI dp) t f x c th pe cd dc wc lv) :: (yG c4 (la 3) (gn 3) (go 3) (gk 3) (gi 3) (gb 3)) :: (yG c4 (la 4) (gn 4) (go 4) (gk 4) (gi 4) (gb 4)) :: (yG c4 (la 5) (gn 5) (go 5) (gk 5) (gi 5) (gb 5)) :: (yG c4 (la 6) (gn 6) (go 6) (gk 6) (gi 6) (gb 6)) :: (yG c4 (la 7) (gn 7) (go 7) (gk 7) (gi 7) (gb 7)) :: (yG c4 (la 8) (gn 8) (go 8) (gk 8) (gi 8) (gb 8)) :: Ts) H locs := hw
      obtain ⟨h0_38, h1_38, hb2_38, hba_38⟩ := hpq
      have h0_38 : r_38 = 0 → ¬ b2_38 = n := h0_38
      have h1_38 : ¬ r_38 = 0 → b2_38 = n := h1_38
      have hb2_38 : b2_38 = bhQ f x t q n := hb2_38
      have hba_38 : ∀ k, k < b2_38 → ba2_38 k = cumQ f x q (k + 1) := hba_38
      have kj_41 : ∀ (w_1 : Int64) (ls : Array Slot), w_1 = (if r_38 = 0 then 0 else pt) → lv_has ls 9 [(0, .ref (sa 0)), (1, .int 2), (2, .long pt)] → W jp l je R js jm args below meth jc H locs 0 0 Q (F0 jm 49 ls [.long w_1]) := by
        intro w_1 ls e_w_1 hl
        subst e_w_1
        have hw := hw.m8
        have hw := hw.m8
        have hw := hw.m8
        have hw := hw.m8
        have hw := hw.m8
        have hw := hw.m8
        have hw := hw.m7
        have hw := hw.m7
        have hw := hw.m8
        exact kr (if r_38 = 0 then 0 else pt) ((nI b2_38), (cumQ f x q b2_38), (fbQ q b2_38), ba2_38, gn, go, gk, gi, gb) _ _ _ _ hw (od_leaf (d := 2) c_13 (fun z => c_3 ((lg_zero pt).mpr z)) hb2_38 h0_38 h1_38) dX2_oddsOf_49
      refine lv_if_eq (tgt := 48) hx hb dX2_oddsOf_41 (by decide) (fun c_41 => ?_) (fun c_41 => ?_)
      · refine lv_lconst (v := 0) hx hb dX2_oddsOf_48 (by decide) ?_
        exact kj_41 _ ls (by first | rfl | (rw [if_pos c_41]; done) | (simp only [if_pos c_41]; done) | simp [c_41]) (lv_sub hl [0, 1, 2] rfl)
      · refine lv_lload_n hx hb dX2_oddsOf_44 rfl (lv_at hl 2 rfl) ?_
        refine lv_goto (tgt := 49) hx hb dX2_oddsOf_45 (by decide) ?_
        exact kj_41 _ ls (by first | rfl | (rw [if_neg c_41]; done) | (simp only [if_neg c_41]; done) | simp [c_41]) (lv_sub hl [0, 1, 2] rfl)
  · refine lv_lconst (v := 0) hx hb dX2_oddsOf_6 (by decide) ?_
    exact kr 0 (bh, mi, fb, ba, gn, go, gk, gi, gb) _ _ _ _ hw (od_0 ((lg_zero pt).mp c_3)) dX2_oddsOf_7
set_option maxHeartbeats 4000000 in
set_option maxRecDepth 100000 in
theorem k_X2_oddsOf_1 (l : Launch) (D : va_G) (c4 : Nat → ClassId) (A : Nat → Prop) (Ts : List va_W) (sa : Nat → Nat) (tr : Nat → Nat) (la : Nat → Nat → Nat) (lc : Int32) (lS : Int32) (t : Int32) (f : Int32) (x : Int32) (c : Int32) (th : Int32) (pe : Int32) (cd : Int32) (dc : Int32) (wc : Int32) (dp : Nat) (lv : Nat → Option Nat) (bh : Int32) (mi : Int32) (fb : Int32) (ba : Nat → Int32) (n : Nat) (os : Int32) (kd : Nat → Int32) (ic : Nat → Int32) (br : Nat → Int32) (q : Nat → Yq) (gn : Nat → Int32) (go : Nat → Int32) (gk : Nat → Nat → Int32) (gi : Nat → Nat → Int32) (gb : Nat → Nat → Int32) (pt : Int64) (hdp : dp ≤ 8) (hn : n ≤ 12) (hY : yR q n os kd ic br) (hf : fOk f x) (hc : 0 ≤ c.toInt ∧ c.toInt ≤ 30) (hlv : ∀ k, k < 9 → lv k = some (la k 0)) (ht0 : 0 ≤ th.toInt ∧ th.toInt ≤ 60) : Cl l yX2_oddsOf wsX2_oddsOf 10 270 [.ref (sa 0), .int 1, .long pt] D (tyA c4) A none ((sG c4 sa (tr 0) lc lS (nI dp) t f x c th pe cd dc wc lv) :: (tG c4 tr bh mi fb ba) :: (yG c4 (la 1) (nI n) os kd ic br) :: (yG c4 (la 2) (gn 2) (go 2) (gk 2) (gi 2) (gb 2)) :: (yG c4 (la 3) (gn 3) (go 3) (gk 3) (gi 3) (gb 3)) :: (yG c4 (la 4) (gn 4) (go 4) (gk 4) (gi 4) (gb 4)) :: (yG c4 (la 5) (gn 5) (go 5) (gk 5) (gi 5) (gb 5)) :: (yG c4 (la 6) (gn 6) (go 6) (gk 6) (gi 6) (gb 6)) :: (yG c4 (la 7) (gn 7) (go 7) (gk 7) (gi 7) (gb 7)) :: (yG c4 (la 8) (gn 8) (go 8) (gk 8) (gi 8) (gb 8)) :: Ts) (S := Int32 × Int32 × Int32 × (Nat → Int32) × (Nat → Int32) × (Nat → Int32) × (Nat → Nat → Int32) × (Nat → Nat → Int32) × (Nat → Nat → Int32)) (fun (r : Int64) (u : Int32 × Int32 × Int32 × (Nat → Int32) × (Nat → Int32) × (Nat → Int32) × (Nat → Nat → Int32) × (Nat → Nat → Int32) × (Nat → Nat → Int32)) => r = (oddP n f x t c th pe (dp - 1) q pt)) (fun u => ((sG c4 sa (tr 0) lc lS (nI dp) t f x c th pe cd dc wc lv) :: (tG c4 tr u.1 u.2.1 u.2.2.1 u.2.2.2.1) :: (yG c4 (la 1) (nI n) os kd ic br) :: (yG c4 (la 2) (u.2.2.2.2.1 2) (u.2.2.2.2.2.1 2) (u.2.2.2.2.2.2.1 2) (u.2.2.2.2.2.2.2.1 2) (u.2.2.2.2.2.2.2.2 2)) :: (yG c4 (la 3) (u.2.2.2.2.1 3) (u.2.2.2.2.2.1 3) (u.2.2.2.2.2.2.1 3) (u.2.2.2.2.2.2.2.1 3) (u.2.2.2.2.2.2.2.2 3)) :: (yG c4 (la 4) (u.2.2.2.2.1 4) (u.2.2.2.2.2.1 4) (u.2.2.2.2.2.2.1 4) (u.2.2.2.2.2.2.2.1 4) (u.2.2.2.2.2.2.2.2 4)) :: (yG c4 (la 5) (u.2.2.2.2.1 5) (u.2.2.2.2.2.1 5) (u.2.2.2.2.2.2.1 5) (u.2.2.2.2.2.2.2.1 5) (u.2.2.2.2.2.2.2.2 5)) :: (yG c4 (la 6) (u.2.2.2.2.1 6) (u.2.2.2.2.2.1 6) (u.2.2.2.2.2.2.1 6) (u.2.2.2.2.2.2.2.1 6) (u.2.2.2.2.2.2.2.2 6)) :: (yG c4 (la 7) (u.2.2.2.2.1 7) (u.2.2.2.2.2.1 7) (u.2.2.2.2.2.2.1 7) (u.2.2.2.2.2.2.2.1 7) (u.2.2.2.2.2.2.2.2 7)) :: (yG c4 (la 8) (u.2.2.2.2.1 8) (u.2.2.2.2.2.1 8) (u.2.2.2.2.2.2.1 8) (u.2.2.2.2.2.2.2.1 8) (u.2.2.2.2.2.2.2.2 8)) :: Ts)) := by
  refine cOl (cc := cX2_oddsOf) (maxL := 9) (by decide) rfl (Nat.le_of_ble_eq_true rfl) rfl ?_
  rintro jp je js jm below meth jc ls args R Q H locs hRf hRl ⟨hx, hb, hml, hr, hts, hown, hlocks, hK, hX⟩ hw hl kr
  have hown : js.vm.findClass RX2 = some jm.cls := hown
  have f_0 := hts (.fieldLink RX2 41 "IceSway$Search" "depth" "I") (by decide +kernel)
  have f_1 := hts (.fieldLink RX2 20 "IceSway$Search" "levels" "[LIceSway$Yards;") (by decide +kernel)
  have f_2 := hts (.fieldLink RX2 120 "IceSway$Search" "percent" "I") (by decide +kernel)
  have f_3 := hts (.constantLong RX2 129 (100)) (by decide +kernel)
  have f_4 := hts (.fieldLink RX2 117 "IceSway$Search" "thaw" "I") (by decide +kernel)
  have f_5 := hts (.fieldLink RX2 67 "IceSway$Search" "cold" "I") (by decide +kernel)
  have f_6 := hts (.fieldLink RX2 12 "IceSway$Search" "trip" "LIceSway$Trip;") (by decide +kernel)
  have f_7 := hts (.fieldLink RX2 57 "IceSway$Search" "force" "I") (by decide +kernel)
  have f_8 := hts (.fieldLink RX2 64 "IceSway$Search" "axe" "I") (by decide +kernel)
  have f_9 := hts (.fieldLink RX2 45 "IceSway$Search" "minutes" "I") (by decide +kernel)
  have hi2 : ∀ w ∈ u_ws RX2 TX2 14, w ∈ wsX2_oddsOf := fun w h => List.mem_cons_of_mem _ (List.mem_append_left _ (List.mem_append_left _ (List.mem_append_right _ h)))
  refine lv_lload_n hx hb dX2_oddsOf_0 rfl (lv_at hl 2 rfl) ?_
  refine lv_lconst (v := 0) hx hb dX2_oddsOf_1 (by decide) ?_
  refine W.lcmp hx hb dX2_oddsOf_2 ?_
  refine lv_if_ne (tgt := 8) hx hb dX2_oddsOf_3 (by decide) (fun c_3 => ?_) (fun c_3 => ?_)
  · refine lv_iload_n hx hb dX2_oddsOf_8 rfl (lv_at hl 1 rfl) ?_
    refine lv_aload_n hx hb dX2_oddsOf_9 rfl (lv_at hl 0 rfl) ?_
    refine r_get (T := TX2) (v := .int (nI dp)) hx hb hts hi2 hown hK hw 0 rfl rfl 4 (by decide) f_0 rfl dX2_oddsOf_10 ?_
    refine r_clt hx hb 1 dp (by omega) (by omega) (tgt := 50) dX2_oddsOf_13 (by decide) (fun c_13 => ?_) (fun c_13 => ?_)
    · refine lv_aload_n hx hb dX2_oddsOf_50 rfl (lv_at hl 0 rfl) ?_
      refine r_get (T := TX2) (v := .ref (sa 1)) hx hb hts hi2 hown hK hw 0 rfl rfl 3 (by decide) f_1 rfl dX2_oddsOf_51 ?_
      refine lv_iload_n hx hb dX2_oddsOf_54 rfl (lv_at hl 1 rfl) ?_
      refine lv_iconst (v := 1) hx hb dX2_oddsOf_55 (by decide) ?_
      refine r_addN hx hb 1 1 dX2_oddsOf_56 ?_
      refine r_aald hx hb hK hw 1 3 rfl rfl 2 (by decide) (by decide) (b := ((la 2) 0)) (hlv 2 (by decide)) dX2_oddsOf_57 ?_
      refine lv_astore (lv' := [(4, .ref ((la 2) 0)), (0, .ref (sa 0)), (1, .int 1), (2, .long pt)]) hx hb dX2_oddsOf_58 hl (by decide) rfl (fun ls hl => ?_)
      refine lv_lload_n hx hb dX2_oddsOf_60 rfl (lv_at hl 3 rfl) ?_
      refine lv_aload_n hx hb dX2_oddsOf_61 rfl (lv_at hl 1 rfl) ?_
      refine r_get (T := TX2) (v := .int pe) hx hb hts hi2 hown hK hw 0 rfl rfl 10 (by decide) f_2 rfl dX2_oddsOf_62 ?_
      refine lv_i2l hx hb dX2_oddsOf_65 rfl ?_
      refine lv_lmul hx hb dX2_oddsOf_66 ?_
      refine lv_ldc2 hx hb hown f_3 dX2_oddsOf_67 ?_
      refine lv_ldiv hx hb dX2_oddsOf_70 (by decide) ?_
      refine lv_lstore (lv' := [(5, .long ((pt * pe.toInt64) / 100)), (4, .ref ((la 2) 0)), (0, .ref (sa 0)), (1, .int 1), (2, .long pt)]) hx hb dX2_oddsOf_71 hl (by decide) rfl (fun ls hl => ?_)
      refine lv_aload hx hb dX2_oddsOf_73 (lv_at hl 1 rfl) ?_
      refine lv_aload_n hx hb dX2_oddsOf_75 rfl (lv_at hl 2 rfl) ?_
      refine r_get (T := TX2) (v := .ref (sa 1)) hx hb hts hi2 hown hK hw 0 rfl rfl 3 (by decide) f_1 rfl dX2_oddsOf_76 ?_
      refine lv_iload_n hx hb dX2_oddsOf_79 rfl (lv_at hl 3 rfl) ?_
      refine r_aald hx hb hK hw 1 3 rfl rfl 1 (by decide) (by decide) (b := ((la 1) 0)) (hlv 1 (by decide)) dX2_oddsOf_80 ?_
      have hw := hw.m2
      have hw := hw.m3
      refine c_vv (As := [.ref ((la 1) 0)]) (rest := []) ⟨hx, hb, hml, hown, hts⟩ (k_X6_copyFrom l D c4 A ((sG c4 sa (tr 0) lc lS (nI dp) t f x c th pe cd dc wc lv) :: (tG c4 tr bh mi fb ba) :: (yG c4 (la 3) (gn 3) (go 3) (gk 3) (gi 3) (gb 3)) :: (yG c4 (la 4) (gn 4) (go 4) (gk 4) (gi 4) (gb 4)) :: (yG c4 (la 5) (gn 5) (go 5) (gk 5) (gi 5) (gb 5)) :: (yG c4 (la 6) (gn 6) (go 6) (gk 6) (gi 6) (gb 6)) :: (yG c4 (la 7) (gn 7) (go 7) (gk 7) (gi 7) (gb 7)) :: (yG c4 (la 8) (gn 8) (go 8) (gk 8) (gi 8) (gb 8)) :: Ts) (la 2) (gn 2) (go 2) (gk 2) (gi 2) (gb 2) (la 1) n os kd ic br q hn hY) (cwV 1 hts gX2_oddsOf_X6_copyFrom rfl rfl rfl (by decide +kernel) (rmv (Nat.le_of_ble_eq_true rfl) (Nat.le_of_ble_eq_true rfl) hRf hRl)) hK trivial hw rfl rfl rfl hl rfl (Nat.le_of_ble_eq_true rfl) ⟨Nat.zero_le _, Nat.zero_le _⟩ dX2_oddsOf_81 (fun u_81 H locs hpq hw => ?_)
      obtain ⟨kd2_81, ic2_81, br2_81⟩ := u_81
      have hw : gW D A js.heap ((yG c4 (la 2) (nI n) os kd2_81 ic2_81 br2_81) :: (yG c4 (la 1) (nI n) os kd ic br) :: (sG c4 sa (tr 0) lc lS (nI dp) t f x c th pe cd dc wc lv) :: (tG c4 tr bh mi fb ba) :: (yG c4 (la 3) (gn 3) (go 3) (gk 3) (gi 3) (gb 3)) :: (yG c4 (la 4) (gn 4) (go 4) (gk 4) (gi 4) (gb 4)) :: (yG c4 (la 5) (gn 5) (go 5) (gk 5) (gi 5) (gb 5)) :: (yG c4 (la 6) (gn 6) (go 6) (gk 6) (gi 6) (gb 6)) :: (yG c4 (la 7) (gn 7) (go 7) (gk 7) (gi 7) (gb 7)) :: (yG c4 (la 8) (gn 8) (go 8) (gk 8) (gi 8) (gb 8)) :: Ts) H locs := hw
      have hY_81 := hpq
      have hY_81 : yR q n os kd2_81 ic2_81 br2_81 := hY_81
      refine lv_aload hx hb dX2_oddsOf_84 (lv_at hl 1 rfl) ?_
      refine lv_aload_n hx hb dX2_oddsOf_86 rfl (lv_at hl 2 rfl) ?_
      refine r_get (T := TX2) (v := .int th) hx hb hts hi2 hown hK hw 8 rfl rfl 9 (by decide) f_4 rfl dX2_oddsOf_87 ?_
      refine c_vv (As := [.int th]) (rest := []) ⟨hx, hb, hml, hown, hts⟩ (k_X6_melt l D c4 A ((yG c4 (la 1) (nI n) os kd ic br) :: (sG c4 sa (tr 0) lc lS (nI dp) t f x c th pe cd dc wc lv) :: (tG c4 tr bh mi fb ba) :: (yG c4 (la 3) (gn 3) (go 3) (gk 3) (gi 3) (gb 3)) :: (yG c4 (la 4) (gn 4) (go 4) (gk 4) (gi 4) (gb 4)) :: (yG c4 (la 5) (gn 5) (go 5) (gk 5) (gi 5) (gb 5)) :: (yG c4 (la 6) (gn 6) (go 6) (gk 6) (gi 6) (gb 6)) :: (yG c4 (la 7) (gn 7) (go 7) (gk 7) (gi 7) (gb 7)) :: (yG c4 (la 8) (gn 8) (go 8) (gk 8) (gi 8) (gb 8)) :: Ts) (la 2) n os kd2_81 ic2_81 br2_81 q th hn hY_81 ht0) (cwV 1 hts gX2_oddsOf_X6_melt rfl rfl rfl (by decide +kernel) (rmv (Nat.le_of_ble_eq_true rfl) (Nat.le_of_ble_eq_true rfl) hRf hRl)) hK trivial hw rfl rfl rfl hl rfl (Nat.le_of_ble_eq_true rfl) ⟨Nat.zero_le _, Nat.zero_le _⟩ dX2_oddsOf_90 (fun u_90 H locs hpq hw => ?_)
      obtain ⟨os2_90, kd2_90, ic2_90, br2_90⟩ := u_90
      have hw : gW D A js.heap ((yG c4 (la 2) (nI n) os2_90 kd2_90 ic2_90 br2_90) :: (yG c4 (la 1) (nI n) os kd ic br) :: (sG c4 sa (tr 0) lc lS (nI dp) t f x c th pe cd dc wc lv) :: (tG c4 tr bh mi fb ba) :: (yG c4 (la 3) (gn 3) (go 3) (gk 3) (gi 3) (gb 3)) :: (yG c4 (la 4) (gn 4) (go 4) (gk 4) (gi 4) (gb 4)) :: (yG c4 (la 5) (gn 5) (go 5) (gk 5) (gi 5) (gb 5)) :: (yG c4 (la 6) (gn 6) (go 6) (gk 6) (gi 6) (gb 6)) :: (yG c4 (la 7) (gn 7) (go 7) (gk 7) (gi 7) (gb 7)) :: (yG c4 (la 8) (gn 8) (go 8) (gk 8) (gi 8) (gb 8)) :: Ts) H locs := hw
      have hY_90 := hpq
      have hY_90 : yR (fun y => thawQ th (q y)) n os2_90 kd2_90 ic2_90 br2_90 := hY_90
      refine lv_aload_n hx hb dX2_oddsOf_93 rfl (lv_at hl 2 rfl) ?_
      refine lv_iload_n hx hb dX2_oddsOf_94 rfl (lv_at hl 3 rfl) ?_
      refine lv_iconst (v := 1) hx hb dX2_oddsOf_95 (by decide) ?_
      refine r_addN hx hb 1 1 dX2_oddsOf_96 ?_
      refine lv_lload hx hb dX2_oddsOf_97 (lv_at hl 0 rfl) ?_
      have hw := hw.m9
      have hw := hw.m9
      have hw := hw.m9
      have hw := hw.m9
      have hw := hw.m9
      have hw := hw.m9
      have hw := hw.m6
      have hw := hw.m9
      have hw := hw.m9
      refine c_vl (As := [.int 2, .long ((pt * pe.toInt64) / 100)]) (rest := []) ⟨hx, hb, hml, hown, hts⟩ (k_X2_oddsOf_2 l D c4 A ((yG c4 (la 1) (nI n) os kd ic br) :: Ts) sa tr la lc lS t f x c th pe cd dc wc dp lv bh mi fb ba n os2_90 kd2_90 ic2_90 br2_90 (fun y => thawQ th (q y)) gn go gk gi gb ((pt * pe.toInt64) / 100) hdp hn hY_90 hf hc hlv ht0) (cwV 2 hts gX2_oddsOf_X2_oddsOf rfl rfl rfl (by decide +kernel) (rmv (Nat.le_of_ble_eq_true rfl) (Nat.le_of_ble_eq_true rfl) hRf hRl)) hK trivial hw rfl rfl rfl hl rfl (Nat.le_of_ble_eq_true rfl) ⟨Nat.zero_le _, Nat.zero_le _⟩ dX2_oddsOf_99 (fun r_99 u_99 H locs hpq hw => ?_)
      obtain ⟨bh2_99, mi2_99, fb2_99, ba2_99, gn2_99, go2_99, gk2_99, gi2_99, gb2_99⟩ := u_99
      have hw : gW D A js.heap ((sG c4 sa (tr 0) lc lS (nI dp) t f x c th pe cd dc wc lv) :: (tG c4 tr bh2_99 mi2_99 fb2_99 ba2_99) :: (yG c4 (la 2) (nI n) os2_90 kd2_90 ic2_90 br2_90) :: (yG c4 (la 3) (gn2_99 3) (go2_99 3) (gk2_99 3) (gi2_99 3) (gb2_99 3)) :: (yG c4 (la 4) (gn2_99 4) (go2_99 4) (gk2_99 4) (gi2_99 4) (gb2_99 4)) :: (yG c4 (la 5) (gn2_99 5) (go2_99 5) (gk2_99 5) (gi2_99 5) (gb2_99 5)) :: (yG c4 (la 6) (gn2_99 6) (go2_99 6) (gk2_99 6) (gi2_99 6) (gb2_99 6)) :: (yG c4 (la 7) (gn2_99 7) (go2_99 7) (gk2_99 7) (gi2_99 7) (gb2_99 7)) :: (yG c4 (la 8) (gn2_99 8) (go2_99 8) (gk2_99 8) (gi2_99 8) (gb2_99 8)) :: (yG c4 (la 1) (nI n) os kd ic br) :: Ts) H locs := hw
      have er_99 := hpq
      have er_99 : r_99 = (oddP n f x t c th pe (dp - 2) (fun y => thawQ th (q y)) ((pt * pe.toInt64) / 100)) := er_99
      subst er_99
      refine lv_lstore (lv' := [(7, .long (oddP n f x t c th pe (dp - 2) (fun y => thawQ th (q y)) ((pt * pe.toInt64) / 100))), (5, .long ((pt * pe.toInt64) / 100)), (4, .ref ((la 2) 0)), (0, .ref (sa 0)), (1, .int 1), (2, .long pt)]) hx hb dX2_oddsOf_102 hl (by decide) rfl (fun ls hl => ?_)
      refine lv_aload hx hb dX2_oddsOf_104 (lv_at hl 2 rfl) ?_
      refine lv_aload_n hx hb dX2_oddsOf_106 rfl (lv_at hl 3 rfl) ?_
      refine r_get (T := TX2) (v := .ref (sa 1)) hx hb hts hi2 hown hK hw 0 rfl rfl 3 (by decide) f_1 rfl dX2_oddsOf_107 ?_
      refine lv_iload_n hx hb dX2_oddsOf_110 rfl (lv_at hl 4 rfl) ?_
      refine r_aald hx hb hK hw 1 3 rfl rfl 1 (by decide) (by decide) (b := ((la 1) 0)) (hlv 1 (by decide)) dX2_oddsOf_111 ?_
      have hw := hw.m9
      have hw := hw.m3
      refine c_vv (As := [.ref ((la 1) 0)]) (rest := []) ⟨hx, hb, hml, hown, hts⟩ (k_X6_copyFrom l D c4 A ((sG c4 sa (tr 0) lc lS (nI dp) t f x c th pe cd dc wc lv) :: (tG c4 tr bh2_99 mi2_99 fb2_99 ba2_99) :: (yG c4 (la 3) (gn2_99 3) (go2_99 3) (gk2_99 3) (gi2_99 3) (gb2_99 3)) :: (yG c4 (la 4) (gn2_99 4) (go2_99 4) (gk2_99 4) (gi2_99 4) (gb2_99 4)) :: (yG c4 (la 5) (gn2_99 5) (go2_99 5) (gk2_99 5) (gi2_99 5) (gb2_99 5)) :: (yG c4 (la 6) (gn2_99 6) (go2_99 6) (gk2_99 6) (gi2_99 6) (gb2_99 6)) :: (yG c4 (la 7) (gn2_99 7) (go2_99 7) (gk2_99 7) (gi2_99 7) (gb2_99 7)) :: (yG c4 (la 8) (gn2_99 8) (go2_99 8) (gk2_99 8) (gi2_99 8) (gb2_99 8)) :: Ts) (la 2) (nI n) os2_90 kd2_90 ic2_90 br2_90 (la 1) n os kd ic br q hn hY) (cwV 1 hts gX2_oddsOf_X6_copyFrom rfl rfl rfl (by decide +kernel) (rmv (Nat.le_of_ble_eq_true rfl) (Nat.le_of_ble_eq_true rfl) hRf hRl)) hK trivial hw rfl rfl rfl hl rfl (Nat.le_of_ble_eq_true rfl) ⟨Nat.zero_le _, Nat.zero_le _⟩ dX2_oddsOf_112 (fun u_112 H locs hpq hw => ?_)
      obtain ⟨kd2_112, ic2_112, br2_112⟩ := u_112
      have hw : gW D A js.heap ((yG c4 (la 2) (nI n) os kd2_112 ic2_112 br2_112) :: (yG c4 (la 1) (nI n) os kd ic br) :: (sG c4 sa (tr 0) lc lS (nI dp) t f x c th pe cd dc wc lv) :: (tG c4 tr bh2_99 mi2_99 fb2_99 ba2_99) :: (yG c4 (la 3) (gn2_99 3) (go2_99 3) (gk2_99 3) (gi2_99 3) (gb2_99 3)) :: (yG c4 (la 4) (gn2_99 4) (go2_99 4) (gk2_99 4) (gi2_99 4) (gb2_99 4)) :: (yG c4 (la 5) (gn2_99 5) (go2_99 5) (gk2_99 5) (gi2_99 5) (gb2_99 5)) :: (yG c4 (la 6) (gn2_99 6) (go2_99 6) (gk2_99 6) (gi2_99 6) (gb2_99 6)) :: (yG c4 (la 7) (gn2_99 7) (go2_99 7) (gk2_99 7) (gi2_99 7) (gb2_99 7)) :: (yG c4 (la 8) (gn2_99 8) (go2_99 8) (gk2_99 8) (gi2_99 8) (gb2_99 8)) :: Ts) H locs := hw
      have hY_112 := hpq
      have hY_112 : yR q n os kd2_112 ic2_112 br2_112 := hY_112
      refine lv_aload hx hb dX2_oddsOf_115 (lv_at hl 2 rfl) ?_
      refine lv_aload_n hx hb dX2_oddsOf_117 rfl (lv_at hl 3 rfl) ?_
      refine r_get (T := TX2) (v := .int c) hx hb hts hi2 hown hK hw 8 rfl rfl 8 (by decide) f_5 rfl dX2_oddsOf_118 ?_
      refine c_vv (As := [.int c]) (rest := []) ⟨hx, hb, hml, hown, hts⟩ (k_X6_freeze l D c4 A ((yG c4 (la 1) (nI n) os kd ic br) :: (sG c4 sa (tr 0) lc lS (nI dp) t f x c th pe cd dc wc lv) :: (tG c4 tr bh2_99 mi2_99 fb2_99 ba2_99) :: (yG c4 (la 3) (gn2_99 3) (go2_99 3) (gk2_99 3) (gi2_99 3) (gb2_99 3)) :: (yG c4 (la 4) (gn2_99 4) (go2_99 4) (gk2_99 4) (gi2_99 4) (gb2_99 4)) :: (yG c4 (la 5) (gn2_99 5) (go2_99 5) (gk2_99 5) (gi2_99 5) (gb2_99 5)) :: (yG c4 (la 6) (gn2_99 6) (go2_99 6) (gk2_99 6) (gi2_99 6) (gb2_99 6)) :: (yG c4 (la 7) (gn2_99 7) (go2_99 7) (gk2_99 7) (gi2_99 7) (gb2_99 7)) :: (yG c4 (la 8) (gn2_99 8) (go2_99 8) (gk2_99 8) (gi2_99 8) (gb2_99 8)) :: Ts) (la 2) n os kd2_112 ic2_112 br2_112 q c hn hY_112 hc) (cwV 1 hts gX2_oddsOf_X6_freeze rfl rfl rfl (by decide +kernel) (rmv (Nat.le_of_ble_eq_true rfl) (Nat.le_of_ble_eq_true rfl) hRf hRl)) hK trivial hw rfl rfl rfl hl rfl (Nat.le_of_ble_eq_true rfl) ⟨Nat.zero_le _, Nat.zero_le _⟩ dX2_oddsOf_121 (fun u_121 H locs hpq hw => ?_)
      obtain ⟨os2_121, kd2_121, ic2_121, br2_121⟩ := u_121
      have hw : gW D A js.heap ((yG c4 (la 2) (nI n) os2_121 kd2_121 ic2_121 br2_121) :: (yG c4 (la 1) (nI n) os kd ic br) :: (sG c4 sa (tr 0) lc lS (nI dp) t f x c th pe cd dc wc lv) :: (tG c4 tr bh2_99 mi2_99 fb2_99 ba2_99) :: (yG c4 (la 3) (gn2_99 3) (go2_99 3) (gk2_99 3) (gi2_99 3) (gb2_99 3)) :: (yG c4 (la 4) (gn2_99 4) (go2_99 4) (gk2_99 4) (gi2_99 4) (gb2_99 4)) :: (yG c4 (la 5) (gn2_99 5) (go2_99 5) (gk2_99 5) (gi2_99 5) (gb2_99 5)) :: (yG c4 (la 6) (gn2_99 6) (go2_99 6) (gk2_99 6) (gi2_99 6) (gb2_99 6)) :: (yG c4 (la 7) (gn2_99 7) (go2_99 7) (gk2_99 7) (gi2_99 7) (gb2_99 7)) :: (yG c4 (la 8) (gn2_99 8) (go2_99 8) (gk2_99 8) (gi2_99 8) (gb2_99 8)) :: Ts) H locs := hw
      have hY_121 := hpq
      have hY_121 : yR (fun y => nightQ c (q y)) n os2_121 kd2_121 ic2_121 br2_121 := hY_121
      refine lv_lload hx hb dX2_oddsOf_124 (lv_at hl 0 rfl) ?_
      refine lv_aload_n hx hb dX2_oddsOf_126 rfl (lv_at hl 3 rfl) ?_
      refine lv_iload_n hx hb dX2_oddsOf_127 rfl (lv_at hl 4 rfl) ?_
      refine lv_iconst (v := 1) hx hb dX2_oddsOf_128 (by decide) ?_
      refine r_addN hx hb 1 1 dX2_oddsOf_129 ?_
      refine lv_lload_n hx hb dX2_oddsOf_130 rfl (lv_at hl 5 rfl) ?_
      refine lv_lload hx hb dX2_oddsOf_131 (lv_at hl 1 rfl) ?_
      refine lv_lsub hx hb dX2_oddsOf_133 ?_
      have hw := hw.m9
      have hw := hw.m9
      have hw := hw.m9
      have hw := hw.m9
      have hw := hw.m9
      have hw := hw.m9
      have hw := hw.m6
      have hw := hw.m9
      have hw := hw.m9
      refine c_vl (As := [.int 2, .long (pt - ((pt * pe.toInt64) / 100))]) (rest := [.long (oddP n f x t c th pe (dp - 2) (fun y => thawQ th (q y)) ((pt * pe.toInt64) / 100))]) ⟨hx, hb, hml, hown, hts⟩ (k_X2_oddsOf_2 l D c4 A ((yG c4 (la 1) (nI n) os kd ic br) :: Ts) sa tr la lc lS t f x c th pe cd dc wc dp lv bh2_99 mi2_99 fb2_99 ba2_99 n os2_121 kd2_121 ic2_121 br2_121 (fun y => nightQ c (q y)) gn2_99 go2_99 gk2_99 gi2_99 gb2_99 (pt - ((pt * pe.toInt64) / 100)) hdp hn hY_121 hf hc hlv ht0) (cwV 2 hts gX2_oddsOf_X2_oddsOf rfl rfl rfl (by decide +kernel) (rmv (Nat.le_of_ble_eq_true rfl) (Nat.le_of_ble_eq_true rfl) hRf hRl)) hK trivial hw rfl rfl rfl hl rfl (Nat.le_of_ble_eq_true rfl) ⟨Nat.zero_le _, Nat.zero_le _⟩ dX2_oddsOf_134 (fun r_134 u_134 H locs hpq hw => ?_)
      obtain ⟨bh2_134, mi2_134, fb2_134, ba2_134, gn2_134, go2_134, gk2_134, gi2_134, gb2_134⟩ := u_134
      have hw : gW D A js.heap ((sG c4 sa (tr 0) lc lS (nI dp) t f x c th pe cd dc wc lv) :: (tG c4 tr bh2_134 mi2_134 fb2_134 ba2_134) :: (yG c4 (la 2) (nI n) os2_121 kd2_121 ic2_121 br2_121) :: (yG c4 (la 3) (gn2_134 3) (go2_134 3) (gk2_134 3) (gi2_134 3) (gb2_134 3)) :: (yG c4 (la 4) (gn2_134 4) (go2_134 4) (gk2_134 4) (gi2_134 4) (gb2_134 4)) :: (yG c4 (la 5) (gn2_134 5) (go2_134 5) (gk2_134 5) (gi2_134 5) (gb2_134 5)) :: (yG c4 (la 6) (gn2_134 6) (go2_134 6) (gk2_134 6) (gi2_134 6) (gb2_134 6)) :: (yG c4 (la 7) (gn2_134 7) (go2_134 7) (gk2_134 7) (gi2_134 7) (gb2_134 7)) :: (yG c4 (la 8) (gn2_134 8) (go2_134 8) (gk2_134 8) (gi2_134 8) (gb2_134 8)) :: (yG c4 (la 1) (nI n) os kd ic br) :: Ts) H locs := hw
      have er_134 := hpq
      have er_134 : r_134 = (oddP n f x t c th pe (dp - 2) (fun y => nightQ c (q y)) (pt - ((pt * pe.toInt64) / 100))) := er_134
      subst er_134
      refine lv_ladd hx hb dX2_oddsOf_137 ?_
      have hw := hw.m8
      have hw := hw.m8
      have hw := hw.m8
      have hw := hw.m8
      have hw := hw.m8
      have hw := hw.m8
      have hw := hw.m8
      have hw := hw.m9
      have hw := hw.m9
      have hw := hw.m9
      exact kr ((oddP n f x t c th pe (dp - 2) (fun y => thawQ th (q y)) ((pt * pe.toInt64) / 100)) + (oddP n f x t c th pe (dp - 2) (fun y => nightQ c (q y)) (pt - ((pt * pe.toInt64) / 100)))) (bh2_134, mi2_134, fb2_134, ba2_134, upd gn2_134 2 (nI n), upd go2_134 2 os2_121, va_up gk2_134 2 kd2_121, va_up gi2_134 2 ic2_121, va_up gb2_134 2 br2_121) _ _ _ _ hw (od_node (d := 1) c_13 (fun z => c_3 ((lg_zero pt).mpr z))) dX2_oddsOf_138
    · refine lv_aload_n hx hb dX2_oddsOf_16 rfl (lv_at hl 0 rfl) ?_
      refine r_get (T := TX2) (v := .ref (tr 0)) hx hb hts hi2 hown hK hw 0 rfl rfl 2 (by decide) f_6 rfl dX2_oddsOf_17 ?_
      refine lv_aload_n hx hb dX2_oddsOf_20 rfl (lv_at hl 0 rfl) ?_
      refine r_get (T := TX2) (v := .ref (sa 1)) hx hb hts hi2 hown hK hw 0 rfl rfl 3 (by decide) f_1 rfl dX2_oddsOf_21 ?_
      refine lv_iload_n hx hb dX2_oddsOf_24 rfl (lv_at hl 1 rfl) ?_
      refine r_aald hx hb hK hw 1 3 rfl rfl 1 (by decide) (by decide) (b := ((la 1) 0)) (hlv 1 (by decide)) dX2_oddsOf_25 ?_
      refine lv_aload_n hx hb dX2_oddsOf_26 rfl (lv_at hl 0 rfl) ?_
      refine r_get (T := TX2) (v := .int f) hx hb hts hi2 hown hK hw 0 rfl rfl 6 (by decide) f_7 rfl dX2_oddsOf_27 ?_
      refine lv_aload_n hx hb dX2_oddsOf_30 rfl (lv_at hl 0 rfl) ?_
      refine r_get (T := TX2) (v := .int x) hx hb hts hi2 hown hK hw 0 rfl rfl 7 (by decide) f_8 rfl dX2_oddsOf_31 ?_
      refine lv_aload_n hx hb dX2_oddsOf_34 rfl (lv_at hl 0 rfl) ?_
      refine r_get (T := TX2) (v := .int t) hx hb hts hi2 hown hK hw 0 rfl rfl 5 (by decide) f_9 rfl dX2_oddsOf_35 ?_
      have hw := hw.m2
      have hw := hw.m2
      refine c_vi (As := [.ref ((la 1) 0), .int f, .int x, .int t]) (rest := []) ⟨hx, hb, hml, hown, hts⟩ (k_X4_passes l D c4 A ((sG c4 sa (tr 0) lc lS (nI dp) t f x c th pe cd dc wc lv) :: (yG c4 (la 2) (gn 2) (go 2) (gk 2) (gi 2) (gb 2)) :: (yG c4 (la 3) (gn 3) (go 3) (gk 3) (gi 3) (gb 3)) :: (yG c4 (la 4) (gn 4) (go 4) (gk 4) (gi 4) (gb 4)) :: (yG c4 (la 5) (gn 5) (go 5) (gk 5) (gi 5) (gb 5)) :: (yG c4 (la 6) (gn 6) (go 6) (gk 6) (gi 6) (gb 6)) :: (yG c4 (la 7) (gn 7) (go 7) (gk 7) (gi 7) (gb 7)) :: (yG c4 (la 8) (gn 8) (go 8) (gk 8) (gi 8) (gb 8)) :: Ts) tr bh mi fb ba (la 1) n os kd ic br q f x t hn hY hf) (cwV 4 hts gX2_oddsOf_X4_passes rfl rfl rfl (by decide +kernel) (rmv (Nat.le_of_ble_eq_true rfl) (Nat.le_of_ble_eq_true rfl) hRf hRl)) hK trivial hw rfl rfl rfl hl rfl (Nat.le_of_ble_eq_true rfl) ⟨Nat.zero_le _, Nat.zero_le _⟩ dX2_oddsOf_38 (fun r_38 u_38 H locs hpq hw => ?_)
      obtain ⟨b2_38, ba2_38⟩ := u_38
      have hw : gW D A js.heap ((tG c4 tr (nI b2_38) (cumQ f x q b2_38) (fbQ q b2_38) ba2_38) :: (yG c4 (la 1) (nI n) os kd ic br) :: (sG c4 sa (tr 0) lc lS (nI dp) t f x c th pe cd dc wc lv) :: (yG c4 (la 2) (gn 2) (go 2) (gk 2) (gi 2) (gb 2)) :: (yG c4 (la 3) (gn 3) (go 3) (gk 3) (gi 3) (gb 3)) :: (yG c4 (la 4) (gn 4) (go 4) (gk 4) (gi 4) (gb 4)) :: (yG c4 (la 5) (gn 5) (go 5) (gk 5) (gi 5) (gb 5)) :: (yG c4 (la 6) (gn 6) (go 6) (gk 6) (gi 6) (gb 6)) :: (yG c4 (la 7) (gn 7) (go 7) (gk 7) (gi 7) (gb 7)) :: (yG c4 (la 8) (gn 8) (go 8) (gk 8) (gi 8) (gb 8)) :: Ts) H locs := hw
      obtain ⟨h0_38, h1_38, hb2_38, hba_38⟩ := hpq
      have h0_38 : r_38 = 0 → ¬ b2_38 = n := h0_38
      have h1_38 : ¬ r_38 = 0 → b2_38 = n := h1_38
      have hb2_38 : b2_38 = bhQ f x t q n := hb2_38
      have hba_38 : ∀ k, k < b2_38 → ba2_38 k = cumQ f x q (k + 1) := hba_38
      have kj_41 : ∀ (w_1 : Int64) (ls : Array Slot), w_1 = (if r_38 = 0 then 0 else pt) → lv_has ls 9 [(0, .ref (sa 0)), (1, .int 1), (2, .long pt)] → W jp l je R js jm args below meth jc H locs 0 0 Q (F0 jm 49 ls [.long w_1]) := by
        intro w_1 ls e_w_1 hl
        subst e_w_1
        have hw := hw.m9
        have hw := hw.m9
        have hw := hw.m9
        have hw := hw.m9
        have hw := hw.m9
        have hw := hw.m9
        have hw := hw.m9
        have hw := hw.m8
        have hw := hw.m8
        have hw := hw.m9
        exact kr (if r_38 = 0 then 0 else pt) ((nI b2_38), (cumQ f x q b2_38), (fbQ q b2_38), ba2_38, gn, go, gk, gi, gb) _ _ _ _ hw (od_leaf (d := 1) c_13 (fun z => c_3 ((lg_zero pt).mpr z)) hb2_38 h0_38 h1_38) dX2_oddsOf_49
      refine lv_if_eq (tgt := 48) hx hb dX2_oddsOf_41 (by decide) (fun c_41 => ?_) (fun c_41 => ?_)
      · refine lv_lconst (v := 0) hx hb dX2_oddsOf_48 (by decide) ?_
        exact kj_41 _ ls (by first | rfl | (rw [if_pos c_41]; done) | (simp only [if_pos c_41]; done) | simp [c_41]) (lv_sub hl [0, 1, 2] rfl)
      · refine lv_lload_n hx hb dX2_oddsOf_44 rfl (lv_at hl 2 rfl) ?_
        refine lv_goto (tgt := 49) hx hb dX2_oddsOf_45 (by decide) ?_
        exact kj_41 _ ls (by first | rfl | (rw [if_neg c_41]; done) | (simp only [if_neg c_41]; done) | simp [c_41]) (lv_sub hl [0, 1, 2] rfl)
  · refine lv_lconst (v := 0) hx hb dX2_oddsOf_6 (by decide) ?_
    exact kr 0 (bh, mi, fb, ba, gn, go, gk, gi, gb) _ _ _ _ hw (od_0 ((lg_zero pt).mp c_3)) dX2_oddsOf_7
set_option maxHeartbeats 4000000 in
set_option maxRecDepth 100000 in
theorem k_X2_oddsOf_0 (l : Launch) (D : va_G) (c4 : Nat → ClassId) (A : Nat → Prop) (Ts : List va_W) (sa : Nat → Nat) (tr : Nat → Nat) (la : Nat → Nat → Nat) (lc : Int32) (lS : Int32) (t : Int32) (f : Int32) (x : Int32) (c : Int32) (th : Int32) (pe : Int32) (cd : Int32) (dc : Int32) (wc : Int32) (dp : Nat) (lv : Nat → Option Nat) (bh : Int32) (mi : Int32) (fb : Int32) (ba : Nat → Int32) (n : Nat) (os : Int32) (kd : Nat → Int32) (ic : Nat → Int32) (br : Nat → Int32) (q : Nat → Yq) (gn : Nat → Int32) (go : Nat → Int32) (gk : Nat → Nat → Int32) (gi : Nat → Nat → Int32) (gb : Nat → Nat → Int32) (pt : Int64) (hdp : dp ≤ 8) (hn : n ≤ 12) (hY : yR q n os kd ic br) (hf : fOk f x) (hc : 0 ≤ c.toInt ∧ c.toInt ≤ 30) (hlv : ∀ k, k < 9 → lv k = some (la k 0)) (ht0 : 0 ≤ th.toInt ∧ th.toInt ≤ 60) : Cl l yX2_oddsOf wsX2_oddsOf 11 298 [.ref (sa 0), .int 0, .long pt] D (tyA c4) A none ((sG c4 sa (tr 0) lc lS (nI dp) t f x c th pe cd dc wc lv) :: (tG c4 tr bh mi fb ba) :: (yG c4 (la 0) (nI n) os kd ic br) :: (yG c4 (la 1) (gn 1) (go 1) (gk 1) (gi 1) (gb 1)) :: (yG c4 (la 2) (gn 2) (go 2) (gk 2) (gi 2) (gb 2)) :: (yG c4 (la 3) (gn 3) (go 3) (gk 3) (gi 3) (gb 3)) :: (yG c4 (la 4) (gn 4) (go 4) (gk 4) (gi 4) (gb 4)) :: (yG c4 (la 5) (gn 5) (go 5) (gk 5) (gi 5) (gb 5)) :: (yG c4 (la 6) (gn 6) (go 6) (gk 6) (gi 6) (gb 6)) :: (yG c4 (la 7) (gn 7) (go 7) (gk 7) (gi 7) (gb 7)) :: (yG c4 (la 8) (gn 8) (go 8) (gk 8) (gi 8) (gb 8)) :: Ts) (S := Int32 × Int32 × Int32 × (Nat → Int32) × (Nat → Int32) × (Nat → Int32) × (Nat → Nat → Int32) × (Nat → Nat → Int32) × (Nat → Nat → Int32)) (fun (r : Int64) (u : Int32 × Int32 × Int32 × (Nat → Int32) × (Nat → Int32) × (Nat → Int32) × (Nat → Nat → Int32) × (Nat → Nat → Int32) × (Nat → Nat → Int32)) => r = (oddP n f x t c th pe (dp - 0) q pt)) (fun u => ((sG c4 sa (tr 0) lc lS (nI dp) t f x c th pe cd dc wc lv) :: (tG c4 tr u.1 u.2.1 u.2.2.1 u.2.2.2.1) :: (yG c4 (la 0) (nI n) os kd ic br) :: (yG c4 (la 1) (u.2.2.2.2.1 1) (u.2.2.2.2.2.1 1) (u.2.2.2.2.2.2.1 1) (u.2.2.2.2.2.2.2.1 1) (u.2.2.2.2.2.2.2.2 1)) :: (yG c4 (la 2) (u.2.2.2.2.1 2) (u.2.2.2.2.2.1 2) (u.2.2.2.2.2.2.1 2) (u.2.2.2.2.2.2.2.1 2) (u.2.2.2.2.2.2.2.2 2)) :: (yG c4 (la 3) (u.2.2.2.2.1 3) (u.2.2.2.2.2.1 3) (u.2.2.2.2.2.2.1 3) (u.2.2.2.2.2.2.2.1 3) (u.2.2.2.2.2.2.2.2 3)) :: (yG c4 (la 4) (u.2.2.2.2.1 4) (u.2.2.2.2.2.1 4) (u.2.2.2.2.2.2.1 4) (u.2.2.2.2.2.2.2.1 4) (u.2.2.2.2.2.2.2.2 4)) :: (yG c4 (la 5) (u.2.2.2.2.1 5) (u.2.2.2.2.2.1 5) (u.2.2.2.2.2.2.1 5) (u.2.2.2.2.2.2.2.1 5) (u.2.2.2.2.2.2.2.2 5)) :: (yG c4 (la 6) (u.2.2.2.2.1 6) (u.2.2.2.2.2.1 6) (u.2.2.2.2.2.2.1 6) (u.2.2.2.2.2.2.2.1 6) (u.2.2.2.2.2.2.2.2 6)) :: (yG c4 (la 7) (u.2.2.2.2.1 7) (u.2.2.2.2.2.1 7) (u.2.2.2.2.2.2.1 7) (u.2.2.2.2.2.2.2.1 7) (u.2.2.2.2.2.2.2.2 7)) :: (yG c4 (la 8) (u.2.2.2.2.1 8) (u.2.2.2.2.2.1 8) (u.2.2.2.2.2.2.1 8) (u.2.2.2.2.2.2.2.1 8) (u.2.2.2.2.2.2.2.2 8)) :: Ts)) := by
  refine cOl (cc := cX2_oddsOf) (maxL := 9) (by decide) rfl (Nat.le_of_ble_eq_true rfl) rfl ?_
  rintro jp je js jm below meth jc ls args R Q H locs hRf hRl ⟨hx, hb, hml, hr, hts, hown, hlocks, hK, hX⟩ hw hl kr
  have hown : js.vm.findClass RX2 = some jm.cls := hown
  have f_0 := hts (.fieldLink RX2 41 "IceSway$Search" "depth" "I") (by decide +kernel)
  have f_1 := hts (.fieldLink RX2 20 "IceSway$Search" "levels" "[LIceSway$Yards;") (by decide +kernel)
  have f_2 := hts (.fieldLink RX2 120 "IceSway$Search" "percent" "I") (by decide +kernel)
  have f_3 := hts (.constantLong RX2 129 (100)) (by decide +kernel)
  have f_4 := hts (.fieldLink RX2 117 "IceSway$Search" "thaw" "I") (by decide +kernel)
  have f_5 := hts (.fieldLink RX2 67 "IceSway$Search" "cold" "I") (by decide +kernel)
  have f_6 := hts (.fieldLink RX2 12 "IceSway$Search" "trip" "LIceSway$Trip;") (by decide +kernel)
  have f_7 := hts (.fieldLink RX2 57 "IceSway$Search" "force" "I") (by decide +kernel)
  have f_8 := hts (.fieldLink RX2 64 "IceSway$Search" "axe" "I") (by decide +kernel)
  have f_9 := hts (.fieldLink RX2 45 "IceSway$Search" "minutes" "I") (by decide +kernel)
  have hi2 : ∀ w ∈ u_ws RX2 TX2 14, w ∈ wsX2_oddsOf := fun w h => List.mem_cons_of_mem _ (List.mem_append_left _ (List.mem_append_left _ (List.mem_append_right _ h)))
  refine lv_lload_n hx hb dX2_oddsOf_0 rfl (lv_at hl 2 rfl) ?_
  refine lv_lconst (v := 0) hx hb dX2_oddsOf_1 (by decide) ?_
  refine W.lcmp hx hb dX2_oddsOf_2 ?_
  refine lv_if_ne (tgt := 8) hx hb dX2_oddsOf_3 (by decide) (fun c_3 => ?_) (fun c_3 => ?_)
  · refine lv_iload_n hx hb dX2_oddsOf_8 rfl (lv_at hl 1 rfl) ?_
    refine lv_aload_n hx hb dX2_oddsOf_9 rfl (lv_at hl 0 rfl) ?_
    refine r_get (T := TX2) (v := .int (nI dp)) hx hb hts hi2 hown hK hw 0 rfl rfl 4 (by decide) f_0 rfl dX2_oddsOf_10 ?_
    refine r_clt hx hb 0 dp (by omega) (by omega) (tgt := 50) dX2_oddsOf_13 (by decide) (fun c_13 => ?_) (fun c_13 => ?_)
    · refine lv_aload_n hx hb dX2_oddsOf_50 rfl (lv_at hl 0 rfl) ?_
      refine r_get (T := TX2) (v := .ref (sa 1)) hx hb hts hi2 hown hK hw 0 rfl rfl 3 (by decide) f_1 rfl dX2_oddsOf_51 ?_
      refine lv_iload_n hx hb dX2_oddsOf_54 rfl (lv_at hl 1 rfl) ?_
      refine lv_iconst (v := 1) hx hb dX2_oddsOf_55 (by decide) ?_
      refine r_addN hx hb 0 1 dX2_oddsOf_56 ?_
      refine r_aald hx hb hK hw 1 3 rfl rfl 1 (by decide) (by decide) (b := ((la 1) 0)) (hlv 1 (by decide)) dX2_oddsOf_57 ?_
      refine lv_astore (lv' := [(4, .ref ((la 1) 0)), (0, .ref (sa 0)), (1, .int 0), (2, .long pt)]) hx hb dX2_oddsOf_58 hl (by decide) rfl (fun ls hl => ?_)
      refine lv_lload_n hx hb dX2_oddsOf_60 rfl (lv_at hl 3 rfl) ?_
      refine lv_aload_n hx hb dX2_oddsOf_61 rfl (lv_at hl 1 rfl) ?_
      refine r_get (T := TX2) (v := .int pe) hx hb hts hi2 hown hK hw 0 rfl rfl 10 (by decide) f_2 rfl dX2_oddsOf_62 ?_
      refine lv_i2l hx hb dX2_oddsOf_65 rfl ?_
      refine lv_lmul hx hb dX2_oddsOf_66 ?_
      refine lv_ldc2 hx hb hown f_3 dX2_oddsOf_67 ?_
      refine lv_ldiv hx hb dX2_oddsOf_70 (by decide) ?_
      refine lv_lstore (lv' := [(5, .long ((pt * pe.toInt64) / 100)), (4, .ref ((la 1) 0)), (0, .ref (sa 0)), (1, .int 0), (2, .long pt)]) hx hb dX2_oddsOf_71 hl (by decide) rfl (fun ls hl => ?_)
      refine lv_aload hx hb dX2_oddsOf_73 (lv_at hl 1 rfl) ?_
      refine lv_aload_n hx hb dX2_oddsOf_75 rfl (lv_at hl 2 rfl) ?_
      refine r_get (T := TX2) (v := .ref (sa 1)) hx hb hts hi2 hown hK hw 0 rfl rfl 3 (by decide) f_1 rfl dX2_oddsOf_76 ?_
      refine lv_iload_n hx hb dX2_oddsOf_79 rfl (lv_at hl 3 rfl) ?_
      refine r_aald hx hb hK hw 1 3 rfl rfl 0 (by decide) (by decide) (b := ((la 0) 0)) (hlv 0 (by decide)) dX2_oddsOf_80 ?_
      have hw := hw.m2
      have hw := hw.m3
      refine c_vv (As := [.ref ((la 0) 0)]) (rest := []) ⟨hx, hb, hml, hown, hts⟩ (k_X6_copyFrom l D c4 A ((sG c4 sa (tr 0) lc lS (nI dp) t f x c th pe cd dc wc lv) :: (tG c4 tr bh mi fb ba) :: (yG c4 (la 2) (gn 2) (go 2) (gk 2) (gi 2) (gb 2)) :: (yG c4 (la 3) (gn 3) (go 3) (gk 3) (gi 3) (gb 3)) :: (yG c4 (la 4) (gn 4) (go 4) (gk 4) (gi 4) (gb 4)) :: (yG c4 (la 5) (gn 5) (go 5) (gk 5) (gi 5) (gb 5)) :: (yG c4 (la 6) (gn 6) (go 6) (gk 6) (gi 6) (gb 6)) :: (yG c4 (la 7) (gn 7) (go 7) (gk 7) (gi 7) (gb 7)) :: (yG c4 (la 8) (gn 8) (go 8) (gk 8) (gi 8) (gb 8)) :: Ts) (la 1) (gn 1) (go 1) (gk 1) (gi 1) (gb 1) (la 0) n os kd ic br q hn hY) (cwV 1 hts gX2_oddsOf_X6_copyFrom rfl rfl rfl (by decide +kernel) (rmv (Nat.le_of_ble_eq_true rfl) (Nat.le_of_ble_eq_true rfl) hRf hRl)) hK trivial hw rfl rfl rfl hl rfl (Nat.le_of_ble_eq_true rfl) ⟨Nat.zero_le _, Nat.zero_le _⟩ dX2_oddsOf_81 (fun u_81 H locs hpq hw => ?_)
      obtain ⟨kd2_81, ic2_81, br2_81⟩ := u_81
      have hw : gW D A js.heap ((yG c4 (la 1) (nI n) os kd2_81 ic2_81 br2_81) :: (yG c4 (la 0) (nI n) os kd ic br) :: (sG c4 sa (tr 0) lc lS (nI dp) t f x c th pe cd dc wc lv) :: (tG c4 tr bh mi fb ba) :: (yG c4 (la 2) (gn 2) (go 2) (gk 2) (gi 2) (gb 2)) :: (yG c4 (la 3) (gn 3) (go 3) (gk 3) (gi 3) (gb 3)) :: (yG c4 (la 4) (gn 4) (go 4) (gk 4) (gi 4) (gb 4)) :: (yG c4 (la 5) (gn 5) (go 5) (gk 5) (gi 5) (gb 5)) :: (yG c4 (la 6) (gn 6) (go 6) (gk 6) (gi 6) (gb 6)) :: (yG c4 (la 7) (gn 7) (go 7) (gk 7) (gi 7) (gb 7)) :: (yG c4 (la 8) (gn 8) (go 8) (gk 8) (gi 8) (gb 8)) :: Ts) H locs := hw
      have hY_81 := hpq
      have hY_81 : yR q n os kd2_81 ic2_81 br2_81 := hY_81
      refine lv_aload hx hb dX2_oddsOf_84 (lv_at hl 1 rfl) ?_
      refine lv_aload_n hx hb dX2_oddsOf_86 rfl (lv_at hl 2 rfl) ?_
      refine r_get (T := TX2) (v := .int th) hx hb hts hi2 hown hK hw 8 rfl rfl 9 (by decide) f_4 rfl dX2_oddsOf_87 ?_
      refine c_vv (As := [.int th]) (rest := []) ⟨hx, hb, hml, hown, hts⟩ (k_X6_melt l D c4 A ((yG c4 (la 0) (nI n) os kd ic br) :: (sG c4 sa (tr 0) lc lS (nI dp) t f x c th pe cd dc wc lv) :: (tG c4 tr bh mi fb ba) :: (yG c4 (la 2) (gn 2) (go 2) (gk 2) (gi 2) (gb 2)) :: (yG c4 (la 3) (gn 3) (go 3) (gk 3) (gi 3) (gb 3)) :: (yG c4 (la 4) (gn 4) (go 4) (gk 4) (gi 4) (gb 4)) :: (yG c4 (la 5) (gn 5) (go 5) (gk 5) (gi 5) (gb 5)) :: (yG c4 (la 6) (gn 6) (go 6) (gk 6) (gi 6) (gb 6)) :: (yG c4 (la 7) (gn 7) (go 7) (gk 7) (gi 7) (gb 7)) :: (yG c4 (la 8) (gn 8) (go 8) (gk 8) (gi 8) (gb 8)) :: Ts) (la 1) n os kd2_81 ic2_81 br2_81 q th hn hY_81 ht0) (cwV 1 hts gX2_oddsOf_X6_melt rfl rfl rfl (by decide +kernel) (rmv (Nat.le_of_ble_eq_true rfl) (Nat.le_of_ble_eq_true rfl) hRf hRl)) hK trivial hw rfl rfl rfl hl rfl (Nat.le_of_ble_eq_true rfl) ⟨Nat.zero_le _, Nat.zero_le _⟩ dX2_oddsOf_90 (fun u_90 H locs hpq hw => ?_)
      obtain ⟨os2_90, kd2_90, ic2_90, br2_90⟩ := u_90
      have hw : gW D A js.heap ((yG c4 (la 1) (nI n) os2_90 kd2_90 ic2_90 br2_90) :: (yG c4 (la 0) (nI n) os kd ic br) :: (sG c4 sa (tr 0) lc lS (nI dp) t f x c th pe cd dc wc lv) :: (tG c4 tr bh mi fb ba) :: (yG c4 (la 2) (gn 2) (go 2) (gk 2) (gi 2) (gb 2)) :: (yG c4 (la 3) (gn 3) (go 3) (gk 3) (gi 3) (gb 3)) :: (yG c4 (la 4) (gn 4) (go 4) (gk 4) (gi 4) (gb 4)) :: (yG c4 (la 5) (gn 5) (go 5) (gk 5) (gi 5) (gb 5)) :: (yG c4 (la 6) (gn 6) (go 6) (gk 6) (gi 6) (gb 6)) :: (yG c4 (la 7) (gn 7) (go 7) (gk 7) (gi 7) (gb 7)) :: (yG c4 (la 8) (gn 8) (go 8) (gk 8) (gi 8) (gb 8)) :: Ts) H locs := hw
      have hY_90 := hpq
      have hY_90 : yR (fun y => thawQ th (q y)) n os2_90 kd2_90 ic2_90 br2_90 := hY_90
      refine lv_aload_n hx hb dX2_oddsOf_93 rfl (lv_at hl 2 rfl) ?_
      refine lv_iload_n hx hb dX2_oddsOf_94 rfl (lv_at hl 3 rfl) ?_
      refine lv_iconst (v := 1) hx hb dX2_oddsOf_95 (by decide) ?_
      refine r_addN hx hb 0 1 dX2_oddsOf_96 ?_
      refine lv_lload hx hb dX2_oddsOf_97 (lv_at hl 0 rfl) ?_
      have hw := hw.m10
      have hw := hw.m10
      have hw := hw.m10
      have hw := hw.m10
      have hw := hw.m10
      have hw := hw.m10
      have hw := hw.m10
      have hw := hw.m7
      have hw := hw.m10
      have hw := hw.m10
      refine c_vl (As := [.int 1, .long ((pt * pe.toInt64) / 100)]) (rest := []) ⟨hx, hb, hml, hown, hts⟩ (k_X2_oddsOf_1 l D c4 A ((yG c4 (la 0) (nI n) os kd ic br) :: Ts) sa tr la lc lS t f x c th pe cd dc wc dp lv bh mi fb ba n os2_90 kd2_90 ic2_90 br2_90 (fun y => thawQ th (q y)) gn go gk gi gb ((pt * pe.toInt64) / 100) hdp hn hY_90 hf hc hlv ht0) (cwV 2 hts gX2_oddsOf_X2_oddsOf rfl rfl rfl (by decide +kernel) (rmv (Nat.le_of_ble_eq_true rfl) (Nat.le_of_ble_eq_true rfl) hRf hRl)) hK trivial hw rfl rfl rfl hl rfl (Nat.le_of_ble_eq_true rfl) ⟨Nat.zero_le _, Nat.zero_le _⟩ dX2_oddsOf_99 (fun r_99 u_99 H locs hpq hw => ?_)
      obtain ⟨bh2_99, mi2_99, fb2_99, ba2_99, gn2_99, go2_99, gk2_99, gi2_99, gb2_99⟩ := u_99
      have hw : gW D A js.heap ((sG c4 sa (tr 0) lc lS (nI dp) t f x c th pe cd dc wc lv) :: (tG c4 tr bh2_99 mi2_99 fb2_99 ba2_99) :: (yG c4 (la 1) (nI n) os2_90 kd2_90 ic2_90 br2_90) :: (yG c4 (la 2) (gn2_99 2) (go2_99 2) (gk2_99 2) (gi2_99 2) (gb2_99 2)) :: (yG c4 (la 3) (gn2_99 3) (go2_99 3) (gk2_99 3) (gi2_99 3) (gb2_99 3)) :: (yG c4 (la 4) (gn2_99 4) (go2_99 4) (gk2_99 4) (gi2_99 4) (gb2_99 4)) :: (yG c4 (la 5) (gn2_99 5) (go2_99 5) (gk2_99 5) (gi2_99 5) (gb2_99 5)) :: (yG c4 (la 6) (gn2_99 6) (go2_99 6) (gk2_99 6) (gi2_99 6) (gb2_99 6)) :: (yG c4 (la 7) (gn2_99 7) (go2_99 7) (gk2_99 7) (gi2_99 7) (gb2_99 7)) :: (yG c4 (la 8) (gn2_99 8) (go2_99 8) (gk2_99 8) (gi2_99 8) (gb2_99 8)) :: (yG c4 (la 0) (nI n) os kd ic br) :: Ts) H locs := hw
      have er_99 := hpq
      have er_99 : r_99 = (oddP n f x t c th pe (dp - 1) (fun y => thawQ th (q y)) ((pt * pe.toInt64) / 100)) := er_99
      subst er_99
      refine lv_lstore (lv' := [(7, .long (oddP n f x t c th pe (dp - 1) (fun y => thawQ th (q y)) ((pt * pe.toInt64) / 100))), (5, .long ((pt * pe.toInt64) / 100)), (4, .ref ((la 1) 0)), (0, .ref (sa 0)), (1, .int 0), (2, .long pt)]) hx hb dX2_oddsOf_102 hl (by decide) rfl (fun ls hl => ?_)
      refine lv_aload hx hb dX2_oddsOf_104 (lv_at hl 2 rfl) ?_
      refine lv_aload_n hx hb dX2_oddsOf_106 rfl (lv_at hl 3 rfl) ?_
      refine r_get (T := TX2) (v := .ref (sa 1)) hx hb hts hi2 hown hK hw 0 rfl rfl 3 (by decide) f_1 rfl dX2_oddsOf_107 ?_
      refine lv_iload_n hx hb dX2_oddsOf_110 rfl (lv_at hl 4 rfl) ?_
      refine r_aald hx hb hK hw 1 3 rfl rfl 0 (by decide) (by decide) (b := ((la 0) 0)) (hlv 0 (by decide)) dX2_oddsOf_111 ?_
      have hw := hw.m10
      have hw := hw.m3
      refine c_vv (As := [.ref ((la 0) 0)]) (rest := []) ⟨hx, hb, hml, hown, hts⟩ (k_X6_copyFrom l D c4 A ((sG c4 sa (tr 0) lc lS (nI dp) t f x c th pe cd dc wc lv) :: (tG c4 tr bh2_99 mi2_99 fb2_99 ba2_99) :: (yG c4 (la 2) (gn2_99 2) (go2_99 2) (gk2_99 2) (gi2_99 2) (gb2_99 2)) :: (yG c4 (la 3) (gn2_99 3) (go2_99 3) (gk2_99 3) (gi2_99 3) (gb2_99 3)) :: (yG c4 (la 4) (gn2_99 4) (go2_99 4) (gk2_99 4) (gi2_99 4) (gb2_99 4)) :: (yG c4 (la 5) (gn2_99 5) (go2_99 5) (gk2_99 5) (gi2_99 5) (gb2_99 5)) :: (yG c4 (la 6) (gn2_99 6) (go2_99 6) (gk2_99 6) (gi2_99 6) (gb2_99 6)) :: (yG c4 (la 7) (gn2_99 7) (go2_99 7) (gk2_99 7) (gi2_99 7) (gb2_99 7)) :: (yG c4 (la 8) (gn2_99 8) (go2_99 8) (gk2_99 8) (gi2_99 8) (gb2_99 8)) :: Ts) (la 1) (nI n) os2_90 kd2_90 ic2_90 br2_90 (la 0) n os kd ic br q hn hY) (cwV 1 hts gX2_oddsOf_X6_copyFrom rfl rfl rfl (by decide +kernel) (rmv (Nat.le_of_ble_eq_true rfl) (Nat.le_of_ble_eq_true rfl) hRf hRl)) hK trivial hw rfl rfl rfl hl rfl (Nat.le_of_ble_eq_true rfl) ⟨Nat.zero_le _, Nat.zero_le _⟩ dX2_oddsOf_112 (fun u_112 H locs hpq hw => ?_)
      obtain ⟨kd2_112, ic2_112, br2_112⟩ := u_112
      have hw : gW D A js.heap ((yG c4 (la 1) (nI n) os kd2_112 ic2_112 br2_112) :: (yG c4 (la 0) (nI n) os kd ic br) :: (sG c4 sa (tr 0) lc lS (nI dp) t f x c th pe cd dc wc lv) :: (tG c4 tr bh2_99 mi2_99 fb2_99 ba2_99) :: (yG c4 (la 2) (gn2_99 2) (go2_99 2) (gk2_99 2) (gi2_99 2) (gb2_99 2)) :: (yG c4 (la 3) (gn2_99 3) (go2_99 3) (gk2_99 3) (gi2_99 3) (gb2_99 3)) :: (yG c4 (la 4) (gn2_99 4) (go2_99 4) (gk2_99 4) (gi2_99 4) (gb2_99 4)) :: (yG c4 (la 5) (gn2_99 5) (go2_99 5) (gk2_99 5) (gi2_99 5) (gb2_99 5)) :: (yG c4 (la 6) (gn2_99 6) (go2_99 6) (gk2_99 6) (gi2_99 6) (gb2_99 6)) :: (yG c4 (la 7) (gn2_99 7) (go2_99 7) (gk2_99 7) (gi2_99 7) (gb2_99 7)) :: (yG c4 (la 8) (gn2_99 8) (go2_99 8) (gk2_99 8) (gi2_99 8) (gb2_99 8)) :: Ts) H locs := hw
      have hY_112 := hpq
      have hY_112 : yR q n os kd2_112 ic2_112 br2_112 := hY_112
      refine lv_aload hx hb dX2_oddsOf_115 (lv_at hl 2 rfl) ?_
      refine lv_aload_n hx hb dX2_oddsOf_117 rfl (lv_at hl 3 rfl) ?_
      refine r_get (T := TX2) (v := .int c) hx hb hts hi2 hown hK hw 8 rfl rfl 8 (by decide) f_5 rfl dX2_oddsOf_118 ?_
      refine c_vv (As := [.int c]) (rest := []) ⟨hx, hb, hml, hown, hts⟩ (k_X6_freeze l D c4 A ((yG c4 (la 0) (nI n) os kd ic br) :: (sG c4 sa (tr 0) lc lS (nI dp) t f x c th pe cd dc wc lv) :: (tG c4 tr bh2_99 mi2_99 fb2_99 ba2_99) :: (yG c4 (la 2) (gn2_99 2) (go2_99 2) (gk2_99 2) (gi2_99 2) (gb2_99 2)) :: (yG c4 (la 3) (gn2_99 3) (go2_99 3) (gk2_99 3) (gi2_99 3) (gb2_99 3)) :: (yG c4 (la 4) (gn2_99 4) (go2_99 4) (gk2_99 4) (gi2_99 4) (gb2_99 4)) :: (yG c4 (la 5) (gn2_99 5) (go2_99 5) (gk2_99 5) (gi2_99 5) (gb2_99 5)) :: (yG c4 (la 6) (gn2_99 6) (go2_99 6) (gk2_99 6) (gi2_99 6) (gb2_99 6)) :: (yG c4 (la 7) (gn2_99 7) (go2_99 7) (gk2_99 7) (gi2_99 7) (gb2_99 7)) :: (yG c4 (la 8) (gn2_99 8) (go2_99 8) (gk2_99 8) (gi2_99 8) (gb2_99 8)) :: Ts) (la 1) n os kd2_112 ic2_112 br2_112 q c hn hY_112 hc) (cwV 1 hts gX2_oddsOf_X6_freeze rfl rfl rfl (by decide +kernel) (rmv (Nat.le_of_ble_eq_true rfl) (Nat.le_of_ble_eq_true rfl) hRf hRl)) hK trivial hw rfl rfl rfl hl rfl (Nat.le_of_ble_eq_true rfl) ⟨Nat.zero_le _, Nat.zero_le _⟩ dX2_oddsOf_121 (fun u_121 H locs hpq hw => ?_)
      obtain ⟨os2_121, kd2_121, ic2_121, br2_121⟩ := u_121
      have hw : gW D A js.heap ((yG c4 (la 1) (nI n) os2_121 kd2_121 ic2_121 br2_121) :: (yG c4 (la 0) (nI n) os kd ic br) :: (sG c4 sa (tr 0) lc lS (nI dp) t f x c th pe cd dc wc lv) :: (tG c4 tr bh2_99 mi2_99 fb2_99 ba2_99) :: (yG c4 (la 2) (gn2_99 2) (go2_99 2) (gk2_99 2) (gi2_99 2) (gb2_99 2)) :: (yG c4 (la 3) (gn2_99 3) (go2_99 3) (gk2_99 3) (gi2_99 3) (gb2_99 3)) :: (yG c4 (la 4) (gn2_99 4) (go2_99 4) (gk2_99 4) (gi2_99 4) (gb2_99 4)) :: (yG c4 (la 5) (gn2_99 5) (go2_99 5) (gk2_99 5) (gi2_99 5) (gb2_99 5)) :: (yG c4 (la 6) (gn2_99 6) (go2_99 6) (gk2_99 6) (gi2_99 6) (gb2_99 6)) :: (yG c4 (la 7) (gn2_99 7) (go2_99 7) (gk2_99 7) (gi2_99 7) (gb2_99 7)) :: (yG c4 (la 8) (gn2_99 8) (go2_99 8) (gk2_99 8) (gi2_99 8) (gb2_99 8)) :: Ts) H locs := hw
      have hY_121 := hpq
      have hY_121 : yR (fun y => nightQ c (q y)) n os2_121 kd2_121 ic2_121 br2_121 := hY_121
      refine lv_lload hx hb dX2_oddsOf_124 (lv_at hl 0 rfl) ?_
      refine lv_aload_n hx hb dX2_oddsOf_126 rfl (lv_at hl 3 rfl) ?_
      refine lv_iload_n hx hb dX2_oddsOf_127 rfl (lv_at hl 4 rfl) ?_
      refine lv_iconst (v := 1) hx hb dX2_oddsOf_128 (by decide) ?_
      refine r_addN hx hb 0 1 dX2_oddsOf_129 ?_
      refine lv_lload_n hx hb dX2_oddsOf_130 rfl (lv_at hl 5 rfl) ?_
      refine lv_lload hx hb dX2_oddsOf_131 (lv_at hl 1 rfl) ?_
      refine lv_lsub hx hb dX2_oddsOf_133 ?_
      have hw := hw.m10
      have hw := hw.m10
      have hw := hw.m10
      have hw := hw.m10
      have hw := hw.m10
      have hw := hw.m10
      have hw := hw.m10
      have hw := hw.m7
      have hw := hw.m10
      have hw := hw.m10
      refine c_vl (As := [.int 1, .long (pt - ((pt * pe.toInt64) / 100))]) (rest := [.long (oddP n f x t c th pe (dp - 1) (fun y => thawQ th (q y)) ((pt * pe.toInt64) / 100))]) ⟨hx, hb, hml, hown, hts⟩ (k_X2_oddsOf_1 l D c4 A ((yG c4 (la 0) (nI n) os kd ic br) :: Ts) sa tr la lc lS t f x c th pe cd dc wc dp lv bh2_99 mi2_99 fb2_99 ba2_99 n os2_121 kd2_121 ic2_121 br2_121 (fun y => nightQ c (q y)) gn2_99 go2_99 gk2_99 gi2_99 gb2_99 (pt - ((pt * pe.toInt64) / 100)) hdp hn hY_121 hf hc hlv ht0) (cwV 2 hts gX2_oddsOf_X2_oddsOf rfl rfl rfl (by decide +kernel) (rmv (Nat.le_of_ble_eq_true rfl) (Nat.le_of_ble_eq_true rfl) hRf hRl)) hK trivial hw rfl rfl rfl hl rfl (Nat.le_of_ble_eq_true rfl) ⟨Nat.zero_le _, Nat.zero_le _⟩ dX2_oddsOf_134 (fun r_134 u_134 H locs hpq hw => ?_)
      obtain ⟨bh2_134, mi2_134, fb2_134, ba2_134, gn2_134, go2_134, gk2_134, gi2_134, gb2_134⟩ := u_134
      have hw : gW D A js.heap ((sG c4 sa (tr 0) lc lS (nI dp) t f x c th pe cd dc wc lv) :: (tG c4 tr bh2_134 mi2_134 fb2_134 ba2_134) :: (yG c4 (la 1) (nI n) os2_121 kd2_121 ic2_121 br2_121) :: (yG c4 (la 2) (gn2_134 2) (go2_134 2) (gk2_134 2) (gi2_134 2) (gb2_134 2)) :: (yG c4 (la 3) (gn2_134 3) (go2_134 3) (gk2_134 3) (gi2_134 3) (gb2_134 3)) :: (yG c4 (la 4) (gn2_134 4) (go2_134 4) (gk2_134 4) (gi2_134 4) (gb2_134 4)) :: (yG c4 (la 5) (gn2_134 5) (go2_134 5) (gk2_134 5) (gi2_134 5) (gb2_134 5)) :: (yG c4 (la 6) (gn2_134 6) (go2_134 6) (gk2_134 6) (gi2_134 6) (gb2_134 6)) :: (yG c4 (la 7) (gn2_134 7) (go2_134 7) (gk2_134 7) (gi2_134 7) (gb2_134 7)) :: (yG c4 (la 8) (gn2_134 8) (go2_134 8) (gk2_134 8) (gi2_134 8) (gb2_134 8)) :: (yG c4 (la 0) (nI n) os kd ic br) :: Ts) H locs := hw
      have er_134 := hpq
      have er_134 : r_134 = (oddP n f x t c th pe (dp - 1) (fun y => nightQ c (q y)) (pt - ((pt * pe.toInt64) / 100))) := er_134
      subst er_134
      refine lv_ladd hx hb dX2_oddsOf_137 ?_
      have hw := hw.m9
      have hw := hw.m9
      have hw := hw.m9
      have hw := hw.m9
      have hw := hw.m9
      have hw := hw.m9
      have hw := hw.m9
      have hw := hw.m9
      have hw := hw.m10
      have hw := hw.m10
      have hw := hw.m10
      exact kr ((oddP n f x t c th pe (dp - 1) (fun y => thawQ th (q y)) ((pt * pe.toInt64) / 100)) + (oddP n f x t c th pe (dp - 1) (fun y => nightQ c (q y)) (pt - ((pt * pe.toInt64) / 100)))) (bh2_134, mi2_134, fb2_134, ba2_134, upd gn2_134 1 (nI n), upd go2_134 1 os2_121, va_up gk2_134 1 kd2_121, va_up gi2_134 1 ic2_121, va_up gb2_134 1 br2_121) _ _ _ _ hw (od_node (d := 0) c_13 (fun z => c_3 ((lg_zero pt).mpr z))) dX2_oddsOf_138
    · refine lv_aload_n hx hb dX2_oddsOf_16 rfl (lv_at hl 0 rfl) ?_
      refine r_get (T := TX2) (v := .ref (tr 0)) hx hb hts hi2 hown hK hw 0 rfl rfl 2 (by decide) f_6 rfl dX2_oddsOf_17 ?_
      refine lv_aload_n hx hb dX2_oddsOf_20 rfl (lv_at hl 0 rfl) ?_
      refine r_get (T := TX2) (v := .ref (sa 1)) hx hb hts hi2 hown hK hw 0 rfl rfl 3 (by decide) f_1 rfl dX2_oddsOf_21 ?_
      refine lv_iload_n hx hb dX2_oddsOf_24 rfl (lv_at hl 1 rfl) ?_
      refine r_aald hx hb hK hw 1 3 rfl rfl 0 (by decide) (by decide) (b := ((la 0) 0)) (hlv 0 (by decide)) dX2_oddsOf_25 ?_
      refine lv_aload_n hx hb dX2_oddsOf_26 rfl (lv_at hl 0 rfl) ?_
      refine r_get (T := TX2) (v := .int f) hx hb hts hi2 hown hK hw 0 rfl rfl 6 (by decide) f_7 rfl dX2_oddsOf_27 ?_
      refine lv_aload_n hx hb dX2_oddsOf_30 rfl (lv_at hl 0 rfl) ?_
      refine r_get (T := TX2) (v := .int x) hx hb hts hi2 hown hK hw 0 rfl rfl 7 (by decide) f_8 rfl dX2_oddsOf_31 ?_
      refine lv_aload_n hx hb dX2_oddsOf_34 rfl (lv_at hl 0 rfl) ?_
      refine r_get (T := TX2) (v := .int t) hx hb hts hi2 hown hK hw 0 rfl rfl 5 (by decide) f_9 rfl dX2_oddsOf_35 ?_
      have hw := hw.m2
      have hw := hw.m2
      refine c_vi (As := [.ref ((la 0) 0), .int f, .int x, .int t]) (rest := []) ⟨hx, hb, hml, hown, hts⟩ (k_X4_passes l D c4 A ((sG c4 sa (tr 0) lc lS (nI dp) t f x c th pe cd dc wc lv) :: (yG c4 (la 1) (gn 1) (go 1) (gk 1) (gi 1) (gb 1)) :: (yG c4 (la 2) (gn 2) (go 2) (gk 2) (gi 2) (gb 2)) :: (yG c4 (la 3) (gn 3) (go 3) (gk 3) (gi 3) (gb 3)) :: (yG c4 (la 4) (gn 4) (go 4) (gk 4) (gi 4) (gb 4)) :: (yG c4 (la 5) (gn 5) (go 5) (gk 5) (gi 5) (gb 5)) :: (yG c4 (la 6) (gn 6) (go 6) (gk 6) (gi 6) (gb 6)) :: (yG c4 (la 7) (gn 7) (go 7) (gk 7) (gi 7) (gb 7)) :: (yG c4 (la 8) (gn 8) (go 8) (gk 8) (gi 8) (gb 8)) :: Ts) tr bh mi fb ba (la 0) n os kd ic br q f x t hn hY hf) (cwV 4 hts gX2_oddsOf_X4_passes rfl rfl rfl (by decide +kernel) (rmv (Nat.le_of_ble_eq_true rfl) (Nat.le_of_ble_eq_true rfl) hRf hRl)) hK trivial hw rfl rfl rfl hl rfl (Nat.le_of_ble_eq_true rfl) ⟨Nat.zero_le _, Nat.zero_le _⟩ dX2_oddsOf_38 (fun r_38 u_38 H locs hpq hw => ?_)
      obtain ⟨b2_38, ba2_38⟩ := u_38
      have hw : gW D A js.heap ((tG c4 tr (nI b2_38) (cumQ f x q b2_38) (fbQ q b2_38) ba2_38) :: (yG c4 (la 0) (nI n) os kd ic br) :: (sG c4 sa (tr 0) lc lS (nI dp) t f x c th pe cd dc wc lv) :: (yG c4 (la 1) (gn 1) (go 1) (gk 1) (gi 1) (gb 1)) :: (yG c4 (la 2) (gn 2) (go 2) (gk 2) (gi 2) (gb 2)) :: (yG c4 (la 3) (gn 3) (go 3) (gk 3) (gi 3) (gb 3)) :: (yG c4 (la 4) (gn 4) (go 4) (gk 4) (gi 4) (gb 4)) :: (yG c4 (la 5) (gn 5) (go 5) (gk 5) (gi 5) (gb 5)) :: (yG c4 (la 6) (gn 6) (go 6) (gk 6) (gi 6) (gb 6)) :: (yG c4 (la 7) (gn 7) (go 7) (gk 7) (gi 7) (gb 7)) :: (yG c4 (la 8) (gn 8) (go 8) (gk 8) (gi 8) (gb 8)) :: Ts) H locs := hw
      obtain ⟨h0_38, h1_38, hb2_38, hba_38⟩ := hpq
      have h0_38 : r_38 = 0 → ¬ b2_38 = n := h0_38
      have h1_38 : ¬ r_38 = 0 → b2_38 = n := h1_38
      have hb2_38 : b2_38 = bhQ f x t q n := hb2_38
      have hba_38 : ∀ k, k < b2_38 → ba2_38 k = cumQ f x q (k + 1) := hba_38
      have kj_41 : ∀ (w_1 : Int64) (ls : Array Slot), w_1 = (if r_38 = 0 then 0 else pt) → lv_has ls 9 [(0, .ref (sa 0)), (1, .int 0), (2, .long pt)] → W jp l je R js jm args below meth jc H locs 0 0 Q (F0 jm 49 ls [.long w_1]) := by
        intro w_1 ls e_w_1 hl
        subst e_w_1
        have hw := hw.m10
        have hw := hw.m10
        have hw := hw.m10
        have hw := hw.m10
        have hw := hw.m10
        have hw := hw.m10
        have hw := hw.m10
        have hw := hw.m10
        have hw := hw.m9
        have hw := hw.m9
        have hw := hw.m10
        exact kr (if r_38 = 0 then 0 else pt) ((nI b2_38), (cumQ f x q b2_38), (fbQ q b2_38), ba2_38, gn, go, gk, gi, gb) _ _ _ _ hw (od_leaf (d := 0) c_13 (fun z => c_3 ((lg_zero pt).mpr z)) hb2_38 h0_38 h1_38) dX2_oddsOf_49
      refine lv_if_eq (tgt := 48) hx hb dX2_oddsOf_41 (by decide) (fun c_41 => ?_) (fun c_41 => ?_)
      · refine lv_lconst (v := 0) hx hb dX2_oddsOf_48 (by decide) ?_
        exact kj_41 _ ls (by first | rfl | (rw [if_pos c_41]; done) | (simp only [if_pos c_41]; done) | simp [c_41]) (lv_sub hl [0, 1, 2] rfl)
      · refine lv_lload_n hx hb dX2_oddsOf_44 rfl (lv_at hl 2 rfl) ?_
        refine lv_goto (tgt := 49) hx hb dX2_oddsOf_45 (by decide) ?_
        exact kj_41 _ ls (by first | rfl | (rw [if_neg c_41]; done) | (simp only [if_neg c_41]; done) | simp [c_41]) (lv_sub hl [0, 1, 2] rfl)
  · refine lv_lconst (v := 0) hx hb dX2_oddsOf_6 (by decide) ?_
    exact kr 0 (bh, mi, fb, ba, gn, go, gk, gi, gb) _ _ _ _ hw (od_0 ((lg_zero pt).mp c_3)) dX2_oddsOf_7
