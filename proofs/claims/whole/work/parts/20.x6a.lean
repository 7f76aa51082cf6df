set_option maxHeartbeats 4000000 in
set_option maxRecDepth 100000 in
theorem k_X6_has (l : Launch) (D : va_G) (c4 : Nat → ClassId) (A : Nat → Prop) (Ts : List va_W) (a : Nat → Nat) (n : Nat) (os : Int32) (kd : Nat → Int32) (ic : Nat → Int32) (br : Nat → Int32) (y : Int32) (hn : n ≤ 12) : Ci l yX6_has wsX6_has 0 0 [.ref (a 0), .int y] D (tyA c4) A none ((yG c4 a (nI n) os kd ic br) :: Ts) (S := Unit) (fun (r : Int32) (u : Unit) => (r = 0 → ¬ (0 ≤ y.toInt ∧ y.toInt < n)) ∧ (¬ r = 0 → ∃ k, k < n ∧ y = nI k)) (fun u => ((yG c4 a (nI n) os kd ic br) :: Ts)) := by
  refine cOz (cc := cX6_has) (maxL := 2) (by decide) rfl (Nat.le_of_ble_eq_true rfl) rfl ?_
  rintro jp je js jm below meth jc ls args R Q H locs hRf hRl ⟨hx, hb, hml, hr, hts, hown, hlocks, hK, hX⟩ hw hl kr
  have hown : js.vm.findClass RX6 = some jm.cls := hown
  have f_0 := hts (.fieldLink RX6 21 "IceSway$Yards" "count" "I") (by decide +kernel)
  have hi6 : ∀ w ∈ u_ws RX6 TX6 5, w ∈ wsX6_has := fun w h => List.mem_cons_of_mem _ (List.mem_append_right _ h)
  refine lv_iload_n hx hb dX6_has_0 rfl (lv_at hl 1 rfl) ?_
  refine lv_if_lt (tgt := 16) hx hb dX6_has_1 (by decide) (fun c_1 => ?_) (fun c_1 => ?_)
  · refine lv_iconst (v := 0) hx hb dX6_has_16 (by decide) ?_
    exact kr 0 () _ _ _ _ hw rfl ⟨(fun _ h => absurd c_1 (by rw [fa_lt, show (0 : Int32).toInt = 0 from rfl]; omega)), (fun h => absurd rfl h)⟩ dX6_has_17
  · refine lv_iload_n hx hb dX6_has_4 rfl (lv_at hl 1 rfl) ?_
    refine lv_aload_n hx hb dX6_has_5 rfl (lv_at hl 0 rfl) ?_
    refine r_get (T := TX6) (v := .int (nI n)) hx hb hts hi6 hown hK hw 0 rfl rfl 0 (by decide) f_0 rfl dX6_has_6 ?_
    refine lv_icmp_ge (tgt := 16) hx hb dX6_has_9 (by decide) (fun c_9 => ?_) (fun c_9 => ?_)
    · refine lv_iconst (v := 0) hx hb dX6_has_16 (by decide) ?_
      exact kr 0 () _ _ _ _ hw rfl ⟨(fun _ h => absurd c_9 (by rw [fa_le, nI_toInt (by omega)]; omega)), (fun h => absurd rfl h)⟩ dX6_has_17
    · refine lv_iconst (v := 1) hx hb dX6_has_12 (by decide) ?_
      refine lv_goto (tgt := 17) hx hb dX6_has_13 (by decide) ?_
      exact kr 1 () _ _ _ _ hw rfl ⟨(fun h => absurd h (by decide)), (fun _ => by obtain ⟨k, hk, e⟩ := nI_of c_1; exact ⟨k, by subst e; rw [nI_leI (by omega) hk] at c_9; omega, e⟩)⟩ dX6_has_17
set_option maxHeartbeats 4000000 in
set_option maxRecDepth 100000 in
theorem k_X6_isOpen (l : Launch) (D : va_G) (c4 : Nat → ClassId) (A : Nat → Prop) (Ts : List va_W) (a : Nat → Nat) (n : Nat) (os : Int32) (kd : Nat → Int32) (ic : Nat → Int32) (br : Nat → Int32) (k : Nat) (q : Nat → Yq) (hn : n ≤ 12) (hk : k < n) (hO : os = nI (oset q n)) : Ci l yX6_isOpen wsX6_isOpen 0 0 [.ref (a 0), .int (nI k)] D (tyA c4) A none ((yG c4 a (nI n) os kd ic br) :: Ts) (S := Unit) (fun (r : Int32) (u : Unit) => (r = 0 → qO (q k) = false) ∧ (¬ r = 0 → qO (q k) = true)) (fun u => ((yG c4 a (nI n) os kd ic br) :: Ts)) := by
  refine cOz (cc := cX6_isOpen) (maxL := 2) (by decide) rfl (Nat.le_of_ble_eq_true rfl) rfl ?_
  rintro jp je js jm below meth jc ls args R Q H locs hRf hRl ⟨hx, hb, hml, hr, hts, hown, hlocks, hK, hX⟩ hw hl kr
  have hown : js.vm.findClass RX6 = some jm.cls := hown
  have f_0 := hts (.fieldLink RX6 25 "IceSway$Yards" "openSet" "I") (by decide +kernel)
  have hi6 : ∀ w ∈ u_ws RX6 TX6 5, w ∈ wsX6_isOpen := fun w h => List.mem_cons_of_mem _ (List.mem_append_right _ h)
  refine lv_aload_n hx hb dX6_isOpen_0 rfl (lv_at hl 0 rfl) ?_
  refine r_get (T := TX6) (v := .int os) hx hb hts hi6 hown hK hw 0 rfl rfl 1 (by decide) f_0 rfl dX6_isOpen_1 ?_
  refine lv_iload_n hx hb dX6_isOpen_4 rfl (lv_at hl 1 rfl) ?_
  refine lv_ishr hx hb dX6_isOpen_5 ?_
  refine lv_iconst (v := 1) hx hb dX6_isOpen_6 (by decide) ?_
  refine lv_iand hx hb dX6_isOpen_7 ?_
  refine lv_iconst (v := 1) hx hb dX6_isOpen_8 (by decide) ?_
  refine lv_icmp_ne (tgt := 16) hx hb dX6_isOpen_9 (by decide) (fun c_9 => ?_) (fun c_9 => ?_)
  · refine lv_iconst (v := 0) hx hb dX6_isOpen_16 (by decide) ?_
    exact kr 0 () _ _ _ _ hw rfl ⟨(fun _ => by rw [hO, open_bit hn hk] at c_9; simpa using c_9), (fun h => absurd rfl h)⟩ dX6_isOpen_17
  · refine lv_iconst (v := 1) hx hb dX6_isOpen_12 (by decide) ?_
    refine lv_goto (tgt := 17) hx hb dX6_isOpen_13 (by decide) ?_
    exact kr 1 () _ _ _ _ hw rfl ⟨(fun h => absurd h (by decide)), (fun _ => by rw [hO, open_bit hn hk] at c_9; exact c_9)⟩ dX6_isOpen_17
set_option maxHeartbeats 4000000 in
set_option maxRecDepth 100000 in
theorem k_X6_growth (l : Launch) (D : va_G) (c4 : Nat → ClassId) (A : Nat → Prop) (Ts : List va_W) (k : Int32) (i : Int32) (c : Int32) (hi : iceOk i) : Ci l yX6_growth wsX6_growth 0 0 [.int k, .int i, .int c] D (tyA c4) A none (Ts) (S := Unit) (fun (r : Int32) (u : Unit) => r = (pGrow k i c)) (fun u => (Ts)) := by
  refine cOi (cc := cX6_growth) (maxL := 5) (by decide) rfl (Nat.le_of_ble_eq_true rfl) rfl ?_
  rintro jp je js jm below meth jc ls args R Q H locs hRf hRl ⟨hx, hb, hml, hr, hts, hown, hlocks, hK, hX⟩ hw hl kr
  have hown : js.vm.findClass RX6 = some jm.cls := hown
  refine lv_bipush (v := 10) hx hb dX6_growth_0 (by decide) ?_
  refine lv_iload_n hx hb dX6_growth_2 rfl (lv_at hl 1 rfl) ?_
  refine lv_iadd hx hb dX6_growth_3 ?_
  refine lv_istore_n (lv' := [(3, .int (10 + i)), (0, .int k), (1, .int i), (2, .int c)]) hx hb dX6_growth_4 rfl hl (by decide) rfl (fun ls hl => ?_)
  refine lv_iload_n hx hb dX6_growth_5 rfl (lv_at hl 0 rfl) ?_
  refine lv_iconst (v := 1) hx hb dX6_growth_6 (by decide) ?_
  refine lv_icmp_ge (tgt := 12) hx hb dX6_growth_7 (by decide) (fun c_7 => ?_) (fun c_7 => ?_)
  · refine lv_bipush (v := 20) hx hb dX6_growth_12 (by decide) ?_
    refine lv_iload_n hx hb dX6_growth_14 rfl (lv_at hl 3 rfl) ?_
    refine lv_imul hx hb dX6_growth_15 ?_
    refine lv_iload_n hx hb dX6_growth_16 rfl (lv_at hl 0 rfl) ?_
    refine lv_idiv hx hb dX6_growth_17 (ice_nz hi) ?_
    refine lv_istore (lv' := [(4, .int ((20 * c) / (10 + i))), (3, .int (10 + i)), (0, .int k), (1, .int i), (2, .int c)]) hx hb dX6_growth_18 hl (by decide) rfl (fun ls hl => ?_)
    refine lv_iload_n hx hb dX6_growth_20 rfl (lv_at hl 2 rfl) ?_
    refine lv_iconst (v := 1) hx hb dX6_growth_21 (by decide) ?_
    refine lv_icmp_ne (tgt := 33) hx hb dX6_growth_22 (by decide) (fun c_22 => ?_) (fun c_22 => ?_)
    · refine lv_iload_n hx hb dX6_growth_33 rfl (lv_at hl 2 rfl) ?_
      refine lv_iconst (v := 3) hx hb dX6_growth_34 (by decide) ?_
      refine lv_icmp_ne (tgt := 45) hx hb dX6_growth_35 (by decide) (fun c_35 => ?_) (fun c_35 => ?_)
      · refine lv_iload hx hb dX6_growth_45 (lv_at hl 0 rfl) ?_
        exact kr ((20 * c) / (10 + i)) () _ _ _ _ hw (by unfold pGrow; rw [if_neg c_22, if_neg c_35]) dX6_growth_47
      · refine lv_iload hx hb dX6_growth_38 (lv_at hl 0 rfl) ?_
        refine lv_iconst (v := 2) hx hb dX6_growth_40 (by decide) ?_
        refine lv_idiv hx hb dX6_growth_41 (by decide) ?_
        refine lv_goto (tgt := 47) hx hb dX6_growth_42 (by decide) ?_
        exact kr (((20 * c) / (10 + i)) / 2) () _ _ _ _ hw (by unfold pGrow; rw [if_neg c_22, if_pos c_35]) dX6_growth_47
    · refine lv_iload hx hb dX6_growth_25 (lv_at hl 0 rfl) ?_
      refine lv_iload hx hb dX6_growth_27 (lv_at hl 0 rfl) ?_
      refine lv_iconst (v := 2) hx hb dX6_growth_29 (by decide) ?_
      refine lv_idiv hx hb dX6_growth_30 (by decide) ?_
      refine lv_iadd hx hb dX6_growth_31 ?_
      exact kr (((20 * c) / (10 + i)) + (((20 * c) / (10 + i)) / 2)) () _ _ _ _ hw (by unfold pGrow; rw [if_pos c_22]) dX6_growth_32
  · exact absurd (ice_ge hi) c_7
set_option maxHeartbeats 4000000 in
set_option maxRecDepth 100000 in
theorem k_X6_thicker (l : Launch) (D : va_G) (c4 : Nat → ClassId) (A : Nat → Prop) (Ts : List va_W) (k : Int32) (i : Int32) (c : Int32) (hi : iceOk i) : Ci l yX6_thicker wsX6_thicker 1 24 [.int k, .int i, .int c] D (tyA c4) A none (Ts) (S := Unit) (fun (r : Int32) (u : Unit) => r = (pThick k i c)) (fun u => (Ts)) := by
  refine cOi (cc := cX6_thicker) (maxL := 3) (by decide) rfl (Nat.le_of_ble_eq_true rfl) rfl ?_
  rintro jp je js jm below meth jc ls args R Q H locs hRf hRl ⟨hx, hb, hml, hr, hts, hown, hlocks, hK, hX⟩ hw hl kr
  have hown : js.vm.findClass RX6 = some jm.cls := hown
  have f_0 := hts (.methodLink RX6 28 Lib.Math.min.name) (by decide +kernel)
  have f_1 := hts (.static Lib.Math.min.name) (by decide +kernel)
  have f_2 := hts (.initialized "java/lang/Math") (by decide +kernel)
  have f_3 := hts (.code Lib.Math.min.name Lib.Math.min.code 2 (some .int)) (by decide +kernel)
  refine lv_sipush (v := 300) hx hb dX6_thicker_0 (by decide) ?_
  refine lv_iload_n hx hb dX6_thicker_3 rfl (lv_at hl 1 rfl) ?_
  refine lv_iload_n hx hb dX6_thicker_4 rfl (lv_at hl 0 rfl) ?_
  refine lv_iload_n hx hb dX6_thicker_5 rfl (lv_at hl 1 rfl) ?_
  refine lv_iload_n hx hb dX6_thicker_6 rfl (lv_at hl 2 rfl) ?_
  refine c_si (As := [.int k, .int i, .int c]) (rest := [.int i, .int 300]) ⟨hx, hb, hml, hown, hts⟩ (k_X6_growth l D c4 A Ts k i c hi) (va_cwS 3 hts gX6_thicker_X6_growth rfl rfl rfl (by decide +kernel) (rmv (Nat.le_of_ble_eq_true rfl) (Nat.le_of_ble_eq_true rfl) hRf hRl)) hK trivial hw rfl hl rfl (Nat.le_of_ble_eq_true rfl) ⟨Nat.zero_le _, Nat.zero_le _⟩ dX6_thicker_7 (fun r_7 u_7 H locs hpq hw => ?_)
  have er_7 := hpq
  subst er_7
  refine lv_iadd hx hb dX6_thicker_10 ?_
  refine va_mmin hx hb (hml.trans hl.1.symm) hown f_0 f_1 f_2 f_3 (by rw [hRf]; exact Nat.le_of_ble_eq_true rfl) (by rw [hRl]; exact Nat.le_of_ble_eq_true rfl) (Nat.zero_le _) (Nat.zero_le _) dX6_thicker_11 ?_
  exact kr (if (i + (pGrow k i c)) < 300 then (i + (pGrow k i c)) else 300) () _ _ _ _ hw rfl dX6_thicker_14
set_option maxHeartbeats 4000000 in
set_option maxRecDepth 100000 in
theorem k_X6_kindOnceShut (l : Launch) (D : va_G) (c4 : Nat → ClassId) (A : Nat → Prop) (Ts : List va_W) (k : Int32) : Ci l yX6_kindOnceShut wsX6_kindOnceShut 0 0 [.int k] D (tyA c4) A none (Ts) (S := Unit) (fun (r : Int32) (u : Unit) => r = (pShut k)) (fun u => (Ts)) := by
  refine cOi (cc := cX6_kindOnceShut) (maxL := 1) (by decide) rfl (Nat.le_of_ble_eq_true rfl) rfl ?_
  rintro jp je js jm below meth jc ls args R Q H locs hRf hRl ⟨hx, hb, hml, hr, hts, hown, hlocks, hK, hX⟩ hw hl kr
  have hown : js.vm.findClass RX6 = some jm.cls := hown
  refine lv_iload_n hx hb dX6_kindOnceShut_0 rfl (lv_at hl 0 rfl) ?_
  refine lv_if_ne (tgt := 8) hx hb dX6_kindOnceShut_1 (by decide) (fun c_1 => ?_) (fun c_1 => ?_)
  · refine lv_iload_n hx hb dX6_kindOnceShut_8 rfl (lv_at hl 0 rfl) ?_
    exact kr k () _ _ _ _ hw (by unfold pShut; rw [if_neg c_1]) dX6_kindOnceShut_9
  · refine lv_iconst (v := 1) hx hb dX6_kindOnceShut_4 (by decide) ?_
    refine lv_goto (tgt := 9) hx hb dX6_kindOnceShut_5 (by decide) ?_
    exact kr 1 () _ _ _ _ hw (by unfold pShut; rw [if_pos c_1]) dX6_kindOnceShut_9
