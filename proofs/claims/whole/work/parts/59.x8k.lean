set_option maxHeartbeats 4000000 in
set_option maxRecDepth 100000 in
theorem k_X8_draw (l : Launch) (D : va_G) (c4 : Nat → ClassId) (A : Nat → Prop) (Ts : List va_W) (a : Nat → Nat) (yn : Int32) (tx : Int32) (pl : Int32) (st : Int32) (va : Int32) (fy : Int32) (fa : Int32) (ry : Int32) (se : Int32) (bh : Int32) (mi : Int32) (fb : Int32) (bo : Int32) (bk : Int32) (w : Nat → Int32) (nn : Int32) (h1 : ¬ nn = 0) (hsd : sdOk (w 50)) : Ci l yX8_draw wsX8_draw 0 0 [.ref (a 0), .int nn] D (tyA c4) A none ((mG a yn tx pl st va fy fa ry se bh mi fb bo bk) :: (aG c4 (a 1) 204 w) :: Ts) (S := Unit) (fun (r : Int32) (u : Unit) => r = (drawV (w 50) nn)) (fun u => ((mG a yn tx pl st va fy fa ry se bh mi fb bo bk) :: (aG c4 (a 1) 204 (upd w 50 (drawS (w 50)))) :: Ts)) := by
  refine cOi (cc := cX8_draw) (maxL := 2) (by decide) rfl (Nat.le_of_ble_eq_true rfl) rfl ?_
  rintro jp je js jm below meth jc ls args R Q H locs hRf hRl ⟨hx, hb, hml, hr, hts, hown, hlocks, hK, hX⟩ hw hl kr
  have hown : js.vm.findClass RX8 = some jm.cls := hown
  have f_0 := hts (.fieldLink RX8 7 "IceSwayModel" "w" "[I") (by decide +kernel)
  have f_1 := hts (.constantLong RX8 194 (1103515245)) (by decide +kernel)
  have f_2 := hts (.constantLong RX8 196 (12345)) (by decide +kernel)
  have f_3 := hts (.constantLong RX8 198 (2147483648)) (by decide +kernel)
  have f_4 := hts (.constant RX8 200 (65536)) (by decide +kernel)
  have hi8 : ∀ w ∈ u_ws RX8 TX8 28, w ∈ wsX8_draw := fun w h => List.mem_cons_of_mem _ (List.mem_append_right _ h)
  refine lv_aload_n hx hb dX8_draw_0 rfl (lv_at hl 0 rfl) ?_
  refine r_get (T := TX8) (v := .ref (a 1)) hx hb hts hi8 hown hK hw 0 rfl rfl 0 (by decide) f_0 rfl dX8_draw_1 ?_
  refine lv_bipush (v := 50) hx hb dX8_draw_4 (by decide) ?_
  refine lv_aload_n hx hb dX8_draw_6 rfl (lv_at hl 0 rfl) ?_
  refine r_get (T := TX8) (v := .ref (a 1)) hx hb hts hi8 hown hK hw 0 rfl rfl 0 (by decide) f_0 rfl dX8_draw_7 ?_
  refine lv_bipush (v := 50) hx hb dX8_draw_10 (by decide) ?_
  refine r_iald hx hb hK hw 1 0 rfl rfl 50 (by omega) (by decide) dX8_draw_12 ?_
  refine lv_i2l hx hb dX8_draw_13 rfl ?_
  refine lv_ldc2 hx hb hown f_1 dX8_draw_14 ?_
  refine lv_lmul hx hb dX8_draw_17 ?_
  refine lv_ldc2 hx hb hown f_2 dX8_draw_18 ?_
  refine lv_ladd hx hb dX8_draw_21 ?_
  refine lv_ldc2 hx hb hown f_3 dX8_draw_22 ?_
  refine lv_lrem hx hb dX8_draw_25 (by decide) ?_
  refine lv_l2i hx hb dX8_draw_26 rfl ?_
  refine r_top (y := drawS (w 50)) (md_w hsd) ?_
  refine r_iast (G' := ((mG a yn tx pl st va fy fa ry se bh mi fb bo bk) :: (aG c4 (a 1) 204 (upd w 50 (drawS (w 50)))) :: Ts)) hx hb hK hw 1 0 rfl rfl 50 (by omega) (by decide) rfl dX8_draw_27 (fun H locs hw => ?_)
  refine lv_aload_n hx hb dX8_draw_28 rfl (lv_at hl 0 rfl) ?_
  refine r_get (T := TX8) (v := .ref (a 1)) hx hb hts hi8 hown hK hw 0 rfl rfl 0 (by decide) f_0 rfl dX8_draw_29 ?_
  refine lv_bipush (v := 50) hx hb dX8_draw_32 (by decide) ?_
  refine r_iald hx hb hK hw 1 0 rfl rfl 50 (by omega) (by decide) dX8_draw_34 ?_
  refine r_top (y := drawS (w 50)) (pk_us' _ _ _) ?_
  refine lv_ldc hx hb hown f_4 dX8_draw_35 ?_
  refine lv_idiv hx hb dX8_draw_37 (by decide) ?_
  refine lv_iload_n hx hb dX8_draw_38 rfl (lv_at hl 1 rfl) ?_
  refine lv_irem hx hb dX8_draw_39 h1 ?_
  exact kr (((drawS (w 50)) / 65536) - ((drawS (w 50)) / 65536) / nn * nn) () _ _ _ _ hw rfl dX8_draw_40
