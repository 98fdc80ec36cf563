abbrev rm_X8_height : Room := { frames := 2, cells := 0, slots := 0, locals := 45 }
theorem hi_X8_height_X8 : ∀ w ∈ wsX80, w ∈ wsX8_height := fun w h => List.mem_cons_of_mem _ (List.mem_append_right _ h)
set_option maxHeartbeats 4000000 in
set_option maxRecDepth 100000 in
theorem c_X8_height (l : Launch) (D : va_G) (cy : Nat → ClassId) (loc : Nat → Nat) (w : xM) (sz : Nat) (σ : xS) (hN : xN8 σ) (hR : yR cy loc σ w) (i v : Int32)   : Met l yX8_height wsX8_height rm_X8_height (va_Pc [.ref (loc (300)), .int (i), .int (v)] (xP D cy loc w sz)) (va_Qi (fun r u => r = (sp_height σ i v).1 ∧ yOK cy loc w (sp_height σ i v).2 u) (xB D (xA loc w sz)) (xA loc w sz)) 0 0 (xA loc w sz) := by
  refine x_met (cc := cX8_height) (maxL := 4) (ret := (some .int)) (C := RX8) (by decide) rfl rfl (Nat.le_of_ble_eq_true rfl) ?_
  intro p e s m below meth c ls hx hb hml hr hts hown hlocks hin hP hl
  obtain ⟨hsz, hV, hK⟩ := hP
  subst hsz
  have hA : ∀ q : Nat, s.heap.size ≤ q → xA loc w s.heap.size q := fun q h => Or.inr h
  have hS : va_S (xA loc w s.heap.size) s.heap s.heap [] := va_S.rf
  have hl : lv_has ls 4 [(0, .ref (loc (300))), (1, .int (i)), (2, .int (v))] := hl
  have hNN := hN
  have hRR := hR
  obtain ⟨g0, b0, q0, v0, hw⟩ := hR
  obtain ⟨hN0, hN1, hN2, hN3, hN4, hN5, hN6⟩ := hN
  have f1 : w (300) = some (.inr (8, [.ref (loc (301)), .int (nI (σ.2 0)), .ref (loc (302)), .ref (loc (303)), .ref (loc (304)), .int (nI (σ.2 1)), .ref (loc (305)), .ref (loc (306)), .ref (loc (307)), .ref (loc (308)), .int (v0 0), .int (v0 1), .int (v0 2), .int (v0 3), .int (nI (σ.2 5)), .ref (loc (309)), .ref (loc (310)), .int (v0 4), .int (nI (σ.2 2)), .ref (loc (311)), .int (nI (σ.2 3)), .ref (loc (312)), .ref (loc (313)), .int (σ.1 10 0), .int (σ.1 10 1), .int (nI (σ.2 4)), .ref (loc (314))])) := (hw 0 (by decide)).trans rfl
  have f2 : w (301) = some (eI cy 9 (σ.1 0)) := (hw 1 (by decide)).trans rfl
  refine lv_iload_n hx hb dX8_height_0 rfl (lv_at hl 1 rfl) ?_
  refine x_ci (va_runS (As := [.int (i)]) (rest := []) ⟨hx, hb, hml, hown, hts⟩ (c_X8_isStation l D cy loc w s.heap.size i) (cwS 1 hts gX8_height_X8_isStation rfl rfl rfl (by decide +kernel) ⟨Nat.le_of_ble_eq_true rfl, Nat.le_of_ble_eq_true rfl⟩) (x_preS hK hV) rfl rfl hl.1 rfl (lv_room (Nat.le_of_ble_eq_true rfl)) dX8_height_1 ⟨Nat.le_of_ble_eq_true rfl, Nat.le_of_ble_eq_true rfl⟩) (fun r3 hr4 => ?_)
  have ez5 : xb (nI 0 ≤ i ∧ i ≤ nI 8) = r3 := Eq.symm (show r3 = xb (nI 0 ≤ i ∧ i ≤ nI 8) from hr4)
  subst ez5
  refine x_bne (tgt := 10) hx hb dX8_height_4 (by decide) (fun c6 => ?_) (fun c6 => ?_)
  · have _u := trivial
    obtain ⟨ii, h_ii, e_ii⟩ := x_rng (by decide) c6
    subst e_ii
    have k_ii : (nI ii).toNatClampNeg = ii := nI_clamp (by omega)
    refine lv_iload_n hx hb dX8_height_10 rfl (lv_at hl 2 rfl) ?_
    refine lv_i2l (v := (v).toInt64) hx hb dX8_height_11 rfl ?_
    refine lv_ldc2 (v := -1) hx hb hown (hts (.constantLong RX8 71 (-1)) (List.mem_of_getElem? (i := 1) rfl)) dX8_height_12 ?_
    refine lv_ldc2 (v := 400) hx hb hown (hts (.constantLong RX8 73 (400)) (List.mem_of_getElem? (i := 2) rfl)) dX8_height_15 ?_
    refine x_ci (va_runS (As := [.long ((v).toInt64), .long ((-1)), .long (400)]) (rest := []) ⟨hx, hb, hml, hown, hts⟩ (c_X8_in l D cy loc w s.heap.size ((v).toInt64) (-1) 400) (cwS 3 hts gX8_height_X8_in rfl rfl rfl (by decide +kernel) ⟨Nat.le_of_ble_eq_true rfl, Nat.le_of_ble_eq_true rfl⟩) (x_preS hK hV) rfl rfl hl.1 rfl (lv_room (Nat.le_of_ble_eq_true rfl)) dX8_height_18 ⟨Nat.le_of_ble_eq_true rfl, Nat.le_of_ble_eq_true rfl⟩) (fun r7 hr8 => ?_)
    have ez9 : xb ((-1) ≤ v ∧ v ≤ nI 400) = r7 := Eq.symm ((show r7 = xb ((-1) ≤ ((v).toInt64) ∧ ((v).toInt64) ≤ 400) from hr8).trans (x_in2 rfl rfl))
    subst ez9
    refine x_bne (tgt := 27) hx hb dX8_height_21 (by decide) (fun c10 => ?_) (fun c10 => ?_)
    · have _u := trivial
      have ym : (¬ v = -1 ∧ ¬ (nI 0 ≤ v ∧ v ≤ nI 400)) = False := eq_false (x_m1.mp c10)
      refine lv_aload_n hx hb dX8_height_27 rfl (lv_at hl 0 rfl) ?_
      refine x_get (C := RX8) (T := TX8) (N := 27) hx hb hts hi_X8_height_X8 hown hK hV f1 rfl 0 (by decide) (hts (.fieldLink RX8 7 "SaddleHouseModel" "hand" "[I") (List.mem_of_getElem? (i := 3) rfl)) (fun _ h9 => h9) rfl dX8_height_28 ?_
      refine lv_iload_n hx hb dX8_height_31 rfl (lv_at hl 1 rfl) ?_
      refine x_iald hx hb hK hV f2 (ii) (by omega) (by decide) dX8_height_32 ?_
      refine lv_istore_n (lv' := [(3, .int ((σ.1 0) ii)), (0, .ref (loc (300))), (1, .int (nI (ii))), (2, .int (v))]) hx hb dX8_height_33 rfl hl (by decide) rfl (fun ls hl => ?_)
      refine lv_aload_n hx hb dX8_height_34 rfl (lv_at hl 1 rfl) ?_
      refine x_get (C := RX8) (T := TX8) (N := 27) hx hb hts hi_X8_height_X8 hown hK hV f1 rfl 0 (by decide) (hts (.fieldLink RX8 7 "SaddleHouseModel" "hand" "[I") (List.mem_of_getElem? (i := 3) rfl)) (fun _ h9 => h9) rfl dX8_height_35 ?_
      refine lv_iload_n hx hb dX8_height_38 rfl (lv_at hl 2 rfl) ?_
      refine lv_iload_n hx hb dX8_height_39 rfl (lv_at hl 3 rfl) ?_
      refine x_iast hx hb hK hV hS f2 (ii) (by omega) (by decide) dX8_height_40 (fun H11 L12 hV13 hS14 => ?_)
      have f15 : (xup w (301) (eI cy 9 (upd (σ.1 0) ii v))) (300) = some (.inr (8, [.ref (loc (301)), .int (nI (σ.2 0)), .ref (loc (302)), .ref (loc (303)), .ref (loc (304)), .int (nI (σ.2 1)), .ref (loc (305)), .ref (loc (306)), .ref (loc (307)), .ref (loc (308)), .int (v0 0), .int (v0 1), .int (v0 2), .int (v0 3), .int (nI (σ.2 5)), .ref (loc (309)), .ref (loc (310)), .int (v0 4), .int (nI (σ.2 2)), .ref (loc (311)), .int (nI (σ.2 3)), .ref (loc (312)), .ref (loc (313)), .int (σ.1 10 0), .int (σ.1 10 1), .int (nI (σ.2 4)), .ref (loc (314))])) := xup_o (f1) (by omega)
      have f16 : (xup w (301) (eI cy 9 (upd (σ.1 0) ii v))) (301) = some (eI cy 9 (upd (σ.1 0) ii v)) := xup_at _ _ _
      refine lv_iload_n hx hb dX8_height_41 rfl (lv_at hl 0 rfl) ?_
      exact x_rmi hx hb hr hlocks dX8_height_42 hV13 hS14 (y_lf (by simp only [sp_height, c6, k_ii, ym, if_true, if_false, ite_true, ite_false, not_true_eq_false, not_false_eq_true, and_true, true_and, and_false, false_and, or_true, true_or, or_false, false_or, and_self, or_self, Nat.add_sub_cancel, Nat.add_eq_zero_iff, Nat.one_ne_zero, eq_self, Nat.not_lt]) (yOK_height hw ii v))
    · have _u := trivial
      have ym : (¬ v = -1 ∧ ¬ (nI 0 ≤ v ∧ v ≤ nI 400)) = True := eq_true (Decidable.of_not_not (fun q => c10 (x_m1.mpr q)))
      refine lv_bipush (v := -102) hx hb dX8_height_24 (by decide +kernel) ?_
      exact x_rmi hx hb hr hlocks dX8_height_26 hV hS (y_lf (by simp only [sp_height, c6, k_ii, ym, if_true, if_false, ite_true, ite_false, not_true_eq_false, not_false_eq_true, and_true, true_and, and_false, false_and, or_true, true_or, or_false, false_or, and_self, or_self, Nat.add_sub_cancel, Nat.add_eq_zero_iff, Nat.one_ne_zero, eq_self, Nat.not_lt]) (yOK_id hRR))
  · have _u := trivial
    refine lv_bipush (v := -101) hx hb dX8_height_7 (by decide +kernel) ?_
    exact x_rmi hx hb hr hlocks dX8_height_9 hV hS (y_lf (by simp only [sp_height, c6, if_true, if_false, ite_true, ite_false, not_true_eq_false, not_false_eq_true, and_true, true_and, and_false, false_and, or_true, true_or, or_false, false_or, and_self, or_self, Nat.add_sub_cancel, Nat.add_eq_zero_iff, Nat.one_ne_zero, eq_self, Nat.not_lt]) (yOK_id hRR))
abbrev rm_X8_shim : Room := { frames := 2, cells := 0, slots := 0, locals := 46 }
theorem hi_X8_shim_X8 : ∀ w ∈ wsX80, w ∈ wsX8_shim := fun w h => List.mem_cons_of_mem _ (List.mem_append_right _ h)
set_option maxHeartbeats 4000000 in
set_option maxRecDepth 100000 in
theorem c_X8_shim (l : Launch) (D : va_G) (cy : Nat → ClassId) (loc : Nat → Nat) (w : xM) (sz : Nat) (σ : xS) (hN : xN8 σ) (hR : yR cy loc σ w) (n i v : Int32)   : Met l yX8_shim wsX8_shim rm_X8_shim (va_Pc [.ref (loc (300)), .int (n), .int (i), .int (v)] (xP D cy loc w sz)) (va_Qi (fun r u => r = (sp_shim σ n i v).1 ∧ yOK cy loc w (sp_shim σ n i v).2 u) (xB D (xA loc w sz)) (xA loc w sz)) 0 0 (xA loc w sz) := by
  refine x_met (cc := cX8_shim) (maxL := 5) (ret := (some .int)) (C := RX8) (by decide) rfl rfl (Nat.le_of_ble_eq_true rfl) ?_
  intro p e s m below meth c ls hx hb hml hr hts hown hlocks hin hP hl
  obtain ⟨hsz, hV, hK⟩ := hP
  subst hsz
  have hA : ∀ q : Nat, s.heap.size ≤ q → xA loc w s.heap.size q := fun q h => Or.inr h
  have hS : va_S (xA loc w s.heap.size) s.heap s.heap [] := va_S.rf
  have hl : lv_has ls 5 [(0, .ref (loc (300))), (1, .int (n)), (2, .int (i)), (3, .int (v))] := hl
  have hNN := hN
  have hRR := hR
  obtain ⟨g0, b0, q0, v0, hw⟩ := hR
  obtain ⟨hN0, hN1, hN2, hN3, hN4, hN5, hN6⟩ := hN
  have f1 : w (300) = some (.inr (8, [.ref (loc (301)), .int (nI (σ.2 0)), .ref (loc (302)), .ref (loc (303)), .ref (loc (304)), .int (nI (σ.2 1)), .ref (loc (305)), .ref (loc (306)), .ref (loc (307)), .ref (loc (308)), .int (v0 0), .int (v0 1), .int (v0 2), .int (v0 3), .int (nI (σ.2 5)), .ref (loc (309)), .ref (loc (310)), .int (v0 4), .int (nI (σ.2 2)), .ref (loc (311)), .int (nI (σ.2 3)), .ref (loc (312)), .ref (loc (313)), .int (σ.1 10 0), .int (σ.1 10 1), .int (nI (σ.2 4)), .ref (loc (314))])) := (hw 0 (by decide)).trans rfl
  have f2 : w (306) = some (eI cy 72 (σ.1 4)) := (hw 6 (by decide)).trans rfl
  refine lv_aload_n hx hb dX8_shim_0 rfl (lv_at hl 0 rfl) ?_
  refine lv_iload_n hx hb dX8_shim_1 rfl (lv_at hl 1 rfl) ?_
  refine x_ci (va_runV (As := [.int (n)]) (rest := []) ⟨hx, hb, hml, hown, hts⟩ (c_X8_isTree l D cy loc w s.heap.size σ hNN hRR n) (cwV 1 hts gX8_shim_X8_isTree rfl rfl rfl (by decide +kernel) ⟨Nat.le_of_ble_eq_true rfl, Nat.le_of_ble_eq_true rfl⟩) (x_preV hK hV f1 rfl) rfl rfl hl.1 rfl (lv_room (Nat.le_of_ble_eq_true rfl)) dX8_shim_2 ⟨Nat.le_of_ble_eq_true rfl, Nat.le_of_ble_eq_true rfl⟩) (fun r3 hr4 => ?_)
  have ez5 : xb (nI 0 ≤ n ∧ n < nI (σ.2 1)) = r3 := Eq.symm (show r3 = xb (nI 0 ≤ n ∧ n < nI (σ.2 1)) from hr4)
  subst ez5
  refine x_beq (tgt := 15) hx hb dX8_shim_5 (by decide) (fun c6 => ?_) (fun c6 => ?_)
  · have _u := trivial
    refine lv_bipush (v := -101) hx hb dX8_shim_15 (by decide +kernel) ?_
    exact x_rmi hx hb hr hlocks dX8_shim_17 hV hS (y_lf (by simp only [sp_shim, c6, if_true, if_false, ite_true, ite_false, not_true_eq_false, not_false_eq_true, and_true, true_and, and_false, false_and, or_true, true_or, or_false, false_or, and_self, or_self, Nat.add_sub_cancel, Nat.add_eq_zero_iff, Nat.one_ne_zero, eq_self, Nat.not_lt]) (yOK_id hRR))
  · have _u := trivial
    obtain ⟨kt, h_kt, e_kt⟩ := x_ix2 (show σ.2 1 < 2 ^ 31 by omega) c6
    subst e_kt
    have k_kt : (nI kt).toNatClampNeg = kt := nI_clamp (by omega)
    refine lv_iload_n hx hb dX8_shim_8 rfl (lv_at hl 2 rfl) ?_
    refine x_ci (va_runS (As := [.int (i)]) (rest := []) ⟨hx, hb, hml, hown, hts⟩ (c_X8_isStation l D cy loc w s.heap.size i) (cwS 1 hts gX8_shim_X8_isStation rfl rfl rfl (by decide +kernel) ⟨Nat.le_of_ble_eq_true rfl, Nat.le_of_ble_eq_true rfl⟩) (x_preS hK hV) rfl rfl hl.1 rfl (lv_room (Nat.le_of_ble_eq_true rfl)) dX8_shim_9 ⟨Nat.le_of_ble_eq_true rfl, Nat.le_of_ble_eq_true rfl⟩) (fun r7 hr8 => ?_)
    have ez9 : xb (nI 0 ≤ i ∧ i ≤ nI 8) = r7 := Eq.symm (show r7 = xb (nI 0 ≤ i ∧ i ≤ nI 8) from hr8)
    subst ez9
    refine x_bne (tgt := 18) hx hb dX8_shim_12 (by decide) (fun c10 => ?_) (fun c10 => ?_)
    · have _u := trivial
      obtain ⟨ii, h_ii, e_ii⟩ := x_rng (by decide) c10
      subst e_ii
      have k_ii : (nI ii).toNatClampNeg = ii := nI_clamp (by omega)
      refine lv_iload_n hx hb dX8_shim_18 rfl (lv_at hl 3 rfl) ?_
      refine lv_i2l (v := (v).toInt64) hx hb dX8_shim_19 rfl ?_
      refine lv_lconst (v := 0) hx hb dX8_shim_20 (by decide +kernel) ?_
      refine lv_ldc2 (v := 20) hx hb hown (hts (.constantLong RX8 94 (20)) (List.mem_of_getElem? (i := 1) rfl)) dX8_shim_21 ?_
      refine x_ci (va_runS (As := [.long ((v).toInt64), .long (0), .long (20)]) (rest := []) ⟨hx, hb, hml, hown, hts⟩ (c_X8_in l D cy loc w s.heap.size ((v).toInt64) 0 20) (cwS 3 hts gX8_shim_X8_in rfl rfl rfl (by decide +kernel) ⟨Nat.le_of_ble_eq_true rfl, Nat.le_of_ble_eq_true rfl⟩) (x_preS hK hV) rfl rfl hl.1 rfl (lv_room (Nat.le_of_ble_eq_true rfl)) dX8_shim_24 ⟨Nat.le_of_ble_eq_true rfl, Nat.le_of_ble_eq_true rfl⟩) (fun r11 hr12 => ?_)
      have ez13 : xb (nI 0 ≤ v ∧ v ≤ nI 20) = r11 := Eq.symm ((show r11 = xb (0 ≤ ((v).toInt64) ∧ ((v).toInt64) ≤ 20) from hr12).trans (x_in2 rfl rfl))
      subst ez13
      refine x_bne (tgt := 33) hx hb dX8_shim_27 (by decide) (fun c14 => ?_) (fun c14 => ?_)
      · have _u := trivial
        refine lv_aload_n hx hb dX8_shim_33 rfl (lv_at hl 0 rfl) ?_
        refine x_get (C := RX8) (T := TX8) (N := 27) hx hb hts hi_X8_shim_X8 hown hK hV f1 rfl 7 (by decide) (hts (.fieldLink RX8 25 "SaddleHouseModel" "shims" "[I") (List.mem_of_getElem? (i := 2) rfl)) (fun _ h9 => h9) rfl dX8_shim_34 ?_
        refine lv_bipush (v := nI 9) hx hb dX8_shim_37 (by decide +kernel) ?_
        refine lv_iload_n hx hb dX8_shim_39 rfl (lv_at hl 1 rfl) ?_
        refine x_imul hx hb (9) (kt) dX8_shim_40 ?_
        refine lv_iload_n hx hb dX8_shim_41 rfl (lv_at hl 2 rfl) ?_
        refine x_iadd hx hb (9 * kt) (ii) dX8_shim_42 ?_
        refine x_iald hx hb hK hV f2 ((9 * kt) + ii) (by omega) (by decide) dX8_shim_43 ?_
        refine lv_istore (lv' := [(4, .int ((σ.1 4) ((9 * kt) + ii))), (0, .ref (loc (300))), (1, .int (nI (kt))), (2, .int (nI (ii))), (3, .int (v))]) hx hb dX8_shim_44 hl (by decide) rfl (fun ls hl => ?_)
        refine lv_aload_n hx hb dX8_shim_46 rfl (lv_at hl 1 rfl) ?_
        refine x_get (C := RX8) (T := TX8) (N := 27) hx hb hts hi_X8_shim_X8 hown hK hV f1 rfl 7 (by decide) (hts (.fieldLink RX8 25 "SaddleHouseModel" "shims" "[I") (List.mem_of_getElem? (i := 2) rfl)) (fun _ h9 => h9) rfl dX8_shim_47 ?_
        refine lv_bipush (v := nI 9) hx hb dX8_shim_50 (by decide +kernel) ?_
        refine lv_iload_n hx hb dX8_shim_52 rfl (lv_at hl 2 rfl) ?_
        refine x_imul hx hb (9) (kt) dX8_shim_53 ?_
        refine lv_iload_n hx hb dX8_shim_54 rfl (lv_at hl 3 rfl) ?_
        refine x_iadd hx hb (9 * kt) (ii) dX8_shim_55 ?_
        refine lv_iload_n hx hb dX8_shim_56 rfl (lv_at hl 4 rfl) ?_
        refine x_iast hx hb hK hV hS f2 ((9 * kt) + ii) (by omega) (by decide) dX8_shim_57 (fun H15 L16 hV17 hS18 => ?_)
        have f19 : (xup w (306) (eI cy 72 (upd (σ.1 4) ((9 * kt) + ii) v))) (300) = some (.inr (8, [.ref (loc (301)), .int (nI (σ.2 0)), .ref (loc (302)), .ref (loc (303)), .ref (loc (304)), .int (nI (σ.2 1)), .ref (loc (305)), .ref (loc (306)), .ref (loc (307)), .ref (loc (308)), .int (v0 0), .int (v0 1), .int (v0 2), .int (v0 3), .int (nI (σ.2 5)), .ref (loc (309)), .ref (loc (310)), .int (v0 4), .int (nI (σ.2 2)), .ref (loc (311)), .int (nI (σ.2 3)), .ref (loc (312)), .ref (loc (313)), .int (σ.1 10 0), .int (σ.1 10 1), .int (nI (σ.2 4)), .ref (loc (314))])) := xup_o (f1) (by omega)
        have f20 : (xup w (306) (eI cy 72 (upd (σ.1 4) ((9 * kt) + ii) v))) (306) = some (eI cy 72 (upd (σ.1 4) ((9 * kt) + ii) v)) := xup_at _ _ _
        refine lv_iload hx hb dX8_shim_58 (lv_at hl 0 rfl) ?_
        exact x_rmi hx hb hr hlocks dX8_shim_60 hV17 hS18 (y_lf (by simp only [sp_shim, c6, k_kt, c10, k_ii, c14, if_true, if_false, ite_true, ite_false, not_true_eq_false, not_false_eq_true, and_true, true_and, and_false, false_and, or_true, true_or, or_false, false_or, and_self, or_self, Nat.add_sub_cancel, Nat.add_eq_zero_iff, Nat.one_ne_zero, eq_self, Nat.not_lt]) (yOK_shim hw (9 * kt + ii) v))
      · have _u := trivial
        refine lv_bipush (v := -102) hx hb dX8_shim_30 (by decide +kernel) ?_
        exact x_rmi hx hb hr hlocks dX8_shim_32 hV hS (y_lf (by simp only [sp_shim, c6, k_kt, c10, k_ii, c14, if_true, if_false, ite_true, ite_false, not_true_eq_false, not_false_eq_true, and_true, true_and, and_false, false_and, or_true, true_or, or_false, false_or, and_self, or_self, Nat.add_sub_cancel, Nat.add_eq_zero_iff, Nat.one_ne_zero, eq_self, Nat.not_lt]) (yOK_id hRR))
    · have _u := trivial
      refine lv_bipush (v := -101) hx hb dX8_shim_15 (by decide +kernel) ?_
      exact x_rmi hx hb hr hlocks dX8_shim_17 hV hS (y_lf (by simp only [sp_shim, c6, k_kt, c10, if_true, if_false, ite_true, ite_false, not_true_eq_false, not_false_eq_true, and_true, true_and, and_false, false_and, or_true, true_or, or_false, false_or, and_self, or_self, Nat.add_sub_cancel, Nat.add_eq_zero_iff, Nat.one_ne_zero, eq_self, Nat.not_lt]) (yOK_id hRR))
abbrev rm_X8_day : Room := { frames := 2, cells := 0, slots := 0, locals := 45 }
theorem hi_X8_day_X8 : ∀ w ∈ wsX80, w ∈ wsX8_day := fun w h => List.mem_cons_of_mem _ (List.mem_append_right _ h)
set_option maxHeartbeats 4000000 in
set_option maxRecDepth 100000 in
theorem c_X8_day (l : Launch) (D : va_G) (cy : Nat → ClassId) (loc : Nat → Nat) (w : xM) (sz : Nat) (σ : xS) (hN : xN8 σ) (hR : yR cy loc σ w) (d : Int32)   : Met l yX8_day wsX8_day rm_X8_day (va_Pc [.ref (loc (300)), .int (d)] (xP D cy loc w sz)) (va_Qi (fun r u => r = (sp_day σ d).1 ∧ yOK cy loc w (sp_day σ d).2 u) (xB D (xA loc w sz)) (xA loc w sz)) 0 0 (xA loc w sz) := by
  refine x_met (cc := cX8_day) (maxL := 3) (ret := (some .int)) (C := RX8) (by decide) rfl rfl (Nat.le_of_ble_eq_true rfl) ?_
  intro p e s m below meth c ls hx hb hml hr hts hown hlocks hin hP hl
  obtain ⟨hsz, hV, hK⟩ := hP
  subst hsz
  have hA : ∀ q : Nat, s.heap.size ≤ q → xA loc w s.heap.size q := fun q h => Or.inr h
  have hS : va_S (xA loc w s.heap.size) s.heap s.heap [] := va_S.rf
  have hl : lv_has ls 3 [(0, .ref (loc (300))), (1, .int (d))] := hl
  have hNN := hN
  have hRR := hR
  obtain ⟨g0, b0, q0, v0, hw⟩ := hR
  obtain ⟨hN0, hN1, hN2, hN3, hN4, hN5, hN6⟩ := hN
  have f1 : w (300) = some (.inr (8, [.ref (loc (301)), .int (nI (σ.2 0)), .ref (loc (302)), .ref (loc (303)), .ref (loc (304)), .int (nI (σ.2 1)), .ref (loc (305)), .ref (loc (306)), .ref (loc (307)), .ref (loc (308)), .int (v0 0), .int (v0 1), .int (v0 2), .int (v0 3), .int (nI (σ.2 5)), .ref (loc (309)), .ref (loc (310)), .int (v0 4), .int (nI (σ.2 2)), .ref (loc (311)), .int (nI (σ.2 3)), .ref (loc (312)), .ref (loc (313)), .int (σ.1 10 0), .int (σ.1 10 1), .int (nI (σ.2 4)), .ref (loc (314))])) := (hw 0 (by decide)).trans rfl
  have f2 : w (309) = some (eI cy 6 (σ.1 5)) := (hw 9 (by decide)).trans rfl
  refine lv_iload_n hx hb dX8_day_0 rfl (lv_at hl 1 rfl) ?_
  refine x_ci (va_runS (As := [.int (d)]) (rest := []) ⟨hx, hb, hml, hown, hts⟩ (c_X8_isDay l D cy loc w s.heap.size d) (cwS 1 hts gX8_day_X8_isDay rfl rfl rfl (by decide +kernel) ⟨Nat.le_of_ble_eq_true rfl, Nat.le_of_ble_eq_true rfl⟩) (x_preS hK hV) rfl rfl hl.1 rfl (lv_room (Nat.le_of_ble_eq_true rfl)) dX8_day_1 ⟨Nat.le_of_ble_eq_true rfl, Nat.le_of_ble_eq_true rfl⟩) (fun r3 hr4 => ?_)
  have ez5 : xb (nI 0 ≤ d ∧ d ≤ nI 10000) = r3 := Eq.symm (show r3 = xb (nI 0 ≤ d ∧ d ≤ nI 10000) from hr4)
  subst ez5
  refine x_bne (tgt := 10) hx hb dX8_day_4 (by decide) (fun c6 => ?_) (fun c6 => ?_)
  · have _u := trivial
    refine lv_iconst (v := nI 0) hx hb dX8_day_10 (by decide +kernel) ?_
    refine lv_istore_n (lv' := [(2, .int (nI (0))), (0, .ref (loc (300))), (1, .int (d))]) hx hb dX8_day_11 rfl hl (by decide) rfl (fun ls hl => ?_)
    have lp12_7 : ∀ (fuel8 : Nat) (i : Nat) (ls : Array Slot), σ.2 5 - i < fuel8 → (i ≤ σ.2 5) → (∀ k, k < i → ¬ σ.1 5 k = d) → lv_has ls 3 [(2, .int (nI (i))), (0, .ref (loc (300))), (1, .int (d))] → W p l e rm_X8_day s m ([.ref (loc (300)), .int (d)] : List Value).toArray below meth c s.heap [] 0 0 (MQ below (va_Qi (fun r u => r = (sp_day σ d).1 ∧ yOK cy loc w (sp_day σ d).2 u) (xB D (xA loc w s.heap.size)) (xA loc w s.heap.size)) ([.ref (loc (300)), .int (d)] : List Value).toArray s 0 0 (xA loc w s.heap.size)) (F0 m 12 ls []) := by
      intro fuel8
      induction fuel8 with
      | zero => intro i ls hm9; exact absurd hm9 (Nat.not_lt_zero _)
      | succ fuel8 ih10 =>
        intro i ls hm9 h1 h2  hl
        refine lv_iload_n hx hb dX8_day_12 rfl (lv_at hl 0 rfl) ?_
        refine lv_aload_n hx hb dX8_day_13 rfl (lv_at hl 1 rfl) ?_
        refine x_get (C := RX8) (T := TX8) (N := 27) hx hb hts hi_X8_day_X8 hown hK hV f1 rfl 14 (by decide) (hts (.fieldLink RX8 134 "SaddleHouseModel" "days" "I") (List.mem_of_getElem? (i := 1) rfl)) (fun _ h9 => h9) rfl dX8_day_14 ?_
        refine x_cge hx hb (i) (σ.2 5) (by omega) (by omega) (tgt := 39) dX8_day_17 (by decide) (fun c11 => ?_) (fun c11 => ?_)
        · have _u := trivial
          have y2 : (xtd σ d) = True := eq_true (fun k hk => h2 k (by omega))
          refine lv_aload_n hx hb dX8_day_39 rfl (lv_at hl 1 rfl) ?_
          refine x_get (C := RX8) (T := TX8) (N := 27) hx hb hts hi_X8_day_X8 hown hK hV f1 rfl 14 (by decide) (hts (.fieldLink RX8 134 "SaddleHouseModel" "days" "I") (List.mem_of_getElem? (i := 1) rfl)) (fun _ h9 => h9) rfl dX8_day_40 ?_
          refine lv_bipush (v := nI 6) hx hb dX8_day_43 (by decide +kernel) ?_
          refine x_cne hx hb (σ.2 5) (6) (by omega) (by omega) (tgt := 51) dX8_day_45 (by decide) (fun c12 => ?_) (fun c12 => ?_)
          · have _u := trivial
            have yf_5 : σ.2 5 < 6 := by omega
            refine lv_aload_n hx hb dX8_day_51 rfl (lv_at hl 1 rfl) ?_
            refine x_get (C := RX8) (T := TX8) (N := 27) hx hb hts hi_X8_day_X8 hown hK hV f1 rfl 15 (by decide) (hts (.fieldLink RX8 34 "SaddleHouseModel" "told" "[I") (List.mem_of_getElem? (i := 2) rfl)) (fun _ h9 => h9) rfl dX8_day_52 ?_
            refine lv_aload_n hx hb dX8_day_55 rfl (lv_at hl 1 rfl) ?_
            refine x_get (C := RX8) (T := TX8) (N := 27) hx hb hts hi_X8_day_X8 hown hK hV f1 rfl 14 (by decide) (hts (.fieldLink RX8 134 "SaddleHouseModel" "days" "I") (List.mem_of_getElem? (i := 1) rfl)) (fun _ h9 => h9) rfl dX8_day_56 ?_
            refine lv_iload_n hx hb dX8_day_59 rfl (lv_at hl 2 rfl) ?_
            refine x_iast hx hb hK hV hS f2 (σ.2 5) (by omega) (by decide) dX8_day_60 (fun H13 L14 hV15 hS16 => ?_)
            have f17 : (xup w (309) (eI cy 6 (upd (σ.1 5) (σ.2 5) d))) (300) = some (.inr (8, [.ref (loc (301)), .int (nI (σ.2 0)), .ref (loc (302)), .ref (loc (303)), .ref (loc (304)), .int (nI (σ.2 1)), .ref (loc (305)), .ref (loc (306)), .ref (loc (307)), .ref (loc (308)), .int (v0 0), .int (v0 1), .int (v0 2), .int (v0 3), .int (nI (σ.2 5)), .ref (loc (309)), .ref (loc (310)), .int (v0 4), .int (nI (σ.2 2)), .ref (loc (311)), .int (nI (σ.2 3)), .ref (loc (312)), .ref (loc (313)), .int (σ.1 10 0), .int (σ.1 10 1), .int (nI (σ.2 4)), .ref (loc (314))])) := xup_o (f1) (by omega)
            have f18 : (xup w (309) (eI cy 6 (upd (σ.1 5) (σ.2 5) d))) (309) = some (eI cy 6 (upd (σ.1 5) (σ.2 5) d)) := xup_at _ _ _
            refine lv_aload_n hx hb dX8_day_61 rfl (lv_at hl 1 rfl) ?_
            refine lv_dup hx hb dX8_day_62 rfl ?_
            refine x_get (C := RX8) (T := TX8) (N := 27) hx hb hts hi_X8_day_X8 hown hK hV15 f17 rfl 14 (by decide) (hts (.fieldLink RX8 134 "SaddleHouseModel" "days" "I") (List.mem_of_getElem? (i := 1) rfl)) (fun _ h9 => h9) rfl dX8_day_63 ?_
            refine lv_iconst (v := nI 1) hx hb dX8_day_66 (by decide +kernel) ?_
            refine x_iadd hx hb (σ.2 5) (1) dX8_day_67 ?_
            refine x_putf (C := RX8) (T := TX8) (N := 27) (v := .int (nI ((σ.2 5) + 1))) (ty := .int) hx hb hts hi_X8_day_X8 tyX8 tyX8_ok nmX8 hown hK hV15 hS16 f17 rfl 14 (by decide) (hts (.fieldLink RX8 134 "SaddleHouseModel" "days" "I") (List.mem_of_getElem? (i := 1) rfl)) (fun _ h9 => h9) rfl (by decide +kernel) rfl rfl (Nat.le_of_ble_eq_true rfl) dX8_day_68 (fun H19 L20 hV21 hS22 => ?_)
            have f23 : (xup (xup w (309) (eI cy 6 (upd (σ.1 5) (σ.2 5) d))) (300) (.inr (8, [.ref (loc (301)), .int (nI (σ.2 0)), .ref (loc (302)), .ref (loc (303)), .ref (loc (304)), .int (nI (σ.2 1)), .ref (loc (305)), .ref (loc (306)), .ref (loc (307)), .ref (loc (308)), .int (v0 0), .int (v0 1), .int (v0 2), .int (v0 3), .int (nI ((σ.2 5) + 1)), .ref (loc (309)), .ref (loc (310)), .int (v0 4), .int (nI (σ.2 2)), .ref (loc (311)), .int (nI (σ.2 3)), .ref (loc (312)), .ref (loc (313)), .int (σ.1 10 0), .int (σ.1 10 1), .int (nI (σ.2 4)), .ref (loc (314))]))) (300) = some (.inr (8, [.ref (loc (301)), .int (nI (σ.2 0)), .ref (loc (302)), .ref (loc (303)), .ref (loc (304)), .int (nI (σ.2 1)), .ref (loc (305)), .ref (loc (306)), .ref (loc (307)), .ref (loc (308)), .int (v0 0), .int (v0 1), .int (v0 2), .int (v0 3), .int (nI ((σ.2 5) + 1)), .ref (loc (309)), .ref (loc (310)), .int (v0 4), .int (nI (σ.2 2)), .ref (loc (311)), .int (nI (σ.2 3)), .ref (loc (312)), .ref (loc (313)), .int (σ.1 10 0), .int (σ.1 10 1), .int (nI (σ.2 4)), .ref (loc (314))])) := xup_at _ _ _
            have f24 : (xup (xup w (309) (eI cy 6 (upd (σ.1 5) (σ.2 5) d))) (300) (.inr (8, [.ref (loc (301)), .int (nI (σ.2 0)), .ref (loc (302)), .ref (loc (303)), .ref (loc (304)), .int (nI (σ.2 1)), .ref (loc (305)), .ref (loc (306)), .ref (loc (307)), .ref (loc (308)), .int (v0 0), .int (v0 1), .int (v0 2), .int (v0 3), .int (nI ((σ.2 5) + 1)), .ref (loc (309)), .ref (loc (310)), .int (v0 4), .int (nI (σ.2 2)), .ref (loc (311)), .int (nI (σ.2 3)), .ref (loc (312)), .ref (loc (313)), .int (σ.1 10 0), .int (σ.1 10 1), .int (nI (σ.2 4)), .ref (loc (314))]))) (309) = some (eI cy 6 (upd (σ.1 5) (σ.2 5) d)) := xup_o (xup_at _ _ _) (by omega)
            refine lv_aload_n hx hb dX8_day_71 rfl (lv_at hl 1 rfl) ?_
            refine x_get (C := RX8) (T := TX8) (N := 27) hx hb hts hi_X8_day_X8 hown hK hV21 f23 rfl 14 (by decide) (hts (.fieldLink RX8 134 "SaddleHouseModel" "days" "I") (List.mem_of_getElem? (i := 1) rfl)) (fun _ h9 => h9) rfl dX8_day_72 ?_
            exact x_rmi hx hb hr hlocks dX8_day_75 hV21 hS22 (y_lf (by simp only [sp_day, c6, c11, y2, c12, yf_5, if_true, if_false, ite_true, ite_false, not_true_eq_false, not_false_eq_true, and_true, true_and, and_false, false_and, or_true, true_or, or_false, false_or, and_self, or_self, Nat.add_sub_cancel, Nat.add_eq_zero_iff, Nat.one_ne_zero, eq_self, Nat.not_lt]) (yOK_day hw d))
          · have _u := trivial
            have yf_5 : (σ.2 5 < 6) = False := eq_false (by omega)
            refine lv_bipush (v := -104) hx hb dX8_day_48 (by decide +kernel) ?_
            exact x_rmi hx hb hr hlocks dX8_day_50 hV hS (y_lf (by simp only [sp_day, c6, c11, y2, yf_5, if_true, if_false, ite_true, ite_false, not_true_eq_false, not_false_eq_true, and_true, true_and, and_false, false_and, or_true, true_or, or_false, false_or, and_self, or_self, Nat.add_sub_cancel, Nat.add_eq_zero_iff, Nat.one_ne_zero, eq_self, Nat.not_lt]) (yOK_id hRR))
        · have _u := trivial
          refine lv_aload_n hx hb dX8_day_20 rfl (lv_at hl 1 rfl) ?_
          refine x_get (C := RX8) (T := TX8) (N := 27) hx hb hts hi_X8_day_X8 hown hK hV f1 rfl 15 (by decide) (hts (.fieldLink RX8 34 "SaddleHouseModel" "told" "[I") (List.mem_of_getElem? (i := 2) rfl)) (fun _ h9 => h9) rfl dX8_day_21 ?_
          refine lv_iload_n hx hb dX8_day_24 rfl (lv_at hl 0 rfl) ?_
          refine x_iald hx hb hK hV f2 (i) (by omega) (by decide) dX8_day_25 ?_
          refine lv_iload_n hx hb dX8_day_26 rfl (lv_at hl 2 rfl) ?_
          refine lv_icmp_ne (tgt := 33) hx hb dX8_day_27 (by decide) (fun c25 => ?_) (fun c25 => ?_)
          · have _u := trivial
            refine lv_iinc (v := nI (i + 1)) (lv' := [(2, .int (nI (i + 1))), (0, .ref (loc (300))), (1, .int (d))]) hx hb dX8_day_33 hl (k := 0) rfl (nI_add _ _) (by decide) rfl (fun ls hl => ?_)
            refine lv_goto (tgt := 12) hx hb dX8_day_36 (by decide) ?_
            exact ih10 (i + 1) ls (by omega) (by omega) (x_alls h2 c25) (lv_sub hl [0, 1, 2] rfl)
          · have _u := trivial
            have y1 : (xtd σ d) = False := eq_false (fun q => q i (by omega) c25)
            refine lv_bipush (v := -103) hx hb dX8_day_30 (by decide +kernel) ?_
            exact x_rmi hx hb hr hlocks dX8_day_32 hV hS (y_lf (by simp only [sp_day, c6, y1, if_true, if_false, ite_true, ite_false, not_true_eq_false, not_false_eq_true, and_true, true_and, and_false, false_and, or_true, true_or, or_false, false_or, and_self, or_self, Nat.add_sub_cancel, Nat.add_eq_zero_iff, Nat.one_ne_zero, eq_self, Nat.not_lt]) (yOK_id hRR))
    exact lp12_7 ((σ.2 5) + 1) 0 ls (by omega) (Nat.zero_le _) (fun k h => absurd h (Nat.not_lt_zero k)) (lv_sub hl [0, 1, 2] rfl)
  · have _u := trivial
    refine lv_bipush (v := -102) hx hb dX8_day_7 (by decide +kernel) ?_
    exact x_rmi hx hb hr hlocks dX8_day_9 hV hS (y_lf (by simp only [sp_day, c6, if_true, if_false, ite_true, ite_false, not_true_eq_false, not_false_eq_true, and_true, true_and, and_false, false_and, or_true, true_or, or_false, false_or, and_self, or_self, Nat.add_sub_cancel, Nat.add_eq_zero_iff, Nat.one_ne_zero, eq_self, Nat.not_lt]) (yOK_id hRR))
