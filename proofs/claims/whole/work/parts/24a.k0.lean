abbrev rm_X8_patch : Room := { frames := 2, cells := 0, slots := 0, locals := 46 }
theorem hi_X8_patch_X8 : ∀ w ∈ wsX80, w ∈ wsX8_patch := fun w h => List.mem_cons_of_mem _ (List.mem_append_right _ h)
set_option maxHeartbeats 4000000 in
set_option maxRecDepth 100000 in
theorem c_X8_patch (l : Launch) (D : va_G) (cy : Nat → ClassId) (loc : Nat → Nat) (w : xM) (sz : Nat) (σ : xS) (hN : xN8 σ) (hR : yR cy loc σ w) (n x y : Int32)   : Met l yX8_patch wsX8_patch rm_X8_patch (va_Pc [.ref (loc (300)), .int (n), .int (x), .int (y)] (xP D cy loc w sz)) (vp_Si (fun r => r = sp_patch σ n x y)) 0 0 (fun _ => False) := by
  refine x_met (cc := cX8_patch) (maxL := 4) (ret := (some .int)) (C := RX8) (by decide) rfl rfl (Nat.le_of_ble_eq_true rfl) ?_
  intro p e s m below meth c ls hx hb hml hr hts hown hlocks hin hP hl
  obtain ⟨hsz, hV, hK⟩ := hP
  subst hsz
  have hl : lv_has ls 4 [(0, .ref (loc (300))), (1, .int (n)), (2, .int (x)), (3, .int (y))] := hl
  have hNN := hN
  have hRR := hR
  obtain ⟨g0, b0, q0, v0, hw⟩ := hR
  obtain ⟨hN0, hN1, hN2, hN3, hN4, hN5, hN6⟩ := hN
  have f1 : w (300) = some (.inr (8, [.ref (loc (301)), .int (nI (σ.2 0)), .ref (loc (302)), .ref (loc (303)), .ref (loc (304)), .int (nI (σ.2 1)), .ref (loc (305)), .ref (loc (306)), .ref (loc (307)), .ref (loc (308)), .int (v0 0), .int (v0 1), .int (v0 2), .int (v0 3), .int (nI (σ.2 5)), .ref (loc (309)), .ref (loc (310)), .int (v0 4), .int (nI (σ.2 2)), .ref (loc (311)), .int (nI (σ.2 3)), .ref (loc (312)), .ref (loc (313)), .int (σ.1 10 0), .int (σ.1 10 1), .int (nI (σ.2 4)), .ref (loc (314))])) := (hw 0 (by decide)).trans rfl
  have f2 : w (311) = some (eI cy 768 (σ.1 6)) := (hw 11 (by decide)).trans rfl
  refine lv_aload_n hx hb dX8_patch_0 rfl (lv_at hl 0 rfl) ?_
  refine lv_iload_n hx hb dX8_patch_1 rfl (lv_at hl 1 rfl) ?_
  refine x_ci (va_runV (As := [.int (n)]) (rest := []) ⟨hx, hb, hml, hown, hts⟩ (c_X8_isHide l D cy loc w s.heap.size σ hNN hRR n) (cwV 1 hts gX8_patch_X8_isHide rfl rfl rfl (by decide +kernel) ⟨Nat.le_of_ble_eq_true rfl, Nat.le_of_ble_eq_true rfl⟩) (x_preV hK hV f1 rfl) rfl rfl hl.1 rfl (lv_room (Nat.le_of_ble_eq_true rfl)) dX8_patch_2 ⟨Nat.le_of_ble_eq_true rfl, Nat.le_of_ble_eq_true rfl⟩) (fun r3 hr4 => ?_)
  have ez5 : xb (nI 0 ≤ n ∧ n < nI (σ.2 2)) = r3 := Eq.symm (show r3 = xb (nI 0 ≤ n ∧ n < nI (σ.2 2)) from hr4)
  subst ez5
  refine x_beq (tgt := 36) hx hb dX8_patch_5 (by decide) (fun c6 => ?_) (fun c6 => ?_)
  · have _u := trivial
    refine lv_bipush (v := -101) hx hb dX8_patch_36 (by decide +kernel) ?_
    exact x_ri hx hb hr hlocks dX8_patch_38 (by show _ = _; simp only [sp_patch, c6, if_true, if_false, ite_true, ite_false, not_true_eq_false, not_false_eq_true, and_true, true_and, and_false, false_and, or_true, true_or, or_false, false_or, and_self, or_self, Nat.add_sub_cancel, Nat.add_eq_zero_iff, Nat.one_ne_zero, eq_self, Nat.not_lt])
  · have _u := trivial
    obtain ⟨kh, h_kh, e_kh⟩ := x_ix2 (show σ.2 2 < 2 ^ 31 by omega) c6
    subst e_kh
    have k_kh : (nI kh).toNatClampNeg = kh := nI_clamp (by omega)
    refine lv_iload_n hx hb dX8_patch_8 rfl (lv_at hl 2 rfl) ?_
    refine lv_iload_n hx hb dX8_patch_9 rfl (lv_at hl 3 rfl) ?_
    refine x_ci (va_runS (As := [.int (x), .int (y)]) (rest := []) ⟨hx, hb, hml, hown, hts⟩ (c_X8_isPatch l D cy loc w s.heap.size x y) (cwS 2 hts gX8_patch_X8_isPatch rfl rfl rfl (by decide +kernel) ⟨Nat.le_of_ble_eq_true rfl, Nat.le_of_ble_eq_true rfl⟩) (x_preS hK hV) rfl rfl hl.1 rfl (lv_room (Nat.le_of_ble_eq_true rfl)) dX8_patch_10 ⟨Nat.le_of_ble_eq_true rfl, Nat.le_of_ble_eq_true rfl⟩) (fun r7 hr8 => ?_)
    have ez9 : xb ((nI 0 ≤ x ∧ x ≤ nI 15) ∧ nI 0 ≤ y ∧ y ≤ nI 11) = r7 := Eq.symm (show r7 = xb ((nI 0 ≤ x ∧ x ≤ nI 15) ∧ nI 0 ≤ y ∧ y ≤ nI 11) from hr8)
    subst ez9
    refine x_beq (tgt := 36) hx hb dX8_patch_13 (by decide) (fun c10 => ?_) (fun c10 => ?_)
    · have _u := trivial
      refine lv_bipush (v := -101) hx hb dX8_patch_36 (by decide +kernel) ?_
      exact x_ri hx hb hr hlocks dX8_patch_38 (by show _ = _; simp only [sp_patch, c6, k_kh, c10, if_true, if_false, ite_true, ite_false, not_true_eq_false, not_false_eq_true, and_true, true_and, and_false, false_and, or_true, true_or, or_false, false_or, and_self, or_self, Nat.add_sub_cancel, Nat.add_eq_zero_iff, Nat.one_ne_zero, eq_self, Nat.not_lt])
    · have _u := trivial
      obtain ⟨xx, h_xx, e_xx⟩ := x_rng (by decide) c10.1
      subst e_xx
      have k_xx : (nI xx).toNatClampNeg = xx := nI_clamp (by omega)
      obtain ⟨yy, h_yy, e_yy⟩ := x_rng (by decide) c10.2
      subst e_yy
      have k_yy : (nI yy).toNatClampNeg = yy := nI_clamp (by omega)
      refine lv_aload_n hx hb dX8_patch_16 rfl (lv_at hl 0 rfl) ?_
      refine x_get (C := RX8) (T := TX8) (N := 27) hx hb hts hi_X8_patch_X8 hown hK hV f1 rfl 19 (by decide) (hts (.fieldLink RX8 40 "SaddleHouseModel" "patches" "[I") (List.mem_of_getElem? (i := 1) rfl)) (fun _ h9 => h9) rfl dX8_patch_17 ?_
      refine lv_sipush (v := nI 192) hx hb dX8_patch_20 (by decide +kernel) ?_
      refine lv_iload_n hx hb dX8_patch_23 rfl (lv_at hl 1 rfl) ?_
      refine x_imul hx hb (192) (kh) dX8_patch_24 ?_
      refine lv_bipush (v := nI 16) hx hb dX8_patch_25 (by decide +kernel) ?_
      refine lv_iload_n hx hb dX8_patch_27 rfl (lv_at hl 3 rfl) ?_
      refine x_imul hx hb (16) (yy) dX8_patch_28 ?_
      refine x_iadd hx hb (192 * kh) (16 * yy) dX8_patch_29 ?_
      refine lv_iload_n hx hb dX8_patch_30 rfl (lv_at hl 2 rfl) ?_
      refine x_iadd hx hb ((192 * kh) + (16 * yy)) (xx) dX8_patch_31 ?_
      refine x_top (congrArg Value.int (show nI (((192 * kh) + (16 * yy)) + xx) = nI (192 * kh + (16 * yy + xx)) from by rw [show ((192 * kh) + (16 * yy)) + xx = 192 * kh + (16 * yy + xx) from by omega])) ?_
      refine x_iald hx hb hK hV f2 (192 * kh + (16 * yy + xx)) (by omega) (by decide) dX8_patch_32 ?_
      refine lv_goto (tgt := 38) hx hb dX8_patch_33 (by decide) ?_
      exact x_ri hx hb hr hlocks dX8_patch_38 (by show _ = _; simp only [sp_patch, c6, k_kh, c10, k_xx, k_yy, if_true, if_false, ite_true, ite_false, not_true_eq_false, not_false_eq_true, and_true, true_and, and_false, false_and, or_true, true_or, or_false, false_or, and_self, or_self, Nat.add_sub_cancel, Nat.add_eq_zero_iff, Nat.one_ne_zero, eq_self, Nat.not_lt])
abbrev rm_X8_horse : Room := { frames := 0, cells := 0, slots := 0, locals := 0 }
theorem hi_X8_horse_X8 : ∀ w ∈ wsX80, w ∈ wsX8_horse := fun w h => List.mem_cons_of_mem _ (List.mem_append_right _ h)
set_option maxHeartbeats 4000000 in
set_option maxRecDepth 100000 in
theorem c_X8_horse (l : Launch) (D : va_G) (cy : Nat → ClassId) (loc : Nat → Nat) (w : xM) (sz : Nat) (σ : xS) (hN : xN8 σ) (hR : yR cy loc σ w)   : Met l yX8_horse wsX8_horse rm_X8_horse (va_Pc [.ref (loc (300))] (xP D cy loc w sz)) (va_Qi (fun r u => r = (sp_horse σ).1 ∧ yOK cy loc w (sp_horse σ).2 u) (xB D (xA loc w sz)) (xA loc w sz)) 0 0 (xA loc w sz) := by
  refine x_met (cc := cX8_horse) (maxL := 1) (ret := (some .int)) (C := RX8) (by decide) rfl rfl (Nat.le_of_ble_eq_true rfl) ?_
  intro p e s m below meth c ls hx hb hml hr hts hown hlocks hin hP hl
  obtain ⟨hsz, hV, hK⟩ := hP
  subst hsz
  have hA : ∀ q : Nat, s.heap.size ≤ q → xA loc w s.heap.size q := fun q h => Or.inr h
  have hS : va_S (xA loc w s.heap.size) s.heap s.heap [] := va_S.rf
  have hl : lv_has ls 1 [(0, .ref (loc (300)))] := hl
  have hNN := hN
  have hRR := hR
  obtain ⟨g0, b0, q0, v0, hw⟩ := hR
  obtain ⟨hN0, hN1, hN2, hN3, hN4, hN5, hN6⟩ := hN
  have f1 : w (300) = some (.inr (8, [.ref (loc (301)), .int (nI (σ.2 0)), .ref (loc (302)), .ref (loc (303)), .ref (loc (304)), .int (nI (σ.2 1)), .ref (loc (305)), .ref (loc (306)), .ref (loc (307)), .ref (loc (308)), .int (v0 0), .int (v0 1), .int (v0 2), .int (v0 3), .int (nI (σ.2 5)), .ref (loc (309)), .ref (loc (310)), .int (v0 4), .int (nI (σ.2 2)), .ref (loc (311)), .int (nI (σ.2 3)), .ref (loc (312)), .ref (loc (313)), .int (σ.1 10 0), .int (σ.1 10 1), .int (nI (σ.2 4)), .ref (loc (314))])) := (hw 0 (by decide)).trans rfl
  refine lv_aload_n hx hb dX8_horse_0 rfl (lv_at hl 0 rfl) ?_
  refine x_get (C := RX8) (T := TX8) (N := 27) hx hb hts hi_X8_horse_X8 hown hK hV f1 rfl 1 (by decide) (hts (.fieldLink RX8 64 "SaddleHouseModel" "horses" "I") (List.mem_of_getElem? (i := 1) rfl)) (fun _ h9 => h9) rfl dX8_horse_1 ?_
  refine lv_bipush (v := nI 8) hx hb dX8_horse_4 (by decide +kernel) ?_
  refine x_cne hx hb (σ.2 0) (8) (by omega) (by omega) (tgt := 12) dX8_horse_6 (by decide) (fun c2 => ?_) (fun c2 => ?_)
  · have _u := trivial
    have yf_0 : σ.2 0 < 8 := by omega
    refine lv_aload_n hx hb dX8_horse_12 rfl (lv_at hl 0 rfl) ?_
    refine lv_dup hx hb dX8_horse_13 rfl ?_
    refine x_get (C := RX8) (T := TX8) (N := 27) hx hb hts hi_X8_horse_X8 hown hK hV f1 rfl 1 (by decide) (hts (.fieldLink RX8 64 "SaddleHouseModel" "horses" "I") (List.mem_of_getElem? (i := 1) rfl)) (fun _ h9 => h9) rfl dX8_horse_14 ?_
    refine lv_iconst (v := nI 1) hx hb dX8_horse_17 (by decide +kernel) ?_
    refine x_iadd hx hb (σ.2 0) (1) dX8_horse_18 ?_
    refine x_putf (C := RX8) (T := TX8) (N := 27) (v := .int (nI ((σ.2 0) + 1))) (ty := .int) hx hb hts hi_X8_horse_X8 tyX8 tyX8_ok nmX8 hown hK hV hS f1 rfl 1 (by decide) (hts (.fieldLink RX8 64 "SaddleHouseModel" "horses" "I") (List.mem_of_getElem? (i := 1) rfl)) (fun _ h9 => h9) rfl (by decide +kernel) rfl rfl (Nat.le_of_ble_eq_true rfl) dX8_horse_19 (fun H3 L4 hV5 hS6 => ?_)
    have f7 : (xup w (300) (.inr (8, [.ref (loc (301)), .int (nI ((σ.2 0) + 1)), .ref (loc (302)), .ref (loc (303)), .ref (loc (304)), .int (nI (σ.2 1)), .ref (loc (305)), .ref (loc (306)), .ref (loc (307)), .ref (loc (308)), .int (v0 0), .int (v0 1), .int (v0 2), .int (v0 3), .int (nI (σ.2 5)), .ref (loc (309)), .ref (loc (310)), .int (v0 4), .int (nI (σ.2 2)), .ref (loc (311)), .int (nI (σ.2 3)), .ref (loc (312)), .ref (loc (313)), .int (σ.1 10 0), .int (σ.1 10 1), .int (nI (σ.2 4)), .ref (loc (314))]))) (300) = some (.inr (8, [.ref (loc (301)), .int (nI ((σ.2 0) + 1)), .ref (loc (302)), .ref (loc (303)), .ref (loc (304)), .int (nI (σ.2 1)), .ref (loc (305)), .ref (loc (306)), .ref (loc (307)), .ref (loc (308)), .int (v0 0), .int (v0 1), .int (v0 2), .int (v0 3), .int (nI (σ.2 5)), .ref (loc (309)), .ref (loc (310)), .int (v0 4), .int (nI (σ.2 2)), .ref (loc (311)), .int (nI (σ.2 3)), .ref (loc (312)), .ref (loc (313)), .int (σ.1 10 0), .int (σ.1 10 1), .int (nI (σ.2 4)), .ref (loc (314))])) := xup_at _ _ _
    refine lv_aload_n hx hb dX8_horse_22 rfl (lv_at hl 0 rfl) ?_
    refine x_get (C := RX8) (T := TX8) (N := 27) hx hb hts hi_X8_horse_X8 hown hK hV5 f7 rfl 1 (by decide) (hts (.fieldLink RX8 64 "SaddleHouseModel" "horses" "I") (List.mem_of_getElem? (i := 1) rfl)) (fun _ h9 => h9) rfl dX8_horse_23 ?_
    refine lv_iconst (v := nI 1) hx hb dX8_horse_26 (by decide +kernel) ?_
    refine x_isub hx hb ((σ.2 0) + 1) (1) (by omega) dX8_horse_27 ?_
    exact x_rmi hx hb hr hlocks dX8_horse_28 hV5 hS6 (y_lf (by simp only [sp_horse, c2, yf_0, if_true, if_false, ite_true, ite_false, not_true_eq_false, not_false_eq_true, and_true, true_and, and_false, false_and, or_true, true_or, or_false, false_or, and_self, or_self, Nat.add_sub_cancel, Nat.add_eq_zero_iff, Nat.one_ne_zero, eq_self, Nat.not_lt]) (yOK_horse hw))
  · have _u := trivial
    have yf_0 : (σ.2 0 < 8) = False := eq_false (by omega)
    refine lv_bipush (v := -104) hx hb dX8_horse_9 (by decide +kernel) ?_
    exact x_rmi hx hb hr hlocks dX8_horse_11 hV hS (y_lf (by simp only [sp_horse, yf_0, if_true, if_false, ite_true, ite_false, not_true_eq_false, not_false_eq_true, and_true, true_and, and_false, false_and, or_true, true_or, or_false, false_or, and_self, or_self, Nat.add_sub_cancel, Nat.add_eq_zero_iff, Nat.one_ne_zero, eq_self, Nat.not_lt]) (yOK_id hRR))
abbrev rm_X8_hide : Room := { frames := 0, cells := 0, slots := 0, locals := 0 }
theorem hi_X8_hide_X8 : ∀ w ∈ wsX80, w ∈ wsX8_hide := fun w h => List.mem_cons_of_mem _ (List.mem_append_right _ h)
set_option maxHeartbeats 4000000 in
set_option maxRecDepth 100000 in
theorem c_X8_hide (l : Launch) (D : va_G) (cy : Nat → ClassId) (loc : Nat → Nat) (w : xM) (sz : Nat) (σ : xS) (hN : xN8 σ) (hR : yR cy loc σ w)   : Met l yX8_hide wsX8_hide rm_X8_hide (va_Pc [.ref (loc (300))] (xP D cy loc w sz)) (va_Qi (fun r u => r = (sp_hide σ).1 ∧ yOK cy loc w (sp_hide σ).2 u) (xB D (xA loc w sz)) (xA loc w sz)) 0 0 (xA loc w sz) := by
  refine x_met (cc := cX8_hide) (maxL := 1) (ret := (some .int)) (C := RX8) (by decide) rfl rfl (Nat.le_of_ble_eq_true rfl) ?_
  intro p e s m below meth c ls hx hb hml hr hts hown hlocks hin hP hl
  obtain ⟨hsz, hV, hK⟩ := hP
  subst hsz
  have hA : ∀ q : Nat, s.heap.size ≤ q → xA loc w s.heap.size q := fun q h => Or.inr h
  have hS : va_S (xA loc w s.heap.size) s.heap s.heap [] := va_S.rf
  have hl : lv_has ls 1 [(0, .ref (loc (300)))] := hl
  have hNN := hN
  have hRR := hR
  obtain ⟨g0, b0, q0, v0, hw⟩ := hR
  obtain ⟨hN0, hN1, hN2, hN3, hN4, hN5, hN6⟩ := hN
  have f1 : w (300) = some (.inr (8, [.ref (loc (301)), .int (nI (σ.2 0)), .ref (loc (302)), .ref (loc (303)), .ref (loc (304)), .int (nI (σ.2 1)), .ref (loc (305)), .ref (loc (306)), .ref (loc (307)), .ref (loc (308)), .int (v0 0), .int (v0 1), .int (v0 2), .int (v0 3), .int (nI (σ.2 5)), .ref (loc (309)), .ref (loc (310)), .int (v0 4), .int (nI (σ.2 2)), .ref (loc (311)), .int (nI (σ.2 3)), .ref (loc (312)), .ref (loc (313)), .int (σ.1 10 0), .int (σ.1 10 1), .int (nI (σ.2 4)), .ref (loc (314))])) := (hw 0 (by decide)).trans rfl
  refine lv_aload_n hx hb dX8_hide_0 rfl (lv_at hl 0 rfl) ?_
  refine x_get (C := RX8) (T := TX8) (N := 27) hx hb hts hi_X8_hide_X8 hown hK hV f1 rfl 18 (by decide) (hts (.fieldLink RX8 151 "SaddleHouseModel" "hides" "I") (List.mem_of_getElem? (i := 1) rfl)) (fun _ h9 => h9) rfl dX8_hide_1 ?_
  refine lv_iconst (v := nI 4) hx hb dX8_hide_4 (by decide +kernel) ?_
  refine x_cne hx hb (σ.2 2) (4) (by omega) (by omega) (tgt := 11) dX8_hide_5 (by decide) (fun c2 => ?_) (fun c2 => ?_)
  · have _u := trivial
    have yf_2 : σ.2 2 < 4 := by omega
    refine lv_aload_n hx hb dX8_hide_11 rfl (lv_at hl 0 rfl) ?_
    refine lv_dup hx hb dX8_hide_12 rfl ?_
    refine x_get (C := RX8) (T := TX8) (N := 27) hx hb hts hi_X8_hide_X8 hown hK hV f1 rfl 18 (by decide) (hts (.fieldLink RX8 151 "SaddleHouseModel" "hides" "I") (List.mem_of_getElem? (i := 1) rfl)) (fun _ h9 => h9) rfl dX8_hide_13 ?_
    refine lv_iconst (v := nI 1) hx hb dX8_hide_16 (by decide +kernel) ?_
    refine x_iadd hx hb (σ.2 2) (1) dX8_hide_17 ?_
    refine x_putf (C := RX8) (T := TX8) (N := 27) (v := .int (nI ((σ.2 2) + 1))) (ty := .int) hx hb hts hi_X8_hide_X8 tyX8 tyX8_ok nmX8 hown hK hV hS f1 rfl 18 (by decide) (hts (.fieldLink RX8 151 "SaddleHouseModel" "hides" "I") (List.mem_of_getElem? (i := 1) rfl)) (fun _ h9 => h9) rfl (by decide +kernel) rfl rfl (Nat.le_of_ble_eq_true rfl) dX8_hide_18 (fun H3 L4 hV5 hS6 => ?_)
    have f7 : (xup w (300) (.inr (8, [.ref (loc (301)), .int (nI (σ.2 0)), .ref (loc (302)), .ref (loc (303)), .ref (loc (304)), .int (nI (σ.2 1)), .ref (loc (305)), .ref (loc (306)), .ref (loc (307)), .ref (loc (308)), .int (v0 0), .int (v0 1), .int (v0 2), .int (v0 3), .int (nI (σ.2 5)), .ref (loc (309)), .ref (loc (310)), .int (v0 4), .int (nI ((σ.2 2) + 1)), .ref (loc (311)), .int (nI (σ.2 3)), .ref (loc (312)), .ref (loc (313)), .int (σ.1 10 0), .int (σ.1 10 1), .int (nI (σ.2 4)), .ref (loc (314))]))) (300) = some (.inr (8, [.ref (loc (301)), .int (nI (σ.2 0)), .ref (loc (302)), .ref (loc (303)), .ref (loc (304)), .int (nI (σ.2 1)), .ref (loc (305)), .ref (loc (306)), .ref (loc (307)), .ref (loc (308)), .int (v0 0), .int (v0 1), .int (v0 2), .int (v0 3), .int (nI (σ.2 5)), .ref (loc (309)), .ref (loc (310)), .int (v0 4), .int (nI ((σ.2 2) + 1)), .ref (loc (311)), .int (nI (σ.2 3)), .ref (loc (312)), .ref (loc (313)), .int (σ.1 10 0), .int (σ.1 10 1), .int (nI (σ.2 4)), .ref (loc (314))])) := xup_at _ _ _
    refine lv_aload_n hx hb dX8_hide_21 rfl (lv_at hl 0 rfl) ?_
    refine x_get (C := RX8) (T := TX8) (N := 27) hx hb hts hi_X8_hide_X8 hown hK hV5 f7 rfl 18 (by decide) (hts (.fieldLink RX8 151 "SaddleHouseModel" "hides" "I") (List.mem_of_getElem? (i := 1) rfl)) (fun _ h9 => h9) rfl dX8_hide_22 ?_
    refine lv_iconst (v := nI 1) hx hb dX8_hide_25 (by decide +kernel) ?_
    refine x_isub hx hb ((σ.2 2) + 1) (1) (by omega) dX8_hide_26 ?_
    exact x_rmi hx hb hr hlocks dX8_hide_27 hV5 hS6 (y_lf (by simp only [sp_hide, c2, yf_2, if_true, if_false, ite_true, ite_false, not_true_eq_false, not_false_eq_true, and_true, true_and, and_false, false_and, or_true, true_or, or_false, false_or, and_self, or_self, Nat.add_sub_cancel, Nat.add_eq_zero_iff, Nat.one_ne_zero, eq_self, Nat.not_lt]) (yOK_hide hw))
  · have _u := trivial
    have yf_2 : (σ.2 2 < 4) = False := eq_false (by omega)
    refine lv_bipush (v := -104) hx hb dX8_hide_8 (by decide +kernel) ?_
    exact x_rmi hx hb hr hlocks dX8_hide_10 hV hS (y_lf (by simp only [sp_hide, yf_2, if_true, if_false, ite_true, ite_false, not_true_eq_false, not_false_eq_true, and_true, true_and, and_false, false_and, or_true, true_or, or_false, false_or, and_self, or_self, Nat.add_sub_cancel, Nat.add_eq_zero_iff, Nat.one_ne_zero, eq_self, Nat.not_lt]) (yOK_id hRR))
abbrev rm_X8_clear : Room := { frames := 0, cells := 0, slots := 0, locals := 0 }
theorem hi_X8_clear_X8 : ∀ w ∈ wsX80, w ∈ wsX8_clear := fun w h => List.mem_cons_of_mem _ (List.mem_append_right _ h)
set_option maxHeartbeats 4000000 in
set_option maxRecDepth 100000 in
theorem c_X8_clear (l : Launch) (D : va_G) (cy : Nat → ClassId) (loc : Nat → Nat) (w : xM) (sz : Nat) (σ : xS) (hN : xN8 σ) (hR : yR cy loc σ w)   : Met l yX8_clear wsX8_clear rm_X8_clear (va_Pc [.ref (loc (300))] (xP D cy loc w sz)) (va_Qi (fun r u => r = (sp_clear σ).1 ∧ yOK cy loc w (sp_clear σ).2 u) (xB D (xA loc w sz)) (xA loc w sz)) 0 0 (xA loc w sz) := by
  refine x_met (cc := cX8_clear) (maxL := 2) (ret := (some .int)) (C := RX8) (by decide) rfl rfl (Nat.le_of_ble_eq_true rfl) ?_
  intro p e s m below meth c ls hx hb hml hr hts hown hlocks hin hP hl
  obtain ⟨hsz, hV, hK⟩ := hP
  subst hsz
  have hA : ∀ q : Nat, s.heap.size ≤ q → xA loc w s.heap.size q := fun q h => Or.inr h
  have hS : va_S (xA loc w s.heap.size) s.heap s.heap [] := va_S.rf
  have hl : lv_has ls 2 [(0, .ref (loc (300)))] := hl
  have hNN := hN
  have hRR := hR
  obtain ⟨g0, b0, q0, v0, hw⟩ := hR
  obtain ⟨hN0, hN1, hN2, hN3, hN4, hN5, hN6⟩ := hN
  have f1 : w (300) = some (.inr (8, [.ref (loc (301)), .int (nI (σ.2 0)), .ref (loc (302)), .ref (loc (303)), .ref (loc (304)), .int (nI (σ.2 1)), .ref (loc (305)), .ref (loc (306)), .ref (loc (307)), .ref (loc (308)), .int (v0 0), .int (v0 1), .int (v0 2), .int (v0 3), .int (nI (σ.2 5)), .ref (loc (309)), .ref (loc (310)), .int (v0 4), .int (nI (σ.2 2)), .ref (loc (311)), .int (nI (σ.2 3)), .ref (loc (312)), .ref (loc (313)), .int (σ.1 10 0), .int (σ.1 10 1), .int (nI (σ.2 4)), .ref (loc (314))])) := (hw 0 (by decide)).trans rfl
  refine lv_aload_n hx hb dX8_clear_0 rfl (lv_at hl 0 rfl) ?_
  refine x_get (C := RX8) (T := TX8) (N := 27) hx hb hts hi_X8_clear_X8 hown hK hV f1 rfl 14 (by decide) (hts (.fieldLink RX8 134 "SaddleHouseModel" "days" "I") (List.mem_of_getElem? (i := 1) rfl)) (fun _ h9 => h9) rfl dX8_clear_1 ?_
  refine lv_istore_n (lv' := [(1, .int (nI (σ.2 5))), (0, .ref (loc (300)))]) hx hb dX8_clear_4 rfl hl (by decide) rfl (fun ls hl => ?_)
  refine lv_aload_n hx hb dX8_clear_5 rfl (lv_at hl 1 rfl) ?_
  refine lv_iconst (v := nI 0) hx hb dX8_clear_6 (by decide +kernel) ?_
  refine x_putf (C := RX8) (T := TX8) (N := 27) (v := .int (nI (0))) (ty := .int) hx hb hts hi_X8_clear_X8 tyX8 tyX8_ok nmX8 hown hK hV hS f1 rfl 14 (by decide) (hts (.fieldLink RX8 134 "SaddleHouseModel" "days" "I") (List.mem_of_getElem? (i := 1) rfl)) (fun _ h9 => h9) rfl (by decide +kernel) rfl rfl (Nat.le_of_ble_eq_true rfl) dX8_clear_7 (fun H2 L3 hV4 hS5 => ?_)
  have f6 : (xup w (300) (.inr (8, [.ref (loc (301)), .int (nI (σ.2 0)), .ref (loc (302)), .ref (loc (303)), .ref (loc (304)), .int (nI (σ.2 1)), .ref (loc (305)), .ref (loc (306)), .ref (loc (307)), .ref (loc (308)), .int (v0 0), .int (v0 1), .int (v0 2), .int (v0 3), .int (nI (0)), .ref (loc (309)), .ref (loc (310)), .int (v0 4), .int (nI (σ.2 2)), .ref (loc (311)), .int (nI (σ.2 3)), .ref (loc (312)), .ref (loc (313)), .int (σ.1 10 0), .int (σ.1 10 1), .int (nI (σ.2 4)), .ref (loc (314))]))) (300) = some (.inr (8, [.ref (loc (301)), .int (nI (σ.2 0)), .ref (loc (302)), .ref (loc (303)), .ref (loc (304)), .int (nI (σ.2 1)), .ref (loc (305)), .ref (loc (306)), .ref (loc (307)), .ref (loc (308)), .int (v0 0), .int (v0 1), .int (v0 2), .int (v0 3), .int (nI (0)), .ref (loc (309)), .ref (loc (310)), .int (v0 4), .int (nI (σ.2 2)), .ref (loc (311)), .int (nI (σ.2 3)), .ref (loc (312)), .ref (loc (313)), .int (σ.1 10 0), .int (σ.1 10 1), .int (nI (σ.2 4)), .ref (loc (314))])) := xup_at _ _ _
  refine lv_iload_n hx hb dX8_clear_10 rfl (lv_at hl 0 rfl) ?_
  exact x_rmi hx hb hr hlocks dX8_clear_11 hV4 hS5 (⟨rfl, yOK_clear hw⟩)
