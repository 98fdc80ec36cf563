abbrev rm_X8_flaw : Room := { frames := 2, cells := 0, slots := 0, locals := 46 }
theorem hi_X8_flaw_X8 : ∀ w ∈ wsX80, w ∈ wsX8_flaw := fun w h => List.mem_cons_of_mem _ (List.mem_append_right _ h)
set_option maxHeartbeats 4000000 in
set_option maxRecDepth 100000 in
theorem c_X8_flaw (l : Launch) (D : va_G) (cy : Nat → ClassId) (loc : Nat → Nat) (w : xM) (sz : Nat) (σ : xS) (hN : xN8 σ) (hR : yR cy loc σ w) (n x y : Int32) (hp : ∀ i, i < 768 → σ.1 6 i = nI 0 ∨ σ.1 6 i = nI 1 ∨ σ.1 6 i = nI 2)   : Met l yX8_flaw wsX8_flaw rm_X8_flaw (va_Pc [.ref (loc (300)), .int (n), .int (x), .int (y)] (xP D cy loc w sz)) (va_Qi (fun r u => r = (sp_flaw σ n x y).1 ∧ yOK cy loc w (sp_flaw σ n x y).2 u) (xB D (xA loc w sz)) (xA loc w sz)) 0 0 (xA loc w sz) := by
  refine x_met (cc := cX8_flaw) (maxL := 6) (ret := (some .int)) (C := RX8) (by decide) rfl rfl (Nat.le_of_ble_eq_true rfl) ?_
  intro p e s m below meth c ls hx hb hml hr hts hown hlocks hin hP hl
  obtain ⟨hsz, hV, hK⟩ := hP
  subst hsz
  have hA : ∀ q : Nat, s.heap.size ≤ q → xA loc w s.heap.size q := fun q h => Or.inr h
  have hS : va_S (xA loc w s.heap.size) s.heap s.heap [] := va_S.rf
  have hl : lv_has ls 6 [(0, .ref (loc (300))), (1, .int (n)), (2, .int (x)), (3, .int (y))] := hl
  have hNN := hN
  have hRR := hR
  obtain ⟨g0, b0, q0, v0, hw⟩ := hR
  obtain ⟨hN0, hN1, hN2, hN3, hN4, hN5, hN6⟩ := hN
  have f1 : w (300) = some (.inr (8, [.ref (loc (301)), .int (nI (σ.2 0)), .ref (loc (302)), .ref (loc (303)), .ref (loc (304)), .int (nI (σ.2 1)), .ref (loc (305)), .ref (loc (306)), .ref (loc (307)), .ref (loc (308)), .int (v0 0), .int (v0 1), .int (v0 2), .int (v0 3), .int (nI (σ.2 5)), .ref (loc (309)), .ref (loc (310)), .int (v0 4), .int (nI (σ.2 2)), .ref (loc (311)), .int (nI (σ.2 3)), .ref (loc (312)), .ref (loc (313)), .int (σ.1 10 0), .int (σ.1 10 1), .int (nI (σ.2 4)), .ref (loc (314))])) := (hw 0 (by decide)).trans rfl
  have f2 : w (311) = some (eI cy 768 (σ.1 6)) := (hw 11 (by decide)).trans rfl
  refine lv_aload_n hx hb dX8_flaw_0 rfl (lv_at hl 0 rfl) ?_
  refine lv_iload_n hx hb dX8_flaw_1 rfl (lv_at hl 1 rfl) ?_
  refine x_ci (va_runV (As := [.int (n)]) (rest := []) ⟨hx, hb, hml, hown, hts⟩ (c_X8_isHide l D cy loc w s.heap.size σ hNN hRR n) (cwV 1 hts gX8_flaw_X8_isHide rfl rfl rfl (by decide +kernel) ⟨Nat.le_of_ble_eq_true rfl, Nat.le_of_ble_eq_true rfl⟩) (x_preV hK hV f1 rfl) rfl rfl hl.1 rfl (lv_room (Nat.le_of_ble_eq_true rfl)) dX8_flaw_2 ⟨Nat.le_of_ble_eq_true rfl, Nat.le_of_ble_eq_true rfl⟩) (fun r3 hr4 => ?_)
  have ez5 : xb (nI 0 ≤ n ∧ n < nI (σ.2 2)) = r3 := Eq.symm (show r3 = xb (nI 0 ≤ n ∧ n < nI (σ.2 2)) from hr4)
  subst ez5
  refine x_beq (tgt := 16) hx hb dX8_flaw_5 (by decide) (fun c6 => ?_) (fun c6 => ?_)
  · have _u := trivial
    refine lv_bipush (v := -101) hx hb dX8_flaw_16 (by decide +kernel) ?_
    exact x_rmi hx hb hr hlocks dX8_flaw_18 hV hS (y_lf (by simp only [sp_flaw, c6, if_true, if_false, ite_true, ite_false, not_true_eq_false, not_false_eq_true, and_true, true_and, and_false, false_and, or_true, true_or, or_false, false_or, and_self, or_self, Nat.add_sub_cancel, Nat.add_eq_zero_iff, Nat.one_ne_zero, eq_self, Nat.not_lt]) (yOK_id hRR))
  · have _u := trivial
    obtain ⟨kh, h_kh, e_kh⟩ := x_ix2 (show σ.2 2 < 2 ^ 31 by omega) c6
    subst e_kh
    have k_kh : (nI kh).toNatClampNeg = kh := nI_clamp (by omega)
    refine lv_iload_n hx hb dX8_flaw_8 rfl (lv_at hl 2 rfl) ?_
    refine lv_iload_n hx hb dX8_flaw_9 rfl (lv_at hl 3 rfl) ?_
    refine x_ci (va_runS (As := [.int (x), .int (y)]) (rest := []) ⟨hx, hb, hml, hown, hts⟩ (c_X8_isPatch l D cy loc w s.heap.size x y) (cwS 2 hts gX8_flaw_X8_isPatch rfl rfl rfl (by decide +kernel) ⟨Nat.le_of_ble_eq_true rfl, Nat.le_of_ble_eq_true rfl⟩) (x_preS hK hV) rfl rfl hl.1 rfl (lv_room (Nat.le_of_ble_eq_true rfl)) dX8_flaw_10 ⟨Nat.le_of_ble_eq_true rfl, Nat.le_of_ble_eq_true rfl⟩) (fun r7 hr8 => ?_)
    have ez9 : xb ((nI 0 ≤ x ∧ x ≤ nI 15) ∧ nI 0 ≤ y ∧ y ≤ nI 11) = r7 := Eq.symm (show r7 = xb ((nI 0 ≤ x ∧ x ≤ nI 15) ∧ nI 0 ≤ y ∧ y ≤ nI 11) from hr8)
    subst ez9
    refine x_bne (tgt := 19) hx hb dX8_flaw_13 (by decide) (fun c10 => ?_) (fun c10 => ?_)
    · have _u := trivial
      obtain ⟨xx, h_xx, e_xx⟩ := x_rng (by decide) c10.1
      subst e_xx
      have k_xx : (nI xx).toNatClampNeg = xx := nI_clamp (by omega)
      obtain ⟨yy, h_yy, e_yy⟩ := x_rng (by decide) c10.2
      subst e_yy
      have k_yy : (nI yy).toNatClampNeg = yy := nI_clamp (by omega)
      refine lv_sipush (v := nI 192) hx hb dX8_flaw_19 (by decide +kernel) ?_
      refine lv_iload_n hx hb dX8_flaw_22 rfl (lv_at hl 1 rfl) ?_
      refine x_imul hx hb (192) (kh) dX8_flaw_23 ?_
      refine lv_bipush (v := nI 16) hx hb dX8_flaw_24 (by decide +kernel) ?_
      refine lv_iload_n hx hb dX8_flaw_26 rfl (lv_at hl 3 rfl) ?_
      refine x_imul hx hb (16) (yy) dX8_flaw_27 ?_
      refine x_iadd hx hb (192 * kh) (16 * yy) dX8_flaw_28 ?_
      refine lv_iload_n hx hb dX8_flaw_29 rfl (lv_at hl 2 rfl) ?_
      refine x_iadd hx hb ((192 * kh) + (16 * yy)) (xx) dX8_flaw_30 ?_
      refine x_top (congrArg Value.int (show nI (((192 * kh) + (16 * yy)) + xx) = nI (192 * kh + (16 * yy + xx)) from by rw [show ((192 * kh) + (16 * yy)) + xx = 192 * kh + (16 * yy + xx) from by omega])) ?_
      refine lv_istore (lv' := [(4, .int (nI (192 * kh + (16 * yy + xx)))), (0, .ref (loc (300))), (1, .int (nI (kh))), (2, .int (nI (xx))), (3, .int (nI (yy)))]) hx hb dX8_flaw_31 hl (by decide) rfl (fun ls hl => ?_)
      refine lv_aload_n hx hb dX8_flaw_33 rfl (lv_at hl 1 rfl) ?_
      refine x_get (C := RX8) (T := TX8) (N := 27) hx hb hts hi_X8_flaw_X8 hown hK hV f1 rfl 19 (by decide) (hts (.fieldLink RX8 40 "SaddleHouseModel" "patches" "[I") (List.mem_of_getElem? (i := 1) rfl)) (fun _ h9 => h9) rfl dX8_flaw_34 ?_
      refine lv_iload hx hb dX8_flaw_37 (lv_at hl 0 rfl) ?_
      refine x_iald hx hb hK hV f2 (192 * kh + (16 * yy + xx)) (by omega) (by decide) dX8_flaw_39 ?_
      refine lv_iconst (v := nI 2) hx hb dX8_flaw_40 (by decide +kernel) ?_
      refine lv_icmp_ne (tgt := 47) hx hb dX8_flaw_41 (by decide) (fun c11 => ?_) (fun c11 => ?_)
      · have _u := trivial
        have yw : (if σ.1 6 (192 * kh + (16 * yy + xx)) = nI 1 then nI 1 else nI 0) = σ.1 6 (192 * kh + (16 * yy + xx)) := x_was (hp _ (by omega)) c11
        refine lv_aload_n hx hb dX8_flaw_47 rfl (lv_at hl 1 rfl) ?_
        refine x_get (C := RX8) (T := TX8) (N := 27) hx hb hts hi_X8_flaw_X8 hown hK hV f1 rfl 19 (by decide) (hts (.fieldLink RX8 40 "SaddleHouseModel" "patches" "[I") (List.mem_of_getElem? (i := 1) rfl)) (fun _ h9 => h9) rfl dX8_flaw_48 ?_
        refine lv_iload hx hb dX8_flaw_51 (lv_at hl 0 rfl) ?_
        refine x_iald hx hb hK hV f2 (192 * kh + (16 * yy + xx)) (by omega) (by decide) dX8_flaw_53 ?_
        refine lv_istore (lv' := [(5, .int ((σ.1 6) (192 * kh + (16 * yy + xx)))), (4, .int (nI (192 * kh + (16 * yy + xx)))), (0, .ref (loc (300))), (1, .int (nI (kh))), (2, .int (nI (xx))), (3, .int (nI (yy)))]) hx hb dX8_flaw_54 hl (by decide) rfl (fun ls hl => ?_)
        refine lv_aload_n hx hb dX8_flaw_56 rfl (lv_at hl 2 rfl) ?_
        refine x_get (C := RX8) (T := TX8) (N := 27) hx hb hts hi_X8_flaw_X8 hown hK hV f1 rfl 19 (by decide) (hts (.fieldLink RX8 40 "SaddleHouseModel" "patches" "[I") (List.mem_of_getElem? (i := 1) rfl)) (fun _ h9 => h9) rfl dX8_flaw_57 ?_
        refine lv_iload hx hb dX8_flaw_60 (lv_at hl 1 rfl) ?_
        refine lv_iconst (v := nI 1) hx hb dX8_flaw_62 (by decide +kernel) ?_
        refine x_iast hx hb hK hV hS f2 (192 * kh + (16 * yy + xx)) (by omega) (by decide) dX8_flaw_63 (fun H12 L13 hV14 hS15 => ?_)
        have f16 : (xup w (311) (eI cy 768 (upd (σ.1 6) (192 * kh + (16 * yy + xx)) (nI 1)))) (300) = some (.inr (8, [.ref (loc (301)), .int (nI (σ.2 0)), .ref (loc (302)), .ref (loc (303)), .ref (loc (304)), .int (nI (σ.2 1)), .ref (loc (305)), .ref (loc (306)), .ref (loc (307)), .ref (loc (308)), .int (v0 0), .int (v0 1), .int (v0 2), .int (v0 3), .int (nI (σ.2 5)), .ref (loc (309)), .ref (loc (310)), .int (v0 4), .int (nI (σ.2 2)), .ref (loc (311)), .int (nI (σ.2 3)), .ref (loc (312)), .ref (loc (313)), .int (σ.1 10 0), .int (σ.1 10 1), .int (nI (σ.2 4)), .ref (loc (314))])) := xup_o (f1) (by omega)
        have f17 : (xup w (311) (eI cy 768 (upd (σ.1 6) (192 * kh + (16 * yy + xx)) (nI 1)))) (311) = some (eI cy 768 (upd (σ.1 6) (192 * kh + (16 * yy + xx)) (nI 1))) := xup_at _ _ _
        refine lv_iload hx hb dX8_flaw_64 (lv_at hl 0 rfl) ?_
        exact x_rmi hx hb hr hlocks dX8_flaw_66 hV14 hS15 (y_lf (by simp only [sp_flaw, c6, k_kh, c10, k_xx, k_yy, c11, yw, if_true, if_false, ite_true, ite_false, not_true_eq_false, not_false_eq_true, and_true, true_and, and_false, false_and, or_true, true_or, or_false, false_or, and_self, or_self, Nat.add_sub_cancel, Nat.add_eq_zero_iff, Nat.one_ne_zero, eq_self, Nat.not_lt]) (yOK_flaw hw (192 * kh + (16 * yy + xx)) (nI 1)))
      · have _u := trivial
        refine lv_bipush (v := -103) hx hb dX8_flaw_44 (by decide +kernel) ?_
        exact x_rmi hx hb hr hlocks dX8_flaw_46 hV hS (y_lf (by simp only [sp_flaw, c6, k_kh, c10, k_xx, k_yy, c11, if_true, if_false, ite_true, ite_false, not_true_eq_false, not_false_eq_true, and_true, true_and, and_false, false_and, or_true, true_or, or_false, false_or, and_self, or_self, Nat.add_sub_cancel, Nat.add_eq_zero_iff, Nat.one_ne_zero, eq_self, Nat.not_lt]) (yOK_id hRR))
    · have _u := trivial
      refine lv_bipush (v := -101) hx hb dX8_flaw_16 (by decide +kernel) ?_
      exact x_rmi hx hb hr hlocks dX8_flaw_18 hV hS (y_lf (by simp only [sp_flaw, c6, k_kh, c10, if_true, if_false, ite_true, ite_false, not_true_eq_false, not_false_eq_true, and_true, true_and, and_false, false_and, or_true, true_or, or_false, false_or, and_self, or_self, Nat.add_sub_cancel, Nat.add_eq_zero_iff, Nat.one_ne_zero, eq_self, Nat.not_lt]) (yOK_id hRR))
abbrev rm_X8_bench : Room := { frames := 1, cells := 0, slots := 0, locals := 25 }
theorem hi_X8_bench_X8 : ∀ w ∈ wsX80, w ∈ wsX8_bench := fun w h => List.mem_cons_of_mem _ (List.mem_append_right _ h)
set_option maxHeartbeats 4000000 in
set_option maxRecDepth 100000 in
theorem c_X8_bench (l : Launch) (D : va_G) (cy : Nat → ClassId) (loc : Nat → Nat) (w : xM) (sz : Nat) (σ : xS) (hN : xN8 σ) (hR : yR cy loc σ w) (n : Int32)   : Met l yX8_bench wsX8_bench rm_X8_bench (va_Pc [.ref (loc (300)), .int (n)] (xP D cy loc w sz)) (va_Qi (fun r u => r = (sp_bench σ n).1 ∧ yOK cy loc w (sp_bench σ n).2 u) (xB D (xA loc w sz)) (xA loc w sz)) 0 0 (xA loc w sz) := by
  refine x_met (cc := cX8_bench) (maxL := 2) (ret := (some .int)) (C := RX8) (by decide) rfl rfl (Nat.le_of_ble_eq_true rfl) ?_
  intro p e s m below meth c ls hx hb hml hr hts hown hlocks hin hP hl
  obtain ⟨hsz, hV, hK⟩ := hP
  subst hsz
  have hA : ∀ q : Nat, s.heap.size ≤ q → xA loc w s.heap.size q := fun q h => Or.inr h
  have hS : va_S (xA loc w s.heap.size) s.heap s.heap [] := va_S.rf
  have hl : lv_has ls 2 [(0, .ref (loc (300))), (1, .int (n))] := hl
  have hNN := hN
  have hRR := hR
  obtain ⟨g0, b0, q0, v0, hw⟩ := hR
  obtain ⟨hN0, hN1, hN2, hN3, hN4, hN5, hN6⟩ := hN
  have f1 : w (300) = some (.inr (8, [.ref (loc (301)), .int (nI (σ.2 0)), .ref (loc (302)), .ref (loc (303)), .ref (loc (304)), .int (nI (σ.2 1)), .ref (loc (305)), .ref (loc (306)), .ref (loc (307)), .ref (loc (308)), .int (v0 0), .int (v0 1), .int (v0 2), .int (v0 3), .int (nI (σ.2 5)), .ref (loc (309)), .ref (loc (310)), .int (v0 4), .int (nI (σ.2 2)), .ref (loc (311)), .int (nI (σ.2 3)), .ref (loc (312)), .ref (loc (313)), .int (σ.1 10 0), .int (σ.1 10 1), .int (nI (σ.2 4)), .ref (loc (314))])) := (hw 0 (by decide)).trans rfl
  have f2 : w (312) = some (eI cy 3 (σ.1 7)) := (hw 12 (by decide)).trans rfl
  refine lv_iload_n hx hb dX8_bench_0 rfl (lv_at hl 1 rfl) ?_
  refine lv_i2l (v := (n).toInt64) hx hb dX8_bench_1 rfl ?_
  refine lv_lconst (v := 1) hx hb dX8_bench_2 (by decide +kernel) ?_
  refine lv_ldc2 (v := 24) hx hb hown (hts (.constantLong RX8 176 (24)) (List.mem_of_getElem? (i := 1) rfl)) dX8_bench_3 ?_
  refine x_ci (va_runS (As := [.long ((n).toInt64), .long (1), .long (24)]) (rest := []) ⟨hx, hb, hml, hown, hts⟩ (c_X8_in l D cy loc w s.heap.size ((n).toInt64) 1 24) (cwS 3 hts gX8_bench_X8_in rfl rfl rfl (by decide +kernel) ⟨Nat.le_of_ble_eq_true rfl, Nat.le_of_ble_eq_true rfl⟩) (x_preS hK hV) rfl rfl hl.1 rfl (lv_room (Nat.le_of_ble_eq_true rfl)) dX8_bench_6 ⟨Nat.le_of_ble_eq_true rfl, Nat.le_of_ble_eq_true rfl⟩) (fun r3 hr4 => ?_)
  have ez5 : xb (nI 1 ≤ n ∧ n ≤ nI 24) = r3 := Eq.symm ((show r3 = xb (1 ≤ ((n).toInt64) ∧ ((n).toInt64) ≤ 24) from hr4).trans (x_in2 rfl rfl))
  subst ez5
  refine x_bne (tgt := 15) hx hb dX8_bench_9 (by decide) (fun c6 => ?_) (fun c6 => ?_)
  · have _u := trivial
    refine lv_aload_n hx hb dX8_bench_15 rfl (lv_at hl 0 rfl) ?_
    refine x_get (C := RX8) (T := TX8) (N := 27) hx hb hts hi_X8_bench_X8 hown hK hV f1 rfl 20 (by decide) (hts (.fieldLink RX8 178 "SaddleHouseModel" "benches" "I") (List.mem_of_getElem? (i := 2) rfl)) (fun _ h9 => h9) rfl dX8_bench_16 ?_
    refine lv_iconst (v := nI 3) hx hb dX8_bench_19 (by decide +kernel) ?_
    refine x_cne hx hb (σ.2 3) (3) (by omega) (by omega) (tgt := 26) dX8_bench_20 (by decide) (fun c7 => ?_) (fun c7 => ?_)
    · have _u := trivial
      have yf_3 : σ.2 3 < 3 := by omega
      refine lv_aload_n hx hb dX8_bench_26 rfl (lv_at hl 0 rfl) ?_
      refine x_get (C := RX8) (T := TX8) (N := 27) hx hb hts hi_X8_bench_X8 hown hK hV f1 rfl 21 (by decide) (hts (.fieldLink RX8 43 "SaddleHouseModel" "hours" "[I") (List.mem_of_getElem? (i := 3) rfl)) (fun _ h9 => h9) rfl dX8_bench_27 ?_
      refine lv_aload_n hx hb dX8_bench_30 rfl (lv_at hl 0 rfl) ?_
      refine x_get (C := RX8) (T := TX8) (N := 27) hx hb hts hi_X8_bench_X8 hown hK hV f1 rfl 20 (by decide) (hts (.fieldLink RX8 178 "SaddleHouseModel" "benches" "I") (List.mem_of_getElem? (i := 2) rfl)) (fun _ h9 => h9) rfl dX8_bench_31 ?_
      refine lv_iload_n hx hb dX8_bench_34 rfl (lv_at hl 1 rfl) ?_
      refine x_iast hx hb hK hV hS f2 (σ.2 3) (by omega) (by decide) dX8_bench_35 (fun H8 L9 hV10 hS11 => ?_)
      have f12 : (xup w (312) (eI cy 3 (upd (σ.1 7) (σ.2 3) n))) (300) = some (.inr (8, [.ref (loc (301)), .int (nI (σ.2 0)), .ref (loc (302)), .ref (loc (303)), .ref (loc (304)), .int (nI (σ.2 1)), .ref (loc (305)), .ref (loc (306)), .ref (loc (307)), .ref (loc (308)), .int (v0 0), .int (v0 1), .int (v0 2), .int (v0 3), .int (nI (σ.2 5)), .ref (loc (309)), .ref (loc (310)), .int (v0 4), .int (nI (σ.2 2)), .ref (loc (311)), .int (nI (σ.2 3)), .ref (loc (312)), .ref (loc (313)), .int (σ.1 10 0), .int (σ.1 10 1), .int (nI (σ.2 4)), .ref (loc (314))])) := xup_o (f1) (by omega)
      have f13 : (xup w (312) (eI cy 3 (upd (σ.1 7) (σ.2 3) n))) (312) = some (eI cy 3 (upd (σ.1 7) (σ.2 3) n)) := xup_at _ _ _
      refine lv_aload_n hx hb dX8_bench_36 rfl (lv_at hl 0 rfl) ?_
      refine lv_dup hx hb dX8_bench_37 rfl ?_
      refine x_get (C := RX8) (T := TX8) (N := 27) hx hb hts hi_X8_bench_X8 hown hK hV10 f12 rfl 20 (by decide) (hts (.fieldLink RX8 178 "SaddleHouseModel" "benches" "I") (List.mem_of_getElem? (i := 2) rfl)) (fun _ h9 => h9) rfl dX8_bench_38 ?_
      refine lv_iconst (v := nI 1) hx hb dX8_bench_41 (by decide +kernel) ?_
      refine x_iadd hx hb (σ.2 3) (1) dX8_bench_42 ?_
      refine x_putf (C := RX8) (T := TX8) (N := 27) (v := .int (nI ((σ.2 3) + 1))) (ty := .int) hx hb hts hi_X8_bench_X8 tyX8 tyX8_ok nmX8 hown hK hV10 hS11 f12 rfl 20 (by decide) (hts (.fieldLink RX8 178 "SaddleHouseModel" "benches" "I") (List.mem_of_getElem? (i := 2) rfl)) (fun _ h9 => h9) rfl (by decide +kernel) rfl rfl (Nat.le_of_ble_eq_true rfl) dX8_bench_43 (fun H14 L15 hV16 hS17 => ?_)
      have f18 : (xup (xup w (312) (eI cy 3 (upd (σ.1 7) (σ.2 3) n))) (300) (.inr (8, [.ref (loc (301)), .int (nI (σ.2 0)), .ref (loc (302)), .ref (loc (303)), .ref (loc (304)), .int (nI (σ.2 1)), .ref (loc (305)), .ref (loc (306)), .ref (loc (307)), .ref (loc (308)), .int (v0 0), .int (v0 1), .int (v0 2), .int (v0 3), .int (nI (σ.2 5)), .ref (loc (309)), .ref (loc (310)), .int (v0 4), .int (nI (σ.2 2)), .ref (loc (311)), .int (nI ((σ.2 3) + 1)), .ref (loc (312)), .ref (loc (313)), .int (σ.1 10 0), .int (σ.1 10 1), .int (nI (σ.2 4)), .ref (loc (314))]))) (300) = some (.inr (8, [.ref (loc (301)), .int (nI (σ.2 0)), .ref (loc (302)), .ref (loc (303)), .ref (loc (304)), .int (nI (σ.2 1)), .ref (loc (305)), .ref (loc (306)), .ref (loc (307)), .ref (loc (308)), .int (v0 0), .int (v0 1), .int (v0 2), .int (v0 3), .int (nI (σ.2 5)), .ref (loc (309)), .ref (loc (310)), .int (v0 4), .int (nI (σ.2 2)), .ref (loc (311)), .int (nI ((σ.2 3) + 1)), .ref (loc (312)), .ref (loc (313)), .int (σ.1 10 0), .int (σ.1 10 1), .int (nI (σ.2 4)), .ref (loc (314))])) := xup_at _ _ _
      have f19 : (xup (xup w (312) (eI cy 3 (upd (σ.1 7) (σ.2 3) n))) (300) (.inr (8, [.ref (loc (301)), .int (nI (σ.2 0)), .ref (loc (302)), .ref (loc (303)), .ref (loc (304)), .int (nI (σ.2 1)), .ref (loc (305)), .ref (loc (306)), .ref (loc (307)), .ref (loc (308)), .int (v0 0), .int (v0 1), .int (v0 2), .int (v0 3), .int (nI (σ.2 5)), .ref (loc (309)), .ref (loc (310)), .int (v0 4), .int (nI (σ.2 2)), .ref (loc (311)), .int (nI ((σ.2 3) + 1)), .ref (loc (312)), .ref (loc (313)), .int (σ.1 10 0), .int (σ.1 10 1), .int (nI (σ.2 4)), .ref (loc (314))]))) (312) = some (eI cy 3 (upd (σ.1 7) (σ.2 3) n)) := xup_o (xup_at _ _ _) (by omega)
      refine lv_aload_n hx hb dX8_bench_46 rfl (lv_at hl 0 rfl) ?_
      refine x_get (C := RX8) (T := TX8) (N := 27) hx hb hts hi_X8_bench_X8 hown hK hV16 f18 rfl 20 (by decide) (hts (.fieldLink RX8 178 "SaddleHouseModel" "benches" "I") (List.mem_of_getElem? (i := 2) rfl)) (fun _ h9 => h9) rfl dX8_bench_47 ?_
      refine lv_iconst (v := nI 1) hx hb dX8_bench_50 (by decide +kernel) ?_
      refine x_isub hx hb ((σ.2 3) + 1) (1) (by omega) dX8_bench_51 ?_
      exact x_rmi hx hb hr hlocks dX8_bench_52 hV16 hS17 (y_lf (by simp only [sp_bench, c6, c7, yf_3, if_true, if_false, ite_true, ite_false, not_true_eq_false, not_false_eq_true, and_true, true_and, and_false, false_and, or_true, true_or, or_false, false_or, and_self, or_self, Nat.add_sub_cancel, Nat.add_eq_zero_iff, Nat.one_ne_zero, eq_self, Nat.not_lt]) (yOK_bench hw n))
    · have _u := trivial
      have yf_3 : (σ.2 3 < 3) = False := eq_false (by omega)
      refine lv_bipush (v := -104) hx hb dX8_bench_23 (by decide +kernel) ?_
      exact x_rmi hx hb hr hlocks dX8_bench_25 hV hS (y_lf (by simp only [sp_bench, c6, yf_3, if_true, if_false, ite_true, ite_false, not_true_eq_false, not_false_eq_true, and_true, true_and, and_false, false_and, or_true, true_or, or_false, false_or, and_self, or_self, Nat.add_sub_cancel, Nat.add_eq_zero_iff, Nat.one_ne_zero, eq_self, Nat.not_lt]) (yOK_id hRR))
  · have _u := trivial
    refine lv_bipush (v := -102) hx hb dX8_bench_12 (by decide +kernel) ?_
    exact x_rmi hx hb hr hlocks dX8_bench_14 hV hS (y_lf (by simp only [sp_bench, c6, if_true, if_false, ite_true, ite_false, not_true_eq_false, not_false_eq_true, and_true, true_and, and_false, false_and, or_true, true_or, or_false, false_or, and_self, or_self, Nat.add_sub_cancel, Nat.add_eq_zero_iff, Nat.one_ne_zero, eq_self, Nat.not_lt]) (yOK_id hRR))
