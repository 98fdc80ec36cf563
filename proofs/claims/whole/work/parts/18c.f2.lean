abbrev rm_X7_flaw : Room := { frames := 2, cells := 0, slots := 0, locals := 43 }
theorem hi_X7_flaw_X1 : ∀ w ∈ wsX10, w ∈ wsX7_flaw := fun w h => List.mem_cons_of_mem _ (List.mem_append_left _ (List.mem_append_right _ h))
set_option maxHeartbeats 4000000 in
set_option maxRecDepth 100000 in
theorem c_X7_flaw (l : Launch) (D : va_G) (cy : Nat → ClassId) (loc : Nat → Nat) (w : xM) (sz : Nat) (σ : xS) (hN : xN8 σ) (hR : xR cy loc σ w) (n x y : Int32)  : Met l yX7_flaw wsX7_flaw rm_X7_flaw (va_Pc [.ref (loc (0)), .int (n), .int (x), .int (y)] (xP D cy loc w sz)) (va_Qi (fun r u => r = (sp_flaw σ n x y).1 ∧ xOK cy loc w (sp_flaw σ n x y).2 u) (xB D (xA loc w sz)) (xA loc w sz)) 0 0 (xA loc w sz) := by
  refine x_met (cc := cX7_flaw) (maxL := 7) (ret := (some .int)) (C := RX7) (by decide) rfl rfl (Nat.le_of_ble_eq_true rfl) ?_
  intro p e s m below meth c ls hx hb hml hr hts hown hlocks hin hP hl
  obtain ⟨hsz, hV, hK⟩ := hP
  subst hsz
  have hA : ∀ q : Nat, s.heap.size ≤ q → xA loc w s.heap.size q := fun q h => Or.inr h
  have hS : va_S (xA loc w s.heap.size) s.heap s.heap [] := va_S.rf
  have hl : lv_has ls 7 [(0, .ref (loc (0))), (1, .int (n)), (2, .int (x)), (3, .int (y))] := hl
  have hNN := hN
  have hRR := hR
  obtain ⟨g0, b0, q0, hw⟩ := hR
  obtain ⟨hN0, hN1, hN2, hN3, hN4, hN5, hN6⟩ := hN
  have f1 : w (0) = some (.inr (7, [.ref (loc (1)), .ref (loc (2)), .ref (loc (3)), .ref (loc (4)), .ref (loc (5)), .ref (loc (6)), .ref (loc (7)), .int (nI (σ.2 0)), .int (nI (σ.2 1)), .int (nI (σ.2 2)), .int (nI (σ.2 3)), .int (nI (σ.2 4)), .int (nI (σ.2 5)), .int (nI (σ.2 6)), .int (σ.1 10 1), .int (σ.1 10 0), .ref (loc (8)), .ref (loc (11))])) := (hw 0 (by decide)).trans rfl
  refine lv_aload_n hx hb dX7_flaw_0 rfl (lv_at hl 0 rfl) ?_
  refine lv_iload_n hx hb dX7_flaw_1 rfl (lv_at hl 1 rfl) ?_
  refine x_cq (va_runV (As := [.int (n)]) (rest := []) ⟨hx, hb, hml, hown, hts⟩ (c_X7_hideAt l D cy loc w s.heap.size σ ⟨hN0, hN1, hN2, hN3, hN4, hN5, hN6⟩ hRR n) (cwV 1 hts gX7_flaw_X7_hideAt rfl rfl rfl (by decide +kernel) ⟨Nat.le_of_ble_eq_true rfl, Nat.le_of_ble_eq_true rfl⟩) (x_preV hK hV f1 rfl) rfl rfl hl.1 rfl (lv_room (Nat.le_of_ble_eq_true rfl)) dX7_flaw_2 ⟨Nat.le_of_ble_eq_true rfl, Nat.le_of_ble_eq_true rfl⟩) (fun r2 hr3 => ?_)
  rcases xat_or (fun k => loc (180 + k)) n (show σ.2 2 < 2 ^ 31 by omega) with ⟨kh, h_kh, e_kh, p_kh, eq4⟩ | ⟨p_kh, eq4⟩
  · refine x_topr (Eq.trans (show _ = _ from hr3) eq4) ?_
    subst e_kh
    have f5 : w (180 + kh) = some (.inr (1, [.ref (loc (190 + kh))])) := ((hw (180 + kh) (by omega)).trans (xC_180 (by omega) (by omega)))
    have f6 : w (190 + kh) = some (eI cy 192 (xsl 192 (σ.1 6) (192 * kh))) := ((hw (190 + kh) (by omega)).trans (xC_190 (by omega) (by omega)))
    have k_kh : (nI kh).toNatClampNeg = kh := nI_clamp (by omega)
    refine lv_astore (lv' := [(4, .ref (loc (180 + kh))), (0, .ref (loc (0))), (1, .int (nI (kh))), (2, .int (x)), (3, .int (y))]) hx hb dX7_flaw_5 hl (by decide) rfl (fun ls hl => ?_)
    refine lv_aload hx hb dX7_flaw_7 (lv_at hl 0 rfl) ?_
    refine lv_ifnull hx hb dX7_flaw_9 ?_
    refine lv_iload_n hx hb dX7_flaw_12 rfl (lv_at hl 3 rfl) ?_
    refine lv_iload_n hx hb dX7_flaw_13 rfl (lv_at hl 4 rfl) ?_
    refine x_ci (va_runS (As := [.int (x), .int (y)]) (rest := []) ⟨hx, hb, hml, hown, hts⟩ (c_X7_isPatch l D cy loc w s.heap.size x y) (cwS 2 hts gX7_flaw_X7_isPatch rfl rfl rfl (by decide +kernel) ⟨Nat.le_of_ble_eq_true rfl, Nat.le_of_ble_eq_true rfl⟩) (x_preS hK hV) rfl rfl hl.1 rfl (lv_room (Nat.le_of_ble_eq_true rfl)) dX7_flaw_14 ⟨Nat.le_of_ble_eq_true rfl, Nat.le_of_ble_eq_true rfl⟩) (fun r7 hr8 => ?_)
    have ez9 : xb ((nI 0 ≤ x ∧ x ≤ nI 15) ∧ nI 0 ≤ y ∧ y ≤ nI 11) = r7 := Eq.symm (show r7 = xb ((nI 0 ≤ x ∧ x ≤ nI 15) ∧ nI 0 ≤ y ∧ y ≤ nI 11) from hr8)
    subst ez9
    refine x_bne (tgt := 23) hx hb dX7_flaw_17 (by decide) (fun c10 => ?_) (fun c10 => ?_)
    · have _u := trivial
      have y12 : (nI 1 = nI 2) = False := eq_false (by decide)
      obtain ⟨xx, h_xx, e_xx⟩ := x_rng (by decide) c10.1
      subst e_xx
      have k_xx : (nI xx).toNatClampNeg = xx := nI_clamp (by omega)
      obtain ⟨yy, h_yy, e_yy⟩ := x_rng (by decide) c10.2
      subst e_yy
      have k_yy : (nI yy).toNatClampNeg = yy := nI_clamp (by omega)
      refine lv_bipush (v := nI 16) hx hb dX7_flaw_23 (by decide +kernel) ?_
      refine lv_iload_n hx hb dX7_flaw_25 rfl (lv_at hl 4 rfl) ?_
      refine x_imul hx hb (16) (yy) dX7_flaw_26 ?_
      refine lv_iload_n hx hb dX7_flaw_27 rfl (lv_at hl 3 rfl) ?_
      refine x_iadd hx hb (16 * yy) (xx) dX7_flaw_28 ?_
      refine lv_istore (lv' := [(5, .int (nI ((16 * yy) + xx))), (4, .ref (loc (180 + kh))), (0, .ref (loc (0))), (1, .int (nI (kh))), (2, .int (nI (xx))), (3, .int (nI (yy)))]) hx hb dX7_flaw_29 hl (by decide) rfl (fun ls hl => ?_)
      refine lv_aload hx hb dX7_flaw_31 (lv_at hl 1 rfl) ?_
      refine x_getN (C := RX1) (T := TX1) (N := 1) (ref := "SaddleHouse$Hide") (host := RX7) hx hb hts hi_X7_flaw_X1 hown hK hV f5 rfl 0 (by decide) (by decide +kernel) (fun _ h9 => h9) rfl dX7_flaw_33 ?_
      refine lv_iload hx hb dX7_flaw_36 (lv_at hl 0 rfl) ?_
      refine x_iald hx hb hK hV f6 ((16 * yy) + xx) (by omega) (by decide) dX7_flaw_38 ?_
      refine x_top (congrArg Value.int (show _ = σ.1 6 (192 * kh + (16 * yy + xx)) from xsl_at (by omega))) ?_
      refine lv_istore (lv' := [(6, .int (σ.1 6 (192 * kh + (16 * yy + xx)))), (5, .int (nI ((16 * yy) + xx))), (4, .ref (loc (180 + kh))), (0, .ref (loc (0))), (1, .int (nI (kh))), (2, .int (nI (xx))), (3, .int (nI (yy)))]) hx hb dX7_flaw_39 hl (by decide) rfl (fun ls hl => ?_)
      refine lv_iload hx hb dX7_flaw_41 (lv_at hl 0 rfl) ?_
      refine lv_iconst (v := nI 2) hx hb dX7_flaw_43 (by decide +kernel) ?_
      refine lv_icmp_ne (tgt := 50) hx hb dX7_flaw_44 (by decide) (fun c11 => ?_) (fun c11 => ?_)
      · have _u := trivial
        refine lv_aload hx hb dX7_flaw_50 (lv_at hl 2 rfl) ?_
        refine x_getN (C := RX1) (T := TX1) (N := 1) (ref := "SaddleHouse$Hide") (host := RX7) hx hb hts hi_X7_flaw_X1 hown hK hV f5 rfl 0 (by decide) (by decide +kernel) (fun _ h9 => h9) rfl dX7_flaw_52 ?_
        refine lv_iload hx hb dX7_flaw_55 (lv_at hl 1 rfl) ?_
        refine lv_iconst (v := nI 1) hx hb dX7_flaw_57 (by decide +kernel) ?_
        refine x_iast hx hb hK hV hS f6 ((16 * yy) + xx) (by omega) (by decide) dX7_flaw_58 (fun H12 L13 hV14 hS15 => ?_)
        have f16 : (xup w (190 + kh) (eI cy 192 (upd (xsl 192 (σ.1 6) (192 * kh)) ((16 * yy) + xx) (nI 1)))) (0) = some (.inr (7, [.ref (loc (1)), .ref (loc (2)), .ref (loc (3)), .ref (loc (4)), .ref (loc (5)), .ref (loc (6)), .ref (loc (7)), .int (nI (σ.2 0)), .int (nI (σ.2 1)), .int (nI (σ.2 2)), .int (nI (σ.2 3)), .int (nI (σ.2 4)), .int (nI (σ.2 5)), .int (nI (σ.2 6)), .int (σ.1 10 1), .int (σ.1 10 0), .ref (loc (8)), .ref (loc (11))])) := xup_o (f1) (by omega)
        have f17 : (xup w (190 + kh) (eI cy 192 (upd (xsl 192 (σ.1 6) (192 * kh)) ((16 * yy) + xx) (nI 1)))) (180 + kh) = some (.inr (1, [.ref (loc (190 + kh))])) := xup_o (((hw (180 + kh) (by omega)).trans (xC_180 (by omega) (by omega)))) (by omega)
        have f18 : (xup w (190 + kh) (eI cy 192 (upd (xsl 192 (σ.1 6) (192 * kh)) ((16 * yy) + xx) (nI 1)))) (190 + kh) = some (eI cy 192 (upd (xsl 192 (σ.1 6) (192 * kh)) ((16 * yy) + xx) (nI 1))) := xup_at _ _ _
        refine lv_iload hx hb dX7_flaw_59 (lv_at hl 0 rfl) ?_
        refine lv_iconst (v := nI 1) hx hb dX7_flaw_61 (by decide +kernel) ?_
        refine lv_icmp_ne (tgt := 69) hx hb dX7_flaw_62 (by decide) (fun c19 => ?_) (fun c19 => ?_)
        · have _u := trivial
          refine lv_iconst (v := nI 0) hx hb dX7_flaw_69 (by decide +kernel) ?_
          exact x_rmi hx hb hr hlocks dX7_flaw_70 hV14 hS15 (x_lf (by simp only [sp_flaw, p_kh, k_kh, c10, y12, k_xx, k_yy, c11, c19, if_true, if_false, ite_true, ite_false, not_true_eq_false, not_false_eq_true, and_true, true_and, and_false, false_and, or_true, true_or, or_false, false_or, and_self, or_self, Nat.add_sub_cancel, Nat.add_eq_zero_iff, Nat.one_ne_zero, eq_self, Nat.not_lt]) (xOK_flaw hRR kh (16 * yy + xx) (nI 1) h_kh (by omega) (by omega)))
        · have _u := trivial
          refine lv_iconst (v := nI 1) hx hb dX7_flaw_65 (by decide +kernel) ?_
          refine lv_goto (tgt := 70) hx hb dX7_flaw_66 (by decide) ?_
          exact x_rmi hx hb hr hlocks dX7_flaw_70 hV14 hS15 (x_lf (by simp only [sp_flaw, p_kh, k_kh, c10, y12, k_xx, k_yy, c11, c19, if_true, if_false, ite_true, ite_false, not_true_eq_false, not_false_eq_true, and_true, true_and, and_false, false_and, or_true, true_or, or_false, false_or, and_self, or_self, Nat.add_sub_cancel, Nat.add_eq_zero_iff, Nat.one_ne_zero, eq_self, Nat.not_lt]) (xOK_flaw hRR kh (16 * yy + xx) (nI 1) h_kh (by omega) (by omega)))
      · have _u := trivial
        refine lv_bipush (v := -103) hx hb dX7_flaw_47 (by decide +kernel) ?_
        exact x_rmi hx hb hr hlocks dX7_flaw_49 hV hS (x_lf (by simp only [sp_flaw, p_kh, k_kh, c10, y12, k_xx, k_yy, c11, if_true, if_false, ite_true, ite_false, not_true_eq_false, not_false_eq_true, and_true, true_and, and_false, false_and, or_true, true_or, or_false, false_or, and_self, or_self, Nat.add_sub_cancel, Nat.add_eq_zero_iff, Nat.one_ne_zero, eq_self, Nat.not_lt]) (xOK_id hRR))
    · have _u := trivial
      refine lv_bipush (v := -101) hx hb dX7_flaw_20 (by decide +kernel) ?_
      exact x_rmi hx hb hr hlocks dX7_flaw_22 hV hS (x_lf (by simp only [sp_flaw, p_kh, k_kh, c10, if_true, if_false, ite_true, ite_false, not_true_eq_false, not_false_eq_true, and_true, true_and, and_false, false_and, or_true, true_or, or_false, false_or, and_self, or_self, Nat.add_sub_cancel, Nat.add_eq_zero_iff, Nat.one_ne_zero, eq_self, Nat.not_lt]) (xOK_id hRR))
  · refine x_topn (Eq.trans (show _ = _ from hr3) eq4) ?_
    refine lv_astoreN (lv' := [(4, .null), (0, .ref (loc (0))), (1, .int (n)), (2, .int (x)), (3, .int (y))]) hx hb dX7_flaw_5 hl (by decide) rfl (fun ls hl => ?_)
    refine lv_aloadN hx hb dX7_flaw_7 (lv_at hl 0 rfl) ?_
    refine lv_ifnullN (tgt := 20) hx hb dX7_flaw_9 (by decide) ?_
    refine lv_bipush (v := -101) hx hb dX7_flaw_20 (by decide +kernel) ?_
    exact x_rmi hx hb hr hlocks dX7_flaw_22 hV hS (x_lf (by simp only [sp_flaw, p_kh, if_true, if_false, ite_true, ite_false, not_true_eq_false, not_false_eq_true, and_true, true_and, and_false, false_and, or_true, true_or, or_false, false_or, and_self, or_self, Nat.add_sub_cancel, Nat.add_eq_zero_iff, Nat.one_ne_zero, eq_self, Nat.not_lt]) (xOK_id hRR))
