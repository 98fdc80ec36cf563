abbrev rm_X8_serves : Room := { frames := 4, cells := 0, slots := 0, locals := 102 }
set_option maxHeartbeats 4000000 in
set_option maxRecDepth 100000 in
theorem c_X8_serves (l : Launch) (D : va_G) (cy : Nat → ClassId) (loc : Nat → Nat) (w : xM) (sz : Nat) (σ : xS) (hN : xN8 σ) (hR : yR cy loc σ w) (bits ld m0 : Int32) (hB : xBd σ)   : Met l yX8_serves wsX8_serves rm_X8_serves (va_Pc [.ref (loc (300)), .int (bits), .int (ld), .int (m0)] (xP D cy loc w sz)) (va_Qi (fun r u => r = sp_serves σ bits ld m0 ∧ yOK cy loc w σ u) (xB D (xA loc w sz)) (xA loc w sz)) 0 0 (xA loc w sz) := by
  refine x_met (cc := cX8_serves) (maxL := 4) (ret := (some .int)) (C := RX8) (by decide) rfl rfl (Nat.le_of_ble_eq_true rfl) ?_
  intro p e s m below meth c ls hx hb hml hr hts hown hlocks hin hP hl
  obtain ⟨hsz, hV, hK⟩ := hP
  subst hsz
  have hA : ∀ q : Nat, s.heap.size ≤ q → xA loc w s.heap.size q := fun q h => Or.inr h
  have hS : va_S (xA loc w s.heap.size) s.heap s.heap [] := va_S.rf
  have hl : lv_has ls 4 [(0, .ref (loc (300))), (1, .int (bits)), (2, .int (ld)), (3, .int (m0))] := hl
  have hNN := hN
  have hRR := hR
  obtain ⟨g0, b0, q0, v0, hw⟩ := hR
  obtain ⟨hN0, hN1, hN2, hN3, hN4, hN5, hN6⟩ := hN
  have f1 : w (300) = some (.inr (8, [.ref (loc (301)), .int (nI (σ.2 0)), .ref (loc (302)), .ref (loc (303)), .ref (loc (304)), .int (nI (σ.2 1)), .ref (loc (305)), .ref (loc (306)), .ref (loc (307)), .ref (loc (308)), .int (v0 0), .int (v0 1), .int (v0 2), .int (v0 3), .int (nI (σ.2 5)), .ref (loc (309)), .ref (loc (310)), .int (v0 4), .int (nI (σ.2 2)), .ref (loc (311)), .int (nI (σ.2 3)), .ref (loc (312)), .ref (loc (313)), .int (σ.1 10 0), .int (σ.1 10 1), .int (nI (σ.2 4)), .ref (loc (314))])) := (hw 0 (by decide)).trans rfl
  have f2 : w (307) = some (eI cy 9 (g0)) := (hw 7 (by decide)).trans rfl
  have f3 : w (308) = some (eI cy 9 (b0)) := (hw 8 (by decide)).trans rfl
  have f4 : w (310) = some (eI cy 48 (q0)) := (hw 10 (by decide)).trans rfl
  refine lv_iload_n hx hb dX8_serves_0 rfl (lv_at hl 2 rfl) ?_
  refine x_ci (va_runS (As := [.int (ld)]) (rest := []) ⟨hx, hb, hml, hown, hts⟩ (c_X8_isLoad l D cy loc w s.heap.size ld) (cwS 1 hts gX8_serves_X8_isLoad rfl rfl rfl (by decide +kernel) ⟨Nat.le_of_ble_eq_true rfl, Nat.le_of_ble_eq_true rfl⟩) (x_preS hK hV) rfl rfl hl.1 rfl (lv_room (Nat.le_of_ble_eq_true rfl)) dX8_serves_1 ⟨Nat.le_of_ble_eq_true rfl, Nat.le_of_ble_eq_true rfl⟩) (fun r5 hr6 => ?_)
  have ez7 : xb (nI 1 ≤ ld ∧ ld ≤ nI 2000) = r5 := Eq.symm (show r5 = xb (nI 1 ≤ ld ∧ ld ≤ nI 2000) from hr6)
  subst ez7
  refine x_beq (tgt := 14) hx hb dX8_serves_4 (by decide) (fun c8 => ?_) (fun c8 => ?_)
  · have _u := trivial
    refine lv_bipush (v := -102) hx hb dX8_serves_14 (by decide +kernel) ?_
    exact x_rmi hx hb hr hlocks dX8_serves_16 hV hS (⟨by show _ = _; simp only [sp_serves, c8, if_true, if_false, ite_true, ite_false, not_true_eq_false, not_false_eq_true, and_true, true_and, and_false, false_and, or_true, true_or, or_false, false_or, and_self, or_self], yOK_id hRR⟩)
  · have _u := trivial
    obtain ⟨ll, h_ll, h_ll', e_ll⟩ := x_rng1 (by decide) (by decide) c8
    subst e_ll
    have k_ll : (nI ll).toNatClampNeg = ll := nI_clamp (by omega)
    refine lv_iload_n hx hb dX8_serves_7 rfl (lv_at hl 3 rfl) ?_
    refine x_ci (va_runS (As := [.int (m0)]) (rest := []) ⟨hx, hb, hml, hown, hts⟩ (c_X8_isLoad l D cy loc w s.heap.size m0) (cwS 1 hts gX8_serves_X8_isLoad rfl rfl rfl (by decide +kernel) ⟨Nat.le_of_ble_eq_true rfl, Nat.le_of_ble_eq_true rfl⟩) (x_preS hK hV) rfl rfl hl.1 rfl (lv_room (Nat.le_of_ble_eq_true rfl)) dX8_serves_8 ⟨Nat.le_of_ble_eq_true rfl, Nat.le_of_ble_eq_true rfl⟩) (fun r9 hr10 => ?_)
    have ez11 : xb (nI 1 ≤ m0 ∧ m0 ≤ nI 2000) = r9 := Eq.symm (show r9 = xb (nI 1 ≤ m0 ∧ m0 ≤ nI 2000) from hr10)
    subst ez11
    refine x_bne (tgt := 17) hx hb dX8_serves_11 (by decide) (fun c12 => ?_) (fun c12 => ?_)
    · have _u := trivial
      refine lv_aload_n hx hb dX8_serves_17 rfl (lv_at hl 0 rfl) ?_
      refine lv_iload_n hx hb dX8_serves_18 rfl (lv_at hl 2 rfl) ?_
      refine lv_iload_n hx hb dX8_serves_19 rfl (lv_at hl 3 rfl) ?_
      refine x_mv (va_runV (As := [.int (nI (ll)), .int (m0)]) (rest := []) ⟨hx, hb, hml, hown, hts⟩ (c_X8_findFitting l D cy loc w s.heap.size σ hNN hRR hB ll h_ll h_ll' m0) (cwV 2 hts gX8_serves_X8_findFitting rfl rfl rfl (by decide +kernel) ⟨Nat.le_of_ble_eq_true rfl, Nat.le_of_ble_eq_true rfl⟩) (x_preV hK hV f1 rfl) rfl rfl hl.1 rfl (lv_room (Nat.le_of_ble_eq_true rfl)) dX8_serves_20 ⟨Nat.le_of_ble_eq_true rfl, Nat.le_of_ble_eq_true rfl⟩) hV hS hA (fun loc20 w19 H15 L16 hr14 hV17 hS18 => ?_)
      obtain ⟨ct, g1, b1, v1, x0, x1, x2, x3, hct, hag, e1, e2⟩ := hr14
      have e1 : loc = loc20 := Eq.symm e1
      subst e1
      have e2 := Eq.symm e2
      subst e2
      have f21 : (xup (xup (xup (xup w (300) (.inr (8, [.ref (loc (301)), .int (nI (σ.2 0)), .ref (loc (302)), .ref (loc (303)), .ref (loc (304)), .int (nI (σ.2 1)), .ref (loc (305)), .ref (loc (306)), .ref (loc (307)), .ref (loc (308)), .int (x0), .int (x1), .int (x2), .int (x3), .int (nI (σ.2 5)), .ref (loc (309)), .ref (loc (310)), .int (nI (ct)), .int (nI (σ.2 2)), .ref (loc (311)), .int (nI (σ.2 3)), .ref (loc (312)), .ref (loc (313)), .int (σ.1 10 0), .int (σ.1 10 1), .int (nI (σ.2 4)), .ref (loc (314))]))) (307) (eI cy 9 (g1))) (308) (eI cy 9 (b1))) (310) (eI cy 48 (v1))) (300) = some (.inr (8, [.ref (loc (301)), .int (nI (σ.2 0)), .ref (loc (302)), .ref (loc (303)), .ref (loc (304)), .int (nI (σ.2 1)), .ref (loc (305)), .ref (loc (306)), .ref (loc (307)), .ref (loc (308)), .int (x0), .int (x1), .int (x2), .int (x3), .int (nI (σ.2 5)), .ref (loc (309)), .ref (loc (310)), .int (nI (ct)), .int (nI (σ.2 2)), .ref (loc (311)), .int (nI (σ.2 3)), .ref (loc (312)), .ref (loc (313)), .int (σ.1 10 0), .int (σ.1 10 1), .int (nI (σ.2 4)), .ref (loc (314))])) := xup_o (xup_o (xup_o (xup_at _ _ _) (by omega)) (by omega)) (by omega)
      have f22 : (xup (xup (xup (xup w (300) (.inr (8, [.ref (loc (301)), .int (nI (σ.2 0)), .ref (loc (302)), .ref (loc (303)), .ref (loc (304)), .int (nI (σ.2 1)), .ref (loc (305)), .ref (loc (306)), .ref (loc (307)), .ref (loc (308)), .int (x0), .int (x1), .int (x2), .int (x3), .int (nI (σ.2 5)), .ref (loc (309)), .ref (loc (310)), .int (nI (ct)), .int (nI (σ.2 2)), .ref (loc (311)), .int (nI (σ.2 3)), .ref (loc (312)), .ref (loc (313)), .int (σ.1 10 0), .int (σ.1 10 1), .int (nI (σ.2 4)), .ref (loc (314))]))) (307) (eI cy 9 (g1))) (308) (eI cy 9 (b1))) (310) (eI cy 48 (v1))) (307) = some (eI cy 9 (g1)) := xup_o (xup_o (xup_at _ _ _) (by omega)) (by omega)
      have f23 : (xup (xup (xup (xup w (300) (.inr (8, [.ref (loc (301)), .int (nI (σ.2 0)), .ref (loc (302)), .ref (loc (303)), .ref (loc (304)), .int (nI (σ.2 1)), .ref (loc (305)), .ref (loc (306)), .ref (loc (307)), .ref (loc (308)), .int (x0), .int (x1), .int (x2), .int (x3), .int (nI (σ.2 5)), .ref (loc (309)), .ref (loc (310)), .int (nI (ct)), .int (nI (σ.2 2)), .ref (loc (311)), .int (nI (σ.2 3)), .ref (loc (312)), .ref (loc (313)), .int (σ.1 10 0), .int (σ.1 10 1), .int (nI (σ.2 4)), .ref (loc (314))]))) (307) (eI cy 9 (g1))) (308) (eI cy 9 (b1))) (310) (eI cy 48 (v1))) (308) = some (eI cy 9 (b1)) := xup_o (xup_at _ _ _) (by omega)
      have f24 : (xup (xup (xup (xup w (300) (.inr (8, [.ref (loc (301)), .int (nI (σ.2 0)), .ref (loc (302)), .ref (loc (303)), .ref (loc (304)), .int (nI (σ.2 1)), .ref (loc (305)), .ref (loc (306)), .ref (loc (307)), .ref (loc (308)), .int (x0), .int (x1), .int (x2), .int (x3), .int (nI (σ.2 5)), .ref (loc (309)), .ref (loc (310)), .int (nI (ct)), .int (nI (σ.2 2)), .ref (loc (311)), .int (nI (σ.2 3)), .ref (loc (312)), .ref (loc (313)), .int (σ.1 10 0), .int (σ.1 10 1), .int (nI (σ.2 4)), .ref (loc (314))]))) (307) (eI cy 9 (g1))) (308) (eI cy 9 (b1))) (310) (eI cy 48 (v1))) (310) = some (eI cy 48 (v1)) := xup_at _ _ _
      refine lv_aload_n hx hb dX8_serves_23 rfl (lv_at hl 0 rfl) ?_
      refine lv_iload_n hx hb dX8_serves_24 rfl (lv_at hl 1 rfl) ?_
      refine x_ci (va_runV (As := [.int (bits)]) (rest := []) ⟨hx, hb, hml, hown, hts⟩ (c_X8_servesAll l D cy loc (xup (xup (xup (xup w (300) (.inr (8, [.ref (loc (301)), .int (nI (σ.2 0)), .ref (loc (302)), .ref (loc (303)), .ref (loc (304)), .int (nI (σ.2 1)), .ref (loc (305)), .ref (loc (306)), .ref (loc (307)), .ref (loc (308)), .int (x0), .int (x1), .int (x2), .int (x3), .int (nI (σ.2 5)), .ref (loc (309)), .ref (loc (310)), .int (nI (ct)), .int (nI (σ.2 2)), .ref (loc (311)), .int (nI (σ.2 3)), .ref (loc (312)), .ref (loc (313)), .int (σ.1 10 0), .int (σ.1 10 1), .int (nI (σ.2 4)), .ref (loc (314))]))) (307) (eI cy 9 (g1))) (308) (eI cy 9 (b1))) (310) (eI cy 48 (v1))) H15.size σ x0 x1 x2 x3 v1 ct hct bits f21 f24) (cwV 1 hts gX8_serves_X8_servesAll rfl rfl rfl (by decide +kernel) ⟨Nat.le_of_ble_eq_true rfl, Nat.le_of_ble_eq_true rfl⟩) (x_preV hK hV17 f21 rfl) rfl rfl hl.1 rfl (lv_room (Nat.le_of_ble_eq_true rfl)) dX8_serves_25 ⟨Nat.le_of_ble_eq_true rfl, Nat.le_of_ble_eq_true rfl⟩) (fun r25 hr26 => ?_)
      have ez27 : xb (xsv v1 ct bits) = r25 := Eq.symm (show r25 = xb (xsv v1 ct bits) from hr26)
      subst ez27
      refine x_beq (tgt := 35) hx hb dX8_serves_28 (by decide) (fun c28 => ?_) (fun c28 => ?_)
      · have _u := trivial
        refine lv_iconst (v := nI 0) hx hb dX8_serves_35 (by decide +kernel) ?_
        refine W.widen (k := 0) (n := 0) (by omega) (by omega) ?_
        exact x_rmi hx hb hr hlocks dX8_serves_36 hV17 hS18 (⟨by show _ = _; rw [sp_serves, if_neg (fun q => q.elim (fun z => z c8) (fun z => z c12)), k_ll]; exact (xb_f (fun q => c28 ((xsv_cong hag bits).mpr q))).symm, yOK_s4 hRR⟩)
      · have _u := trivial
        refine lv_iconst (v := nI 1) hx hb dX8_serves_31 (by decide +kernel) ?_
        refine lv_goto (tgt := 36) hx hb dX8_serves_32 (by decide) ?_
        refine W.widen (k := 0) (n := 0) (by omega) (by omega) ?_
        exact x_rmi hx hb hr hlocks dX8_serves_36 hV17 hS18 (⟨by show _ = _; rw [sp_serves, if_neg (fun q => q.elim (fun z => z c8) (fun z => z c12)), k_ll]; exact (xb_t ((xsv_cong hag bits).mp c28)).symm, yOK_s4 hRR⟩)
    · have _u := trivial
      refine lv_bipush (v := -102) hx hb dX8_serves_14 (by decide +kernel) ?_
      exact x_rmi hx hb hr hlocks dX8_serves_16 hV hS (⟨by show _ = _; simp only [sp_serves, c8, k_ll, c12, if_true, if_false, ite_true, ite_false, not_true_eq_false, not_false_eq_true, and_true, true_and, and_false, false_and, or_true, true_or, or_false, false_or, and_self, or_self], yOK_id hRR⟩)
abbrev rm_X8_fewest : Room := { frames := 4, cells := 0, slots := 0, locals := 102 }
theorem hi_X8_fewest_X8 : ∀ w ∈ wsX80, w ∈ wsX8_fewest := fun w h => List.mem_cons_of_mem _ (List.mem_append_right _ h)
set_option maxHeartbeats 4000000 in
set_option maxRecDepth 100000 in
theorem c_X8_fewest (l : Launch) (D : va_G) (cy : Nat → ClassId) (loc : Nat → Nat) (w : xM) (sz : Nat) (σ : xS) (hN : xN8 σ) (hR : yR cy loc σ w) (ld m0 : Int32) (hB : xBd σ)   : Met l yX8_fewest wsX8_fewest rm_X8_fewest (va_Pc [.ref (loc (300)), .int (ld), .int (m0)] (xP D cy loc w sz)) (va_Qi (fun r u => r = sp_fewest σ ld m0 ∧ yOK cy loc w σ u) (xB D (xA loc w sz)) (xA loc w sz)) 0 0 (xA loc w sz) := by
  refine x_met (cc := cX8_fewest) (maxL := 5) (ret := (some .int)) (C := RX8) (by decide) rfl rfl (Nat.le_of_ble_eq_true rfl) ?_
  intro p e s m below meth c ls hx hb hml hr hts hown hlocks hin hP hl
  obtain ⟨hsz, hV, hK⟩ := hP
  subst hsz
  have hA : ∀ q : Nat, s.heap.size ≤ q → xA loc w s.heap.size q := fun q h => Or.inr h
  have hS : va_S (xA loc w s.heap.size) s.heap s.heap [] := va_S.rf
  have hl : lv_has ls 5 [(0, .ref (loc (300))), (1, .int (ld)), (2, .int (m0))] := hl
  have hNN := hN
  have hRR := hR
  obtain ⟨g0, b0, q0, v0, hw⟩ := hR
  obtain ⟨hN0, hN1, hN2, hN3, hN4, hN5, hN6⟩ := hN
  obtain ⟨N2, hN2, h28⟩ : ∃ z : Nat, z = 2 ^ σ.2 1 ∧ z ≤ 256 := ⟨_, rfl, x_p8 hN1⟩
  have f1 : w (300) = some (.inr (8, [.ref (loc (301)), .int (nI (σ.2 0)), .ref (loc (302)), .ref (loc (303)), .ref (loc (304)), .int (nI (σ.2 1)), .ref (loc (305)), .ref (loc (306)), .ref (loc (307)), .ref (loc (308)), .int (v0 0), .int (v0 1), .int (v0 2), .int (v0 3), .int (nI (σ.2 5)), .ref (loc (309)), .ref (loc (310)), .int (v0 4), .int (nI (σ.2 2)), .ref (loc (311)), .int (nI (σ.2 3)), .ref (loc (312)), .ref (loc (313)), .int (σ.1 10 0), .int (σ.1 10 1), .int (nI (σ.2 4)), .ref (loc (314))])) := (hw 0 (by decide)).trans rfl
  have f2 : w (307) = some (eI cy 9 (g0)) := (hw 7 (by decide)).trans rfl
  have f3 : w (308) = some (eI cy 9 (b0)) := (hw 8 (by decide)).trans rfl
  have f4 : w (310) = some (eI cy 48 (q0)) := (hw 10 (by decide)).trans rfl
  refine lv_iload_n hx hb dX8_fewest_0 rfl (lv_at hl 1 rfl) ?_
  refine x_ci (va_runS (As := [.int (ld)]) (rest := []) ⟨hx, hb, hml, hown, hts⟩ (c_X8_isLoad l D cy loc w s.heap.size ld) (cwS 1 hts gX8_fewest_X8_isLoad rfl rfl rfl (by decide +kernel) ⟨Nat.le_of_ble_eq_true rfl, Nat.le_of_ble_eq_true rfl⟩) (x_preS hK hV) rfl rfl hl.1 rfl (lv_room (Nat.le_of_ble_eq_true rfl)) dX8_fewest_1 ⟨Nat.le_of_ble_eq_true rfl, Nat.le_of_ble_eq_true rfl⟩) (fun r5 hr6 => ?_)
  have ez7 : xb (nI 1 ≤ ld ∧ ld ≤ nI 2000) = r5 := Eq.symm (show r5 = xb (nI 1 ≤ ld ∧ ld ≤ nI 2000) from hr6)
  subst ez7
  refine x_beq (tgt := 14) hx hb dX8_fewest_4 (by decide) (fun c8 => ?_) (fun c8 => ?_)
  · have _u := trivial
    refine lv_bipush (v := -102) hx hb dX8_fewest_14 (by decide +kernel) ?_
    exact x_rmi hx hb hr hlocks dX8_fewest_16 hV hS (⟨by show _ = _; simp only [sp_fewest, c8, if_true, if_false, ite_true, ite_false, not_true_eq_false, not_false_eq_true, and_true, true_and, and_false, false_and, or_true, true_or, or_false, false_or, and_self, or_self], yOK_id hRR⟩)
  · have _u := trivial
    obtain ⟨ll, h_ll, h_ll', e_ll⟩ := x_rng1 (by decide) (by decide) c8
    subst e_ll
    have k_ll : (nI ll).toNatClampNeg = ll := nI_clamp (by omega)
    refine lv_iload_n hx hb dX8_fewest_7 rfl (lv_at hl 2 rfl) ?_
    refine x_ci (va_runS (As := [.int (m0)]) (rest := []) ⟨hx, hb, hml, hown, hts⟩ (c_X8_isLoad l D cy loc w s.heap.size m0) (cwS 1 hts gX8_fewest_X8_isLoad rfl rfl rfl (by decide +kernel) ⟨Nat.le_of_ble_eq_true rfl, Nat.le_of_ble_eq_true rfl⟩) (x_preS hK hV) rfl rfl hl.1 rfl (lv_room (Nat.le_of_ble_eq_true rfl)) dX8_fewest_8 ⟨Nat.le_of_ble_eq_true rfl, Nat.le_of_ble_eq_true rfl⟩) (fun r9 hr10 => ?_)
    have ez11 : xb (nI 1 ≤ m0 ∧ m0 ≤ nI 2000) = r9 := Eq.symm (show r9 = xb (nI 1 ≤ m0 ∧ m0 ≤ nI 2000) from hr10)
    subst ez11
    refine x_bne (tgt := 17) hx hb dX8_fewest_11 (by decide) (fun c12 => ?_) (fun c12 => ?_)
    · have _u := trivial
      refine lv_aload_n hx hb dX8_fewest_17 rfl (lv_at hl 0 rfl) ?_
      refine lv_iload_n hx hb dX8_fewest_18 rfl (lv_at hl 1 rfl) ?_
      refine lv_iload_n hx hb dX8_fewest_19 rfl (lv_at hl 2 rfl) ?_
      refine x_mv (va_runV (As := [.int (nI (ll)), .int (m0)]) (rest := []) ⟨hx, hb, hml, hown, hts⟩ (c_X8_findFitting l D cy loc w s.heap.size σ hNN hRR hB ll h_ll h_ll' m0) (cwV 2 hts gX8_fewest_X8_findFitting rfl rfl rfl (by decide +kernel) ⟨Nat.le_of_ble_eq_true rfl, Nat.le_of_ble_eq_true rfl⟩) (x_preV hK hV f1 rfl) rfl rfl hl.1 rfl (lv_room (Nat.le_of_ble_eq_true rfl)) dX8_fewest_20 ⟨Nat.le_of_ble_eq_true rfl, Nat.le_of_ble_eq_true rfl⟩) hV hS hA (fun loc20 w19 H15 L16 hr14 hV17 hS18 => ?_)
      obtain ⟨ct, g1, b1, v1, x0, x1, x2, x3, hct, hag, e1, e2⟩ := hr14
      have e1 : loc = loc20 := Eq.symm e1
      subst e1
      have e2 := Eq.symm e2
      subst e2
      have f21 : (xup (xup (xup (xup w (300) (.inr (8, [.ref (loc (301)), .int (nI (σ.2 0)), .ref (loc (302)), .ref (loc (303)), .ref (loc (304)), .int (nI (σ.2 1)), .ref (loc (305)), .ref (loc (306)), .ref (loc (307)), .ref (loc (308)), .int (x0), .int (x1), .int (x2), .int (x3), .int (nI (σ.2 5)), .ref (loc (309)), .ref (loc (310)), .int (nI (ct)), .int (nI (σ.2 2)), .ref (loc (311)), .int (nI (σ.2 3)), .ref (loc (312)), .ref (loc (313)), .int (σ.1 10 0), .int (σ.1 10 1), .int (nI (σ.2 4)), .ref (loc (314))]))) (307) (eI cy 9 (g1))) (308) (eI cy 9 (b1))) (310) (eI cy 48 (v1))) (300) = some (.inr (8, [.ref (loc (301)), .int (nI (σ.2 0)), .ref (loc (302)), .ref (loc (303)), .ref (loc (304)), .int (nI (σ.2 1)), .ref (loc (305)), .ref (loc (306)), .ref (loc (307)), .ref (loc (308)), .int (x0), .int (x1), .int (x2), .int (x3), .int (nI (σ.2 5)), .ref (loc (309)), .ref (loc (310)), .int (nI (ct)), .int (nI (σ.2 2)), .ref (loc (311)), .int (nI (σ.2 3)), .ref (loc (312)), .ref (loc (313)), .int (σ.1 10 0), .int (σ.1 10 1), .int (nI (σ.2 4)), .ref (loc (314))])) := xup_o (xup_o (xup_o (xup_at _ _ _) (by omega)) (by omega)) (by omega)
      have f22 : (xup (xup (xup (xup w (300) (.inr (8, [.ref (loc (301)), .int (nI (σ.2 0)), .ref (loc (302)), .ref (loc (303)), .ref (loc (304)), .int (nI (σ.2 1)), .ref (loc (305)), .ref (loc (306)), .ref (loc (307)), .ref (loc (308)), .int (x0), .int (x1), .int (x2), .int (x3), .int (nI (σ.2 5)), .ref (loc (309)), .ref (loc (310)), .int (nI (ct)), .int (nI (σ.2 2)), .ref (loc (311)), .int (nI (σ.2 3)), .ref (loc (312)), .ref (loc (313)), .int (σ.1 10 0), .int (σ.1 10 1), .int (nI (σ.2 4)), .ref (loc (314))]))) (307) (eI cy 9 (g1))) (308) (eI cy 9 (b1))) (310) (eI cy 48 (v1))) (307) = some (eI cy 9 (g1)) := xup_o (xup_o (xup_at _ _ _) (by omega)) (by omega)
      have f23 : (xup (xup (xup (xup w (300) (.inr (8, [.ref (loc (301)), .int (nI (σ.2 0)), .ref (loc (302)), .ref (loc (303)), .ref (loc (304)), .int (nI (σ.2 1)), .ref (loc (305)), .ref (loc (306)), .ref (loc (307)), .ref (loc (308)), .int (x0), .int (x1), .int (x2), .int (x3), .int (nI (σ.2 5)), .ref (loc (309)), .ref (loc (310)), .int (nI (ct)), .int (nI (σ.2 2)), .ref (loc (311)), .int (nI (σ.2 3)), .ref (loc (312)), .ref (loc (313)), .int (σ.1 10 0), .int (σ.1 10 1), .int (nI (σ.2 4)), .ref (loc (314))]))) (307) (eI cy 9 (g1))) (308) (eI cy 9 (b1))) (310) (eI cy 48 (v1))) (308) = some (eI cy 9 (b1)) := xup_o (xup_at _ _ _) (by omega)
      have f24 : (xup (xup (xup (xup w (300) (.inr (8, [.ref (loc (301)), .int (nI (σ.2 0)), .ref (loc (302)), .ref (loc (303)), .ref (loc (304)), .int (nI (σ.2 1)), .ref (loc (305)), .ref (loc (306)), .ref (loc (307)), .ref (loc (308)), .int (x0), .int (x1), .int (x2), .int (x3), .int (nI (σ.2 5)), .ref (loc (309)), .ref (loc (310)), .int (nI (ct)), .int (nI (σ.2 2)), .ref (loc (311)), .int (nI (σ.2 3)), .ref (loc (312)), .ref (loc (313)), .int (σ.1 10 0), .int (σ.1 10 1), .int (nI (σ.2 4)), .ref (loc (314))]))) (307) (eI cy 9 (g1))) (308) (eI cy 9 (b1))) (310) (eI cy 48 (v1))) (310) = some (eI cy 48 (v1)) := xup_at _ _ _
      refine lv_iconst (v := -1) hx hb dX8_fewest_23 (by decide +kernel) ?_
      refine lv_istore_n (lv' := [(3, .int ((-1))), (0, .ref (loc (300))), (1, .int (nI (ll))), (2, .int (m0))]) hx hb dX8_fewest_24 rfl hl (by decide) rfl (fun ls hl => ?_)
      refine lv_iconst (v := nI 0) hx hb dX8_fewest_25 (by decide +kernel) ?_
      refine lv_istore (lv' := [(4, .int (nI (0))), (3, .int ((-1))), (0, .ref (loc (300))), (1, .int (nI (ll))), (2, .int (m0))]) hx hb dX8_fewest_26 hl (by decide) rfl (fun ls hl => ?_)
      have lp28_25 : ∀ (fuel26 : Nat) (a : Int32) (n : Nat) (ls : Array Slot), N2 - n < fuel26 → (n ≤ N2) → (yfw (xsq σ ll m0) n a) → lv_has ls 5 [(4, .int (nI (n))), (3, .int (a)), (0, .ref (loc (300))), (1, .int (nI (ll))), (2, .int (m0))] → W p l e rm_X8_fewest s m ([.ref (loc (300)), .int ((nI ll)), .int (m0)] : List Value).toArray below meth c H15 L16 (0 + 0) (0 + 0) (MQ below (va_Qi (fun r u => r = sp_fewest σ (nI ll) m0 ∧ yOK cy loc w σ u) (xB D (xA loc w s.heap.size)) (xA loc w s.heap.size)) ([.ref (loc (300)), .int ((nI ll)), .int (m0)] : List Value).toArray s 0 0 (xA loc w s.heap.size)) (F0 m 28 ls []) := by
        intro fuel26
        induction fuel26 with
        | zero => intro a n ls hm27; exact absurd hm27 (Nat.not_lt_zero _)
        | succ fuel26 ih28 =>
          intro a n ls hm27 h1 h2  hl
          refine lv_iload hx hb dX8_fewest_28 (lv_at hl 0 rfl) ?_
          refine lv_iconst (v := nI 1) hx hb dX8_fewest_30 (by decide +kernel) ?_
          refine lv_aload_n hx hb dX8_fewest_31 rfl (lv_at hl 2 rfl) ?_
          refine x_get (C := RX8) (T := TX8) (N := 27) hx hb hts hi_X8_fewest_X8 hown hK hV17 f21 rfl 5 (by decide) (hts (.fieldLink RX8 88 "SaddleHouseModel" "trees" "I") (List.mem_of_getElem? (i := 1) rfl)) (fun _ h9 => h9) rfl dX8_fewest_32 ?_
          refine lv_ishl hx hb dX8_fewest_35 ?_
          refine x_top (congrArg Value.int (show _ = nI N2 from (x_sh8 hN1).trans (by rw [hN2]))) ?_
          refine x_cge hx hb (n) (N2) (by omega) (by omega) (tgt := 74) dX8_fewest_36 (by decide) (fun c29 => ?_) (fun c29 => ?_)
          · have _u := trivial
            refine lv_iload_n hx hb dX8_fewest_74 rfl (lv_at hl 1 rfl) ?_
            refine W.widen (k := 0) (n := 0) (by omega) (by omega) ?_
            exact x_rmi hx hb hr hlocks dX8_fewest_75 hV17 hS18 (⟨by show _ = _; rw [sp_fewest, if_neg (fun q => q.elim (fun z => z c8) (fun z => z c12)), k_ll, ← hN2, ← show n = N2 by omega]; exact yfw_e h2, yOK_s4 hRR⟩)
          · have _u := trivial
            refine lv_aload_n hx hb dX8_fewest_39 rfl (lv_at hl 2 rfl) ?_
            refine lv_iload hx hb dX8_fewest_40 (lv_at hl 0 rfl) ?_
            refine x_ci (va_runV (As := [.int (nI (n))]) (rest := []) ⟨hx, hb, hml, hown, hts⟩ (c_X8_servesAll l D cy loc (xup (xup (xup (xup w (300) (.inr (8, [.ref (loc (301)), .int (nI (σ.2 0)), .ref (loc (302)), .ref (loc (303)), .ref (loc (304)), .int (nI (σ.2 1)), .ref (loc (305)), .ref (loc (306)), .ref (loc (307)), .ref (loc (308)), .int (x0), .int (x1), .int (x2), .int (x3), .int (nI (σ.2 5)), .ref (loc (309)), .ref (loc (310)), .int (nI (ct)), .int (nI (σ.2 2)), .ref (loc (311)), .int (nI (σ.2 3)), .ref (loc (312)), .ref (loc (313)), .int (σ.1 10 0), .int (σ.1 10 1), .int (nI (σ.2 4)), .ref (loc (314))]))) (307) (eI cy 9 (g1))) (308) (eI cy 9 (b1))) (310) (eI cy 48 (v1))) H15.size σ x0 x1 x2 x3 v1 ct hct (nI n) f21 f24) (cwV 1 hts gX8_fewest_X8_servesAll rfl rfl rfl (by decide +kernel) ⟨Nat.le_of_ble_eq_true rfl, Nat.le_of_ble_eq_true rfl⟩) (x_preV hK hV17 f21 rfl) rfl rfl hl.1 rfl (lv_room (Nat.le_of_ble_eq_true rfl)) dX8_fewest_42 ⟨Nat.le_of_ble_eq_true rfl, Nat.le_of_ble_eq_true rfl⟩) (fun r30 hr31 => ?_)
            have ez32 : xb (xsv v1 ct (nI n)) = r30 := Eq.symm (show r30 = xb (xsv v1 ct (nI n)) from hr31)
            subst ez32
            refine x_beq (tgt := 68) hx hb dX8_fewest_45 (by decide) (fun c33 => ?_) (fun c33 => ?_)
            · have _u := trivial
              refine lv_iinc (v := nI (n + 1)) (lv' := [(4, .int (nI (n + 1))), (3, .int (a)), (0, .ref (loc (300))), (1, .int (nI (ll))), (2, .int (m0))]) hx hb dX8_fewest_68 hl (k := 0) rfl (nI_add _ _) (by decide) rfl (fun ls hl => ?_)
              refine lv_goto (tgt := 28) hx hb dX8_fewest_71 (by decide) ?_
              exact ih28 a (n + 1) ls (by omega) (by omega) (yfw_n1 h2 (fun q => c33 ((xsv_cong hag (nI n)).mpr q))) (lv_sub hl [0, 1, 2, 3, 4] rfl)
            · have _u := trivial
              refine lv_iload_n hx hb dX8_fewest_48 rfl (lv_at hl 1 rfl) ?_
              refine lv_iconst (v := -1) hx hb dX8_fewest_49 (by decide +kernel) ?_
              refine lv_icmp_eq (tgt := 65) hx hb dX8_fewest_50 (by decide) (fun c34 => ?_) (fun c34 => ?_)
              · have _u := trivial
                refine lv_iload hx hb dX8_fewest_65 (lv_at hl 0 rfl) ?_
                refine lv_istore_n (lv' := [(3, .int (nI (n))), (4, .int (nI (n))), (0, .ref (loc (300))), (1, .int (nI (ll))), (2, .int (m0))]) hx hb dX8_fewest_67 rfl hl (by decide) rfl (fun ls hl => ?_)
                refine lv_iinc (v := nI (n + 1)) (lv' := [(4, .int (nI (n + 1))), (3, .int (nI (n))), (0, .ref (loc (300))), (1, .int (nI (ll))), (2, .int (m0))]) hx hb dX8_fewest_68 hl (k := 1) rfl (nI_add _ _) (by decide) rfl (fun ls hl => ?_)
                refine lv_goto (tgt := 28) hx hb dX8_fewest_71 (by decide) ?_
                exact ih28 (nI n) (n + 1) ls (by omega) (by omega) (yfw_y1 h2 (by omega) ((xsv_cong hag (nI n)).mp c33) c34) (lv_sub hl [0, 1, 2, 3, 4] rfl)
              · have _u := trivial
                obtain ⟨fo, hfo, efo, hw4⟩ := yfw_or h2 c34
                have e35 : a = nI fo := efo
                have hl : lv_has ls 5 [(4, .int (nI (n))), (3, .int (nI (fo))), (0, .ref (loc (300))), (1, .int (nI (ll))), (2, .int (m0))] := Eq.mp (congrArg (lv_has ls 5) (show ([(4, .int (nI (n))), (3, .int (a)), (0, .ref (loc (300))), (1, .int (nI (ll))), (2, .int (m0))] : List (Nat × Value)) = [(4, .int (nI (n))), (3, .int (nI (fo))), (0, .ref (loc (300))), (1, .int (nI (ll))), (2, .int (m0))] from by rw [e35])) hl
                refine lv_iload hx hb dX8_fewest_53 (lv_at hl 0 rfl) ?_
                refine x_ci (va_runS (As := [.int (nI (n))]) (rest := []) ⟨hx, hb, hml, hown, hts⟩ (c_X8_many l D cy loc (xup (xup (xup (xup w (300) (.inr (8, [.ref (loc (301)), .int (nI (σ.2 0)), .ref (loc (302)), .ref (loc (303)), .ref (loc (304)), .int (nI (σ.2 1)), .ref (loc (305)), .ref (loc (306)), .ref (loc (307)), .ref (loc (308)), .int (x0), .int (x1), .int (x2), .int (x3), .int (nI (σ.2 5)), .ref (loc (309)), .ref (loc (310)), .int (nI (ct)), .int (nI (σ.2 2)), .ref (loc (311)), .int (nI (σ.2 3)), .ref (loc (312)), .ref (loc (313)), .int (σ.1 10 0), .int (σ.1 10 1), .int (nI (σ.2 4)), .ref (loc (314))]))) (307) (eI cy 9 (g1))) (308) (eI cy 9 (b1))) (310) (eI cy 48 (v1))) H15.size n (by omega)) (cwS 1 hts gX8_fewest_X8_many rfl rfl rfl (by decide +kernel) ⟨Nat.le_of_ble_eq_true rfl, Nat.le_of_ble_eq_true rfl⟩) (x_preS hK hV17) rfl rfl hl.1 rfl (lv_room (Nat.le_of_ble_eq_true rfl)) dX8_fewest_55 ⟨Nat.le_of_ble_eq_true rfl, Nat.le_of_ble_eq_true rfl⟩) (fun r36 hr37 => ?_)
                have ez38 : nI (xpc n) = r36 := Eq.symm (show r36 = nI (xpc n) from hr37)
                subst ez38
                refine lv_iload_n hx hb dX8_fewest_58 rfl (lv_at hl 1 rfl) ?_
                refine x_ci (va_runS (As := [.int (nI (fo))]) (rest := [.int (nI (xpc n))]) ⟨hx, hb, hml, hown, hts⟩ (c_X8_many l D cy loc (xup (xup (xup (xup w (300) (.inr (8, [.ref (loc (301)), .int (nI (σ.2 0)), .ref (loc (302)), .ref (loc (303)), .ref (loc (304)), .int (nI (σ.2 1)), .ref (loc (305)), .ref (loc (306)), .ref (loc (307)), .ref (loc (308)), .int (x0), .int (x1), .int (x2), .int (x3), .int (nI (σ.2 5)), .ref (loc (309)), .ref (loc (310)), .int (nI (ct)), .int (nI (σ.2 2)), .ref (loc (311)), .int (nI (σ.2 3)), .ref (loc (312)), .ref (loc (313)), .int (σ.1 10 0), .int (σ.1 10 1), .int (nI (σ.2 4)), .ref (loc (314))]))) (307) (eI cy 9 (g1))) (308) (eI cy 9 (b1))) (310) (eI cy 48 (v1))) H15.size fo (by omega)) (cwS 1 hts gX8_fewest_X8_many rfl rfl rfl (by decide +kernel) ⟨Nat.le_of_ble_eq_true rfl, Nat.le_of_ble_eq_true rfl⟩) (x_preS hK hV17) rfl rfl hl.1 rfl (lv_room (Nat.le_of_ble_eq_true rfl)) dX8_fewest_59 ⟨Nat.le_of_ble_eq_true rfl, Nat.le_of_ble_eq_true rfl⟩) (fun r39 hr40 => ?_)
                have ez41 : nI (xpc fo) = r39 := Eq.symm (show r39 = nI (xpc fo) from hr40)
                subst ez41
                refine x_cge hx hb (xpc n) (xpc fo) (Nat.lt_of_le_of_lt (xpc_le _) (by decide)) (Nat.lt_of_le_of_lt (xpc_le _) (by decide)) (tgt := 68) dX8_fewest_62 (by decide) (fun c42 => ?_) (fun c42 => ?_)
                · have _u := trivial
                  refine lv_iinc (v := nI (n + 1)) (lv' := [(4, .int (nI (n + 1))), (3, .int (nI (fo))), (0, .ref (loc (300))), (1, .int (nI (ll))), (2, .int (m0))]) hx hb dX8_fewest_68 hl (k := 0) rfl (nI_add _ _) (by decide) rfl (fun ls hl => ?_)
                  refine lv_goto (tgt := 28) hx hb dX8_fewest_71 (by decide) ?_
                  exact ih28 (nI fo) (n + 1) ls (by omega) (by omega) (yfw_n2 hw4 hfo c42) (lv_sub hl [0, 1, 2, 3, 4] rfl)
                · have _u := trivial
                  refine lv_iload hx hb dX8_fewest_65 (lv_at hl 0 rfl) ?_
                  refine lv_istore_n (lv' := [(3, .int (nI (n))), (4, .int (nI (n))), (0, .ref (loc (300))), (1, .int (nI (ll))), (2, .int (m0))]) hx hb dX8_fewest_67 rfl hl (by decide) rfl (fun ls hl => ?_)
                  refine lv_iinc (v := nI (n + 1)) (lv' := [(4, .int (nI (n + 1))), (3, .int (nI (n))), (0, .ref (loc (300))), (1, .int (nI (ll))), (2, .int (m0))]) hx hb dX8_fewest_68 hl (k := 1) rfl (nI_add _ _) (by decide) rfl (fun ls hl => ?_)
                  refine lv_goto (tgt := 28) hx hb dX8_fewest_71 (by decide) ?_
                  exact ih28 (nI n) (n + 1) ls (by omega) (by omega) (yfw_y2 hw4 ((xsv_cong hag (nI n)).mp c33) c42) (lv_sub hl [0, 1, 2, 3, 4] rfl)
      exact lp28_25 (N2 + 1) (-1) 0 ls (by omega) (Nat.zero_le _) yfw_0 (lv_sub hl [0, 1, 2, 3, 4] rfl)
    · have _u := trivial
      refine lv_bipush (v := -102) hx hb dX8_fewest_14 (by decide +kernel) ?_
      exact x_rmi hx hb hr hlocks dX8_fewest_16 hV hS (⟨by show _ = _; simp only [sp_fewest, c8, k_ll, c12, if_true, if_false, ite_true, ite_false, not_true_eq_false, not_false_eq_true, and_true, true_and, and_false, false_and, or_true, true_or, or_false, false_or, and_self, or_self], yOK_id hRR⟩)
