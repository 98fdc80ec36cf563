abbrev rm_X7_serves : Room := { frames := 7, cells := 0, slots := 0, locals := 167 }
set_option maxHeartbeats 4000000 in
set_option maxRecDepth 100000 in
theorem c_X7_serves (l : Launch) (D : va_G) (cy : Nat → ClassId) (loc : Nat → Nat) (w : xM) (sz : Nat) (σ : xS) (hN : xN8 σ) (hR : xR cy loc σ w) (hB : xBd σ) (bits ld m0 : Int32)  : Met l yX7_serves wsX7_serves rm_X7_serves (va_Pc [.ref (loc (0)), .int (bits), .int (ld), .int (m0)] (xP D cy loc w sz)) (va_Qi (fun r u => r = sp_serves σ bits ld m0 ∧ xOK cy loc w σ u) (xB D (xA loc w sz)) (xA loc w sz)) 0 0 (xA loc w sz) := by
  refine x_met (cc := cX7_serves) (maxL := 4) (ret := (some .int)) (C := RX7) (by decide) rfl rfl (Nat.le_of_ble_eq_true rfl) ?_
  intro p e s m below meth c ls hx hb hml hr hts hown hlocks hin hP hl
  obtain ⟨hsz, hV, hK⟩ := hP
  subst hsz
  have hA : ∀ q : Nat, s.heap.size ≤ q → xA loc w s.heap.size q := fun q h => Or.inr h
  have hS : va_S (xA loc w s.heap.size) s.heap s.heap [] := va_S.rf
  have hl : lv_has ls 4 [(0, .ref (loc (0))), (1, .int (bits)), (2, .int (ld)), (3, .int (m0))] := hl
  have hNN := hN
  have hRR := hR
  obtain ⟨g0, b0, q0, hw⟩ := hR
  obtain ⟨hN0, hN1, hN2, hN3, hN4, hN5, hN6⟩ := hN
  have f1 : w (0) = some (.inr (7, [.ref (loc (1)), .ref (loc (2)), .ref (loc (3)), .ref (loc (4)), .ref (loc (5)), .ref (loc (6)), .ref (loc (7)), .int (nI (σ.2 0)), .int (nI (σ.2 1)), .int (nI (σ.2 2)), .int (nI (σ.2 3)), .int (nI (σ.2 4)), .int (nI (σ.2 5)), .int (nI (σ.2 6)), .int (σ.1 10 1), .int (σ.1 10 0), .ref (loc (8)), .ref (loc (11))])) := (hw 0 (by decide)).trans rfl
  have f2 : w (9) = some (eI cy 9 (g0)) := (hw 9 (by decide)).trans rfl
  have f3 : w (10) = some (eI cy 9 (b0)) := (hw 10 (by decide)).trans rfl
  have f4 : w (11) = some (eI cy 48 (q0)) := (hw 11 (by decide)).trans rfl
  refine lv_iload_n hx hb dX7_serves_0 rfl (lv_at hl 2 rfl) ?_
  refine x_ci (va_runS (As := [.int (ld)]) (rest := []) ⟨hx, hb, hml, hown, hts⟩ (c_X7_isLoad l D cy loc w s.heap.size ld) (cwS 1 hts gX7_serves_X7_isLoad rfl rfl rfl (by decide +kernel) ⟨Nat.le_of_ble_eq_true rfl, Nat.le_of_ble_eq_true rfl⟩) (x_preS hK hV) rfl rfl hl.1 rfl (lv_room (Nat.le_of_ble_eq_true rfl)) dX7_serves_1 ⟨Nat.le_of_ble_eq_true rfl, Nat.le_of_ble_eq_true rfl⟩) (fun r5 hr6 => ?_)
  have ez7 : xb (nI 1 ≤ ld ∧ ld ≤ nI 2000) = r5 := Eq.symm (show r5 = xb (nI 1 ≤ ld ∧ ld ≤ nI 2000) from hr6)
  subst ez7
  refine x_beq (tgt := 14) hx hb dX7_serves_4 (by decide) (fun c8 => ?_) (fun c8 => ?_)
  · have _u := trivial
    refine lv_bipush (v := -102) hx hb dX7_serves_14 (by decide +kernel) ?_
    exact x_rmi hx hb hr hlocks dX7_serves_16 hV hS (⟨by show _ = _; simp only [sp_serves, c8, if_true, if_false, ite_true, ite_false, not_true_eq_false, not_false_eq_true, and_true, true_and, and_false, false_and, or_true, true_or, or_false, false_or, and_self, or_self], xOK_id hRR⟩)
  · have _u := trivial
    obtain ⟨ll, h_ll, h_ll', e_ll⟩ := x_rng1 (by decide) (by decide) c8
    subst e_ll
    have k_ll : (nI ll).toNatClampNeg = ll := nI_clamp (by omega)
    refine lv_iload_n hx hb dX7_serves_7 rfl (lv_at hl 3 rfl) ?_
    refine x_ci (va_runS (As := [.int (m0)]) (rest := []) ⟨hx, hb, hml, hown, hts⟩ (c_X7_isLoad l D cy loc w s.heap.size m0) (cwS 1 hts gX7_serves_X7_isLoad rfl rfl rfl (by decide +kernel) ⟨Nat.le_of_ble_eq_true rfl, Nat.le_of_ble_eq_true rfl⟩) (x_preS hK hV) rfl rfl hl.1 rfl (lv_room (Nat.le_of_ble_eq_true rfl)) dX7_serves_8 ⟨Nat.le_of_ble_eq_true rfl, Nat.le_of_ble_eq_true rfl⟩) (fun r9 hr10 => ?_)
    have ez11 : xb (nI 1 ≤ m0 ∧ m0 ≤ nI 2000) = r9 := Eq.symm (show r9 = xb (nI 1 ≤ m0 ∧ m0 ≤ nI 2000) from hr10)
    subst ez11
    refine x_bne (tgt := 17) hx hb dX7_serves_11 (by decide) (fun c12 => ?_) (fun c12 => ?_)
    · have _u := trivial
      refine lv_aload_n hx hb dX7_serves_17 rfl (lv_at hl 0 rfl) ?_
      refine lv_iload_n hx hb dX7_serves_18 rfl (lv_at hl 1 rfl) ?_
      refine lv_aload_n hx hb dX7_serves_19 rfl (lv_at hl 0 rfl) ?_
      refine lv_iload_n hx hb dX7_serves_20 rfl (lv_at hl 2 rfl) ?_
      refine lv_iload_n hx hb dX7_serves_21 rfl (lv_at hl 3 rfl) ?_
      refine x_mi (va_runV (As := [.int (nI (ll)), .int (m0)]) (rest := [.int (bits), .ref (loc (0))]) ⟨hx, hb, hml, hown, hts⟩ (c_X7_listFitting l D cy loc w s.heap.size σ hNN hRR hB ll h_ll h_ll' m0) (cwV 2 hts gX7_serves_X7_listFitting rfl rfl rfl (by decide +kernel) ⟨Nat.le_of_ble_eq_true rfl, Nat.le_of_ble_eq_true rfl⟩) (x_preV hK hV f1 rfl) rfl rfl hl.1 rfl (lv_room (Nat.le_of_ble_eq_true rfl)) dX7_serves_22 ⟨Nat.le_of_ble_eq_true rfl, Nat.le_of_ble_eq_true rfl⟩) hV hS hA (fun r13 loc20 w19 H15 L16 hr14 hV17 hS18 => ?_)
      obtain ⟨ct, g1, b1, v1, er, hct, hag, e1, e2⟩ := hr14
      have er : nI ct = r13 := Eq.symm er
      subst er
      have e1 : loc = loc20 := Eq.symm e1
      subst e1
      have e2 := Eq.symm e2
      subst e2
      have f21 : (xup (xup (xup w (9) (eI cy 9 (g1))) (10) (eI cy 9 (b1))) (11) (eI cy 48 (v1))) (0) = some (.inr (7, [.ref (loc (1)), .ref (loc (2)), .ref (loc (3)), .ref (loc (4)), .ref (loc (5)), .ref (loc (6)), .ref (loc (7)), .int (nI (σ.2 0)), .int (nI (σ.2 1)), .int (nI (σ.2 2)), .int (nI (σ.2 3)), .int (nI (σ.2 4)), .int (nI (σ.2 5)), .int (nI (σ.2 6)), .int (σ.1 10 1), .int (σ.1 10 0), .ref (loc (8)), .ref (loc (11))])) := xup_o (xup_o (xup_o (f1) (by omega)) (by omega)) (by omega)
      have f22 : (xup (xup (xup w (9) (eI cy 9 (g1))) (10) (eI cy 9 (b1))) (11) (eI cy 48 (v1))) (9) = some (eI cy 9 (g1)) := xup_o (xup_o (xup_at _ _ _) (by omega)) (by omega)
      have f23 : (xup (xup (xup w (9) (eI cy 9 (g1))) (10) (eI cy 9 (b1))) (11) (eI cy 48 (v1))) (10) = some (eI cy 9 (b1)) := xup_o (xup_at _ _ _) (by omega)
      have f24 : (xup (xup (xup w (9) (eI cy 9 (g1))) (10) (eI cy 9 (b1))) (11) (eI cy 48 (v1))) (11) = some (eI cy 48 (v1)) := xup_at _ _ _
      refine x_ci (va_runV (As := [.int (bits), .int (nI (ct))]) (rest := []) ⟨hx, hb, hml, hown, hts⟩ (c_X7_servesEach l D cy loc (xup (xup (xup w (9) (eI cy 9 (g1))) (10) (eI cy 9 (b1))) (11) (eI cy 48 (v1))) H15.size σ v1 ct hct bits f21 f24) (cwV 2 hts gX7_serves_X7_servesEach rfl rfl rfl (by decide +kernel) ⟨Nat.le_of_ble_eq_true rfl, Nat.le_of_ble_eq_true rfl⟩) (x_preV hK hV17 f21 rfl) rfl rfl hl.1 rfl (lv_room (Nat.le_of_ble_eq_true rfl)) dX7_serves_25 ⟨Nat.le_of_ble_eq_true rfl, Nat.le_of_ble_eq_true rfl⟩) (fun r25 hr26 => ?_)
      have ez27 : xb (xsv v1 ct bits) = r25 := Eq.symm (show r25 = xb (xsv v1 ct bits) from hr26)
      subst ez27
      refine x_beq (tgt := 35) hx hb dX7_serves_28 (by decide) (fun c28 => ?_) (fun c28 => ?_)
      · have _u := trivial
        refine lv_iconst (v := nI 0) hx hb dX7_serves_35 (by decide +kernel) ?_
        refine W.widen (k := 0) (n := 0) (by omega) (by omega) ?_
        exact x_rmi hx hb hr hlocks dX7_serves_36 hV17 hS18 (⟨by show _ = _; rw [sp_serves, if_neg (fun q => q.elim (fun z => z c8) (fun z => z c12)), k_ll]; exact (xb_f (fun q => c28 ((xsv_cong hag bits).mpr q))).symm, xOK_sc3 hRR⟩)
      · have _u := trivial
        refine lv_iconst (v := nI 1) hx hb dX7_serves_31 (by decide +kernel) ?_
        refine lv_goto (tgt := 36) hx hb dX7_serves_32 (by decide) ?_
        refine W.widen (k := 0) (n := 0) (by omega) (by omega) ?_
        exact x_rmi hx hb hr hlocks dX7_serves_36 hV17 hS18 (⟨by show _ = _; rw [sp_serves, if_neg (fun q => q.elim (fun z => z c8) (fun z => z c12)), k_ll]; exact (xb_t ((xsv_cong hag bits).mp c28)).symm, xOK_sc3 hRR⟩)
    · have _u := trivial
      refine lv_bipush (v := -102) hx hb dX7_serves_14 (by decide +kernel) ?_
      exact x_rmi hx hb hr hlocks dX7_serves_16 hV hS (⟨by show _ = _; simp only [sp_serves, c8, k_ll, c12, if_true, if_false, ite_true, ite_false, not_true_eq_false, not_false_eq_true, and_true, true_and, and_false, false_and, or_true, true_or, or_false, false_or, and_self, or_self], xOK_id hRR⟩)
abbrev rm_X7_fewest : Room := { frames := 7, cells := 0, slots := 0, locals := 167 }
theorem hi_X7_fewest_X7 : ∀ w ∈ wsX70, w ∈ wsX7_fewest := fun w h => List.mem_cons_of_mem _ (List.mem_append_left _ (List.mem_append_left _ (List.mem_append_left _ (List.mem_append_left _ (List.mem_append_right _ h)))))
set_option maxHeartbeats 4000000 in
set_option maxRecDepth 100000 in
theorem c_X7_fewest (l : Launch) (D : va_G) (cy : Nat → ClassId) (loc : Nat → Nat) (w : xM) (sz : Nat) (σ : xS) (hN : xN8 σ) (hR : xR cy loc σ w) (hB : xBd σ) (ld m0 : Int32)  : Met l yX7_fewest wsX7_fewest rm_X7_fewest (va_Pc [.ref (loc (0)), .int (ld), .int (m0)] (xP D cy loc w sz)) (va_Qi (fun r u => r = sp_fewest σ ld m0 ∧ xOK cy loc w σ u) (xB D (xA loc w sz)) (xA loc w sz)) 0 0 (xA loc w sz) := by
  refine x_met (cc := cX7_fewest) (maxL := 7) (ret := (some .int)) (C := RX7) (by decide) rfl rfl (Nat.le_of_ble_eq_true rfl) ?_
  intro p e s m below meth c ls hx hb hml hr hts hown hlocks hin hP hl
  obtain ⟨hsz, hV, hK⟩ := hP
  subst hsz
  have hA : ∀ q : Nat, s.heap.size ≤ q → xA loc w s.heap.size q := fun q h => Or.inr h
  have hS : va_S (xA loc w s.heap.size) s.heap s.heap [] := va_S.rf
  have hl : lv_has ls 7 [(0, .ref (loc (0))), (1, .int (ld)), (2, .int (m0))] := hl
  have hNN := hN
  have hRR := hR
  obtain ⟨g0, b0, q0, hw⟩ := hR
  obtain ⟨hN0, hN1, hN2, hN3, hN4, hN5, hN6⟩ := hN
  obtain ⟨N2, hN2, h28⟩ : ∃ z : Nat, z = 2 ^ σ.2 1 ∧ z ≤ 256 := ⟨_, rfl, x_p8 hN1⟩
  have f1 : w (0) = some (.inr (7, [.ref (loc (1)), .ref (loc (2)), .ref (loc (3)), .ref (loc (4)), .ref (loc (5)), .ref (loc (6)), .ref (loc (7)), .int (nI (σ.2 0)), .int (nI (σ.2 1)), .int (nI (σ.2 2)), .int (nI (σ.2 3)), .int (nI (σ.2 4)), .int (nI (σ.2 5)), .int (nI (σ.2 6)), .int (σ.1 10 1), .int (σ.1 10 0), .ref (loc (8)), .ref (loc (11))])) := (hw 0 (by decide)).trans rfl
  have f2 : w (9) = some (eI cy 9 (g0)) := (hw 9 (by decide)).trans rfl
  have f3 : w (10) = some (eI cy 9 (b0)) := (hw 10 (by decide)).trans rfl
  have f4 : w (11) = some (eI cy 48 (q0)) := (hw 11 (by decide)).trans rfl
  refine lv_iload_n hx hb dX7_fewest_0 rfl (lv_at hl 1 rfl) ?_
  refine x_ci (va_runS (As := [.int (ld)]) (rest := []) ⟨hx, hb, hml, hown, hts⟩ (c_X7_isLoad l D cy loc w s.heap.size ld) (cwS 1 hts gX7_fewest_X7_isLoad rfl rfl rfl (by decide +kernel) ⟨Nat.le_of_ble_eq_true rfl, Nat.le_of_ble_eq_true rfl⟩) (x_preS hK hV) rfl rfl hl.1 rfl (lv_room (Nat.le_of_ble_eq_true rfl)) dX7_fewest_1 ⟨Nat.le_of_ble_eq_true rfl, Nat.le_of_ble_eq_true rfl⟩) (fun r5 hr6 => ?_)
  have ez7 : xb (nI 1 ≤ ld ∧ ld ≤ nI 2000) = r5 := Eq.symm (show r5 = xb (nI 1 ≤ ld ∧ ld ≤ nI 2000) from hr6)
  subst ez7
  refine x_beq (tgt := 14) hx hb dX7_fewest_4 (by decide) (fun c8 => ?_) (fun c8 => ?_)
  · have _u := trivial
    refine lv_bipush (v := -102) hx hb dX7_fewest_14 (by decide +kernel) ?_
    exact x_rmi hx hb hr hlocks dX7_fewest_16 hV hS (⟨by show _ = _; simp only [sp_fewest, c8, if_true, if_false, ite_true, ite_false, not_true_eq_false, not_false_eq_true, and_true, true_and, and_false, false_and, or_true, true_or, or_false, false_or, and_self, or_self], xOK_id hRR⟩)
  · have _u := trivial
    obtain ⟨ll, h_ll, h_ll', e_ll⟩ := x_rng1 (by decide) (by decide) c8
    subst e_ll
    have k_ll : (nI ll).toNatClampNeg = ll := nI_clamp (by omega)
    refine lv_iload_n hx hb dX7_fewest_7 rfl (lv_at hl 2 rfl) ?_
    refine x_ci (va_runS (As := [.int (m0)]) (rest := []) ⟨hx, hb, hml, hown, hts⟩ (c_X7_isLoad l D cy loc w s.heap.size m0) (cwS 1 hts gX7_fewest_X7_isLoad rfl rfl rfl (by decide +kernel) ⟨Nat.le_of_ble_eq_true rfl, Nat.le_of_ble_eq_true rfl⟩) (x_preS hK hV) rfl rfl hl.1 rfl (lv_room (Nat.le_of_ble_eq_true rfl)) dX7_fewest_8 ⟨Nat.le_of_ble_eq_true rfl, Nat.le_of_ble_eq_true rfl⟩) (fun r9 hr10 => ?_)
    have ez11 : xb (nI 1 ≤ m0 ∧ m0 ≤ nI 2000) = r9 := Eq.symm (show r9 = xb (nI 1 ≤ m0 ∧ m0 ≤ nI 2000) from hr10)
    subst ez11
    refine x_bne (tgt := 17) hx hb dX7_fewest_11 (by decide) (fun c12 => ?_) (fun c12 => ?_)
    · have _u := trivial
      refine lv_aload_n hx hb dX7_fewest_17 rfl (lv_at hl 0 rfl) ?_
      refine lv_iload_n hx hb dX7_fewest_18 rfl (lv_at hl 1 rfl) ?_
      refine lv_iload_n hx hb dX7_fewest_19 rfl (lv_at hl 2 rfl) ?_
      refine x_mi (va_runV (As := [.int (nI (ll)), .int (m0)]) (rest := []) ⟨hx, hb, hml, hown, hts⟩ (c_X7_listFitting l D cy loc w s.heap.size σ hNN hRR hB ll h_ll h_ll' m0) (cwV 2 hts gX7_fewest_X7_listFitting rfl rfl rfl (by decide +kernel) ⟨Nat.le_of_ble_eq_true rfl, Nat.le_of_ble_eq_true rfl⟩) (x_preV hK hV f1 rfl) rfl rfl hl.1 rfl (lv_room (Nat.le_of_ble_eq_true rfl)) dX7_fewest_20 ⟨Nat.le_of_ble_eq_true rfl, Nat.le_of_ble_eq_true rfl⟩) hV hS hA (fun r13 loc20 w19 H15 L16 hr14 hV17 hS18 => ?_)
      obtain ⟨ct, g1, b1, v1, er, hct, hag, e1, e2⟩ := hr14
      have er : nI ct = r13 := Eq.symm er
      subst er
      have e1 : loc = loc20 := Eq.symm e1
      subst e1
      have e2 := Eq.symm e2
      subst e2
      have f21 : (xup (xup (xup w (9) (eI cy 9 (g1))) (10) (eI cy 9 (b1))) (11) (eI cy 48 (v1))) (0) = some (.inr (7, [.ref (loc (1)), .ref (loc (2)), .ref (loc (3)), .ref (loc (4)), .ref (loc (5)), .ref (loc (6)), .ref (loc (7)), .int (nI (σ.2 0)), .int (nI (σ.2 1)), .int (nI (σ.2 2)), .int (nI (σ.2 3)), .int (nI (σ.2 4)), .int (nI (σ.2 5)), .int (nI (σ.2 6)), .int (σ.1 10 1), .int (σ.1 10 0), .ref (loc (8)), .ref (loc (11))])) := xup_o (xup_o (xup_o (f1) (by omega)) (by omega)) (by omega)
      have f22 : (xup (xup (xup w (9) (eI cy 9 (g1))) (10) (eI cy 9 (b1))) (11) (eI cy 48 (v1))) (9) = some (eI cy 9 (g1)) := xup_o (xup_o (xup_at _ _ _) (by omega)) (by omega)
      have f23 : (xup (xup (xup w (9) (eI cy 9 (g1))) (10) (eI cy 9 (b1))) (11) (eI cy 48 (v1))) (10) = some (eI cy 9 (b1)) := xup_o (xup_at _ _ _) (by omega)
      have f24 : (xup (xup (xup w (9) (eI cy 9 (g1))) (10) (eI cy 9 (b1))) (11) (eI cy 48 (v1))) (11) = some (eI cy 48 (v1)) := xup_at _ _ _
      refine lv_istore_n (lv' := [(3, .int (nI (ct))), (0, .ref (loc (0))), (1, .int (nI (ll))), (2, .int (m0))]) hx hb dX7_fewest_23 rfl hl (by decide) rfl (fun ls hl => ?_)
      refine lv_iconst (v := -1) hx hb dX7_fewest_24 (by decide +kernel) ?_
      refine lv_istore (lv' := [(4, .int ((-1))), (3, .int (nI (ct))), (0, .ref (loc (0))), (1, .int (nI (ll))), (2, .int (m0))]) hx hb dX7_fewest_25 hl (by decide) rfl (fun ls hl => ?_)
      refine lv_bipush (v := nI 9) hx hb dX7_fewest_27 (by decide +kernel) ?_
      refine lv_istore (lv' := [(5, .int (nI (9))), (4, .int ((-1))), (3, .int (nI (ct))), (0, .ref (loc (0))), (1, .int (nI (ll))), (2, .int (m0))]) hx hb dX7_fewest_29 hl (by decide) rfl (fun ls hl => ?_)
      refine lv_iconst (v := nI 0) hx hb dX7_fewest_31 (by decide +kernel) ?_
      refine lv_istore (lv' := [(6, .int (nI (0))), (5, .int (nI (9))), (4, .int ((-1))), (3, .int (nI (ct))), (0, .ref (loc (0))), (1, .int (nI (ll))), (2, .int (m0))]) hx hb dX7_fewest_32 hl (by decide) rfl (fun ls hl => ?_)
      have lp34_25 : ∀ (fuel26 : Nat) (a : Int32) (b : Nat) (n : Nat) (ls : Array Slot), N2 - n < fuel26 → (n ≤ N2) → ((a, b) = xfw (xsq σ ll m0) n) → (b ≤ 9) → lv_has ls 7 [(6, .int (nI (n))), (5, .int (nI (b))), (4, .int (a)), (3, .int (nI (ct))), (0, .ref (loc (0))), (1, .int (nI (ll))), (2, .int (m0))] → W p l e rm_X7_fewest s m ([.ref (loc (0)), .int ((nI ll)), .int (m0)] : List Value).toArray below meth c H15 L16 (0 + 0) (0 + 0) (MQ below (va_Qi (fun r u => r = sp_fewest σ (nI ll) m0 ∧ xOK cy loc w σ u) (xB D (xA loc w s.heap.size)) (xA loc w s.heap.size)) ([.ref (loc (0)), .int ((nI ll)), .int (m0)] : List Value).toArray s 0 0 (xA loc w s.heap.size)) (F0 m 34 ls []) := by
        intro fuel26
        induction fuel26 with
        | zero => intro a b n ls hm27; exact absurd hm27 (Nat.not_lt_zero _)
        | succ fuel26 ih28 =>
          intro a b n ls hm27 h1 h2 h3  hl
          have hpc := xpc_le n
          refine lv_iload hx hb dX7_fewest_34 (lv_at hl 0 rfl) ?_
          refine lv_iconst (v := nI 1) hx hb dX7_fewest_36 (by decide +kernel) ?_
          refine lv_aload_n hx hb dX7_fewest_37 rfl (lv_at hl 4 rfl) ?_
          refine x_get (C := RX7) (T := TX7) (N := 18) hx hb hts hi_X7_fewest_X7 hown hK hV17 f21 rfl 8 (by decide) (hts (.fieldLink RX7 50 "SaddleHouse" "treeCount" "I") (List.mem_of_getElem? (i := 1) rfl)) (fun _ h9 => h9) rfl dX7_fewest_38 ?_
          refine lv_ishl hx hb dX7_fewest_41 ?_
          refine x_top (congrArg Value.int (show _ = nI N2 from (x_sh8 hN1).trans (by rw [hN2]))) ?_
          refine x_cge hx hb (n) (N2) (by omega) (by omega) (tgt := 82) dX7_fewest_42 (by decide) (fun c29 => ?_) (fun c29 => ?_)
          · have _u := trivial
            refine lv_iload hx hb dX7_fewest_82 (lv_at hl 2 rfl) ?_
            refine W.widen (k := 0) (n := 0) (by omega) (by omega) ?_
            exact x_rmi hx hb hr hlocks dX7_fewest_84 hV17 hS18 (⟨by show _ = _; rw [sp_fewest, if_neg (fun q => q.elim (fun z => z c8) (fun z => z c12)), k_ll, ← hN2, ← show n = N2 by omega, ← h2], xOK_sc3 hRR⟩)
          · have _u := trivial
            refine lv_iload hx hb dX7_fewest_45 (lv_at hl 0 rfl) ?_
            refine x_ci (va_runS (As := [.int (nI (n))]) (rest := []) ⟨hx, hb, hml, hown, hts⟩ (c_J6_bitCount_0f7a4 l D cy loc (xup (xup (xup w (9) (eI cy 9 (g1))) (10) (eI cy 9 (b1))) (11) (eI cy 48 (v1))) H15.size n (by omega)) (va_cwS 1 hts gX7_fewest_J6_bitCount_0f7a4 rfl rfl rfl (by decide +kernel) ⟨Nat.le_of_ble_eq_true rfl, Nat.le_of_ble_eq_true rfl⟩) (x_preS hK hV17) rfl rfl hl.1 rfl (lv_room (Nat.le_of_ble_eq_true rfl)) dX7_fewest_47 ⟨Nat.le_of_ble_eq_true rfl, Nat.le_of_ble_eq_true rfl⟩) (fun r30 hr31 => ?_)
            have ez32 : nI (xpc n) = r30 := Eq.symm (show r30 = nI (xpc n) from hr31)
            subst ez32
            refine lv_iload hx hb dX7_fewest_50 (lv_at hl 1 rfl) ?_
            refine x_cge hx hb (xpc n) (b) (by omega) (by omega) (tgt := 76) dX7_fewest_52 (by decide) (fun c33 => ?_) (fun c33 => ?_)
            · have _u := trivial
              refine lv_iinc (v := nI (n + 1)) (lv' := [(6, .int (nI (n + 1))), (5, .int (nI (b))), (4, .int (a)), (3, .int (nI (ct))), (0, .ref (loc (0))), (1, .int (nI (ll))), (2, .int (m0))]) hx hb dX7_fewest_76 hl (k := 0) rfl (nI_add _ _) (by decide) rfl (fun ls hl => ?_)
              refine lv_goto (tgt := 34) hx hb dX7_fewest_79 (by decide) ?_
              exact ih28 a b (n + 1) ls (by omega) (by omega) (xfw_n h2 (Or.inl (Nat.not_lt.mpr c33))) (by omega) (lv_sub hl [0, 1, 2, 3, 4, 5, 6] rfl)
            · have _u := trivial
              refine lv_aload_n hx hb dX7_fewest_55 rfl (lv_at hl 4 rfl) ?_
              refine lv_iload hx hb dX7_fewest_56 (lv_at hl 0 rfl) ?_
              refine lv_iload_n hx hb dX7_fewest_58 rfl (lv_at hl 3 rfl) ?_
              refine x_ci (va_runV (As := [.int (nI (n)), .int (nI (ct))]) (rest := []) ⟨hx, hb, hml, hown, hts⟩ (c_X7_servesEach l D cy loc (xup (xup (xup w (9) (eI cy 9 (g1))) (10) (eI cy 9 (b1))) (11) (eI cy 48 (v1))) H15.size σ v1 ct hct (nI n) f21 f24) (cwV 2 hts gX7_fewest_X7_servesEach rfl rfl rfl (by decide +kernel) ⟨Nat.le_of_ble_eq_true rfl, Nat.le_of_ble_eq_true rfl⟩) (x_preV hK hV17 f21 rfl) rfl rfl hl.1 rfl (lv_room (Nat.le_of_ble_eq_true rfl)) dX7_fewest_59 ⟨Nat.le_of_ble_eq_true rfl, Nat.le_of_ble_eq_true rfl⟩) (fun r34 hr35 => ?_)
              have ez36 : xb (xsv v1 ct (nI n)) = r34 := Eq.symm (show r34 = xb (xsv v1 ct (nI n)) from hr35)
              subst ez36
              refine x_beq (tgt := 76) hx hb dX7_fewest_62 (by decide) (fun c37 => ?_) (fun c37 => ?_)
              · have _u := trivial
                refine lv_iinc (v := nI (n + 1)) (lv' := [(6, .int (nI (n + 1))), (5, .int (nI (b))), (4, .int (a)), (3, .int (nI (ct))), (0, .ref (loc (0))), (1, .int (nI (ll))), (2, .int (m0))]) hx hb dX7_fewest_76 hl (k := 0) rfl (nI_add _ _) (by decide) rfl (fun ls hl => ?_)
                refine lv_goto (tgt := 34) hx hb dX7_fewest_79 (by decide) ?_
                exact ih28 a b (n + 1) ls (by omega) (by omega) (xfw_n h2 (Or.inr (fun q => c37 ((xsv_cong hag (nI n)).mpr q)))) (by omega) (lv_sub hl [0, 1, 2, 3, 4, 5, 6] rfl)
              · have _u := trivial
                refine lv_iload hx hb dX7_fewest_65 (lv_at hl 0 rfl) ?_
                refine lv_istore (lv' := [(4, .int (nI (n))), (6, .int (nI (n))), (5, .int (nI (b))), (3, .int (nI (ct))), (0, .ref (loc (0))), (1, .int (nI (ll))), (2, .int (m0))]) hx hb dX7_fewest_67 hl (by decide) rfl (fun ls hl => ?_)
                refine lv_iload hx hb dX7_fewest_69 (lv_at hl 1 rfl) ?_
                refine x_ci (va_runS (As := [.int (nI (n))]) (rest := []) ⟨hx, hb, hml, hown, hts⟩ (c_J6_bitCount_0f7a4 l D cy loc (xup (xup (xup w (9) (eI cy 9 (g1))) (10) (eI cy 9 (b1))) (11) (eI cy 48 (v1))) H15.size n (by omega)) (va_cwS 1 hts gX7_fewest_J6_bitCount_0f7a4 rfl rfl rfl (by decide +kernel) ⟨Nat.le_of_ble_eq_true rfl, Nat.le_of_ble_eq_true rfl⟩) (x_preS hK hV17) rfl rfl hl.1 rfl (lv_room (Nat.le_of_ble_eq_true rfl)) dX7_fewest_71 ⟨Nat.le_of_ble_eq_true rfl, Nat.le_of_ble_eq_true rfl⟩) (fun r38 hr39 => ?_)
                have ez40 : nI (xpc n) = r38 := Eq.symm (show r38 = nI (xpc n) from hr39)
                subst ez40
                refine lv_istore (lv' := [(5, .int (nI (xpc n))), (4, .int (nI (n))), (6, .int (nI (n))), (3, .int (nI (ct))), (0, .ref (loc (0))), (1, .int (nI (ll))), (2, .int (m0))]) hx hb dX7_fewest_74 hl (by decide) rfl (fun ls hl => ?_)
                refine lv_iinc (v := nI (n + 1)) (lv' := [(6, .int (nI (n + 1))), (5, .int (nI (xpc n))), (4, .int (nI (n))), (3, .int (nI (ct))), (0, .ref (loc (0))), (1, .int (nI (ll))), (2, .int (m0))]) hx hb dX7_fewest_76 hl (k := 2) rfl (nI_add _ _) (by decide) rfl (fun ls hl => ?_)
                refine lv_goto (tgt := 34) hx hb dX7_fewest_79 (by decide) ?_
                exact ih28 (nI n) (xpc n) (n + 1) ls (by omega) (by omega) (xfw_y h2 c33 ((xsv_cong hag (nI n)).mp c37)) (by omega) (lv_sub hl [0, 1, 2, 3, 4, 5, 6] rfl)
      exact lp34_25 (N2 + 1) (-1) 9 0 ls (by omega) (Nat.zero_le _) rfl (by decide) (lv_sub hl [0, 1, 2, 3, 4, 5, 6] rfl)
    · have _u := trivial
      refine lv_bipush (v := -102) hx hb dX7_fewest_14 (by decide +kernel) ?_
      exact x_rmi hx hb hr hlocks dX7_fewest_16 hV hS (⟨by show _ = _; simp only [sp_fewest, c8, k_ll, c12, if_true, if_false, ite_true, ite_false, not_true_eq_false, not_false_eq_true, and_true, true_and, and_false, false_and, or_true, true_or, or_false, false_or, and_self, or_self], xOK_id hRR⟩)
