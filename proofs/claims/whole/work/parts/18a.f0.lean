abbrev rm_X7_height : Room := { frames := 2, cells := 0, slots := 0, locals := 42 }
theorem hi_X7_height_X7 : ∀ w ∈ wsX70, w ∈ wsX7_height := fun w h => List.mem_cons_of_mem _ (List.mem_append_right _ h)
set_option maxHeartbeats 4000000 in
set_option maxRecDepth 100000 in
theorem c_X7_height (l : Launch) (D : va_G) (cy : Nat → ClassId) (loc : Nat → Nat) (w : xM) (sz : Nat) (σ : xS) (hN : xN8 σ) (hR : xR cy loc σ w) (i v : Int32)  : Met l yX7_height wsX7_height rm_X7_height (va_Pc [.ref (loc (0)), .int (i), .int (v)] (xP D cy loc w sz)) (va_Qi (fun r u => r = (sp_height σ i v).1 ∧ xOK cy loc w (sp_height σ i v).2 u) (xB D (xA loc w sz)) (xA loc w sz)) 0 0 (xA loc w sz) := by
  refine x_met (cc := cX7_height) (maxL := 4) (ret := (some .int)) (C := RX7) (by decide) rfl rfl (Nat.le_of_ble_eq_true rfl) ?_
  intro p e s m below meth c ls hx hb hml hr hts hown hlocks hin hP hl
  obtain ⟨hsz, hV, hK⟩ := hP
  subst hsz
  have hA : ∀ q : Nat, s.heap.size ≤ q → xA loc w s.heap.size q := fun q h => Or.inr h
  have hS : va_S (xA loc w s.heap.size) s.heap s.heap [] := va_S.rf
  have hl : lv_has ls 4 [(0, .ref (loc (0))), (1, .int (i)), (2, .int (v))] := hl
  have hNN := hN
  have hRR := hR
  obtain ⟨g0, b0, q0, hw⟩ := hR
  obtain ⟨hN0, hN1, hN2, hN3, hN4, hN5, hN6⟩ := hN
  have f1 : w (0) = some (.inr (7, [.ref (loc (1)), .ref (loc (2)), .ref (loc (3)), .ref (loc (4)), .ref (loc (5)), .ref (loc (6)), .ref (loc (7)), .int (nI (σ.2 0)), .int (nI (σ.2 1)), .int (nI (σ.2 2)), .int (nI (σ.2 3)), .int (nI (σ.2 4)), .int (nI (σ.2 5)), .int (nI (σ.2 6)), .int (σ.1 10 1), .int (σ.1 10 0), .ref (loc (8)), .ref (loc (11))])) := (hw 0 (by decide)).trans rfl
  have f2 : w (1) = some (eI cy 9 (σ.1 0)) := (hw 1 (by decide)).trans rfl
  refine lv_iload_n hx hb dX7_height_0 rfl (lv_at hl 1 rfl) ?_
  refine x_ci (va_runS (As := [.int (i)]) (rest := []) ⟨hx, hb, hml, hown, hts⟩ (c_X7_isStation l D cy loc w s.heap.size i) (cwS 1 hts gX7_height_X7_isStation rfl rfl rfl (by decide +kernel) ⟨Nat.le_of_ble_eq_true rfl, Nat.le_of_ble_eq_true rfl⟩) (x_preS hK hV) rfl rfl hl.1 rfl (lv_room (Nat.le_of_ble_eq_true rfl)) dX7_height_1 ⟨Nat.le_of_ble_eq_true rfl, Nat.le_of_ble_eq_true rfl⟩) (fun r3 hr4 => ?_)
  have ez5 : xb (nI 0 ≤ i ∧ i ≤ nI 8) = r3 := Eq.symm (show r3 = xb (nI 0 ≤ i ∧ i ≤ nI 8) from hr4)
  subst ez5
  refine x_bne (tgt := 10) hx hb dX7_height_4 (by decide) (fun c6 => ?_) (fun c6 => ?_)
  · have _u := trivial
    obtain ⟨ii, h_ii, e_ii⟩ := x_rng (by decide) c6
    subst e_ii
    have k_ii : (nI ii).toNatClampNeg = ii := nI_clamp (by omega)
    refine lv_iload_n hx hb dX7_height_10 rfl (lv_at hl 2 rfl) ?_
    refine lv_iconst (v := -1) hx hb dX7_height_11 (by decide +kernel) ?_
    refine lv_icmp_eq (tgt := 29) hx hb dX7_height_12 (by decide) (fun c7 => ?_) (fun c7 => ?_)
    · have _u := trivial
      refine lv_aload_n hx hb dX7_height_29 rfl (lv_at hl 0 rfl) ?_
      refine x_get (C := RX7) (T := TX7) (N := 18) hx hb hts hi_X7_height_X7 hown hK hV f1 rfl 0 (by decide) (hts (.fieldLink RX7 9 "SaddleHouse" "row" "[I") (List.mem_of_getElem? (i := 1) rfl)) (fun _ h9 => h9) rfl dX7_height_30 ?_
      refine lv_iload_n hx hb dX7_height_33 rfl (lv_at hl 1 rfl) ?_
      refine x_iald hx hb hK hV f2 (ii) (by omega) (by decide) dX7_height_34 ?_
      refine lv_istore_n (lv' := [(3, .int ((σ.1 0) ii)), (0, .ref (loc (0))), (1, .int (nI (ii))), (2, .int (v))]) hx hb dX7_height_35 rfl hl (by decide) rfl (fun ls hl => ?_)
      refine lv_aload_n hx hb dX7_height_36 rfl (lv_at hl 1 rfl) ?_
      refine x_get (C := RX7) (T := TX7) (N := 18) hx hb hts hi_X7_height_X7 hown hK hV f1 rfl 0 (by decide) (hts (.fieldLink RX7 9 "SaddleHouse" "row" "[I") (List.mem_of_getElem? (i := 1) rfl)) (fun _ h9 => h9) rfl dX7_height_37 ?_
      refine lv_iload_n hx hb dX7_height_40 rfl (lv_at hl 2 rfl) ?_
      refine lv_iload_n hx hb dX7_height_41 rfl (lv_at hl 3 rfl) ?_
      refine x_iast hx hb hK hV hS f2 (ii) (by omega) (by decide) dX7_height_42 (fun H8 L9 hV10 hS11 => ?_)
      have f12 : (xup w (1) (eI cy 9 (upd (σ.1 0) ii v))) (0) = some (.inr (7, [.ref (loc (1)), .ref (loc (2)), .ref (loc (3)), .ref (loc (4)), .ref (loc (5)), .ref (loc (6)), .ref (loc (7)), .int (nI (σ.2 0)), .int (nI (σ.2 1)), .int (nI (σ.2 2)), .int (nI (σ.2 3)), .int (nI (σ.2 4)), .int (nI (σ.2 5)), .int (nI (σ.2 6)), .int (σ.1 10 1), .int (σ.1 10 0), .ref (loc (8)), .ref (loc (11))])) := xup_o (f1) (by omega)
      have f13 : (xup w (1) (eI cy 9 (upd (σ.1 0) ii v))) (1) = some (eI cy 9 (upd (σ.1 0) ii v)) := xup_at _ _ _
      refine lv_iload_n hx hb dX7_height_43 rfl (lv_at hl 0 rfl) ?_
      exact x_rmi hx hb hr hlocks dX7_height_44 hV10 hS11 (x_lf (by simp only [sp_height, c6, k_ii, c7, if_true, if_false, ite_true, ite_false, not_true_eq_false, not_false_eq_true, and_true, true_and, and_false, false_and, or_true, true_or, or_false, false_or, and_self, or_self, Nat.add_sub_cancel, Nat.add_eq_zero_iff, Nat.one_ne_zero, eq_self, Nat.not_lt]) (xOK_height hRR ii v))
    · have _u := trivial
      refine lv_iload_n hx hb dX7_height_15 rfl (lv_at hl 2 rfl) ?_
      refine lv_iconst (v := nI 0) hx hb dX7_height_16 (by decide +kernel) ?_
      refine lv_sipush (v := nI 400) hx hb dX7_height_17 (by decide +kernel) ?_
      refine x_ci (va_runS (As := [.int (v), .int (nI (0)), .int (nI (400))]) (rest := []) ⟨hx, hb, hml, hown, hts⟩ (c_X7_isWithin l D cy loc w s.heap.size v (nI 0) (nI 400)) (cwS 3 hts gX7_height_X7_isWithin rfl rfl rfl (by decide +kernel) ⟨Nat.le_of_ble_eq_true rfl, Nat.le_of_ble_eq_true rfl⟩) (x_preS hK hV) rfl rfl hl.1 rfl (lv_room (Nat.le_of_ble_eq_true rfl)) dX7_height_20 ⟨Nat.le_of_ble_eq_true rfl, Nat.le_of_ble_eq_true rfl⟩) (fun r14 hr15 => ?_)
      have ez16 : xb (nI 0 ≤ v ∧ v ≤ nI 400) = r14 := Eq.symm (show r14 = xb (nI 0 ≤ v ∧ v ≤ nI 400) from hr15)
      subst ez16
      refine x_bne (tgt := 29) hx hb dX7_height_23 (by decide) (fun c17 => ?_) (fun c17 => ?_)
      · have _u := trivial
        refine lv_aload_n hx hb dX7_height_29 rfl (lv_at hl 0 rfl) ?_
        refine x_get (C := RX7) (T := TX7) (N := 18) hx hb hts hi_X7_height_X7 hown hK hV f1 rfl 0 (by decide) (hts (.fieldLink RX7 9 "SaddleHouse" "row" "[I") (List.mem_of_getElem? (i := 1) rfl)) (fun _ h9 => h9) rfl dX7_height_30 ?_
        refine lv_iload_n hx hb dX7_height_33 rfl (lv_at hl 1 rfl) ?_
        refine x_iald hx hb hK hV f2 (ii) (by omega) (by decide) dX7_height_34 ?_
        refine lv_istore_n (lv' := [(3, .int ((σ.1 0) ii)), (0, .ref (loc (0))), (1, .int (nI (ii))), (2, .int (v))]) hx hb dX7_height_35 rfl hl (by decide) rfl (fun ls hl => ?_)
        refine lv_aload_n hx hb dX7_height_36 rfl (lv_at hl 1 rfl) ?_
        refine x_get (C := RX7) (T := TX7) (N := 18) hx hb hts hi_X7_height_X7 hown hK hV f1 rfl 0 (by decide) (hts (.fieldLink RX7 9 "SaddleHouse" "row" "[I") (List.mem_of_getElem? (i := 1) rfl)) (fun _ h9 => h9) rfl dX7_height_37 ?_
        refine lv_iload_n hx hb dX7_height_40 rfl (lv_at hl 2 rfl) ?_
        refine lv_iload_n hx hb dX7_height_41 rfl (lv_at hl 3 rfl) ?_
        refine x_iast hx hb hK hV hS f2 (ii) (by omega) (by decide) dX7_height_42 (fun H18 L19 hV20 hS21 => ?_)
        have f22 : (xup w (1) (eI cy 9 (upd (σ.1 0) ii v))) (0) = some (.inr (7, [.ref (loc (1)), .ref (loc (2)), .ref (loc (3)), .ref (loc (4)), .ref (loc (5)), .ref (loc (6)), .ref (loc (7)), .int (nI (σ.2 0)), .int (nI (σ.2 1)), .int (nI (σ.2 2)), .int (nI (σ.2 3)), .int (nI (σ.2 4)), .int (nI (σ.2 5)), .int (nI (σ.2 6)), .int (σ.1 10 1), .int (σ.1 10 0), .ref (loc (8)), .ref (loc (11))])) := xup_o (f1) (by omega)
        have f23 : (xup w (1) (eI cy 9 (upd (σ.1 0) ii v))) (1) = some (eI cy 9 (upd (σ.1 0) ii v)) := xup_at _ _ _
        refine lv_iload_n hx hb dX7_height_43 rfl (lv_at hl 0 rfl) ?_
        exact x_rmi hx hb hr hlocks dX7_height_44 hV20 hS21 (x_lf (by simp only [sp_height, c6, k_ii, c7, c17, if_true, if_false, ite_true, ite_false, not_true_eq_false, not_false_eq_true, and_true, true_and, and_false, false_and, or_true, true_or, or_false, false_or, and_self, or_self, Nat.add_sub_cancel, Nat.add_eq_zero_iff, Nat.one_ne_zero, eq_self, Nat.not_lt]) (xOK_height hRR ii v))
      · have _u := trivial
        refine lv_bipush (v := -102) hx hb dX7_height_26 (by decide +kernel) ?_
        exact x_rmi hx hb hr hlocks dX7_height_28 hV hS (x_lf (by simp only [sp_height, c6, k_ii, c7, c17, if_true, if_false, ite_true, ite_false, not_true_eq_false, not_false_eq_true, and_true, true_and, and_false, false_and, or_true, true_or, or_false, false_or, and_self, or_self, Nat.add_sub_cancel, Nat.add_eq_zero_iff, Nat.one_ne_zero, eq_self, Nat.not_lt]) (xOK_id hRR))
  · have _u := trivial
    refine lv_bipush (v := -101) hx hb dX7_height_7 (by decide +kernel) ?_
    exact x_rmi hx hb hr hlocks dX7_height_9 hV hS (x_lf (by simp only [sp_height, c6, if_true, if_false, ite_true, ite_false, not_true_eq_false, not_false_eq_true, and_true, true_and, and_false, false_and, or_true, true_or, or_false, false_or, and_self, or_self, Nat.add_sub_cancel, Nat.add_eq_zero_iff, Nat.one_ne_zero, eq_self, Nat.not_lt]) (xOK_id hRR))
abbrev rm_X7_shim : Room := { frames := 2, cells := 0, slots := 0, locals := 42 }
theorem hi_X7_shim_X6 : ∀ w ∈ wsX60, w ∈ wsX7_shim := fun w h => List.mem_cons_of_mem _ (List.mem_append_left _ (List.mem_append_right _ h))
set_option maxHeartbeats 4000000 in
set_option maxRecDepth 100000 in
theorem c_X7_shim (l : Launch) (D : va_G) (cy : Nat → ClassId) (loc : Nat → Nat) (w : xM) (sz : Nat) (σ : xS) (hN : xN8 σ) (hR : xR cy loc σ w) (n i v : Int32)  : Met l yX7_shim wsX7_shim rm_X7_shim (va_Pc [.ref (loc (0)), .int (n), .int (i), .int (v)] (xP D cy loc w sz)) (va_Qi (fun r u => r = (sp_shim σ n i v).1 ∧ xOK cy loc w (sp_shim σ n i v).2 u) (xB D (xA loc w sz)) (xA loc w sz)) 0 0 (xA loc w sz) := by
  refine x_met (cc := cX7_shim) (maxL := 6) (ret := (some .int)) (C := RX7) (by decide) rfl rfl (Nat.le_of_ble_eq_true rfl) ?_
  intro p e s m below meth c ls hx hb hml hr hts hown hlocks hin hP hl
  obtain ⟨hsz, hV, hK⟩ := hP
  subst hsz
  have hA : ∀ q : Nat, s.heap.size ≤ q → xA loc w s.heap.size q := fun q h => Or.inr h
  have hS : va_S (xA loc w s.heap.size) s.heap s.heap [] := va_S.rf
  have hl : lv_has ls 6 [(0, .ref (loc (0))), (1, .int (n)), (2, .int (i)), (3, .int (v))] := hl
  have hNN := hN
  have hRR := hR
  obtain ⟨g0, b0, q0, hw⟩ := hR
  obtain ⟨hN0, hN1, hN2, hN3, hN4, hN5, hN6⟩ := hN
  have f1 : w (0) = some (.inr (7, [.ref (loc (1)), .ref (loc (2)), .ref (loc (3)), .ref (loc (4)), .ref (loc (5)), .ref (loc (6)), .ref (loc (7)), .int (nI (σ.2 0)), .int (nI (σ.2 1)), .int (nI (σ.2 2)), .int (nI (σ.2 3)), .int (nI (σ.2 4)), .int (nI (σ.2 5)), .int (nI (σ.2 6)), .int (σ.1 10 1), .int (σ.1 10 0), .ref (loc (8)), .ref (loc (11))])) := (hw 0 (by decide)).trans rfl
  refine lv_aload_n hx hb dX7_shim_0 rfl (lv_at hl 0 rfl) ?_
  refine lv_iload_n hx hb dX7_shim_1 rfl (lv_at hl 1 rfl) ?_
  refine x_cq (va_runV (As := [.int (n)]) (rest := []) ⟨hx, hb, hml, hown, hts⟩ (c_X7_treeAt l D cy loc w s.heap.size σ ⟨hN0, hN1, hN2, hN3, hN4, hN5, hN6⟩ hRR n) (cwV 1 hts gX7_shim_X7_treeAt rfl rfl rfl (by decide +kernel) ⟨Nat.le_of_ble_eq_true rfl, Nat.le_of_ble_eq_true rfl⟩) (x_preV hK hV f1 rfl) rfl rfl hl.1 rfl (lv_room (Nat.le_of_ble_eq_true rfl)) dX7_shim_2 ⟨Nat.le_of_ble_eq_true rfl, Nat.le_of_ble_eq_true rfl⟩) (fun r2 hr3 => ?_)
  rcases xat_or (fun k => loc (150 + k)) n (show σ.2 1 < 2 ^ 31 by omega) with ⟨kt, h_kt, e_kt, p_kt, eq4⟩ | ⟨p_kt, eq4⟩
  · refine x_topr (Eq.trans (show _ = _ from hr3) eq4) ?_
    subst e_kt
    have f5 : w (150 + kt) = some (.inr (6, [.ref (loc (160 + kt)), .ref (loc (170 + kt))])) := ((hw (150 + kt) (by omega)).trans (xC_150 (by omega) (by omega)))
    have f6 : w (160 + kt) = some (eI cy 9 (xsl 9 (σ.1 3) (9 * kt))) := ((hw (160 + kt) (by omega)).trans (xC_160 (by omega) (by omega)))
    have f7 : w (170 + kt) = some (eI cy 9 (xsl 9 (σ.1 4) (9 * kt))) := ((hw (170 + kt) (by omega)).trans (xC_170 (by omega) (by omega)))
    have k_kt : (nI kt).toNatClampNeg = kt := nI_clamp (by omega)
    refine lv_astore (lv' := [(4, .ref (loc (150 + kt))), (0, .ref (loc (0))), (1, .int (nI (kt))), (2, .int (i)), (3, .int (v))]) hx hb dX7_shim_5 hl (by decide) rfl (fun ls hl => ?_)
    refine lv_aload hx hb dX7_shim_7 (lv_at hl 0 rfl) ?_
    refine lv_ifnull hx hb dX7_shim_9 ?_
    refine lv_iload_n hx hb dX7_shim_12 rfl (lv_at hl 3 rfl) ?_
    refine x_ci (va_runS (As := [.int (i)]) (rest := []) ⟨hx, hb, hml, hown, hts⟩ (c_X7_isStation l D cy loc w s.heap.size i) (cwS 1 hts gX7_shim_X7_isStation rfl rfl rfl (by decide +kernel) ⟨Nat.le_of_ble_eq_true rfl, Nat.le_of_ble_eq_true rfl⟩) (x_preS hK hV) rfl rfl hl.1 rfl (lv_room (Nat.le_of_ble_eq_true rfl)) dX7_shim_13 ⟨Nat.le_of_ble_eq_true rfl, Nat.le_of_ble_eq_true rfl⟩) (fun r8 hr9 => ?_)
    have ez10 : xb (nI 0 ≤ i ∧ i ≤ nI 8) = r8 := Eq.symm (show r8 = xb (nI 0 ≤ i ∧ i ≤ nI 8) from hr9)
    subst ez10
    refine x_bne (tgt := 22) hx hb dX7_shim_16 (by decide) (fun c11 => ?_) (fun c11 => ?_)
    · have _u := trivial
      obtain ⟨ii, h_ii, e_ii⟩ := x_rng (by decide) c11
      subst e_ii
      have k_ii : (nI ii).toNatClampNeg = ii := nI_clamp (by omega)
      refine lv_iload_n hx hb dX7_shim_22 rfl (lv_at hl 4 rfl) ?_
      refine lv_iconst (v := nI 0) hx hb dX7_shim_23 (by decide +kernel) ?_
      refine lv_bipush (v := nI 20) hx hb dX7_shim_24 (by decide +kernel) ?_
      refine x_ci (va_runS (As := [.int (v), .int (nI (0)), .int (nI (20))]) (rest := []) ⟨hx, hb, hml, hown, hts⟩ (c_X7_isWithin l D cy loc w s.heap.size v (nI 0) (nI 20)) (cwS 3 hts gX7_shim_X7_isWithin rfl rfl rfl (by decide +kernel) ⟨Nat.le_of_ble_eq_true rfl, Nat.le_of_ble_eq_true rfl⟩) (x_preS hK hV) rfl rfl hl.1 rfl (lv_room (Nat.le_of_ble_eq_true rfl)) dX7_shim_26 ⟨Nat.le_of_ble_eq_true rfl, Nat.le_of_ble_eq_true rfl⟩) (fun r12 hr13 => ?_)
      have ez14 : xb (nI 0 ≤ v ∧ v ≤ nI 20) = r12 := Eq.symm (show r12 = xb (nI 0 ≤ v ∧ v ≤ nI 20) from hr13)
      subst ez14
      refine x_bne (tgt := 35) hx hb dX7_shim_29 (by decide) (fun c15 => ?_) (fun c15 => ?_)
      · have _u := trivial
        refine lv_aload hx hb dX7_shim_35 (lv_at hl 0 rfl) ?_
        refine x_getN (C := RX6) (T := TX6) (N := 2) (ref := "SaddleHouse$Tree") (host := RX7) hx hb hts hi_X7_shim_X6 hown hK hV f5 rfl 1 (by decide) (by decide +kernel) (fun _ h9 => h9) rfl dX7_shim_37 ?_
        refine lv_iload_n hx hb dX7_shim_40 rfl (lv_at hl 3 rfl) ?_
        refine x_iald hx hb hK hV f7 (ii) (by omega) (by decide) dX7_shim_41 ?_
        refine x_top (congrArg Value.int (show _ = σ.1 4 (9 * kt + ii) from xsl_at (by omega))) ?_
        refine lv_istore (lv' := [(5, .int (σ.1 4 (9 * kt + ii))), (4, .ref (loc (150 + kt))), (0, .ref (loc (0))), (1, .int (nI (kt))), (2, .int (nI (ii))), (3, .int (v))]) hx hb dX7_shim_42 hl (by decide) rfl (fun ls hl => ?_)
        refine lv_aload hx hb dX7_shim_44 (lv_at hl 1 rfl) ?_
        refine x_getN (C := RX6) (T := TX6) (N := 2) (ref := "SaddleHouse$Tree") (host := RX7) hx hb hts hi_X7_shim_X6 hown hK hV f5 rfl 1 (by decide) (by decide +kernel) (fun _ h9 => h9) rfl dX7_shim_46 ?_
        refine lv_iload_n hx hb dX7_shim_49 rfl (lv_at hl 4 rfl) ?_
        refine lv_iload_n hx hb dX7_shim_50 rfl (lv_at hl 5 rfl) ?_
        refine x_iast hx hb hK hV hS f7 (ii) (by omega) (by decide) dX7_shim_51 (fun H16 L17 hV18 hS19 => ?_)
        have f20 : (xup w (170 + kt) (eI cy 9 (upd (xsl 9 (σ.1 4) (9 * kt)) ii v))) (0) = some (.inr (7, [.ref (loc (1)), .ref (loc (2)), .ref (loc (3)), .ref (loc (4)), .ref (loc (5)), .ref (loc (6)), .ref (loc (7)), .int (nI (σ.2 0)), .int (nI (σ.2 1)), .int (nI (σ.2 2)), .int (nI (σ.2 3)), .int (nI (σ.2 4)), .int (nI (σ.2 5)), .int (nI (σ.2 6)), .int (σ.1 10 1), .int (σ.1 10 0), .ref (loc (8)), .ref (loc (11))])) := xup_o (f1) (by omega)
        have f21 : (xup w (170 + kt) (eI cy 9 (upd (xsl 9 (σ.1 4) (9 * kt)) ii v))) (150 + kt) = some (.inr (6, [.ref (loc (160 + kt)), .ref (loc (170 + kt))])) := xup_o (((hw (150 + kt) (by omega)).trans (xC_150 (by omega) (by omega)))) (by omega)
        have f22 : (xup w (170 + kt) (eI cy 9 (upd (xsl 9 (σ.1 4) (9 * kt)) ii v))) (160 + kt) = some (eI cy 9 (xsl 9 (σ.1 3) (9 * kt))) := xup_o (((hw (160 + kt) (by omega)).trans (xC_160 (by omega) (by omega)))) (by omega)
        have f23 : (xup w (170 + kt) (eI cy 9 (upd (xsl 9 (σ.1 4) (9 * kt)) ii v))) (170 + kt) = some (eI cy 9 (upd (xsl 9 (σ.1 4) (9 * kt)) ii v)) := xup_at _ _ _
        refine lv_iload hx hb dX7_shim_52 (lv_at hl 0 rfl) ?_
        exact x_rmi hx hb hr hlocks dX7_shim_54 hV18 hS19 (x_lf (by simp only [sp_shim, p_kt, k_kt, c11, k_ii, c15, if_true, if_false, ite_true, ite_false, not_true_eq_false, not_false_eq_true, and_true, true_and, and_false, false_and, or_true, true_or, or_false, false_or, and_self, or_self, Nat.add_sub_cancel, Nat.add_eq_zero_iff, Nat.one_ne_zero, eq_self, Nat.not_lt]) (xOK_shim hRR kt ii v h_kt (by omega) (by omega)))
      · have _u := trivial
        refine lv_bipush (v := -102) hx hb dX7_shim_32 (by decide +kernel) ?_
        exact x_rmi hx hb hr hlocks dX7_shim_34 hV hS (x_lf (by simp only [sp_shim, p_kt, k_kt, c11, k_ii, c15, if_true, if_false, ite_true, ite_false, not_true_eq_false, not_false_eq_true, and_true, true_and, and_false, false_and, or_true, true_or, or_false, false_or, and_self, or_self, Nat.add_sub_cancel, Nat.add_eq_zero_iff, Nat.one_ne_zero, eq_self, Nat.not_lt]) (xOK_id hRR))
    · have _u := trivial
      refine lv_bipush (v := -101) hx hb dX7_shim_19 (by decide +kernel) ?_
      exact x_rmi hx hb hr hlocks dX7_shim_21 hV hS (x_lf (by simp only [sp_shim, p_kt, k_kt, c11, if_true, if_false, ite_true, ite_false, not_true_eq_false, not_false_eq_true, and_true, true_and, and_false, false_and, or_true, true_or, or_false, false_or, and_self, or_self, Nat.add_sub_cancel, Nat.add_eq_zero_iff, Nat.one_ne_zero, eq_self, Nat.not_lt]) (xOK_id hRR))
  · refine x_topn (Eq.trans (show _ = _ from hr3) eq4) ?_
    refine lv_astoreN (lv' := [(4, .null), (0, .ref (loc (0))), (1, .int (n)), (2, .int (i)), (3, .int (v))]) hx hb dX7_shim_5 hl (by decide) rfl (fun ls hl => ?_)
    refine lv_aloadN hx hb dX7_shim_7 (lv_at hl 0 rfl) ?_
    refine lv_ifnullN (tgt := 19) hx hb dX7_shim_9 (by decide) ?_
    refine lv_bipush (v := -101) hx hb dX7_shim_19 (by decide +kernel) ?_
    exact x_rmi hx hb hr hlocks dX7_shim_21 hV hS (x_lf (by simp only [sp_shim, p_kt, if_true, if_false, ite_true, ite_false, not_true_eq_false, not_false_eq_true, and_true, true_and, and_false, false_and, or_true, true_or, or_false, false_or, and_self, or_self, Nat.add_sub_cancel, Nat.add_eq_zero_iff, Nat.one_ne_zero, eq_self, Nat.not_lt]) (xOK_id hRR))
