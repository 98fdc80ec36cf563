abbrev rm_X8_fault : Room := { frames := 3, cells := 0, slots := 0, locals := 75 }
theorem hi_X8_fault_X8 : ∀ w ∈ wsX80, w ∈ wsX8_fault := fun w h => List.mem_cons_of_mem _ (List.mem_append_right _ h)
set_option maxHeartbeats 4000000 in
set_option maxRecDepth 100000 in
theorem c_X8_fault (l : Launch) (D : va_G) (cy : Nat → ClassId) (loc : Nat → Nat) (w : xM) (sz : Nat) (σ : xS) (hN : xN8 σ) (hR : yR cy loc σ w) (n ho d ld m0 wh : Int32) (hB : xBd σ)   : Met l yX8_fault wsX8_fault rm_X8_fault (va_Pc [.ref (loc (300)), .int (n), .int (ho), .int (d), .int (ld), .int (m0), .int (wh)] (xP D cy loc w sz)) (va_Qi (fun r u => r = sp_fault σ n ho d ld m0 wh ∧ yOK cy loc w σ u) (xB D (xA loc w sz)) (xA loc w sz)) 0 0 (xA loc w sz) := by
  refine x_met (cc := cX8_fault) (maxL := 8) (ret := (some .int)) (C := RX8) (by decide) rfl rfl (Nat.le_of_ble_eq_true rfl) ?_
  intro p e s m below meth c ls hx hb hml hr hts hown hlocks hin hP hl
  obtain ⟨hsz, hV, hK⟩ := hP
  subst hsz
  have hA : ∀ q : Nat, s.heap.size ≤ q → xA loc w s.heap.size q := fun q h => Or.inr h
  have hS : va_S (xA loc w s.heap.size) s.heap s.heap [] := va_S.rf
  have hl : lv_has ls 8 [(0, .ref (loc (300))), (1, .int (n)), (2, .int (ho)), (3, .int (d)), (4, .int (ld)), (5, .int (m0)), (6, .int (wh))] := hl
  have hNN := hN
  have hRR := hR
  obtain ⟨g0, b0, q0, v0, hw⟩ := hR
  obtain ⟨hN0, hN1, hN2, hN3, hN4, hN5, hN6⟩ := hN
  have f1 : w (300) = some (.inr (8, [.ref (loc (301)), .int (nI (σ.2 0)), .ref (loc (302)), .ref (loc (303)), .ref (loc (304)), .int (nI (σ.2 1)), .ref (loc (305)), .ref (loc (306)), .ref (loc (307)), .ref (loc (308)), .int (v0 0), .int (v0 1), .int (v0 2), .int (v0 3), .int (nI (σ.2 5)), .ref (loc (309)), .ref (loc (310)), .int (v0 4), .int (nI (σ.2 2)), .ref (loc (311)), .int (nI (σ.2 3)), .ref (loc (312)), .ref (loc (313)), .int (σ.1 10 0), .int (σ.1 10 1), .int (nI (σ.2 4)), .ref (loc (314))])) := (hw 0 (by decide)).trans rfl
  have f2 : w (304) = some (eI cy 432 (σ.1 2)) := (hw 4 (by decide)).trans rfl
  have f3 : w (305) = some (eI cy 72 (σ.1 3)) := (hw 5 (by decide)).trans rfl
  have f4 : w (306) = some (eI cy 72 (σ.1 4)) := (hw 6 (by decide)).trans rfl
  have f5 : w (307) = some (eI cy 9 (g0)) := (hw 7 (by decide)).trans rfl
  have f6 : w (308) = some (eI cy 9 (b0)) := (hw 8 (by decide)).trans rfl
  refine lv_aload_n hx hb dX8_fault_0 rfl (lv_at hl 0 rfl) ?_
  refine lv_iload_n hx hb dX8_fault_1 rfl (lv_at hl 1 rfl) ?_
  refine x_ci (va_runV (As := [.int (n)]) (rest := []) ⟨hx, hb, hml, hown, hts⟩ (c_X8_isTree l D cy loc w s.heap.size σ hNN hRR n) (cwV 1 hts gX8_fault_X8_isTree rfl rfl rfl (by decide +kernel) ⟨Nat.le_of_ble_eq_true rfl, Nat.le_of_ble_eq_true rfl⟩) (x_preV hK hV f1 rfl) rfl rfl hl.1 rfl (lv_room (Nat.le_of_ble_eq_true rfl)) dX8_fault_2 ⟨Nat.le_of_ble_eq_true rfl, Nat.le_of_ble_eq_true rfl⟩) (fun r7 hr8 => ?_)
  have ez9 : xb (nI 0 ≤ n ∧ n < nI (σ.2 1)) = r7 := Eq.symm (show r7 = xb (nI 0 ≤ n ∧ n < nI (σ.2 1)) from hr8)
  subst ez9
  refine x_beq (tgt := 16) hx hb dX8_fault_5 (by decide) (fun c10 => ?_) (fun c10 => ?_)
  · have _u := trivial
    refine lv_bipush (v := -101) hx hb dX8_fault_16 (by decide +kernel) ?_
    exact x_rmi hx hb hr hlocks dX8_fault_18 hV hS (⟨by show _ = _; simp only [sp_fault, c10, if_true, if_false, ite_true, ite_false, not_true_eq_false, not_false_eq_true, and_true, true_and, and_false, false_and, or_true, true_or, or_false, false_or, and_self, or_self, Nat.add_sub_cancel, Nat.add_eq_zero_iff, Nat.one_ne_zero, eq_self, Nat.not_lt], yOK_id hRR⟩)
  · have _u := trivial
    obtain ⟨kt, h_kt, e_kt⟩ := x_ix2 (show σ.2 1 < 2 ^ 31 by omega) c10
    subst e_kt
    have k_kt : (nI kt).toNatClampNeg = kt := nI_clamp (by omega)
    refine lv_aload_n hx hb dX8_fault_8 rfl (lv_at hl 0 rfl) ?_
    refine lv_iload_n hx hb dX8_fault_9 rfl (lv_at hl 2 rfl) ?_
    refine x_ci (va_runV (As := [.int (ho)]) (rest := []) ⟨hx, hb, hml, hown, hts⟩ (c_X8_isHorse l D cy loc w s.heap.size σ hNN hRR ho) (cwV 1 hts gX8_fault_X8_isHorse rfl rfl rfl (by decide +kernel) ⟨Nat.le_of_ble_eq_true rfl, Nat.le_of_ble_eq_true rfl⟩) (x_preV hK hV f1 rfl) rfl rfl hl.1 rfl (lv_room (Nat.le_of_ble_eq_true rfl)) dX8_fault_10 ⟨Nat.le_of_ble_eq_true rfl, Nat.le_of_ble_eq_true rfl⟩) (fun r11 hr12 => ?_)
    have ez13 : xb (nI 0 ≤ ho ∧ ho < nI (σ.2 0)) = r11 := Eq.symm (show r11 = xb (nI 0 ≤ ho ∧ ho < nI (σ.2 0)) from hr12)
    subst ez13
    refine x_bne (tgt := 19) hx hb dX8_fault_13 (by decide) (fun c14 => ?_) (fun c14 => ?_)
    · have _u := trivial
      obtain ⟨k, h_k, e_k⟩ := x_ix2 (show σ.2 0 < 2 ^ 31 by omega) c14
      subst e_k
      have k_k : (nI k).toNatClampNeg = k := nI_clamp (by omega)
      refine lv_iload_n hx hb dX8_fault_19 rfl (lv_at hl 3 rfl) ?_
      refine x_ci (va_runS (As := [.int (d)]) (rest := []) ⟨hx, hb, hml, hown, hts⟩ (c_X8_isDay l D cy loc w s.heap.size d) (cwS 1 hts gX8_fault_X8_isDay rfl rfl rfl (by decide +kernel) ⟨Nat.le_of_ble_eq_true rfl, Nat.le_of_ble_eq_true rfl⟩) (x_preS hK hV) rfl rfl hl.1 rfl (lv_room (Nat.le_of_ble_eq_true rfl)) dX8_fault_20 ⟨Nat.le_of_ble_eq_true rfl, Nat.le_of_ble_eq_true rfl⟩) (fun r15 hr16 => ?_)
      have ez17 : xb (nI 0 ≤ d ∧ d ≤ nI 10000) = r15 := Eq.symm (show r15 = xb (nI 0 ≤ d ∧ d ≤ nI 10000) from hr16)
      subst ez17
      refine x_beq (tgt := 55) hx hb dX8_fault_23 (by decide) (fun c18 => ?_) (fun c18 => ?_)
      · have _u := trivial
        refine lv_bipush (v := -102) hx hb dX8_fault_55 (by decide +kernel) ?_
        exact x_rmi hx hb hr hlocks dX8_fault_57 hV hS (⟨by show _ = _; simp only [sp_fault, c10, k_kt, c14, k_k, c18, if_true, if_false, ite_true, ite_false, not_true_eq_false, not_false_eq_true, and_true, true_and, and_false, false_and, or_true, true_or, or_false, false_or, and_self, or_self, Nat.add_sub_cancel, Nat.add_eq_zero_iff, Nat.one_ne_zero, eq_self, Nat.not_lt], yOK_id hRR⟩)
      · have _u := trivial
        refine lv_iload hx hb dX8_fault_26 (lv_at hl 4 rfl) ?_
        refine x_ci (va_runS (As := [.int (ld)]) (rest := []) ⟨hx, hb, hml, hown, hts⟩ (c_X8_isLoad l D cy loc w s.heap.size ld) (cwS 1 hts gX8_fault_X8_isLoad rfl rfl rfl (by decide +kernel) ⟨Nat.le_of_ble_eq_true rfl, Nat.le_of_ble_eq_true rfl⟩) (x_preS hK hV) rfl rfl hl.1 rfl (lv_room (Nat.le_of_ble_eq_true rfl)) dX8_fault_28 ⟨Nat.le_of_ble_eq_true rfl, Nat.le_of_ble_eq_true rfl⟩) (fun r19 hr20 => ?_)
        have ez21 : xb (nI 1 ≤ ld ∧ ld ≤ nI 2000) = r19 := Eq.symm (show r19 = xb (nI 1 ≤ ld ∧ ld ≤ nI 2000) from hr20)
        subst ez21
        refine x_beq (tgt := 55) hx hb dX8_fault_31 (by decide) (fun c22 => ?_) (fun c22 => ?_)
        · have _u := trivial
          refine lv_bipush (v := -102) hx hb dX8_fault_55 (by decide +kernel) ?_
          exact x_rmi hx hb hr hlocks dX8_fault_57 hV hS (⟨by show _ = _; simp only [sp_fault, c10, k_kt, c14, k_k, c18, c22, if_true, if_false, ite_true, ite_false, not_true_eq_false, not_false_eq_true, and_true, true_and, and_false, false_and, or_true, true_or, or_false, false_or, and_self, or_self, Nat.add_sub_cancel, Nat.add_eq_zero_iff, Nat.one_ne_zero, eq_self, Nat.not_lt], yOK_id hRR⟩)
        · have _u := trivial
          obtain ⟨ll, h_ll, h_ll', e_ll⟩ := x_rng1 (by decide) (by decide) c22
          subst e_ll
          have k_ll : (nI ll).toNatClampNeg = ll := nI_clamp (by omega)
          refine lv_iload hx hb dX8_fault_34 (lv_at hl 5 rfl) ?_
          refine x_ci (va_runS (As := [.int (m0)]) (rest := []) ⟨hx, hb, hml, hown, hts⟩ (c_X8_isLoad l D cy loc w s.heap.size m0) (cwS 1 hts gX8_fault_X8_isLoad rfl rfl rfl (by decide +kernel) ⟨Nat.le_of_ble_eq_true rfl, Nat.le_of_ble_eq_true rfl⟩) (x_preS hK hV) rfl rfl hl.1 rfl (lv_room (Nat.le_of_ble_eq_true rfl)) dX8_fault_36 ⟨Nat.le_of_ble_eq_true rfl, Nat.le_of_ble_eq_true rfl⟩) (fun r23 hr24 => ?_)
          have ez25 : xb (nI 1 ≤ m0 ∧ m0 ≤ nI 2000) = r23 := Eq.symm (show r23 = xb (nI 1 ≤ m0 ∧ m0 ≤ nI 2000) from hr24)
          subst ez25
          refine x_beq (tgt := 55) hx hb dX8_fault_39 (by decide) (fun c26 => ?_) (fun c26 => ?_)
          · have _u := trivial
            refine lv_bipush (v := -102) hx hb dX8_fault_55 (by decide +kernel) ?_
            exact x_rmi hx hb hr hlocks dX8_fault_57 hV hS (⟨by show _ = _; simp only [sp_fault, c10, k_kt, c14, k_k, c18, c22, k_ll, c26, if_true, if_false, ite_true, ite_false, not_true_eq_false, not_false_eq_true, and_true, true_and, and_false, false_and, or_true, true_or, or_false, false_or, and_self, or_self, Nat.add_sub_cancel, Nat.add_eq_zero_iff, Nat.one_ne_zero, eq_self, Nat.not_lt], yOK_id hRR⟩)
          · have _u := trivial
            refine lv_iload hx hb dX8_fault_42 (lv_at hl 6 rfl) ?_
            refine lv_i2l (v := (wh).toInt64) hx hb dX8_fault_44 rfl ?_
            refine lv_lconst (v := 0) hx hb dX8_fault_45 (by decide +kernel) ?_
            refine lv_ldc2 (v := 3) hx hb hown (hts (.constantLong RX8 128 (3)) (List.mem_of_getElem? (i := 1) rfl)) dX8_fault_46 ?_
            refine x_ci (va_runS (As := [.long ((wh).toInt64), .long (0), .long (3)]) (rest := []) ⟨hx, hb, hml, hown, hts⟩ (c_X8_in l D cy loc w s.heap.size ((wh).toInt64) 0 3) (cwS 3 hts gX8_fault_X8_in rfl rfl rfl (by decide +kernel) ⟨Nat.le_of_ble_eq_true rfl, Nat.le_of_ble_eq_true rfl⟩) (x_preS hK hV) rfl rfl hl.1 rfl (lv_room (Nat.le_of_ble_eq_true rfl)) dX8_fault_49 ⟨Nat.le_of_ble_eq_true rfl, Nat.le_of_ble_eq_true rfl⟩) (fun r27 hr28 => ?_)
            have ez29 : xb (nI 0 ≤ wh ∧ wh ≤ nI 3) = r27 := Eq.symm ((show r27 = xb (0 ≤ ((wh).toInt64) ∧ ((wh).toInt64) ≤ 3) from hr28).trans (x_in2 rfl rfl))
            subst ez29
            refine x_bne (tgt := 58) hx hb dX8_fault_52 (by decide) (fun c30 => ?_) (fun c30 => ?_)
            · have _u := trivial
              obtain ⟨ww, h_ww, e_ww⟩ := x_rng (by decide) c30
              subst e_ww
              have k_ww : (nI ww).toNatClampNeg = ww := nI_clamp (by omega)
              refine lv_aload_n hx hb dX8_fault_58 rfl (lv_at hl 0 rfl) ?_
              refine lv_iload_n hx hb dX8_fault_59 rfl (lv_at hl 2 rfl) ?_
              refine lv_iload_n hx hb dX8_fault_60 rfl (lv_at hl 3 rfl) ?_
              refine x_ci (va_runV (As := [.int (nI (k)), .int (d)]) (rest := []) ⟨hx, hb, hml, hown, hts⟩ (c_X8_backAt l D cy loc w s.heap.size σ hNN hRR d k (by omega)) (cwV 2 hts gX8_fault_X8_backAt rfl rfl rfl (by decide +kernel) ⟨Nat.le_of_ble_eq_true rfl, Nat.le_of_ble_eq_true rfl⟩) (x_preV hK hV f1 rfl) rfl rfl hl.1 rfl (lv_room (Nat.le_of_ble_eq_true rfl)) dX8_fault_61 ⟨Nat.le_of_ble_eq_true rfl, Nat.le_of_ble_eq_true rfl⟩) (fun r31 hr32 => ?_)
              rcases yat_or σ k d with ⟨j, h_j, q_j, ea33⟩ | ⟨q_j, ea33⟩
              · refine x_top (congrArg Value.int ((show r31 = _ from hr32).trans ea33)) ?_
                have h6_j := hN6 k
                refine lv_istore (lv' := [(7, .int (nI (9 * (6 * k + j)))), (0, .ref (loc (300))), (1, .int (nI (kt))), (2, .int (nI (k))), (3, .int (d)), (4, .int (nI (ll))), (5, .int (m0)), (6, .int (nI (ww)))]) hx hb dX8_fault_64 hl (by decide) rfl (fun ls hl => ?_)
                refine lv_iload hx hb dX8_fault_66 (lv_at hl 0 rfl) ?_
                refine lv_iconst (v := -1) hx hb dX8_fault_68 (by decide +kernel) ?_
                refine lv_icmp_ne (tgt := 75) hx hb dX8_fault_69 (by decide) (fun c34 => ?_) (fun c34 => ?_)
                · have _u := trivial
                  refine lv_aload_n hx hb dX8_fault_75 rfl (lv_at hl 1 rfl) ?_
                  refine lv_iload_n hx hb dX8_fault_76 rfl (lv_at hl 2 rfl) ?_
                  refine lv_iload hx hb dX8_fault_77 (lv_at hl 0 rfl) ?_
                  refine lv_iload hx hb dX8_fault_79 (lv_at hl 5 rfl) ?_
                  refine lv_iload hx hb dX8_fault_81 (lv_at hl 6 rfl) ?_
                  refine x_mv (va_runV (As := [.int (nI (kt)), .int (nI (9 * (6 * k + j))), .int (nI (ll)), .int (m0)]) (rest := []) ⟨hx, hb, hml, hown, hts⟩ (c_X8_judge l D cy loc w s.heap.size σ hNN hRR hB kt k j ll h_kt h_k h_j h_ll h_ll' (v0 0) (v0 1) (v0 2) (v0 3) (v0 4) m0 f1) (cwV 4 hts gX8_fault_X8_judge rfl rfl rfl (by decide +kernel) ⟨Nat.le_of_ble_eq_true rfl, Nat.le_of_ble_eq_true rfl⟩) (x_preV hK hV f1 rfl) rfl rfl hl.1 rfl (lv_room (Nat.le_of_ble_eq_true rfl)) dX8_fault_83 ⟨Nat.le_of_ble_eq_true rfl, Nat.le_of_ble_eq_true rfl⟩) hV hS hA (fun loc42 w41 H37 L38 hr36 hV39 hS40 => ?_)
                  obtain ⟨e43, g1, b1, e44⟩ := hr36
                  have e43 : loc = loc42 := Eq.symm e43
                  subst e43
                  have e44 := Eq.symm e44
                  subst e44
                  have f45 : (xup (xup (xup w (307) (eI cy 9 (g1))) (308) (eI cy 9 (b1))) (300) (.inr (8, [.ref (loc (301)), .int (nI (σ.2 0)), .ref (loc (302)), .ref (loc (303)), .ref (loc (304)), .int (nI (σ.2 1)), .ref (loc (305)), .ref (loc (306)), .ref (loc (307)), .ref (loc (308)), .int (nI (xfault (xbe σ kt (6 * k + j) ll) m0)), .int (xplace (xbe σ kt (6 * k + j) ll) m0), .int (xmo σ kt (6 * k + j) ll), .int (nI (xcnt (xbe σ kt (6 * k + j) ll) 0 9)), .int (nI (σ.2 5)), .ref (loc (309)), .ref (loc (310)), .int (v0 4), .int (nI (σ.2 2)), .ref (loc (311)), .int (nI (σ.2 3)), .ref (loc (312)), .ref (loc (313)), .int (σ.1 10 0), .int (σ.1 10 1), .int (nI (σ.2 4)), .ref (loc (314))]))) (300) = some (.inr (8, [.ref (loc (301)), .int (nI (σ.2 0)), .ref (loc (302)), .ref (loc (303)), .ref (loc (304)), .int (nI (σ.2 1)), .ref (loc (305)), .ref (loc (306)), .ref (loc (307)), .ref (loc (308)), .int (nI (xfault (xbe σ kt (6 * k + j) ll) m0)), .int (xplace (xbe σ kt (6 * k + j) ll) m0), .int (xmo σ kt (6 * k + j) ll), .int (nI (xcnt (xbe σ kt (6 * k + j) ll) 0 9)), .int (nI (σ.2 5)), .ref (loc (309)), .ref (loc (310)), .int (v0 4), .int (nI (σ.2 2)), .ref (loc (311)), .int (nI (σ.2 3)), .ref (loc (312)), .ref (loc (313)), .int (σ.1 10 0), .int (σ.1 10 1), .int (nI (σ.2 4)), .ref (loc (314))])) := xup_at _ _ _
                  have f46 : (xup (xup (xup w (307) (eI cy 9 (g1))) (308) (eI cy 9 (b1))) (300) (.inr (8, [.ref (loc (301)), .int (nI (σ.2 0)), .ref (loc (302)), .ref (loc (303)), .ref (loc (304)), .int (nI (σ.2 1)), .ref (loc (305)), .ref (loc (306)), .ref (loc (307)), .ref (loc (308)), .int (nI (xfault (xbe σ kt (6 * k + j) ll) m0)), .int (xplace (xbe σ kt (6 * k + j) ll) m0), .int (xmo σ kt (6 * k + j) ll), .int (nI (xcnt (xbe σ kt (6 * k + j) ll) 0 9)), .int (nI (σ.2 5)), .ref (loc (309)), .ref (loc (310)), .int (v0 4), .int (nI (σ.2 2)), .ref (loc (311)), .int (nI (σ.2 3)), .ref (loc (312)), .ref (loc (313)), .int (σ.1 10 0), .int (σ.1 10 1), .int (nI (σ.2 4)), .ref (loc (314))]))) (304) = some (eI cy 432 (σ.1 2)) := xup_o (xup_o (xup_o (f2) (by omega)) (by omega)) (by omega)
                  have f47 : (xup (xup (xup w (307) (eI cy 9 (g1))) (308) (eI cy 9 (b1))) (300) (.inr (8, [.ref (loc (301)), .int (nI (σ.2 0)), .ref (loc (302)), .ref (loc (303)), .ref (loc (304)), .int (nI (σ.2 1)), .ref (loc (305)), .ref (loc (306)), .ref (loc (307)), .ref (loc (308)), .int (nI (xfault (xbe σ kt (6 * k + j) ll) m0)), .int (xplace (xbe σ kt (6 * k + j) ll) m0), .int (xmo σ kt (6 * k + j) ll), .int (nI (xcnt (xbe σ kt (6 * k + j) ll) 0 9)), .int (nI (σ.2 5)), .ref (loc (309)), .ref (loc (310)), .int (v0 4), .int (nI (σ.2 2)), .ref (loc (311)), .int (nI (σ.2 3)), .ref (loc (312)), .ref (loc (313)), .int (σ.1 10 0), .int (σ.1 10 1), .int (nI (σ.2 4)), .ref (loc (314))]))) (305) = some (eI cy 72 (σ.1 3)) := xup_o (xup_o (xup_o (f3) (by omega)) (by omega)) (by omega)
                  have f48 : (xup (xup (xup w (307) (eI cy 9 (g1))) (308) (eI cy 9 (b1))) (300) (.inr (8, [.ref (loc (301)), .int (nI (σ.2 0)), .ref (loc (302)), .ref (loc (303)), .ref (loc (304)), .int (nI (σ.2 1)), .ref (loc (305)), .ref (loc (306)), .ref (loc (307)), .ref (loc (308)), .int (nI (xfault (xbe σ kt (6 * k + j) ll) m0)), .int (xplace (xbe σ kt (6 * k + j) ll) m0), .int (xmo σ kt (6 * k + j) ll), .int (nI (xcnt (xbe σ kt (6 * k + j) ll) 0 9)), .int (nI (σ.2 5)), .ref (loc (309)), .ref (loc (310)), .int (v0 4), .int (nI (σ.2 2)), .ref (loc (311)), .int (nI (σ.2 3)), .ref (loc (312)), .ref (loc (313)), .int (σ.1 10 0), .int (σ.1 10 1), .int (nI (σ.2 4)), .ref (loc (314))]))) (306) = some (eI cy 72 (σ.1 4)) := xup_o (xup_o (xup_o (f4) (by omega)) (by omega)) (by omega)
                  have f49 : (xup (xup (xup w (307) (eI cy 9 (g1))) (308) (eI cy 9 (b1))) (300) (.inr (8, [.ref (loc (301)), .int (nI (σ.2 0)), .ref (loc (302)), .ref (loc (303)), .ref (loc (304)), .int (nI (σ.2 1)), .ref (loc (305)), .ref (loc (306)), .ref (loc (307)), .ref (loc (308)), .int (nI (xfault (xbe σ kt (6 * k + j) ll) m0)), .int (xplace (xbe σ kt (6 * k + j) ll) m0), .int (xmo σ kt (6 * k + j) ll), .int (nI (xcnt (xbe σ kt (6 * k + j) ll) 0 9)), .int (nI (σ.2 5)), .ref (loc (309)), .ref (loc (310)), .int (v0 4), .int (nI (σ.2 2)), .ref (loc (311)), .int (nI (σ.2 3)), .ref (loc (312)), .ref (loc (313)), .int (σ.1 10 0), .int (σ.1 10 1), .int (nI (σ.2 4)), .ref (loc (314))]))) (307) = some (eI cy 9 (g1)) := xup_o (xup_o (xup_at _ _ _) (by omega)) (by omega)
                  have f50 : (xup (xup (xup w (307) (eI cy 9 (g1))) (308) (eI cy 9 (b1))) (300) (.inr (8, [.ref (loc (301)), .int (nI (σ.2 0)), .ref (loc (302)), .ref (loc (303)), .ref (loc (304)), .int (nI (σ.2 1)), .ref (loc (305)), .ref (loc (306)), .ref (loc (307)), .ref (loc (308)), .int (nI (xfault (xbe σ kt (6 * k + j) ll) m0)), .int (xplace (xbe σ kt (6 * k + j) ll) m0), .int (xmo σ kt (6 * k + j) ll), .int (nI (xcnt (xbe σ kt (6 * k + j) ll) 0 9)), .int (nI (σ.2 5)), .ref (loc (309)), .ref (loc (310)), .int (v0 4), .int (nI (σ.2 2)), .ref (loc (311)), .int (nI (σ.2 3)), .ref (loc (312)), .ref (loc (313)), .int (σ.1 10 0), .int (σ.1 10 1), .int (nI (σ.2 4)), .ref (loc (314))]))) (308) = some (eI cy 9 (b1)) := xup_o (xup_at _ _ _) (by omega)
                  refine lv_iload hx hb dX8_fault_86 (lv_at hl 7 rfl) ?_
                  refine lv_if_ne (tgt := 98) hx hb dX8_fault_88 (by decide) (fun c51 => ?_) (fun c51 => ?_)
                  · have _u := trivial
                    have w0 : ¬ ww = 0 := nI_nz c51
                    refine lv_iload hx hb dX8_fault_98 (lv_at hl 7 rfl) ?_
                    refine lv_iconst (v := nI 1) hx hb dX8_fault_100 (by decide +kernel) ?_
                    refine x_cne hx hb (ww) (1) (by omega) (by omega) (tgt := 111) dX8_fault_101 (by decide) (fun c52 => ?_) (fun c52 => ?_)
                    · have _u := trivial
                      have w1 : ¬ ww = 1 := c52
                      refine lv_iload hx hb dX8_fault_111 (lv_at hl 7 rfl) ?_
                      refine lv_iconst (v := nI 2) hx hb dX8_fault_113 (by decide +kernel) ?_
                      refine x_cne hx hb (ww) (2) (by omega) (by omega) (tgt := 124) dX8_fault_114 (by decide) (fun c53 => ?_) (fun c53 => ?_)
                      · have _u := trivial
                        have w2 : ¬ ww = 2 := c53
                        have w4 : ww = 3 := by omega
                        refine lv_aload_n hx hb dX8_fault_124 rfl (lv_at hl 1 rfl) ?_
                        refine x_get (C := RX8) (T := TX8) (N := 27) hx hb hts hi_X8_fault_X8 hown hK hV39 f45 rfl 13 (by decide) (hts (.fieldLink RX8 116 "SaddleHouseModel" "pressed" "I") (List.mem_of_getElem? (i := 5) rfl)) (fun _ h9 => h9) rfl dX8_fault_125 ?_
                        refine W.widen (k := 0) (n := 0) (by omega) (by omega) ?_
                        exact x_rmi hx hb hr hlocks dX8_fault_128 hV39 hS40 (⟨by show _ = _; simp only [sp_fault, c10, k_kt, c14, k_k, c18, c22, k_ll, c26, c30, k_ww, q_j, c34, if_true, if_false, ite_true, ite_false, not_true_eq_false, not_false_eq_true, and_true, true_and, and_false, false_and, or_true, true_or, or_false, false_or, and_self, or_self, Nat.add_sub_cancel, Nat.add_eq_zero_iff, Nat.one_ne_zero, eq_self, Nat.not_lt]; rw [w4]; rfl, yOK_sj hRR⟩)
                      · have _u := trivial
                        have w4 : ww = 2 := c53
                        refine lv_aload_n hx hb dX8_fault_117 rfl (lv_at hl 1 rfl) ?_
                        refine x_get (C := RX8) (T := TX8) (N := 27) hx hb hts hi_X8_fault_X8 hown hK hV39 f45 rfl 12 (by decide) (hts (.fieldLink RX8 113 "SaddleHouseModel" "most" "I") (List.mem_of_getElem? (i := 4) rfl)) (fun _ h9 => h9) rfl dX8_fault_118 ?_
                        refine lv_goto (tgt := 128) hx hb dX8_fault_121 (by decide) ?_
                        refine W.widen (k := 0) (n := 0) (by omega) (by omega) ?_
                        exact x_rmi hx hb hr hlocks dX8_fault_128 hV39 hS40 (⟨by show _ = _; simp only [sp_fault, c10, k_kt, c14, k_k, c18, c22, k_ll, c26, c30, k_ww, q_j, c34, if_true, if_false, ite_true, ite_false, not_true_eq_false, not_false_eq_true, and_true, true_and, and_false, false_and, or_true, true_or, or_false, false_or, and_self, or_self, Nat.add_sub_cancel, Nat.add_eq_zero_iff, Nat.one_ne_zero, eq_self, Nat.not_lt]; rw [w4]; rfl, yOK_sj hRR⟩)
                    · have _u := trivial
                      have w4 : ww = 1 := c52
                      refine lv_aload_n hx hb dX8_fault_104 rfl (lv_at hl 1 rfl) ?_
                      refine x_get (C := RX8) (T := TX8) (N := 27) hx hb hts hi_X8_fault_X8 hown hK hV39 f45 rfl 11 (by decide) (hts (.fieldLink RX8 110 "SaddleHouseModel" "faultAt" "I") (List.mem_of_getElem? (i := 3) rfl)) (fun _ h9 => h9) rfl dX8_fault_105 ?_
                      refine lv_goto (tgt := 128) hx hb dX8_fault_108 (by decide) ?_
                      refine W.widen (k := 0) (n := 0) (by omega) (by omega) ?_
                      exact x_rmi hx hb hr hlocks dX8_fault_128 hV39 hS40 (⟨by show _ = _; simp only [sp_fault, c10, k_kt, c14, k_k, c18, c22, k_ll, c26, c30, k_ww, q_j, c34, if_true, if_false, ite_true, ite_false, not_true_eq_false, not_false_eq_true, and_true, true_and, and_false, false_and, or_true, true_or, or_false, false_or, and_self, or_self, Nat.add_sub_cancel, Nat.add_eq_zero_iff, Nat.one_ne_zero, eq_self, Nat.not_lt]; rw [w4]; rfl, yOK_sj hRR⟩)
                  · have _u := trivial
                    have w4 : ww = 0 := nI_z2 (by omega) c51
                    refine lv_aload_n hx hb dX8_fault_91 rfl (lv_at hl 1 rfl) ?_
                    refine x_get (C := RX8) (T := TX8) (N := 27) hx hb hts hi_X8_fault_X8 hown hK hV39 f45 rfl 10 (by decide) (hts (.fieldLink RX8 107 "SaddleHouseModel" "fault" "I") (List.mem_of_getElem? (i := 2) rfl)) (fun _ h9 => h9) rfl dX8_fault_92 ?_
                    refine lv_goto (tgt := 128) hx hb dX8_fault_95 (by decide) ?_
                    refine W.widen (k := 0) (n := 0) (by omega) (by omega) ?_
                    exact x_rmi hx hb hr hlocks dX8_fault_128 hV39 hS40 (⟨by show _ = _; simp only [sp_fault, c10, k_kt, c14, k_k, c18, c22, k_ll, c26, c30, k_ww, q_j, c34, if_true, if_false, ite_true, ite_false, not_true_eq_false, not_false_eq_true, and_true, true_and, and_false, false_and, or_true, true_or, or_false, false_or, and_self, or_self, Nat.add_sub_cancel, Nat.add_eq_zero_iff, Nat.one_ne_zero, eq_self, Nat.not_lt]; rw [w4]; rfl, yOK_sj hRR⟩)
                · have _u := trivial
                  exact absurd c34 (nI_m1 (by omega))
              · refine x_top (congrArg Value.int ((show r31 = _ from hr32).trans ea33)) ?_
                refine lv_istore (lv' := [(7, .int ((-1))), (0, .ref (loc (300))), (1, .int (nI (kt))), (2, .int (nI (k))), (3, .int (d)), (4, .int (nI (ll))), (5, .int (m0)), (6, .int (nI (ww)))]) hx hb dX8_fault_64 hl (by decide) rfl (fun ls hl => ?_)
                refine lv_iload hx hb dX8_fault_66 (lv_at hl 0 rfl) ?_
                refine lv_iconst (v := -1) hx hb dX8_fault_68 (by decide +kernel) ?_
                refine lv_icmp_ne (tgt := 75) hx hb dX8_fault_69 (by decide) (fun c54 => ?_) (fun c54 => ?_)
                · have _u := trivial
                  exact absurd rfl c54
                · have _u := trivial
                  refine lv_bipush (v := -103) hx hb dX8_fault_72 (by decide +kernel) ?_
                  exact x_rmi hx hb hr hlocks dX8_fault_74 hV hS (⟨by show _ = _; simp only [sp_fault, c10, k_kt, c14, k_k, c18, c22, k_ll, c26, c30, k_ww, q_j, c54, if_true, if_false, ite_true, ite_false, not_true_eq_false, not_false_eq_true, and_true, true_and, and_false, false_and, or_true, true_or, or_false, false_or, and_self, or_self, Nat.add_sub_cancel, Nat.add_eq_zero_iff, Nat.one_ne_zero, eq_self, Nat.not_lt], yOK_id hRR⟩)
            · have _u := trivial
              refine lv_bipush (v := -102) hx hb dX8_fault_55 (by decide +kernel) ?_
              exact x_rmi hx hb hr hlocks dX8_fault_57 hV hS (⟨by show _ = _; simp only [sp_fault, c10, k_kt, c14, k_k, c18, c22, k_ll, c26, c30, if_true, if_false, ite_true, ite_false, not_true_eq_false, not_false_eq_true, and_true, true_and, and_false, false_and, or_true, true_or, or_false, false_or, and_self, or_self, Nat.add_sub_cancel, Nat.add_eq_zero_iff, Nat.one_ne_zero, eq_self, Nat.not_lt], yOK_id hRR⟩)
    · have _u := trivial
      refine lv_bipush (v := -101) hx hb dX8_fault_16 (by decide +kernel) ?_
      exact x_rmi hx hb hr hlocks dX8_fault_18 hV hS (⟨by show _ = _; simp only [sp_fault, c10, k_kt, c14, if_true, if_false, ite_true, ite_false, not_true_eq_false, not_false_eq_true, and_true, true_and, and_false, false_and, or_true, true_or, or_false, false_or, and_self, or_self, Nat.add_sub_cancel, Nat.add_eq_zero_iff, Nat.one_ne_zero, eq_self, Nat.not_lt], yOK_id hRR⟩)
