abbrev rm_X8_where : Room := { frames := 0, cells := 0, slots := 0, locals := 0 }
theorem hi_X8_where_X8 : ∀ w ∈ wsX80, w ∈ wsX8_where := fun w h => List.mem_cons_of_mem _ (List.mem_append_right _ h)
set_option maxHeartbeats 4000000 in
set_option maxRecDepth 100000 in
theorem c_X8_where (l : Launch) (D : va_G) (cy : Nat → ClassId) (loc : Nat → Nat) (w : xM) (sz : Nat) (σ : xS) (hN : xN8 σ) (hR : yR cy loc σ w)   : Met l yX8_where wsX8_where rm_X8_where (va_Pc [.ref (loc (300))] (xP D cy loc w sz)) (vp_Si (fun r => r = σ.1 10 0)) 0 0 (fun _ => False) := by
  refine x_met (cc := cX8_where) (maxL := 1) (ret := (some .int)) (C := RX8) (by decide) rfl rfl (Nat.le_of_ble_eq_true rfl) ?_
  intro p e s m below meth c ls hx hb hml hr hts hown hlocks hin hP hl
  obtain ⟨hsz, hV, hK⟩ := hP
  subst hsz
  have hl : lv_has ls 1 [(0, .ref (loc (300)))] := hl
  have hNN := hN
  have hRR := hR
  obtain ⟨g0, b0, q0, v0, hw⟩ := hR
  obtain ⟨hN0, hN1, hN2, hN3, hN4, hN5, hN6⟩ := hN
  have f1 : w (300) = some (.inr (8, [.ref (loc (301)), .int (nI (σ.2 0)), .ref (loc (302)), .ref (loc (303)), .ref (loc (304)), .int (nI (σ.2 1)), .ref (loc (305)), .ref (loc (306)), .ref (loc (307)), .ref (loc (308)), .int (v0 0), .int (v0 1), .int (v0 2), .int (v0 3), .int (nI (σ.2 5)), .ref (loc (309)), .ref (loc (310)), .int (v0 4), .int (nI (σ.2 2)), .ref (loc (311)), .int (nI (σ.2 3)), .ref (loc (312)), .ref (loc (313)), .int (σ.1 10 0), .int (σ.1 10 1), .int (nI (σ.2 4)), .ref (loc (314))])) := (hw 0 (by decide)).trans rfl
  refine lv_aload_n hx hb dX8_where_0 rfl (lv_at hl 0 rfl) ?_
  refine x_get (C := RX8) (T := TX8) (N := 27) hx hb hts hi_X8_where_X8 hown hK hV f1 rfl 23 (by decide) (hts (.fieldLink RX8 52 "SaddleHouseModel" "lastBench" "I") (List.mem_of_getElem? (i := 1) rfl)) (fun _ h9 => h9) rfl dX8_where_1 ?_
  exact x_ri hx hb hr hlocks dX8_where_4 (rfl)
abbrev rm_X8_under : Room := { frames := 2, cells := 0, slots := 0, locals := 46 }
set_option maxHeartbeats 4000000 in
set_option maxRecDepth 100000 in
theorem c_X8_under (l : Launch) (D : va_G) (cy : Nat → ClassId) (loc : Nat → Nat) (w : xM) (sz : Nat) (σ : xS) (hN : xN8 σ) (hR : yR cy loc σ w) (n i : Int32)   : Met l yX8_under wsX8_under rm_X8_under (va_Pc [.ref (loc (300)), .int (n), .int (i)] (xP D cy loc w sz)) (vp_Si (fun r => r = sp_under σ n i)) 0 0 (fun _ => False) := by
  refine x_met (cc := cX8_under) (maxL := 3) (ret := (some .int)) (C := RX8) (by decide) rfl rfl (Nat.le_of_ble_eq_true rfl) ?_
  intro p e s m below meth c ls hx hb hml hr hts hown hlocks hin hP hl
  obtain ⟨hsz, hV, hK⟩ := hP
  subst hsz
  have hl : lv_has ls 3 [(0, .ref (loc (300))), (1, .int (n)), (2, .int (i))] := hl
  have hNN := hN
  have hRR := hR
  obtain ⟨g0, b0, q0, v0, hw⟩ := hR
  obtain ⟨hN0, hN1, hN2, hN3, hN4, hN5, hN6⟩ := hN
  have f1 : w (300) = some (.inr (8, [.ref (loc (301)), .int (nI (σ.2 0)), .ref (loc (302)), .ref (loc (303)), .ref (loc (304)), .int (nI (σ.2 1)), .ref (loc (305)), .ref (loc (306)), .ref (loc (307)), .ref (loc (308)), .int (v0 0), .int (v0 1), .int (v0 2), .int (v0 3), .int (nI (σ.2 5)), .ref (loc (309)), .ref (loc (310)), .int (v0 4), .int (nI (σ.2 2)), .ref (loc (311)), .int (nI (σ.2 3)), .ref (loc (312)), .ref (loc (313)), .int (σ.1 10 0), .int (σ.1 10 1), .int (nI (σ.2 4)), .ref (loc (314))])) := (hw 0 (by decide)).trans rfl
  refine lv_aload_n hx hb dX8_under_0 rfl (lv_at hl 0 rfl) ?_
  refine lv_iload_n hx hb dX8_under_1 rfl (lv_at hl 1 rfl) ?_
  refine x_ci (va_runV (As := [.int (n)]) (rest := []) ⟨hx, hb, hml, hown, hts⟩ (c_X8_isTree l D cy loc w s.heap.size σ hNN hRR n) (cwV 1 hts gX8_under_X8_isTree rfl rfl rfl (by decide +kernel) ⟨Nat.le_of_ble_eq_true rfl, Nat.le_of_ble_eq_true rfl⟩) (x_preV hK hV f1 rfl) rfl rfl hl.1 rfl (lv_room (Nat.le_of_ble_eq_true rfl)) dX8_under_2 ⟨Nat.le_of_ble_eq_true rfl, Nat.le_of_ble_eq_true rfl⟩) (fun r2 hr3 => ?_)
  have ez4 : xb (nI 0 ≤ n ∧ n < nI (σ.2 1)) = r2 := Eq.symm (show r2 = xb (nI 0 ≤ n ∧ n < nI (σ.2 1)) from hr3)
  subst ez4
  refine x_beq (tgt := 24) hx hb dX8_under_5 (by decide) (fun c5 => ?_) (fun c5 => ?_)
  · have _u := trivial
    refine lv_bipush (v := -101) hx hb dX8_under_24 (by decide +kernel) ?_
    exact x_ri hx hb hr hlocks dX8_under_26 (by show _ = _; simp only [sp_under, c5, if_true, if_false, ite_true, ite_false, not_true_eq_false, not_false_eq_true, and_true, true_and, and_false, false_and, or_true, true_or, or_false, false_or, and_self, or_self, Nat.add_sub_cancel, Nat.add_eq_zero_iff, Nat.one_ne_zero, eq_self, Nat.not_lt])
  · have _u := trivial
    obtain ⟨kt, h_kt, e_kt⟩ := x_ix2 (show σ.2 1 < 2 ^ 31 by omega) c5
    subst e_kt
    have k_kt : (nI kt).toNatClampNeg = kt := nI_clamp (by omega)
    refine lv_iload_n hx hb dX8_under_8 rfl (lv_at hl 2 rfl) ?_
    refine x_ci (va_runS (As := [.int (i)]) (rest := []) ⟨hx, hb, hml, hown, hts⟩ (c_X8_isStation l D cy loc w s.heap.size i) (cwS 1 hts gX8_under_X8_isStation rfl rfl rfl (by decide +kernel) ⟨Nat.le_of_ble_eq_true rfl, Nat.le_of_ble_eq_true rfl⟩) (x_preS hK hV) rfl rfl hl.1 rfl (lv_room (Nat.le_of_ble_eq_true rfl)) dX8_under_9 ⟨Nat.le_of_ble_eq_true rfl, Nat.le_of_ble_eq_true rfl⟩) (fun r6 hr7 => ?_)
    have ez8 : xb (nI 0 ≤ i ∧ i ≤ nI 8) = r6 := Eq.symm (show r6 = xb (nI 0 ≤ i ∧ i ≤ nI 8) from hr7)
    subst ez8
    refine x_beq (tgt := 24) hx hb dX8_under_12 (by decide) (fun c9 => ?_) (fun c9 => ?_)
    · have _u := trivial
      refine lv_bipush (v := -101) hx hb dX8_under_24 (by decide +kernel) ?_
      exact x_ri hx hb hr hlocks dX8_under_26 (by show _ = _; simp only [sp_under, c5, k_kt, c9, if_true, if_false, ite_true, ite_false, not_true_eq_false, not_false_eq_true, and_true, true_and, and_false, false_and, or_true, true_or, or_false, false_or, and_self, or_self, Nat.add_sub_cancel, Nat.add_eq_zero_iff, Nat.one_ne_zero, eq_self, Nat.not_lt])
    · have _u := trivial
      obtain ⟨ii, h_ii, e_ii⟩ := x_rng (by decide) c9
      subst e_ii
      have k_ii : (nI ii).toNatClampNeg = ii := nI_clamp (by omega)
      refine lv_aload_n hx hb dX8_under_15 rfl (lv_at hl 0 rfl) ?_
      refine lv_iload_n hx hb dX8_under_16 rfl (lv_at hl 1 rfl) ?_
      refine lv_iload_n hx hb dX8_under_17 rfl (lv_at hl 2 rfl) ?_
      refine x_ci (va_runV (As := [.int (nI (kt)), .int (nI (ii))]) (rest := []) ⟨hx, hb, hml, hown, hts⟩ (c_X8_underOf l D cy loc w s.heap.size σ hNN hRR kt ii (by omega) (by omega)) (cwV 2 hts gX8_under_X8_underOf rfl rfl rfl (by decide +kernel) ⟨Nat.le_of_ble_eq_true rfl, Nat.le_of_ble_eq_true rfl⟩) (x_preV hK hV f1 rfl) rfl rfl hl.1 rfl (lv_room (Nat.le_of_ble_eq_true rfl)) dX8_under_18 ⟨Nat.le_of_ble_eq_true rfl, Nat.le_of_ble_eq_true rfl⟩) (fun r10 hr11 => ?_)
      have ez12 : σ.1 3 (9 * kt + ii) - σ.1 4 (9 * kt + ii) = r10 := Eq.symm (show r10 = σ.1 3 (9 * kt + ii) - σ.1 4 (9 * kt + ii) from hr11)
      subst ez12
      refine lv_goto (tgt := 26) hx hb dX8_under_21 (by decide) ?_
      exact x_ri hx hb hr hlocks dX8_under_26 (by show _ = _; simp only [sp_under, c5, k_kt, c9, k_ii, if_true, if_false, ite_true, ite_false, not_true_eq_false, not_false_eq_true, and_true, true_and, and_false, false_and, or_true, true_or, or_false, false_or, and_self, or_self, Nat.add_sub_cancel, Nat.add_eq_zero_iff, Nat.one_ne_zero, eq_self, Nat.not_lt])
abbrev rm_X8_back : Room := { frames := 2, cells := 0, slots := 0, locals := 46 }
theorem hi_X8_back_X8 : ∀ w ∈ wsX80, w ∈ wsX8_back := fun w h => List.mem_cons_of_mem _ (List.mem_append_right _ h)
set_option maxHeartbeats 4000000 in
set_option maxRecDepth 100000 in
theorem c_X8_back (l : Launch) (D : va_G) (cy : Nat → ClassId) (loc : Nat → Nat) (w : xM) (sz : Nat) (σ : xS) (hN : xN8 σ) (hR : yR cy loc σ w) (n d i : Int32)   : Met l yX8_back wsX8_back rm_X8_back (va_Pc [.ref (loc (300)), .int (n), .int (d), .int (i)] (xP D cy loc w sz)) (vp_Si (fun r => r = sp_back σ n d i)) 0 0 (fun _ => False) := by
  refine x_met (cc := cX8_back) (maxL := 5) (ret := (some .int)) (C := RX8) (by decide) rfl rfl (Nat.le_of_ble_eq_true rfl) ?_
  intro p e s m below meth c ls hx hb hml hr hts hown hlocks hin hP hl
  obtain ⟨hsz, hV, hK⟩ := hP
  subst hsz
  have hl : lv_has ls 5 [(0, .ref (loc (300))), (1, .int (n)), (2, .int (d)), (3, .int (i))] := hl
  have hNN := hN
  have hRR := hR
  obtain ⟨g0, b0, q0, v0, hw⟩ := hR
  obtain ⟨hN0, hN1, hN2, hN3, hN4, hN5, hN6⟩ := hN
  have f1 : w (300) = some (.inr (8, [.ref (loc (301)), .int (nI (σ.2 0)), .ref (loc (302)), .ref (loc (303)), .ref (loc (304)), .int (nI (σ.2 1)), .ref (loc (305)), .ref (loc (306)), .ref (loc (307)), .ref (loc (308)), .int (v0 0), .int (v0 1), .int (v0 2), .int (v0 3), .int (nI (σ.2 5)), .ref (loc (309)), .ref (loc (310)), .int (v0 4), .int (nI (σ.2 2)), .ref (loc (311)), .int (nI (σ.2 3)), .ref (loc (312)), .ref (loc (313)), .int (σ.1 10 0), .int (σ.1 10 1), .int (nI (σ.2 4)), .ref (loc (314))])) := (hw 0 (by decide)).trans rfl
  have f2 : w (304) = some (eI cy 432 (σ.1 2)) := (hw 4 (by decide)).trans rfl
  refine lv_aload_n hx hb dX8_back_0 rfl (lv_at hl 0 rfl) ?_
  refine lv_iload_n hx hb dX8_back_1 rfl (lv_at hl 1 rfl) ?_
  refine x_ci (va_runV (As := [.int (n)]) (rest := []) ⟨hx, hb, hml, hown, hts⟩ (c_X8_isHorse l D cy loc w s.heap.size σ hNN hRR n) (cwV 1 hts gX8_back_X8_isHorse rfl rfl rfl (by decide +kernel) ⟨Nat.le_of_ble_eq_true rfl, Nat.le_of_ble_eq_true rfl⟩) (x_preV hK hV f1 rfl) rfl rfl hl.1 rfl (lv_room (Nat.le_of_ble_eq_true rfl)) dX8_back_2 ⟨Nat.le_of_ble_eq_true rfl, Nat.le_of_ble_eq_true rfl⟩) (fun r3 hr4 => ?_)
  have ez5 : xb (nI 0 ≤ n ∧ n < nI (σ.2 0)) = r3 := Eq.symm (show r3 = xb (nI 0 ≤ n ∧ n < nI (σ.2 0)) from hr4)
  subst ez5
  refine x_beq (tgt := 15) hx hb dX8_back_5 (by decide) (fun c6 => ?_) (fun c6 => ?_)
  · have _u := trivial
    refine lv_bipush (v := -101) hx hb dX8_back_15 (by decide +kernel) ?_
    exact x_ri hx hb hr hlocks dX8_back_17 (by show _ = _; simp only [sp_back, c6, if_true, if_false, ite_true, ite_false, not_true_eq_false, not_false_eq_true, and_true, true_and, and_false, false_and, or_true, true_or, or_false, false_or, and_self, or_self, Nat.add_sub_cancel, Nat.add_eq_zero_iff, Nat.one_ne_zero, eq_self, Nat.not_lt])
  · have _u := trivial
    obtain ⟨k, h_k, e_k⟩ := x_ix2 (show σ.2 0 < 2 ^ 31 by omega) c6
    subst e_k
    have k_k : (nI k).toNatClampNeg = k := nI_clamp (by omega)
    refine lv_iload_n hx hb dX8_back_8 rfl (lv_at hl 3 rfl) ?_
    refine x_ci (va_runS (As := [.int (i)]) (rest := []) ⟨hx, hb, hml, hown, hts⟩ (c_X8_isStation l D cy loc w s.heap.size i) (cwS 1 hts gX8_back_X8_isStation rfl rfl rfl (by decide +kernel) ⟨Nat.le_of_ble_eq_true rfl, Nat.le_of_ble_eq_true rfl⟩) (x_preS hK hV) rfl rfl hl.1 rfl (lv_room (Nat.le_of_ble_eq_true rfl)) dX8_back_9 ⟨Nat.le_of_ble_eq_true rfl, Nat.le_of_ble_eq_true rfl⟩) (fun r7 hr8 => ?_)
    have ez9 : xb (nI 0 ≤ i ∧ i ≤ nI 8) = r7 := Eq.symm (show r7 = xb (nI 0 ≤ i ∧ i ≤ nI 8) from hr8)
    subst ez9
    refine x_bne (tgt := 18) hx hb dX8_back_12 (by decide) (fun c10 => ?_) (fun c10 => ?_)
    · have _u := trivial
      obtain ⟨ii, h_ii, e_ii⟩ := x_rng (by decide) c10
      subst e_ii
      have k_ii : (nI ii).toNatClampNeg = ii := nI_clamp (by omega)
      refine lv_iload_n hx hb dX8_back_18 rfl (lv_at hl 2 rfl) ?_
      refine x_ci (va_runS (As := [.int (d)]) (rest := []) ⟨hx, hb, hml, hown, hts⟩ (c_X8_isDay l D cy loc w s.heap.size d) (cwS 1 hts gX8_back_X8_isDay rfl rfl rfl (by decide +kernel) ⟨Nat.le_of_ble_eq_true rfl, Nat.le_of_ble_eq_true rfl⟩) (x_preS hK hV) rfl rfl hl.1 rfl (lv_room (Nat.le_of_ble_eq_true rfl)) dX8_back_19 ⟨Nat.le_of_ble_eq_true rfl, Nat.le_of_ble_eq_true rfl⟩) (fun r11 hr12 => ?_)
      have ez13 : xb (nI 0 ≤ d ∧ d ≤ nI 10000) = r11 := Eq.symm (show r11 = xb (nI 0 ≤ d ∧ d ≤ nI 10000) from hr12)
      subst ez13
      refine x_bne (tgt := 28) hx hb dX8_back_22 (by decide) (fun c14 => ?_) (fun c14 => ?_)
      · have _u := trivial
        refine lv_aload_n hx hb dX8_back_28 rfl (lv_at hl 0 rfl) ?_
        refine lv_iload_n hx hb dX8_back_29 rfl (lv_at hl 1 rfl) ?_
        refine lv_iload_n hx hb dX8_back_30 rfl (lv_at hl 2 rfl) ?_
        refine x_ci (va_runV (As := [.int (nI (k)), .int (d)]) (rest := []) ⟨hx, hb, hml, hown, hts⟩ (c_X8_backAt l D cy loc w s.heap.size σ hNN hRR d k (by omega)) (cwV 2 hts gX8_back_X8_backAt rfl rfl rfl (by decide +kernel) ⟨Nat.le_of_ble_eq_true rfl, Nat.le_of_ble_eq_true rfl⟩) (x_preV hK hV f1 rfl) rfl rfl hl.1 rfl (lv_room (Nat.le_of_ble_eq_true rfl)) dX8_back_31 ⟨Nat.le_of_ble_eq_true rfl, Nat.le_of_ble_eq_true rfl⟩) (fun r15 hr16 => ?_)
        rcases yat_or σ k d with ⟨j, h_j, q_j, ea17⟩ | ⟨q_j, ea17⟩
        · refine x_top (congrArg Value.int ((show r15 = _ from hr16).trans ea17)) ?_
          have h6_j := hN6 k
          refine lv_istore (lv' := [(4, .int (nI (9 * (6 * k + j)))), (0, .ref (loc (300))), (1, .int (nI (k))), (2, .int (d)), (3, .int (nI (ii)))]) hx hb dX8_back_34 hl (by decide) rfl (fun ls hl => ?_)
          refine lv_iload hx hb dX8_back_36 (lv_at hl 0 rfl) ?_
          refine lv_iconst (v := -1) hx hb dX8_back_38 (by decide +kernel) ?_
          refine lv_icmp_ne (tgt := 47) hx hb dX8_back_39 (by decide) (fun c18 => ?_) (fun c18 => ?_)
          · have _u := trivial
            refine lv_aload_n hx hb dX8_back_47 rfl (lv_at hl 1 rfl) ?_
            refine x_get (C := RX8) (T := TX8) (N := 27) hx hb hts hi_X8_back_X8 hown hK hV f1 rfl 4 (by decide) (hts (.fieldLink RX8 19 "SaddleHouseModel" "heights" "[I") (List.mem_of_getElem? (i := 1) rfl)) (fun _ h9 => h9) rfl dX8_back_48 ?_
            refine lv_iload hx hb dX8_back_51 (lv_at hl 0 rfl) ?_
            refine lv_iload_n hx hb dX8_back_53 rfl (lv_at hl 4 rfl) ?_
            refine x_iadd hx hb (9 * (6 * k + j)) (ii) dX8_back_54 ?_
            refine x_iald hx hb hK hV f2 ((9 * (6 * k + j)) + ii) (by omega) (by decide) dX8_back_55 ?_
            exact x_ri hx hb hr hlocks dX8_back_56 (by show _ = _; simp only [sp_back, c6, k_k, c10, k_ii, c14, q_j, c18, if_true, if_false, ite_true, ite_false, not_true_eq_false, not_false_eq_true, and_true, true_and, and_false, false_and, or_true, true_or, or_false, false_or, and_self, or_self, Nat.add_sub_cancel, Nat.add_eq_zero_iff, Nat.one_ne_zero, eq_self, Nat.not_lt])
          · have _u := trivial
            exact absurd c18 (nI_m1 (by omega))
        · refine x_top (congrArg Value.int ((show r15 = _ from hr16).trans ea17)) ?_
          refine lv_istore (lv' := [(4, .int ((-1))), (0, .ref (loc (300))), (1, .int (nI (k))), (2, .int (d)), (3, .int (nI (ii)))]) hx hb dX8_back_34 hl (by decide) rfl (fun ls hl => ?_)
          refine lv_iload hx hb dX8_back_36 (lv_at hl 0 rfl) ?_
          refine lv_iconst (v := -1) hx hb dX8_back_38 (by decide +kernel) ?_
          refine lv_icmp_ne (tgt := 47) hx hb dX8_back_39 (by decide) (fun c19 => ?_) (fun c19 => ?_)
          · have _u := trivial
            exact absurd rfl c19
          · have _u := trivial
            refine lv_bipush (v := -103) hx hb dX8_back_42 (by decide +kernel) ?_
            refine lv_goto (tgt := 56) hx hb dX8_back_44 (by decide) ?_
            exact x_ri hx hb hr hlocks dX8_back_56 (by show _ = _; simp only [sp_back, c6, k_k, c10, k_ii, c14, q_j, c19, if_true, if_false, ite_true, ite_false, not_true_eq_false, not_false_eq_true, and_true, true_and, and_false, false_and, or_true, true_or, or_false, false_or, and_self, or_self, Nat.add_sub_cancel, Nat.add_eq_zero_iff, Nat.one_ne_zero, eq_self, Nat.not_lt])
      · have _u := trivial
        refine lv_bipush (v := -102) hx hb dX8_back_25 (by decide +kernel) ?_
        exact x_ri hx hb hr hlocks dX8_back_27 (by show _ = _; simp only [sp_back, c6, k_k, c10, k_ii, c14, if_true, if_false, ite_true, ite_false, not_true_eq_false, not_false_eq_true, and_true, true_and, and_false, false_and, or_true, true_or, or_false, false_or, and_self, or_self, Nat.add_sub_cancel, Nat.add_eq_zero_iff, Nat.one_ne_zero, eq_self, Nat.not_lt])
    · have _u := trivial
      refine lv_bipush (v := -101) hx hb dX8_back_15 (by decide +kernel) ?_
      exact x_ri hx hb hr hlocks dX8_back_17 (by show _ = _; simp only [sp_back, c6, k_k, c10, if_true, if_false, ite_true, ite_false, not_true_eq_false, not_false_eq_true, and_true, true_and, and_false, false_and, or_true, true_or, or_false, false_or, and_self, or_self, Nat.add_sub_cancel, Nat.add_eq_zero_iff, Nat.one_ne_zero, eq_self, Nat.not_lt])
