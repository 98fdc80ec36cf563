abbrev rm_X8_bears : Room := { frames := 2, cells := 0, slots := 0, locals := 50 }
theorem hi_X8_bears_X8 : ∀ w ∈ wsX80, w ∈ wsX8_bears := fun w h => List.mem_cons_of_mem _ (List.mem_append_right _ h)
set_option maxHeartbeats 4000000 in
set_option maxRecDepth 100000 in
theorem c_X8_bears (l : Launch) (D : va_G) (cy : Nat → ClassId) (loc : Nat → Nat) (w : xM) (sz : Nat) (σ : xS) (hN : xN8 σ) (hR : yR cy loc σ w) (n ho d ld i : Int32) (hB : xBd σ)   : Met l yX8_bears wsX8_bears rm_X8_bears (va_Pc [.ref (loc (300)), .int (n), .int (ho), .int (d), .int (ld), .int (i)] (xP D cy loc w sz)) (va_Qi (fun r u => r = sp_bears σ n ho d ld i ∧ yOK cy loc w σ u) (xB D (xA loc w sz)) (xA loc w sz)) 0 0 (xA loc w sz) := by
  refine x_met (cc := cX8_bears) (maxL := 7) (ret := (some .int)) (C := RX8) (by decide) rfl rfl (Nat.le_of_ble_eq_true rfl) ?_
  intro p e s m below meth c ls hx hb hml hr hts hown hlocks hin hP hl
  obtain ⟨hsz, hV, hK⟩ := hP
  subst hsz
  have hA : ∀ q : Nat, s.heap.size ≤ q → xA loc w s.heap.size q := fun q h => Or.inr h
  have hS : va_S (xA loc w s.heap.size) s.heap s.heap [] := va_S.rf
  have hl : lv_has ls 7 [(0, .ref (loc (300))), (1, .int (n)), (2, .int (ho)), (3, .int (d)), (4, .int (ld)), (5, .int (i))] := hl
  have hNN := hN
  have hRR := hR
  obtain ⟨g0, b0, q0, v0, hw⟩ := hR
  obtain ⟨hN0, hN1, hN2, hN3, hN4, hN5, hN6⟩ := hN
  have f1 : w (300) = some (.inr (8, [.ref (loc (301)), .int (nI (σ.2 0)), .ref (loc (302)), .ref (loc (303)), .ref (loc (304)), .int (nI (σ.2 1)), .ref (loc (305)), .ref (loc (306)), .ref (loc (307)), .ref (loc (308)), .int (v0 0), .int (v0 1), .int (v0 2), .int (v0 3), .int (nI (σ.2 5)), .ref (loc (309)), .ref (loc (310)), .int (v0 4), .int (nI (σ.2 2)), .ref (loc (311)), .int (nI (σ.2 3)), .ref (loc (312)), .ref (loc (313)), .int (σ.1 10 0), .int (σ.1 10 1), .int (nI (σ.2 4)), .ref (loc (314))])) := (hw 0 (by decide)).trans rfl
  have f2 : w (304) = some (eI cy 432 (σ.1 2)) := (hw 4 (by decide)).trans rfl
  have f3 : w (305) = some (eI cy 72 (σ.1 3)) := (hw 5 (by decide)).trans rfl
  have f4 : w (306) = some (eI cy 72 (σ.1 4)) := (hw 6 (by decide)).trans rfl
  have f5 : w (307) = some (eI cy 9 (g0)) := (hw 7 (by decide)).trans rfl
  have f6 : w (308) = some (eI cy 9 (b0)) := (hw 8 (by decide)).trans rfl
  refine lv_aload_n hx hb dX8_bears_0 rfl (lv_at hl 0 rfl) ?_
  refine lv_iload_n hx hb dX8_bears_1 rfl (lv_at hl 1 rfl) ?_
  refine x_ci (va_runV (As := [.int (n)]) (rest := []) ⟨hx, hb, hml, hown, hts⟩ (c_X8_isTree l D cy loc w s.heap.size σ hNN hRR n) (cwV 1 hts gX8_bears_X8_isTree rfl rfl rfl (by decide +kernel) ⟨Nat.le_of_ble_eq_true rfl, Nat.le_of_ble_eq_true rfl⟩) (x_preV hK hV f1 rfl) rfl rfl hl.1 rfl (lv_room (Nat.le_of_ble_eq_true rfl)) dX8_bears_2 ⟨Nat.le_of_ble_eq_true rfl, Nat.le_of_ble_eq_true rfl⟩) (fun r7 hr8 => ?_)
  have ez9 : xb (nI 0 ≤ n ∧ n < nI (σ.2 1)) = r7 := Eq.symm (show r7 = xb (nI 0 ≤ n ∧ n < nI (σ.2 1)) from hr8)
  subst ez9
  refine x_beq (tgt := 24) hx hb dX8_bears_5 (by decide) (fun c10 => ?_) (fun c10 => ?_)
  · have _u := trivial
    refine lv_bipush (v := -101) hx hb dX8_bears_24 (by decide +kernel) ?_
    exact x_rmi hx hb hr hlocks dX8_bears_26 hV hS (⟨by show _ = _; simp only [sp_bears, c10, if_true, if_false, ite_true, ite_false, not_true_eq_false, not_false_eq_true, and_true, true_and, and_false, false_and, or_true, true_or, or_false, false_or, and_self, or_self, Nat.add_sub_cancel, Nat.add_eq_zero_iff, Nat.one_ne_zero, eq_self, Nat.not_lt], yOK_id hRR⟩)
  · have _u := trivial
    obtain ⟨kt, h_kt, e_kt⟩ := x_ix2 (show σ.2 1 < 2 ^ 31 by omega) c10
    subst e_kt
    have k_kt : (nI kt).toNatClampNeg = kt := nI_clamp (by omega)
    refine lv_aload_n hx hb dX8_bears_8 rfl (lv_at hl 0 rfl) ?_
    refine lv_iload_n hx hb dX8_bears_9 rfl (lv_at hl 2 rfl) ?_
    refine x_ci (va_runV (As := [.int (ho)]) (rest := []) ⟨hx, hb, hml, hown, hts⟩ (c_X8_isHorse l D cy loc w s.heap.size σ hNN hRR ho) (cwV 1 hts gX8_bears_X8_isHorse rfl rfl rfl (by decide +kernel) ⟨Nat.le_of_ble_eq_true rfl, Nat.le_of_ble_eq_true rfl⟩) (x_preV hK hV f1 rfl) rfl rfl hl.1 rfl (lv_room (Nat.le_of_ble_eq_true rfl)) dX8_bears_10 ⟨Nat.le_of_ble_eq_true rfl, Nat.le_of_ble_eq_true rfl⟩) (fun r11 hr12 => ?_)
    have ez13 : xb (nI 0 ≤ ho ∧ ho < nI (σ.2 0)) = r11 := Eq.symm (show r11 = xb (nI 0 ≤ ho ∧ ho < nI (σ.2 0)) from hr12)
    subst ez13
    refine x_beq (tgt := 24) hx hb dX8_bears_13 (by decide) (fun c14 => ?_) (fun c14 => ?_)
    · have _u := trivial
      refine lv_bipush (v := -101) hx hb dX8_bears_24 (by decide +kernel) ?_
      exact x_rmi hx hb hr hlocks dX8_bears_26 hV hS (⟨by show _ = _; simp only [sp_bears, c10, k_kt, c14, if_true, if_false, ite_true, ite_false, not_true_eq_false, not_false_eq_true, and_true, true_and, and_false, false_and, or_true, true_or, or_false, false_or, and_self, or_self, Nat.add_sub_cancel, Nat.add_eq_zero_iff, Nat.one_ne_zero, eq_self, Nat.not_lt], yOK_id hRR⟩)
    · have _u := trivial
      obtain ⟨k, h_k, e_k⟩ := x_ix2 (show σ.2 0 < 2 ^ 31 by omega) c14
      subst e_k
      have k_k : (nI k).toNatClampNeg = k := nI_clamp (by omega)
      refine lv_iload hx hb dX8_bears_16 (lv_at hl 5 rfl) ?_
      refine x_ci (va_runS (As := [.int (i)]) (rest := []) ⟨hx, hb, hml, hown, hts⟩ (c_X8_isStation l D cy loc w s.heap.size i) (cwS 1 hts gX8_bears_X8_isStation rfl rfl rfl (by decide +kernel) ⟨Nat.le_of_ble_eq_true rfl, Nat.le_of_ble_eq_true rfl⟩) (x_preS hK hV) rfl rfl hl.1 rfl (lv_room (Nat.le_of_ble_eq_true rfl)) dX8_bears_18 ⟨Nat.le_of_ble_eq_true rfl, Nat.le_of_ble_eq_true rfl⟩) (fun r15 hr16 => ?_)
      have ez17 : xb (nI 0 ≤ i ∧ i ≤ nI 8) = r15 := Eq.symm (show r15 = xb (nI 0 ≤ i ∧ i ≤ nI 8) from hr16)
      subst ez17
      refine x_bne (tgt := 27) hx hb dX8_bears_21 (by decide) (fun c18 => ?_) (fun c18 => ?_)
      · have _u := trivial
        obtain ⟨ii, h_ii, e_ii⟩ := x_rng (by decide) c18
        subst e_ii
        have k_ii : (nI ii).toNatClampNeg = ii := nI_clamp (by omega)
        refine lv_iload_n hx hb dX8_bears_27 rfl (lv_at hl 3 rfl) ?_
        refine x_ci (va_runS (As := [.int (d)]) (rest := []) ⟨hx, hb, hml, hown, hts⟩ (c_X8_isDay l D cy loc w s.heap.size d) (cwS 1 hts gX8_bears_X8_isDay rfl rfl rfl (by decide +kernel) ⟨Nat.le_of_ble_eq_true rfl, Nat.le_of_ble_eq_true rfl⟩) (x_preS hK hV) rfl rfl hl.1 rfl (lv_room (Nat.le_of_ble_eq_true rfl)) dX8_bears_28 ⟨Nat.le_of_ble_eq_true rfl, Nat.le_of_ble_eq_true rfl⟩) (fun r19 hr20 => ?_)
        have ez21 : xb (nI 0 ≤ d ∧ d ≤ nI 10000) = r19 := Eq.symm (show r19 = xb (nI 0 ≤ d ∧ d ≤ nI 10000) from hr20)
        subst ez21
        refine x_beq (tgt := 42) hx hb dX8_bears_31 (by decide) (fun c22 => ?_) (fun c22 => ?_)
        · have _u := trivial
          refine lv_bipush (v := -102) hx hb dX8_bears_42 (by decide +kernel) ?_
          exact x_rmi hx hb hr hlocks dX8_bears_44 hV hS (⟨by show _ = _; simp only [sp_bears, c10, k_kt, c14, k_k, c18, k_ii, c22, if_true, if_false, ite_true, ite_false, not_true_eq_false, not_false_eq_true, and_true, true_and, and_false, false_and, or_true, true_or, or_false, false_or, and_self, or_self, Nat.add_sub_cancel, Nat.add_eq_zero_iff, Nat.one_ne_zero, eq_self, Nat.not_lt], yOK_id hRR⟩)
        · have _u := trivial
          refine lv_iload hx hb dX8_bears_34 (lv_at hl 4 rfl) ?_
          refine x_ci (va_runS (As := [.int (ld)]) (rest := []) ⟨hx, hb, hml, hown, hts⟩ (c_X8_isLoad l D cy loc w s.heap.size ld) (cwS 1 hts gX8_bears_X8_isLoad rfl rfl rfl (by decide +kernel) ⟨Nat.le_of_ble_eq_true rfl, Nat.le_of_ble_eq_true rfl⟩) (x_preS hK hV) rfl rfl hl.1 rfl (lv_room (Nat.le_of_ble_eq_true rfl)) dX8_bears_36 ⟨Nat.le_of_ble_eq_true rfl, Nat.le_of_ble_eq_true rfl⟩) (fun r23 hr24 => ?_)
          have ez25 : xb (nI 1 ≤ ld ∧ ld ≤ nI 2000) = r23 := Eq.symm (show r23 = xb (nI 1 ≤ ld ∧ ld ≤ nI 2000) from hr24)
          subst ez25
          refine x_bne (tgt := 45) hx hb dX8_bears_39 (by decide) (fun c26 => ?_) (fun c26 => ?_)
          · have _u := trivial
            obtain ⟨ll, h_ll, h_ll', e_ll⟩ := x_rng1 (by decide) (by decide) c26
            subst e_ll
            have k_ll : (nI ll).toNatClampNeg = ll := nI_clamp (by omega)
            refine lv_aload_n hx hb dX8_bears_45 rfl (lv_at hl 0 rfl) ?_
            refine lv_iload_n hx hb dX8_bears_46 rfl (lv_at hl 2 rfl) ?_
            refine lv_iload_n hx hb dX8_bears_47 rfl (lv_at hl 3 rfl) ?_
            refine x_ci (va_runV (As := [.int (nI (k)), .int (d)]) (rest := []) ⟨hx, hb, hml, hown, hts⟩ (c_X8_backAt l D cy loc w s.heap.size σ hNN hRR d k (by omega)) (cwV 2 hts gX8_bears_X8_backAt rfl rfl rfl (by decide +kernel) ⟨Nat.le_of_ble_eq_true rfl, Nat.le_of_ble_eq_true rfl⟩) (x_preV hK hV f1 rfl) rfl rfl hl.1 rfl (lv_room (Nat.le_of_ble_eq_true rfl)) dX8_bears_48 ⟨Nat.le_of_ble_eq_true rfl, Nat.le_of_ble_eq_true rfl⟩) (fun r27 hr28 => ?_)
            rcases yat_or σ k d with ⟨j, h_j, q_j, ea29⟩ | ⟨q_j, ea29⟩
            · refine x_top (congrArg Value.int ((show r27 = _ from hr28).trans ea29)) ?_
              have h6_j := hN6 k
              refine lv_istore (lv' := [(6, .int (nI (9 * (6 * k + j)))), (0, .ref (loc (300))), (1, .int (nI (kt))), (2, .int (nI (k))), (3, .int (d)), (4, .int (nI (ll))), (5, .int (nI (ii)))]) hx hb dX8_bears_51 hl (by decide) rfl (fun ls hl => ?_)
              refine lv_iload hx hb dX8_bears_53 (lv_at hl 0 rfl) ?_
              refine lv_iconst (v := -1) hx hb dX8_bears_55 (by decide +kernel) ?_
              refine lv_icmp_ne (tgt := 62) hx hb dX8_bears_56 (by decide) (fun c30 => ?_) (fun c30 => ?_)
              · have _u := trivial
                refine lv_aload_n hx hb dX8_bears_62 rfl (lv_at hl 1 rfl) ?_
                refine lv_iload_n hx hb dX8_bears_63 rfl (lv_at hl 2 rfl) ?_
                refine lv_iload hx hb dX8_bears_64 (lv_at hl 0 rfl) ?_
                refine lv_iload hx hb dX8_bears_66 (lv_at hl 5 rfl) ?_
                refine x_mv (va_runV (As := [.int (nI (kt)), .int (nI (9 * (6 * k + j))), .int (nI (ll))]) (rest := []) ⟨hx, hb, hml, hown, hts⟩ (c_X8_settle l D cy loc w s.heap.size σ hNN hRR hB kt k j ll h_kt h_k h_j h_ll h_ll') (cwV 3 hts gX8_bears_X8_settle rfl rfl rfl (by decide +kernel) ⟨Nat.le_of_ble_eq_true rfl, Nat.le_of_ble_eq_true rfl⟩) (x_preV hK hV f1 rfl) rfl rfl hl.1 rfl (lv_room (Nat.le_of_ble_eq_true rfl)) dX8_bears_68 ⟨Nat.le_of_ble_eq_true rfl, Nat.le_of_ble_eq_true rfl⟩) hV hS hA (fun loc38 w37 H33 L34 hr32 hV35 hS36 => ?_)
                obtain ⟨e40, g1, b1, e41, hb1⟩ := hr32
                have e40 : loc = loc38 := Eq.symm e40
                subst e40
                have e41 := Eq.symm e41
                subst e41
                have f42 : (xup (xup w (307) (eI cy 9 (g1))) (308) (eI cy 9 (b1))) (300) = some (.inr (8, [.ref (loc (301)), .int (nI (σ.2 0)), .ref (loc (302)), .ref (loc (303)), .ref (loc (304)), .int (nI (σ.2 1)), .ref (loc (305)), .ref (loc (306)), .ref (loc (307)), .ref (loc (308)), .int (v0 0), .int (v0 1), .int (v0 2), .int (v0 3), .int (nI (σ.2 5)), .ref (loc (309)), .ref (loc (310)), .int (v0 4), .int (nI (σ.2 2)), .ref (loc (311)), .int (nI (σ.2 3)), .ref (loc (312)), .ref (loc (313)), .int (σ.1 10 0), .int (σ.1 10 1), .int (nI (σ.2 4)), .ref (loc (314))])) := xup_o (xup_o (f1) (by omega)) (by omega)
                have f43 : (xup (xup w (307) (eI cy 9 (g1))) (308) (eI cy 9 (b1))) (304) = some (eI cy 432 (σ.1 2)) := xup_o (xup_o (f2) (by omega)) (by omega)
                have f44 : (xup (xup w (307) (eI cy 9 (g1))) (308) (eI cy 9 (b1))) (305) = some (eI cy 72 (σ.1 3)) := xup_o (xup_o (f3) (by omega)) (by omega)
                have f45 : (xup (xup w (307) (eI cy 9 (g1))) (308) (eI cy 9 (b1))) (306) = some (eI cy 72 (σ.1 4)) := xup_o (xup_o (f4) (by omega)) (by omega)
                have f46 : (xup (xup w (307) (eI cy 9 (g1))) (308) (eI cy 9 (b1))) (307) = some (eI cy 9 (g1)) := xup_o (xup_at _ _ _) (by omega)
                have f47 : (xup (xup w (307) (eI cy 9 (g1))) (308) (eI cy 9 (b1))) (308) = some (eI cy 9 (b1)) := xup_at _ _ _
                have hb1 : ∀ i, i < 9 → b1 i = xbe σ kt (6 * k + j) ll i := hb1
                refine lv_aload_n hx hb dX8_bears_71 rfl (lv_at hl 1 rfl) ?_
                refine x_get (C := RX8) (T := TX8) (N := 27) hx hb hts hi_X8_bears_X8 hown hK hV35 f42 rfl 9 (by decide) (hts (.fieldLink RX8 31 "SaddleHouseModel" "bears" "[I") (List.mem_of_getElem? (i := 1) rfl)) (fun _ h9 => h9) rfl dX8_bears_72 ?_
                refine lv_iload hx hb dX8_bears_75 (lv_at hl 6 rfl) ?_
                refine x_iald hx hb hK hV35 f47 (ii) (by omega) (by decide) dX8_bears_77 ?_
                refine W.widen (k := 0) (n := 0) (by omega) (by omega) ?_
                exact x_rmi hx hb hr hlocks dX8_bears_78 hV35 hS36 (⟨by show _ = _; simp only [sp_bears, c10, k_kt, c14, k_k, c18, k_ii, c22, c26, k_ll, q_j, c30, if_true, if_false, ite_true, ite_false, not_true_eq_false, not_false_eq_true, and_true, true_and, and_false, false_and, or_true, true_or, or_false, false_or, and_self, or_self, Nat.add_sub_cancel, Nat.add_eq_zero_iff, Nat.one_ne_zero, eq_self, Nat.not_lt]; exact hb1 ii (by omega), yOK_sc hRR⟩)
              · have _u := trivial
                exact absurd c30 (nI_m1 (by omega))
            · refine x_top (congrArg Value.int ((show r27 = _ from hr28).trans ea29)) ?_
              refine lv_istore (lv' := [(6, .int ((-1))), (0, .ref (loc (300))), (1, .int (nI (kt))), (2, .int (nI (k))), (3, .int (d)), (4, .int (nI (ll))), (5, .int (nI (ii)))]) hx hb dX8_bears_51 hl (by decide) rfl (fun ls hl => ?_)
              refine lv_iload hx hb dX8_bears_53 (lv_at hl 0 rfl) ?_
              refine lv_iconst (v := -1) hx hb dX8_bears_55 (by decide +kernel) ?_
              refine lv_icmp_ne (tgt := 62) hx hb dX8_bears_56 (by decide) (fun c48 => ?_) (fun c48 => ?_)
              · have _u := trivial
                exact absurd rfl c48
              · have _u := trivial
                refine lv_bipush (v := -103) hx hb dX8_bears_59 (by decide +kernel) ?_
                exact x_rmi hx hb hr hlocks dX8_bears_61 hV hS (⟨by show _ = _; simp only [sp_bears, c10, k_kt, c14, k_k, c18, k_ii, c22, c26, k_ll, q_j, c48, if_true, if_false, ite_true, ite_false, not_true_eq_false, not_false_eq_true, and_true, true_and, and_false, false_and, or_true, true_or, or_false, false_or, and_self, or_self, Nat.add_sub_cancel, Nat.add_eq_zero_iff, Nat.one_ne_zero, eq_self, Nat.not_lt], yOK_id hRR⟩)
          · have _u := trivial
            refine lv_bipush (v := -102) hx hb dX8_bears_42 (by decide +kernel) ?_
            exact x_rmi hx hb hr hlocks dX8_bears_44 hV hS (⟨by show _ = _; simp only [sp_bears, c10, k_kt, c14, k_k, c18, k_ii, c22, c26, if_true, if_false, ite_true, ite_false, not_true_eq_false, not_false_eq_true, and_true, true_and, and_false, false_and, or_true, true_or, or_false, false_or, and_self, or_self, Nat.add_sub_cancel, Nat.add_eq_zero_iff, Nat.one_ne_zero, eq_self, Nat.not_lt], yOK_id hRR⟩)
      · have _u := trivial
        refine lv_bipush (v := -101) hx hb dX8_bears_24 (by decide +kernel) ?_
        exact x_rmi hx hb hr hlocks dX8_bears_26 hV hS (⟨by show _ = _; simp only [sp_bears, c10, k_kt, c14, k_k, c18, if_true, if_false, ite_true, ite_false, not_true_eq_false, not_false_eq_true, and_true, true_and, and_false, false_and, or_true, true_or, or_false, false_or, and_self, or_self, Nat.add_sub_cancel, Nat.add_eq_zero_iff, Nat.one_ne_zero, eq_self, Nat.not_lt], yOK_id hRR⟩)
