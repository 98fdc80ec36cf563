abbrev rm_X8_saddle : Room := { frames := 2, cells := 0, slots := 0, locals := 46 }
theorem hi_X8_saddle_X8 : ∀ w ∈ wsX80, w ∈ wsX8_saddle := fun w h => List.mem_cons_of_mem _ (List.mem_append_right _ h)
set_option maxHeartbeats 4000000 in
set_option maxRecDepth 100000 in
theorem c_X8_saddle (l : Launch) (D : va_G) (cy : Nat → ClassId) (loc : Nat → Nat) (w : xM) (sz : Nat) (σ : xS) (hN : xN8 σ) (hR : yR cy loc σ w) (n ho d gu ch : Int32)   : Met l yX8_saddle wsX8_saddle rm_X8_saddle (va_Pc [.ref (loc (300)), .int (n), .int (ho), .int (d), .int (gu), .int (ch)] (xP D cy loc w sz)) (va_Qi (fun r u => r = (sp_saddle σ n ho d gu ch).1 ∧ yOK cy loc w (sp_saddle σ n ho d gu ch).2 u) (xB D (xA loc w sz)) (xA loc w sz)) 0 0 (xA loc w sz) := by
  refine x_met (cc := cX8_saddle) (maxL := 7) (ret := (some .int)) (C := RX8) (by decide) rfl rfl (Nat.le_of_ble_eq_true rfl) ?_
  intro p e s m below meth c ls hx hb hml hr hts hown hlocks hin hP hl
  obtain ⟨hsz, hV, hK⟩ := hP
  subst hsz
  have hA : ∀ q : Nat, s.heap.size ≤ q → xA loc w s.heap.size q := fun q h => Or.inr h
  have hS : va_S (xA loc w s.heap.size) s.heap s.heap [] := va_S.rf
  have hl : lv_has ls 7 [(0, .ref (loc (300))), (1, .int (n)), (2, .int (ho)), (3, .int (d)), (4, .int (gu)), (5, .int (ch))] := hl
  have hNN := hN
  have hRR := hR
  obtain ⟨g0, b0, q0, v0, hw⟩ := hR
  obtain ⟨hN0, hN1, hN2, hN3, hN4, hN5, hN6⟩ := hN
  have f1 : w (300) = some (.inr (8, [.ref (loc (301)), .int (nI (σ.2 0)), .ref (loc (302)), .ref (loc (303)), .ref (loc (304)), .int (nI (σ.2 1)), .ref (loc (305)), .ref (loc (306)), .ref (loc (307)), .ref (loc (308)), .int (v0 0), .int (v0 1), .int (v0 2), .int (v0 3), .int (nI (σ.2 5)), .ref (loc (309)), .ref (loc (310)), .int (v0 4), .int (nI (σ.2 2)), .ref (loc (311)), .int (nI (σ.2 3)), .ref (loc (312)), .ref (loc (313)), .int (σ.1 10 0), .int (σ.1 10 1), .int (nI (σ.2 4)), .ref (loc (314))])) := (hw 0 (by decide)).trans rfl
  have f2 : w (314) = some (eI cy 60 (σ.1 9)) := (hw 14 (by decide)).trans rfl
  refine lv_aload_n hx hb dX8_saddle_0 rfl (lv_at hl 0 rfl) ?_
  refine lv_iload_n hx hb dX8_saddle_1 rfl (lv_at hl 1 rfl) ?_
  refine x_ci (va_runV (As := [.int (n)]) (rest := []) ⟨hx, hb, hml, hown, hts⟩ (c_X8_isTree l D cy loc w s.heap.size σ hNN hRR n) (cwV 1 hts gX8_saddle_X8_isTree rfl rfl rfl (by decide +kernel) ⟨Nat.le_of_ble_eq_true rfl, Nat.le_of_ble_eq_true rfl⟩) (x_preV hK hV f1 rfl) rfl rfl hl.1 rfl (lv_room (Nat.le_of_ble_eq_true rfl)) dX8_saddle_2 ⟨Nat.le_of_ble_eq_true rfl, Nat.le_of_ble_eq_true rfl⟩) (fun r3 hr4 => ?_)
  have ez5 : xb (nI 0 ≤ n ∧ n < nI (σ.2 1)) = r3 := Eq.symm (show r3 = xb (nI 0 ≤ n ∧ n < nI (σ.2 1)) from hr4)
  subst ez5
  refine x_beq (tgt := 16) hx hb dX8_saddle_5 (by decide) (fun c6 => ?_) (fun c6 => ?_)
  · have _u := trivial
    refine lv_bipush (v := -101) hx hb dX8_saddle_16 (by decide +kernel) ?_
    exact x_rmi hx hb hr hlocks dX8_saddle_18 hV hS (y_lf (by simp only [sp_saddle, c6, if_true, if_false, ite_true, ite_false, not_true_eq_false, not_false_eq_true, and_true, true_and, and_false, false_and, or_true, true_or, or_false, false_or, and_self, or_self, Nat.add_sub_cancel, Nat.add_eq_zero_iff, Nat.one_ne_zero, eq_self, Nat.not_lt]) (yOK_id hRR))
  · have _u := trivial
    obtain ⟨kt, h_kt, e_kt⟩ := x_ix2 (show σ.2 1 < 2 ^ 31 by omega) c6
    subst e_kt
    have k_kt : (nI kt).toNatClampNeg = kt := nI_clamp (by omega)
    refine lv_aload_n hx hb dX8_saddle_8 rfl (lv_at hl 0 rfl) ?_
    refine lv_iload_n hx hb dX8_saddle_9 rfl (lv_at hl 2 rfl) ?_
    refine x_ci (va_runV (As := [.int (ho)]) (rest := []) ⟨hx, hb, hml, hown, hts⟩ (c_X8_isHorse l D cy loc w s.heap.size σ hNN hRR ho) (cwV 1 hts gX8_saddle_X8_isHorse rfl rfl rfl (by decide +kernel) ⟨Nat.le_of_ble_eq_true rfl, Nat.le_of_ble_eq_true rfl⟩) (x_preV hK hV f1 rfl) rfl rfl hl.1 rfl (lv_room (Nat.le_of_ble_eq_true rfl)) dX8_saddle_10 ⟨Nat.le_of_ble_eq_true rfl, Nat.le_of_ble_eq_true rfl⟩) (fun r7 hr8 => ?_)
    have ez9 : xb (nI 0 ≤ ho ∧ ho < nI (σ.2 0)) = r7 := Eq.symm (show r7 = xb (nI 0 ≤ ho ∧ ho < nI (σ.2 0)) from hr8)
    subst ez9
    refine x_bne (tgt := 19) hx hb dX8_saddle_13 (by decide) (fun c10 => ?_) (fun c10 => ?_)
    · have _u := trivial
      obtain ⟨k, h_k, e_k⟩ := x_ix2 (show σ.2 0 < 2 ^ 31 by omega) c10
      subst e_k
      have k_k : (nI k).toNatClampNeg = k := nI_clamp (by omega)
      refine lv_iload_n hx hb dX8_saddle_19 rfl (lv_at hl 3 rfl) ?_
      refine x_ci (va_runS (As := [.int (d)]) (rest := []) ⟨hx, hb, hml, hown, hts⟩ (c_X8_isDay l D cy loc w s.heap.size d) (cwS 1 hts gX8_saddle_X8_isDay rfl rfl rfl (by decide +kernel) ⟨Nat.le_of_ble_eq_true rfl, Nat.le_of_ble_eq_true rfl⟩) (x_preS hK hV) rfl rfl hl.1 rfl (lv_room (Nat.le_of_ble_eq_true rfl)) dX8_saddle_20 ⟨Nat.le_of_ble_eq_true rfl, Nat.le_of_ble_eq_true rfl⟩) (fun r11 hr12 => ?_)
      have ez13 : xb (nI 0 ≤ d ∧ d ≤ nI 10000) = r11 := Eq.symm (show r11 = xb (nI 0 ≤ d ∧ d ≤ nI 10000) from hr12)
      subst ez13
      refine x_beq (tgt := 52) hx hb dX8_saddle_23 (by decide) (fun c14 => ?_) (fun c14 => ?_)
      · have _u := trivial
        refine lv_bipush (v := -102) hx hb dX8_saddle_52 (by decide +kernel) ?_
        exact x_rmi hx hb hr hlocks dX8_saddle_54 hV hS (y_lf (by simp only [sp_saddle, c6, k_kt, c10, k_k, c14, if_true, if_false, ite_true, ite_false, not_true_eq_false, not_false_eq_true, and_true, true_and, and_false, false_and, or_true, true_or, or_false, false_or, and_self, or_self, Nat.add_sub_cancel, Nat.add_eq_zero_iff, Nat.one_ne_zero, eq_self, Nat.not_lt]) (yOK_id hRR))
      · have _u := trivial
        refine lv_iload hx hb dX8_saddle_26 (lv_at hl 4 rfl) ?_
        refine lv_i2l (v := (gu).toInt64) hx hb dX8_saddle_28 rfl ?_
        refine lv_lconst (v := 0) hx hb dX8_saddle_29 (by decide +kernel) ?_
        refine lv_ldc2 (v := 2000) hx hb hown (hts (.constantLong RX8 123 (2000)) (List.mem_of_getElem? (i := 1) rfl)) dX8_saddle_30 ?_
        refine x_ci (va_runS (As := [.long ((gu).toInt64), .long (0), .long (2000)]) (rest := []) ⟨hx, hb, hml, hown, hts⟩ (c_X8_in l D cy loc w s.heap.size ((gu).toInt64) 0 2000) (cwS 3 hts gX8_saddle_X8_in rfl rfl rfl (by decide +kernel) ⟨Nat.le_of_ble_eq_true rfl, Nat.le_of_ble_eq_true rfl⟩) (x_preS hK hV) rfl rfl hl.1 rfl (lv_room (Nat.le_of_ble_eq_true rfl)) dX8_saddle_33 ⟨Nat.le_of_ble_eq_true rfl, Nat.le_of_ble_eq_true rfl⟩) (fun r15 hr16 => ?_)
        have ez17 : xb (nI 0 ≤ gu ∧ gu ≤ nI 2000) = r15 := Eq.symm ((show r15 = xb (0 ≤ ((gu).toInt64) ∧ ((gu).toInt64) ≤ 2000) from hr16).trans (x_in2 rfl rfl))
        subst ez17
        refine x_beq (tgt := 52) hx hb dX8_saddle_36 (by decide) (fun c18 => ?_) (fun c18 => ?_)
        · have _u := trivial
          refine lv_bipush (v := -102) hx hb dX8_saddle_52 (by decide +kernel) ?_
          exact x_rmi hx hb hr hlocks dX8_saddle_54 hV hS (y_lf (by simp only [sp_saddle, c6, k_kt, c10, k_k, c14, c18, if_true, if_false, ite_true, ite_false, not_true_eq_false, not_false_eq_true, and_true, true_and, and_false, false_and, or_true, true_or, or_false, false_or, and_self, or_self, Nat.add_sub_cancel, Nat.add_eq_zero_iff, Nat.one_ne_zero, eq_self, Nat.not_lt]) (yOK_id hRR))
        · have _u := trivial
          refine lv_iload hx hb dX8_saddle_39 (lv_at hl 5 rfl) ?_
          refine lv_i2l (v := (ch).toInt64) hx hb dX8_saddle_41 rfl ?_
          refine lv_lconst (v := 0) hx hb dX8_saddle_42 (by decide +kernel) ?_
          refine lv_ldc2 (v := 400) hx hb hown (hts (.constantLong RX8 73 (400)) (List.mem_of_getElem? (i := 2) rfl)) dX8_saddle_43 ?_
          refine x_ci (va_runS (As := [.long ((ch).toInt64), .long (0), .long (400)]) (rest := []) ⟨hx, hb, hml, hown, hts⟩ (c_X8_in l D cy loc w s.heap.size ((ch).toInt64) 0 400) (cwS 3 hts gX8_saddle_X8_in rfl rfl rfl (by decide +kernel) ⟨Nat.le_of_ble_eq_true rfl, Nat.le_of_ble_eq_true rfl⟩) (x_preS hK hV) rfl rfl hl.1 rfl (lv_room (Nat.le_of_ble_eq_true rfl)) dX8_saddle_46 ⟨Nat.le_of_ble_eq_true rfl, Nat.le_of_ble_eq_true rfl⟩) (fun r19 hr20 => ?_)
          have ez21 : xb (nI 0 ≤ ch ∧ ch ≤ nI 400) = r19 := Eq.symm ((show r19 = xb (0 ≤ ((ch).toInt64) ∧ ((ch).toInt64) ≤ 400) from hr20).trans (x_in2 rfl rfl))
          subst ez21
          refine x_bne (tgt := 55) hx hb dX8_saddle_49 (by decide) (fun c22 => ?_) (fun c22 => ?_)
          · have _u := trivial
            refine lv_aload_n hx hb dX8_saddle_55 rfl (lv_at hl 0 rfl) ?_
            refine lv_iload_n hx hb dX8_saddle_56 rfl (lv_at hl 2 rfl) ?_
            refine lv_iload_n hx hb dX8_saddle_57 rfl (lv_at hl 3 rfl) ?_
            refine x_ci (va_runV (As := [.int (nI (k)), .int (d)]) (rest := []) ⟨hx, hb, hml, hown, hts⟩ (c_X8_backAt l D cy loc w s.heap.size σ hNN hRR d k (by omega)) (cwV 2 hts gX8_saddle_X8_backAt rfl rfl rfl (by decide +kernel) ⟨Nat.le_of_ble_eq_true rfl, Nat.le_of_ble_eq_true rfl⟩) (x_preV hK hV f1 rfl) rfl rfl hl.1 rfl (lv_room (Nat.le_of_ble_eq_true rfl)) dX8_saddle_58 ⟨Nat.le_of_ble_eq_true rfl, Nat.le_of_ble_eq_true rfl⟩) (fun r23 hr24 => ?_)
            rcases yat_or σ k d with ⟨j, h_j, q_j, ea25⟩ | ⟨q_j, ea25⟩
            · refine x_top (congrArg Value.int ((show r23 = _ from hr24).trans ea25)) ?_
              have h6_j := hN6 k
              refine lv_iconst (v := -1) hx hb dX8_saddle_61 (by decide +kernel) ?_
              refine lv_icmp_ne (tgt := 68) hx hb dX8_saddle_62 (by decide) (fun c26 => ?_) (fun c26 => ?_)
              · have _u := trivial
                refine lv_aload_n hx hb dX8_saddle_68 rfl (lv_at hl 0 rfl) ?_
                refine x_get (C := RX8) (T := TX8) (N := 27) hx hb hts hi_X8_saddle_X8 hown hK hV f1 rfl 25 (by decide) (hts (.fieldLink RX8 187 "SaddleHouseModel" "saddles" "I") (List.mem_of_getElem? (i := 3) rfl)) (fun _ h9 => h9) rfl dX8_saddle_69 ?_
                refine lv_bipush (v := nI 12) hx hb dX8_saddle_72 (by decide +kernel) ?_
                refine x_cne hx hb (σ.2 4) (12) (by omega) (by omega) (tgt := 80) dX8_saddle_74 (by decide) (fun c27 => ?_) (fun c27 => ?_)
                · have _u := trivial
                  have yf_4 : σ.2 4 < 12 := by omega
                  refine lv_iconst (v := nI 5) hx hb dX8_saddle_80 (by decide +kernel) ?_
                  refine lv_aload_n hx hb dX8_saddle_81 rfl (lv_at hl 0 rfl) ?_
                  refine x_get (C := RX8) (T := TX8) (N := 27) hx hb hts hi_X8_saddle_X8 hown hK hV f1 rfl 25 (by decide) (hts (.fieldLink RX8 187 "SaddleHouseModel" "saddles" "I") (List.mem_of_getElem? (i := 3) rfl)) (fun _ h9 => h9) rfl dX8_saddle_82 ?_
                  refine x_imul hx hb (5) (σ.2 4) dX8_saddle_85 ?_
                  refine lv_istore (lv' := [(6, .int (nI (5 * (σ.2 4)))), (0, .ref (loc (300))), (1, .int (nI (kt))), (2, .int (nI (k))), (3, .int (d)), (4, .int (gu)), (5, .int (ch))]) hx hb dX8_saddle_86 hl (by decide) rfl (fun ls hl => ?_)
                  refine lv_aload_n hx hb dX8_saddle_88 rfl (lv_at hl 1 rfl) ?_
                  refine x_get (C := RX8) (T := TX8) (N := 27) hx hb hts hi_X8_saddle_X8 hown hK hV f1 rfl 26 (by decide) (hts (.fieldLink RX8 49 "SaddleHouseModel" "saddle" "[I") (List.mem_of_getElem? (i := 4) rfl)) (fun _ h9 => h9) rfl dX8_saddle_89 ?_
                  refine lv_iload hx hb dX8_saddle_92 (lv_at hl 0 rfl) ?_
                  refine lv_iload_n hx hb dX8_saddle_94 rfl (lv_at hl 2 rfl) ?_
                  refine x_iast hx hb hK hV hS f2 (5 * (σ.2 4)) (by omega) (by decide) dX8_saddle_95 (fun H28 L29 hV30 hS31 => ?_)
                  have f32 : (xup w (314) (eI cy 60 (upd (σ.1 9) (5 * (σ.2 4)) (nI kt)))) (300) = some (.inr (8, [.ref (loc (301)), .int (nI (σ.2 0)), .ref (loc (302)), .ref (loc (303)), .ref (loc (304)), .int (nI (σ.2 1)), .ref (loc (305)), .ref (loc (306)), .ref (loc (307)), .ref (loc (308)), .int (v0 0), .int (v0 1), .int (v0 2), .int (v0 3), .int (nI (σ.2 5)), .ref (loc (309)), .ref (loc (310)), .int (v0 4), .int (nI (σ.2 2)), .ref (loc (311)), .int (nI (σ.2 3)), .ref (loc (312)), .ref (loc (313)), .int (σ.1 10 0), .int (σ.1 10 1), .int (nI (σ.2 4)), .ref (loc (314))])) := xup_o (f1) (by omega)
                  have f33 : (xup w (314) (eI cy 60 (upd (σ.1 9) (5 * (σ.2 4)) (nI kt)))) (314) = some (eI cy 60 (upd (σ.1 9) (5 * (σ.2 4)) (nI kt))) := xup_at _ _ _
                  refine lv_aload_n hx hb dX8_saddle_96 rfl (lv_at hl 1 rfl) ?_
                  refine x_get (C := RX8) (T := TX8) (N := 27) hx hb hts hi_X8_saddle_X8 hown hK hV30 f32 rfl 26 (by decide) (hts (.fieldLink RX8 49 "SaddleHouseModel" "saddle" "[I") (List.mem_of_getElem? (i := 4) rfl)) (fun _ h9 => h9) rfl dX8_saddle_97 ?_
                  refine lv_iload hx hb dX8_saddle_100 (lv_at hl 0 rfl) ?_
                  refine lv_iconst (v := nI 1) hx hb dX8_saddle_102 (by decide +kernel) ?_
                  refine x_iadd hx hb (5 * (σ.2 4)) (1) dX8_saddle_103 ?_
                  refine lv_iload_n hx hb dX8_saddle_104 rfl (lv_at hl 3 rfl) ?_
                  refine x_iast hx hb hK hV30 hS31 f33 ((5 * (σ.2 4)) + 1) (by omega) (by decide) dX8_saddle_105 (fun H34 L35 hV36 hS37 => ?_)
                  have hV38 := hV36.eq (xup_xup _ _ _ _)
                  have f39 : (xup w (314) (eI cy 60 (upd (upd (σ.1 9) (5 * (σ.2 4)) (nI kt)) ((5 * (σ.2 4)) + 1) (nI k)))) (300) = some (.inr (8, [.ref (loc (301)), .int (nI (σ.2 0)), .ref (loc (302)), .ref (loc (303)), .ref (loc (304)), .int (nI (σ.2 1)), .ref (loc (305)), .ref (loc (306)), .ref (loc (307)), .ref (loc (308)), .int (v0 0), .int (v0 1), .int (v0 2), .int (v0 3), .int (nI (σ.2 5)), .ref (loc (309)), .ref (loc (310)), .int (v0 4), .int (nI (σ.2 2)), .ref (loc (311)), .int (nI (σ.2 3)), .ref (loc (312)), .ref (loc (313)), .int (σ.1 10 0), .int (σ.1 10 1), .int (nI (σ.2 4)), .ref (loc (314))])) := xup_o (f1) (by omega)
                  have f40 : (xup w (314) (eI cy 60 (upd (upd (σ.1 9) (5 * (σ.2 4)) (nI kt)) ((5 * (σ.2 4)) + 1) (nI k)))) (314) = some (eI cy 60 (upd (upd (σ.1 9) (5 * (σ.2 4)) (nI kt)) ((5 * (σ.2 4)) + 1) (nI k))) := xup_at _ _ _
                  refine lv_aload_n hx hb dX8_saddle_106 rfl (lv_at hl 1 rfl) ?_
                  refine x_get (C := RX8) (T := TX8) (N := 27) hx hb hts hi_X8_saddle_X8 hown hK hV38 f39 rfl 26 (by decide) (hts (.fieldLink RX8 49 "SaddleHouseModel" "saddle" "[I") (List.mem_of_getElem? (i := 4) rfl)) (fun _ h9 => h9) rfl dX8_saddle_107 ?_
                  refine lv_iload hx hb dX8_saddle_110 (lv_at hl 0 rfl) ?_
                  refine lv_iconst (v := nI 2) hx hb dX8_saddle_112 (by decide +kernel) ?_
                  refine x_iadd hx hb (5 * (σ.2 4)) (2) dX8_saddle_113 ?_
                  refine lv_iload_n hx hb dX8_saddle_114 rfl (lv_at hl 4 rfl) ?_
                  refine x_iast hx hb hK hV38 hS37 f40 ((5 * (σ.2 4)) + 2) (by omega) (by decide) dX8_saddle_115 (fun H41 L42 hV43 hS44 => ?_)
                  have hV45 := hV43.eq (xup_xup _ _ _ _)
                  have f46 : (xup w (314) (eI cy 60 (upd (upd (upd (σ.1 9) (5 * (σ.2 4)) (nI kt)) ((5 * (σ.2 4)) + 1) (nI k)) ((5 * (σ.2 4)) + 2) d))) (300) = some (.inr (8, [.ref (loc (301)), .int (nI (σ.2 0)), .ref (loc (302)), .ref (loc (303)), .ref (loc (304)), .int (nI (σ.2 1)), .ref (loc (305)), .ref (loc (306)), .ref (loc (307)), .ref (loc (308)), .int (v0 0), .int (v0 1), .int (v0 2), .int (v0 3), .int (nI (σ.2 5)), .ref (loc (309)), .ref (loc (310)), .int (v0 4), .int (nI (σ.2 2)), .ref (loc (311)), .int (nI (σ.2 3)), .ref (loc (312)), .ref (loc (313)), .int (σ.1 10 0), .int (σ.1 10 1), .int (nI (σ.2 4)), .ref (loc (314))])) := xup_o (f1) (by omega)
                  have f47 : (xup w (314) (eI cy 60 (upd (upd (upd (σ.1 9) (5 * (σ.2 4)) (nI kt)) ((5 * (σ.2 4)) + 1) (nI k)) ((5 * (σ.2 4)) + 2) d))) (314) = some (eI cy 60 (upd (upd (upd (σ.1 9) (5 * (σ.2 4)) (nI kt)) ((5 * (σ.2 4)) + 1) (nI k)) ((5 * (σ.2 4)) + 2) d)) := xup_at _ _ _
                  refine lv_aload_n hx hb dX8_saddle_116 rfl (lv_at hl 1 rfl) ?_
                  refine x_get (C := RX8) (T := TX8) (N := 27) hx hb hts hi_X8_saddle_X8 hown hK hV45 f46 rfl 26 (by decide) (hts (.fieldLink RX8 49 "SaddleHouseModel" "saddle" "[I") (List.mem_of_getElem? (i := 4) rfl)) (fun _ h9 => h9) rfl dX8_saddle_117 ?_
                  refine lv_iload hx hb dX8_saddle_120 (lv_at hl 0 rfl) ?_
                  refine lv_iconst (v := nI 3) hx hb dX8_saddle_122 (by decide +kernel) ?_
                  refine x_iadd hx hb (5 * (σ.2 4)) (3) dX8_saddle_123 ?_
                  refine lv_iload hx hb dX8_saddle_124 (lv_at hl 5 rfl) ?_
                  refine x_iast hx hb hK hV45 hS44 f47 ((5 * (σ.2 4)) + 3) (by omega) (by decide) dX8_saddle_126 (fun H48 L49 hV50 hS51 => ?_)
                  have hV52 := hV50.eq (xup_xup _ _ _ _)
                  have f53 : (xup w (314) (eI cy 60 (upd (upd (upd (upd (σ.1 9) (5 * (σ.2 4)) (nI kt)) ((5 * (σ.2 4)) + 1) (nI k)) ((5 * (σ.2 4)) + 2) d) ((5 * (σ.2 4)) + 3) gu))) (300) = some (.inr (8, [.ref (loc (301)), .int (nI (σ.2 0)), .ref (loc (302)), .ref (loc (303)), .ref (loc (304)), .int (nI (σ.2 1)), .ref (loc (305)), .ref (loc (306)), .ref (loc (307)), .ref (loc (308)), .int (v0 0), .int (v0 1), .int (v0 2), .int (v0 3), .int (nI (σ.2 5)), .ref (loc (309)), .ref (loc (310)), .int (v0 4), .int (nI (σ.2 2)), .ref (loc (311)), .int (nI (σ.2 3)), .ref (loc (312)), .ref (loc (313)), .int (σ.1 10 0), .int (σ.1 10 1), .int (nI (σ.2 4)), .ref (loc (314))])) := xup_o (f1) (by omega)
                  have f54 : (xup w (314) (eI cy 60 (upd (upd (upd (upd (σ.1 9) (5 * (σ.2 4)) (nI kt)) ((5 * (σ.2 4)) + 1) (nI k)) ((5 * (σ.2 4)) + 2) d) ((5 * (σ.2 4)) + 3) gu))) (314) = some (eI cy 60 (upd (upd (upd (upd (σ.1 9) (5 * (σ.2 4)) (nI kt)) ((5 * (σ.2 4)) + 1) (nI k)) ((5 * (σ.2 4)) + 2) d) ((5 * (σ.2 4)) + 3) gu)) := xup_at _ _ _
                  refine lv_aload_n hx hb dX8_saddle_127 rfl (lv_at hl 1 rfl) ?_
                  refine x_get (C := RX8) (T := TX8) (N := 27) hx hb hts hi_X8_saddle_X8 hown hK hV52 f53 rfl 26 (by decide) (hts (.fieldLink RX8 49 "SaddleHouseModel" "saddle" "[I") (List.mem_of_getElem? (i := 4) rfl)) (fun _ h9 => h9) rfl dX8_saddle_128 ?_
                  refine lv_iload hx hb dX8_saddle_131 (lv_at hl 0 rfl) ?_
                  refine lv_iconst (v := nI 4) hx hb dX8_saddle_133 (by decide +kernel) ?_
                  refine x_iadd hx hb (5 * (σ.2 4)) (4) dX8_saddle_134 ?_
                  refine lv_iload hx hb dX8_saddle_135 (lv_at hl 6 rfl) ?_
                  refine x_iast hx hb hK hV52 hS51 f54 ((5 * (σ.2 4)) + 4) (by omega) (by decide) dX8_saddle_137 (fun H55 L56 hV57 hS58 => ?_)
                  have hV59 := hV57.eq (xup_xup _ _ _ _)
                  have f60 : (xup w (314) (eI cy 60 (upd (upd (upd (upd (upd (σ.1 9) (5 * (σ.2 4)) (nI kt)) ((5 * (σ.2 4)) + 1) (nI k)) ((5 * (σ.2 4)) + 2) d) ((5 * (σ.2 4)) + 3) gu) ((5 * (σ.2 4)) + 4) ch))) (300) = some (.inr (8, [.ref (loc (301)), .int (nI (σ.2 0)), .ref (loc (302)), .ref (loc (303)), .ref (loc (304)), .int (nI (σ.2 1)), .ref (loc (305)), .ref (loc (306)), .ref (loc (307)), .ref (loc (308)), .int (v0 0), .int (v0 1), .int (v0 2), .int (v0 3), .int (nI (σ.2 5)), .ref (loc (309)), .ref (loc (310)), .int (v0 4), .int (nI (σ.2 2)), .ref (loc (311)), .int (nI (σ.2 3)), .ref (loc (312)), .ref (loc (313)), .int (σ.1 10 0), .int (σ.1 10 1), .int (nI (σ.2 4)), .ref (loc (314))])) := xup_o (f1) (by omega)
                  have f61 : (xup w (314) (eI cy 60 (upd (upd (upd (upd (upd (σ.1 9) (5 * (σ.2 4)) (nI kt)) ((5 * (σ.2 4)) + 1) (nI k)) ((5 * (σ.2 4)) + 2) d) ((5 * (σ.2 4)) + 3) gu) ((5 * (σ.2 4)) + 4) ch))) (314) = some (eI cy 60 (upd (upd (upd (upd (upd (σ.1 9) (5 * (σ.2 4)) (nI kt)) ((5 * (σ.2 4)) + 1) (nI k)) ((5 * (σ.2 4)) + 2) d) ((5 * (σ.2 4)) + 3) gu) ((5 * (σ.2 4)) + 4) ch)) := xup_at _ _ _
                  refine lv_aload_n hx hb dX8_saddle_138 rfl (lv_at hl 1 rfl) ?_
                  refine lv_dup hx hb dX8_saddle_139 rfl ?_
                  refine x_get (C := RX8) (T := TX8) (N := 27) hx hb hts hi_X8_saddle_X8 hown hK hV59 f60 rfl 25 (by decide) (hts (.fieldLink RX8 187 "SaddleHouseModel" "saddles" "I") (List.mem_of_getElem? (i := 3) rfl)) (fun _ h9 => h9) rfl dX8_saddle_140 ?_
                  refine lv_iconst (v := nI 1) hx hb dX8_saddle_143 (by decide +kernel) ?_
                  refine x_iadd hx hb (σ.2 4) (1) dX8_saddle_144 ?_
                  refine x_putf (C := RX8) (T := TX8) (N := 27) (v := .int (nI ((σ.2 4) + 1))) (ty := .int) hx hb hts hi_X8_saddle_X8 tyX8 tyX8_ok nmX8 hown hK hV59 hS58 f60 rfl 25 (by decide) (hts (.fieldLink RX8 187 "SaddleHouseModel" "saddles" "I") (List.mem_of_getElem? (i := 3) rfl)) (fun _ h9 => h9) rfl (by decide +kernel) rfl rfl (Nat.le_of_ble_eq_true rfl) dX8_saddle_145 (fun H62 L63 hV64 hS65 => ?_)
                  have f66 : (xup (xup w (314) (eI cy 60 (upd (upd (upd (upd (upd (σ.1 9) (5 * (σ.2 4)) (nI kt)) ((5 * (σ.2 4)) + 1) (nI k)) ((5 * (σ.2 4)) + 2) d) ((5 * (σ.2 4)) + 3) gu) ((5 * (σ.2 4)) + 4) ch))) (300) (.inr (8, [.ref (loc (301)), .int (nI (σ.2 0)), .ref (loc (302)), .ref (loc (303)), .ref (loc (304)), .int (nI (σ.2 1)), .ref (loc (305)), .ref (loc (306)), .ref (loc (307)), .ref (loc (308)), .int (v0 0), .int (v0 1), .int (v0 2), .int (v0 3), .int (nI (σ.2 5)), .ref (loc (309)), .ref (loc (310)), .int (v0 4), .int (nI (σ.2 2)), .ref (loc (311)), .int (nI (σ.2 3)), .ref (loc (312)), .ref (loc (313)), .int (σ.1 10 0), .int (σ.1 10 1), .int (nI ((σ.2 4) + 1)), .ref (loc (314))]))) (300) = some (.inr (8, [.ref (loc (301)), .int (nI (σ.2 0)), .ref (loc (302)), .ref (loc (303)), .ref (loc (304)), .int (nI (σ.2 1)), .ref (loc (305)), .ref (loc (306)), .ref (loc (307)), .ref (loc (308)), .int (v0 0), .int (v0 1), .int (v0 2), .int (v0 3), .int (nI (σ.2 5)), .ref (loc (309)), .ref (loc (310)), .int (v0 4), .int (nI (σ.2 2)), .ref (loc (311)), .int (nI (σ.2 3)), .ref (loc (312)), .ref (loc (313)), .int (σ.1 10 0), .int (σ.1 10 1), .int (nI ((σ.2 4) + 1)), .ref (loc (314))])) := xup_at _ _ _
                  have f67 : (xup (xup w (314) (eI cy 60 (upd (upd (upd (upd (upd (σ.1 9) (5 * (σ.2 4)) (nI kt)) ((5 * (σ.2 4)) + 1) (nI k)) ((5 * (σ.2 4)) + 2) d) ((5 * (σ.2 4)) + 3) gu) ((5 * (σ.2 4)) + 4) ch))) (300) (.inr (8, [.ref (loc (301)), .int (nI (σ.2 0)), .ref (loc (302)), .ref (loc (303)), .ref (loc (304)), .int (nI (σ.2 1)), .ref (loc (305)), .ref (loc (306)), .ref (loc (307)), .ref (loc (308)), .int (v0 0), .int (v0 1), .int (v0 2), .int (v0 3), .int (nI (σ.2 5)), .ref (loc (309)), .ref (loc (310)), .int (v0 4), .int (nI (σ.2 2)), .ref (loc (311)), .int (nI (σ.2 3)), .ref (loc (312)), .ref (loc (313)), .int (σ.1 10 0), .int (σ.1 10 1), .int (nI ((σ.2 4) + 1)), .ref (loc (314))]))) (314) = some (eI cy 60 (upd (upd (upd (upd (upd (σ.1 9) (5 * (σ.2 4)) (nI kt)) ((5 * (σ.2 4)) + 1) (nI k)) ((5 * (σ.2 4)) + 2) d) ((5 * (σ.2 4)) + 3) gu) ((5 * (σ.2 4)) + 4) ch)) := xup_o (xup_at _ _ _) (by omega)
                  refine lv_aload_n hx hb dX8_saddle_148 rfl (lv_at hl 1 rfl) ?_
                  refine x_get (C := RX8) (T := TX8) (N := 27) hx hb hts hi_X8_saddle_X8 hown hK hV64 f66 rfl 25 (by decide) (hts (.fieldLink RX8 187 "SaddleHouseModel" "saddles" "I") (List.mem_of_getElem? (i := 3) rfl)) (fun _ h9 => h9) rfl dX8_saddle_149 ?_
                  refine lv_iconst (v := nI 1) hx hb dX8_saddle_152 (by decide +kernel) ?_
                  refine x_isub hx hb ((σ.2 4) + 1) (1) (by omega) dX8_saddle_153 ?_
                  exact x_rmi hx hb hr hlocks dX8_saddle_154 hV64 hS65 (y_lf (by simp only [sp_saddle, c6, k_kt, c10, k_k, c14, c18, c22, q_j, c26, c27, yf_4, if_true, if_false, ite_true, ite_false, not_true_eq_false, not_false_eq_true, and_true, true_and, and_false, false_and, or_true, true_or, or_false, false_or, and_self, or_self, Nat.add_sub_cancel, Nat.add_eq_zero_iff, Nat.one_ne_zero, eq_self, Nat.not_lt]) (yOK_saddle hw (nI kt) (nI k) d gu ch))
                · have _u := trivial
                  have yf_4 : (σ.2 4 < 12) = False := eq_false (by omega)
                  refine lv_bipush (v := -104) hx hb dX8_saddle_77 (by decide +kernel) ?_
                  exact x_rmi hx hb hr hlocks dX8_saddle_79 hV hS (y_lf (by simp only [sp_saddle, c6, k_kt, c10, k_k, c14, c18, c22, q_j, c26, yf_4, if_true, if_false, ite_true, ite_false, not_true_eq_false, not_false_eq_true, and_true, true_and, and_false, false_and, or_true, true_or, or_false, false_or, and_self, or_self, Nat.add_sub_cancel, Nat.add_eq_zero_iff, Nat.one_ne_zero, eq_self, Nat.not_lt]) (yOK_id hRR))
              · have _u := trivial
                exact absurd c26 (nI_m1 (by omega))
            · refine x_top (congrArg Value.int ((show r23 = _ from hr24).trans ea25)) ?_
              refine lv_iconst (v := -1) hx hb dX8_saddle_61 (by decide +kernel) ?_
              refine lv_icmp_ne (tgt := 68) hx hb dX8_saddle_62 (by decide) (fun c68 => ?_) (fun c68 => ?_)
              · have _u := trivial
                exact absurd rfl c68
              · have _u := trivial
                refine lv_bipush (v := -103) hx hb dX8_saddle_65 (by decide +kernel) ?_
                exact x_rmi hx hb hr hlocks dX8_saddle_67 hV hS (y_lf (by simp only [sp_saddle, c6, k_kt, c10, k_k, c14, c18, c22, q_j, c68, if_true, if_false, ite_true, ite_false, not_true_eq_false, not_false_eq_true, and_true, true_and, and_false, false_and, or_true, true_or, or_false, false_or, and_self, or_self, Nat.add_sub_cancel, Nat.add_eq_zero_iff, Nat.one_ne_zero, eq_self, Nat.not_lt]) (yOK_id hRR))
          · have _u := trivial
            refine lv_bipush (v := -102) hx hb dX8_saddle_52 (by decide +kernel) ?_
            exact x_rmi hx hb hr hlocks dX8_saddle_54 hV hS (y_lf (by simp only [sp_saddle, c6, k_kt, c10, k_k, c14, c18, c22, if_true, if_false, ite_true, ite_false, not_true_eq_false, not_false_eq_true, and_true, true_and, and_false, false_and, or_true, true_or, or_false, false_or, and_self, or_self, Nat.add_sub_cancel, Nat.add_eq_zero_iff, Nat.one_ne_zero, eq_self, Nat.not_lt]) (yOK_id hRR))
    · have _u := trivial
      refine lv_bipush (v := -101) hx hb dX8_saddle_16 (by decide +kernel) ?_
      exact x_rmi hx hb hr hlocks dX8_saddle_18 hV hS (y_lf (by simp only [sp_saddle, c6, k_kt, c10, if_true, if_false, ite_true, ite_false, not_true_eq_false, not_false_eq_true, and_true, true_and, and_false, false_and, or_true, true_or, or_false, false_or, and_self, or_self, Nat.add_sub_cancel, Nat.add_eq_zero_iff, Nat.one_ne_zero, eq_self, Nat.not_lt]) (yOK_id hRR))
