abbrev rm_X8_free : Room := { frames := 3, cells := 0, slots := 0, locals := 67 }
theorem hi_X8_free_X8 : ∀ w ∈ wsX80, w ∈ wsX8_free := fun w h => List.mem_cons_of_mem _ (List.mem_append_right _ h)
set_option maxHeartbeats 4000000 in
set_option maxRecDepth 100000 in
theorem c_X8_free (l : Launch) (D : va_G) (cy : Nat → ClassId) (loc : Nat → Nat) (w : xM) (sz : Nat) (σ : xS) (hN : xN8 σ) (hR : yR cy loc σ w) (n d : Int32) (hSd : xSd σ)   : Met l yX8_free wsX8_free rm_X8_free (va_Pc [.ref (loc (300)), .int (n), .int (d)] (xP D cy loc w sz)) (vp_Si (fun r => r = sp_free σ n d)) 0 0 (fun _ => False) := by
  refine x_met (cc := cX8_free) (maxL := 3) (ret := (some .int)) (C := RX8) (by decide) rfl rfl (Nat.le_of_ble_eq_true rfl) ?_
  intro p e s m below meth c ls hx hb hml hr hts hown hlocks hin hP hl
  obtain ⟨hsz, hV, hK⟩ := hP
  subst hsz
  have hl : lv_has ls 3 [(0, .ref (loc (300))), (1, .int (n)), (2, .int (d))] := hl
  have hNN := hN
  have hRR := hR
  obtain ⟨g0, b0, q0, v0, hw⟩ := hR
  obtain ⟨hN0, hN1, hN2, hN3, hN4, hN5, hN6⟩ := hN
  have f1 : w (300) = some (.inr (8, [.ref (loc (301)), .int (nI (σ.2 0)), .ref (loc (302)), .ref (loc (303)), .ref (loc (304)), .int (nI (σ.2 1)), .ref (loc (305)), .ref (loc (306)), .ref (loc (307)), .ref (loc (308)), .int (v0 0), .int (v0 1), .int (v0 2), .int (v0 3), .int (nI (σ.2 5)), .ref (loc (309)), .ref (loc (310)), .int (v0 4), .int (nI (σ.2 2)), .ref (loc (311)), .int (nI (σ.2 3)), .ref (loc (312)), .ref (loc (313)), .int (σ.1 10 0), .int (σ.1 10 1), .int (nI (σ.2 4)), .ref (loc (314))])) := (hw 0 (by decide)).trans rfl
  have f2 : w (314) = some (eI cy 60 (σ.1 9)) := (hw 14 (by decide)).trans rfl
  refine lv_iload_n hx hb dX8_free_0 rfl (lv_at hl 1 rfl) ?_
  refine lv_i2l (v := (n).toInt64) hx hb dX8_free_1 rfl ?_
  refine lv_lconst (v := 0) hx hb dX8_free_2 (by decide +kernel) ?_
  refine lv_aload_n hx hb dX8_free_3 rfl (lv_at hl 0 rfl) ?_
  refine x_get (C := RX8) (T := TX8) (N := 27) hx hb hts hi_X8_free_X8 hown hK hV f1 rfl 25 (by decide) (hts (.fieldLink RX8 187 "SaddleHouseModel" "saddles" "I") (List.mem_of_getElem? (i := 1) rfl)) (fun _ h9 => h9) rfl dX8_free_4 ?_
  refine lv_iconst (v := nI 1) hx hb dX8_free_7 (by decide +kernel) ?_
  refine lv_isub hx hb dX8_free_8 ?_
  refine lv_i2l (v := ((nI (σ.2 4)) - (nI 1)).toInt64) hx hb dX8_free_9 rfl ?_
  refine x_ci (va_runS (As := [.long ((n).toInt64), .long (0), .long (((nI (σ.2 4)) - (nI 1)).toInt64)]) (rest := []) ⟨hx, hb, hml, hown, hts⟩ (c_X8_in l D cy loc w s.heap.size ((n).toInt64) 0 (((nI (σ.2 4)) - (nI 1)).toInt64)) (cwS 3 hts gX8_free_X8_in rfl rfl rfl (by decide +kernel) ⟨Nat.le_of_ble_eq_true rfl, Nat.le_of_ble_eq_true rfl⟩) (x_preS hK hV) rfl rfl hl.1 rfl (lv_room (Nat.le_of_ble_eq_true rfl)) dX8_free_10 ⟨Nat.le_of_ble_eq_true rfl, Nat.le_of_ble_eq_true rfl⟩) (fun r3 hr4 => ?_)
  have ez5 : xb (nI 0 ≤ n ∧ n < nI (σ.2 4)) = r3 := Eq.symm ((show r3 = xb (0 ≤ ((n).toInt64) ∧ ((n).toInt64) ≤ (((nI (σ.2 4)) - (nI 1)).toInt64)) from hr4).trans (x_in3 (by omega)))
  subst ez5
  refine x_bne (tgt := 19) hx hb dX8_free_13 (by decide) (fun c6 => ?_) (fun c6 => ?_)
  · have _u := trivial
    obtain ⟨sx, h_sx, e_sx⟩ := x_ix2 (show σ.2 4 < 2 ^ 31 by omega) c6
    subst e_sx
    have k_sx : (nI sx).toNatClampNeg = sx := nI_clamp (by omega)
    obtain ⟨kh, hkh, ekh, j0, hj0, hle⟩ := hSd sx h_sx
    have hxs : xsh σ (nI sx) = kh := by rw [xsh, k_sx, ekh, nI_clamp (by omega)]
    refine lv_aload_n hx hb dX8_free_19 rfl (lv_at hl 0 rfl) ?_
    refine lv_iload_n hx hb dX8_free_20 rfl (lv_at hl 1 rfl) ?_
    refine lv_iload_n hx hb dX8_free_21 rfl (lv_at hl 2 rfl) ?_
    refine x_ci (va_runV (As := [.int (nI (sx)), .int (d)]) (rest := []) ⟨hx, hb, hml, hown, hts⟩ (c_X8_isLater l D cy loc w s.heap.size σ hNN hRR d sx h_sx) (cwV 2 hts gX8_free_X8_isLater rfl rfl rfl (by decide +kernel) ⟨Nat.le_of_ble_eq_true rfl, Nat.le_of_ble_eq_true rfl⟩) (x_preV hK hV f1 rfl) rfl rfl hl.1 rfl (lv_room (Nat.le_of_ble_eq_true rfl)) dX8_free_22 ⟨Nat.le_of_ble_eq_true rfl, Nat.le_of_ble_eq_true rfl⟩) (fun r7 hr8 => ?_)
    have ez9 : xb ((nI 0 ≤ d ∧ d ≤ nI 10000) ∧ σ.1 9 (5 * sx + 2) < d) = r7 := Eq.symm (show r7 = xb ((nI 0 ≤ d ∧ d ≤ nI 10000) ∧ σ.1 9 (5 * sx + 2) < d) from hr8)
    subst ez9
    refine x_bne (tgt := 31) hx hb dX8_free_25 (by decide) (fun c10 => ?_) (fun c10 => ?_)
    · have _u := trivial
      have y3 : (¬ (nI 0 ≤ d ∧ d ≤ nI 10000) ∨ d ≤ σ.1 9 (5 * sx + 2)) = False := eq_false (fun q => q.elim (fun z => z c10.1) (fun z => absurd c10.2 (Int32.not_lt.mpr z)))
      have y4 := c10.2
      refine lv_iload_n hx hb dX8_free_31 rfl (lv_at hl 2 rfl) ?_
      refine lv_aload_n hx hb dX8_free_32 rfl (lv_at hl 0 rfl) ?_
      refine x_get (C := RX8) (T := TX8) (N := 27) hx hb hts hi_X8_free_X8 hown hK hV f1 rfl 26 (by decide) (hts (.fieldLink RX8 49 "SaddleHouseModel" "saddle" "[I") (List.mem_of_getElem? (i := 2) rfl)) (fun _ h9 => h9) rfl dX8_free_33 ?_
      refine lv_iconst (v := nI 5) hx hb dX8_free_36 (by decide +kernel) ?_
      refine lv_iload_n hx hb dX8_free_37 rfl (lv_at hl 1 rfl) ?_
      refine x_imul hx hb (5) (sx) dX8_free_38 ?_
      refine lv_iconst (v := nI 2) hx hb dX8_free_39 (by decide +kernel) ?_
      refine x_iadd hx hb (5 * sx) (2) dX8_free_40 ?_
      refine x_iald hx hb hK hV f2 ((5 * sx) + 2) (by omega) (by decide) dX8_free_41 ?_
      refine lv_isub hx hb dX8_free_42 ?_
      refine lv_aload_n hx hb dX8_free_43 rfl (lv_at hl 0 rfl) ?_
      refine x_get (C := RX8) (T := TX8) (N := 27) hx hb hts hi_X8_free_X8 hown hK hV f1 rfl 26 (by decide) (hts (.fieldLink RX8 49 "SaddleHouseModel" "saddle" "[I") (List.mem_of_getElem? (i := 2) rfl)) (fun _ h9 => h9) rfl dX8_free_44 ?_
      refine lv_iconst (v := nI 5) hx hb dX8_free_47 (by decide +kernel) ?_
      refine lv_iload_n hx hb dX8_free_48 rfl (lv_at hl 1 rfl) ?_
      refine x_imul hx hb (5) (sx) dX8_free_49 ?_
      refine lv_iconst (v := nI 3) hx hb dX8_free_50 (by decide +kernel) ?_
      refine x_iadd hx hb (5 * sx) (3) dX8_free_51 ?_
      refine x_iald hx hb hK hV f2 ((5 * sx) + 3) (by omega) (by decide) dX8_free_52 ?_
      refine lv_icmp_gt (tgt := 79) hx hb dX8_free_53 (by decide) (fun c11 => ?_) (fun c11 => ?_)
      · have _u := trivial
        have y1 : ¬ d - σ.1 9 (5 * sx + 2) ≤ σ.1 9 (5 * sx + 3) := Int32.not_le.mpr (by first | exact c11 | exact Int32.not_le.mp c11)
        refine lv_iconst (v := nI 0) hx hb dX8_free_79 (by decide +kernel) ?_
        exact x_ri hx hb hr hlocks dX8_free_80 (by show _ = _; simp only [sp_free, c6, k_sx, hxs, y3, if_true, if_false, ite_true, ite_false, not_true_eq_false, not_false_eq_true, and_true, true_and, and_false, false_and, or_true, true_or, or_false, false_or, and_self, or_self]; exact (xb_f (fun q => y1 q.1)).symm)
      · have _u := trivial
        have y1 : d - σ.1 9 (5 * sx + 2) ≤ σ.1 9 (5 * sx + 3) := (by first | exact c11 | exact Int32.not_lt.mp c11)
        refine lv_aload_n hx hb dX8_free_56 rfl (lv_at hl 0 rfl) ?_
        refine lv_iload_n hx hb dX8_free_57 rfl (lv_at hl 1 rfl) ?_
        refine lv_iload_n hx hb dX8_free_58 rfl (lv_at hl 2 rfl) ?_
        refine x_ci (va_runV (As := [.int (nI (sx)), .int (d)]) (rest := []) ⟨hx, hb, hml, hown, hts⟩ (c_X8_changedOf l D cy loc w s.heap.size σ hNN hRR sx kh h_sx hkh ekh d (xbd_pos hj0 hle) (xbd_pos hj0 (Int32.le_trans hle (Int32.le_of_lt y4)))) (cwV 2 hts gX8_free_X8_changedOf rfl rfl rfl (by decide +kernel) ⟨Nat.le_of_ble_eq_true rfl, Nat.le_of_ble_eq_true rfl⟩) (x_preV hK hV f1 rfl) rfl rfl hl.1 rfl (lv_room (Nat.le_of_ble_eq_true rfl)) dX8_free_59 ⟨Nat.le_of_ble_eq_true rfl, Nat.le_of_ble_eq_true rfl⟩) (fun r12 hr13 => ?_)
        have ez14 : xch σ kh (σ.1 9 (5 * sx + 2)) d = r12 := Eq.symm (show r12 = xch σ kh (σ.1 9 (5 * sx + 2)) d from hr13)
        subst ez14
        refine lv_aload_n hx hb dX8_free_62 rfl (lv_at hl 0 rfl) ?_
        refine x_get (C := RX8) (T := TX8) (N := 27) hx hb hts hi_X8_free_X8 hown hK hV f1 rfl 26 (by decide) (hts (.fieldLink RX8 49 "SaddleHouseModel" "saddle" "[I") (List.mem_of_getElem? (i := 2) rfl)) (fun _ h9 => h9) rfl dX8_free_63 ?_
        refine lv_iconst (v := nI 5) hx hb dX8_free_66 (by decide +kernel) ?_
        refine lv_iload_n hx hb dX8_free_67 rfl (lv_at hl 1 rfl) ?_
        refine x_imul hx hb (5) (sx) dX8_free_68 ?_
        refine lv_iconst (v := nI 4) hx hb dX8_free_69 (by decide +kernel) ?_
        refine x_iadd hx hb (5 * sx) (4) dX8_free_70 ?_
        refine x_iald hx hb hK hV f2 ((5 * sx) + 4) (by omega) (by decide) dX8_free_71 ?_
        refine lv_icmp_lt (tgt := 79) hx hb dX8_free_72 (by decide) (fun c15 => ?_) (fun c15 => ?_)
        · have _u := trivial
          have y2 : ¬ σ.1 9 (5 * sx + 4) ≤ xch σ kh (σ.1 9 (5 * sx + 2)) d := Int32.not_le.mpr (by first | exact c15 | exact Int32.not_le.mp c15)
          refine lv_iconst (v := nI 0) hx hb dX8_free_79 (by decide +kernel) ?_
          exact x_ri hx hb hr hlocks dX8_free_80 (by show _ = _; simp only [sp_free, c6, k_sx, hxs, y3, if_true, if_false, ite_true, ite_false, not_true_eq_false, not_false_eq_true, and_true, true_and, and_false, false_and, or_true, true_or, or_false, false_or, and_self, or_self]; exact (xb_f (fun q => y2 q.2)).symm)
        · have _u := trivial
          have y2 : σ.1 9 (5 * sx + 4) ≤ xch σ kh (σ.1 9 (5 * sx + 2)) d := (by first | exact c15 | exact Int32.not_lt.mp c15)
          refine lv_iconst (v := nI 1) hx hb dX8_free_75 (by decide +kernel) ?_
          refine lv_goto (tgt := 80) hx hb dX8_free_76 (by decide) ?_
          exact x_ri hx hb hr hlocks dX8_free_80 (by show _ = _; simp only [sp_free, c6, k_sx, hxs, y3, if_true, if_false, ite_true, ite_false, not_true_eq_false, not_false_eq_true, and_true, true_and, and_false, false_and, or_true, true_or, or_false, false_or, and_self, or_self]; exact (xb_t ⟨y1, y2⟩).symm)
    · have _u := trivial
      have y3 : (¬ (nI 0 ≤ d ∧ d ≤ nI 10000) ∨ d ≤ σ.1 9 (5 * sx + 2)) = True := eq_true (ylt c10)
      refine lv_bipush (v := -102) hx hb dX8_free_28 (by decide +kernel) ?_
      exact x_ri hx hb hr hlocks dX8_free_30 (by show _ = _; simp only [sp_free, c6, k_sx, hxs, y3, if_true, if_false, ite_true, ite_false, not_true_eq_false, not_false_eq_true, and_true, true_and, and_false, false_and, or_true, true_or, or_false, false_or, and_self, or_self])
  · have _u := trivial
    refine lv_bipush (v := -101) hx hb dX8_free_16 (by decide +kernel) ?_
    exact x_ri hx hb hr hlocks dX8_free_18 (by show _ = _; simp only [sp_free, c6, if_true, if_false, ite_true, ite_false, not_true_eq_false, not_false_eq_true, and_true, true_and, and_false, false_and, or_true, true_or, or_false, false_or, and_self, or_self])
