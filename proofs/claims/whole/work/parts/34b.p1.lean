abbrev rm_X8_cut : Room := { frames := 2, cells := 0, slots := 0, locals := 46 }
set_option maxHeartbeats 4000000 in
set_option maxRecDepth 100000 in
theorem c_X8_cut (l : Launch) (D : va_G) (cy : Nat → ClassId) (loc : Nat → Nat) (w : xM) (sz : Nat) (σ : xS) (hN : xN8 σ) (hR : yR cy loc σ w) (n wdi hti : Int32)   : Met l yX8_cut wsX8_cut rm_X8_cut (va_Pc [.ref (loc (300)), .int (n), .int (wdi), .int (hti)] (xP D cy loc w sz)) (va_Qi (fun r u => r = (sp_cut σ n wdi hti).1 ∧ yOK cy loc w (sp_cut σ n wdi hti).2 u) (xB D (xA loc w sz)) (xA loc w sz)) 0 0 (xA loc w sz) := by
  refine x_met (cc := cX8_cut) (maxL := 5) (ret := (some .int)) (C := RX8) (by decide) rfl rfl (Nat.le_of_ble_eq_true rfl) ?_
  intro p e s m below meth c ls hx hb hml hr hts hown hlocks hin hP hl
  obtain ⟨hsz, hV, hK⟩ := hP
  subst hsz
  have hA : ∀ q : Nat, s.heap.size ≤ q → xA loc w s.heap.size q := fun q h => Or.inr h
  have hS : va_S (xA loc w s.heap.size) s.heap s.heap [] := va_S.rf
  have hl : lv_has ls 5 [(0, .ref (loc (300))), (1, .int (n)), (2, .int (wdi)), (3, .int (hti))] := hl
  have hNN := hN
  have hRR := hR
  obtain ⟨g0, b0, q0, v0, hw⟩ := hR
  obtain ⟨hN0, hN1, hN2, hN3, hN4, hN5, hN6⟩ := hN
  have f1 : w (300) = some (.inr (8, [.ref (loc (301)), .int (nI (σ.2 0)), .ref (loc (302)), .ref (loc (303)), .ref (loc (304)), .int (nI (σ.2 1)), .ref (loc (305)), .ref (loc (306)), .ref (loc (307)), .ref (loc (308)), .int (v0 0), .int (v0 1), .int (v0 2), .int (v0 3), .int (nI (σ.2 5)), .ref (loc (309)), .ref (loc (310)), .int (v0 4), .int (nI (σ.2 2)), .ref (loc (311)), .int (nI (σ.2 3)), .ref (loc (312)), .ref (loc (313)), .int (σ.1 10 0), .int (σ.1 10 1), .int (nI (σ.2 4)), .ref (loc (314))])) := (hw 0 (by decide)).trans rfl
  have f2 : w (311) = some (eI cy 768 (σ.1 6)) := (hw 11 (by decide)).trans rfl
  refine lv_aload_n hx hb dX8_cut_0 rfl (lv_at hl 0 rfl) ?_
  refine lv_iload_n hx hb dX8_cut_1 rfl (lv_at hl 1 rfl) ?_
  refine x_ci (va_runV (As := [.int (n)]) (rest := []) ⟨hx, hb, hml, hown, hts⟩ (c_X8_isHide l D cy loc w s.heap.size σ hNN hRR n) (cwV 1 hts gX8_cut_X8_isHide rfl rfl rfl (by decide +kernel) ⟨Nat.le_of_ble_eq_true rfl, Nat.le_of_ble_eq_true rfl⟩) (x_preV hK hV f1 rfl) rfl rfl hl.1 rfl (lv_room (Nat.le_of_ble_eq_true rfl)) dX8_cut_2 ⟨Nat.le_of_ble_eq_true rfl, Nat.le_of_ble_eq_true rfl⟩) (fun r3 hr4 => ?_)
  have ez5 : xb (nI 0 ≤ n ∧ n < nI (σ.2 2)) = r3 := Eq.symm (show r3 = xb (nI 0 ≤ n ∧ n < nI (σ.2 2)) from hr4)
  subst ez5
  refine x_bne (tgt := 11) hx hb dX8_cut_5 (by decide) (fun c6 => ?_) (fun c6 => ?_)
  · have _u := trivial
    obtain ⟨kh, h_kh, e_kh⟩ := x_ix2 (show σ.2 2 < 2 ^ 31 by omega) c6
    subst e_kh
    have k_kh : (nI kh).toNatClampNeg = kh := nI_clamp (by omega)
    refine lv_iload_n hx hb dX8_cut_11 rfl (lv_at hl 2 rfl) ?_
    refine lv_i2l (v := (wdi).toInt64) hx hb dX8_cut_12 rfl ?_
    refine lv_lconst (v := 1) hx hb dX8_cut_13 (by decide +kernel) ?_
    refine lv_ldc2 (v := 16) hx hb hown (hts (.constantLong RX8 164 (16)) (List.mem_of_getElem? (i := 1) rfl)) dX8_cut_14 ?_
    refine x_ci (va_runS (As := [.long ((wdi).toInt64), .long (1), .long (16)]) (rest := []) ⟨hx, hb, hml, hown, hts⟩ (c_X8_in l D cy loc w s.heap.size ((wdi).toInt64) 1 16) (cwS 3 hts gX8_cut_X8_in rfl rfl rfl (by decide +kernel) ⟨Nat.le_of_ble_eq_true rfl, Nat.le_of_ble_eq_true rfl⟩) (x_preS hK hV) rfl rfl hl.1 rfl (lv_room (Nat.le_of_ble_eq_true rfl)) dX8_cut_17 ⟨Nat.le_of_ble_eq_true rfl, Nat.le_of_ble_eq_true rfl⟩) (fun r7 hr8 => ?_)
    have ez9 : xb (nI 1 ≤ wdi ∧ wdi ≤ nI 16) = r7 := Eq.symm ((show r7 = xb (1 ≤ ((wdi).toInt64) ∧ ((wdi).toInt64) ≤ 16) from hr8).trans (x_in2 rfl rfl))
    subst ez9
    refine x_beq (tgt := 35) hx hb dX8_cut_20 (by decide) (fun c10 => ?_) (fun c10 => ?_)
    · have _u := trivial
      refine lv_bipush (v := -102) hx hb dX8_cut_35 (by decide +kernel) ?_
      exact x_rmi hx hb hr hlocks dX8_cut_37 hV hS (y_lf (by simp only [sp_cut, c6, k_kh, c10, if_true, if_false, ite_true, ite_false, not_true_eq_false, not_false_eq_true, and_true, true_and, and_false, false_and, or_true, true_or, or_false, false_or, and_self, or_self, Nat.add_sub_cancel, Nat.add_eq_zero_iff, Nat.one_ne_zero, eq_self, Nat.not_lt]) (yOK_id hRR))
    · have _u := trivial
      obtain ⟨wd, h_wd, h_wd', e_wd⟩ := x_rng1 (by decide) (by decide) c10
      subst e_wd
      have k_wd : (nI wd).toNatClampNeg = wd := nI_clamp (by omega)
      refine lv_iload_n hx hb dX8_cut_23 rfl (lv_at hl 3 rfl) ?_
      refine lv_i2l (v := (hti).toInt64) hx hb dX8_cut_24 rfl ?_
      refine lv_lconst (v := 1) hx hb dX8_cut_25 (by decide +kernel) ?_
      refine lv_ldc2 (v := 12) hx hb hown (hts (.constantLong RX8 166 (12)) (List.mem_of_getElem? (i := 2) rfl)) dX8_cut_26 ?_
      refine x_ci (va_runS (As := [.long ((hti).toInt64), .long (1), .long (12)]) (rest := []) ⟨hx, hb, hml, hown, hts⟩ (c_X8_in l D cy loc w s.heap.size ((hti).toInt64) 1 12) (cwS 3 hts gX8_cut_X8_in rfl rfl rfl (by decide +kernel) ⟨Nat.le_of_ble_eq_true rfl, Nat.le_of_ble_eq_true rfl⟩) (x_preS hK hV) rfl rfl hl.1 rfl (lv_room (Nat.le_of_ble_eq_true rfl)) dX8_cut_29 ⟨Nat.le_of_ble_eq_true rfl, Nat.le_of_ble_eq_true rfl⟩) (fun r11 hr12 => ?_)
      have ez13 : xb (nI 1 ≤ hti ∧ hti ≤ nI 12) = r11 := Eq.symm ((show r11 = xb (1 ≤ ((hti).toInt64) ∧ ((hti).toInt64) ≤ 12) from hr12).trans (x_in2 rfl rfl))
      subst ez13
      refine x_bne (tgt := 38) hx hb dX8_cut_32 (by decide) (fun c14 => ?_) (fun c14 => ?_)
      · have _u := trivial
        obtain ⟨ht, h_ht, h_ht', e_ht⟩ := x_rng1 (by decide) (by decide) c14
        subst e_ht
        have k_ht : (nI ht).toNatClampNeg = ht := nI_clamp (by omega)
        refine lv_aload_n hx hb dX8_cut_38 rfl (lv_at hl 0 rfl) ?_
        refine lv_iload_n hx hb dX8_cut_39 rfl (lv_at hl 1 rfl) ?_
        refine lv_iload_n hx hb dX8_cut_40 rfl (lv_at hl 2 rfl) ?_
        refine lv_iload_n hx hb dX8_cut_41 rfl (lv_at hl 3 rfl) ?_
        refine x_ci (va_runV (As := [.int (nI (kh)), .int (nI (wd)), .int (nI (ht))]) (rest := []) ⟨hx, hb, hml, hown, hts⟩ (c_X8_room l D cy loc w s.heap.size σ (v0 0) (v0 1) (v0 2) (v0 3) (v0 4) (σ.1 6) kh wd ht (by omega) (by omega) (by omega) (by omega) (by omega) f1 f2) (cwV 3 hts gX8_cut_X8_room rfl rfl rfl (by decide +kernel) ⟨Nat.le_of_ble_eq_true rfl, Nat.le_of_ble_eq_true rfl⟩) (x_preV hK hV f1 rfl) rfl rfl hl.1 rfl (lv_room (Nat.le_of_ble_eq_true rfl)) dX8_cut_42 ⟨Nat.le_of_ble_eq_true rfl, Nat.le_of_ble_eq_true rfl⟩) (fun r15 hr16 => ?_)
        have hrf17 : r15 = xrf (xsl 192 (σ.1 6) (192 * kh)) wd ht := xrf_eq (by omega) hr16
        rcases hr16 with ⟨qy, qx, hy_a, hx_a, er18, hf_a, _⟩ | ⟨er18, _⟩
        · refine x_top (congrArg Value.int er18) ?_
          have rq_a : xrf (xsl 192 (σ.1 6) (192 * kh)) wd ht = nI (16 * qy + qx) := hrf17.symm.trans er18
          have nr_a : (nI (16 * qy + qx) = -1) = False := eq_false (nI_m1 (by omega))
          have k_a : (nI (16 * qy + qx)).toNatClampNeg = 16 * qy + qx := nI_clamp (by omega)
          have dv_a : (16 * qy + qx) / 16 = qy := by omega
          have md_a : (16 * qy + qx) % 16 = qx := by omega
          refine lv_istore (lv' := [(4, .int (nI (16 * qy + qx))), (0, .ref (loc (300))), (1, .int (nI (kh))), (2, .int (nI (wd))), (3, .int (nI (ht)))]) hx hb dX8_cut_45 hl (by decide) rfl (fun ls hl => ?_)
          refine lv_iload hx hb dX8_cut_47 (lv_at hl 0 rfl) ?_
          refine lv_iconst (v := -1) hx hb dX8_cut_49 (by decide +kernel) ?_
          refine lv_icmp_eq (tgt := 63) hx hb dX8_cut_50 (by decide) (fun c19 => ?_) (fun c19 => ?_)
          · have _u := trivial
            exact absurd c19 (nI_m1 (by omega))
          · have _u := trivial
            refine lv_aload_n hx hb dX8_cut_53 rfl (lv_at hl 1 rfl) ?_
            refine lv_iload_n hx hb dX8_cut_54 rfl (lv_at hl 2 rfl) ?_
            refine lv_iload hx hb dX8_cut_55 (lv_at hl 0 rfl) ?_
            refine lv_iload_n hx hb dX8_cut_57 rfl (lv_at hl 3 rfl) ?_
            refine lv_iload_n hx hb dX8_cut_58 rfl (lv_at hl 4 rfl) ?_
            refine lv_iconst (v := nI 2) hx hb dX8_cut_59 (by decide +kernel) ?_
            refine x_mv (va_runV (As := [.int (nI (kh)), .int (nI (16 * qy + qx)), .int (nI (wd)), .int (nI (ht)), .int (nI (2))]) (rest := []) ⟨hx, hb, hml, hown, hts⟩ (c_X8_fill l D cy loc w s.heap.size σ (v0 0) (v0 1) (v0 2) (v0 3) (v0 4) (σ.1 6) kh qy qx wd ht (nI 2) (by omega) (by omega) (by omega) (by omega) hy_a hx_a f1 f2) (cwV 5 hts gX8_cut_X8_fill rfl rfl rfl (by decide +kernel) ⟨Nat.le_of_ble_eq_true rfl, Nat.le_of_ble_eq_true rfl⟩) (x_preV hK hV f1 rfl) rfl rfl hl.1 rfl (lv_room (Nat.le_of_ble_eq_true rfl)) dX8_cut_60 ⟨Nat.le_of_ble_eq_true rfl, Nat.le_of_ble_eq_true rfl⟩) hV hS hA (fun loc27 w26 H22 L23 hr21 hV24 hS25 => ?_)
            obtain ⟨e29, e30⟩ := hr21
            have e29 : loc = loc27 := Eq.symm e29
            subst e29
            have e30 := Eq.symm e30
            subst e30
            have f31 : (xup w (311) (eI cy 768 (xmh (σ.1 6) kh qy qx wd ht (nI 2)))) (300) = some (.inr (8, [.ref (loc (301)), .int (nI (σ.2 0)), .ref (loc (302)), .ref (loc (303)), .ref (loc (304)), .int (nI (σ.2 1)), .ref (loc (305)), .ref (loc (306)), .ref (loc (307)), .ref (loc (308)), .int (v0 0), .int (v0 1), .int (v0 2), .int (v0 3), .int (nI (σ.2 5)), .ref (loc (309)), .ref (loc (310)), .int (v0 4), .int (nI (σ.2 2)), .ref (loc (311)), .int (nI (σ.2 3)), .ref (loc (312)), .ref (loc (313)), .int (σ.1 10 0), .int (σ.1 10 1), .int (nI (σ.2 4)), .ref (loc (314))])) := xup_o (f1) (by omega)
            have f32 : (xup w (311) (eI cy 768 (xmh (σ.1 6) kh qy qx wd ht (nI 2)))) (311) = some (eI cy 768 (xmh (σ.1 6) kh qy qx wd ht (nI 2))) := xup_at _ _ _
            refine lv_iload hx hb dX8_cut_63 (lv_at hl 0 rfl) ?_
            refine W.widen (k := 0) (n := 0) (by omega) (by omega) ?_
            exact x_rmi hx hb hr hlocks dX8_cut_65 hV24 hS25 (y_lf (by simp only [sp_cut, c6, k_kh, c10, k_wd, c14, k_ht, rq_a, nr_a, k_a, dv_a, md_a, c19, xct, if_true, if_false, ite_true, ite_false, not_true_eq_false, not_false_eq_true, and_true, true_and, and_false, false_and, or_true, true_or, or_false, false_or, and_self, or_self, Nat.add_sub_cancel, Nat.add_eq_zero_iff, Nat.one_ne_zero, eq_self, Nat.not_lt]) (yOK_cut hw (xmh (σ.1 6) kh qy qx wd ht (nI 2)) (σ.2 6 + wd * ht)))
        · refine x_top (congrArg Value.int er18) ?_
          have rq_a : xrf (xsl 192 (σ.1 6) (192 * kh)) wd ht = -1 := hrf17.symm.trans er18
          refine lv_istore (lv' := [(4, .int ((-1))), (0, .ref (loc (300))), (1, .int (nI (kh))), (2, .int (nI (wd))), (3, .int (nI (ht)))]) hx hb dX8_cut_45 hl (by decide) rfl (fun ls hl => ?_)
          refine lv_iload hx hb dX8_cut_47 (lv_at hl 0 rfl) ?_
          refine lv_iconst (v := -1) hx hb dX8_cut_49 (by decide +kernel) ?_
          refine lv_icmp_eq (tgt := 63) hx hb dX8_cut_50 (by decide) (fun c33 => ?_) (fun c33 => ?_)
          · have _u := trivial
            refine lv_iload hx hb dX8_cut_63 (lv_at hl 0 rfl) ?_
            exact x_rmi hx hb hr hlocks dX8_cut_65 hV hS (y_lf (by simp only [sp_cut, c6, k_kh, c10, k_wd, c14, k_ht, rq_a, c33, xct, if_true, if_false, ite_true, ite_false, not_true_eq_false, not_false_eq_true, and_true, true_and, and_false, false_and, or_true, true_or, or_false, false_or, and_self, or_self, Nat.add_sub_cancel, Nat.add_eq_zero_iff, Nat.one_ne_zero, eq_self, Nat.not_lt]) (yOK_id hRR))
          · have _u := trivial
            exact absurd rfl c33
      · have _u := trivial
        refine lv_bipush (v := -102) hx hb dX8_cut_35 (by decide +kernel) ?_
        exact x_rmi hx hb hr hlocks dX8_cut_37 hV hS (y_lf (by simp only [sp_cut, c6, k_kh, c10, k_wd, c14, if_true, if_false, ite_true, ite_false, not_true_eq_false, not_false_eq_true, and_true, true_and, and_false, false_and, or_true, true_or, or_false, false_or, and_self, or_self, Nat.add_sub_cancel, Nat.add_eq_zero_iff, Nat.one_ne_zero, eq_self, Nat.not_lt]) (yOK_id hRR))
  · have _u := trivial
    refine lv_bipush (v := -101) hx hb dX8_cut_8 (by decide +kernel) ?_
    exact x_rmi hx hb hr hlocks dX8_cut_10 hV hS (y_lf (by simp only [sp_cut, c6, if_true, if_false, ite_true, ite_false, not_true_eq_false, not_false_eq_true, and_true, true_and, and_false, false_and, or_true, true_or, or_false, false_or, and_self, or_self, Nat.add_sub_cancel, Nat.add_eq_zero_iff, Nat.one_ne_zero, eq_self, Nat.not_lt]) (yOK_id hRR))
