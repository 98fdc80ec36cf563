abbrev rm_X7_cut : Room := { frames := 2, cells := 0, slots := 0, locals := 49 }
theorem hi_X7_cut_X7 : ∀ w ∈ wsX70, w ∈ wsX7_cut := fun w h => List.mem_cons_of_mem _ (List.mem_append_left _ (List.mem_append_right _ h))
set_option maxHeartbeats 4000000 in
set_option maxRecDepth 100000 in
theorem c_X7_cut (l : Launch) (D : va_G) (cy : Nat → ClassId) (loc : Nat → Nat) (w : xM) (sz : Nat) (σ : xS) (hN : xN8 σ) (hR : xR cy loc σ w) (n wdi hti : Int32)  : Met l yX7_cut wsX7_cut rm_X7_cut (va_Pc [.ref (loc (0)), .int (n), .int (wdi), .int (hti)] (xP D cy loc w sz)) (va_Qi (fun r u => r = (sp_cut σ n wdi hti).1 ∧ xOK cy loc w (sp_cut σ n wdi hti).2 u) (xB D (xA loc w sz)) (xA loc w sz)) 0 0 (xA loc w sz) := by
  refine x_met (cc := cX7_cut) (maxL := 6) (ret := (some .int)) (C := RX7) (by decide) rfl rfl (Nat.le_of_ble_eq_true rfl) ?_
  intro p e s m below meth c ls hx hb hml hr hts hown hlocks hin hP hl
  obtain ⟨hsz, hV, hK⟩ := hP
  subst hsz
  have hA : ∀ q : Nat, s.heap.size ≤ q → xA loc w s.heap.size q := fun q h => Or.inr h
  have hS : va_S (xA loc w s.heap.size) s.heap s.heap [] := va_S.rf
  have hl : lv_has ls 6 [(0, .ref (loc (0))), (1, .int (n)), (2, .int (wdi)), (3, .int (hti))] := hl
  have hNN := hN
  have hRR := hR
  obtain ⟨g0, b0, q0, hw⟩ := hR
  obtain ⟨hN0, hN1, hN2, hN3, hN4, hN5, hN6⟩ := hN
  have f1 : w (0) = some (.inr (7, [.ref (loc (1)), .ref (loc (2)), .ref (loc (3)), .ref (loc (4)), .ref (loc (5)), .ref (loc (6)), .ref (loc (7)), .int (nI (σ.2 0)), .int (nI (σ.2 1)), .int (nI (σ.2 2)), .int (nI (σ.2 3)), .int (nI (σ.2 4)), .int (nI (σ.2 5)), .int (nI (σ.2 6)), .int (σ.1 10 1), .int (σ.1 10 0), .ref (loc (8)), .ref (loc (11))])) := (hw 0 (by decide)).trans rfl
  refine lv_aload_n hx hb dX7_cut_0 rfl (lv_at hl 0 rfl) ?_
  refine lv_iload_n hx hb dX7_cut_1 rfl (lv_at hl 1 rfl) ?_
  refine x_cq (va_runV (As := [.int (n)]) (rest := []) ⟨hx, hb, hml, hown, hts⟩ (c_X7_hideAt l D cy loc w s.heap.size σ ⟨hN0, hN1, hN2, hN3, hN4, hN5, hN6⟩ hRR n) (cwV 1 hts gX7_cut_X7_hideAt rfl rfl rfl (by decide +kernel) ⟨Nat.le_of_ble_eq_true rfl, Nat.le_of_ble_eq_true rfl⟩) (x_preV hK hV f1 rfl) rfl rfl hl.1 rfl (lv_room (Nat.le_of_ble_eq_true rfl)) dX7_cut_2 ⟨Nat.le_of_ble_eq_true rfl, Nat.le_of_ble_eq_true rfl⟩) (fun r2 hr3 => ?_)
  rcases xat_or (fun k => loc (180 + k)) n (show σ.2 2 < 2 ^ 31 by omega) with ⟨kh, h_kh, e_kh, p_kh, eq4⟩ | ⟨p_kh, eq4⟩
  · refine x_topr (Eq.trans (show _ = _ from hr3) eq4) ?_
    subst e_kh
    have f5 : w (180 + kh) = some (.inr (1, [.ref (loc (190 + kh))])) := ((hw (180 + kh) (by omega)).trans (xC_180 (by omega) (by omega)))
    have f6 : w (190 + kh) = some (eI cy 192 (xsl 192 (σ.1 6) (192 * kh))) := ((hw (190 + kh) (by omega)).trans (xC_190 (by omega) (by omega)))
    have k_kh : (nI kh).toNatClampNeg = kh := nI_clamp (by omega)
    refine lv_astore (lv' := [(4, .ref (loc (180 + kh))), (0, .ref (loc (0))), (1, .int (nI (kh))), (2, .int (wdi)), (3, .int (hti))]) hx hb dX7_cut_5 hl (by decide) rfl (fun ls hl => ?_)
    refine lv_aload hx hb dX7_cut_7 (lv_at hl 0 rfl) ?_
    refine lv_ifnonnull (tgt := 15) hx hb dX7_cut_9 (by decide) ?_
    refine lv_iload_n hx hb dX7_cut_15 rfl (lv_at hl 3 rfl) ?_
    refine lv_iconst (v := nI 1) hx hb dX7_cut_16 (by decide +kernel) ?_
    refine lv_bipush (v := nI 16) hx hb dX7_cut_17 (by decide +kernel) ?_
    refine x_ci (va_runS (As := [.int (wdi), .int (nI (1)), .int (nI (16))]) (rest := []) ⟨hx, hb, hml, hown, hts⟩ (c_X7_isWithin l D cy loc w s.heap.size wdi (nI 1) (nI 16)) (cwS 3 hts gX7_cut_X7_isWithin rfl rfl rfl (by decide +kernel) ⟨Nat.le_of_ble_eq_true rfl, Nat.le_of_ble_eq_true rfl⟩) (x_preS hK hV) rfl rfl hl.1 rfl (lv_room (Nat.le_of_ble_eq_true rfl)) dX7_cut_19 ⟨Nat.le_of_ble_eq_true rfl, Nat.le_of_ble_eq_true rfl⟩) (fun r7 hr8 => ?_)
    have ez9 : xb (nI 1 ≤ wdi ∧ wdi ≤ nI 16) = r7 := Eq.symm (show r7 = xb (nI 1 ≤ wdi ∧ wdi ≤ nI 16) from hr8)
    subst ez9
    refine x_beq (tgt := 35) hx hb dX7_cut_22 (by decide) (fun c10 => ?_) (fun c10 => ?_)
    · have _u := trivial
      refine lv_bipush (v := -102) hx hb dX7_cut_35 (by decide +kernel) ?_
      exact x_rmi hx hb hr hlocks dX7_cut_37 hV hS (x_lf (by simp only [sp_cut, p_kh, k_kh, c10, if_true, if_false, ite_true, ite_false, not_true_eq_false, not_false_eq_true, and_true, true_and, and_false, false_and, or_true, true_or, or_false, false_or, and_self, or_self, Nat.add_sub_cancel, Nat.add_eq_zero_iff, Nat.one_ne_zero, eq_self, Nat.not_lt]) (xOK_id hRR))
    · have _u := trivial
      obtain ⟨wd, h_wd, h_wd', e_wd⟩ := x_rng1 (by decide) (by decide) c10
      subst e_wd
      have k_wd : (nI wd).toNatClampNeg = wd := nI_clamp (by omega)
      refine lv_iload_n hx hb dX7_cut_25 rfl (lv_at hl 4 rfl) ?_
      refine lv_iconst (v := nI 1) hx hb dX7_cut_26 (by decide +kernel) ?_
      refine lv_bipush (v := nI 12) hx hb dX7_cut_27 (by decide +kernel) ?_
      refine x_ci (va_runS (As := [.int (hti), .int (nI (1)), .int (nI (12))]) (rest := []) ⟨hx, hb, hml, hown, hts⟩ (c_X7_isWithin l D cy loc w s.heap.size hti (nI 1) (nI 12)) (cwS 3 hts gX7_cut_X7_isWithin rfl rfl rfl (by decide +kernel) ⟨Nat.le_of_ble_eq_true rfl, Nat.le_of_ble_eq_true rfl⟩) (x_preS hK hV) rfl rfl hl.1 rfl (lv_room (Nat.le_of_ble_eq_true rfl)) dX7_cut_29 ⟨Nat.le_of_ble_eq_true rfl, Nat.le_of_ble_eq_true rfl⟩) (fun r11 hr12 => ?_)
      have ez13 : xb (nI 1 ≤ hti ∧ hti ≤ nI 12) = r11 := Eq.symm (show r11 = xb (nI 1 ≤ hti ∧ hti ≤ nI 12) from hr12)
      subst ez13
      refine x_bne (tgt := 38) hx hb dX7_cut_32 (by decide) (fun c14 => ?_) (fun c14 => ?_)
      · have _u := trivial
        obtain ⟨ht, h_ht, h_ht', e_ht⟩ := x_rng1 (by decide) (by decide) c14
        subst e_ht
        have k_ht : (nI ht).toNatClampNeg = ht := nI_clamp (by omega)
        refine lv_aload hx hb dX7_cut_38 (lv_at hl 0 rfl) ?_
        refine lv_iload_n hx hb dX7_cut_40 rfl (lv_at hl 3 rfl) ?_
        refine lv_iload_n hx hb dX7_cut_41 rfl (lv_at hl 4 rfl) ?_
        refine x_ci (va_runVN (host := RX7) (As := [.int (nI (wd)), .int (nI (ht))]) (rest := []) ⟨hx, hb, hml, hown, hts⟩ (c_X1_firstRoom l D cy loc w s.heap.size (180 + kh) (xsl 192 (σ.1 6) (192 * kh)) (190 + kh) wd ht (by omega) (by omega) (by omega) (by omega) f5 f6) ⟨va_cnB 2 hts gX7_cut_X1_firstRoom_n187 rfl rfl rfl (hK.2.1 (.methodLinkNest RX7 187 yX1_firstRoom RX7) (by decide +kernel)) (hts (.initialized RX1) (List.mem_of_getElem? (i := 13) rfl)) (by decide +kernel) ⟨Nat.le_of_ble_eq_true rfl, Nat.le_of_ble_eq_true rfl⟩, hts (.instanceMethod yX1_firstRoom) (List.mem_of_getElem? (i := 12) rfl), hts (.selects RX1 yX1_firstRoom yX1_firstRoom) (List.mem_of_getElem? (i := 14) rfl)⟩ (x_preV hK hV f5 rfl) rfl rfl hl.1 rfl (lv_room (Nat.le_of_ble_eq_true rfl)) dX7_cut_42 ⟨Nat.le_of_ble_eq_true rfl, Nat.le_of_ble_eq_true rfl⟩) (fun r15 hr16 => ?_)
        have hrf17 : r15 = xrf (xsl 192 (σ.1 6) (192 * kh)) wd ht := xrf_eq (by omega) hr16
        rcases hr16 with ⟨qy, qx, hy_a, hx_a, er18, hf_a, _⟩ | ⟨er18, _⟩
        · refine x_top (congrArg Value.int er18) ?_
          have rq_a : xrf (xsl 192 (σ.1 6) (192 * kh)) wd ht = nI (16 * qy + qx) := hrf17.symm.trans er18
          have nr_a : (nI (16 * qy + qx) = -1) = False := eq_false (nI_m1 (by omega))
          have k_a : (nI (16 * qy + qx)).toNatClampNeg = 16 * qy + qx := nI_clamp (by omega)
          have dv_a : (16 * qy + qx) / 16 = qy := by omega
          have md_a : (16 * qy + qx) % 16 = qx := by omega
          refine lv_istore (lv' := [(5, .int (nI (16 * qy + qx))), (4, .ref (loc (180 + kh))), (0, .ref (loc (0))), (1, .int (nI (kh))), (2, .int (nI (wd))), (3, .int (nI (ht)))]) hx hb dX7_cut_45 hl (by decide) rfl (fun ls hl => ?_)
          refine lv_iload hx hb dX7_cut_47 (lv_at hl 0 rfl) ?_
          refine lv_iconst (v := -1) hx hb dX7_cut_49 (by decide +kernel) ?_
          refine lv_icmp_eq (tgt := 75) hx hb dX7_cut_50 (by decide) (fun c19 => ?_) (fun c19 => ?_)
          · have _u := trivial
            exact absurd c19 (nI_m1 (by omega))
          · have _u := trivial
            refine lv_aload hx hb dX7_cut_53 (lv_at hl 1 rfl) ?_
            refine lv_iload hx hb dX7_cut_55 (lv_at hl 0 rfl) ?_
            refine lv_iload_n hx hb dX7_cut_57 rfl (lv_at hl 4 rfl) ?_
            refine lv_iload_n hx hb dX7_cut_58 rfl (lv_at hl 5 rfl) ?_
            refine lv_iconst (v := nI 2) hx hb dX7_cut_59 (by decide +kernel) ?_
            refine x_mv (va_runVN (host := RX7) (As := [.int (nI (16 * qy + qx)), .int (nI (wd)), .int (nI (ht)), .int (nI (2))]) (rest := []) ⟨hx, hb, hml, hown, hts⟩ (c_X1_mark l D cy loc w s.heap.size (180 + kh) (xsl 192 (σ.1 6) (192 * kh)) (190 + kh) wd ht qy qx (nI 2) hy_a hx_a (by omega) f5 f6) ⟨va_cnB 4 hts gX7_cut_X1_mark_n190 rfl rfl rfl (hK.2.1 (.methodLinkNest RX7 190 yX1_mark RX7) (by decide +kernel)) (hts (.initialized RX1) (List.mem_of_getElem? (i := 13) rfl)) (by decide +kernel) ⟨Nat.le_of_ble_eq_true rfl, Nat.le_of_ble_eq_true rfl⟩, hts (.instanceMethod yX1_mark) (List.mem_of_getElem? (i := 21) rfl), hts (.selects RX1 yX1_mark yX1_mark) (List.mem_of_getElem? (i := 22) rfl)⟩ (x_preV hK hV f5 rfl) rfl rfl hl.1 rfl (lv_room (Nat.le_of_ble_eq_true rfl)) dX7_cut_60 ⟨Nat.le_of_ble_eq_true rfl, Nat.le_of_ble_eq_true rfl⟩) hV hS hA (fun loc27 w26 H22 L23 hr21 hV24 hS25 => ?_)
            obtain ⟨e29, e30⟩ := hr21
            have e29 : loc = loc27 := Eq.symm e29
            subst e29
            have e30 := Eq.symm e30
            subst e30
            have f31 : (xup w (190 + kh) (eI cy 192 (xmk (xsl 192 (σ.1 6) (192 * kh)) qy qx wd ht (nI 2)))) (0) = some (.inr (7, [.ref (loc (1)), .ref (loc (2)), .ref (loc (3)), .ref (loc (4)), .ref (loc (5)), .ref (loc (6)), .ref (loc (7)), .int (nI (σ.2 0)), .int (nI (σ.2 1)), .int (nI (σ.2 2)), .int (nI (σ.2 3)), .int (nI (σ.2 4)), .int (nI (σ.2 5)), .int (nI (σ.2 6)), .int (σ.1 10 1), .int (σ.1 10 0), .ref (loc (8)), .ref (loc (11))])) := xup_o (f1) (by omega)
            have f32 : (xup w (190 + kh) (eI cy 192 (xmk (xsl 192 (σ.1 6) (192 * kh)) qy qx wd ht (nI 2)))) (180 + kh) = some (.inr (1, [.ref (loc (190 + kh))])) := xup_o (((hw (180 + kh) (by omega)).trans (xC_180 (by omega) (by omega)))) (by omega)
            have f33 : (xup w (190 + kh) (eI cy 192 (xmk (xsl 192 (σ.1 6) (192 * kh)) qy qx wd ht (nI 2)))) (190 + kh) = some (eI cy 192 (xmk (xsl 192 (σ.1 6) (192 * kh)) qy qx wd ht (nI 2))) := xup_at _ _ _
            refine lv_aload_n hx hb dX7_cut_63 rfl (lv_at hl 2 rfl) ?_
            refine lv_dup hx hb dX7_cut_64 rfl ?_
            refine x_get (C := RX7) (T := TX7) (N := 18) hx hb hts hi_X7_cut_X7 hown hK hV24 f31 rfl 13 (by decide) (hts (.fieldLink RX7 65 "SaddleHouse" "cutCount" "I") (List.mem_of_getElem? (i := 1) rfl)) (fun _ h9 => h9) rfl dX7_cut_65 ?_
            refine lv_iload_n hx hb dX7_cut_68 rfl (lv_at hl 4 rfl) ?_
            refine lv_iload_n hx hb dX7_cut_69 rfl (lv_at hl 5 rfl) ?_
            refine x_imul hx hb (wd) (ht) dX7_cut_70 ?_
            refine x_iadd hx hb (σ.2 6) (wd * ht) dX7_cut_71 ?_
            refine x_putf (C := RX7) (T := TX7) (N := 18) (v := .int (nI ((σ.2 6) + (wd * ht)))) (ty := .int) hx hb hts hi_X7_cut_X7 tyX7 tyX7_ok nmX7 hown hK hV24 hS25 f31 rfl 13 (by decide) (hts (.fieldLink RX7 65 "SaddleHouse" "cutCount" "I") (List.mem_of_getElem? (i := 1) rfl)) (fun _ h9 => h9) rfl (by decide +kernel) rfl rfl (Nat.le_of_ble_eq_true rfl) dX7_cut_72 (fun H34 L35 hV36 hS37 => ?_)
            have f38 : (xup (xup w (190 + kh) (eI cy 192 (xmk (xsl 192 (σ.1 6) (192 * kh)) qy qx wd ht (nI 2)))) (0) (.inr (7, [.ref (loc (1)), .ref (loc (2)), .ref (loc (3)), .ref (loc (4)), .ref (loc (5)), .ref (loc (6)), .ref (loc (7)), .int (nI (σ.2 0)), .int (nI (σ.2 1)), .int (nI (σ.2 2)), .int (nI (σ.2 3)), .int (nI (σ.2 4)), .int (nI (σ.2 5)), .int (nI ((σ.2 6) + (wd * ht))), .int (σ.1 10 1), .int (σ.1 10 0), .ref (loc (8)), .ref (loc (11))]))) (0) = some (.inr (7, [.ref (loc (1)), .ref (loc (2)), .ref (loc (3)), .ref (loc (4)), .ref (loc (5)), .ref (loc (6)), .ref (loc (7)), .int (nI (σ.2 0)), .int (nI (σ.2 1)), .int (nI (σ.2 2)), .int (nI (σ.2 3)), .int (nI (σ.2 4)), .int (nI (σ.2 5)), .int (nI ((σ.2 6) + (wd * ht))), .int (σ.1 10 1), .int (σ.1 10 0), .ref (loc (8)), .ref (loc (11))])) := xup_at _ _ _
            have f39 : (xup (xup w (190 + kh) (eI cy 192 (xmk (xsl 192 (σ.1 6) (192 * kh)) qy qx wd ht (nI 2)))) (0) (.inr (7, [.ref (loc (1)), .ref (loc (2)), .ref (loc (3)), .ref (loc (4)), .ref (loc (5)), .ref (loc (6)), .ref (loc (7)), .int (nI (σ.2 0)), .int (nI (σ.2 1)), .int (nI (σ.2 2)), .int (nI (σ.2 3)), .int (nI (σ.2 4)), .int (nI (σ.2 5)), .int (nI ((σ.2 6) + (wd * ht))), .int (σ.1 10 1), .int (σ.1 10 0), .ref (loc (8)), .ref (loc (11))]))) (180 + kh) = some (.inr (1, [.ref (loc (190 + kh))])) := xup_o (xup_o (((hw (180 + kh) (by omega)).trans (xC_180 (by omega) (by omega)))) (by omega)) (by omega)
            have f40 : (xup (xup w (190 + kh) (eI cy 192 (xmk (xsl 192 (σ.1 6) (192 * kh)) qy qx wd ht (nI 2)))) (0) (.inr (7, [.ref (loc (1)), .ref (loc (2)), .ref (loc (3)), .ref (loc (4)), .ref (loc (5)), .ref (loc (6)), .ref (loc (7)), .int (nI (σ.2 0)), .int (nI (σ.2 1)), .int (nI (σ.2 2)), .int (nI (σ.2 3)), .int (nI (σ.2 4)), .int (nI (σ.2 5)), .int (nI ((σ.2 6) + (wd * ht))), .int (σ.1 10 1), .int (σ.1 10 0), .ref (loc (8)), .ref (loc (11))]))) (190 + kh) = some (eI cy 192 (xmk (xsl 192 (σ.1 6) (192 * kh)) qy qx wd ht (nI 2))) := xup_o (xup_at _ _ _) (by omega)
            refine lv_iload hx hb dX7_cut_75 (lv_at hl 0 rfl) ?_
            refine W.widen (k := 0) (n := 0) (by omega) (by omega) ?_
            exact x_rmi hx hb hr hlocks dX7_cut_77 hV36 hS37 (x_lf (by simp only [sp_cut, p_kh, k_kh, c10, k_wd, c14, k_ht, rq_a, nr_a, k_a, dv_a, md_a, c19, xct, if_true, if_false, ite_true, ite_false, not_true_eq_false, not_false_eq_true, and_true, true_and, and_false, false_and, or_true, true_or, or_false, false_or, and_self, or_self, Nat.add_sub_cancel, Nat.add_eq_zero_iff, Nat.one_ne_zero, eq_self, Nat.not_lt]) (xOK_cut hRR kh qy qx wd ht h_kh (by omega) hy_a))
        · refine x_top (congrArg Value.int er18) ?_
          have rq_a : xrf (xsl 192 (σ.1 6) (192 * kh)) wd ht = -1 := hrf17.symm.trans er18
          refine lv_istore (lv' := [(5, .int ((-1))), (4, .ref (loc (180 + kh))), (0, .ref (loc (0))), (1, .int (nI (kh))), (2, .int (nI (wd))), (3, .int (nI (ht)))]) hx hb dX7_cut_45 hl (by decide) rfl (fun ls hl => ?_)
          refine lv_iload hx hb dX7_cut_47 (lv_at hl 0 rfl) ?_
          refine lv_iconst (v := -1) hx hb dX7_cut_49 (by decide +kernel) ?_
          refine lv_icmp_eq (tgt := 75) hx hb dX7_cut_50 (by decide) (fun c41 => ?_) (fun c41 => ?_)
          · have _u := trivial
            refine lv_iload hx hb dX7_cut_75 (lv_at hl 0 rfl) ?_
            exact x_rmi hx hb hr hlocks dX7_cut_77 hV hS (x_lf (by simp only [sp_cut, p_kh, k_kh, c10, k_wd, c14, k_ht, rq_a, c41, xct, if_true, if_false, ite_true, ite_false, not_true_eq_false, not_false_eq_true, and_true, true_and, and_false, false_and, or_true, true_or, or_false, false_or, and_self, or_self, Nat.add_sub_cancel, Nat.add_eq_zero_iff, Nat.one_ne_zero, eq_self, Nat.not_lt]) (xOK_id hRR))
          · have _u := trivial
            exact absurd rfl c41
      · have _u := trivial
        refine lv_bipush (v := -102) hx hb dX7_cut_35 (by decide +kernel) ?_
        exact x_rmi hx hb hr hlocks dX7_cut_37 hV hS (x_lf (by simp only [sp_cut, p_kh, k_kh, c10, k_wd, c14, if_true, if_false, ite_true, ite_false, not_true_eq_false, not_false_eq_true, and_true, true_and, and_false, false_and, or_true, true_or, or_false, false_or, and_self, or_self, Nat.add_sub_cancel, Nat.add_eq_zero_iff, Nat.one_ne_zero, eq_self, Nat.not_lt]) (xOK_id hRR))
  · refine x_topn (Eq.trans (show _ = _ from hr3) eq4) ?_
    refine lv_astoreN (lv' := [(4, .null), (0, .ref (loc (0))), (1, .int (n)), (2, .int (wdi)), (3, .int (hti))]) hx hb dX7_cut_5 hl (by decide) rfl (fun ls hl => ?_)
    refine lv_aloadN hx hb dX7_cut_7 (lv_at hl 0 rfl) ?_
    refine lv_ifnonnullN hx hb dX7_cut_9 ?_
    refine lv_bipush (v := -101) hx hb dX7_cut_12 (by decide +kernel) ?_
    exact x_rmi hx hb hr hlocks dX7_cut_14 hV hS (x_lf (by simp only [sp_cut, p_kh, if_true, if_false, ite_true, ite_false, not_true_eq_false, not_false_eq_true, and_true, true_and, and_false, false_and, or_true, true_or, or_false, false_or, and_self, or_self, Nat.add_sub_cancel, Nat.add_eq_zero_iff, Nat.one_ne_zero, eq_self, Nat.not_lt]) (xOK_id hRR))
