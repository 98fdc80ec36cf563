abbrev rm_X8_work : Room := { frames := 2, cells := 0, slots := 0, locals := 45 }
theorem hi_X8_work_X8 : ∀ w ∈ wsX80, w ∈ wsX8_work := fun w h => List.mem_cons_of_mem _ (List.mem_append_right _ h)
set_option maxHeartbeats 4000000 in
set_option maxRecDepth 100000 in
theorem c_X8_work (l : Launch) (D : va_G) (cy : Nat → ClassId) (loc : Nat → Nat) (w : xM) (sz : Nat) (σ : xS) (hN : xN8 σ) (hR : yR cy loc σ w) (n d : Int32) (hH : ∀ b, b < σ.2 3 → ∃ v, 1 ≤ v ∧ v ≤ 24 ∧ σ.1 7 b = nI v)   : Met l yX8_work wsX8_work rm_X8_work (va_Pc [.ref (loc (300)), .int (n), .int (d)] (xP D cy loc w sz)) (va_Qi (fun r u => r = (sp_work σ n d).1 ∧ yOK cy loc w (sp_work σ n d).2 u) (xB D (xA loc w sz)) (xA loc w sz)) 0 0 (xA loc w sz) := by
  refine x_met (cc := cX8_work) (maxL := 9) (ret := (some .int)) (C := RX8) (by decide) rfl rfl (Nat.le_of_ble_eq_true rfl) ?_
  intro p e s m below meth c ls hx hb hml hr hts hown hlocks hin hP hl
  obtain ⟨hsz, hV, hK⟩ := hP
  subst hsz
  have hA : ∀ q : Nat, s.heap.size ≤ q → xA loc w s.heap.size q := fun q h => Or.inr h
  have hS : va_S (xA loc w s.heap.size) s.heap s.heap [] := va_S.rf
  have hl : lv_has ls 9 [(0, .ref (loc (300))), (1, .int (n)), (2, .int (d))] := hl
  have hNN := hN
  have hRR := hR
  obtain ⟨g0, b0, q0, v0, hw⟩ := hR
  obtain ⟨hN0, hN1, hN2, hN3, hN4, hN5, hN6⟩ := hN
  have f1 : w (300) = some (.inr (8, [.ref (loc (301)), .int (nI (σ.2 0)), .ref (loc (302)), .ref (loc (303)), .ref (loc (304)), .int (nI (σ.2 1)), .ref (loc (305)), .ref (loc (306)), .ref (loc (307)), .ref (loc (308)), .int (v0 0), .int (v0 1), .int (v0 2), .int (v0 3), .int (nI (σ.2 5)), .ref (loc (309)), .ref (loc (310)), .int (v0 4), .int (nI (σ.2 2)), .ref (loc (311)), .int (nI (σ.2 3)), .ref (loc (312)), .ref (loc (313)), .int (σ.1 10 0), .int (σ.1 10 1), .int (nI (σ.2 4)), .ref (loc (314))])) := (hw 0 (by decide)).trans rfl
  have f2 : w (312) = some (eI cy 3 (σ.1 7)) := (hw 12 (by decide)).trans rfl
  have f3 : w (313) = some (eI cy 3 (σ.1 8)) := (hw 13 (by decide)).trans rfl
  refine lv_iload_n hx hb dX8_work_0 rfl (lv_at hl 1 rfl) ?_
  refine lv_i2l (v := (n).toInt64) hx hb dX8_work_1 rfl ?_
  refine lv_lconst (v := 1) hx hb dX8_work_2 (by decide +kernel) ?_
  refine lv_ldc2 (v := 1000) hx hb hown (hts (.constantLong RX8 181 (1000)) (List.mem_of_getElem? (i := 1) rfl)) dX8_work_3 ?_
  refine x_ci (va_runS (As := [.long ((n).toInt64), .long (1), .long (1000)]) (rest := []) ⟨hx, hb, hml, hown, hts⟩ (c_X8_in l D cy loc w s.heap.size ((n).toInt64) 1 1000) (cwS 3 hts gX8_work_X8_in rfl rfl rfl (by decide +kernel) ⟨Nat.le_of_ble_eq_true rfl, Nat.le_of_ble_eq_true rfl⟩) (x_preS hK hV) rfl rfl hl.1 rfl (lv_room (Nat.le_of_ble_eq_true rfl)) dX8_work_6 ⟨Nat.le_of_ble_eq_true rfl, Nat.le_of_ble_eq_true rfl⟩) (fun r4 hr5 => ?_)
  have ez6 : xb (nI 1 ≤ n ∧ n ≤ nI 1000) = r4 := Eq.symm ((show r4 = xb (1 ≤ ((n).toInt64) ∧ ((n).toInt64) ≤ 1000) from hr5).trans (x_in2 rfl rfl))
  subst ez6
  refine x_beq (tgt := 19) hx hb dX8_work_9 (by decide) (fun c7 => ?_) (fun c7 => ?_)
  · have _u := trivial
    refine lv_bipush (v := -102) hx hb dX8_work_19 (by decide +kernel) ?_
    exact x_rmi hx hb hr hlocks dX8_work_21 hV hS (y_lf (by simp only [sp_work, c7, if_true, if_false, ite_true, ite_false, not_true_eq_false, not_false_eq_true, and_true, true_and, and_false, false_and, or_true, true_or, or_false, false_or, and_self, or_self, Nat.add_sub_cancel, Nat.add_eq_zero_iff, Nat.one_ne_zero, eq_self, Nat.not_lt]) (yOK_id hRR))
  · have _u := trivial
    refine lv_iload_n hx hb dX8_work_12 rfl (lv_at hl 2 rfl) ?_
    refine x_ci (va_runS (As := [.int (d)]) (rest := []) ⟨hx, hb, hml, hown, hts⟩ (c_X8_isDay l D cy loc w s.heap.size d) (cwS 1 hts gX8_work_X8_isDay rfl rfl rfl (by decide +kernel) ⟨Nat.le_of_ble_eq_true rfl, Nat.le_of_ble_eq_true rfl⟩) (x_preS hK hV) rfl rfl hl.1 rfl (lv_room (Nat.le_of_ble_eq_true rfl)) dX8_work_13 ⟨Nat.le_of_ble_eq_true rfl, Nat.le_of_ble_eq_true rfl⟩) (fun r8 hr9 => ?_)
    have ez10 : xb (nI 0 ≤ d ∧ d ≤ nI 10000) = r8 := Eq.symm (show r8 = xb (nI 0 ≤ d ∧ d ≤ nI 10000) from hr9)
    subst ez10
    refine x_bne (tgt := 22) hx hb dX8_work_16 (by decide) (fun c11 => ?_) (fun c11 => ?_)
    · have _u := trivial
      refine lv_iconst (v := -1) hx hb dX8_work_22 (by decide +kernel) ?_
      refine lv_istore_n (lv' := [(3, .int ((-1))), (0, .ref (loc (300))), (1, .int (n)), (2, .int (d))]) hx hb dX8_work_23 rfl hl (by decide) rfl (fun ls hl => ?_)
      refine lv_iconst (v := nI 0) hx hb dX8_work_24 (by decide +kernel) ?_
      refine lv_istore (lv' := [(4, .int (nI (0))), (3, .int ((-1))), (0, .ref (loc (300))), (1, .int (n)), (2, .int (d))]) hx hb dX8_work_25 hl (by decide) rfl (fun ls hl => ?_)
      refine lv_iconst (v := nI 0) hx hb dX8_work_27 (by decide +kernel) ?_
      refine lv_istore (lv' := [(5, .int (nI (0))), (4, .int (nI (0))), (3, .int ((-1))), (0, .ref (loc (300))), (1, .int (n)), (2, .int (d))]) hx hb dX8_work_28 hl (by decide) rfl (fun ls hl => ?_)
      refine lv_iconst (v := nI 0) hx hb dX8_work_30 (by decide +kernel) ?_
      refine lv_istore (lv' := [(6, .int (nI (0))), (5, .int (nI (0))), (4, .int (nI (0))), (3, .int ((-1))), (0, .ref (loc (300))), (1, .int (n)), (2, .int (d))]) hx hb dX8_work_31 hl (by decide) rfl (fun ls hl => ?_)
      have lp33_12 : ∀ (fuel13 : Nat) (a : Int32) (z : Int32) (en : Int32) (i : Nat) (ls : Array Slot), σ.2 3 - i < fuel13 → (i ≤ σ.2 3) → (ywb σ n d i a z en) → lv_has ls 9 [(6, .int (nI (i))), (5, .int (en)), (4, .int (z)), (3, .int (a)), (0, .ref (loc (300))), (1, .int (n)), (2, .int (d))] → W p l e rm_X8_work s m ([.ref (loc (300)), .int (n), .int (d)] : List Value).toArray below meth c s.heap [] 0 0 (MQ below (va_Qi (fun r u => r = (sp_work σ n d).1 ∧ yOK cy loc w (sp_work σ n d).2 u) (xB D (xA loc w s.heap.size)) (xA loc w s.heap.size)) ([.ref (loc (300)), .int (n), .int (d)] : List Value).toArray s 0 0 (xA loc w s.heap.size)) (F0 m 33 ls []) := by
        intro fuel13
        induction fuel13 with
        | zero => intro a z en i ls hm14; exact absurd hm14 (Nat.not_lt_zero _)
        | succ fuel13 ih15 =>
          intro a z en i ls hm14 h1 h2  hl
          refine lv_iload hx hb dX8_work_33 (lv_at hl 0 rfl) ?_
          refine lv_aload_n hx hb dX8_work_35 rfl (lv_at hl 4 rfl) ?_
          refine x_get (C := RX8) (T := TX8) (N := 27) hx hb hts hi_X8_work_X8 hown hK hV f1 rfl 20 (by decide) (hts (.fieldLink RX8 178 "SaddleHouseModel" "benches" "I") (List.mem_of_getElem? (i := 2) rfl)) (fun _ h9 => h9) rfl dX8_work_36 ?_
          refine x_cge hx hb (i) (σ.2 3) (by omega) (by omega) (tgt := 129) dX8_work_39 (by decide) (fun c16 => ?_) (fun c16 => ?_)
          · have _u := trivial
            refine lv_iload_n hx hb dX8_work_129 rfl (lv_at hl 3 rfl) ?_
            refine lv_iconst (v := -1) hx hb dX8_work_130 (by decide +kernel) ?_
            refine lv_icmp_eq (tgt := 141) hx hb dX8_work_131 (by decide) (fun c17 => ?_) (fun c17 => ?_)
            · have _u := trivial
              have hxs : (xwb σ n d (σ.2 3)).1 = -1 := ywb_s (m := σ.2 3) (by rw [← show i = σ.2 3 by omega]; exact h2) (Or.inl c17) (by omega)
              refine lv_bipush (v := -103) hx hb dX8_work_141 (by decide +kernel) ?_
              exact x_rmi hx hb hr hlocks dX8_work_143 hV hS (y_lf (by simp only [sp_work, c7, c11, c16, hxs, if_true, if_false, ite_true, ite_false, not_true_eq_false, not_false_eq_true, and_true, true_and, and_false, false_and, or_true, true_or, or_false, false_or, and_self, or_self, Nat.add_sub_cancel, Nat.add_eq_zero_iff, Nat.one_ne_zero, eq_self, Nat.not_lt]) (yOK_id hRR))
            · have _u := trivial
              refine lv_iload hx hb dX8_work_134 (lv_at hl 2 rfl) ?_
              refine lv_ldc (v := nI 100000) hx hb hown (hts (.constant RX8 183 (100000)) (List.mem_of_getElem? (i := 5) rfl)) dX8_work_136 ?_
              refine lv_icmp_le (tgt := 144) hx hb dX8_work_138 (by decide) (fun c18 => ?_) (fun c18 => ?_)
              · have _u := trivial
                obtain ⟨kb, h_kb, e_kb, ee, hxw⟩ := ywb_e (m := σ.2 3) (by rw [← show i = σ.2 3 by omega]; exact h2) c17 (Int32.not_lt.mpr (by first | exact c18 | exact Int32.not_lt.mp c18))
                have e19 : a = nI kb := e_kb
                have hl : lv_has ls 9 [(6, .int (nI (i))), (5, .int (en)), (4, .int (z)), (3, .int (nI (kb))), (0, .ref (loc (300))), (1, .int (n)), (2, .int (d))] := Eq.mp (congrArg (lv_has ls 9) (show ([(6, .int (nI (i))), (5, .int (en)), (4, .int (z)), (3, .int (a)), (0, .ref (loc (300))), (1, .int (n)), (2, .int (d))] : List (Nat × Value)) = [(6, .int (nI (i))), (5, .int (en)), (4, .int (z)), (3, .int (nI (kb))), (0, .ref (loc (300))), (1, .int (n)), (2, .int (d))] from by rw [e19])) hl
                have e20 : en = xend (σ.1 7 kb) (σ.1 8 kb) n d := ee
                have hl : lv_has ls 9 [(6, .int (nI (i))), (5, .int (xend (σ.1 7 kb) (σ.1 8 kb) n d)), (4, .int (z)), (3, .int (nI (kb))), (0, .ref (loc (300))), (1, .int (n)), (2, .int (d))] := Eq.mp (congrArg (lv_has ls 9) (show ([(6, .int (nI (i))), (5, .int (en)), (4, .int (z)), (3, .int (nI (kb))), (0, .ref (loc (300))), (1, .int (n)), (2, .int (d))] : List (Nat × Value)) = [(6, .int (nI (i))), (5, .int (xend (σ.1 7 kb) (σ.1 8 kb) n d)), (4, .int (z)), (3, .int (nI (kb))), (0, .ref (loc (300))), (1, .int (n)), (2, .int (d))] from by rw [e20])) hl
                have k_kb : (nI kb).toNatClampNeg = kb := nI_clamp (by omega)
                have nr_kb : (nI kb = -1) = False := eq_false (nI_m1 (by omega))
                refine lv_aload_n hx hb dX8_work_144 rfl (lv_at hl 4 rfl) ?_
                refine x_get (C := RX8) (T := TX8) (N := 27) hx hb hts hi_X8_work_X8 hown hK hV f1 rfl 22 (by decide) (hts (.fieldLink RX8 46 "SaddleHouseModel" "free" "[I") (List.mem_of_getElem? (i := 4) rfl)) (fun _ h9 => h9) rfl dX8_work_145 ?_
                refine lv_iload_n hx hb dX8_work_148 rfl (lv_at hl 3 rfl) ?_
                refine lv_iload hx hb dX8_work_149 (lv_at hl 1 rfl) ?_
                refine x_iast hx hb hK hV hS f3 (kb) (by omega) (by decide) dX8_work_151 (fun H21 L22 hV23 hS24 => ?_)
                have f25 : (xup w (313) (eI cy 3 (upd (σ.1 8) kb (xend (σ.1 7 kb) (σ.1 8 kb) n d)))) (300) = some (.inr (8, [.ref (loc (301)), .int (nI (σ.2 0)), .ref (loc (302)), .ref (loc (303)), .ref (loc (304)), .int (nI (σ.2 1)), .ref (loc (305)), .ref (loc (306)), .ref (loc (307)), .ref (loc (308)), .int (v0 0), .int (v0 1), .int (v0 2), .int (v0 3), .int (nI (σ.2 5)), .ref (loc (309)), .ref (loc (310)), .int (v0 4), .int (nI (σ.2 2)), .ref (loc (311)), .int (nI (σ.2 3)), .ref (loc (312)), .ref (loc (313)), .int (σ.1 10 0), .int (σ.1 10 1), .int (nI (σ.2 4)), .ref (loc (314))])) := xup_o (f1) (by omega)
                have f26 : (xup w (313) (eI cy 3 (upd (σ.1 8) kb (xend (σ.1 7 kb) (σ.1 8 kb) n d)))) (312) = some (eI cy 3 (σ.1 7)) := xup_o (f2) (by omega)
                have f27 : (xup w (313) (eI cy 3 (upd (σ.1 8) kb (xend (σ.1 7 kb) (σ.1 8 kb) n d)))) (313) = some (eI cy 3 (upd (σ.1 8) kb (xend (σ.1 7 kb) (σ.1 8 kb) n d))) := xup_at _ _ _
                refine lv_aload_n hx hb dX8_work_152 rfl (lv_at hl 4 rfl) ?_
                refine lv_iload_n hx hb dX8_work_153 rfl (lv_at hl 3 rfl) ?_
                refine x_putf (C := RX8) (T := TX8) (N := 27) (v := .int (nI (kb))) (ty := .int) hx hb hts hi_X8_work_X8 tyX8 tyX8_ok nmX8 hown hK hV23 hS24 f25 rfl 23 (by decide) (hts (.fieldLink RX8 52 "SaddleHouseModel" "lastBench" "I") (List.mem_of_getElem? (i := 6) rfl)) (fun _ h9 => h9) rfl (by decide +kernel) rfl rfl (Nat.le_of_ble_eq_true rfl) dX8_work_154 (fun H28 L29 hV30 hS31 => ?_)
                have f32 : (xup (xup w (313) (eI cy 3 (upd (σ.1 8) kb (xend (σ.1 7 kb) (σ.1 8 kb) n d)))) (300) (.inr (8, [.ref (loc (301)), .int (nI (σ.2 0)), .ref (loc (302)), .ref (loc (303)), .ref (loc (304)), .int (nI (σ.2 1)), .ref (loc (305)), .ref (loc (306)), .ref (loc (307)), .ref (loc (308)), .int (v0 0), .int (v0 1), .int (v0 2), .int (v0 3), .int (nI (σ.2 5)), .ref (loc (309)), .ref (loc (310)), .int (v0 4), .int (nI (σ.2 2)), .ref (loc (311)), .int (nI (σ.2 3)), .ref (loc (312)), .ref (loc (313)), .int (nI (kb)), .int (σ.1 10 1), .int (nI (σ.2 4)), .ref (loc (314))]))) (300) = some (.inr (8, [.ref (loc (301)), .int (nI (σ.2 0)), .ref (loc (302)), .ref (loc (303)), .ref (loc (304)), .int (nI (σ.2 1)), .ref (loc (305)), .ref (loc (306)), .ref (loc (307)), .ref (loc (308)), .int (v0 0), .int (v0 1), .int (v0 2), .int (v0 3), .int (nI (σ.2 5)), .ref (loc (309)), .ref (loc (310)), .int (v0 4), .int (nI (σ.2 2)), .ref (loc (311)), .int (nI (σ.2 3)), .ref (loc (312)), .ref (loc (313)), .int (nI (kb)), .int (σ.1 10 1), .int (nI (σ.2 4)), .ref (loc (314))])) := xup_at _ _ _
                have f33 : (xup (xup w (313) (eI cy 3 (upd (σ.1 8) kb (xend (σ.1 7 kb) (σ.1 8 kb) n d)))) (300) (.inr (8, [.ref (loc (301)), .int (nI (σ.2 0)), .ref (loc (302)), .ref (loc (303)), .ref (loc (304)), .int (nI (σ.2 1)), .ref (loc (305)), .ref (loc (306)), .ref (loc (307)), .ref (loc (308)), .int (v0 0), .int (v0 1), .int (v0 2), .int (v0 3), .int (nI (σ.2 5)), .ref (loc (309)), .ref (loc (310)), .int (v0 4), .int (nI (σ.2 2)), .ref (loc (311)), .int (nI (σ.2 3)), .ref (loc (312)), .ref (loc (313)), .int (nI (kb)), .int (σ.1 10 1), .int (nI (σ.2 4)), .ref (loc (314))]))) (312) = some (eI cy 3 (σ.1 7)) := xup_o (xup_o (f2) (by omega)) (by omega)
                have f34 : (xup (xup w (313) (eI cy 3 (upd (σ.1 8) kb (xend (σ.1 7 kb) (σ.1 8 kb) n d)))) (300) (.inr (8, [.ref (loc (301)), .int (nI (σ.2 0)), .ref (loc (302)), .ref (loc (303)), .ref (loc (304)), .int (nI (σ.2 1)), .ref (loc (305)), .ref (loc (306)), .ref (loc (307)), .ref (loc (308)), .int (v0 0), .int (v0 1), .int (v0 2), .int (v0 3), .int (nI (σ.2 5)), .ref (loc (309)), .ref (loc (310)), .int (v0 4), .int (nI (σ.2 2)), .ref (loc (311)), .int (nI (σ.2 3)), .ref (loc (312)), .ref (loc (313)), .int (nI (kb)), .int (σ.1 10 1), .int (nI (σ.2 4)), .ref (loc (314))]))) (313) = some (eI cy 3 (upd (σ.1 8) kb (xend (σ.1 7 kb) (σ.1 8 kb) n d))) := xup_o (xup_at _ _ _) (by omega)
                refine lv_aload_n hx hb dX8_work_157 rfl (lv_at hl 4 rfl) ?_
                refine lv_dup hx hb dX8_work_158 rfl ?_
                refine x_get (C := RX8) (T := TX8) (N := 27) hx hb hts hi_X8_work_X8 hown hK hV30 f32 rfl 24 (by decide) (hts (.fieldLink RX8 184 "SaddleHouseModel" "allHours" "I") (List.mem_of_getElem? (i := 7) rfl)) (fun _ h9 => h9) rfl dX8_work_159 ?_
                refine lv_iload_n hx hb dX8_work_162 rfl (lv_at hl 5 rfl) ?_
                refine lv_iadd hx hb dX8_work_163 ?_
                refine x_putf (C := RX8) (T := TX8) (N := 27) (v := .int ((σ.1 10 1) + n)) (ty := .int) hx hb hts hi_X8_work_X8 tyX8 tyX8_ok nmX8 hown hK hV30 hS31 f32 rfl 24 (by decide) (hts (.fieldLink RX8 184 "SaddleHouseModel" "allHours" "I") (List.mem_of_getElem? (i := 7) rfl)) (fun _ h9 => h9) rfl (by decide +kernel) rfl rfl (Nat.le_of_ble_eq_true rfl) dX8_work_164 (fun H35 L36 hV37 hS38 => ?_)
                have hV39 := hV37.eq (xup_xup _ _ _ _)
                have f40 : (xup (xup w (313) (eI cy 3 (upd (σ.1 8) kb (xend (σ.1 7 kb) (σ.1 8 kb) n d)))) (300) (.inr (8, [.ref (loc (301)), .int (nI (σ.2 0)), .ref (loc (302)), .ref (loc (303)), .ref (loc (304)), .int (nI (σ.2 1)), .ref (loc (305)), .ref (loc (306)), .ref (loc (307)), .ref (loc (308)), .int (v0 0), .int (v0 1), .int (v0 2), .int (v0 3), .int (nI (σ.2 5)), .ref (loc (309)), .ref (loc (310)), .int (v0 4), .int (nI (σ.2 2)), .ref (loc (311)), .int (nI (σ.2 3)), .ref (loc (312)), .ref (loc (313)), .int (nI (kb)), .int ((σ.1 10 1) + n), .int (nI (σ.2 4)), .ref (loc (314))]))) (300) = some (.inr (8, [.ref (loc (301)), .int (nI (σ.2 0)), .ref (loc (302)), .ref (loc (303)), .ref (loc (304)), .int (nI (σ.2 1)), .ref (loc (305)), .ref (loc (306)), .ref (loc (307)), .ref (loc (308)), .int (v0 0), .int (v0 1), .int (v0 2), .int (v0 3), .int (nI (σ.2 5)), .ref (loc (309)), .ref (loc (310)), .int (v0 4), .int (nI (σ.2 2)), .ref (loc (311)), .int (nI (σ.2 3)), .ref (loc (312)), .ref (loc (313)), .int (nI (kb)), .int ((σ.1 10 1) + n), .int (nI (σ.2 4)), .ref (loc (314))])) := xup_at _ _ _
                have f41 : (xup (xup w (313) (eI cy 3 (upd (σ.1 8) kb (xend (σ.1 7 kb) (σ.1 8 kb) n d)))) (300) (.inr (8, [.ref (loc (301)), .int (nI (σ.2 0)), .ref (loc (302)), .ref (loc (303)), .ref (loc (304)), .int (nI (σ.2 1)), .ref (loc (305)), .ref (loc (306)), .ref (loc (307)), .ref (loc (308)), .int (v0 0), .int (v0 1), .int (v0 2), .int (v0 3), .int (nI (σ.2 5)), .ref (loc (309)), .ref (loc (310)), .int (v0 4), .int (nI (σ.2 2)), .ref (loc (311)), .int (nI (σ.2 3)), .ref (loc (312)), .ref (loc (313)), .int (nI (kb)), .int ((σ.1 10 1) + n), .int (nI (σ.2 4)), .ref (loc (314))]))) (312) = some (eI cy 3 (σ.1 7)) := xup_o (xup_o (f2) (by omega)) (by omega)
                have f42 : (xup (xup w (313) (eI cy 3 (upd (σ.1 8) kb (xend (σ.1 7 kb) (σ.1 8 kb) n d)))) (300) (.inr (8, [.ref (loc (301)), .int (nI (σ.2 0)), .ref (loc (302)), .ref (loc (303)), .ref (loc (304)), .int (nI (σ.2 1)), .ref (loc (305)), .ref (loc (306)), .ref (loc (307)), .ref (loc (308)), .int (v0 0), .int (v0 1), .int (v0 2), .int (v0 3), .int (nI (σ.2 5)), .ref (loc (309)), .ref (loc (310)), .int (v0 4), .int (nI (σ.2 2)), .ref (loc (311)), .int (nI (σ.2 3)), .ref (loc (312)), .ref (loc (313)), .int (nI (kb)), .int ((σ.1 10 1) + n), .int (nI (σ.2 4)), .ref (loc (314))]))) (313) = some (eI cy 3 (upd (σ.1 8) kb (xend (σ.1 7 kb) (σ.1 8 kb) n d))) := xup_o (xup_at _ _ _) (by omega)
                refine lv_iload hx hb dX8_work_167 (lv_at hl 2 rfl) ?_
                exact x_rmi hx hb hr hlocks dX8_work_169 hV39 hS38 (y_lf (by simp only [sp_work, c7, c11, hxw, k_kb, nr_kb, if_true, if_false, ite_true, ite_false, not_true_eq_false, not_false_eq_true, and_true, true_and, and_false, false_and, or_true, true_or, or_false, false_or, and_self, or_self, Nat.add_sub_cancel, Nat.add_eq_zero_iff, Nat.one_ne_zero, eq_self, Nat.not_lt]) (yOK_work hw kb n d))
              · have _u := trivial
                have hxs : (xwb σ n d (σ.2 3)).1 = -1 := ywb_s (m := σ.2 3) (by rw [← show i = σ.2 3 by omega]; exact h2) (Or.inr (by first | exact c18 | exact Int32.not_le.mp c18)) (by omega)
                refine lv_bipush (v := -103) hx hb dX8_work_141 (by decide +kernel) ?_
                exact x_rmi hx hb hr hlocks dX8_work_143 hV hS (y_lf (by simp only [sp_work, c7, c11, c16, c17, hxs, if_true, if_false, ite_true, ite_false, not_true_eq_false, not_false_eq_true, and_true, true_and, and_false, false_and, or_true, true_or, or_false, false_or, and_self, or_self, Nat.add_sub_cancel, Nat.add_eq_zero_iff, Nat.one_ne_zero, eq_self, Nat.not_lt]) (yOK_id hRR))
          · have _u := trivial
            have hh1 := yhr (hH i (by omega))
            refine lv_iload_n hx hb dX8_work_42 rfl (lv_at hl 6 rfl) ?_
            refine lv_aload_n hx hb dX8_work_43 rfl (lv_at hl 4 rfl) ?_
            refine x_get (C := RX8) (T := TX8) (N := 27) hx hb hts hi_X8_work_X8 hown hK hV f1 rfl 21 (by decide) (hts (.fieldLink RX8 43 "SaddleHouseModel" "hours" "[I") (List.mem_of_getElem? (i := 3) rfl)) (fun _ h9 => h9) rfl dX8_work_44 ?_
            refine lv_iload hx hb dX8_work_47 (lv_at hl 0 rfl) ?_
            refine x_iald hx hb hK hV f2 (i) (by omega) (by decide) dX8_work_49 ?_
            refine lv_imul hx hb dX8_work_50 ?_
            refine lv_aload_n hx hb dX8_work_51 rfl (lv_at hl 4 rfl) ?_
            refine x_get (C := RX8) (T := TX8) (N := 27) hx hb hts hi_X8_work_X8 hown hK hV f1 rfl 22 (by decide) (hts (.fieldLink RX8 46 "SaddleHouseModel" "free" "[I") (List.mem_of_getElem? (i := 4) rfl)) (fun _ h9 => h9) rfl dX8_work_52 ?_
            refine lv_iload hx hb dX8_work_55 (lv_at hl 0 rfl) ?_
            refine x_iald hx hb hK hV f3 (i) (by omega) (by decide) dX8_work_57 ?_
            refine lv_icmp_le (tgt := 73) hx hb dX8_work_58 (by decide) (fun c43 => ?_) (fun c43 => ?_)
            · have _u := trivial
              have hfr : σ.1 8 i = (if d * σ.1 7 i < σ.1 8 i then σ.1 8 i else d * σ.1 7 i) := yfr_y c43
              have hpr : (σ.1 8 i + n - nI 1) / σ.1 7 i = xprom (σ.1 7 i) (σ.1 8 i) n d := ypr hh1.1 hfr
              refine lv_aload_n hx hb dX8_work_73 rfl (lv_at hl 4 rfl) ?_
              refine x_get (C := RX8) (T := TX8) (N := 27) hx hb hts hi_X8_work_X8 hown hK hV f1 rfl 22 (by decide) (hts (.fieldLink RX8 46 "SaddleHouseModel" "free" "[I") (List.mem_of_getElem? (i := 4) rfl)) (fun _ h9 => h9) rfl dX8_work_74 ?_
              refine lv_iload hx hb dX8_work_77 (lv_at hl 0 rfl) ?_
              refine x_iald hx hb hK hV f3 (i) (by omega) (by decide) dX8_work_79 ?_
              refine lv_istore (lv' := [(7, .int ((σ.1 8) i)), (6, .int (nI (i))), (5, .int (en)), (4, .int (z)), (3, .int (a)), (0, .ref (loc (300))), (1, .int (n)), (2, .int (d))]) hx hb dX8_work_80 hl (by decide) rfl (fun ls hl => ?_)
              refine lv_iload hx hb dX8_work_82 (lv_at hl 0 rfl) ?_
              refine lv_iload_n hx hb dX8_work_84 rfl (lv_at hl 6 rfl) ?_
              refine lv_iadd hx hb dX8_work_85 ?_
              refine lv_iconst (v := nI 1) hx hb dX8_work_86 (by decide +kernel) ?_
              refine lv_isub hx hb dX8_work_87 ?_
              refine lv_aload_n hx hb dX8_work_88 rfl (lv_at hl 5 rfl) ?_
              refine x_get (C := RX8) (T := TX8) (N := 27) hx hb hts hi_X8_work_X8 hown hK hV f1 rfl 21 (by decide) (hts (.fieldLink RX8 43 "SaddleHouseModel" "hours" "[I") (List.mem_of_getElem? (i := 3) rfl)) (fun _ h9 => h9) rfl dX8_work_89 ?_
              refine lv_iload hx hb dX8_work_92 (lv_at hl 1 rfl) ?_
              refine x_iald hx hb hK hV f2 (i) (by omega) (by decide) dX8_work_94 ?_
              refine lv_idiv hx hb dX8_work_95 hh1.2 ?_
              refine lv_istore (lv' := [(8, .int (((((σ.1 8) i) + n) - (nI 1)) / ((σ.1 7) i))), (7, .int ((σ.1 8) i)), (6, .int (nI (i))), (5, .int (en)), (4, .int (z)), (3, .int (a)), (0, .ref (loc (300))), (1, .int (n)), (2, .int (d))]) hx hb dX8_work_96 hl (by decide) rfl (fun ls hl => ?_)
              refine lv_iload_n hx hb dX8_work_98 rfl (lv_at hl 5 rfl) ?_
              refine lv_iconst (v := -1) hx hb dX8_work_99 (by decide +kernel) ?_
              refine lv_icmp_eq (tgt := 110) hx hb dX8_work_100 (by decide) (fun c44 => ?_) (fun c44 => ?_)
              · have _u := trivial
                refine lv_iload hx hb dX8_work_110 (lv_at hl 2 rfl) ?_
                refine lv_istore_n (lv' := [(3, .int (nI (i))), (8, .int (((((σ.1 8) i) + n) - (nI 1)) / ((σ.1 7) i))), (7, .int ((σ.1 8) i)), (6, .int (nI (i))), (5, .int (en)), (4, .int (z)), (0, .ref (loc (300))), (1, .int (n)), (2, .int (d))]) hx hb dX8_work_112 rfl hl (by decide) rfl (fun ls hl => ?_)
                refine lv_iload hx hb dX8_work_113 (lv_at hl 1 rfl) ?_
                refine lv_istore (lv' := [(4, .int (((((σ.1 8) i) + n) - (nI 1)) / ((σ.1 7) i))), (3, .int (nI (i))), (8, .int (((((σ.1 8) i) + n) - (nI 1)) / ((σ.1 7) i))), (7, .int ((σ.1 8) i)), (6, .int (nI (i))), (5, .int (en)), (0, .ref (loc (300))), (1, .int (n)), (2, .int (d))]) hx hb dX8_work_115 hl (by decide) rfl (fun ls hl => ?_)
                refine lv_iload hx hb dX8_work_117 (lv_at hl 3 rfl) ?_
                refine lv_iload_n hx hb dX8_work_119 rfl (lv_at hl 7 rfl) ?_
                refine lv_iadd hx hb dX8_work_120 ?_
                refine lv_istore (lv' := [(5, .int (((σ.1 8) i) + n)), (4, .int (((((σ.1 8) i) + n) - (nI 1)) / ((σ.1 7) i))), (3, .int (nI (i))), (8, .int (((((σ.1 8) i) + n) - (nI 1)) / ((σ.1 7) i))), (7, .int ((σ.1 8) i)), (6, .int (nI (i))), (0, .ref (loc (300))), (1, .int (n)), (2, .int (d))]) hx hb dX8_work_121 hl (by decide) rfl (fun ls hl => ?_)
                refine lv_iinc (v := nI (i + 1)) (lv' := [(6, .int (nI (i + 1))), (5, .int (((σ.1 8) i) + n)), (4, .int (((((σ.1 8) i) + n) - (nI 1)) / ((σ.1 7) i))), (3, .int (nI (i))), (8, .int (((((σ.1 8) i) + n) - (nI 1)) / ((σ.1 7) i))), (7, .int ((σ.1 8) i)), (0, .ref (loc (300))), (1, .int (n)), (2, .int (d))]) hx hb dX8_work_123 hl (k := 5) rfl (nI_add _ _) (by decide) rfl (fun ls hl => ?_)
                refine lv_goto (tgt := 33) hx hb dX8_work_126 (by decide) ?_
                exact ih15 (nI i) (((((σ.1 8) i) + n) - (nI 1)) / ((σ.1 7) i)) (((σ.1 8) i) + n) (i + 1) ls (by omega) (by omega) (ywb_t h2 (by omega) hpr (yen hfr) (Or.inl c44)) (lv_sub hl [0, 1, 2, 3, 6, 7, 8] rfl)
              · have _u := trivial
                refine lv_iload hx hb dX8_work_103 (lv_at hl 0 rfl) ?_
                refine lv_iload hx hb dX8_work_105 (lv_at hl 4 rfl) ?_
                refine lv_icmp_ge (tgt := 123) hx hb dX8_work_107 (by decide) (fun c45 => ?_) (fun c45 => ?_)
                · have _u := trivial
                  refine lv_iinc (v := nI (i + 1)) (lv' := [(6, .int (nI (i + 1))), (8, .int (((((σ.1 8) i) + n) - (nI 1)) / ((σ.1 7) i))), (7, .int ((σ.1 8) i)), (5, .int (en)), (4, .int (z)), (3, .int (a)), (0, .ref (loc (300))), (1, .int (n)), (2, .int (d))]) hx hb dX8_work_123 hl (k := 2) rfl (nI_add _ _) (by decide) rfl (fun ls hl => ?_)
                  refine lv_goto (tgt := 33) hx hb dX8_work_126 (by decide) ?_
                  exact ih15 a z en (i + 1) ls (by omega) (by omega) (ywb_k h2 hpr c44 c45) (lv_sub hl [0, 3, 4, 5, 6, 7, 8] rfl)
                · have _u := trivial
                  refine lv_iload hx hb dX8_work_110 (lv_at hl 2 rfl) ?_
                  refine lv_istore_n (lv' := [(3, .int (nI (i))), (8, .int (((((σ.1 8) i) + n) - (nI 1)) / ((σ.1 7) i))), (7, .int ((σ.1 8) i)), (6, .int (nI (i))), (5, .int (en)), (4, .int (z)), (0, .ref (loc (300))), (1, .int (n)), (2, .int (d))]) hx hb dX8_work_112 rfl hl (by decide) rfl (fun ls hl => ?_)
                  refine lv_iload hx hb dX8_work_113 (lv_at hl 1 rfl) ?_
                  refine lv_istore (lv' := [(4, .int (((((σ.1 8) i) + n) - (nI 1)) / ((σ.1 7) i))), (3, .int (nI (i))), (8, .int (((((σ.1 8) i) + n) - (nI 1)) / ((σ.1 7) i))), (7, .int ((σ.1 8) i)), (6, .int (nI (i))), (5, .int (en)), (0, .ref (loc (300))), (1, .int (n)), (2, .int (d))]) hx hb dX8_work_115 hl (by decide) rfl (fun ls hl => ?_)
                  refine lv_iload hx hb dX8_work_117 (lv_at hl 3 rfl) ?_
                  refine lv_iload_n hx hb dX8_work_119 rfl (lv_at hl 7 rfl) ?_
                  refine lv_iadd hx hb dX8_work_120 ?_
                  refine lv_istore (lv' := [(5, .int (((σ.1 8) i) + n)), (4, .int (((((σ.1 8) i) + n) - (nI 1)) / ((σ.1 7) i))), (3, .int (nI (i))), (8, .int (((((σ.1 8) i) + n) - (nI 1)) / ((σ.1 7) i))), (7, .int ((σ.1 8) i)), (6, .int (nI (i))), (0, .ref (loc (300))), (1, .int (n)), (2, .int (d))]) hx hb dX8_work_121 hl (by decide) rfl (fun ls hl => ?_)
                  refine lv_iinc (v := nI (i + 1)) (lv' := [(6, .int (nI (i + 1))), (5, .int (((σ.1 8) i) + n)), (4, .int (((((σ.1 8) i) + n) - (nI 1)) / ((σ.1 7) i))), (3, .int (nI (i))), (8, .int (((((σ.1 8) i) + n) - (nI 1)) / ((σ.1 7) i))), (7, .int ((σ.1 8) i)), (0, .ref (loc (300))), (1, .int (n)), (2, .int (d))]) hx hb dX8_work_123 hl (k := 5) rfl (nI_add _ _) (by decide) rfl (fun ls hl => ?_)
                  refine lv_goto (tgt := 33) hx hb dX8_work_126 (by decide) ?_
                  exact ih15 (nI i) (((((σ.1 8) i) + n) - (nI 1)) / ((σ.1 7) i)) (((σ.1 8) i) + n) (i + 1) ls (by omega) (by omega) (ywb_t h2 (by omega) hpr (yen hfr) (Or.inr c45)) (lv_sub hl [0, 1, 2, 3, 6, 7, 8] rfl)
            · have _u := trivial
              have hfr : d * σ.1 7 i = (if d * σ.1 7 i < σ.1 8 i then σ.1 8 i else d * σ.1 7 i) := yfr_n c43
              have hpr : ((d * σ.1 7 i) + n - nI 1) / σ.1 7 i = xprom (σ.1 7 i) (σ.1 8 i) n d := ypr hh1.1 hfr
              refine lv_iload_n hx hb dX8_work_61 rfl (lv_at hl 6 rfl) ?_
              refine lv_aload_n hx hb dX8_work_62 rfl (lv_at hl 4 rfl) ?_
              refine x_get (C := RX8) (T := TX8) (N := 27) hx hb hts hi_X8_work_X8 hown hK hV f1 rfl 21 (by decide) (hts (.fieldLink RX8 43 "SaddleHouseModel" "hours" "[I") (List.mem_of_getElem? (i := 3) rfl)) (fun _ h9 => h9) rfl dX8_work_63 ?_
              refine lv_iload hx hb dX8_work_66 (lv_at hl 0 rfl) ?_
              refine x_iald hx hb hK hV f2 (i) (by omega) (by decide) dX8_work_68 ?_
              refine lv_imul hx hb dX8_work_69 ?_
              refine lv_goto (tgt := 80) hx hb dX8_work_70 (by decide) ?_
              refine lv_istore (lv' := [(7, .int (d * ((σ.1 7) i))), (6, .int (nI (i))), (5, .int (en)), (4, .int (z)), (3, .int (a)), (0, .ref (loc (300))), (1, .int (n)), (2, .int (d))]) hx hb dX8_work_80 hl (by decide) rfl (fun ls hl => ?_)
              refine lv_iload hx hb dX8_work_82 (lv_at hl 0 rfl) ?_
              refine lv_iload_n hx hb dX8_work_84 rfl (lv_at hl 6 rfl) ?_
              refine lv_iadd hx hb dX8_work_85 ?_
              refine lv_iconst (v := nI 1) hx hb dX8_work_86 (by decide +kernel) ?_
              refine lv_isub hx hb dX8_work_87 ?_
              refine lv_aload_n hx hb dX8_work_88 rfl (lv_at hl 5 rfl) ?_
              refine x_get (C := RX8) (T := TX8) (N := 27) hx hb hts hi_X8_work_X8 hown hK hV f1 rfl 21 (by decide) (hts (.fieldLink RX8 43 "SaddleHouseModel" "hours" "[I") (List.mem_of_getElem? (i := 3) rfl)) (fun _ h9 => h9) rfl dX8_work_89 ?_
              refine lv_iload hx hb dX8_work_92 (lv_at hl 1 rfl) ?_
              refine x_iald hx hb hK hV f2 (i) (by omega) (by decide) dX8_work_94 ?_
              refine lv_idiv hx hb dX8_work_95 hh1.2 ?_
              refine lv_istore (lv' := [(8, .int ((((d * ((σ.1 7) i)) + n) - (nI 1)) / ((σ.1 7) i))), (7, .int (d * ((σ.1 7) i))), (6, .int (nI (i))), (5, .int (en)), (4, .int (z)), (3, .int (a)), (0, .ref (loc (300))), (1, .int (n)), (2, .int (d))]) hx hb dX8_work_96 hl (by decide) rfl (fun ls hl => ?_)
              refine lv_iload_n hx hb dX8_work_98 rfl (lv_at hl 5 rfl) ?_
              refine lv_iconst (v := -1) hx hb dX8_work_99 (by decide +kernel) ?_
              refine lv_icmp_eq (tgt := 110) hx hb dX8_work_100 (by decide) (fun c46 => ?_) (fun c46 => ?_)
              · have _u := trivial
                refine lv_iload hx hb dX8_work_110 (lv_at hl 2 rfl) ?_
                refine lv_istore_n (lv' := [(3, .int (nI (i))), (8, .int ((((d * ((σ.1 7) i)) + n) - (nI 1)) / ((σ.1 7) i))), (7, .int (d * ((σ.1 7) i))), (6, .int (nI (i))), (5, .int (en)), (4, .int (z)), (0, .ref (loc (300))), (1, .int (n)), (2, .int (d))]) hx hb dX8_work_112 rfl hl (by decide) rfl (fun ls hl => ?_)
                refine lv_iload hx hb dX8_work_113 (lv_at hl 1 rfl) ?_
                refine lv_istore (lv' := [(4, .int ((((d * ((σ.1 7) i)) + n) - (nI 1)) / ((σ.1 7) i))), (3, .int (nI (i))), (8, .int ((((d * ((σ.1 7) i)) + n) - (nI 1)) / ((σ.1 7) i))), (7, .int (d * ((σ.1 7) i))), (6, .int (nI (i))), (5, .int (en)), (0, .ref (loc (300))), (1, .int (n)), (2, .int (d))]) hx hb dX8_work_115 hl (by decide) rfl (fun ls hl => ?_)
                refine lv_iload hx hb dX8_work_117 (lv_at hl 3 rfl) ?_
                refine lv_iload_n hx hb dX8_work_119 rfl (lv_at hl 7 rfl) ?_
                refine lv_iadd hx hb dX8_work_120 ?_
                refine lv_istore (lv' := [(5, .int ((d * ((σ.1 7) i)) + n)), (4, .int ((((d * ((σ.1 7) i)) + n) - (nI 1)) / ((σ.1 7) i))), (3, .int (nI (i))), (8, .int ((((d * ((σ.1 7) i)) + n) - (nI 1)) / ((σ.1 7) i))), (7, .int (d * ((σ.1 7) i))), (6, .int (nI (i))), (0, .ref (loc (300))), (1, .int (n)), (2, .int (d))]) hx hb dX8_work_121 hl (by decide) rfl (fun ls hl => ?_)
                refine lv_iinc (v := nI (i + 1)) (lv' := [(6, .int (nI (i + 1))), (5, .int ((d * ((σ.1 7) i)) + n)), (4, .int ((((d * ((σ.1 7) i)) + n) - (nI 1)) / ((σ.1 7) i))), (3, .int (nI (i))), (8, .int ((((d * ((σ.1 7) i)) + n) - (nI 1)) / ((σ.1 7) i))), (7, .int (d * ((σ.1 7) i))), (0, .ref (loc (300))), (1, .int (n)), (2, .int (d))]) hx hb dX8_work_123 hl (k := 5) rfl (nI_add _ _) (by decide) rfl (fun ls hl => ?_)
                refine lv_goto (tgt := 33) hx hb dX8_work_126 (by decide) ?_
                exact ih15 (nI i) ((((d * ((σ.1 7) i)) + n) - (nI 1)) / ((σ.1 7) i)) ((d * ((σ.1 7) i)) + n) (i + 1) ls (by omega) (by omega) (ywb_t h2 (by omega) hpr (yen hfr) (Or.inl c46)) (lv_sub hl [0, 1, 2, 3, 6, 7, 8] rfl)
              · have _u := trivial
                refine lv_iload hx hb dX8_work_103 (lv_at hl 0 rfl) ?_
                refine lv_iload hx hb dX8_work_105 (lv_at hl 4 rfl) ?_
                refine lv_icmp_ge (tgt := 123) hx hb dX8_work_107 (by decide) (fun c47 => ?_) (fun c47 => ?_)
                · have _u := trivial
                  refine lv_iinc (v := nI (i + 1)) (lv' := [(6, .int (nI (i + 1))), (8, .int ((((d * ((σ.1 7) i)) + n) - (nI 1)) / ((σ.1 7) i))), (7, .int (d * ((σ.1 7) i))), (5, .int (en)), (4, .int (z)), (3, .int (a)), (0, .ref (loc (300))), (1, .int (n)), (2, .int (d))]) hx hb dX8_work_123 hl (k := 2) rfl (nI_add _ _) (by decide) rfl (fun ls hl => ?_)
                  refine lv_goto (tgt := 33) hx hb dX8_work_126 (by decide) ?_
                  exact ih15 a z en (i + 1) ls (by omega) (by omega) (ywb_k h2 hpr c46 c47) (lv_sub hl [0, 3, 4, 5, 6, 7, 8] rfl)
                · have _u := trivial
                  refine lv_iload hx hb dX8_work_110 (lv_at hl 2 rfl) ?_
                  refine lv_istore_n (lv' := [(3, .int (nI (i))), (8, .int ((((d * ((σ.1 7) i)) + n) - (nI 1)) / ((σ.1 7) i))), (7, .int (d * ((σ.1 7) i))), (6, .int (nI (i))), (5, .int (en)), (4, .int (z)), (0, .ref (loc (300))), (1, .int (n)), (2, .int (d))]) hx hb dX8_work_112 rfl hl (by decide) rfl (fun ls hl => ?_)
                  refine lv_iload hx hb dX8_work_113 (lv_at hl 1 rfl) ?_
                  refine lv_istore (lv' := [(4, .int ((((d * ((σ.1 7) i)) + n) - (nI 1)) / ((σ.1 7) i))), (3, .int (nI (i))), (8, .int ((((d * ((σ.1 7) i)) + n) - (nI 1)) / ((σ.1 7) i))), (7, .int (d * ((σ.1 7) i))), (6, .int (nI (i))), (5, .int (en)), (0, .ref (loc (300))), (1, .int (n)), (2, .int (d))]) hx hb dX8_work_115 hl (by decide) rfl (fun ls hl => ?_)
                  refine lv_iload hx hb dX8_work_117 (lv_at hl 3 rfl) ?_
                  refine lv_iload_n hx hb dX8_work_119 rfl (lv_at hl 7 rfl) ?_
                  refine lv_iadd hx hb dX8_work_120 ?_
                  refine lv_istore (lv' := [(5, .int ((d * ((σ.1 7) i)) + n)), (4, .int ((((d * ((σ.1 7) i)) + n) - (nI 1)) / ((σ.1 7) i))), (3, .int (nI (i))), (8, .int ((((d * ((σ.1 7) i)) + n) - (nI 1)) / ((σ.1 7) i))), (7, .int (d * ((σ.1 7) i))), (6, .int (nI (i))), (0, .ref (loc (300))), (1, .int (n)), (2, .int (d))]) hx hb dX8_work_121 hl (by decide) rfl (fun ls hl => ?_)
                  refine lv_iinc (v := nI (i + 1)) (lv' := [(6, .int (nI (i + 1))), (5, .int ((d * ((σ.1 7) i)) + n)), (4, .int ((((d * ((σ.1 7) i)) + n) - (nI 1)) / ((σ.1 7) i))), (3, .int (nI (i))), (8, .int ((((d * ((σ.1 7) i)) + n) - (nI 1)) / ((σ.1 7) i))), (7, .int (d * ((σ.1 7) i))), (0, .ref (loc (300))), (1, .int (n)), (2, .int (d))]) hx hb dX8_work_123 hl (k := 5) rfl (nI_add _ _) (by decide) rfl (fun ls hl => ?_)
                  refine lv_goto (tgt := 33) hx hb dX8_work_126 (by decide) ?_
                  exact ih15 (nI i) ((((d * ((σ.1 7) i)) + n) - (nI 1)) / ((σ.1 7) i)) ((d * ((σ.1 7) i)) + n) (i + 1) ls (by omega) (by omega) (ywb_t h2 (by omega) hpr (yen hfr) (Or.inr c47)) (lv_sub hl [0, 1, 2, 3, 6, 7, 8] rfl)
      exact lp33_12 ((σ.2 3) + 1) (-1) (nI 0) (nI 0) 0 ls (by omega) (Nat.zero_le _) ywb_0 (lv_sub hl [0, 1, 2, 3, 4, 5, 6] rfl)
    · have _u := trivial
      refine lv_bipush (v := -102) hx hb dX8_work_19 (by decide +kernel) ?_
      exact x_rmi hx hb hr hlocks dX8_work_21 hV hS (y_lf (by simp only [sp_work, c7, c11, if_true, if_false, ite_true, ite_false, not_true_eq_false, not_false_eq_true, and_true, true_and, and_false, false_and, or_true, true_or, or_false, false_or, and_self, or_self, Nat.add_sub_cancel, Nat.add_eq_zero_iff, Nat.one_ne_zero, eq_self, Nat.not_lt]) (yOK_id hRR))
