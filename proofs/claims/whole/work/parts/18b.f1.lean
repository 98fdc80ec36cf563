abbrev rm_X7_day : Room := { frames := 2, cells := 0, slots := 0, locals := 42 }
theorem hi_X7_day_X7 : ∀ w ∈ wsX70, w ∈ wsX7_day := fun w h => List.mem_cons_of_mem _ (List.mem_append_right _ h)
set_option maxHeartbeats 4000000 in
set_option maxRecDepth 100000 in
theorem c_X7_day (l : Launch) (D : va_G) (cy : Nat → ClassId) (loc : Nat → Nat) (w : xM) (sz : Nat) (σ : xS) (hN : xN8 σ) (hR : xR cy loc σ w) (d : Int32)  : Met l yX7_day wsX7_day rm_X7_day (va_Pc [.ref (loc (0)), .int (d)] (xP D cy loc w sz)) (va_Qi (fun r u => r = (sp_day σ d).1 ∧ xOK cy loc w (sp_day σ d).2 u) (xB D (xA loc w sz)) (xA loc w sz)) 0 0 (xA loc w sz) := by
  refine x_met (cc := cX7_day) (maxL := 3) (ret := (some .int)) (C := RX7) (by decide) rfl rfl (Nat.le_of_ble_eq_true rfl) ?_
  intro p e s m below meth c ls hx hb hml hr hts hown hlocks hin hP hl
  obtain ⟨hsz, hV, hK⟩ := hP
  subst hsz
  have hA : ∀ q : Nat, s.heap.size ≤ q → xA loc w s.heap.size q := fun q h => Or.inr h
  have hS : va_S (xA loc w s.heap.size) s.heap s.heap [] := va_S.rf
  have hl : lv_has ls 3 [(0, .ref (loc (0))), (1, .int (d))] := hl
  have hNN := hN
  have hRR := hR
  obtain ⟨g0, b0, q0, hw⟩ := hR
  obtain ⟨hN0, hN1, hN2, hN3, hN4, hN5, hN6⟩ := hN
  have f1 : w (0) = some (.inr (7, [.ref (loc (1)), .ref (loc (2)), .ref (loc (3)), .ref (loc (4)), .ref (loc (5)), .ref (loc (6)), .ref (loc (7)), .int (nI (σ.2 0)), .int (nI (σ.2 1)), .int (nI (σ.2 2)), .int (nI (σ.2 3)), .int (nI (σ.2 4)), .int (nI (σ.2 5)), .int (nI (σ.2 6)), .int (σ.1 10 1), .int (σ.1 10 0), .ref (loc (8)), .ref (loc (11))])) := (hw 0 (by decide)).trans rfl
  have f2 : w (7) = some (eI cy 6 (σ.1 5)) := (hw 7 (by decide)).trans rfl
  refine lv_iload_n hx hb dX7_day_0 rfl (lv_at hl 1 rfl) ?_
  refine x_ci (va_runS (As := [.int (d)]) (rest := []) ⟨hx, hb, hml, hown, hts⟩ (c_X7_isDay l D cy loc w s.heap.size d) (cwS 1 hts gX7_day_X7_isDay rfl rfl rfl (by decide +kernel) ⟨Nat.le_of_ble_eq_true rfl, Nat.le_of_ble_eq_true rfl⟩) (x_preS hK hV) rfl rfl hl.1 rfl (lv_room (Nat.le_of_ble_eq_true rfl)) dX7_day_1 ⟨Nat.le_of_ble_eq_true rfl, Nat.le_of_ble_eq_true rfl⟩) (fun r3 hr4 => ?_)
  have ez5 : xb (nI 0 ≤ d ∧ d ≤ nI 10000) = r3 := Eq.symm (show r3 = xb (nI 0 ≤ d ∧ d ≤ nI 10000) from hr4)
  subst ez5
  refine x_bne (tgt := 10) hx hb dX7_day_4 (by decide) (fun c6 => ?_) (fun c6 => ?_)
  · have _u := trivial
    refine lv_iconst (v := nI 0) hx hb dX7_day_10 (by decide +kernel) ?_
    refine lv_istore_n (lv' := [(2, .int (nI (0))), (0, .ref (loc (0))), (1, .int (d))]) hx hb dX7_day_11 rfl hl (by decide) rfl (fun ls hl => ?_)
    have lp12_7 : ∀ (fuel8 : Nat) (i : Nat) (ls : Array Slot), σ.2 5 - i < fuel8 → (i ≤ σ.2 5) → (∀ k, k < i → ¬ σ.1 5 k = d) → lv_has ls 3 [(2, .int (nI (i))), (0, .ref (loc (0))), (1, .int (d))] → W p l e rm_X7_day s m ([.ref (loc (0)), .int (d)] : List Value).toArray below meth c s.heap [] 0 0 (MQ below (va_Qi (fun r u => r = (sp_day σ d).1 ∧ xOK cy loc w (sp_day σ d).2 u) (xB D (xA loc w s.heap.size)) (xA loc w s.heap.size)) ([.ref (loc (0)), .int (d)] : List Value).toArray s 0 0 (xA loc w s.heap.size)) (F0 m 12 ls []) := by
      intro fuel8
      induction fuel8 with
      | zero => intro i ls hm9; exact absurd hm9 (Nat.not_lt_zero _)
      | succ fuel8 ih10 =>
        intro i ls hm9 h1 h2  hl
        refine lv_iload_n hx hb dX7_day_12 rfl (lv_at hl 0 rfl) ?_
        refine lv_aload_n hx hb dX7_day_13 rfl (lv_at hl 1 rfl) ?_
        refine x_get (C := RX7) (T := TX7) (N := 18) hx hb hts hi_X7_day_X7 hown hK hV f1 rfl 12 (by decide) (hts (.fieldLink RX7 62 "SaddleHouse" "dayCount" "I") (List.mem_of_getElem? (i := 1) rfl)) (fun _ h9 => h9) rfl dX7_day_14 ?_
        refine x_cge hx hb (i) (σ.2 5) (by omega) (by omega) (tgt := 39) dX7_day_17 (by decide) (fun c11 => ?_) (fun c11 => ?_)
        · have _u := trivial
          have y2 : (xtd σ d) = True := eq_true (fun k hk => h2 k (by omega))
          refine lv_aload_n hx hb dX7_day_39 rfl (lv_at hl 1 rfl) ?_
          refine x_get (C := RX7) (T := TX7) (N := 18) hx hb hts hi_X7_day_X7 hown hK hV f1 rfl 12 (by decide) (hts (.fieldLink RX7 62 "SaddleHouse" "dayCount" "I") (List.mem_of_getElem? (i := 1) rfl)) (fun _ h9 => h9) rfl dX7_day_40 ?_
          refine lv_bipush (v := nI 6) hx hb dX7_day_43 (by decide +kernel) ?_
          refine x_clt hx hb (σ.2 5) (6) (by omega) (by omega) (tgt := 51) dX7_day_45 (by decide) (fun c12 => ?_) (fun c12 => ?_)
          · have _u := trivial
            refine lv_aload_n hx hb dX7_day_51 rfl (lv_at hl 1 rfl) ?_
            refine x_get (C := RX7) (T := TX7) (N := 18) hx hb hts hi_X7_day_X7 hown hK hV f1 rfl 6 (by decide) (hts (.fieldLink RX7 43 "SaddleHouse" "days" "[I") (List.mem_of_getElem? (i := 2) rfl)) (fun _ h9 => h9) rfl dX7_day_52 ?_
            refine lv_aload_n hx hb dX7_day_55 rfl (lv_at hl 1 rfl) ?_
            refine x_get (C := RX7) (T := TX7) (N := 18) hx hb hts hi_X7_day_X7 hown hK hV f1 rfl 12 (by decide) (hts (.fieldLink RX7 62 "SaddleHouse" "dayCount" "I") (List.mem_of_getElem? (i := 1) rfl)) (fun _ h9 => h9) rfl dX7_day_56 ?_
            refine lv_iload_n hx hb dX7_day_59 rfl (lv_at hl 2 rfl) ?_
            refine x_iast hx hb hK hV hS f2 (σ.2 5) (by omega) (by decide) dX7_day_60 (fun H13 L14 hV15 hS16 => ?_)
            have f17 : (xup w (7) (eI cy 6 (upd (σ.1 5) (σ.2 5) d))) (0) = some (.inr (7, [.ref (loc (1)), .ref (loc (2)), .ref (loc (3)), .ref (loc (4)), .ref (loc (5)), .ref (loc (6)), .ref (loc (7)), .int (nI (σ.2 0)), .int (nI (σ.2 1)), .int (nI (σ.2 2)), .int (nI (σ.2 3)), .int (nI (σ.2 4)), .int (nI (σ.2 5)), .int (nI (σ.2 6)), .int (σ.1 10 1), .int (σ.1 10 0), .ref (loc (8)), .ref (loc (11))])) := xup_o (f1) (by omega)
            have f18 : (xup w (7) (eI cy 6 (upd (σ.1 5) (σ.2 5) d))) (7) = some (eI cy 6 (upd (σ.1 5) (σ.2 5) d)) := xup_at _ _ _
            refine lv_aload_n hx hb dX7_day_61 rfl (lv_at hl 1 rfl) ?_
            refine lv_dup hx hb dX7_day_62 rfl ?_
            refine x_get (C := RX7) (T := TX7) (N := 18) hx hb hts hi_X7_day_X7 hown hK hV15 f17 rfl 12 (by decide) (hts (.fieldLink RX7 62 "SaddleHouse" "dayCount" "I") (List.mem_of_getElem? (i := 1) rfl)) (fun _ h9 => h9) rfl dX7_day_63 ?_
            refine lv_iconst (v := nI 1) hx hb dX7_day_66 (by decide +kernel) ?_
            refine x_iadd hx hb (σ.2 5) (1) dX7_day_67 ?_
            refine x_putf (C := RX7) (T := TX7) (N := 18) (v := .int (nI ((σ.2 5) + 1))) (ty := .int) hx hb hts hi_X7_day_X7 tyX7 tyX7_ok nmX7 hown hK hV15 hS16 f17 rfl 12 (by decide) (hts (.fieldLink RX7 62 "SaddleHouse" "dayCount" "I") (List.mem_of_getElem? (i := 1) rfl)) (fun _ h9 => h9) rfl (by decide +kernel) rfl rfl (Nat.le_of_ble_eq_true rfl) dX7_day_68 (fun H19 L20 hV21 hS22 => ?_)
            have f23 : (xup (xup w (7) (eI cy 6 (upd (σ.1 5) (σ.2 5) d))) (0) (.inr (7, [.ref (loc (1)), .ref (loc (2)), .ref (loc (3)), .ref (loc (4)), .ref (loc (5)), .ref (loc (6)), .ref (loc (7)), .int (nI (σ.2 0)), .int (nI (σ.2 1)), .int (nI (σ.2 2)), .int (nI (σ.2 3)), .int (nI (σ.2 4)), .int (nI ((σ.2 5) + 1)), .int (nI (σ.2 6)), .int (σ.1 10 1), .int (σ.1 10 0), .ref (loc (8)), .ref (loc (11))]))) (0) = some (.inr (7, [.ref (loc (1)), .ref (loc (2)), .ref (loc (3)), .ref (loc (4)), .ref (loc (5)), .ref (loc (6)), .ref (loc (7)), .int (nI (σ.2 0)), .int (nI (σ.2 1)), .int (nI (σ.2 2)), .int (nI (σ.2 3)), .int (nI (σ.2 4)), .int (nI ((σ.2 5) + 1)), .int (nI (σ.2 6)), .int (σ.1 10 1), .int (σ.1 10 0), .ref (loc (8)), .ref (loc (11))])) := xup_at _ _ _
            have f24 : (xup (xup w (7) (eI cy 6 (upd (σ.1 5) (σ.2 5) d))) (0) (.inr (7, [.ref (loc (1)), .ref (loc (2)), .ref (loc (3)), .ref (loc (4)), .ref (loc (5)), .ref (loc (6)), .ref (loc (7)), .int (nI (σ.2 0)), .int (nI (σ.2 1)), .int (nI (σ.2 2)), .int (nI (σ.2 3)), .int (nI (σ.2 4)), .int (nI ((σ.2 5) + 1)), .int (nI (σ.2 6)), .int (σ.1 10 1), .int (σ.1 10 0), .ref (loc (8)), .ref (loc (11))]))) (7) = some (eI cy 6 (upd (σ.1 5) (σ.2 5) d)) := xup_o (xup_at _ _ _) (by omega)
            refine lv_aload_n hx hb dX7_day_71 rfl (lv_at hl 1 rfl) ?_
            refine x_get (C := RX7) (T := TX7) (N := 18) hx hb hts hi_X7_day_X7 hown hK hV21 f23 rfl 12 (by decide) (hts (.fieldLink RX7 62 "SaddleHouse" "dayCount" "I") (List.mem_of_getElem? (i := 1) rfl)) (fun _ h9 => h9) rfl dX7_day_72 ?_
            exact x_rmi hx hb hr hlocks dX7_day_75 hV21 hS22 (x_lf (by simp only [sp_day, c6, c11, y2, c12, if_true, if_false, ite_true, ite_false, not_true_eq_false, not_false_eq_true, and_true, true_and, and_false, false_and, or_true, true_or, or_false, false_or, and_self, or_self, Nat.add_sub_cancel, Nat.add_eq_zero_iff, Nat.one_ne_zero, eq_self, Nat.not_lt]) (xOK_day hRR d))
          · have _u := trivial
            refine lv_bipush (v := -104) hx hb dX7_day_48 (by decide +kernel) ?_
            exact x_rmi hx hb hr hlocks dX7_day_50 hV hS (x_lf (by simp only [sp_day, c6, c11, y2, c12, if_true, if_false, ite_true, ite_false, not_true_eq_false, not_false_eq_true, and_true, true_and, and_false, false_and, or_true, true_or, or_false, false_or, and_self, or_self, Nat.add_sub_cancel, Nat.add_eq_zero_iff, Nat.one_ne_zero, eq_self, Nat.not_lt]) (xOK_id hRR))
        · have _u := trivial
          refine lv_aload_n hx hb dX7_day_20 rfl (lv_at hl 1 rfl) ?_
          refine x_get (C := RX7) (T := TX7) (N := 18) hx hb hts hi_X7_day_X7 hown hK hV f1 rfl 6 (by decide) (hts (.fieldLink RX7 43 "SaddleHouse" "days" "[I") (List.mem_of_getElem? (i := 2) rfl)) (fun _ h9 => h9) rfl dX7_day_21 ?_
          refine lv_iload_n hx hb dX7_day_24 rfl (lv_at hl 0 rfl) ?_
          refine x_iald hx hb hK hV f2 (i) (by omega) (by decide) dX7_day_25 ?_
          refine lv_iload_n hx hb dX7_day_26 rfl (lv_at hl 2 rfl) ?_
          refine lv_icmp_ne (tgt := 33) hx hb dX7_day_27 (by decide) (fun c25 => ?_) (fun c25 => ?_)
          · have _u := trivial
            refine lv_iinc (v := nI (i + 1)) (lv' := [(2, .int (nI (i + 1))), (0, .ref (loc (0))), (1, .int (d))]) hx hb dX7_day_33 hl (k := 0) rfl (nI_add _ _) (by decide) rfl (fun ls hl => ?_)
            refine lv_goto (tgt := 12) hx hb dX7_day_36 (by decide) ?_
            exact ih10 (i + 1) ls (by omega) (by omega) (x_alls h2 c25) (lv_sub hl [0, 1, 2] rfl)
          · have _u := trivial
            have y1 : (xtd σ d) = False := eq_false (fun q => q i (by omega) c25)
            refine lv_bipush (v := -103) hx hb dX7_day_30 (by decide +kernel) ?_
            exact x_rmi hx hb hr hlocks dX7_day_32 hV hS (x_lf (by simp only [sp_day, c6, y1, if_true, if_false, ite_true, ite_false, not_true_eq_false, not_false_eq_true, and_true, true_and, and_false, false_and, or_true, true_or, or_false, false_or, and_self, or_self, Nat.add_sub_cancel, Nat.add_eq_zero_iff, Nat.one_ne_zero, eq_self, Nat.not_lt]) (xOK_id hRR))
    exact lp12_7 ((σ.2 5) + 1) 0 ls (by omega) (Nat.zero_le _) (fun k h => absurd h (Nat.not_lt_zero k)) (lv_sub hl [0, 1, 2] rfl)
  · have _u := trivial
    refine lv_bipush (v := -102) hx hb dX7_day_7 (by decide +kernel) ?_
    exact x_rmi hx hb hr hlocks dX7_day_9 hV hS (x_lf (by simp only [sp_day, c6, if_true, if_false, ite_true, ite_false, not_true_eq_false, not_false_eq_true, and_true, true_and, and_false, false_and, or_true, true_or, or_false, false_or, and_self, or_self, Nat.add_sub_cancel, Nat.add_eq_zero_iff, Nat.one_ne_zero, eq_self, Nat.not_lt]) (xOK_id hRR))
abbrev rm_X7_clear : Room := { frames := 0, cells := 0, slots := 0, locals := 0 }
theorem hi_X7_clear_X7 : ∀ w ∈ wsX70, w ∈ wsX7_clear := fun w h => List.mem_cons_of_mem _ (List.mem_append_right _ h)
set_option maxHeartbeats 4000000 in
set_option maxRecDepth 100000 in
theorem c_X7_clear (l : Launch) (D : va_G) (cy : Nat → ClassId) (loc : Nat → Nat) (w : xM) (sz : Nat) (σ : xS) (hN : xN8 σ) (hR : xR cy loc σ w)   : Met l yX7_clear wsX7_clear rm_X7_clear (va_Pc [.ref (loc (0))] (xP D cy loc w sz)) (va_Qi (fun r u => r = (sp_clear σ).1 ∧ xOK cy loc w (sp_clear σ).2 u) (xB D (xA loc w sz)) (xA loc w sz)) 0 0 (xA loc w sz) := by
  refine x_met (cc := cX7_clear) (maxL := 2) (ret := (some .int)) (C := RX7) (by decide) rfl rfl (Nat.le_of_ble_eq_true rfl) ?_
  intro p e s m below meth c ls hx hb hml hr hts hown hlocks hin hP hl
  obtain ⟨hsz, hV, hK⟩ := hP
  subst hsz
  have hA : ∀ q : Nat, s.heap.size ≤ q → xA loc w s.heap.size q := fun q h => Or.inr h
  have hS : va_S (xA loc w s.heap.size) s.heap s.heap [] := va_S.rf
  have hl : lv_has ls 2 [(0, .ref (loc (0)))] := hl
  have hNN := hN
  have hRR := hR
  obtain ⟨g0, b0, q0, hw⟩ := hR
  obtain ⟨hN0, hN1, hN2, hN3, hN4, hN5, hN6⟩ := hN
  have f1 : w (0) = some (.inr (7, [.ref (loc (1)), .ref (loc (2)), .ref (loc (3)), .ref (loc (4)), .ref (loc (5)), .ref (loc (6)), .ref (loc (7)), .int (nI (σ.2 0)), .int (nI (σ.2 1)), .int (nI (σ.2 2)), .int (nI (σ.2 3)), .int (nI (σ.2 4)), .int (nI (σ.2 5)), .int (nI (σ.2 6)), .int (σ.1 10 1), .int (σ.1 10 0), .ref (loc (8)), .ref (loc (11))])) := (hw 0 (by decide)).trans rfl
  refine lv_aload_n hx hb dX7_clear_0 rfl (lv_at hl 0 rfl) ?_
  refine x_get (C := RX7) (T := TX7) (N := 18) hx hb hts hi_X7_clear_X7 hown hK hV f1 rfl 12 (by decide) (hts (.fieldLink RX7 62 "SaddleHouse" "dayCount" "I") (List.mem_of_getElem? (i := 1) rfl)) (fun _ h9 => h9) rfl dX7_clear_1 ?_
  refine lv_istore_n (lv' := [(1, .int (nI (σ.2 5))), (0, .ref (loc (0)))]) hx hb dX7_clear_4 rfl hl (by decide) rfl (fun ls hl => ?_)
  refine lv_aload_n hx hb dX7_clear_5 rfl (lv_at hl 1 rfl) ?_
  refine lv_iconst (v := nI 0) hx hb dX7_clear_6 (by decide +kernel) ?_
  refine x_putf (C := RX7) (T := TX7) (N := 18) (v := .int (nI (0))) (ty := .int) hx hb hts hi_X7_clear_X7 tyX7 tyX7_ok nmX7 hown hK hV hS f1 rfl 12 (by decide) (hts (.fieldLink RX7 62 "SaddleHouse" "dayCount" "I") (List.mem_of_getElem? (i := 1) rfl)) (fun _ h9 => h9) rfl (by decide +kernel) rfl rfl (Nat.le_of_ble_eq_true rfl) dX7_clear_7 (fun H2 L3 hV4 hS5 => ?_)
  have f6 : (xup w (0) (.inr (7, [.ref (loc (1)), .ref (loc (2)), .ref (loc (3)), .ref (loc (4)), .ref (loc (5)), .ref (loc (6)), .ref (loc (7)), .int (nI (σ.2 0)), .int (nI (σ.2 1)), .int (nI (σ.2 2)), .int (nI (σ.2 3)), .int (nI (σ.2 4)), .int (nI (0)), .int (nI (σ.2 6)), .int (σ.1 10 1), .int (σ.1 10 0), .ref (loc (8)), .ref (loc (11))]))) (0) = some (.inr (7, [.ref (loc (1)), .ref (loc (2)), .ref (loc (3)), .ref (loc (4)), .ref (loc (5)), .ref (loc (6)), .ref (loc (7)), .int (nI (σ.2 0)), .int (nI (σ.2 1)), .int (nI (σ.2 2)), .int (nI (σ.2 3)), .int (nI (σ.2 4)), .int (nI (0)), .int (nI (σ.2 6)), .int (σ.1 10 1), .int (σ.1 10 0), .ref (loc (8)), .ref (loc (11))])) := xup_at _ _ _
  refine lv_iload_n hx hb dX7_clear_10 rfl (lv_at hl 0 rfl) ?_
  exact x_rmi hx hb hr hlocks dX7_clear_11 hV4 hS5 (⟨rfl, xOK_clear hRR⟩)
