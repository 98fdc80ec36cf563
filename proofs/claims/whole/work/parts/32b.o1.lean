abbrev rm_X8_best : Room := { frames := 3, cells := 0, slots := 0, locals := 75 }
theorem hi_X8_best_X8 : ∀ w ∈ wsX80, w ∈ wsX8_best := fun w h => List.mem_cons_of_mem _ (List.mem_append_right _ h)
set_option maxHeartbeats 4000000 in
set_option maxRecDepth 100000 in
theorem c_X8_best (l : Launch) (D : va_G) (cy : Nat → ClassId) (loc : Nat → Nat) (w : xM) (sz : Nat) (σ : xS) (hN : xN8 σ) (hR : yR cy loc σ w) (ho d ld m0 : Int32) (hB : xBd σ)   : Met l yX8_best wsX8_best rm_X8_best (va_Pc [.ref (loc (300)), .int (ho), .int (d), .int (ld), .int (m0)] (xP D cy loc w sz)) (va_Qi (fun r u => r = sp_best σ ho d ld m0 ∧ yOK cy loc w σ u) (xB D (xA loc w sz)) (xA loc w sz)) 0 0 (xA loc w sz) := by
  refine x_met (cc := cX8_best) (maxL := 9) (ret := (some .int)) (C := RX8) (by decide) rfl rfl (Nat.le_of_ble_eq_true rfl) ?_
  intro p e s m below meth c ls hx hb hml hr hts hown hlocks hin hP hl
  obtain ⟨hsz, hV, hK⟩ := hP
  subst hsz
  have hA : ∀ q : Nat, s.heap.size ≤ q → xA loc w s.heap.size q := fun q h => Or.inr h
  have hS : va_S (xA loc w s.heap.size) s.heap s.heap [] := va_S.rf
  have hl : lv_has ls 9 [(0, .ref (loc (300))), (1, .int (ho)), (2, .int (d)), (3, .int (ld)), (4, .int (m0))] := hl
  have hNN := hN
  have hRR := hR
  obtain ⟨g0, b0, q0, v0, hw⟩ := hR
  obtain ⟨hN0, hN1, hN2, hN3, hN4, hN5, hN6⟩ := hN
  have f1 : w (300) = some (.inr (8, [.ref (loc (301)), .int (nI (σ.2 0)), .ref (loc (302)), .ref (loc (303)), .ref (loc (304)), .int (nI (σ.2 1)), .ref (loc (305)), .ref (loc (306)), .ref (loc (307)), .ref (loc (308)), .int (v0 0), .int (v0 1), .int (v0 2), .int (v0 3), .int (nI (σ.2 5)), .ref (loc (309)), .ref (loc (310)), .int (v0 4), .int (nI (σ.2 2)), .ref (loc (311)), .int (nI (σ.2 3)), .ref (loc (312)), .ref (loc (313)), .int (σ.1 10 0), .int (σ.1 10 1), .int (nI (σ.2 4)), .ref (loc (314))])) := (hw 0 (by decide)).trans rfl
  have f2 : w (304) = some (eI cy 432 (σ.1 2)) := (hw 4 (by decide)).trans rfl
  have f3 : w (305) = some (eI cy 72 (σ.1 3)) := (hw 5 (by decide)).trans rfl
  have f4 : w (306) = some (eI cy 72 (σ.1 4)) := (hw 6 (by decide)).trans rfl
  have f5 : w (307) = some (eI cy 9 (g0)) := (hw 7 (by decide)).trans rfl
  have f6 : w (308) = some (eI cy 9 (b0)) := (hw 8 (by decide)).trans rfl
  refine lv_aload_n hx hb dX8_best_0 rfl (lv_at hl 0 rfl) ?_
  refine lv_iload_n hx hb dX8_best_1 rfl (lv_at hl 1 rfl) ?_
  refine x_ci (va_runV (As := [.int (ho)]) (rest := []) ⟨hx, hb, hml, hown, hts⟩ (c_X8_isHorse l D cy loc w s.heap.size σ hNN hRR ho) (cwV 1 hts gX8_best_X8_isHorse rfl rfl rfl (by decide +kernel) ⟨Nat.le_of_ble_eq_true rfl, Nat.le_of_ble_eq_true rfl⟩) (x_preV hK hV f1 rfl) rfl rfl hl.1 rfl (lv_room (Nat.le_of_ble_eq_true rfl)) dX8_best_2 ⟨Nat.le_of_ble_eq_true rfl, Nat.le_of_ble_eq_true rfl⟩) (fun r7 hr8 => ?_)
  have ez9 : xb (nI 0 ≤ ho ∧ ho < nI (σ.2 0)) = r7 := Eq.symm (show r7 = xb (nI 0 ≤ ho ∧ ho < nI (σ.2 0)) from hr8)
  subst ez9
  refine x_bne (tgt := 11) hx hb dX8_best_5 (by decide) (fun c10 => ?_) (fun c10 => ?_)
  · have _u := trivial
    obtain ⟨k, h_k, e_k⟩ := x_ix2 (show σ.2 0 < 2 ^ 31 by omega) c10
    subst e_k
    have k_k : (nI k).toNatClampNeg = k := nI_clamp (by omega)
    refine lv_iload_n hx hb dX8_best_11 rfl (lv_at hl 2 rfl) ?_
    refine x_ci (va_runS (As := [.int (d)]) (rest := []) ⟨hx, hb, hml, hown, hts⟩ (c_X8_isDay l D cy loc w s.heap.size d) (cwS 1 hts gX8_best_X8_isDay rfl rfl rfl (by decide +kernel) ⟨Nat.le_of_ble_eq_true rfl, Nat.le_of_ble_eq_true rfl⟩) (x_preS hK hV) rfl rfl hl.1 rfl (lv_room (Nat.le_of_ble_eq_true rfl)) dX8_best_12 ⟨Nat.le_of_ble_eq_true rfl, Nat.le_of_ble_eq_true rfl⟩) (fun r11 hr12 => ?_)
    have ez13 : xb (nI 0 ≤ d ∧ d ≤ nI 10000) = r11 := Eq.symm (show r11 = xb (nI 0 ≤ d ∧ d ≤ nI 10000) from hr12)
    subst ez13
    refine x_beq (tgt := 33) hx hb dX8_best_15 (by decide) (fun c14 => ?_) (fun c14 => ?_)
    · have _u := trivial
      refine lv_bipush (v := -102) hx hb dX8_best_33 (by decide +kernel) ?_
      exact x_rmi hx hb hr hlocks dX8_best_35 hV hS (⟨by show _ = _; simp only [sp_best, c10, k_k, c14, if_true, if_false, ite_true, ite_false, not_true_eq_false, not_false_eq_true, and_true, true_and, and_false, false_and, or_true, true_or, or_false, false_or, and_self, or_self, Nat.add_sub_cancel, Nat.add_eq_zero_iff, Nat.one_ne_zero, eq_self, Nat.not_lt], yOK_id hRR⟩)
    · have _u := trivial
      refine lv_iload_n hx hb dX8_best_18 rfl (lv_at hl 3 rfl) ?_
      refine x_ci (va_runS (As := [.int (ld)]) (rest := []) ⟨hx, hb, hml, hown, hts⟩ (c_X8_isLoad l D cy loc w s.heap.size ld) (cwS 1 hts gX8_best_X8_isLoad rfl rfl rfl (by decide +kernel) ⟨Nat.le_of_ble_eq_true rfl, Nat.le_of_ble_eq_true rfl⟩) (x_preS hK hV) rfl rfl hl.1 rfl (lv_room (Nat.le_of_ble_eq_true rfl)) dX8_best_19 ⟨Nat.le_of_ble_eq_true rfl, Nat.le_of_ble_eq_true rfl⟩) (fun r15 hr16 => ?_)
      have ez17 : xb (nI 1 ≤ ld ∧ ld ≤ nI 2000) = r15 := Eq.symm (show r15 = xb (nI 1 ≤ ld ∧ ld ≤ nI 2000) from hr16)
      subst ez17
      refine x_beq (tgt := 33) hx hb dX8_best_22 (by decide) (fun c18 => ?_) (fun c18 => ?_)
      · have _u := trivial
        refine lv_bipush (v := -102) hx hb dX8_best_33 (by decide +kernel) ?_
        exact x_rmi hx hb hr hlocks dX8_best_35 hV hS (⟨by show _ = _; simp only [sp_best, c10, k_k, c14, c18, if_true, if_false, ite_true, ite_false, not_true_eq_false, not_false_eq_true, and_true, true_and, and_false, false_and, or_true, true_or, or_false, false_or, and_self, or_self, Nat.add_sub_cancel, Nat.add_eq_zero_iff, Nat.one_ne_zero, eq_self, Nat.not_lt], yOK_id hRR⟩)
      · have _u := trivial
        obtain ⟨ll, h_ll, h_ll', e_ll⟩ := x_rng1 (by decide) (by decide) c18
        subst e_ll
        have k_ll : (nI ll).toNatClampNeg = ll := nI_clamp (by omega)
        refine lv_iload hx hb dX8_best_25 (lv_at hl 4 rfl) ?_
        refine x_ci (va_runS (As := [.int (m0)]) (rest := []) ⟨hx, hb, hml, hown, hts⟩ (c_X8_isLoad l D cy loc w s.heap.size m0) (cwS 1 hts gX8_best_X8_isLoad rfl rfl rfl (by decide +kernel) ⟨Nat.le_of_ble_eq_true rfl, Nat.le_of_ble_eq_true rfl⟩) (x_preS hK hV) rfl rfl hl.1 rfl (lv_room (Nat.le_of_ble_eq_true rfl)) dX8_best_27 ⟨Nat.le_of_ble_eq_true rfl, Nat.le_of_ble_eq_true rfl⟩) (fun r19 hr20 => ?_)
        have ez21 : xb (nI 1 ≤ m0 ∧ m0 ≤ nI 2000) = r19 := Eq.symm (show r19 = xb (nI 1 ≤ m0 ∧ m0 ≤ nI 2000) from hr20)
        subst ez21
        refine x_bne (tgt := 36) hx hb dX8_best_30 (by decide) (fun c22 => ?_) (fun c22 => ?_)
        · have _u := trivial
          refine lv_aload_n hx hb dX8_best_36 rfl (lv_at hl 0 rfl) ?_
          refine lv_iload_n hx hb dX8_best_37 rfl (lv_at hl 1 rfl) ?_
          refine lv_iload_n hx hb dX8_best_38 rfl (lv_at hl 2 rfl) ?_
          refine x_ci (va_runV (As := [.int (nI (k)), .int (d)]) (rest := []) ⟨hx, hb, hml, hown, hts⟩ (c_X8_backAt l D cy loc w s.heap.size σ hNN hRR d k (by omega)) (cwV 2 hts gX8_best_X8_backAt rfl rfl rfl (by decide +kernel) ⟨Nat.le_of_ble_eq_true rfl, Nat.le_of_ble_eq_true rfl⟩) (x_preV hK hV f1 rfl) rfl rfl hl.1 rfl (lv_room (Nat.le_of_ble_eq_true rfl)) dX8_best_39 ⟨Nat.le_of_ble_eq_true rfl, Nat.le_of_ble_eq_true rfl⟩) (fun r23 hr24 => ?_)
          rcases yat_or σ k d with ⟨j, h_j, q_j, ea25⟩ | ⟨q_j, ea25⟩
          · refine x_top (congrArg Value.int ((show r23 = _ from hr24).trans ea25)) ?_
            have h6_j := hN6 k
            refine lv_istore (lv' := [(5, .int (nI (9 * (6 * k + j)))), (0, .ref (loc (300))), (1, .int (nI (k))), (2, .int (d)), (3, .int (nI (ll))), (4, .int (m0))]) hx hb dX8_best_42 hl (by decide) rfl (fun ls hl => ?_)
            refine lv_iload hx hb dX8_best_44 (lv_at hl 0 rfl) ?_
            refine lv_iconst (v := -1) hx hb dX8_best_46 (by decide +kernel) ?_
            refine lv_icmp_ne (tgt := 53) hx hb dX8_best_47 (by decide) (fun c26 => ?_) (fun c26 => ?_)
            · have _u := trivial
              refine lv_iconst (v := -1) hx hb dX8_best_53 (by decide +kernel) ?_
              refine lv_istore (lv' := [(6, .int ((-1))), (5, .int (nI (9 * (6 * k + j)))), (0, .ref (loc (300))), (1, .int (nI (k))), (2, .int (d)), (3, .int (nI (ll))), (4, .int (m0))]) hx hb dX8_best_54 hl (by decide) rfl (fun ls hl => ?_)
              refine lv_iconst (v := nI 0) hx hb dX8_best_56 (by decide +kernel) ?_
              refine lv_istore (lv' := [(7, .int (nI (0))), (6, .int ((-1))), (5, .int (nI (9 * (6 * k + j)))), (0, .ref (loc (300))), (1, .int (nI (k))), (2, .int (d)), (3, .int (nI (ll))), (4, .int (m0))]) hx hb dX8_best_57 hl (by decide) rfl (fun ls hl => ?_)
              refine lv_iconst (v := nI 0) hx hb dX8_best_59 (by decide +kernel) ?_
              refine lv_istore (lv' := [(8, .int (nI (0))), (7, .int (nI (0))), (6, .int ((-1))), (5, .int (nI (9 * (6 * k + j)))), (0, .ref (loc (300))), (1, .int (nI (k))), (2, .int (d)), (3, .int (nI (ll))), (4, .int (m0))]) hx hb dX8_best_60 hl (by decide) rfl (fun ls hl => ?_)
              have lp62_27 : ∀ (fuel32 : Nat) (a : Int32) (z : Int32) (i : Nat) (g1 : Nat → Int32) (b1 : Nat → Int32) (x0 : Int32) (x1 : Int32) (x2 : Int32) (x3 : Int32) (ls : Array Slot) (H28 : Heap) (L29 : List Loc), σ.2 1 - i < fuel32 → (i ≤ σ.2 1) → (ybs σ (6 * k + j) ll m0 i a z) → xV D (xA loc w s.heap.size) loc ((xup (xup (xup w (307) (eI cy 9 (g1))) (308) (eI cy 9 (b1))) (300) (.inr (8, [.ref (loc (301)), .int (nI (σ.2 0)), .ref (loc (302)), .ref (loc (303)), .ref (loc (304)), .int (nI (σ.2 1)), .ref (loc (305)), .ref (loc (306)), .ref (loc (307)), .ref (loc (308)), .int (x0), .int (x1), .int (x2), .int (x3), .int (nI (σ.2 5)), .ref (loc (309)), .ref (loc (310)), .int (v0 4), .int (nI (σ.2 2)), .ref (loc (311)), .int (nI (σ.2 3)), .ref (loc (312)), .ref (loc (313)), .int (σ.1 10 0), .int (σ.1 10 1), .int (nI (σ.2 4)), .ref (loc (314))])))) H28 → va_S (xA loc w s.heap.size) s.heap H28 L29 → lv_has ls 9 [(8, .int (nI (i))), (7, .int (z)), (6, .int (a)), (5, .int (nI (9 * (6 * k + j)))), (0, .ref (loc (300))), (1, .int (nI (k))), (2, .int (d)), (3, .int (nI (ll))), (4, .int (m0))] → W p l e rm_X8_best s m ([.ref (loc (300)), .int ((nI k)), .int (d), .int ((nI ll)), .int (m0)] : List Value).toArray below meth c H28 L29 0 0 (MQ below (va_Qi (fun r u => r = sp_best σ (nI k) d (nI ll) m0 ∧ yOK cy loc w σ u) (xB D (xA loc w s.heap.size)) (xA loc w s.heap.size)) ([.ref (loc (300)), .int ((nI k)), .int (d), .int ((nI ll)), .int (m0)] : List Value).toArray s 0 0 (xA loc w s.heap.size)) (F0 m 62 ls []) := by
                intro fuel32
                induction fuel32 with
                | zero => intro a z i g1 b1 x0 x1 x2 x3 ls H28 L29 hm33; exact absurd hm33 (Nat.not_lt_zero _)
                | succ fuel32 ih34 =>
                  intro a z i g1 b1 x0 x1 x2 x3 ls H28 L29 hm33 h1 h2 hV30 hS31 hl
                  have f35 : (xup (xup (xup w (307) (eI cy 9 (g1))) (308) (eI cy 9 (b1))) (300) (.inr (8, [.ref (loc (301)), .int (nI (σ.2 0)), .ref (loc (302)), .ref (loc (303)), .ref (loc (304)), .int (nI (σ.2 1)), .ref (loc (305)), .ref (loc (306)), .ref (loc (307)), .ref (loc (308)), .int (x0), .int (x1), .int (x2), .int (x3), .int (nI (σ.2 5)), .ref (loc (309)), .ref (loc (310)), .int (v0 4), .int (nI (σ.2 2)), .ref (loc (311)), .int (nI (σ.2 3)), .ref (loc (312)), .ref (loc (313)), .int (σ.1 10 0), .int (σ.1 10 1), .int (nI (σ.2 4)), .ref (loc (314))]))) (300) = some (.inr (8, [.ref (loc (301)), .int (nI (σ.2 0)), .ref (loc (302)), .ref (loc (303)), .ref (loc (304)), .int (nI (σ.2 1)), .ref (loc (305)), .ref (loc (306)), .ref (loc (307)), .ref (loc (308)), .int (x0), .int (x1), .int (x2), .int (x3), .int (nI (σ.2 5)), .ref (loc (309)), .ref (loc (310)), .int (v0 4), .int (nI (σ.2 2)), .ref (loc (311)), .int (nI (σ.2 3)), .ref (loc (312)), .ref (loc (313)), .int (σ.1 10 0), .int (σ.1 10 1), .int (nI (σ.2 4)), .ref (loc (314))])) := xup_at _ _ _
                  have f36 : (xup (xup (xup w (307) (eI cy 9 (g1))) (308) (eI cy 9 (b1))) (300) (.inr (8, [.ref (loc (301)), .int (nI (σ.2 0)), .ref (loc (302)), .ref (loc (303)), .ref (loc (304)), .int (nI (σ.2 1)), .ref (loc (305)), .ref (loc (306)), .ref (loc (307)), .ref (loc (308)), .int (x0), .int (x1), .int (x2), .int (x3), .int (nI (σ.2 5)), .ref (loc (309)), .ref (loc (310)), .int (v0 4), .int (nI (σ.2 2)), .ref (loc (311)), .int (nI (σ.2 3)), .ref (loc (312)), .ref (loc (313)), .int (σ.1 10 0), .int (σ.1 10 1), .int (nI (σ.2 4)), .ref (loc (314))]))) (304) = some (eI cy 432 (σ.1 2)) := xup_o (xup_o (xup_o (f2) (by omega)) (by omega)) (by omega)
                  have f37 : (xup (xup (xup w (307) (eI cy 9 (g1))) (308) (eI cy 9 (b1))) (300) (.inr (8, [.ref (loc (301)), .int (nI (σ.2 0)), .ref (loc (302)), .ref (loc (303)), .ref (loc (304)), .int (nI (σ.2 1)), .ref (loc (305)), .ref (loc (306)), .ref (loc (307)), .ref (loc (308)), .int (x0), .int (x1), .int (x2), .int (x3), .int (nI (σ.2 5)), .ref (loc (309)), .ref (loc (310)), .int (v0 4), .int (nI (σ.2 2)), .ref (loc (311)), .int (nI (σ.2 3)), .ref (loc (312)), .ref (loc (313)), .int (σ.1 10 0), .int (σ.1 10 1), .int (nI (σ.2 4)), .ref (loc (314))]))) (305) = some (eI cy 72 (σ.1 3)) := xup_o (xup_o (xup_o (f3) (by omega)) (by omega)) (by omega)
                  have f38 : (xup (xup (xup w (307) (eI cy 9 (g1))) (308) (eI cy 9 (b1))) (300) (.inr (8, [.ref (loc (301)), .int (nI (σ.2 0)), .ref (loc (302)), .ref (loc (303)), .ref (loc (304)), .int (nI (σ.2 1)), .ref (loc (305)), .ref (loc (306)), .ref (loc (307)), .ref (loc (308)), .int (x0), .int (x1), .int (x2), .int (x3), .int (nI (σ.2 5)), .ref (loc (309)), .ref (loc (310)), .int (v0 4), .int (nI (σ.2 2)), .ref (loc (311)), .int (nI (σ.2 3)), .ref (loc (312)), .ref (loc (313)), .int (σ.1 10 0), .int (σ.1 10 1), .int (nI (σ.2 4)), .ref (loc (314))]))) (306) = some (eI cy 72 (σ.1 4)) := xup_o (xup_o (xup_o (f4) (by omega)) (by omega)) (by omega)
                  have f39 : (xup (xup (xup w (307) (eI cy 9 (g1))) (308) (eI cy 9 (b1))) (300) (.inr (8, [.ref (loc (301)), .int (nI (σ.2 0)), .ref (loc (302)), .ref (loc (303)), .ref (loc (304)), .int (nI (σ.2 1)), .ref (loc (305)), .ref (loc (306)), .ref (loc (307)), .ref (loc (308)), .int (x0), .int (x1), .int (x2), .int (x3), .int (nI (σ.2 5)), .ref (loc (309)), .ref (loc (310)), .int (v0 4), .int (nI (σ.2 2)), .ref (loc (311)), .int (nI (σ.2 3)), .ref (loc (312)), .ref (loc (313)), .int (σ.1 10 0), .int (σ.1 10 1), .int (nI (σ.2 4)), .ref (loc (314))]))) (307) = some (eI cy 9 (g1)) := xup_o (xup_o (xup_at _ _ _) (by omega)) (by omega)
                  have f40 : (xup (xup (xup w (307) (eI cy 9 (g1))) (308) (eI cy 9 (b1))) (300) (.inr (8, [.ref (loc (301)), .int (nI (σ.2 0)), .ref (loc (302)), .ref (loc (303)), .ref (loc (304)), .int (nI (σ.2 1)), .ref (loc (305)), .ref (loc (306)), .ref (loc (307)), .ref (loc (308)), .int (x0), .int (x1), .int (x2), .int (x3), .int (nI (σ.2 5)), .ref (loc (309)), .ref (loc (310)), .int (v0 4), .int (nI (σ.2 2)), .ref (loc (311)), .int (nI (σ.2 3)), .ref (loc (312)), .ref (loc (313)), .int (σ.1 10 0), .int (σ.1 10 1), .int (nI (σ.2 4)), .ref (loc (314))]))) (308) = some (eI cy 9 (b1)) := xup_o (xup_at _ _ _) (by omega)
                  refine lv_iload hx hb dX8_best_62 (lv_at hl 0 rfl) ?_
                  refine lv_aload_n hx hb dX8_best_64 rfl (lv_at hl 4 rfl) ?_
                  refine x_get (C := RX8) (T := TX8) (N := 27) hx hb hts hi_X8_best_X8 hown hK hV30 f35 rfl 5 (by decide) (hts (.fieldLink RX8 88 "SaddleHouseModel" "trees" "I") (List.mem_of_getElem? (i := 1) rfl)) (fun _ h9 => h9) rfl dX8_best_65 ?_
                  refine x_cge hx hb (i) (σ.2 1) (by omega) (by omega) (tgt := 120) dX8_best_68 (by decide) (fun c41 => ?_) (fun c41 => ?_)
                  · have _u := trivial
                    refine lv_iload hx hb dX8_best_120 (lv_at hl 2 rfl) ?_
                    exact x_rmi hx hb hr hlocks dX8_best_122 hV30 hS31 (⟨by show _ = _; simp only [sp_best, c10, k_k, c14, c18, k_ll, c22, q_j, c26, if_true, if_false, ite_true, ite_false, not_true_eq_false, not_false_eq_true, and_true, true_and, and_false, false_and, or_true, true_or, or_false, false_or, and_self, or_self, Nat.add_sub_cancel, Nat.add_eq_zero_iff, Nat.one_ne_zero, eq_self, Nat.not_lt]; rw [← show i = σ.2 1 by omega]; exact ybs_e h2, yOK_sj hRR⟩)
                  · have _u := trivial
                    refine lv_aload_n hx hb dX8_best_71 rfl (lv_at hl 4 rfl) ?_
                    refine lv_iload hx hb dX8_best_72 (lv_at hl 0 rfl) ?_
                    refine lv_iload hx hb dX8_best_74 (lv_at hl 3 rfl) ?_
                    refine lv_iload_n hx hb dX8_best_76 rfl (lv_at hl 7 rfl) ?_
                    refine lv_iload hx hb dX8_best_77 (lv_at hl 8 rfl) ?_
                    refine x_mv (va_runV (As := [.int (nI (i)), .int (nI (9 * (6 * k + j))), .int (nI (ll)), .int (m0)]) (rest := []) ⟨hx, hb, hml, hown, hts⟩ (c_X8_judge l D cy loc (xup (xup (xup w (307) (eI cy 9 (g1))) (308) (eI cy 9 (b1))) (300) (.inr (8, [.ref (loc (301)), .int (nI (σ.2 0)), .ref (loc (302)), .ref (loc (303)), .ref (loc (304)), .int (nI (σ.2 1)), .ref (loc (305)), .ref (loc (306)), .ref (loc (307)), .ref (loc (308)), .int (x0), .int (x1), .int (x2), .int (x3), .int (nI (σ.2 5)), .ref (loc (309)), .ref (loc (310)), .int (v0 4), .int (nI (σ.2 2)), .ref (loc (311)), .int (nI (σ.2 3)), .ref (loc (312)), .ref (loc (313)), .int (σ.1 10 0), .int (σ.1 10 1), .int (nI (σ.2 4)), .ref (loc (314))]))) H28.size σ hNN (yR_300 (yR_308 (yR_307 hRR))) hB i k j ll (by omega) h_k h_j h_ll h_ll' (x0) (x1) (x2) (x3) (v0 4) m0 f35) (cwV 4 hts gX8_best_X8_judge rfl rfl rfl (by decide +kernel) ⟨Nat.le_of_ble_eq_true rfl, Nat.le_of_ble_eq_true rfl⟩) (x_preV hK hV30 f35 rfl) rfl rfl hl.1 rfl (lv_room (Nat.le_of_ble_eq_true rfl)) dX8_best_79 ⟨Nat.le_of_ble_eq_true rfl, Nat.le_of_ble_eq_true rfl⟩) hV30 hS31 hA (fun loc49 w48 H44 L45 hr43 hV46 hS47 => ?_)
                    obtain ⟨e50, g2, b2, e51⟩ := hr43
                    have e50 : loc = loc49 := Eq.symm e50
                    subst e50
                    have e51 := Eq.symm e51
                    subst e51
                    have hV52 : xV D (xA loc w s.heap.size) loc (xup (xup (xup w (307) (eI cy 9 (g2))) (308) (eI cy 9 (b2))) (300) (.inr (8, [.ref (loc (301)), .int (nI (σ.2 0)), .ref (loc (302)), .ref (loc (303)), .ref (loc (304)), .int (nI (σ.2 1)), .ref (loc (305)), .ref (loc (306)), .ref (loc (307)), .ref (loc (308)), .int (nI (xfault (xbe σ i (6 * k + j) ll) m0)), .int (xplace (xbe σ i (6 * k + j) ll) m0), .int (xmo σ i (6 * k + j) ll), .int (nI (xcnt (xbe σ i (6 * k + j) ll) 0 9)), .int (nI (σ.2 5)), .ref (loc (309)), .ref (loc (310)), .int (v0 4), .int (nI (σ.2 2)), .ref (loc (311)), .int (nI (σ.2 3)), .ref (loc (312)), .ref (loc (313)), .int (σ.1 10 0), .int (σ.1 10 1), .int (nI (σ.2 4)), .ref (loc (314))]))) H44 := hV46.eq x_j3
                    have f53 : (xup (xup (xup w (307) (eI cy 9 (g2))) (308) (eI cy 9 (b2))) (300) (.inr (8, [.ref (loc (301)), .int (nI (σ.2 0)), .ref (loc (302)), .ref (loc (303)), .ref (loc (304)), .int (nI (σ.2 1)), .ref (loc (305)), .ref (loc (306)), .ref (loc (307)), .ref (loc (308)), .int (nI (xfault (xbe σ i (6 * k + j) ll) m0)), .int (xplace (xbe σ i (6 * k + j) ll) m0), .int (xmo σ i (6 * k + j) ll), .int (nI (xcnt (xbe σ i (6 * k + j) ll) 0 9)), .int (nI (σ.2 5)), .ref (loc (309)), .ref (loc (310)), .int (v0 4), .int (nI (σ.2 2)), .ref (loc (311)), .int (nI (σ.2 3)), .ref (loc (312)), .ref (loc (313)), .int (σ.1 10 0), .int (σ.1 10 1), .int (nI (σ.2 4)), .ref (loc (314))]))) (300) = some (.inr (8, [.ref (loc (301)), .int (nI (σ.2 0)), .ref (loc (302)), .ref (loc (303)), .ref (loc (304)), .int (nI (σ.2 1)), .ref (loc (305)), .ref (loc (306)), .ref (loc (307)), .ref (loc (308)), .int (nI (xfault (xbe σ i (6 * k + j) ll) m0)), .int (xplace (xbe σ i (6 * k + j) ll) m0), .int (xmo σ i (6 * k + j) ll), .int (nI (xcnt (xbe σ i (6 * k + j) ll) 0 9)), .int (nI (σ.2 5)), .ref (loc (309)), .ref (loc (310)), .int (v0 4), .int (nI (σ.2 2)), .ref (loc (311)), .int (nI (σ.2 3)), .ref (loc (312)), .ref (loc (313)), .int (σ.1 10 0), .int (σ.1 10 1), .int (nI (σ.2 4)), .ref (loc (314))])) := xup_at _ _ _
                    have f54 : (xup (xup (xup w (307) (eI cy 9 (g2))) (308) (eI cy 9 (b2))) (300) (.inr (8, [.ref (loc (301)), .int (nI (σ.2 0)), .ref (loc (302)), .ref (loc (303)), .ref (loc (304)), .int (nI (σ.2 1)), .ref (loc (305)), .ref (loc (306)), .ref (loc (307)), .ref (loc (308)), .int (nI (xfault (xbe σ i (6 * k + j) ll) m0)), .int (xplace (xbe σ i (6 * k + j) ll) m0), .int (xmo σ i (6 * k + j) ll), .int (nI (xcnt (xbe σ i (6 * k + j) ll) 0 9)), .int (nI (σ.2 5)), .ref (loc (309)), .ref (loc (310)), .int (v0 4), .int (nI (σ.2 2)), .ref (loc (311)), .int (nI (σ.2 3)), .ref (loc (312)), .ref (loc (313)), .int (σ.1 10 0), .int (σ.1 10 1), .int (nI (σ.2 4)), .ref (loc (314))]))) (304) = some (eI cy 432 (σ.1 2)) := xup_o (xup_o (xup_o (f2) (by omega)) (by omega)) (by omega)
                    have f55 : (xup (xup (xup w (307) (eI cy 9 (g2))) (308) (eI cy 9 (b2))) (300) (.inr (8, [.ref (loc (301)), .int (nI (σ.2 0)), .ref (loc (302)), .ref (loc (303)), .ref (loc (304)), .int (nI (σ.2 1)), .ref (loc (305)), .ref (loc (306)), .ref (loc (307)), .ref (loc (308)), .int (nI (xfault (xbe σ i (6 * k + j) ll) m0)), .int (xplace (xbe σ i (6 * k + j) ll) m0), .int (xmo σ i (6 * k + j) ll), .int (nI (xcnt (xbe σ i (6 * k + j) ll) 0 9)), .int (nI (σ.2 5)), .ref (loc (309)), .ref (loc (310)), .int (v0 4), .int (nI (σ.2 2)), .ref (loc (311)), .int (nI (σ.2 3)), .ref (loc (312)), .ref (loc (313)), .int (σ.1 10 0), .int (σ.1 10 1), .int (nI (σ.2 4)), .ref (loc (314))]))) (305) = some (eI cy 72 (σ.1 3)) := xup_o (xup_o (xup_o (f3) (by omega)) (by omega)) (by omega)
                    have f56 : (xup (xup (xup w (307) (eI cy 9 (g2))) (308) (eI cy 9 (b2))) (300) (.inr (8, [.ref (loc (301)), .int (nI (σ.2 0)), .ref (loc (302)), .ref (loc (303)), .ref (loc (304)), .int (nI (σ.2 1)), .ref (loc (305)), .ref (loc (306)), .ref (loc (307)), .ref (loc (308)), .int (nI (xfault (xbe σ i (6 * k + j) ll) m0)), .int (xplace (xbe σ i (6 * k + j) ll) m0), .int (xmo σ i (6 * k + j) ll), .int (nI (xcnt (xbe σ i (6 * k + j) ll) 0 9)), .int (nI (σ.2 5)), .ref (loc (309)), .ref (loc (310)), .int (v0 4), .int (nI (σ.2 2)), .ref (loc (311)), .int (nI (σ.2 3)), .ref (loc (312)), .ref (loc (313)), .int (σ.1 10 0), .int (σ.1 10 1), .int (nI (σ.2 4)), .ref (loc (314))]))) (306) = some (eI cy 72 (σ.1 4)) := xup_o (xup_o (xup_o (f4) (by omega)) (by omega)) (by omega)
                    have f57 : (xup (xup (xup w (307) (eI cy 9 (g2))) (308) (eI cy 9 (b2))) (300) (.inr (8, [.ref (loc (301)), .int (nI (σ.2 0)), .ref (loc (302)), .ref (loc (303)), .ref (loc (304)), .int (nI (σ.2 1)), .ref (loc (305)), .ref (loc (306)), .ref (loc (307)), .ref (loc (308)), .int (nI (xfault (xbe σ i (6 * k + j) ll) m0)), .int (xplace (xbe σ i (6 * k + j) ll) m0), .int (xmo σ i (6 * k + j) ll), .int (nI (xcnt (xbe σ i (6 * k + j) ll) 0 9)), .int (nI (σ.2 5)), .ref (loc (309)), .ref (loc (310)), .int (v0 4), .int (nI (σ.2 2)), .ref (loc (311)), .int (nI (σ.2 3)), .ref (loc (312)), .ref (loc (313)), .int (σ.1 10 0), .int (σ.1 10 1), .int (nI (σ.2 4)), .ref (loc (314))]))) (307) = some (eI cy 9 (g2)) := xup_o (xup_o (xup_at _ _ _) (by omega)) (by omega)
                    have f58 : (xup (xup (xup w (307) (eI cy 9 (g2))) (308) (eI cy 9 (b2))) (300) (.inr (8, [.ref (loc (301)), .int (nI (σ.2 0)), .ref (loc (302)), .ref (loc (303)), .ref (loc (304)), .int (nI (σ.2 1)), .ref (loc (305)), .ref (loc (306)), .ref (loc (307)), .ref (loc (308)), .int (nI (xfault (xbe σ i (6 * k + j) ll) m0)), .int (xplace (xbe σ i (6 * k + j) ll) m0), .int (xmo σ i (6 * k + j) ll), .int (nI (xcnt (xbe σ i (6 * k + j) ll) 0 9)), .int (nI (σ.2 5)), .ref (loc (309)), .ref (loc (310)), .int (v0 4), .int (nI (σ.2 2)), .ref (loc (311)), .int (nI (σ.2 3)), .ref (loc (312)), .ref (loc (313)), .int (σ.1 10 0), .int (σ.1 10 1), .int (nI (σ.2 4)), .ref (loc (314))]))) (308) = some (eI cy 9 (b2)) := xup_o (xup_at _ _ _) (by omega)
                    refine lv_aload_n hx hb dX8_best_82 rfl (lv_at hl 4 rfl) ?_
                    refine x_get (C := RX8) (T := TX8) (N := 27) hx hb hts hi_X8_best_X8 hown hK hV52 f53 rfl 10 (by decide) (hts (.fieldLink RX8 107 "SaddleHouseModel" "fault" "I") (List.mem_of_getElem? (i := 2) rfl)) (fun _ h9 => h9) rfl dX8_best_83 ?_
                    refine lv_if_ne (tgt := 114) hx hb dX8_best_86 (by decide) (fun c59 => ?_) (fun c59 => ?_)
                    · have _u := trivial
                      have z_c59 : ¬ xfault (xbe σ i (6 * k + j) ll) m0 = 0 := nI_nz c59
                      refine lv_iinc (v := nI (i + 1)) (lv' := [(8, .int (nI (i + 1))), (7, .int (z)), (6, .int (a)), (5, .int (nI (9 * (6 * k + j)))), (0, .ref (loc (300))), (1, .int (nI (k))), (2, .int (d)), (3, .int (nI (ll))), (4, .int (m0))]) hx hb dX8_best_114 hl (k := 0) rfl (nI_add _ _) (by decide) rfl (fun ls hl => ?_)
                      refine lv_goto (tgt := 62) hx hb dX8_best_117 (by decide) ?_
                      exact ih34 a z (i + 1) g2 b2 (nI (xfault (xbe σ i (6 * k + j) ll) m0)) (xplace (xbe σ i (6 * k + j) ll) m0) (xmo σ i (6 * k + j) ll) (nI (xcnt (xbe σ i (6 * k + j) ll) 0 9)) ls _ _ (by omega) (by omega) (ybs_n1 h2 z_c59) hV52 hS47 (lv_sub hl [0, 1, 2, 3, 4, 5, 6, 7, 8] rfl)
                    · have _u := trivial
                      have z_c59 : xfault (xbe σ i (6 * k + j) ll) m0 = 0 := nI_z2 (Nat.lt_trans (xfault_lt _ _) (by decide)) c59
                      refine lv_iload hx hb dX8_best_89 (lv_at hl 2 rfl) ?_
                      refine lv_iconst (v := -1) hx hb dX8_best_91 (by decide +kernel) ?_
                      refine lv_icmp_eq (tgt := 104) hx hb dX8_best_92 (by decide) (fun c60 => ?_) (fun c60 => ?_)
                      · have _u := trivial
                        refine lv_iload hx hb dX8_best_104 (lv_at hl 0 rfl) ?_
                        refine lv_istore (lv' := [(6, .int (nI (i))), (8, .int (nI (i))), (7, .int (z)), (5, .int (nI (9 * (6 * k + j)))), (0, .ref (loc (300))), (1, .int (nI (k))), (2, .int (d)), (3, .int (nI (ll))), (4, .int (m0))]) hx hb dX8_best_106 hl (by decide) rfl (fun ls hl => ?_)
                        refine lv_aload_n hx hb dX8_best_108 rfl (lv_at hl 4 rfl) ?_
                        refine x_get (C := RX8) (T := TX8) (N := 27) hx hb hts hi_X8_best_X8 hown hK hV52 f53 rfl 12 (by decide) (hts (.fieldLink RX8 113 "SaddleHouseModel" "most" "I") (List.mem_of_getElem? (i := 3) rfl)) (fun _ h9 => h9) rfl dX8_best_109 ?_
                        refine lv_istore (lv' := [(7, .int (xmo σ i (6 * k + j) ll)), (6, .int (nI (i))), (8, .int (nI (i))), (5, .int (nI (9 * (6 * k + j)))), (0, .ref (loc (300))), (1, .int (nI (k))), (2, .int (d)), (3, .int (nI (ll))), (4, .int (m0))]) hx hb dX8_best_112 hl (by decide) rfl (fun ls hl => ?_)
                        refine lv_iinc (v := nI (i + 1)) (lv' := [(8, .int (nI (i + 1))), (7, .int (xmo σ i (6 * k + j) ll)), (6, .int (nI (i))), (5, .int (nI (9 * (6 * k + j)))), (0, .ref (loc (300))), (1, .int (nI (k))), (2, .int (d)), (3, .int (nI (ll))), (4, .int (m0))]) hx hb dX8_best_114 hl (k := 2) rfl (nI_add _ _) (by decide) rfl (fun ls hl => ?_)
                        refine lv_goto (tgt := 62) hx hb dX8_best_117 (by decide) ?_
                        exact ih34 (nI i) (xmo σ i (6 * k + j) ll) (i + 1) g2 b2 (nI (xfault (xbe σ i (6 * k + j) ll) m0)) (xplace (xbe σ i (6 * k + j) ll) m0) (xmo σ i (6 * k + j) ll) (nI (xcnt (xbe σ i (6 * k + j) ll) 0 9)) ls _ _ (by omega) (by omega) (ybs_y1 h2 z_c59 c60 (xmo_lt hB _ _ h_ll') (by omega)) hV52 hS47 (lv_sub hl [0, 1, 2, 3, 4, 5, 6, 7, 8] rfl)
                      · have _u := trivial
                        refine lv_aload_n hx hb dX8_best_95 rfl (lv_at hl 4 rfl) ?_
                        refine x_get (C := RX8) (T := TX8) (N := 27) hx hb hts hi_X8_best_X8 hown hK hV52 f53 rfl 12 (by decide) (hts (.fieldLink RX8 113 "SaddleHouseModel" "most" "I") (List.mem_of_getElem? (i := 3) rfl)) (fun _ h9 => h9) rfl dX8_best_96 ?_
                        refine lv_iload hx hb dX8_best_99 (lv_at hl 1 rfl) ?_
                        refine lv_icmp_ge (tgt := 114) hx hb dX8_best_101 (by decide) (fun c61 => ?_) (fun c61 => ?_)
                        · have _u := trivial
                          refine lv_iinc (v := nI (i + 1)) (lv' := [(8, .int (nI (i + 1))), (7, .int (z)), (6, .int (a)), (5, .int (nI (9 * (6 * k + j)))), (0, .ref (loc (300))), (1, .int (nI (k))), (2, .int (d)), (3, .int (nI (ll))), (4, .int (m0))]) hx hb dX8_best_114 hl (k := 0) rfl (nI_add _ _) (by decide) rfl (fun ls hl => ?_)
                          refine lv_goto (tgt := 62) hx hb dX8_best_117 (by decide) ?_
                          exact ih34 a z (i + 1) g2 b2 (nI (xfault (xbe σ i (6 * k + j) ll) m0)) (xplace (xbe σ i (6 * k + j) ll) m0) (xmo σ i (6 * k + j) ll) (nI (xcnt (xbe σ i (6 * k + j) ll) 0 9)) ls _ _ (by omega) (by omega) (ybs_n2 h2 c60 c61) hV52 hS47 (lv_sub hl [0, 1, 2, 3, 4, 5, 6, 7, 8] rfl)
                        · have _u := trivial
                          refine lv_iload hx hb dX8_best_104 (lv_at hl 0 rfl) ?_
                          refine lv_istore (lv' := [(6, .int (nI (i))), (8, .int (nI (i))), (7, .int (z)), (5, .int (nI (9 * (6 * k + j)))), (0, .ref (loc (300))), (1, .int (nI (k))), (2, .int (d)), (3, .int (nI (ll))), (4, .int (m0))]) hx hb dX8_best_106 hl (by decide) rfl (fun ls hl => ?_)
                          refine lv_aload_n hx hb dX8_best_108 rfl (lv_at hl 4 rfl) ?_
                          refine x_get (C := RX8) (T := TX8) (N := 27) hx hb hts hi_X8_best_X8 hown hK hV52 f53 rfl 12 (by decide) (hts (.fieldLink RX8 113 "SaddleHouseModel" "most" "I") (List.mem_of_getElem? (i := 3) rfl)) (fun _ h9 => h9) rfl dX8_best_109 ?_
                          refine lv_istore (lv' := [(7, .int (xmo σ i (6 * k + j) ll)), (6, .int (nI (i))), (8, .int (nI (i))), (5, .int (nI (9 * (6 * k + j)))), (0, .ref (loc (300))), (1, .int (nI (k))), (2, .int (d)), (3, .int (nI (ll))), (4, .int (m0))]) hx hb dX8_best_112 hl (by decide) rfl (fun ls hl => ?_)
                          refine lv_iinc (v := nI (i + 1)) (lv' := [(8, .int (nI (i + 1))), (7, .int (xmo σ i (6 * k + j) ll)), (6, .int (nI (i))), (5, .int (nI (9 * (6 * k + j)))), (0, .ref (loc (300))), (1, .int (nI (k))), (2, .int (d)), (3, .int (nI (ll))), (4, .int (m0))]) hx hb dX8_best_114 hl (k := 2) rfl (nI_add _ _) (by decide) rfl (fun ls hl => ?_)
                          refine lv_goto (tgt := 62) hx hb dX8_best_117 (by decide) ?_
                          exact ih34 (nI i) (xmo σ i (6 * k + j) ll) (i + 1) g2 b2 (nI (xfault (xbe σ i (6 * k + j) ll) m0)) (xplace (xbe σ i (6 * k + j) ll) m0) (xmo σ i (6 * k + j) ll) (nI (xcnt (xbe σ i (6 * k + j) ll) 0 9)) ls _ _ (by omega) (by omega) (ybs_y2 h2 z_c59 c60 c61 (by omega)) hV52 hS47 (lv_sub hl [0, 1, 2, 3, 4, 5, 6, 7, 8] rfl)
              exact lp62_27 ((σ.2 1) + 1) (-1) (nI 0) 0 g0 b0 (v0 0) (v0 1) (v0 2) (v0 3) ls _ _ (by omega) (Nat.zero_le _) ybs_0 (((hV.eq (xup_id f5).symm).eq (xup_id (xup_o f6 (by omega))).symm).eq (xup_id (xup_o (xup_o f1 (by omega)) (by omega))).symm) hS (lv_sub hl [0, 1, 2, 3, 4, 5, 6, 7, 8] rfl)
            · have _u := trivial
              exact absurd c26 (nI_m1 (by omega))
          · refine x_top (congrArg Value.int ((show r23 = _ from hr24).trans ea25)) ?_
            refine lv_istore (lv' := [(5, .int ((-1))), (0, .ref (loc (300))), (1, .int (nI (k))), (2, .int (d)), (3, .int (nI (ll))), (4, .int (m0))]) hx hb dX8_best_42 hl (by decide) rfl (fun ls hl => ?_)
            refine lv_iload hx hb dX8_best_44 (lv_at hl 0 rfl) ?_
            refine lv_iconst (v := -1) hx hb dX8_best_46 (by decide +kernel) ?_
            refine lv_icmp_ne (tgt := 53) hx hb dX8_best_47 (by decide) (fun c62 => ?_) (fun c62 => ?_)
            · have _u := trivial
              exact absurd rfl c62
            · have _u := trivial
              refine lv_bipush (v := -103) hx hb dX8_best_50 (by decide +kernel) ?_
              exact x_rmi hx hb hr hlocks dX8_best_52 hV hS (⟨by show _ = _; simp only [sp_best, c10, k_k, c14, c18, k_ll, c22, q_j, c62, if_true, if_false, ite_true, ite_false, not_true_eq_false, not_false_eq_true, and_true, true_and, and_false, false_and, or_true, true_or, or_false, false_or, and_self, or_self, Nat.add_sub_cancel, Nat.add_eq_zero_iff, Nat.one_ne_zero, eq_self, Nat.not_lt], yOK_id hRR⟩)
        · have _u := trivial
          refine lv_bipush (v := -102) hx hb dX8_best_33 (by decide +kernel) ?_
          exact x_rmi hx hb hr hlocks dX8_best_35 hV hS (⟨by show _ = _; simp only [sp_best, c10, k_k, c14, c18, k_ll, c22, if_true, if_false, ite_true, ite_false, not_true_eq_false, not_false_eq_true, and_true, true_and, and_false, false_and, or_true, true_or, or_false, false_or, and_self, or_self, Nat.add_sub_cancel, Nat.add_eq_zero_iff, Nat.one_ne_zero, eq_self, Nat.not_lt], yOK_id hRR⟩)
  · have _u := trivial
    refine lv_bipush (v := -101) hx hb dX8_best_8 (by decide +kernel) ?_
    exact x_rmi hx hb hr hlocks dX8_best_10 hV hS (⟨by show _ = _; simp only [sp_best, c10, if_true, if_false, ite_true, ite_false, not_true_eq_false, not_false_eq_true, and_true, true_and, and_false, false_and, or_true, true_or, or_false, false_or, and_self, or_self, Nat.add_sub_cancel, Nat.add_eq_zero_iff, Nat.one_ne_zero, eq_self, Nat.not_lt], yOK_id hRR⟩)
