abbrev rm_X8_measure : Room := { frames := 2, cells := 0, slots := 0, locals := 46 }
theorem hi_X8_measure_X8 : ∀ w ∈ wsX80, w ∈ wsX8_measure := fun w h => List.mem_cons_of_mem _ (List.mem_append_right _ h)
set_option maxHeartbeats 4000000 in
set_option maxRecDepth 100000 in
theorem c_X8_measure (l : Launch) (D : va_G) (cy : Nat → ClassId) (loc : Nat → Nat) (w : xM) (sz : Nat) (σ : xS) (hN : xN8 σ) (hR : yR cy loc σ w) (n d : Int32)   : Met l yX8_measure wsX8_measure rm_X8_measure (va_Pc [.ref (loc (300)), .int (n), .int (d)] (xP D cy loc w sz)) (va_Qi (fun r u => r = (sp_measure σ n d).1 ∧ yOK cy loc w (sp_measure σ n d).2 u) (xB D (xA loc w sz)) (xA loc w sz)) 0 0 (xA loc w sz) := by
  refine x_met (cc := cX8_measure) (maxL := 8) (ret := (some .int)) (C := RX8) (by decide) rfl rfl (Nat.le_of_ble_eq_true rfl) ?_
  intro p e s m below meth c ls hx hb hml hr hts hown hlocks hin hP hl
  obtain ⟨hsz, hV, hK⟩ := hP
  subst hsz
  have hA : ∀ q : Nat, s.heap.size ≤ q → xA loc w s.heap.size q := fun q h => Or.inr h
  have hS : va_S (xA loc w s.heap.size) s.heap s.heap [] := va_S.rf
  have hl : lv_has ls 8 [(0, .ref (loc (300))), (1, .int (n)), (2, .int (d))] := hl
  have hNN := hN
  have hRR := hR
  obtain ⟨g0, b0, q0, v0, hw⟩ := hR
  obtain ⟨hN0, hN1, hN2, hN3, hN4, hN5, hN6⟩ := hN
  have f1 : w (300) = some (.inr (8, [.ref (loc (301)), .int (nI (σ.2 0)), .ref (loc (302)), .ref (loc (303)), .ref (loc (304)), .int (nI (σ.2 1)), .ref (loc (305)), .ref (loc (306)), .ref (loc (307)), .ref (loc (308)), .int (v0 0), .int (v0 1), .int (v0 2), .int (v0 3), .int (nI (σ.2 5)), .ref (loc (309)), .ref (loc (310)), .int (v0 4), .int (nI (σ.2 2)), .ref (loc (311)), .int (nI (σ.2 3)), .ref (loc (312)), .ref (loc (313)), .int (σ.1 10 0), .int (σ.1 10 1), .int (nI (σ.2 4)), .ref (loc (314))])) := (hw 0 (by decide)).trans rfl
  have f2 : w (301) = some (eI cy 9 (σ.1 0)) := (hw 1 (by decide)).trans rfl
  have f3 : w (302) = some (eI cy 8 (fun k => nI (σ.2 (10 + k)))) := (hw 2 (by decide)).trans rfl
  have f4 : w (303) = some (eI cy 48 (σ.1 1)) := (hw 3 (by decide)).trans rfl
  have f5 : w (304) = some (eI cy 432 (σ.1 2)) := (hw 4 (by decide)).trans rfl
  refine lv_aload_n hx hb dX8_measure_0 rfl (lv_at hl 0 rfl) ?_
  refine lv_iload_n hx hb dX8_measure_1 rfl (lv_at hl 1 rfl) ?_
  refine x_ci (va_runV (As := [.int (n)]) (rest := []) ⟨hx, hb, hml, hown, hts⟩ (c_X8_isHorse l D cy loc w s.heap.size σ hNN hRR n) (cwV 1 hts gX8_measure_X8_isHorse rfl rfl rfl (by decide +kernel) ⟨Nat.le_of_ble_eq_true rfl, Nat.le_of_ble_eq_true rfl⟩) (x_preV hK hV f1 rfl) rfl rfl hl.1 rfl (lv_room (Nat.le_of_ble_eq_true rfl)) dX8_measure_2 ⟨Nat.le_of_ble_eq_true rfl, Nat.le_of_ble_eq_true rfl⟩) (fun r6 hr7 => ?_)
  have ez8 : xb (nI 0 ≤ n ∧ n < nI (σ.2 0)) = r6 := Eq.symm (show r6 = xb (nI 0 ≤ n ∧ n < nI (σ.2 0)) from hr7)
  subst ez8
  refine x_bne (tgt := 11) hx hb dX8_measure_5 (by decide) (fun c9 => ?_) (fun c9 => ?_)
  · have _u := trivial
    obtain ⟨k, h_k, e_k⟩ := x_ix2 (show σ.2 0 < 2 ^ 31 by omega) c9
    subst e_k
    have k_k : (nI k).toNatClampNeg = k := nI_clamp (by omega)
    have h6k := hN6 k
    refine lv_iload_n hx hb dX8_measure_11 rfl (lv_at hl 2 rfl) ?_
    refine x_ci (va_runS (As := [.int (d)]) (rest := []) ⟨hx, hb, hml, hown, hts⟩ (c_X8_isDay l D cy loc w s.heap.size d) (cwS 1 hts gX8_measure_X8_isDay rfl rfl rfl (by decide +kernel) ⟨Nat.le_of_ble_eq_true rfl, Nat.le_of_ble_eq_true rfl⟩) (x_preS hK hV) rfl rfl hl.1 rfl (lv_room (Nat.le_of_ble_eq_true rfl)) dX8_measure_12 ⟨Nat.le_of_ble_eq_true rfl, Nat.le_of_ble_eq_true rfl⟩) (fun r10 hr11 => ?_)
    have ez12 : xb (nI 0 ≤ d ∧ d ≤ nI 10000) = r10 := Eq.symm (show r10 = xb (nI 0 ≤ d ∧ d ≤ nI 10000) from hr11)
    subst ez12
    refine x_beq (tgt := 39) hx hb dX8_measure_15 (by decide) (fun c13 => ?_) (fun c13 => ?_)
    · have _u := trivial
      refine lv_bipush (v := -102) hx hb dX8_measure_39 (by decide +kernel) ?_
      exact x_rmi hx hb hr hlocks dX8_measure_41 hV hS (y_lf (by simp only [sp_measure, c9, k_k, c13, if_true, if_false, ite_true, ite_false, not_true_eq_false, not_false_eq_true, and_true, true_and, and_false, false_and, or_true, true_or, or_false, false_or, and_self, or_self, Nat.add_sub_cancel, Nat.add_eq_zero_iff, Nat.one_ne_zero, eq_self, Nat.not_lt]) (yOK_id hRR))
    · have _u := trivial
      refine lv_aload_n hx hb dX8_measure_18 rfl (lv_at hl 0 rfl) ?_
      refine x_get (C := RX8) (T := TX8) (N := 27) hx hb hts hi_X8_measure_X8 hown hK hV f1 rfl 0 (by decide) (hts (.fieldLink RX8 7 "SaddleHouseModel" "hand" "[I") (List.mem_of_getElem? (i := 1) rfl)) (fun _ h9 => h9) rfl dX8_measure_19 ?_
      refine lv_iconst (v := nI 0) hx hb dX8_measure_22 (by decide +kernel) ?_
      refine x_iald hx hb hK hV f2 (0) (by omega) (by decide) dX8_measure_23 ?_
      refine lv_iconst (v := -1) hx hb dX8_measure_24 (by decide +kernel) ?_
      refine lv_icmp_eq (tgt := 39) hx hb dX8_measure_25 (by decide) (fun c14 => ?_) (fun c14 => ?_)
      · have _u := trivial
        refine lv_bipush (v := -102) hx hb dX8_measure_39 (by decide +kernel) ?_
        exact x_rmi hx hb hr hlocks dX8_measure_41 hV hS (y_lf (by simp only [sp_measure, c9, k_k, c13, c14, if_true, if_false, ite_true, ite_false, not_true_eq_false, not_false_eq_true, and_true, true_and, and_false, false_and, or_true, true_or, or_false, false_or, and_self, or_self, Nat.add_sub_cancel, Nat.add_eq_zero_iff, Nat.one_ne_zero, eq_self, Nat.not_lt]) (yOK_id hRR))
      · have _u := trivial
        have g0n : ¬ σ.1 0 0 = -1 := c14
        refine lv_aload_n hx hb dX8_measure_28 rfl (lv_at hl 0 rfl) ?_
        refine x_get (C := RX8) (T := TX8) (N := 27) hx hb hts hi_X8_measure_X8 hown hK hV f1 rfl 0 (by decide) (hts (.fieldLink RX8 7 "SaddleHouseModel" "hand" "[I") (List.mem_of_getElem? (i := 1) rfl)) (fun _ h9 => h9) rfl dX8_measure_29 ?_
        refine lv_bipush (v := nI 8) hx hb dX8_measure_32 (by decide +kernel) ?_
        refine x_iald hx hb hK hV f2 (8) (by omega) (by decide) dX8_measure_34 ?_
        refine lv_iconst (v := -1) hx hb dX8_measure_35 (by decide +kernel) ?_
        refine lv_icmp_ne (tgt := 42) hx hb dX8_measure_36 (by decide) (fun c15 => ?_) (fun c15 => ?_)
        · have _u := trivial
          have g8n : ¬ σ.1 0 8 = -1 := c15
          refine lv_aload_n hx hb dX8_measure_42 rfl (lv_at hl 0 rfl) ?_
          refine x_get (C := RX8) (T := TX8) (N := 27) hx hb hts hi_X8_measure_X8 hown hK hV f1 rfl 2 (by decide) (hts (.fieldLink RX8 13 "SaddleHouseModel" "measures" "[I") (List.mem_of_getElem? (i := 2) rfl)) (fun _ h9 => h9) rfl dX8_measure_43 ?_
          refine lv_iload_n hx hb dX8_measure_46 rfl (lv_at hl 1 rfl) ?_
          refine x_iald hx hb hK hV f3 (k) (by omega) (by decide) dX8_measure_47 ?_
          refine x_top (congrArg Value.int (show _ = nI (σ.2 (10 + k)) from rfl)) ?_
          refine lv_istore_n (lv' := [(3, .int (nI (σ.2 (10 + k)))), (0, .ref (loc (300))), (1, .int (nI (k))), (2, .int (d))]) hx hb dX8_measure_48 rfl hl (by decide) rfl (fun ls hl => ?_)
          refine lv_iload_n hx hb dX8_measure_49 rfl (lv_at hl 0 rfl) ?_
          refine lv_if_le (tgt := 73) hx hb dX8_measure_50 (by decide) (fun c16 => ?_) (fun c16 => ?_)
          · have _u := trivial
            have yms : (σ.2 (10 + k) = 0 ∨ σ.1 1 (6 * k + (σ.2 (10 + k) - 1)) < d) = True := eq_true (Or.inl (nI_le0 (by omega) c16))
            refine lv_iload_n hx hb dX8_measure_73 rfl (lv_at hl 0 rfl) ?_
            refine lv_bipush (v := nI 6) hx hb dX8_measure_74 (by decide +kernel) ?_
            refine x_cne hx hb (σ.2 (10 + k)) (6) (by omega) (by omega) (tgt := 82) dX8_measure_76 (by decide) (fun c17 => ?_) (fun c17 => ?_)
            · have _u := trivial
              have ymx : (σ.2 (10 + k) < 6) = True := eq_true (by omega)
              refine lv_bipush (v := nI 9) hx hb dX8_measure_82 (by decide +kernel) ?_
              refine lv_bipush (v := nI 6) hx hb dX8_measure_84 (by decide +kernel) ?_
              refine lv_iload_n hx hb dX8_measure_86 rfl (lv_at hl 2 rfl) ?_
              refine x_imul hx hb (6) (k) dX8_measure_87 ?_
              refine lv_iload_n hx hb dX8_measure_88 rfl (lv_at hl 0 rfl) ?_
              refine x_iadd hx hb (6 * k) (σ.2 (10 + k)) dX8_measure_89 ?_
              refine x_imul hx hb (9) ((6 * k) + (σ.2 (10 + k))) dX8_measure_90 ?_
              refine lv_istore (lv' := [(4, .int (nI (9 * ((6 * k) + (σ.2 (10 + k)))))), (3, .int (nI (σ.2 (10 + k)))), (0, .ref (loc (300))), (1, .int (nI (k))), (2, .int (d))]) hx hb dX8_measure_91 hl (by decide) rfl (fun ls hl => ?_)
              refine lv_iconst (v := nI 0) hx hb dX8_measure_93 (by decide +kernel) ?_
              refine lv_istore (lv' := [(5, .int (nI (0))), (4, .int (nI (9 * ((6 * k) + (σ.2 (10 + k)))))), (3, .int (nI (σ.2 (10 + k)))), (0, .ref (loc (300))), (1, .int (nI (k))), (2, .int (d))]) hx hb dX8_measure_94 hl (by decide) rfl (fun ls hl => ?_)
              have lp96_18 : ∀ (fuel23 : Nat) (i : Nat) (fz : Nat → Int32) (ls : Array Slot) (H19 : Heap) (L20 : List Loc), 9 - i < fuel23 → (i ≤ 9) → (fz = xfl (σ.1 2) (9 * (6 * k + σ.2 (10 + k))) i (xhv (σ.1 0))) → xV D (xA loc w s.heap.size) loc ((xup w (304) (eI cy 432 (fz)))) H19 → va_S (xA loc w s.heap.size) s.heap H19 L20 → lv_has ls 8 [(5, .int (nI (i))), (4, .int (nI (9 * ((6 * k) + (σ.2 (10 + k)))))), (3, .int (nI (σ.2 (10 + k)))), (0, .ref (loc (300))), (1, .int (nI (k))), (2, .int (d))] → W p l e rm_X8_measure s m ([.ref (loc (300)), .int ((nI k)), .int (d)] : List Value).toArray below meth c H19 L20 0 0 (MQ below (va_Qi (fun r u => r = (sp_measure σ (nI k) d).1 ∧ yOK cy loc w (sp_measure σ (nI k) d).2 u) (xB D (xA loc w s.heap.size)) (xA loc w s.heap.size)) ([.ref (loc (300)), .int ((nI k)), .int (d)] : List Value).toArray s 0 0 (xA loc w s.heap.size)) (F0 m 96 ls []) := by
                intro fuel23
                induction fuel23 with
                | zero => intro i fz ls H19 L20 hm24; exact absurd hm24 (Nat.not_lt_zero _)
                | succ fuel23 ih25 =>
                  intro i fz ls H19 L20 hm24 h3 h4 hV21 hS22 hl
                  have f26 : (xup w (304) (eI cy 432 (fz))) (300) = some (.inr (8, [.ref (loc (301)), .int (nI (σ.2 0)), .ref (loc (302)), .ref (loc (303)), .ref (loc (304)), .int (nI (σ.2 1)), .ref (loc (305)), .ref (loc (306)), .ref (loc (307)), .ref (loc (308)), .int (v0 0), .int (v0 1), .int (v0 2), .int (v0 3), .int (nI (σ.2 5)), .ref (loc (309)), .ref (loc (310)), .int (v0 4), .int (nI (σ.2 2)), .ref (loc (311)), .int (nI (σ.2 3)), .ref (loc (312)), .ref (loc (313)), .int (σ.1 10 0), .int (σ.1 10 1), .int (nI (σ.2 4)), .ref (loc (314))])) := xup_o (f1) (by omega)
                  have f27 : (xup w (304) (eI cy 432 (fz))) (301) = some (eI cy 9 (σ.1 0)) := xup_o (f2) (by omega)
                  have f28 : (xup w (304) (eI cy 432 (fz))) (302) = some (eI cy 8 (fun k => nI (σ.2 (10 + k)))) := xup_o (f3) (by omega)
                  have f29 : (xup w (304) (eI cy 432 (fz))) (303) = some (eI cy 48 (σ.1 1)) := xup_o (f4) (by omega)
                  have f30 : (xup w (304) (eI cy 432 (fz))) (304) = some (eI cy 432 (fz)) := xup_at _ _ _
                  refine lv_iload hx hb dX8_measure_96 (lv_at hl 0 rfl) ?_
                  refine lv_bipush (v := nI 9) hx hb dX8_measure_98 (by decide +kernel) ?_
                  refine x_cge hx hb (i) (9) (by omega) (by omega) (tgt := 215) dX8_measure_100 (by decide) (fun c31 => ?_) (fun c31 => ?_)
                  · have _u := trivial
                    have h5 : fz = xfl (σ.1 2) (9 * (6 * k + σ.2 (10 + k))) 9 (xhv (σ.1 0)) := by rw [h4, show i = 9 by omega]
                    refine lv_aload_n hx hb dX8_measure_215 rfl (lv_at hl 3 rfl) ?_
                    refine x_get (C := RX8) (T := TX8) (N := 27) hx hb hts hi_X8_measure_X8 hown hK hV21 f26 rfl 3 (by decide) (hts (.fieldLink RX8 16 "SaddleHouseModel" "dayOf" "[I") (List.mem_of_getElem? (i := 3) rfl)) (fun _ h9 => h9) rfl dX8_measure_216 ?_
                    refine lv_bipush (v := nI 6) hx hb dX8_measure_219 (by decide +kernel) ?_
                    refine lv_iload_n hx hb dX8_measure_221 rfl (lv_at hl 4 rfl) ?_
                    refine x_imul hx hb (6) (k) dX8_measure_222 ?_
                    refine lv_iload_n hx hb dX8_measure_223 rfl (lv_at hl 2 rfl) ?_
                    refine x_iadd hx hb (6 * k) (σ.2 (10 + k)) dX8_measure_224 ?_
                    refine lv_iload_n hx hb dX8_measure_225 rfl (lv_at hl 5 rfl) ?_
                    refine x_iast hx hb hK hV21 hS22 f29 ((6 * k) + (σ.2 (10 + k))) (by omega) (by decide) dX8_measure_226 (fun H32 L33 hV34 hS35 => ?_)
                    have f36 : (xup (xup w (304) (eI cy 432 (fz))) (303) (eI cy 48 (upd (σ.1 1) ((6 * k) + (σ.2 (10 + k))) d))) (300) = some (.inr (8, [.ref (loc (301)), .int (nI (σ.2 0)), .ref (loc (302)), .ref (loc (303)), .ref (loc (304)), .int (nI (σ.2 1)), .ref (loc (305)), .ref (loc (306)), .ref (loc (307)), .ref (loc (308)), .int (v0 0), .int (v0 1), .int (v0 2), .int (v0 3), .int (nI (σ.2 5)), .ref (loc (309)), .ref (loc (310)), .int (v0 4), .int (nI (σ.2 2)), .ref (loc (311)), .int (nI (σ.2 3)), .ref (loc (312)), .ref (loc (313)), .int (σ.1 10 0), .int (σ.1 10 1), .int (nI (σ.2 4)), .ref (loc (314))])) := xup_o (xup_o (f1) (by omega)) (by omega)
                    have f37 : (xup (xup w (304) (eI cy 432 (fz))) (303) (eI cy 48 (upd (σ.1 1) ((6 * k) + (σ.2 (10 + k))) d))) (301) = some (eI cy 9 (σ.1 0)) := xup_o (xup_o (f2) (by omega)) (by omega)
                    have f38 : (xup (xup w (304) (eI cy 432 (fz))) (303) (eI cy 48 (upd (σ.1 1) ((6 * k) + (σ.2 (10 + k))) d))) (302) = some (eI cy 8 (fun k => nI (σ.2 (10 + k)))) := xup_o (xup_o (f3) (by omega)) (by omega)
                    have f39 : (xup (xup w (304) (eI cy 432 (fz))) (303) (eI cy 48 (upd (σ.1 1) ((6 * k) + (σ.2 (10 + k))) d))) (303) = some (eI cy 48 (upd (σ.1 1) ((6 * k) + (σ.2 (10 + k))) d)) := xup_at _ _ _
                    have f40 : (xup (xup w (304) (eI cy 432 (fz))) (303) (eI cy 48 (upd (σ.1 1) ((6 * k) + (σ.2 (10 + k))) d))) (304) = some (eI cy 432 (fz)) := xup_o (xup_at _ _ _) (by omega)
                    refine lv_aload_n hx hb dX8_measure_227 rfl (lv_at hl 3 rfl) ?_
                    refine x_get (C := RX8) (T := TX8) (N := 27) hx hb hts hi_X8_measure_X8 hown hK hV34 f36 rfl 2 (by decide) (hts (.fieldLink RX8 13 "SaddleHouseModel" "measures" "[I") (List.mem_of_getElem? (i := 2) rfl)) (fun _ h9 => h9) rfl dX8_measure_228 ?_
                    refine lv_iload_n hx hb dX8_measure_231 rfl (lv_at hl 4 rfl) ?_
                    refine lv_dup2_11 hx hb dX8_measure_232 rfl rfl ?_
                    refine x_iald hx hb hK hV34 f38 (k) (by omega) (by decide) dX8_measure_233 ?_
                    refine x_top (congrArg Value.int (show _ = nI (σ.2 (10 + k)) from rfl)) ?_
                    refine lv_iconst (v := nI 1) hx hb dX8_measure_234 (by decide +kernel) ?_
                    refine x_iadd hx hb (σ.2 (10 + k)) (1) dX8_measure_235 ?_
                    refine x_iast hx hb hK hV34 hS35 f38 (k) (by omega) (by decide) dX8_measure_236 (fun H41 L42 hV43 hS44 => ?_)
                    have f45 : (xup (xup (xup w (304) (eI cy 432 (fz))) (303) (eI cy 48 (upd (σ.1 1) ((6 * k) + (σ.2 (10 + k))) d))) (302) (eI cy 8 (upd (fun k => nI (σ.2 (10 + k))) k (nI ((σ.2 (10 + k)) + 1))))) (300) = some (.inr (8, [.ref (loc (301)), .int (nI (σ.2 0)), .ref (loc (302)), .ref (loc (303)), .ref (loc (304)), .int (nI (σ.2 1)), .ref (loc (305)), .ref (loc (306)), .ref (loc (307)), .ref (loc (308)), .int (v0 0), .int (v0 1), .int (v0 2), .int (v0 3), .int (nI (σ.2 5)), .ref (loc (309)), .ref (loc (310)), .int (v0 4), .int (nI (σ.2 2)), .ref (loc (311)), .int (nI (σ.2 3)), .ref (loc (312)), .ref (loc (313)), .int (σ.1 10 0), .int (σ.1 10 1), .int (nI (σ.2 4)), .ref (loc (314))])) := xup_o (xup_o (xup_o (f1) (by omega)) (by omega)) (by omega)
                    have f46 : (xup (xup (xup w (304) (eI cy 432 (fz))) (303) (eI cy 48 (upd (σ.1 1) ((6 * k) + (σ.2 (10 + k))) d))) (302) (eI cy 8 (upd (fun k => nI (σ.2 (10 + k))) k (nI ((σ.2 (10 + k)) + 1))))) (301) = some (eI cy 9 (σ.1 0)) := xup_o (xup_o (xup_o (f2) (by omega)) (by omega)) (by omega)
                    have f47 : (xup (xup (xup w (304) (eI cy 432 (fz))) (303) (eI cy 48 (upd (σ.1 1) ((6 * k) + (σ.2 (10 + k))) d))) (302) (eI cy 8 (upd (fun k => nI (σ.2 (10 + k))) k (nI ((σ.2 (10 + k)) + 1))))) (302) = some (eI cy 8 (upd (fun k => nI (σ.2 (10 + k))) k (nI ((σ.2 (10 + k)) + 1)))) := xup_at _ _ _
                    have f48 : (xup (xup (xup w (304) (eI cy 432 (fz))) (303) (eI cy 48 (upd (σ.1 1) ((6 * k) + (σ.2 (10 + k))) d))) (302) (eI cy 8 (upd (fun k => nI (σ.2 (10 + k))) k (nI ((σ.2 (10 + k)) + 1))))) (303) = some (eI cy 48 (upd (σ.1 1) ((6 * k) + (σ.2 (10 + k))) d)) := xup_o (xup_at _ _ _) (by omega)
                    have f49 : (xup (xup (xup w (304) (eI cy 432 (fz))) (303) (eI cy 48 (upd (σ.1 1) ((6 * k) + (σ.2 (10 + k))) d))) (302) (eI cy 8 (upd (fun k => nI (σ.2 (10 + k))) k (nI ((σ.2 (10 + k)) + 1))))) (304) = some (eI cy 432 (fz)) := xup_o (xup_o (xup_at _ _ _) (by omega)) (by omega)
                    refine lv_iload_n hx hb dX8_measure_237 rfl (lv_at hl 2 rfl) ?_
                    refine lv_iconst (v := nI 1) hx hb dX8_measure_238 (by decide +kernel) ?_
                    refine x_iadd hx hb (σ.2 (10 + k)) (1) dX8_measure_239 ?_
                    exact x_rmi hx hb hr hlocks dX8_measure_240 hV43 hS44 (y_lf (σ' := xms σ k d) (by simp only [sp_measure, c9, k_k, c13, c14, c15, yms, ymx, if_true, if_false, ite_true, ite_false, not_true_eq_false, not_false_eq_true, and_true, true_and, and_false, false_and, or_true, true_or, or_false, false_or, and_self, or_self, Nat.add_sub_cancel, Nat.add_eq_zero_iff, Nat.one_ne_zero, eq_self, Nat.not_lt]) (by rw [h5]; exact yOK_measure hw k d))
                  · have _u := trivial
                    refine lv_iload hx hb dX8_measure_103 (lv_at hl 0 rfl) ?_
                    refine lv_istore (lv' := [(6, .int (nI (i))), (5, .int (nI (i))), (4, .int (nI (9 * ((6 * k) + (σ.2 (10 + k)))))), (3, .int (nI (σ.2 (10 + k)))), (0, .ref (loc (300))), (1, .int (nI (k))), (2, .int (d))]) hx hb dX8_measure_105 hl (by decide) rfl (fun ls hl => ?_)
                    have lp107_50 : ∀ (fuel51 : Nat) (a : Nat) (ls : Array Slot), a < fuel51 → (a ≤ i) → (xah (σ.1 0) i = xah (σ.1 0) a) → lv_has ls 8 [(6, .int (nI (a))), (5, .int (nI (i))), (4, .int (nI (9 * ((6 * k) + (σ.2 (10 + k)))))), (3, .int (nI (σ.2 (10 + k)))), (0, .ref (loc (300))), (1, .int (nI (k))), (2, .int (d))] → W p l e rm_X8_measure s m ([.ref (loc (300)), .int ((nI k)), .int (d)] : List Value).toArray below meth c H19 L20 0 0 (MQ below (va_Qi (fun r u => r = (sp_measure σ (nI k) d).1 ∧ yOK cy loc w (sp_measure σ (nI k) d).2 u) (xB D (xA loc w s.heap.size)) (xA loc w s.heap.size)) ([.ref (loc (300)), .int ((nI k)), .int (d)] : List Value).toArray s 0 0 (xA loc w s.heap.size)) (F0 m 107 ls []) := by
                      intro fuel51
                      induction fuel51 with
                      | zero => intro a ls hm52; exact absurd hm52 (Nat.not_lt_zero _)
                      | succ fuel51 ih53 =>
                        intro a ls hm52 hp1 hp2  hl
                        refine lv_aload_n hx hb dX8_measure_107 rfl (lv_at hl 4 rfl) ?_
                        refine x_get (C := RX8) (T := TX8) (N := 27) hx hb hts hi_X8_measure_X8 hown hK hV21 f26 rfl 0 (by decide) (hts (.fieldLink RX8 7 "SaddleHouseModel" "hand" "[I") (List.mem_of_getElem? (i := 1) rfl)) (fun _ h9 => h9) rfl dX8_measure_108 ?_
                        refine lv_iload hx hb dX8_measure_111 (lv_at hl 0 rfl) ?_
                        refine x_iald hx hb hK hV21 f27 (a) (by omega) (by decide) dX8_measure_113 ?_
                        refine lv_iconst (v := -1) hx hb dX8_measure_114 (by decide +kernel) ?_
                        refine lv_icmp_ne (tgt := 124) hx hb dX8_measure_115 (by decide) (fun c54 => ?_) (fun c54 => ?_)
                        · have _u := trivial
                          have hna : ¬ σ.1 0 a = -1 := c54
                          have hxa : xah (σ.1 0) i = a := hp2.trans (xah_n hna).symm
                          refine lv_iload hx hb dX8_measure_124 (lv_at hl 1 rfl) ?_
                          refine lv_istore (lv' := [(7, .int (nI (i))), (6, .int (nI (a))), (5, .int (nI (i))), (4, .int (nI (9 * ((6 * k) + (σ.2 (10 + k)))))), (3, .int (nI (σ.2 (10 + k)))), (0, .ref (loc (300))), (1, .int (nI (k))), (2, .int (d))]) hx hb dX8_measure_126 hl (by decide) rfl (fun ls hl => ?_)
                          have lp128_55 : ∀ (fuel56 : Nat) (b : Nat) (ls : Array Slot), 9 - b < fuel56 → (i ≤ b) → (b ≤ 8) → (xnx (σ.1 0) i 9 = xnx (σ.1 0) b (9 - (b - i))) → lv_has ls 8 [(7, .int (nI (b))), (6, .int (nI (a))), (5, .int (nI (i))), (4, .int (nI (9 * ((6 * k) + (σ.2 (10 + k)))))), (3, .int (nI (σ.2 (10 + k)))), (0, .ref (loc (300))), (1, .int (nI (k))), (2, .int (d))] → W p l e rm_X8_measure s m ([.ref (loc (300)), .int ((nI k)), .int (d)] : List Value).toArray below meth c H19 L20 0 0 (MQ below (va_Qi (fun r u => r = (sp_measure σ (nI k) d).1 ∧ yOK cy loc w (sp_measure σ (nI k) d).2 u) (xB D (xA loc w s.heap.size)) (xA loc w s.heap.size)) ([.ref (loc (300)), .int ((nI k)), .int (d)] : List Value).toArray s 0 0 (xA loc w s.heap.size)) (F0 m 128 ls []) := by
                            intro fuel56
                            induction fuel56 with
                            | zero => intro b ls hm57; exact absurd hm57 (Nat.not_lt_zero _)
                            | succ fuel56 ih58 =>
                              intro b ls hm57 hq1 hq2 hq3  hl
                              refine lv_aload_n hx hb dX8_measure_128 rfl (lv_at hl 5 rfl) ?_
                              refine x_get (C := RX8) (T := TX8) (N := 27) hx hb hts hi_X8_measure_X8 hown hK hV21 f26 rfl 0 (by decide) (hts (.fieldLink RX8 7 "SaddleHouseModel" "hand" "[I") (List.mem_of_getElem? (i := 1) rfl)) (fun _ h9 => h9) rfl dX8_measure_129 ?_
                              refine lv_iload hx hb dX8_measure_132 (lv_at hl 0 rfl) ?_
                              refine x_iald hx hb hK hV21 f27 (b) (by omega) (by decide) dX8_measure_134 ?_
                              refine lv_iconst (v := -1) hx hb dX8_measure_135 (by decide +kernel) ?_
                              refine lv_icmp_ne (tgt := 145) hx hb dX8_measure_136 (by decide) (fun c59 => ?_) (fun c59 => ?_)
                              · have _u := trivial
                                have hxb : xnx (σ.1 0) i 9 = b := hq3.trans (xnx_h (by omega) c59)
                                refine lv_aload_n hx hb dX8_measure_145 rfl (lv_at hl 5 rfl) ?_
                                refine x_get (C := RX8) (T := TX8) (N := 27) hx hb hts hi_X8_measure_X8 hown hK hV21 f26 rfl 4 (by decide) (hts (.fieldLink RX8 19 "SaddleHouseModel" "heights" "[I") (List.mem_of_getElem? (i := 4) rfl)) (fun _ h9 => h9) rfl dX8_measure_146 ?_
                                refine lv_iload hx hb dX8_measure_149 (lv_at hl 3 rfl) ?_
                                refine lv_iload hx hb dX8_measure_151 (lv_at hl 2 rfl) ?_
                                refine x_iadd hx hb (9 * ((6 * k) + (σ.2 (10 + k)))) (i) dX8_measure_153 ?_
                                refine lv_iload hx hb dX8_measure_154 (lv_at hl 1 rfl) ?_
                                refine lv_iload hx hb dX8_measure_156 (lv_at hl 0 rfl) ?_
                                refine x_cne hx hb (a) (b) (by omega) (by omega) (tgt := 171) dX8_measure_158 (by decide) (fun c60 => ?_) (fun c60 => ?_)
                                · have _u := trivial
                                  refine lv_aload_n hx hb dX8_measure_171 rfl (lv_at hl 5 rfl) ?_
                                  refine x_get (C := RX8) (T := TX8) (N := 27) hx hb hts hi_X8_measure_X8 hown hK hV21 f26 rfl 0 (by decide) (hts (.fieldLink RX8 7 "SaddleHouseModel" "hand" "[I") (List.mem_of_getElem? (i := 1) rfl)) (fun _ h9 => h9) rfl dX8_measure_172 ?_
                                  refine lv_iload hx hb dX8_measure_175 (lv_at hl 1 rfl) ?_
                                  refine x_iald hx hb hK hV21 f27 (a) (by omega) (by decide) dX8_measure_177 ?_
                                  refine lv_aload_n hx hb dX8_measure_178 rfl (lv_at hl 5 rfl) ?_
                                  refine x_get (C := RX8) (T := TX8) (N := 27) hx hb hts hi_X8_measure_X8 hown hK hV21 f26 rfl 0 (by decide) (hts (.fieldLink RX8 7 "SaddleHouseModel" "hand" "[I") (List.mem_of_getElem? (i := 1) rfl)) (fun _ h9 => h9) rfl dX8_measure_179 ?_
                                  refine lv_iload hx hb dX8_measure_182 (lv_at hl 0 rfl) ?_
                                  refine x_iald hx hb hK hV21 f27 (b) (by omega) (by decide) dX8_measure_184 ?_
                                  refine lv_aload_n hx hb dX8_measure_185 rfl (lv_at hl 5 rfl) ?_
                                  refine x_get (C := RX8) (T := TX8) (N := 27) hx hb hts hi_X8_measure_X8 hown hK hV21 f26 rfl 0 (by decide) (hts (.fieldLink RX8 7 "SaddleHouseModel" "hand" "[I") (List.mem_of_getElem? (i := 1) rfl)) (fun _ h9 => h9) rfl dX8_measure_186 ?_
                                  refine lv_iload hx hb dX8_measure_189 (lv_at hl 1 rfl) ?_
                                  refine x_iald hx hb hK hV21 f27 (a) (by omega) (by decide) dX8_measure_191 ?_
                                  refine lv_isub hx hb dX8_measure_192 ?_
                                  refine lv_iload hx hb dX8_measure_193 (lv_at hl 2 rfl) ?_
                                  refine lv_iload hx hb dX8_measure_195 (lv_at hl 1 rfl) ?_
                                  refine x_isub hx hb (i) (a) (by omega) dX8_measure_197 ?_
                                  refine lv_imul hx hb dX8_measure_198 ?_
                                  refine lv_iload hx hb dX8_measure_199 (lv_at hl 0 rfl) ?_
                                  refine lv_iload hx hb dX8_measure_201 (lv_at hl 1 rfl) ?_
                                  refine x_isub hx hb (b) (a) (by omega) dX8_measure_203 ?_
                                  refine x_ci (va_runS (As := [.int ((((σ.1 0) b) - ((σ.1 0) a)) * (nI (i - a))), .int (nI (b - a))]) (rest := [.int ((σ.1 0) a), .int (nI ((9 * ((6 * k) + (σ.2 (10 + k)))) + i)), .ref (loc (304))]) ⟨hx, hb, hml, hown, hts⟩ (c_X8_floor l D cy loc (xup w (304) (eI cy 432 (fz))) H19.size ((σ.1 0 b - σ.1 0 a) * nI (i - a)) (b - a) (by omega) (by omega)) (cwS 2 hts gX8_measure_X8_floor rfl rfl rfl (by decide +kernel) ⟨Nat.le_of_ble_eq_true rfl, Nat.le_of_ble_eq_true rfl⟩) (x_preS hK hV21) rfl rfl hl.1 rfl (lv_room (Nat.le_of_ble_eq_true rfl)) dX8_measure_204 ⟨Nat.le_of_ble_eq_true rfl, Nat.le_of_ble_eq_true rfl⟩) (fun r61 hr62 => ?_)
                                  have ez63 : xfloor ((σ.1 0 b - σ.1 0 a) * nI (i - a)) (nI (b - a)) = r61 := Eq.symm (show r61 = xfloor ((σ.1 0 b - σ.1 0 a) * nI (i - a)) (nI (b - a)) from hr62)
                                  subst ez63
                                  refine lv_iadd hx hb dX8_measure_207 ?_
                                  refine x_iast hx hb hK hV21 hS22 f30 ((9 * ((6 * k) + (σ.2 (10 + k)))) + i) (by omega) (by decide) dX8_measure_208 (fun H64 L65 hV66 hS67 => ?_)
                                  have hV68 := hV66.eq (xup_xup _ _ _ _)
                                  have f69 : (xup w (304) (eI cy 432 (upd fz ((9 * ((6 * k) + (σ.2 (10 + k)))) + i) (((σ.1 0) a) + (xfloor ((σ.1 0 b - σ.1 0 a) * nI (i - a)) (nI (b - a))))))) (300) = some (.inr (8, [.ref (loc (301)), .int (nI (σ.2 0)), .ref (loc (302)), .ref (loc (303)), .ref (loc (304)), .int (nI (σ.2 1)), .ref (loc (305)), .ref (loc (306)), .ref (loc (307)), .ref (loc (308)), .int (v0 0), .int (v0 1), .int (v0 2), .int (v0 3), .int (nI (σ.2 5)), .ref (loc (309)), .ref (loc (310)), .int (v0 4), .int (nI (σ.2 2)), .ref (loc (311)), .int (nI (σ.2 3)), .ref (loc (312)), .ref (loc (313)), .int (σ.1 10 0), .int (σ.1 10 1), .int (nI (σ.2 4)), .ref (loc (314))])) := xup_o (f1) (by omega)
                                  have f70 : (xup w (304) (eI cy 432 (upd fz ((9 * ((6 * k) + (σ.2 (10 + k)))) + i) (((σ.1 0) a) + (xfloor ((σ.1 0 b - σ.1 0 a) * nI (i - a)) (nI (b - a))))))) (301) = some (eI cy 9 (σ.1 0)) := xup_o (f2) (by omega)
                                  have f71 : (xup w (304) (eI cy 432 (upd fz ((9 * ((6 * k) + (σ.2 (10 + k)))) + i) (((σ.1 0) a) + (xfloor ((σ.1 0 b - σ.1 0 a) * nI (i - a)) (nI (b - a))))))) (302) = some (eI cy 8 (fun k => nI (σ.2 (10 + k)))) := xup_o (f3) (by omega)
                                  have f72 : (xup w (304) (eI cy 432 (upd fz ((9 * ((6 * k) + (σ.2 (10 + k)))) + i) (((σ.1 0) a) + (xfloor ((σ.1 0 b - σ.1 0 a) * nI (i - a)) (nI (b - a))))))) (303) = some (eI cy 48 (σ.1 1)) := xup_o (f4) (by omega)
                                  have f73 : (xup w (304) (eI cy 432 (upd fz ((9 * ((6 * k) + (σ.2 (10 + k)))) + i) (((σ.1 0) a) + (xfloor ((σ.1 0 b - σ.1 0 a) * nI (i - a)) (nI (b - a))))))) (304) = some (eI cy 432 (upd fz ((9 * ((6 * k) + (σ.2 (10 + k)))) + i) (((σ.1 0) a) + (xfloor ((σ.1 0 b - σ.1 0 a) * nI (i - a)) (nI (b - a)))))) := xup_at _ _ _
                                  refine lv_iinc (v := nI (i + 1)) (lv' := [(5, .int (nI (i + 1))), (7, .int (nI (b))), (6, .int (nI (a))), (4, .int (nI (9 * ((6 * k) + (σ.2 (10 + k)))))), (3, .int (nI (σ.2 (10 + k)))), (0, .ref (loc (300))), (1, .int (nI (k))), (2, .int (d))]) hx hb dX8_measure_209 hl (k := 2) rfl (nI_add _ _) (by decide) rfl (fun ls hl => ?_)
                                  refine lv_goto (tgt := 96) hx hb dX8_measure_212 (by decide) ?_
                                  exact ih25 (i + 1) (upd fz ((9 * ((6 * k) + (σ.2 (10 + k)))) + i) (((σ.1 0) a) + (xfloor ((σ.1 0 b - σ.1 0 a) * nI (i - a)) (nI (b - a))))) ls _ _ (by omega) (by omega) (yfl_st h4 (yhv_2 hxa hxb (by omega))) hV68 hS67 (lv_sub hl [0, 3, 4, 5, 6, 7] rfl)
                                · have _u := trivial
                                  refine lv_aload_n hx hb dX8_measure_161 rfl (lv_at hl 5 rfl) ?_
                                  refine x_get (C := RX8) (T := TX8) (N := 27) hx hb hts hi_X8_measure_X8 hown hK hV21 f26 rfl 0 (by decide) (hts (.fieldLink RX8 7 "SaddleHouseModel" "hand" "[I") (List.mem_of_getElem? (i := 1) rfl)) (fun _ h9 => h9) rfl dX8_measure_162 ?_
                                  refine lv_iload hx hb dX8_measure_165 (lv_at hl 2 rfl) ?_
                                  refine x_iald hx hb hK hV21 f27 (i) (by omega) (by decide) dX8_measure_167 ?_
                                  refine lv_goto (tgt := 208) hx hb dX8_measure_168 (by decide) ?_
                                  refine x_iast hx hb hK hV21 hS22 f30 ((9 * ((6 * k) + (σ.2 (10 + k)))) + i) (by omega) (by decide) dX8_measure_208 (fun H74 L75 hV76 hS77 => ?_)
                                  have hV78 := hV76.eq (xup_xup _ _ _ _)
                                  have f79 : (xup w (304) (eI cy 432 (upd fz ((9 * ((6 * k) + (σ.2 (10 + k)))) + i) ((σ.1 0) i)))) (300) = some (.inr (8, [.ref (loc (301)), .int (nI (σ.2 0)), .ref (loc (302)), .ref (loc (303)), .ref (loc (304)), .int (nI (σ.2 1)), .ref (loc (305)), .ref (loc (306)), .ref (loc (307)), .ref (loc (308)), .int (v0 0), .int (v0 1), .int (v0 2), .int (v0 3), .int (nI (σ.2 5)), .ref (loc (309)), .ref (loc (310)), .int (v0 4), .int (nI (σ.2 2)), .ref (loc (311)), .int (nI (σ.2 3)), .ref (loc (312)), .ref (loc (313)), .int (σ.1 10 0), .int (σ.1 10 1), .int (nI (σ.2 4)), .ref (loc (314))])) := xup_o (f1) (by omega)
                                  have f80 : (xup w (304) (eI cy 432 (upd fz ((9 * ((6 * k) + (σ.2 (10 + k)))) + i) ((σ.1 0) i)))) (301) = some (eI cy 9 (σ.1 0)) := xup_o (f2) (by omega)
                                  have f81 : (xup w (304) (eI cy 432 (upd fz ((9 * ((6 * k) + (σ.2 (10 + k)))) + i) ((σ.1 0) i)))) (302) = some (eI cy 8 (fun k => nI (σ.2 (10 + k)))) := xup_o (f3) (by omega)
                                  have f82 : (xup w (304) (eI cy 432 (upd fz ((9 * ((6 * k) + (σ.2 (10 + k)))) + i) ((σ.1 0) i)))) (303) = some (eI cy 48 (σ.1 1)) := xup_o (f4) (by omega)
                                  have f83 : (xup w (304) (eI cy 432 (upd fz ((9 * ((6 * k) + (σ.2 (10 + k)))) + i) ((σ.1 0) i)))) (304) = some (eI cy 432 (upd fz ((9 * ((6 * k) + (σ.2 (10 + k)))) + i) ((σ.1 0) i))) := xup_at _ _ _
                                  refine lv_iinc (v := nI (i + 1)) (lv' := [(5, .int (nI (i + 1))), (7, .int (nI (b))), (6, .int (nI (a))), (4, .int (nI (9 * ((6 * k) + (σ.2 (10 + k)))))), (3, .int (nI (σ.2 (10 + k)))), (0, .ref (loc (300))), (1, .int (nI (k))), (2, .int (d))]) hx hb dX8_measure_209 hl (k := 2) rfl (nI_add _ _) (by decide) rfl (fun ls hl => ?_)
                                  refine lv_goto (tgt := 96) hx hb dX8_measure_212 (by decide) ?_
                                  exact ih25 (i + 1) (upd fz ((9 * ((6 * k) + (σ.2 (10 + k)))) + i) ((σ.1 0) i)) ls _ _ (by omega) (by omega) (yfl_st h4 (yhv_1 hp1 hq1 hxa hxb c60)) hV78 hS77 (lv_sub hl [0, 3, 4, 5, 6, 7] rfl)
                              · have _u := trivial
                                refine lv_iinc (v := nI (b + 1)) (lv' := [(7, .int (nI (b + 1))), (6, .int (nI (a))), (5, .int (nI (i))), (4, .int (nI (9 * ((6 * k) + (σ.2 (10 + k)))))), (3, .int (nI (σ.2 (10 + k)))), (0, .ref (loc (300))), (1, .int (nI (k))), (2, .int (d))]) hx hb dX8_measure_139 hl (k := 0) rfl (nI_add _ _) (by decide) rfl (fun ls hl => ?_)
                                refine lv_goto (tgt := 128) hx hb dX8_measure_142 (by decide) ?_
                                exact ih58 (b + 1) ls (by omega) (by omega) (ynx_8 g8n hq2 c59) (xnx_s (by omega) hq1 hq3 c59) (lv_sub hl [0, 1, 2, 3, 4, 5, 6, 7] rfl)
                          exact lp128_55 ((9 - i) + 1) i ls (by omega) (Nat.le_refl _) (by omega) (by rw [Nat.sub_self]) (lv_sub hl [0, 1, 2, 3, 4, 5, 6, 7] rfl)
                        · have _u := trivial
                          have ha1 : 1 ≤ a := yah_1 g0n c54
                          refine lv_iinc (v := nI ((a) - 1)) (lv' := [(6, .int (nI ((a) - 1))), (5, .int (nI (i))), (4, .int (nI (9 * ((6 * k) + (σ.2 (10 + k)))))), (3, .int (nI (σ.2 (10 + k)))), (0, .ref (loc (300))), (1, .int (nI (k))), (2, .int (d))]) hx hb dX8_measure_118 hl (k := 0) rfl (x_dec (by omega)) (by decide) rfl (fun ls hl => ?_)
                          refine lv_goto (tgt := 107) hx hb dX8_measure_121 (by decide) ?_
                          exact ih53 ((a) - 1) ls (by omega) (by omega) (hp2.trans (xah_g g0n rfl c54).symm) (lv_sub hl [0, 1, 2, 3, 4, 5, 6] rfl)
                    exact lp107_50 (i + 1) i ls (by omega) (Nat.le_refl _) rfl (lv_sub hl [0, 1, 2, 3, 4, 5, 6] rfl)
              exact lp96_18 (9 + 1) 0 (σ.1 2) ls _ _ (by omega) (Nat.zero_le _) xfl_0 (hV.eq (xup_id f5).symm) hS (lv_sub hl [0, 1, 2, 3, 4, 5] rfl)
            · have _u := trivial
              have ymx : (σ.2 (10 + k) < 6) = False := eq_false (by omega)
              refine lv_bipush (v := -104) hx hb dX8_measure_79 (by decide +kernel) ?_
              exact x_rmi hx hb hr hlocks dX8_measure_81 hV hS (y_lf (by simp only [sp_measure, c9, k_k, c13, c14, c15, yms, ymx, if_true, if_false, ite_true, ite_false, not_true_eq_false, not_false_eq_true, and_true, true_and, and_false, false_and, or_true, true_or, or_false, false_or, and_self, or_self, Nat.add_sub_cancel, Nat.add_eq_zero_iff, Nat.one_ne_zero, eq_self, Nat.not_lt]) (yOK_id hRR))
          · have _u := trivial
            have hn1 : 1 ≤ σ.2 (10 + k) := nI_gt0 c16
            refine lv_iload_n hx hb dX8_measure_53 rfl (lv_at hl 3 rfl) ?_
            refine lv_aload_n hx hb dX8_measure_54 rfl (lv_at hl 1 rfl) ?_
            refine x_get (C := RX8) (T := TX8) (N := 27) hx hb hts hi_X8_measure_X8 hown hK hV f1 rfl 3 (by decide) (hts (.fieldLink RX8 16 "SaddleHouseModel" "dayOf" "[I") (List.mem_of_getElem? (i := 3) rfl)) (fun _ h9 => h9) rfl dX8_measure_55 ?_
            refine lv_bipush (v := nI 6) hx hb dX8_measure_58 (by decide +kernel) ?_
            refine lv_iload_n hx hb dX8_measure_60 rfl (lv_at hl 2 rfl) ?_
            refine x_imul hx hb (6) (k) dX8_measure_61 ?_
            refine lv_iload_n hx hb dX8_measure_62 rfl (lv_at hl 0 rfl) ?_
            refine x_iadd hx hb (6 * k) (σ.2 (10 + k)) dX8_measure_63 ?_
            refine lv_iconst (v := nI 1) hx hb dX8_measure_64 (by decide +kernel) ?_
            refine x_isub hx hb ((6 * k) + (σ.2 (10 + k))) (1) (by omega) dX8_measure_65 ?_
            refine x_top (congrArg Value.int (show nI (((6 * k) + (σ.2 (10 + k))) - 1) = nI (6 * k + (σ.2 (10 + k) - 1)) from by rw [show ((6 * k) + (σ.2 (10 + k))) - 1 = 6 * k + (σ.2 (10 + k) - 1) from by omega])) ?_
            refine x_iald hx hb hK hV f4 (6 * k + (σ.2 (10 + k) - 1)) (by omega) (by decide) dX8_measure_66 ?_
            refine lv_icmp_gt (tgt := 73) hx hb dX8_measure_67 (by decide) (fun c84 => ?_) (fun c84 => ?_)
            · have _u := trivial
              have yms : (σ.2 (10 + k) = 0 ∨ σ.1 1 (6 * k + (σ.2 (10 + k) - 1)) < d) = True := eq_true (Or.inr (by first | exact c84 | exact Int32.not_le.mp c84))
              refine lv_iload_n hx hb dX8_measure_73 rfl (lv_at hl 0 rfl) ?_
              refine lv_bipush (v := nI 6) hx hb dX8_measure_74 (by decide +kernel) ?_
              refine x_cne hx hb (σ.2 (10 + k)) (6) (by omega) (by omega) (tgt := 82) dX8_measure_76 (by decide) (fun c85 => ?_) (fun c85 => ?_)
              · have _u := trivial
                have ymx : (σ.2 (10 + k) < 6) = True := eq_true (by omega)
                refine lv_bipush (v := nI 9) hx hb dX8_measure_82 (by decide +kernel) ?_
                refine lv_bipush (v := nI 6) hx hb dX8_measure_84 (by decide +kernel) ?_
                refine lv_iload_n hx hb dX8_measure_86 rfl (lv_at hl 2 rfl) ?_
                refine x_imul hx hb (6) (k) dX8_measure_87 ?_
                refine lv_iload_n hx hb dX8_measure_88 rfl (lv_at hl 0 rfl) ?_
                refine x_iadd hx hb (6 * k) (σ.2 (10 + k)) dX8_measure_89 ?_
                refine x_imul hx hb (9) ((6 * k) + (σ.2 (10 + k))) dX8_measure_90 ?_
                refine lv_istore (lv' := [(4, .int (nI (9 * ((6 * k) + (σ.2 (10 + k)))))), (3, .int (nI (σ.2 (10 + k)))), (0, .ref (loc (300))), (1, .int (nI (k))), (2, .int (d))]) hx hb dX8_measure_91 hl (by decide) rfl (fun ls hl => ?_)
                refine lv_iconst (v := nI 0) hx hb dX8_measure_93 (by decide +kernel) ?_
                refine lv_istore (lv' := [(5, .int (nI (0))), (4, .int (nI (9 * ((6 * k) + (σ.2 (10 + k)))))), (3, .int (nI (σ.2 (10 + k)))), (0, .ref (loc (300))), (1, .int (nI (k))), (2, .int (d))]) hx hb dX8_measure_94 hl (by decide) rfl (fun ls hl => ?_)
                have lp96_86 : ∀ (fuel91 : Nat) (i : Nat) (fz : Nat → Int32) (ls : Array Slot) (H87 : Heap) (L88 : List Loc), 9 - i < fuel91 → (i ≤ 9) → (fz = xfl (σ.1 2) (9 * (6 * k + σ.2 (10 + k))) i (xhv (σ.1 0))) → xV D (xA loc w s.heap.size) loc ((xup w (304) (eI cy 432 (fz)))) H87 → va_S (xA loc w s.heap.size) s.heap H87 L88 → lv_has ls 8 [(5, .int (nI (i))), (4, .int (nI (9 * ((6 * k) + (σ.2 (10 + k)))))), (3, .int (nI (σ.2 (10 + k)))), (0, .ref (loc (300))), (1, .int (nI (k))), (2, .int (d))] → W p l e rm_X8_measure s m ([.ref (loc (300)), .int ((nI k)), .int (d)] : List Value).toArray below meth c H87 L88 0 0 (MQ below (va_Qi (fun r u => r = (sp_measure σ (nI k) d).1 ∧ yOK cy loc w (sp_measure σ (nI k) d).2 u) (xB D (xA loc w s.heap.size)) (xA loc w s.heap.size)) ([.ref (loc (300)), .int ((nI k)), .int (d)] : List Value).toArray s 0 0 (xA loc w s.heap.size)) (F0 m 96 ls []) := by
                  intro fuel91
                  induction fuel91 with
                  | zero => intro i fz ls H87 L88 hm92; exact absurd hm92 (Nat.not_lt_zero _)
                  | succ fuel91 ih93 =>
                    intro i fz ls H87 L88 hm92 h3 h4 hV89 hS90 hl
                    have f94 : (xup w (304) (eI cy 432 (fz))) (300) = some (.inr (8, [.ref (loc (301)), .int (nI (σ.2 0)), .ref (loc (302)), .ref (loc (303)), .ref (loc (304)), .int (nI (σ.2 1)), .ref (loc (305)), .ref (loc (306)), .ref (loc (307)), .ref (loc (308)), .int (v0 0), .int (v0 1), .int (v0 2), .int (v0 3), .int (nI (σ.2 5)), .ref (loc (309)), .ref (loc (310)), .int (v0 4), .int (nI (σ.2 2)), .ref (loc (311)), .int (nI (σ.2 3)), .ref (loc (312)), .ref (loc (313)), .int (σ.1 10 0), .int (σ.1 10 1), .int (nI (σ.2 4)), .ref (loc (314))])) := xup_o (f1) (by omega)
                    have f95 : (xup w (304) (eI cy 432 (fz))) (301) = some (eI cy 9 (σ.1 0)) := xup_o (f2) (by omega)
                    have f96 : (xup w (304) (eI cy 432 (fz))) (302) = some (eI cy 8 (fun k => nI (σ.2 (10 + k)))) := xup_o (f3) (by omega)
                    have f97 : (xup w (304) (eI cy 432 (fz))) (303) = some (eI cy 48 (σ.1 1)) := xup_o (f4) (by omega)
                    have f98 : (xup w (304) (eI cy 432 (fz))) (304) = some (eI cy 432 (fz)) := xup_at _ _ _
                    refine lv_iload hx hb dX8_measure_96 (lv_at hl 0 rfl) ?_
                    refine lv_bipush (v := nI 9) hx hb dX8_measure_98 (by decide +kernel) ?_
                    refine x_cge hx hb (i) (9) (by omega) (by omega) (tgt := 215) dX8_measure_100 (by decide) (fun c99 => ?_) (fun c99 => ?_)
                    · have _u := trivial
                      have h5 : fz = xfl (σ.1 2) (9 * (6 * k + σ.2 (10 + k))) 9 (xhv (σ.1 0)) := by rw [h4, show i = 9 by omega]
                      refine lv_aload_n hx hb dX8_measure_215 rfl (lv_at hl 3 rfl) ?_
                      refine x_get (C := RX8) (T := TX8) (N := 27) hx hb hts hi_X8_measure_X8 hown hK hV89 f94 rfl 3 (by decide) (hts (.fieldLink RX8 16 "SaddleHouseModel" "dayOf" "[I") (List.mem_of_getElem? (i := 3) rfl)) (fun _ h9 => h9) rfl dX8_measure_216 ?_
                      refine lv_bipush (v := nI 6) hx hb dX8_measure_219 (by decide +kernel) ?_
                      refine lv_iload_n hx hb dX8_measure_221 rfl (lv_at hl 4 rfl) ?_
                      refine x_imul hx hb (6) (k) dX8_measure_222 ?_
                      refine lv_iload_n hx hb dX8_measure_223 rfl (lv_at hl 2 rfl) ?_
                      refine x_iadd hx hb (6 * k) (σ.2 (10 + k)) dX8_measure_224 ?_
                      refine lv_iload_n hx hb dX8_measure_225 rfl (lv_at hl 5 rfl) ?_
                      refine x_iast hx hb hK hV89 hS90 f97 ((6 * k) + (σ.2 (10 + k))) (by omega) (by decide) dX8_measure_226 (fun H100 L101 hV102 hS103 => ?_)
                      have f104 : (xup (xup w (304) (eI cy 432 (fz))) (303) (eI cy 48 (upd (σ.1 1) ((6 * k) + (σ.2 (10 + k))) d))) (300) = some (.inr (8, [.ref (loc (301)), .int (nI (σ.2 0)), .ref (loc (302)), .ref (loc (303)), .ref (loc (304)), .int (nI (σ.2 1)), .ref (loc (305)), .ref (loc (306)), .ref (loc (307)), .ref (loc (308)), .int (v0 0), .int (v0 1), .int (v0 2), .int (v0 3), .int (nI (σ.2 5)), .ref (loc (309)), .ref (loc (310)), .int (v0 4), .int (nI (σ.2 2)), .ref (loc (311)), .int (nI (σ.2 3)), .ref (loc (312)), .ref (loc (313)), .int (σ.1 10 0), .int (σ.1 10 1), .int (nI (σ.2 4)), .ref (loc (314))])) := xup_o (xup_o (f1) (by omega)) (by omega)
                      have f105 : (xup (xup w (304) (eI cy 432 (fz))) (303) (eI cy 48 (upd (σ.1 1) ((6 * k) + (σ.2 (10 + k))) d))) (301) = some (eI cy 9 (σ.1 0)) := xup_o (xup_o (f2) (by omega)) (by omega)
                      have f106 : (xup (xup w (304) (eI cy 432 (fz))) (303) (eI cy 48 (upd (σ.1 1) ((6 * k) + (σ.2 (10 + k))) d))) (302) = some (eI cy 8 (fun k => nI (σ.2 (10 + k)))) := xup_o (xup_o (f3) (by omega)) (by omega)
                      have f107 : (xup (xup w (304) (eI cy 432 (fz))) (303) (eI cy 48 (upd (σ.1 1) ((6 * k) + (σ.2 (10 + k))) d))) (303) = some (eI cy 48 (upd (σ.1 1) ((6 * k) + (σ.2 (10 + k))) d)) := xup_at _ _ _
                      have f108 : (xup (xup w (304) (eI cy 432 (fz))) (303) (eI cy 48 (upd (σ.1 1) ((6 * k) + (σ.2 (10 + k))) d))) (304) = some (eI cy 432 (fz)) := xup_o (xup_at _ _ _) (by omega)
                      refine lv_aload_n hx hb dX8_measure_227 rfl (lv_at hl 3 rfl) ?_
                      refine x_get (C := RX8) (T := TX8) (N := 27) hx hb hts hi_X8_measure_X8 hown hK hV102 f104 rfl 2 (by decide) (hts (.fieldLink RX8 13 "SaddleHouseModel" "measures" "[I") (List.mem_of_getElem? (i := 2) rfl)) (fun _ h9 => h9) rfl dX8_measure_228 ?_
                      refine lv_iload_n hx hb dX8_measure_231 rfl (lv_at hl 4 rfl) ?_
                      refine lv_dup2_11 hx hb dX8_measure_232 rfl rfl ?_
                      refine x_iald hx hb hK hV102 f106 (k) (by omega) (by decide) dX8_measure_233 ?_
                      refine x_top (congrArg Value.int (show _ = nI (σ.2 (10 + k)) from rfl)) ?_
                      refine lv_iconst (v := nI 1) hx hb dX8_measure_234 (by decide +kernel) ?_
                      refine x_iadd hx hb (σ.2 (10 + k)) (1) dX8_measure_235 ?_
                      refine x_iast hx hb hK hV102 hS103 f106 (k) (by omega) (by decide) dX8_measure_236 (fun H109 L110 hV111 hS112 => ?_)
                      have f113 : (xup (xup (xup w (304) (eI cy 432 (fz))) (303) (eI cy 48 (upd (σ.1 1) ((6 * k) + (σ.2 (10 + k))) d))) (302) (eI cy 8 (upd (fun k => nI (σ.2 (10 + k))) k (nI ((σ.2 (10 + k)) + 1))))) (300) = some (.inr (8, [.ref (loc (301)), .int (nI (σ.2 0)), .ref (loc (302)), .ref (loc (303)), .ref (loc (304)), .int (nI (σ.2 1)), .ref (loc (305)), .ref (loc (306)), .ref (loc (307)), .ref (loc (308)), .int (v0 0), .int (v0 1), .int (v0 2), .int (v0 3), .int (nI (σ.2 5)), .ref (loc (309)), .ref (loc (310)), .int (v0 4), .int (nI (σ.2 2)), .ref (loc (311)), .int (nI (σ.2 3)), .ref (loc (312)), .ref (loc (313)), .int (σ.1 10 0), .int (σ.1 10 1), .int (nI (σ.2 4)), .ref (loc (314))])) := xup_o (xup_o (xup_o (f1) (by omega)) (by omega)) (by omega)
                      have f114 : (xup (xup (xup w (304) (eI cy 432 (fz))) (303) (eI cy 48 (upd (σ.1 1) ((6 * k) + (σ.2 (10 + k))) d))) (302) (eI cy 8 (upd (fun k => nI (σ.2 (10 + k))) k (nI ((σ.2 (10 + k)) + 1))))) (301) = some (eI cy 9 (σ.1 0)) := xup_o (xup_o (xup_o (f2) (by omega)) (by omega)) (by omega)
                      have f115 : (xup (xup (xup w (304) (eI cy 432 (fz))) (303) (eI cy 48 (upd (σ.1 1) ((6 * k) + (σ.2 (10 + k))) d))) (302) (eI cy 8 (upd (fun k => nI (σ.2 (10 + k))) k (nI ((σ.2 (10 + k)) + 1))))) (302) = some (eI cy 8 (upd (fun k => nI (σ.2 (10 + k))) k (nI ((σ.2 (10 + k)) + 1)))) := xup_at _ _ _
                      have f116 : (xup (xup (xup w (304) (eI cy 432 (fz))) (303) (eI cy 48 (upd (σ.1 1) ((6 * k) + (σ.2 (10 + k))) d))) (302) (eI cy 8 (upd (fun k => nI (σ.2 (10 + k))) k (nI ((σ.2 (10 + k)) + 1))))) (303) = some (eI cy 48 (upd (σ.1 1) ((6 * k) + (σ.2 (10 + k))) d)) := xup_o (xup_at _ _ _) (by omega)
                      have f117 : (xup (xup (xup w (304) (eI cy 432 (fz))) (303) (eI cy 48 (upd (σ.1 1) ((6 * k) + (σ.2 (10 + k))) d))) (302) (eI cy 8 (upd (fun k => nI (σ.2 (10 + k))) k (nI ((σ.2 (10 + k)) + 1))))) (304) = some (eI cy 432 (fz)) := xup_o (xup_o (xup_at _ _ _) (by omega)) (by omega)
                      refine lv_iload_n hx hb dX8_measure_237 rfl (lv_at hl 2 rfl) ?_
                      refine lv_iconst (v := nI 1) hx hb dX8_measure_238 (by decide +kernel) ?_
                      refine x_iadd hx hb (σ.2 (10 + k)) (1) dX8_measure_239 ?_
                      exact x_rmi hx hb hr hlocks dX8_measure_240 hV111 hS112 (y_lf (σ' := xms σ k d) (by simp only [sp_measure, c9, k_k, c13, c14, c15, yms, ymx, if_true, if_false, ite_true, ite_false, not_true_eq_false, not_false_eq_true, and_true, true_and, and_false, false_and, or_true, true_or, or_false, false_or, and_self, or_self, Nat.add_sub_cancel, Nat.add_eq_zero_iff, Nat.one_ne_zero, eq_self, Nat.not_lt]) (by rw [h5]; exact yOK_measure hw k d))
                    · have _u := trivial
                      refine lv_iload hx hb dX8_measure_103 (lv_at hl 0 rfl) ?_
                      refine lv_istore (lv' := [(6, .int (nI (i))), (5, .int (nI (i))), (4, .int (nI (9 * ((6 * k) + (σ.2 (10 + k)))))), (3, .int (nI (σ.2 (10 + k)))), (0, .ref (loc (300))), (1, .int (nI (k))), (2, .int (d))]) hx hb dX8_measure_105 hl (by decide) rfl (fun ls hl => ?_)
                      have lp107_118 : ∀ (fuel119 : Nat) (a : Nat) (ls : Array Slot), a < fuel119 → (a ≤ i) → (xah (σ.1 0) i = xah (σ.1 0) a) → lv_has ls 8 [(6, .int (nI (a))), (5, .int (nI (i))), (4, .int (nI (9 * ((6 * k) + (σ.2 (10 + k)))))), (3, .int (nI (σ.2 (10 + k)))), (0, .ref (loc (300))), (1, .int (nI (k))), (2, .int (d))] → W p l e rm_X8_measure s m ([.ref (loc (300)), .int ((nI k)), .int (d)] : List Value).toArray below meth c H87 L88 0 0 (MQ below (va_Qi (fun r u => r = (sp_measure σ (nI k) d).1 ∧ yOK cy loc w (sp_measure σ (nI k) d).2 u) (xB D (xA loc w s.heap.size)) (xA loc w s.heap.size)) ([.ref (loc (300)), .int ((nI k)), .int (d)] : List Value).toArray s 0 0 (xA loc w s.heap.size)) (F0 m 107 ls []) := by
                        intro fuel119
                        induction fuel119 with
                        | zero => intro a ls hm120; exact absurd hm120 (Nat.not_lt_zero _)
                        | succ fuel119 ih121 =>
                          intro a ls hm120 hp1 hp2  hl
                          refine lv_aload_n hx hb dX8_measure_107 rfl (lv_at hl 4 rfl) ?_
                          refine x_get (C := RX8) (T := TX8) (N := 27) hx hb hts hi_X8_measure_X8 hown hK hV89 f94 rfl 0 (by decide) (hts (.fieldLink RX8 7 "SaddleHouseModel" "hand" "[I") (List.mem_of_getElem? (i := 1) rfl)) (fun _ h9 => h9) rfl dX8_measure_108 ?_
                          refine lv_iload hx hb dX8_measure_111 (lv_at hl 0 rfl) ?_
                          refine x_iald hx hb hK hV89 f95 (a) (by omega) (by decide) dX8_measure_113 ?_
                          refine lv_iconst (v := -1) hx hb dX8_measure_114 (by decide +kernel) ?_
                          refine lv_icmp_ne (tgt := 124) hx hb dX8_measure_115 (by decide) (fun c122 => ?_) (fun c122 => ?_)
                          · have _u := trivial
                            have hna : ¬ σ.1 0 a = -1 := c122
                            have hxa : xah (σ.1 0) i = a := hp2.trans (xah_n hna).symm
                            refine lv_iload hx hb dX8_measure_124 (lv_at hl 1 rfl) ?_
                            refine lv_istore (lv' := [(7, .int (nI (i))), (6, .int (nI (a))), (5, .int (nI (i))), (4, .int (nI (9 * ((6 * k) + (σ.2 (10 + k)))))), (3, .int (nI (σ.2 (10 + k)))), (0, .ref (loc (300))), (1, .int (nI (k))), (2, .int (d))]) hx hb dX8_measure_126 hl (by decide) rfl (fun ls hl => ?_)
                            have lp128_123 : ∀ (fuel124 : Nat) (b : Nat) (ls : Array Slot), 9 - b < fuel124 → (i ≤ b) → (b ≤ 8) → (xnx (σ.1 0) i 9 = xnx (σ.1 0) b (9 - (b - i))) → lv_has ls 8 [(7, .int (nI (b))), (6, .int (nI (a))), (5, .int (nI (i))), (4, .int (nI (9 * ((6 * k) + (σ.2 (10 + k)))))), (3, .int (nI (σ.2 (10 + k)))), (0, .ref (loc (300))), (1, .int (nI (k))), (2, .int (d))] → W p l e rm_X8_measure s m ([.ref (loc (300)), .int ((nI k)), .int (d)] : List Value).toArray below meth c H87 L88 0 0 (MQ below (va_Qi (fun r u => r = (sp_measure σ (nI k) d).1 ∧ yOK cy loc w (sp_measure σ (nI k) d).2 u) (xB D (xA loc w s.heap.size)) (xA loc w s.heap.size)) ([.ref (loc (300)), .int ((nI k)), .int (d)] : List Value).toArray s 0 0 (xA loc w s.heap.size)) (F0 m 128 ls []) := by
                              intro fuel124
                              induction fuel124 with
                              | zero => intro b ls hm125; exact absurd hm125 (Nat.not_lt_zero _)
                              | succ fuel124 ih126 =>
                                intro b ls hm125 hq1 hq2 hq3  hl
                                refine lv_aload_n hx hb dX8_measure_128 rfl (lv_at hl 5 rfl) ?_
                                refine x_get (C := RX8) (T := TX8) (N := 27) hx hb hts hi_X8_measure_X8 hown hK hV89 f94 rfl 0 (by decide) (hts (.fieldLink RX8 7 "SaddleHouseModel" "hand" "[I") (List.mem_of_getElem? (i := 1) rfl)) (fun _ h9 => h9) rfl dX8_measure_129 ?_
                                refine lv_iload hx hb dX8_measure_132 (lv_at hl 0 rfl) ?_
                                refine x_iald hx hb hK hV89 f95 (b) (by omega) (by decide) dX8_measure_134 ?_
                                refine lv_iconst (v := -1) hx hb dX8_measure_135 (by decide +kernel) ?_
                                refine lv_icmp_ne (tgt := 145) hx hb dX8_measure_136 (by decide) (fun c127 => ?_) (fun c127 => ?_)
                                · have _u := trivial
                                  have hxb : xnx (σ.1 0) i 9 = b := hq3.trans (xnx_h (by omega) c127)
                                  refine lv_aload_n hx hb dX8_measure_145 rfl (lv_at hl 5 rfl) ?_
                                  refine x_get (C := RX8) (T := TX8) (N := 27) hx hb hts hi_X8_measure_X8 hown hK hV89 f94 rfl 4 (by decide) (hts (.fieldLink RX8 19 "SaddleHouseModel" "heights" "[I") (List.mem_of_getElem? (i := 4) rfl)) (fun _ h9 => h9) rfl dX8_measure_146 ?_
                                  refine lv_iload hx hb dX8_measure_149 (lv_at hl 3 rfl) ?_
                                  refine lv_iload hx hb dX8_measure_151 (lv_at hl 2 rfl) ?_
                                  refine x_iadd hx hb (9 * ((6 * k) + (σ.2 (10 + k)))) (i) dX8_measure_153 ?_
                                  refine lv_iload hx hb dX8_measure_154 (lv_at hl 1 rfl) ?_
                                  refine lv_iload hx hb dX8_measure_156 (lv_at hl 0 rfl) ?_
                                  refine x_cne hx hb (a) (b) (by omega) (by omega) (tgt := 171) dX8_measure_158 (by decide) (fun c128 => ?_) (fun c128 => ?_)
                                  · have _u := trivial
                                    refine lv_aload_n hx hb dX8_measure_171 rfl (lv_at hl 5 rfl) ?_
                                    refine x_get (C := RX8) (T := TX8) (N := 27) hx hb hts hi_X8_measure_X8 hown hK hV89 f94 rfl 0 (by decide) (hts (.fieldLink RX8 7 "SaddleHouseModel" "hand" "[I") (List.mem_of_getElem? (i := 1) rfl)) (fun _ h9 => h9) rfl dX8_measure_172 ?_
                                    refine lv_iload hx hb dX8_measure_175 (lv_at hl 1 rfl) ?_
                                    refine x_iald hx hb hK hV89 f95 (a) (by omega) (by decide) dX8_measure_177 ?_
                                    refine lv_aload_n hx hb dX8_measure_178 rfl (lv_at hl 5 rfl) ?_
                                    refine x_get (C := RX8) (T := TX8) (N := 27) hx hb hts hi_X8_measure_X8 hown hK hV89 f94 rfl 0 (by decide) (hts (.fieldLink RX8 7 "SaddleHouseModel" "hand" "[I") (List.mem_of_getElem? (i := 1) rfl)) (fun _ h9 => h9) rfl dX8_measure_179 ?_
                                    refine lv_iload hx hb dX8_measure_182 (lv_at hl 0 rfl) ?_
                                    refine x_iald hx hb hK hV89 f95 (b) (by omega) (by decide) dX8_measure_184 ?_
                                    refine lv_aload_n hx hb dX8_measure_185 rfl (lv_at hl 5 rfl) ?_
                                    refine x_get (C := RX8) (T := TX8) (N := 27) hx hb hts hi_X8_measure_X8 hown hK hV89 f94 rfl 0 (by decide) (hts (.fieldLink RX8 7 "SaddleHouseModel" "hand" "[I") (List.mem_of_getElem? (i := 1) rfl)) (fun _ h9 => h9) rfl dX8_measure_186 ?_
                                    refine lv_iload hx hb dX8_measure_189 (lv_at hl 1 rfl) ?_
                                    refine x_iald hx hb hK hV89 f95 (a) (by omega) (by decide) dX8_measure_191 ?_
                                    refine lv_isub hx hb dX8_measure_192 ?_
                                    refine lv_iload hx hb dX8_measure_193 (lv_at hl 2 rfl) ?_
                                    refine lv_iload hx hb dX8_measure_195 (lv_at hl 1 rfl) ?_
                                    refine x_isub hx hb (i) (a) (by omega) dX8_measure_197 ?_
                                    refine lv_imul hx hb dX8_measure_198 ?_
                                    refine lv_iload hx hb dX8_measure_199 (lv_at hl 0 rfl) ?_
                                    refine lv_iload hx hb dX8_measure_201 (lv_at hl 1 rfl) ?_
                                    refine x_isub hx hb (b) (a) (by omega) dX8_measure_203 ?_
                                    refine x_ci (va_runS (As := [.int ((((σ.1 0) b) - ((σ.1 0) a)) * (nI (i - a))), .int (nI (b - a))]) (rest := [.int ((σ.1 0) a), .int (nI ((9 * ((6 * k) + (σ.2 (10 + k)))) + i)), .ref (loc (304))]) ⟨hx, hb, hml, hown, hts⟩ (c_X8_floor l D cy loc (xup w (304) (eI cy 432 (fz))) H87.size ((σ.1 0 b - σ.1 0 a) * nI (i - a)) (b - a) (by omega) (by omega)) (cwS 2 hts gX8_measure_X8_floor rfl rfl rfl (by decide +kernel) ⟨Nat.le_of_ble_eq_true rfl, Nat.le_of_ble_eq_true rfl⟩) (x_preS hK hV89) rfl rfl hl.1 rfl (lv_room (Nat.le_of_ble_eq_true rfl)) dX8_measure_204 ⟨Nat.le_of_ble_eq_true rfl, Nat.le_of_ble_eq_true rfl⟩) (fun r129 hr130 => ?_)
                                    have ez131 : xfloor ((σ.1 0 b - σ.1 0 a) * nI (i - a)) (nI (b - a)) = r129 := Eq.symm (show r129 = xfloor ((σ.1 0 b - σ.1 0 a) * nI (i - a)) (nI (b - a)) from hr130)
                                    subst ez131
                                    refine lv_iadd hx hb dX8_measure_207 ?_
                                    refine x_iast hx hb hK hV89 hS90 f98 ((9 * ((6 * k) + (σ.2 (10 + k)))) + i) (by omega) (by decide) dX8_measure_208 (fun H132 L133 hV134 hS135 => ?_)
                                    have hV136 := hV134.eq (xup_xup _ _ _ _)
                                    have f137 : (xup w (304) (eI cy 432 (upd fz ((9 * ((6 * k) + (σ.2 (10 + k)))) + i) (((σ.1 0) a) + (xfloor ((σ.1 0 b - σ.1 0 a) * nI (i - a)) (nI (b - a))))))) (300) = some (.inr (8, [.ref (loc (301)), .int (nI (σ.2 0)), .ref (loc (302)), .ref (loc (303)), .ref (loc (304)), .int (nI (σ.2 1)), .ref (loc (305)), .ref (loc (306)), .ref (loc (307)), .ref (loc (308)), .int (v0 0), .int (v0 1), .int (v0 2), .int (v0 3), .int (nI (σ.2 5)), .ref (loc (309)), .ref (loc (310)), .int (v0 4), .int (nI (σ.2 2)), .ref (loc (311)), .int (nI (σ.2 3)), .ref (loc (312)), .ref (loc (313)), .int (σ.1 10 0), .int (σ.1 10 1), .int (nI (σ.2 4)), .ref (loc (314))])) := xup_o (f1) (by omega)
                                    have f138 : (xup w (304) (eI cy 432 (upd fz ((9 * ((6 * k) + (σ.2 (10 + k)))) + i) (((σ.1 0) a) + (xfloor ((σ.1 0 b - σ.1 0 a) * nI (i - a)) (nI (b - a))))))) (301) = some (eI cy 9 (σ.1 0)) := xup_o (f2) (by omega)
                                    have f139 : (xup w (304) (eI cy 432 (upd fz ((9 * ((6 * k) + (σ.2 (10 + k)))) + i) (((σ.1 0) a) + (xfloor ((σ.1 0 b - σ.1 0 a) * nI (i - a)) (nI (b - a))))))) (302) = some (eI cy 8 (fun k => nI (σ.2 (10 + k)))) := xup_o (f3) (by omega)
                                    have f140 : (xup w (304) (eI cy 432 (upd fz ((9 * ((6 * k) + (σ.2 (10 + k)))) + i) (((σ.1 0) a) + (xfloor ((σ.1 0 b - σ.1 0 a) * nI (i - a)) (nI (b - a))))))) (303) = some (eI cy 48 (σ.1 1)) := xup_o (f4) (by omega)
                                    have f141 : (xup w (304) (eI cy 432 (upd fz ((9 * ((6 * k) + (σ.2 (10 + k)))) + i) (((σ.1 0) a) + (xfloor ((σ.1 0 b - σ.1 0 a) * nI (i - a)) (nI (b - a))))))) (304) = some (eI cy 432 (upd fz ((9 * ((6 * k) + (σ.2 (10 + k)))) + i) (((σ.1 0) a) + (xfloor ((σ.1 0 b - σ.1 0 a) * nI (i - a)) (nI (b - a)))))) := xup_at _ _ _
                                    refine lv_iinc (v := nI (i + 1)) (lv' := [(5, .int (nI (i + 1))), (7, .int (nI (b))), (6, .int (nI (a))), (4, .int (nI (9 * ((6 * k) + (σ.2 (10 + k)))))), (3, .int (nI (σ.2 (10 + k)))), (0, .ref (loc (300))), (1, .int (nI (k))), (2, .int (d))]) hx hb dX8_measure_209 hl (k := 2) rfl (nI_add _ _) (by decide) rfl (fun ls hl => ?_)
                                    refine lv_goto (tgt := 96) hx hb dX8_measure_212 (by decide) ?_
                                    exact ih93 (i + 1) (upd fz ((9 * ((6 * k) + (σ.2 (10 + k)))) + i) (((σ.1 0) a) + (xfloor ((σ.1 0 b - σ.1 0 a) * nI (i - a)) (nI (b - a))))) ls _ _ (by omega) (by omega) (yfl_st h4 (yhv_2 hxa hxb (by omega))) hV136 hS135 (lv_sub hl [0, 3, 4, 5, 6, 7] rfl)
                                  · have _u := trivial
                                    refine lv_aload_n hx hb dX8_measure_161 rfl (lv_at hl 5 rfl) ?_
                                    refine x_get (C := RX8) (T := TX8) (N := 27) hx hb hts hi_X8_measure_X8 hown hK hV89 f94 rfl 0 (by decide) (hts (.fieldLink RX8 7 "SaddleHouseModel" "hand" "[I") (List.mem_of_getElem? (i := 1) rfl)) (fun _ h9 => h9) rfl dX8_measure_162 ?_
                                    refine lv_iload hx hb dX8_measure_165 (lv_at hl 2 rfl) ?_
                                    refine x_iald hx hb hK hV89 f95 (i) (by omega) (by decide) dX8_measure_167 ?_
                                    refine lv_goto (tgt := 208) hx hb dX8_measure_168 (by decide) ?_
                                    refine x_iast hx hb hK hV89 hS90 f98 ((9 * ((6 * k) + (σ.2 (10 + k)))) + i) (by omega) (by decide) dX8_measure_208 (fun H142 L143 hV144 hS145 => ?_)
                                    have hV146 := hV144.eq (xup_xup _ _ _ _)
                                    have f147 : (xup w (304) (eI cy 432 (upd fz ((9 * ((6 * k) + (σ.2 (10 + k)))) + i) ((σ.1 0) i)))) (300) = some (.inr (8, [.ref (loc (301)), .int (nI (σ.2 0)), .ref (loc (302)), .ref (loc (303)), .ref (loc (304)), .int (nI (σ.2 1)), .ref (loc (305)), .ref (loc (306)), .ref (loc (307)), .ref (loc (308)), .int (v0 0), .int (v0 1), .int (v0 2), .int (v0 3), .int (nI (σ.2 5)), .ref (loc (309)), .ref (loc (310)), .int (v0 4), .int (nI (σ.2 2)), .ref (loc (311)), .int (nI (σ.2 3)), .ref (loc (312)), .ref (loc (313)), .int (σ.1 10 0), .int (σ.1 10 1), .int (nI (σ.2 4)), .ref (loc (314))])) := xup_o (f1) (by omega)
                                    have f148 : (xup w (304) (eI cy 432 (upd fz ((9 * ((6 * k) + (σ.2 (10 + k)))) + i) ((σ.1 0) i)))) (301) = some (eI cy 9 (σ.1 0)) := xup_o (f2) (by omega)
                                    have f149 : (xup w (304) (eI cy 432 (upd fz ((9 * ((6 * k) + (σ.2 (10 + k)))) + i) ((σ.1 0) i)))) (302) = some (eI cy 8 (fun k => nI (σ.2 (10 + k)))) := xup_o (f3) (by omega)
                                    have f150 : (xup w (304) (eI cy 432 (upd fz ((9 * ((6 * k) + (σ.2 (10 + k)))) + i) ((σ.1 0) i)))) (303) = some (eI cy 48 (σ.1 1)) := xup_o (f4) (by omega)
                                    have f151 : (xup w (304) (eI cy 432 (upd fz ((9 * ((6 * k) + (σ.2 (10 + k)))) + i) ((σ.1 0) i)))) (304) = some (eI cy 432 (upd fz ((9 * ((6 * k) + (σ.2 (10 + k)))) + i) ((σ.1 0) i))) := xup_at _ _ _
                                    refine lv_iinc (v := nI (i + 1)) (lv' := [(5, .int (nI (i + 1))), (7, .int (nI (b))), (6, .int (nI (a))), (4, .int (nI (9 * ((6 * k) + (σ.2 (10 + k)))))), (3, .int (nI (σ.2 (10 + k)))), (0, .ref (loc (300))), (1, .int (nI (k))), (2, .int (d))]) hx hb dX8_measure_209 hl (k := 2) rfl (nI_add _ _) (by decide) rfl (fun ls hl => ?_)
                                    refine lv_goto (tgt := 96) hx hb dX8_measure_212 (by decide) ?_
                                    exact ih93 (i + 1) (upd fz ((9 * ((6 * k) + (σ.2 (10 + k)))) + i) ((σ.1 0) i)) ls _ _ (by omega) (by omega) (yfl_st h4 (yhv_1 hp1 hq1 hxa hxb c128)) hV146 hS145 (lv_sub hl [0, 3, 4, 5, 6, 7] rfl)
                                · have _u := trivial
                                  refine lv_iinc (v := nI (b + 1)) (lv' := [(7, .int (nI (b + 1))), (6, .int (nI (a))), (5, .int (nI (i))), (4, .int (nI (9 * ((6 * k) + (σ.2 (10 + k)))))), (3, .int (nI (σ.2 (10 + k)))), (0, .ref (loc (300))), (1, .int (nI (k))), (2, .int (d))]) hx hb dX8_measure_139 hl (k := 0) rfl (nI_add _ _) (by decide) rfl (fun ls hl => ?_)
                                  refine lv_goto (tgt := 128) hx hb dX8_measure_142 (by decide) ?_
                                  exact ih126 (b + 1) ls (by omega) (by omega) (ynx_8 g8n hq2 c127) (xnx_s (by omega) hq1 hq3 c127) (lv_sub hl [0, 1, 2, 3, 4, 5, 6, 7] rfl)
                            exact lp128_123 ((9 - i) + 1) i ls (by omega) (Nat.le_refl _) (by omega) (by rw [Nat.sub_self]) (lv_sub hl [0, 1, 2, 3, 4, 5, 6, 7] rfl)
                          · have _u := trivial
                            have ha1 : 1 ≤ a := yah_1 g0n c122
                            refine lv_iinc (v := nI ((a) - 1)) (lv' := [(6, .int (nI ((a) - 1))), (5, .int (nI (i))), (4, .int (nI (9 * ((6 * k) + (σ.2 (10 + k)))))), (3, .int (nI (σ.2 (10 + k)))), (0, .ref (loc (300))), (1, .int (nI (k))), (2, .int (d))]) hx hb dX8_measure_118 hl (k := 0) rfl (x_dec (by omega)) (by decide) rfl (fun ls hl => ?_)
                            refine lv_goto (tgt := 107) hx hb dX8_measure_121 (by decide) ?_
                            exact ih121 ((a) - 1) ls (by omega) (by omega) (hp2.trans (xah_g g0n rfl c122).symm) (lv_sub hl [0, 1, 2, 3, 4, 5, 6] rfl)
                      exact lp107_118 (i + 1) i ls (by omega) (Nat.le_refl _) rfl (lv_sub hl [0, 1, 2, 3, 4, 5, 6] rfl)
                exact lp96_86 (9 + 1) 0 (σ.1 2) ls _ _ (by omega) (Nat.zero_le _) xfl_0 (hV.eq (xup_id f5).symm) hS (lv_sub hl [0, 1, 2, 3, 4, 5] rfl)
              · have _u := trivial
                have ymx : (σ.2 (10 + k) < 6) = False := eq_false (by omega)
                refine lv_bipush (v := -104) hx hb dX8_measure_79 (by decide +kernel) ?_
                exact x_rmi hx hb hr hlocks dX8_measure_81 hV hS (y_lf (by simp only [sp_measure, c9, k_k, c13, c14, c15, yms, ymx, if_true, if_false, ite_true, ite_false, not_true_eq_false, not_false_eq_true, and_true, true_and, and_false, false_and, or_true, true_or, or_false, false_or, and_self, or_self, Nat.add_sub_cancel, Nat.add_eq_zero_iff, Nat.one_ne_zero, eq_self, Nat.not_lt]) (yOK_id hRR))
            · have _u := trivial
              have yms : (σ.2 (10 + k) = 0 ∨ σ.1 1 (6 * k + (σ.2 (10 + k) - 1)) < d) = False := eq_false (fun q => q.elim (fun z => by omega) (fun z => absurd z (by first | exact c84 | exact Int32.not_lt.mpr c84)))
              refine lv_bipush (v := -103) hx hb dX8_measure_70 (by decide +kernel) ?_
              exact x_rmi hx hb hr hlocks dX8_measure_72 hV hS (y_lf (by simp only [sp_measure, c9, k_k, c13, c14, c15, yms, if_true, if_false, ite_true, ite_false, not_true_eq_false, not_false_eq_true, and_true, true_and, and_false, false_and, or_true, true_or, or_false, false_or, and_self, or_self, Nat.add_sub_cancel, Nat.add_eq_zero_iff, Nat.one_ne_zero, eq_self, Nat.not_lt]) (yOK_id hRR))
        · have _u := trivial
          refine lv_bipush (v := -102) hx hb dX8_measure_39 (by decide +kernel) ?_
          exact x_rmi hx hb hr hlocks dX8_measure_41 hV hS (y_lf (by simp only [sp_measure, c9, k_k, c13, c14, c15, if_true, if_false, ite_true, ite_false, not_true_eq_false, not_false_eq_true, and_true, true_and, and_false, false_and, or_true, true_or, or_false, false_or, and_self, or_self, Nat.add_sub_cancel, Nat.add_eq_zero_iff, Nat.one_ne_zero, eq_self, Nat.not_lt]) (yOK_id hRR))
  · have _u := trivial
    refine lv_bipush (v := -101) hx hb dX8_measure_8 (by decide +kernel) ?_
    exact x_rmi hx hb hr hlocks dX8_measure_10 hV hS (y_lf (by simp only [sp_measure, c9, if_true, if_false, ite_true, ite_false, not_true_eq_false, not_false_eq_true, and_true, true_and, and_false, false_and, or_true, true_or, or_false, false_or, and_self, or_self, Nat.add_sub_cancel, Nat.add_eq_zero_iff, Nat.one_ne_zero, eq_self, Nat.not_lt]) (yOK_id hRR))
