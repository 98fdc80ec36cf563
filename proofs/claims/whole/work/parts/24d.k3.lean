abbrev rm_X8_tree : Room := { frames := 0, cells := 0, slots := 0, locals := 0 }
theorem hi_X8_tree_X8 : ∀ w ∈ wsX80, w ∈ wsX8_tree := fun w h => List.mem_cons_of_mem _ (List.mem_append_right _ h)
set_option maxHeartbeats 4000000 in
set_option maxRecDepth 100000 in
theorem c_X8_tree (l : Launch) (D : va_G) (cy : Nat → ClassId) (loc : Nat → Nat) (w : xM) (sz : Nat) (σ : xS) (hN : xN8 σ) (hR : yR cy loc σ w)   : Met l yX8_tree wsX8_tree rm_X8_tree (va_Pc [.ref (loc (300))] (xP D cy loc w sz)) (va_Qi (fun r u => r = (sp_tree σ).1 ∧ yOK cy loc w (sp_tree σ).2 u) (xB D (xA loc w sz)) (xA loc w sz)) 0 0 (xA loc w sz) := by
  refine x_met (cc := cX8_tree) (maxL := 2) (ret := (some .int)) (C := RX8) (by decide) rfl rfl (Nat.le_of_ble_eq_true rfl) ?_
  intro p e s m below meth c ls hx hb hml hr hts hown hlocks hin hP hl
  obtain ⟨hsz, hV, hK⟩ := hP
  subst hsz
  have hA : ∀ q : Nat, s.heap.size ≤ q → xA loc w s.heap.size q := fun q h => Or.inr h
  have hS : va_S (xA loc w s.heap.size) s.heap s.heap [] := va_S.rf
  have hl : lv_has ls 2 [(0, .ref (loc (300)))] := hl
  have hNN := hN
  have hRR := hR
  obtain ⟨g0, b0, q0, v0, hw⟩ := hR
  obtain ⟨hN0, hN1, hN2, hN3, hN4, hN5, hN6⟩ := hN
  have f1 : w (300) = some (.inr (8, [.ref (loc (301)), .int (nI (σ.2 0)), .ref (loc (302)), .ref (loc (303)), .ref (loc (304)), .int (nI (σ.2 1)), .ref (loc (305)), .ref (loc (306)), .ref (loc (307)), .ref (loc (308)), .int (v0 0), .int (v0 1), .int (v0 2), .int (v0 3), .int (nI (σ.2 5)), .ref (loc (309)), .ref (loc (310)), .int (v0 4), .int (nI (σ.2 2)), .ref (loc (311)), .int (nI (σ.2 3)), .ref (loc (312)), .ref (loc (313)), .int (σ.1 10 0), .int (σ.1 10 1), .int (nI (σ.2 4)), .ref (loc (314))])) := (hw 0 (by decide)).trans rfl
  have f2 : w (301) = some (eI cy 9 (σ.1 0)) := (hw 1 (by decide)).trans rfl
  have f3 : w (305) = some (eI cy 72 (σ.1 3)) := (hw 5 (by decide)).trans rfl
  refine lv_iconst (v := nI 0) hx hb dX8_tree_0 (by decide +kernel) ?_
  refine lv_istore_n (lv' := [(1, .int (nI (0))), (0, .ref (loc (300)))]) hx hb dX8_tree_1 rfl hl (by decide) rfl (fun ls hl => ?_)
  have lp2_4 : ∀ (fuel5 : Nat) (i : Nat) (ls : Array Slot), 9 - i < fuel5 → (i ≤ 9) → (∀ k, k < i → ¬ σ.1 0 k = -1) → lv_has ls 2 [(1, .int (nI (i))), (0, .ref (loc (300)))] → W p l e rm_X8_tree s m ([.ref (loc (300))] : List Value).toArray below meth c s.heap [] 0 0 (MQ below (va_Qi (fun r u => r = (sp_tree σ).1 ∧ yOK cy loc w (sp_tree σ).2 u) (xB D (xA loc w s.heap.size)) (xA loc w s.heap.size)) ([.ref (loc (300))] : List Value).toArray s 0 0 (xA loc w s.heap.size)) (F0 m 2 ls []) := by
    intro fuel5
    induction fuel5 with
    | zero => intro i ls hm6; exact absurd hm6 (Nat.not_lt_zero _)
    | succ fuel5 ih7 =>
      intro i ls hm6 h1 h2  hl
      refine lv_iload_n hx hb dX8_tree_2 rfl (lv_at hl 0 rfl) ?_
      refine lv_bipush (v := nI 9) hx hb dX8_tree_3 (by decide +kernel) ?_
      refine x_cge hx hb (i) (9) (by omega) (by omega) (tgt := 27) dX8_tree_5 (by decide) (fun c8 => ?_) (fun c8 => ?_)
      · have _u := trivial
        have y2 : (xgl σ) = True := eq_true (fun k hk => h2 k (by omega))
        refine lv_aload_n hx hb dX8_tree_27 rfl (lv_at hl 1 rfl) ?_
        refine x_get (C := RX8) (T := TX8) (N := 27) hx hb hts hi_X8_tree_X8 hown hK hV f1 rfl 5 (by decide) (hts (.fieldLink RX8 88 "SaddleHouseModel" "trees" "I") (List.mem_of_getElem? (i := 2) rfl)) (fun _ h9 => h9) rfl dX8_tree_28 ?_
        refine lv_bipush (v := nI 8) hx hb dX8_tree_31 (by decide +kernel) ?_
        refine x_cne hx hb (σ.2 1) (8) (by omega) (by omega) (tgt := 39) dX8_tree_33 (by decide) (fun c9 => ?_) (fun c9 => ?_)
        · have _u := trivial
          have yf_1 : σ.2 1 < 8 := by omega
          refine lv_iconst (v := nI 0) hx hb dX8_tree_39 (by decide +kernel) ?_
          refine lv_istore_n (lv' := [(1, .int (nI (0))), (0, .ref (loc (300)))]) hx hb dX8_tree_40 rfl hl (by decide) rfl (fun ls hl => ?_)
          have lp41_10 : ∀ (fuel15 : Nat) (j : Nat) (fz : Nat → Int32) (ls : Array Slot) (H11 : Heap) (L12 : List Loc), 9 - j < fuel15 → (j ≤ 9) → (fz = xfl (σ.1 3) (9 * σ.2 1) j (σ.1 0)) → xV D (xA loc w s.heap.size) loc ((xup w (305) (eI cy 72 (fz)))) H11 → va_S (xA loc w s.heap.size) s.heap H11 L12 → lv_has ls 2 [(1, .int (nI (j))), (0, .ref (loc (300)))] → W p l e rm_X8_tree s m ([.ref (loc (300))] : List Value).toArray below meth c H11 L12 0 0 (MQ below (va_Qi (fun r u => r = (sp_tree σ).1 ∧ yOK cy loc w (sp_tree σ).2 u) (xB D (xA loc w s.heap.size)) (xA loc w s.heap.size)) ([.ref (loc (300))] : List Value).toArray s 0 0 (xA loc w s.heap.size)) (F0 m 41 ls []) := by
            intro fuel15
            induction fuel15 with
            | zero => intro j fz ls H11 L12 hm16; exact absurd hm16 (Nat.not_lt_zero _)
            | succ fuel15 ih17 =>
              intro j fz ls H11 L12 hm16 h3 h4 hV13 hS14 hl
              have f18 : (xup w (305) (eI cy 72 (fz))) (300) = some (.inr (8, [.ref (loc (301)), .int (nI (σ.2 0)), .ref (loc (302)), .ref (loc (303)), .ref (loc (304)), .int (nI (σ.2 1)), .ref (loc (305)), .ref (loc (306)), .ref (loc (307)), .ref (loc (308)), .int (v0 0), .int (v0 1), .int (v0 2), .int (v0 3), .int (nI (σ.2 5)), .ref (loc (309)), .ref (loc (310)), .int (v0 4), .int (nI (σ.2 2)), .ref (loc (311)), .int (nI (σ.2 3)), .ref (loc (312)), .ref (loc (313)), .int (σ.1 10 0), .int (σ.1 10 1), .int (nI (σ.2 4)), .ref (loc (314))])) := xup_o (f1) (by omega)
              have f19 : (xup w (305) (eI cy 72 (fz))) (301) = some (eI cy 9 (σ.1 0)) := xup_o (f2) (by omega)
              have f20 : (xup w (305) (eI cy 72 (fz))) (305) = some (eI cy 72 (fz)) := xup_at _ _ _
              refine lv_iload_n hx hb dX8_tree_41 rfl (lv_at hl 0 rfl) ?_
              refine lv_bipush (v := nI 9) hx hb dX8_tree_42 (by decide +kernel) ?_
              refine x_cge hx hb (j) (9) (by omega) (by omega) (tgt := 73) dX8_tree_44 (by decide) (fun c21 => ?_) (fun c21 => ?_)
              · have _u := trivial
                have h5 : fz = xfl (σ.1 3) (9 * σ.2 1) 9 (σ.1 0) := by rw [h4, show j = 9 by omega]
                refine lv_aload_n hx hb dX8_tree_73 rfl (lv_at hl 1 rfl) ?_
                refine lv_dup hx hb dX8_tree_74 rfl ?_
                refine x_get (C := RX8) (T := TX8) (N := 27) hx hb hts hi_X8_tree_X8 hown hK hV13 f18 rfl 5 (by decide) (hts (.fieldLink RX8 88 "SaddleHouseModel" "trees" "I") (List.mem_of_getElem? (i := 2) rfl)) (fun _ h9 => h9) rfl dX8_tree_75 ?_
                refine lv_iconst (v := nI 1) hx hb dX8_tree_78 (by decide +kernel) ?_
                refine x_iadd hx hb (σ.2 1) (1) dX8_tree_79 ?_
                refine x_putf (C := RX8) (T := TX8) (N := 27) (v := .int (nI ((σ.2 1) + 1))) (ty := .int) hx hb hts hi_X8_tree_X8 tyX8 tyX8_ok nmX8 hown hK hV13 hS14 f18 rfl 5 (by decide) (hts (.fieldLink RX8 88 "SaddleHouseModel" "trees" "I") (List.mem_of_getElem? (i := 2) rfl)) (fun _ h9 => h9) rfl (by decide +kernel) rfl rfl (Nat.le_of_ble_eq_true rfl) dX8_tree_80 (fun H22 L23 hV24 hS25 => ?_)
                have f26 : (xup (xup w (305) (eI cy 72 (fz))) (300) (.inr (8, [.ref (loc (301)), .int (nI (σ.2 0)), .ref (loc (302)), .ref (loc (303)), .ref (loc (304)), .int (nI ((σ.2 1) + 1)), .ref (loc (305)), .ref (loc (306)), .ref (loc (307)), .ref (loc (308)), .int (v0 0), .int (v0 1), .int (v0 2), .int (v0 3), .int (nI (σ.2 5)), .ref (loc (309)), .ref (loc (310)), .int (v0 4), .int (nI (σ.2 2)), .ref (loc (311)), .int (nI (σ.2 3)), .ref (loc (312)), .ref (loc (313)), .int (σ.1 10 0), .int (σ.1 10 1), .int (nI (σ.2 4)), .ref (loc (314))]))) (300) = some (.inr (8, [.ref (loc (301)), .int (nI (σ.2 0)), .ref (loc (302)), .ref (loc (303)), .ref (loc (304)), .int (nI ((σ.2 1) + 1)), .ref (loc (305)), .ref (loc (306)), .ref (loc (307)), .ref (loc (308)), .int (v0 0), .int (v0 1), .int (v0 2), .int (v0 3), .int (nI (σ.2 5)), .ref (loc (309)), .ref (loc (310)), .int (v0 4), .int (nI (σ.2 2)), .ref (loc (311)), .int (nI (σ.2 3)), .ref (loc (312)), .ref (loc (313)), .int (σ.1 10 0), .int (σ.1 10 1), .int (nI (σ.2 4)), .ref (loc (314))])) := xup_at _ _ _
                have f27 : (xup (xup w (305) (eI cy 72 (fz))) (300) (.inr (8, [.ref (loc (301)), .int (nI (σ.2 0)), .ref (loc (302)), .ref (loc (303)), .ref (loc (304)), .int (nI ((σ.2 1) + 1)), .ref (loc (305)), .ref (loc (306)), .ref (loc (307)), .ref (loc (308)), .int (v0 0), .int (v0 1), .int (v0 2), .int (v0 3), .int (nI (σ.2 5)), .ref (loc (309)), .ref (loc (310)), .int (v0 4), .int (nI (σ.2 2)), .ref (loc (311)), .int (nI (σ.2 3)), .ref (loc (312)), .ref (loc (313)), .int (σ.1 10 0), .int (σ.1 10 1), .int (nI (σ.2 4)), .ref (loc (314))]))) (301) = some (eI cy 9 (σ.1 0)) := xup_o (xup_o (f2) (by omega)) (by omega)
                have f28 : (xup (xup w (305) (eI cy 72 (fz))) (300) (.inr (8, [.ref (loc (301)), .int (nI (σ.2 0)), .ref (loc (302)), .ref (loc (303)), .ref (loc (304)), .int (nI ((σ.2 1) + 1)), .ref (loc (305)), .ref (loc (306)), .ref (loc (307)), .ref (loc (308)), .int (v0 0), .int (v0 1), .int (v0 2), .int (v0 3), .int (nI (σ.2 5)), .ref (loc (309)), .ref (loc (310)), .int (v0 4), .int (nI (σ.2 2)), .ref (loc (311)), .int (nI (σ.2 3)), .ref (loc (312)), .ref (loc (313)), .int (σ.1 10 0), .int (σ.1 10 1), .int (nI (σ.2 4)), .ref (loc (314))]))) (305) = some (eI cy 72 (fz)) := xup_o (xup_at _ _ _) (by omega)
                refine lv_aload_n hx hb dX8_tree_83 rfl (lv_at hl 1 rfl) ?_
                refine x_get (C := RX8) (T := TX8) (N := 27) hx hb hts hi_X8_tree_X8 hown hK hV24 f26 rfl 5 (by decide) (hts (.fieldLink RX8 88 "SaddleHouseModel" "trees" "I") (List.mem_of_getElem? (i := 2) rfl)) (fun _ h9 => h9) rfl dX8_tree_84 ?_
                refine lv_iconst (v := nI 1) hx hb dX8_tree_87 (by decide +kernel) ?_
                refine x_isub hx hb ((σ.2 1) + 1) (1) (by omega) dX8_tree_88 ?_
                exact x_rmi hx hb hr hlocks dX8_tree_89 hV24 hS25 (y_lf (σ' := xtr σ) (by simp only [sp_tree, y2, yf_1, if_true, if_false, ite_true, ite_false, not_true_eq_false, not_false_eq_true, and_true, true_and, and_false, false_and, or_true, true_or, or_false, false_or, and_self, or_self, Nat.add_sub_cancel, Nat.add_eq_zero_iff, Nat.one_ne_zero, eq_self, Nat.not_lt]) (by rw [h5]; exact yOK_tree hw))
              · have _u := trivial
                refine lv_aload_n hx hb dX8_tree_47 rfl (lv_at hl 1 rfl) ?_
                refine x_get (C := RX8) (T := TX8) (N := 27) hx hb hts hi_X8_tree_X8 hown hK hV13 f18 rfl 6 (by decide) (hts (.fieldLink RX8 22 "SaddleHouseModel" "body" "[I") (List.mem_of_getElem? (i := 3) rfl)) (fun _ h9 => h9) rfl dX8_tree_48 ?_
                refine lv_bipush (v := nI 9) hx hb dX8_tree_51 (by decide +kernel) ?_
                refine lv_aload_n hx hb dX8_tree_53 rfl (lv_at hl 1 rfl) ?_
                refine x_get (C := RX8) (T := TX8) (N := 27) hx hb hts hi_X8_tree_X8 hown hK hV13 f18 rfl 5 (by decide) (hts (.fieldLink RX8 88 "SaddleHouseModel" "trees" "I") (List.mem_of_getElem? (i := 2) rfl)) (fun _ h9 => h9) rfl dX8_tree_54 ?_
                refine x_imul hx hb (9) (σ.2 1) dX8_tree_57 ?_
                refine lv_iload_n hx hb dX8_tree_58 rfl (lv_at hl 0 rfl) ?_
                refine x_iadd hx hb (9 * (σ.2 1)) (j) dX8_tree_59 ?_
                refine lv_aload_n hx hb dX8_tree_60 rfl (lv_at hl 1 rfl) ?_
                refine x_get (C := RX8) (T := TX8) (N := 27) hx hb hts hi_X8_tree_X8 hown hK hV13 f18 rfl 0 (by decide) (hts (.fieldLink RX8 7 "SaddleHouseModel" "hand" "[I") (List.mem_of_getElem? (i := 1) rfl)) (fun _ h9 => h9) rfl dX8_tree_61 ?_
                refine lv_iload_n hx hb dX8_tree_64 rfl (lv_at hl 0 rfl) ?_
                refine x_iald hx hb hK hV13 f19 (j) (by omega) (by decide) dX8_tree_65 ?_
                refine x_iast hx hb hK hV13 hS14 f20 ((9 * (σ.2 1)) + j) (by omega) (by decide) dX8_tree_66 (fun H29 L30 hV31 hS32 => ?_)
                have hV33 := hV31.eq (xup_xup _ _ _ _)
                have f34 : (xup w (305) (eI cy 72 (upd fz ((9 * (σ.2 1)) + j) ((σ.1 0) j)))) (300) = some (.inr (8, [.ref (loc (301)), .int (nI (σ.2 0)), .ref (loc (302)), .ref (loc (303)), .ref (loc (304)), .int (nI (σ.2 1)), .ref (loc (305)), .ref (loc (306)), .ref (loc (307)), .ref (loc (308)), .int (v0 0), .int (v0 1), .int (v0 2), .int (v0 3), .int (nI (σ.2 5)), .ref (loc (309)), .ref (loc (310)), .int (v0 4), .int (nI (σ.2 2)), .ref (loc (311)), .int (nI (σ.2 3)), .ref (loc (312)), .ref (loc (313)), .int (σ.1 10 0), .int (σ.1 10 1), .int (nI (σ.2 4)), .ref (loc (314))])) := xup_o (f1) (by omega)
                have f35 : (xup w (305) (eI cy 72 (upd fz ((9 * (σ.2 1)) + j) ((σ.1 0) j)))) (301) = some (eI cy 9 (σ.1 0)) := xup_o (f2) (by omega)
                have f36 : (xup w (305) (eI cy 72 (upd fz ((9 * (σ.2 1)) + j) ((σ.1 0) j)))) (305) = some (eI cy 72 (upd fz ((9 * (σ.2 1)) + j) ((σ.1 0) j))) := xup_at _ _ _
                refine lv_iinc (v := nI (j + 1)) (lv' := [(1, .int (nI (j + 1))), (0, .ref (loc (300)))]) hx hb dX8_tree_67 hl (k := 0) rfl (nI_add _ _) (by decide) rfl (fun ls hl => ?_)
                refine lv_goto (tgt := 41) hx hb dX8_tree_70 (by decide) ?_
                exact ih17 (j + 1) (upd fz ((9 * (σ.2 1)) + j) ((σ.1 0) j)) ls _ _ (by omega) (by omega) (by rw [h4]; exact xfl_s) hV33 hS32 (lv_sub hl [0, 1] rfl)
          exact lp41_10 (9 + 1) 0 (σ.1 3) ls _ _ (by omega) (Nat.zero_le _) xfl_0 (hV.eq (xup_id f3).symm) hS (lv_sub hl [0, 1] rfl)
        · have _u := trivial
          have yf_1 : (σ.2 1 < 8) = False := eq_false (by omega)
          refine lv_bipush (v := -104) hx hb dX8_tree_36 (by decide +kernel) ?_
          exact x_rmi hx hb hr hlocks dX8_tree_38 hV hS (y_lf (by simp only [sp_tree, c8, y2, yf_1, if_true, if_false, ite_true, ite_false, not_true_eq_false, not_false_eq_true, and_true, true_and, and_false, false_and, or_true, true_or, or_false, false_or, and_self, or_self, Nat.add_sub_cancel, Nat.add_eq_zero_iff, Nat.one_ne_zero, eq_self, Nat.not_lt]) (yOK_id hRR))
      · have _u := trivial
        refine lv_aload_n hx hb dX8_tree_8 rfl (lv_at hl 1 rfl) ?_
        refine x_get (C := RX8) (T := TX8) (N := 27) hx hb hts hi_X8_tree_X8 hown hK hV f1 rfl 0 (by decide) (hts (.fieldLink RX8 7 "SaddleHouseModel" "hand" "[I") (List.mem_of_getElem? (i := 1) rfl)) (fun _ h9 => h9) rfl dX8_tree_9 ?_
        refine lv_iload_n hx hb dX8_tree_12 rfl (lv_at hl 0 rfl) ?_
        refine x_iald hx hb hK hV f2 (i) (by omega) (by decide) dX8_tree_13 ?_
        refine lv_iconst (v := -1) hx hb dX8_tree_14 (by decide +kernel) ?_
        refine lv_icmp_ne (tgt := 21) hx hb dX8_tree_15 (by decide) (fun c37 => ?_) (fun c37 => ?_)
        · have _u := trivial
          refine lv_iinc (v := nI (i + 1)) (lv' := [(1, .int (nI (i + 1))), (0, .ref (loc (300)))]) hx hb dX8_tree_21 hl (k := 0) rfl (nI_add _ _) (by decide) rfl (fun ls hl => ?_)
          refine lv_goto (tgt := 2) hx hb dX8_tree_24 (by decide) ?_
          exact ih7 (i + 1) ls (by omega) (by omega) (x_alls h2 c37) (lv_sub hl [0, 1] rfl)
        · have _u := trivial
          have y1 : (xgl σ) = False := eq_false (fun q => q i (by omega) c37)
          refine lv_bipush (v := -102) hx hb dX8_tree_18 (by decide +kernel) ?_
          exact x_rmi hx hb hr hlocks dX8_tree_20 hV hS (y_lf (by simp only [sp_tree, y1, if_true, if_false, ite_true, ite_false, not_true_eq_false, not_false_eq_true, and_true, true_and, and_false, false_and, or_true, true_or, or_false, false_or, and_self, or_self, Nat.add_sub_cancel, Nat.add_eq_zero_iff, Nat.one_ne_zero, eq_self, Nat.not_lt]) (yOK_id hRR))
  exact lp2_4 (9 + 1) 0 ls (by omega) (Nat.zero_le _) (fun k h => absurd h (Nat.not_lt_zero k)) (lv_sub hl [0, 1] rfl)
