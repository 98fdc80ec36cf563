abbrev rm_X8_changedOf : Room := { frames := 1, cells := 0, slots := 0, locals := 24 }
theorem hi_X8_changedOf_X8 : ∀ w ∈ wsX80, w ∈ wsX8_changedOf := fun w h => List.mem_cons_of_mem _ (List.mem_append_right _ h)
set_option maxHeartbeats 1000000 in
set_option maxRecDepth 100000 in
theorem c_X8_changedOf (l : Launch) (D : va_G) (cy : Nat → ClassId) (loc : Nat → Nat) (w : xM) (sz : Nat) (σ : xS) (hN : xN8 σ) (hR : yR cy loc σ w) (ks kh : Nat) (hks : ks < σ.2 4) (hkh : kh < σ.2 0) (ekh : σ.1 9 (5 * ks + 1) = nI kh) (d : Int32) (hb0 : xbd σ kh (σ.1 9 (5 * ks + 2)) ≠ 0) (hb1 : xbd σ kh d ≠ 0)   : Met l yX8_changedOf wsX8_changedOf rm_X8_changedOf (va_Pc [.ref (loc (300)), .int (nI (ks)), .int (d)] (xP D cy loc w sz)) (vp_Si (fun r => r = xch σ kh (σ.1 9 (5 * ks + 2)) d)) 0 0 (fun _ => False) := by
  refine x_met (cc := cX8_changedOf) (maxL := 9) (ret := (some .int)) (C := RX8) (by decide) rfl rfl (Nat.le_of_ble_eq_true rfl) ?_
  intro p e s m below meth c ls hx hb hml hr hts hown hlocks hin hP hl
  obtain ⟨hsz, hV, hK⟩ := hP
  subst hsz
  have hl : lv_has ls 9 [(0, .ref (loc (300))), (1, .int (nI (ks))), (2, .int (d))] := hl
  have hNN := hN
  have hRR := hR
  obtain ⟨g0, b0, q0, v0, hw⟩ := hR
  obtain ⟨hN0, hN1, hN2, hN3, hN4, hN5, hN6⟩ := hN
  have f1 : w (300) = some (.inr (8, [.ref (loc (301)), .int (nI (σ.2 0)), .ref (loc (302)), .ref (loc (303)), .ref (loc (304)), .int (nI (σ.2 1)), .ref (loc (305)), .ref (loc (306)), .ref (loc (307)), .ref (loc (308)), .int (v0 0), .int (v0 1), .int (v0 2), .int (v0 3), .int (nI (σ.2 5)), .ref (loc (309)), .ref (loc (310)), .int (v0 4), .int (nI (σ.2 2)), .ref (loc (311)), .int (nI (σ.2 3)), .ref (loc (312)), .ref (loc (313)), .int (σ.1 10 0), .int (σ.1 10 1), .int (nI (σ.2 4)), .ref (loc (314))])) := (hw 0 (by decide)).trans rfl
  have f2 : w (302) = some (eI cy 8 (fun k => nI (σ.2 (10 + k)))) := (hw 2 (by decide)).trans rfl
  have f3 : w (303) = some (eI cy 48 (σ.1 1)) := (hw 3 (by decide)).trans rfl
  have f4 : w (304) = some (eI cy 432 (σ.1 2)) := (hw 4 (by decide)).trans rfl
  have f5 : w (314) = some (eI cy 60 (σ.1 9)) := (hw 14 (by decide)).trans rfl
  refine lv_aload_n hx hb dX8_changedOf_0 rfl (lv_at hl 0 rfl) ?_
  refine x_get (C := RX8) (T := TX8) (N := 27) hx hb hts hi_X8_changedOf_X8 hown hK hV f1 rfl 26 (by decide) (hts (.fieldLink RX8 49 "SaddleHouseModel" "saddle" "[I") (List.mem_of_getElem? (i := 1) rfl)) (fun _ h9 => h9) rfl dX8_changedOf_1 ?_
  refine lv_iconst (v := nI 5) hx hb dX8_changedOf_4 (by decide +kernel) ?_
  refine lv_iload_n hx hb dX8_changedOf_5 rfl (lv_at hl 1 rfl) ?_
  refine x_imul hx hb (5) (ks) dX8_changedOf_6 ?_
  refine lv_iconst (v := nI 1) hx hb dX8_changedOf_7 (by decide +kernel) ?_
  refine x_iadd hx hb (5 * ks) (1) dX8_changedOf_8 ?_
  refine x_iald hx hb hK hV f5 ((5 * ks) + 1) (by omega) (by decide) dX8_changedOf_9 ?_
  refine x_top (congrArg Value.int (show _ = nI kh from ekh)) ?_
  refine lv_istore_n (lv' := [(3, .int (nI (kh))), (0, .ref (loc (300))), (1, .int (nI (ks))), (2, .int (d))]) hx hb dX8_changedOf_10 rfl hl (by decide) rfl (fun ls hl => ?_)
  refine lv_aload_n hx hb dX8_changedOf_11 rfl (lv_at hl 1 rfl) ?_
  refine lv_iload_n hx hb dX8_changedOf_12 rfl (lv_at hl 0 rfl) ?_
  refine lv_aload_n hx hb dX8_changedOf_13 rfl (lv_at hl 1 rfl) ?_
  refine x_get (C := RX8) (T := TX8) (N := 27) hx hb hts hi_X8_changedOf_X8 hown hK hV f1 rfl 26 (by decide) (hts (.fieldLink RX8 49 "SaddleHouseModel" "saddle" "[I") (List.mem_of_getElem? (i := 1) rfl)) (fun _ h9 => h9) rfl dX8_changedOf_14 ?_
  refine lv_iconst (v := nI 5) hx hb dX8_changedOf_17 (by decide +kernel) ?_
  refine lv_iload_n hx hb dX8_changedOf_18 rfl (lv_at hl 2 rfl) ?_
  refine x_imul hx hb (5) (ks) dX8_changedOf_19 ?_
  refine lv_iconst (v := nI 2) hx hb dX8_changedOf_20 (by decide +kernel) ?_
  refine x_iadd hx hb (5 * ks) (2) dX8_changedOf_21 ?_
  refine x_iald hx hb hK hV f5 ((5 * ks) + 2) (by omega) (by decide) dX8_changedOf_22 ?_
  refine x_ci (va_runV (As := [.int (nI (kh)), .int ((σ.1 9) ((5 * ks) + 2))]) (rest := []) ⟨hx, hb, hml, hown, hts⟩ (c_X8_backAt l D cy loc w s.heap.size σ hNN hRR (σ.1 9 (5 * ks + 2)) kh (by omega)) (cwV 2 hts gX8_changedOf_X8_backAt rfl rfl rfl (by decide +kernel) ⟨Nat.le_of_ble_eq_true rfl, Nat.le_of_ble_eq_true rfl⟩) (x_preV hK hV f1 rfl) rfl rfl hl.1 rfl (lv_room (Nat.le_of_ble_eq_true rfl)) dX8_changedOf_23 ⟨Nat.le_of_ble_eq_true rfl, Nat.le_of_ble_eq_true rfl⟩) (fun r6 hr7 => ?_)
  obtain ⟨j1, h_j1, q_j1, ea8⟩ := (yat_or σ kh (σ.1 9 (5 * ks + 2))).resolve_right (fun q => hb0 q.1)
  refine x_top (congrArg Value.int ((show r6 = _ from hr7).trans ea8)) ?_
  have h6_j1 := hN6 kh
  refine lv_istore (lv' := [(4, .int (nI (9 * (6 * kh + j1)))), (3, .int (nI (kh))), (0, .ref (loc (300))), (1, .int (nI (ks))), (2, .int (d))]) hx hb dX8_changedOf_26 hl (by decide) rfl (fun ls hl => ?_)
  refine lv_aload_n hx hb dX8_changedOf_28 rfl (lv_at hl 2 rfl) ?_
  refine lv_iload_n hx hb dX8_changedOf_29 rfl (lv_at hl 1 rfl) ?_
  refine lv_iload_n hx hb dX8_changedOf_30 rfl (lv_at hl 4 rfl) ?_
  refine x_ci (va_runV (As := [.int (nI (kh)), .int (d)]) (rest := []) ⟨hx, hb, hml, hown, hts⟩ (c_X8_backAt l D cy loc w s.heap.size σ hNN hRR d kh (by omega)) (cwV 2 hts gX8_changedOf_X8_backAt rfl rfl rfl (by decide +kernel) ⟨Nat.le_of_ble_eq_true rfl, Nat.le_of_ble_eq_true rfl⟩) (x_preV hK hV f1 rfl) rfl rfl hl.1 rfl (lv_room (Nat.le_of_ble_eq_true rfl)) dX8_changedOf_31 ⟨Nat.le_of_ble_eq_true rfl, Nat.le_of_ble_eq_true rfl⟩) (fun r9 hr10 => ?_)
  obtain ⟨j2, h_j2, q_j2, ea11⟩ := (yat_or σ kh d).resolve_right (fun q => hb1 q.1)
  refine x_top (congrArg Value.int ((show r9 = _ from hr10).trans ea11)) ?_
  have h6_j2 := hN6 kh
  refine lv_istore (lv' := [(5, .int (nI (9 * (6 * kh + j2)))), (4, .int (nI (9 * (6 * kh + j1)))), (3, .int (nI (kh))), (0, .ref (loc (300))), (1, .int (nI (ks))), (2, .int (d))]) hx hb dX8_changedOf_34 hl (by decide) rfl (fun ls hl => ?_)
  refine lv_iconst (v := nI 0) hx hb dX8_changedOf_36 (by decide +kernel) ?_
  refine lv_istore (lv' := [(6, .int (nI (0))), (5, .int (nI (9 * (6 * kh + j2)))), (4, .int (nI (9 * (6 * kh + j1)))), (3, .int (nI (kh))), (0, .ref (loc (300))), (1, .int (nI (ks))), (2, .int (d))]) hx hb dX8_changedOf_37 hl (by decide) rfl (fun ls hl => ?_)
  refine lv_iconst (v := nI 0) hx hb dX8_changedOf_39 (by decide +kernel) ?_
  refine lv_istore (lv' := [(7, .int (nI (0))), (6, .int (nI (0))), (5, .int (nI (9 * (6 * kh + j2)))), (4, .int (nI (9 * (6 * kh + j1)))), (3, .int (nI (kh))), (0, .ref (loc (300))), (1, .int (nI (ks))), (2, .int (d))]) hx hb dX8_changedOf_40 hl (by decide) rfl (fun ls hl => ?_)
  have lp42_12 : ∀ (fuel13 : Nat) (mm : Int32) (i : Nat) (ls : Array Slot), 9 - i < fuel13 → (i ≤ 9) → (mm = xmd (fun i => σ.1 2 (9 * (6 * kh + j2) + i)) (fun i => σ.1 2 (9 * (6 * kh + j1) + i)) i) → lv_has ls 9 [(7, .int (nI (i))), (6, .int (mm)), (5, .int (nI (9 * (6 * kh + j2)))), (4, .int (nI (9 * (6 * kh + j1)))), (3, .int (nI (kh))), (0, .ref (loc (300))), (1, .int (nI (ks))), (2, .int (d))] → W p l e rm_X8_changedOf s m ([.ref (loc (300)), .int (nI (ks)), .int (d)] : List Value).toArray below meth c s.heap [] 0 0 (MQ below (vp_Si (fun r => r = xch σ kh (σ.1 9 (5 * ks + 2)) d)) ([.ref (loc (300)), .int (nI (ks)), .int (d)] : List Value).toArray s 0 0 (fun _ => False)) (F0 m 42 ls []) := by
    intro fuel13
    induction fuel13 with
    | zero => intro mm i ls hm14; exact absurd hm14 (Nat.not_lt_zero _)
    | succ fuel13 ih15 =>
      intro mm i ls hm14 h1 h2  hl
      refine lv_iload hx hb dX8_changedOf_42 (lv_at hl 0 rfl) ?_
      refine lv_bipush (v := nI 9) hx hb dX8_changedOf_44 (by decide +kernel) ?_
      refine x_cge hx hb (i) (9) (by omega) (by omega) (tgt := 109) dX8_changedOf_46 (by decide) (fun c16 => ?_) (fun c16 => ?_)
      · have _u := trivial
        refine lv_iload hx hb dX8_changedOf_109 (lv_at hl 1 rfl) ?_
        exact x_ri hx hb hr hlocks dX8_changedOf_111 (by show _ = _; rw [h2, show i = 9 by omega]; simp only [xch, q_j1, q_j2, if_true, if_false, ite_true, ite_false, not_true_eq_false, not_false_eq_true, and_true, true_and, and_false, false_and, or_true, true_or, or_false, false_or, and_self, or_self, Nat.add_sub_cancel, Nat.add_eq_zero_iff, Nat.one_ne_zero, eq_self, Nat.not_lt])
      · have _u := trivial
        refine lv_aload_n hx hb dX8_changedOf_49 rfl (lv_at hl 5 rfl) ?_
        refine x_get (C := RX8) (T := TX8) (N := 27) hx hb hts hi_X8_changedOf_X8 hown hK hV f1 rfl 4 (by decide) (hts (.fieldLink RX8 19 "SaddleHouseModel" "heights" "[I") (List.mem_of_getElem? (i := 2) rfl)) (fun _ h9 => h9) rfl dX8_changedOf_50 ?_
        refine lv_iload hx hb dX8_changedOf_53 (lv_at hl 2 rfl) ?_
        refine lv_iload hx hb dX8_changedOf_55 (lv_at hl 0 rfl) ?_
        refine x_iadd hx hb (9 * (6 * kh + j2)) (i) dX8_changedOf_57 ?_
        refine x_iald hx hb hK hV f4 ((9 * (6 * kh + j2)) + i) (by omega) (by decide) dX8_changedOf_58 ?_
        refine lv_aload_n hx hb dX8_changedOf_59 rfl (lv_at hl 5 rfl) ?_
        refine x_get (C := RX8) (T := TX8) (N := 27) hx hb hts hi_X8_changedOf_X8 hown hK hV f1 rfl 4 (by decide) (hts (.fieldLink RX8 19 "SaddleHouseModel" "heights" "[I") (List.mem_of_getElem? (i := 2) rfl)) (fun _ h9 => h9) rfl dX8_changedOf_60 ?_
        refine lv_iload hx hb dX8_changedOf_63 (lv_at hl 3 rfl) ?_
        refine lv_iload hx hb dX8_changedOf_65 (lv_at hl 0 rfl) ?_
        refine x_iadd hx hb (9 * (6 * kh + j1)) (i) dX8_changedOf_67 ?_
        refine x_iald hx hb hK hV f4 ((9 * (6 * kh + j1)) + i) (by omega) (by decide) dX8_changedOf_68 ?_
        refine lv_isub hx hb dX8_changedOf_69 ?_
        refine lv_istore (lv' := [(8, .int (((σ.1 2) ((9 * (6 * kh + j2)) + i)) - ((σ.1 2) ((9 * (6 * kh + j1)) + i)))), (7, .int (nI (i))), (6, .int (mm)), (5, .int (nI (9 * (6 * kh + j2)))), (4, .int (nI (9 * (6 * kh + j1)))), (3, .int (nI (kh))), (0, .ref (loc (300))), (1, .int (nI (ks))), (2, .int (d))]) hx hb dX8_changedOf_70 hl (by decide) rfl (fun ls hl => ?_)
        refine lv_iload hx hb dX8_changedOf_72 (lv_at hl 0 rfl) ?_
        refine lv_if_ge (tgt := 83) hx hb dX8_changedOf_74 (by decide) (fun c17 => ?_) (fun c17 => ?_)
        · have _u := trivial
          refine lv_iload hx hb dX8_changedOf_83 (lv_at hl 0 rfl) ?_
          refine x_top (congrArg Value.int (show ((σ.1 2) ((9 * (6 * kh + j2)) + i)) - ((σ.1 2) ((9 * (6 * kh + j1)) + i)) = xab (σ.1 2 (9 * (6 * kh + j2) + i) - σ.1 2 (9 * (6 * kh + j1) + i)) from (yab_y c17))) ?_
          refine lv_istore (lv' := [(8, .int (xab (σ.1 2 (9 * (6 * kh + j2) + i) - σ.1 2 (9 * (6 * kh + j1) + i)))), (7, .int (nI (i))), (6, .int (mm)), (5, .int (nI (9 * (6 * kh + j2)))), (4, .int (nI (9 * (6 * kh + j1)))), (3, .int (nI (kh))), (0, .ref (loc (300))), (1, .int (nI (ks))), (2, .int (d))]) hx hb dX8_changedOf_85 hl (by decide) rfl (fun ls hl => ?_)
          refine lv_iload hx hb dX8_changedOf_87 (lv_at hl 0 rfl) ?_
          refine lv_iload hx hb dX8_changedOf_89 (lv_at hl 2 rfl) ?_
          refine lv_icmp_le (tgt := 99) hx hb dX8_changedOf_91 (by decide) (fun c18 => ?_) (fun c18 => ?_)
          · have _u := trivial
            refine lv_iload hx hb dX8_changedOf_99 (lv_at hl 2 rfl) ?_
            refine lv_istore (lv' := [(6, .int (mm)), (8, .int (xab (σ.1 2 (9 * (6 * kh + j2) + i) - σ.1 2 (9 * (6 * kh + j1) + i)))), (7, .int (nI (i))), (5, .int (nI (9 * (6 * kh + j2)))), (4, .int (nI (9 * (6 * kh + j1)))), (3, .int (nI (kh))), (0, .ref (loc (300))), (1, .int (nI (ks))), (2, .int (d))]) hx hb dX8_changedOf_101 hl (by decide) rfl (fun ls hl => ?_)
            refine lv_iinc (v := nI (i + 1)) (lv' := [(7, .int (nI (i + 1))), (6, .int (mm)), (8, .int (xab (σ.1 2 (9 * (6 * kh + j2) + i) - σ.1 2 (9 * (6 * kh + j1) + i)))), (5, .int (nI (9 * (6 * kh + j2)))), (4, .int (nI (9 * (6 * kh + j1)))), (3, .int (nI (kh))), (0, .ref (loc (300))), (1, .int (nI (ks))), (2, .int (d))]) hx hb dX8_changedOf_103 hl (k := 2) rfl (nI_add _ _) (by decide) rfl (fun ls hl => ?_)
            refine lv_goto (tgt := 42) hx hb dX8_changedOf_106 (by decide) ?_
            exact ih15 mm (i + 1) ls (by omega) (by omega) (ymd_n h2 rfl c18) (lv_sub hl [0, 1, 3, 4, 5, 6, 7, 8] rfl)
          · have _u := trivial
            refine lv_iload hx hb dX8_changedOf_94 (lv_at hl 0 rfl) ?_
            refine lv_goto (tgt := 101) hx hb dX8_changedOf_96 (by decide) ?_
            refine lv_istore (lv' := [(6, .int (xab (σ.1 2 (9 * (6 * kh + j2) + i) - σ.1 2 (9 * (6 * kh + j1) + i)))), (8, .int (xab (σ.1 2 (9 * (6 * kh + j2) + i) - σ.1 2 (9 * (6 * kh + j1) + i)))), (7, .int (nI (i))), (5, .int (nI (9 * (6 * kh + j2)))), (4, .int (nI (9 * (6 * kh + j1)))), (3, .int (nI (kh))), (0, .ref (loc (300))), (1, .int (nI (ks))), (2, .int (d))]) hx hb dX8_changedOf_101 hl (by decide) rfl (fun ls hl => ?_)
            refine lv_iinc (v := nI (i + 1)) (lv' := [(7, .int (nI (i + 1))), (6, .int (xab (σ.1 2 (9 * (6 * kh + j2) + i) - σ.1 2 (9 * (6 * kh + j1) + i)))), (8, .int (xab (σ.1 2 (9 * (6 * kh + j2) + i) - σ.1 2 (9 * (6 * kh + j1) + i)))), (5, .int (nI (9 * (6 * kh + j2)))), (4, .int (nI (9 * (6 * kh + j1)))), (3, .int (nI (kh))), (0, .ref (loc (300))), (1, .int (nI (ks))), (2, .int (d))]) hx hb dX8_changedOf_103 hl (k := 2) rfl (nI_add _ _) (by decide) rfl (fun ls hl => ?_)
            refine lv_goto (tgt := 42) hx hb dX8_changedOf_106 (by decide) ?_
            exact ih15 (xab (σ.1 2 (9 * (6 * kh + j2) + i) - σ.1 2 (9 * (6 * kh + j1) + i))) (i + 1) ls (by omega) (by omega) (ymd_y h2 rfl c18) (lv_sub hl [0, 1, 3, 4, 5, 6, 7, 8] rfl)
        · have _u := trivial
          refine lv_iload hx hb dX8_changedOf_77 (lv_at hl 0 rfl) ?_
          refine lv_ineg hx hb dX8_changedOf_79 ?_
          refine lv_goto (tgt := 85) hx hb dX8_changedOf_80 (by decide) ?_
          refine x_top (congrArg Value.int (show -(((σ.1 2) ((9 * (6 * kh + j2)) + i)) - ((σ.1 2) ((9 * (6 * kh + j1)) + i))) = xab (σ.1 2 (9 * (6 * kh + j2) + i) - σ.1 2 (9 * (6 * kh + j1) + i)) from (yab_n c17))) ?_
          refine lv_istore (lv' := [(8, .int (xab (σ.1 2 (9 * (6 * kh + j2) + i) - σ.1 2 (9 * (6 * kh + j1) + i)))), (7, .int (nI (i))), (6, .int (mm)), (5, .int (nI (9 * (6 * kh + j2)))), (4, .int (nI (9 * (6 * kh + j1)))), (3, .int (nI (kh))), (0, .ref (loc (300))), (1, .int (nI (ks))), (2, .int (d))]) hx hb dX8_changedOf_85 hl (by decide) rfl (fun ls hl => ?_)
          refine lv_iload hx hb dX8_changedOf_87 (lv_at hl 0 rfl) ?_
          refine lv_iload hx hb dX8_changedOf_89 (lv_at hl 2 rfl) ?_
          refine lv_icmp_le (tgt := 99) hx hb dX8_changedOf_91 (by decide) (fun c19 => ?_) (fun c19 => ?_)
          · have _u := trivial
            refine lv_iload hx hb dX8_changedOf_99 (lv_at hl 2 rfl) ?_
            refine lv_istore (lv' := [(6, .int (mm)), (8, .int (xab (σ.1 2 (9 * (6 * kh + j2) + i) - σ.1 2 (9 * (6 * kh + j1) + i)))), (7, .int (nI (i))), (5, .int (nI (9 * (6 * kh + j2)))), (4, .int (nI (9 * (6 * kh + j1)))), (3, .int (nI (kh))), (0, .ref (loc (300))), (1, .int (nI (ks))), (2, .int (d))]) hx hb dX8_changedOf_101 hl (by decide) rfl (fun ls hl => ?_)
            refine lv_iinc (v := nI (i + 1)) (lv' := [(7, .int (nI (i + 1))), (6, .int (mm)), (8, .int (xab (σ.1 2 (9 * (6 * kh + j2) + i) - σ.1 2 (9 * (6 * kh + j1) + i)))), (5, .int (nI (9 * (6 * kh + j2)))), (4, .int (nI (9 * (6 * kh + j1)))), (3, .int (nI (kh))), (0, .ref (loc (300))), (1, .int (nI (ks))), (2, .int (d))]) hx hb dX8_changedOf_103 hl (k := 2) rfl (nI_add _ _) (by decide) rfl (fun ls hl => ?_)
            refine lv_goto (tgt := 42) hx hb dX8_changedOf_106 (by decide) ?_
            exact ih15 mm (i + 1) ls (by omega) (by omega) (ymd_n h2 rfl c19) (lv_sub hl [0, 1, 3, 4, 5, 6, 7, 8] rfl)
          · have _u := trivial
            refine lv_iload hx hb dX8_changedOf_94 (lv_at hl 0 rfl) ?_
            refine lv_goto (tgt := 101) hx hb dX8_changedOf_96 (by decide) ?_
            refine lv_istore (lv' := [(6, .int (xab (σ.1 2 (9 * (6 * kh + j2) + i) - σ.1 2 (9 * (6 * kh + j1) + i)))), (8, .int (xab (σ.1 2 (9 * (6 * kh + j2) + i) - σ.1 2 (9 * (6 * kh + j1) + i)))), (7, .int (nI (i))), (5, .int (nI (9 * (6 * kh + j2)))), (4, .int (nI (9 * (6 * kh + j1)))), (3, .int (nI (kh))), (0, .ref (loc (300))), (1, .int (nI (ks))), (2, .int (d))]) hx hb dX8_changedOf_101 hl (by decide) rfl (fun ls hl => ?_)
            refine lv_iinc (v := nI (i + 1)) (lv' := [(7, .int (nI (i + 1))), (6, .int (xab (σ.1 2 (9 * (6 * kh + j2) + i) - σ.1 2 (9 * (6 * kh + j1) + i)))), (8, .int (xab (σ.1 2 (9 * (6 * kh + j2) + i) - σ.1 2 (9 * (6 * kh + j1) + i)))), (5, .int (nI (9 * (6 * kh + j2)))), (4, .int (nI (9 * (6 * kh + j1)))), (3, .int (nI (kh))), (0, .ref (loc (300))), (1, .int (nI (ks))), (2, .int (d))]) hx hb dX8_changedOf_103 hl (k := 2) rfl (nI_add _ _) (by decide) rfl (fun ls hl => ?_)
            refine lv_goto (tgt := 42) hx hb dX8_changedOf_106 (by decide) ?_
            exact ih15 (xab (σ.1 2 (9 * (6 * kh + j2) + i) - σ.1 2 (9 * (6 * kh + j1) + i))) (i + 1) ls (by omega) (by omega) (ymd_y h2 rfl c19) (lv_sub hl [0, 1, 3, 4, 5, 6, 7, 8] rfl)
  exact lp42_12 (9 + 1) (nI 0) 0 ls (by omega) (Nat.zero_le _) rfl (lv_sub hl [0, 1, 2, 3, 4, 5, 6, 7] rfl)
