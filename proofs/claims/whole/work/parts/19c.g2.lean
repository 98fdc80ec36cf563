abbrev rm_X7_work : Room := { frames := 3, cells := 0, slots := 0, locals := 65 }
theorem hi_X7_work_X0 : ∀ w ∈ wsX00, w ∈ wsX7_work := fun w h => List.mem_cons_of_mem _ (List.mem_append_right _ h)
theorem hi_X7_work_X7 : ∀ w ∈ wsX70, w ∈ wsX7_work := fun w h => List.mem_cons_of_mem _ (List.mem_append_left _ (List.mem_append_right _ h))
set_option maxHeartbeats 4000000 in
set_option maxRecDepth 100000 in
theorem c_X7_work (l : Launch) (D : va_G) (cy : Nat → ClassId) (loc : Nat → Nat) (w : xM) (sz : Nat) (σ : xS) (hN : xN8 σ) (hR : xR cy loc σ w) (n d : Int32)  : Met l yX7_work wsX7_work rm_X7_work (va_Pc [.ref (loc (0)), .int (n), .int (d)] (xP D cy loc w sz)) (va_Qi (fun r u => r = (sp_work σ n d).1 ∧ xOK cy loc w (sp_work σ n d).2 u) (xB D (xA loc w sz)) (xA loc w sz)) 0 0 (xA loc w sz) := by
  refine x_met (cc := cX7_work) (maxL := 7) (ret := (some .int)) (C := RX7) (by decide) rfl rfl (Nat.le_of_ble_eq_true rfl) ?_
  intro p e s m below meth c ls hx hb hml hr hts hown hlocks hin hP hl
  obtain ⟨hsz, hV, hK⟩ := hP
  subst hsz
  have hA : ∀ q : Nat, s.heap.size ≤ q → xA loc w s.heap.size q := fun q h => Or.inr h
  have hS : va_S (xA loc w s.heap.size) s.heap s.heap [] := va_S.rf
  have hl : lv_has ls 7 [(0, .ref (loc (0))), (1, .int (n)), (2, .int (d))] := hl
  have hNN := hN
  have hRR := hR
  obtain ⟨g0, b0, q0, hw⟩ := hR
  obtain ⟨hN0, hN1, hN2, hN3, hN4, hN5, hN6⟩ := hN
  have f1 : w (0) = some (.inr (7, [.ref (loc (1)), .ref (loc (2)), .ref (loc (3)), .ref (loc (4)), .ref (loc (5)), .ref (loc (6)), .ref (loc (7)), .int (nI (σ.2 0)), .int (nI (σ.2 1)), .int (nI (σ.2 2)), .int (nI (σ.2 3)), .int (nI (σ.2 4)), .int (nI (σ.2 5)), .int (nI (σ.2 6)), .int (σ.1 10 1), .int (σ.1 10 0), .ref (loc (8)), .ref (loc (11))])) := (hw 0 (by decide)).trans rfl
  have f2 : w (5) = some (eQ cy 1 3 (xq (fun k => loc (200 + k)) (σ.2 3))) := (hw 5 (by decide)).trans rfl
  refine lv_iload_n hx hb dX7_work_0 rfl (lv_at hl 1 rfl) ?_
  refine lv_iconst (v := nI 1) hx hb dX7_work_1 (by decide +kernel) ?_
  refine lv_sipush (v := nI 1000) hx hb dX7_work_2 (by decide +kernel) ?_
  refine x_ci (va_runS (As := [.int (n), .int (nI (1)), .int (nI (1000))]) (rest := []) ⟨hx, hb, hml, hown, hts⟩ (c_X7_isWithin l D cy loc w s.heap.size n (nI 1) (nI 1000)) (cwS 3 hts gX7_work_X7_isWithin rfl rfl rfl (by decide +kernel) ⟨Nat.le_of_ble_eq_true rfl, Nat.le_of_ble_eq_true rfl⟩) (x_preS hK hV) rfl rfl hl.1 rfl (lv_room (Nat.le_of_ble_eq_true rfl)) dX7_work_5 ⟨Nat.le_of_ble_eq_true rfl, Nat.le_of_ble_eq_true rfl⟩) (fun r3 hr4 => ?_)
  have ez5 : xb (nI 1 ≤ n ∧ n ≤ nI 1000) = r3 := Eq.symm (show r3 = xb (nI 1 ≤ n ∧ n ≤ nI 1000) from hr4)
  subst ez5
  refine x_beq (tgt := 18) hx hb dX7_work_8 (by decide) (fun c6 => ?_) (fun c6 => ?_)
  · have _u := trivial
    refine lv_bipush (v := -102) hx hb dX7_work_18 (by decide +kernel) ?_
    exact x_rmi hx hb hr hlocks dX7_work_20 hV hS (x_lf (by simp only [sp_work, c6, if_true, if_false, ite_true, ite_false, not_true_eq_false, not_false_eq_true, and_true, true_and, and_false, false_and, or_true, true_or, or_false, false_or, and_self, or_self, Nat.add_sub_cancel, Nat.add_eq_zero_iff, Nat.one_ne_zero, eq_self, Nat.not_lt]) (xOK_id hRR))
  · have _u := trivial
    refine lv_iload_n hx hb dX7_work_11 rfl (lv_at hl 2 rfl) ?_
    refine x_ci (va_runS (As := [.int (d)]) (rest := []) ⟨hx, hb, hml, hown, hts⟩ (c_X7_isDay l D cy loc w s.heap.size d) (cwS 1 hts gX7_work_X7_isDay rfl rfl rfl (by decide +kernel) ⟨Nat.le_of_ble_eq_true rfl, Nat.le_of_ble_eq_true rfl⟩) (x_preS hK hV) rfl rfl hl.1 rfl (lv_room (Nat.le_of_ble_eq_true rfl)) dX7_work_12 ⟨Nat.le_of_ble_eq_true rfl, Nat.le_of_ble_eq_true rfl⟩) (fun r7 hr8 => ?_)
    have ez9 : xb (nI 0 ≤ d ∧ d ≤ nI 10000) = r7 := Eq.symm (show r7 = xb (nI 0 ≤ d ∧ d ≤ nI 10000) from hr8)
    subst ez9
    refine x_bne (tgt := 21) hx hb dX7_work_15 (by decide) (fun c10 => ?_) (fun c10 => ?_)
    · have _u := trivial
      refine lv_iconst (v := -1) hx hb dX7_work_21 (by decide +kernel) ?_
      refine lv_istore_n (lv' := [(3, .int ((-1))), (0, .ref (loc (0))), (1, .int (n)), (2, .int (d))]) hx hb dX7_work_22 rfl hl (by decide) rfl (fun ls hl => ?_)
      refine lv_ldc (v := nI 100001) hx hb hown (hts (.constant RX7 197 (100001)) (List.mem_of_getElem? (i := 1) rfl)) dX7_work_23 ?_
      refine lv_istore (lv' := [(4, .int (nI (100001))), (3, .int ((-1))), (0, .ref (loc (0))), (1, .int (n)), (2, .int (d))]) hx hb dX7_work_25 hl (by decide) rfl (fun ls hl => ?_)
      refine lv_iconst (v := nI 0) hx hb dX7_work_27 (by decide +kernel) ?_
      refine lv_istore (lv' := [(5, .int (nI (0))), (4, .int (nI (100001))), (3, .int ((-1))), (0, .ref (loc (0))), (1, .int (n)), (2, .int (d))]) hx hb dX7_work_28 hl (by decide) rfl (fun ls hl => ?_)
      have lp30_11 : ∀ (fuel12 : Nat) (a : Int32) (z : Int32) (i : Nat) (ls : Array Slot), σ.2 3 - i < fuel12 → (i ≤ σ.2 3) → ((a, z) = xwb σ n d i) → lv_has ls 7 [(5, .int (nI (i))), (4, .int (z)), (3, .int (a)), (0, .ref (loc (0))), (1, .int (n)), (2, .int (d))] → W p l e rm_X7_work s m ([.ref (loc (0)), .int (n), .int (d)] : List Value).toArray below meth c s.heap [] 0 0 (MQ below (va_Qi (fun r u => r = (sp_work σ n d).1 ∧ xOK cy loc w (sp_work σ n d).2 u) (xB D (xA loc w s.heap.size)) (xA loc w s.heap.size)) ([.ref (loc (0)), .int (n), .int (d)] : List Value).toArray s 0 0 (xA loc w s.heap.size)) (F0 m 30 ls []) := by
        intro fuel12
        induction fuel12 with
        | zero => intro a z i ls hm13; exact absurd hm13 (Nat.not_lt_zero _)
        | succ fuel12 ih14 =>
          intro a z i ls hm13 h1 h2  hl
          refine lv_iload hx hb dX7_work_30 (lv_at hl 0 rfl) ?_
          refine lv_aload_n hx hb dX7_work_32 rfl (lv_at hl 3 rfl) ?_
          refine x_get (C := RX7) (T := TX7) (N := 18) hx hb hts hi_X7_work_X7 hown hK hV f1 rfl 10 (by decide) (hts (.fieldLink RX7 56 "SaddleHouse" "benchCount" "I") (List.mem_of_getElem? (i := 2) rfl)) (fun _ h9 => h9) rfl dX7_work_33 ?_
          refine x_cge hx hb (i) (σ.2 3) (by omega) (by omega) (tgt := 73) dX7_work_36 (by decide) (fun c15 => ?_) (fun c15 => ?_)
          · have _u := trivial
            have hxw : xwb σ n d (σ.2 3) = (a, z) := by rw [← show i = σ.2 3 by omega]; exact h2.symm
            refine lv_iload_n hx hb dX7_work_73 rfl (lv_at hl 2 rfl) ?_
            refine lv_iconst (v := -1) hx hb dX7_work_74 (by decide +kernel) ?_
            refine lv_icmp_ne (tgt := 81) hx hb dX7_work_75 (by decide) (fun c16 => ?_) (fun c16 => ?_)
            · have _u := trivial
              obtain ⟨kb, h_kb, e_kb⟩ := xwb_ix hxw c16
              subst e_kb
              have k_kb : (nI kb).toNatClampNeg = kb := nI_clamp (by omega)
              have nr_kb : (nI kb = -1) = False := eq_false (nI_m1 (by omega))
              refine lv_aload_n hx hb dX7_work_81 rfl (lv_at hl 3 rfl) ?_
              refine x_get (C := RX7) (T := TX7) (N := 18) hx hb hts hi_X7_work_X7 hown hK hV f1 rfl 4 (by decide) (hts (.fieldLink RX7 33 "SaddleHouse" "benches" "[LSaddleHouse$Bench;") (List.mem_of_getElem? (i := 3) rfl)) (fun _ h9 => h9) rfl dX7_work_82 ?_
              refine lv_iload_n hx hb dX7_work_85 rfl (lv_at hl 2 rfl) ?_
              refine x_aald hx hb hK hV f2 rfl (kb) (by omega) (by decide) dX7_work_86 ?_
              refine x_topr (xq_at (by omega)) ?_
              have f17 : w (200 + kb) = some (.inr (0, [.int (σ.1 7 kb), .int (σ.1 8 kb)])) := ((hw (200 + kb) (by omega)).trans (xC_200 (by omega) (by omega)))
              refine lv_aload_n hx hb dX7_work_87 rfl (lv_at hl 3 rfl) ?_
              refine x_get (C := RX7) (T := TX7) (N := 18) hx hb hts hi_X7_work_X7 hown hK hV f1 rfl 4 (by decide) (hts (.fieldLink RX7 33 "SaddleHouse" "benches" "[LSaddleHouse$Bench;") (List.mem_of_getElem? (i := 3) rfl)) (fun _ h9 => h9) rfl dX7_work_88 ?_
              refine lv_iload_n hx hb dX7_work_91 rfl (lv_at hl 2 rfl) ?_
              refine x_aald hx hb hK hV f2 rfl (kb) (by omega) (by decide) dX7_work_92 ?_
              refine x_topr (xq_at (by omega)) ?_
              refine lv_iload_n hx hb dX7_work_93 rfl (lv_at hl 4 rfl) ?_
              refine lv_iload_n hx hb dX7_work_94 rfl (lv_at hl 5 rfl) ?_
              refine x_ci (va_runVN (host := RX7) (As := [.int (n), .int (d)]) (rest := [.ref (loc (200 + kb))]) ⟨hx, hb, hml, hown, hts⟩ (c_X0_endFor l D cy loc w s.heap.size (200 + kb) (σ.1 7 kb) (σ.1 8 kb) n d f17) ⟨va_cnB 2 hts gX7_work_X0_endFor_n201 rfl rfl rfl (hK.2.1 (.methodLinkNest RX7 201 yX0_endFor RX7) (by decide +kernel)) (hts (.initialized RX0) (List.mem_of_getElem? (i := 14) rfl)) (by decide +kernel) ⟨Nat.le_of_ble_eq_true rfl, Nat.le_of_ble_eq_true rfl⟩, hts (.instanceMethod yX0_endFor) (List.mem_of_getElem? (i := 20) rfl), hts (.selects RX0 yX0_endFor yX0_endFor) (List.mem_of_getElem? (i := 21) rfl)⟩ (x_preV hK hV f17 rfl) rfl rfl hl.1 rfl (lv_room (Nat.le_of_ble_eq_true rfl)) dX7_work_95 ⟨Nat.le_of_ble_eq_true rfl, Nat.le_of_ble_eq_true rfl⟩) (fun r18 hr19 => ?_)
              have ez20 : xend (σ.1 7 kb) (σ.1 8 kb) n d = r18 := Eq.symm (show r18 = xend (σ.1 7 kb) (σ.1 8 kb) n d from hr19)
              subst ez20
              refine x_putN (C := RX0) (T := TX0) (N := 2) (v := .int (xend (σ.1 7 kb) (σ.1 8 kb) n d)) (ty := .int) (ref := "SaddleHouse$Bench") (host := RX7) hx hb hts hi_X7_work_X0 tyX0 tyX0_ok nmX0 hown hK hV hS f17 rfl 1 (by decide) (by decide +kernel) (fun _ h9 => h9) rfl (by decide +kernel) rfl rfl (Nat.le_of_ble_eq_true rfl) dX7_work_98 (fun H21 L22 hV23 hS24 => ?_)
              have f25 : (xup w (200 + kb) (.inr (0, [.int (σ.1 7 kb), .int (xend (σ.1 7 kb) (σ.1 8 kb) n d)]))) (0) = some (.inr (7, [.ref (loc (1)), .ref (loc (2)), .ref (loc (3)), .ref (loc (4)), .ref (loc (5)), .ref (loc (6)), .ref (loc (7)), .int (nI (σ.2 0)), .int (nI (σ.2 1)), .int (nI (σ.2 2)), .int (nI (σ.2 3)), .int (nI (σ.2 4)), .int (nI (σ.2 5)), .int (nI (σ.2 6)), .int (σ.1 10 1), .int (σ.1 10 0), .ref (loc (8)), .ref (loc (11))])) := xup_o (f1) (by omega)
              have f26 : (xup w (200 + kb) (.inr (0, [.int (σ.1 7 kb), .int (xend (σ.1 7 kb) (σ.1 8 kb) n d)]))) (200 + kb) = some (.inr (0, [.int (σ.1 7 kb), .int (xend (σ.1 7 kb) (σ.1 8 kb) n d)])) := xup_at _ _ _
              have f27 : (xup w (200 + kb) (.inr (0, [.int (σ.1 7 kb), .int (xend (σ.1 7 kb) (σ.1 8 kb) n d)]))) (5) = some (eQ cy 1 3 (xq (fun k => loc (200 + k)) (σ.2 3))) := xup_o (f2) (by omega)
              refine lv_aload_n hx hb dX7_work_101 rfl (lv_at hl 3 rfl) ?_
              refine lv_iload_n hx hb dX7_work_102 rfl (lv_at hl 2 rfl) ?_
              refine x_putf (C := RX7) (T := TX7) (N := 18) (v := .int (nI (kb))) (ty := .int) hx hb hts hi_X7_work_X7 tyX7 tyX7_ok nmX7 hown hK hV23 hS24 f25 rfl 15 (by decide) (hts (.fieldLink RX7 71 "SaddleHouse" "latestBench" "I") (List.mem_of_getElem? (i := 4) rfl)) (fun _ h9 => h9) rfl (by decide +kernel) rfl rfl (Nat.le_of_ble_eq_true rfl) dX7_work_103 (fun H28 L29 hV30 hS31 => ?_)
              have f32 : (xup (xup w (200 + kb) (.inr (0, [.int (σ.1 7 kb), .int (xend (σ.1 7 kb) (σ.1 8 kb) n d)]))) (0) (.inr (7, [.ref (loc (1)), .ref (loc (2)), .ref (loc (3)), .ref (loc (4)), .ref (loc (5)), .ref (loc (6)), .ref (loc (7)), .int (nI (σ.2 0)), .int (nI (σ.2 1)), .int (nI (σ.2 2)), .int (nI (σ.2 3)), .int (nI (σ.2 4)), .int (nI (σ.2 5)), .int (nI (σ.2 6)), .int (σ.1 10 1), .int (nI (kb)), .ref (loc (8)), .ref (loc (11))]))) (0) = some (.inr (7, [.ref (loc (1)), .ref (loc (2)), .ref (loc (3)), .ref (loc (4)), .ref (loc (5)), .ref (loc (6)), .ref (loc (7)), .int (nI (σ.2 0)), .int (nI (σ.2 1)), .int (nI (σ.2 2)), .int (nI (σ.2 3)), .int (nI (σ.2 4)), .int (nI (σ.2 5)), .int (nI (σ.2 6)), .int (σ.1 10 1), .int (nI (kb)), .ref (loc (8)), .ref (loc (11))])) := xup_at _ _ _
              have f33 : (xup (xup w (200 + kb) (.inr (0, [.int (σ.1 7 kb), .int (xend (σ.1 7 kb) (σ.1 8 kb) n d)]))) (0) (.inr (7, [.ref (loc (1)), .ref (loc (2)), .ref (loc (3)), .ref (loc (4)), .ref (loc (5)), .ref (loc (6)), .ref (loc (7)), .int (nI (σ.2 0)), .int (nI (σ.2 1)), .int (nI (σ.2 2)), .int (nI (σ.2 3)), .int (nI (σ.2 4)), .int (nI (σ.2 5)), .int (nI (σ.2 6)), .int (σ.1 10 1), .int (nI (kb)), .ref (loc (8)), .ref (loc (11))]))) (200 + kb) = some (.inr (0, [.int (σ.1 7 kb), .int (xend (σ.1 7 kb) (σ.1 8 kb) n d)])) := xup_o (xup_at _ _ _) (by omega)
              have f34 : (xup (xup w (200 + kb) (.inr (0, [.int (σ.1 7 kb), .int (xend (σ.1 7 kb) (σ.1 8 kb) n d)]))) (0) (.inr (7, [.ref (loc (1)), .ref (loc (2)), .ref (loc (3)), .ref (loc (4)), .ref (loc (5)), .ref (loc (6)), .ref (loc (7)), .int (nI (σ.2 0)), .int (nI (σ.2 1)), .int (nI (σ.2 2)), .int (nI (σ.2 3)), .int (nI (σ.2 4)), .int (nI (σ.2 5)), .int (nI (σ.2 6)), .int (σ.1 10 1), .int (nI (kb)), .ref (loc (8)), .ref (loc (11))]))) (5) = some (eQ cy 1 3 (xq (fun k => loc (200 + k)) (σ.2 3))) := xup_o (xup_o (f2) (by omega)) (by omega)
              refine lv_aload_n hx hb dX7_work_106 rfl (lv_at hl 3 rfl) ?_
              refine lv_dup hx hb dX7_work_107 rfl ?_
              refine x_get (C := RX7) (T := TX7) (N := 18) hx hb hts hi_X7_work_X7 hown hK hV30 f32 rfl 14 (by decide) (hts (.fieldLink RX7 68 "SaddleHouse" "workHours" "I") (List.mem_of_getElem? (i := 5) rfl)) (fun _ h9 => h9) rfl dX7_work_108 ?_
              refine lv_iload_n hx hb dX7_work_111 rfl (lv_at hl 4 rfl) ?_
              refine lv_iadd hx hb dX7_work_112 ?_
              refine x_putf (C := RX7) (T := TX7) (N := 18) (v := .int ((σ.1 10 1) + n)) (ty := .int) hx hb hts hi_X7_work_X7 tyX7 tyX7_ok nmX7 hown hK hV30 hS31 f32 rfl 14 (by decide) (hts (.fieldLink RX7 68 "SaddleHouse" "workHours" "I") (List.mem_of_getElem? (i := 5) rfl)) (fun _ h9 => h9) rfl (by decide +kernel) rfl rfl (Nat.le_of_ble_eq_true rfl) dX7_work_113 (fun H35 L36 hV37 hS38 => ?_)
              have hV39 := hV37.eq (xup_xup _ _ _ _)
              have f40 : (xup (xup w (200 + kb) (.inr (0, [.int (σ.1 7 kb), .int (xend (σ.1 7 kb) (σ.1 8 kb) n d)]))) (0) (.inr (7, [.ref (loc (1)), .ref (loc (2)), .ref (loc (3)), .ref (loc (4)), .ref (loc (5)), .ref (loc (6)), .ref (loc (7)), .int (nI (σ.2 0)), .int (nI (σ.2 1)), .int (nI (σ.2 2)), .int (nI (σ.2 3)), .int (nI (σ.2 4)), .int (nI (σ.2 5)), .int (nI (σ.2 6)), .int ((σ.1 10 1) + n), .int (nI (kb)), .ref (loc (8)), .ref (loc (11))]))) (0) = some (.inr (7, [.ref (loc (1)), .ref (loc (2)), .ref (loc (3)), .ref (loc (4)), .ref (loc (5)), .ref (loc (6)), .ref (loc (7)), .int (nI (σ.2 0)), .int (nI (σ.2 1)), .int (nI (σ.2 2)), .int (nI (σ.2 3)), .int (nI (σ.2 4)), .int (nI (σ.2 5)), .int (nI (σ.2 6)), .int ((σ.1 10 1) + n), .int (nI (kb)), .ref (loc (8)), .ref (loc (11))])) := xup_at _ _ _
              have f41 : (xup (xup w (200 + kb) (.inr (0, [.int (σ.1 7 kb), .int (xend (σ.1 7 kb) (σ.1 8 kb) n d)]))) (0) (.inr (7, [.ref (loc (1)), .ref (loc (2)), .ref (loc (3)), .ref (loc (4)), .ref (loc (5)), .ref (loc (6)), .ref (loc (7)), .int (nI (σ.2 0)), .int (nI (σ.2 1)), .int (nI (σ.2 2)), .int (nI (σ.2 3)), .int (nI (σ.2 4)), .int (nI (σ.2 5)), .int (nI (σ.2 6)), .int ((σ.1 10 1) + n), .int (nI (kb)), .ref (loc (8)), .ref (loc (11))]))) (200 + kb) = some (.inr (0, [.int (σ.1 7 kb), .int (xend (σ.1 7 kb) (σ.1 8 kb) n d)])) := xup_o (xup_at _ _ _) (by omega)
              have f42 : (xup (xup w (200 + kb) (.inr (0, [.int (σ.1 7 kb), .int (xend (σ.1 7 kb) (σ.1 8 kb) n d)]))) (0) (.inr (7, [.ref (loc (1)), .ref (loc (2)), .ref (loc (3)), .ref (loc (4)), .ref (loc (5)), .ref (loc (6)), .ref (loc (7)), .int (nI (σ.2 0)), .int (nI (σ.2 1)), .int (nI (σ.2 2)), .int (nI (σ.2 3)), .int (nI (σ.2 4)), .int (nI (σ.2 5)), .int (nI (σ.2 6)), .int ((σ.1 10 1) + n), .int (nI (kb)), .ref (loc (8)), .ref (loc (11))]))) (5) = some (eQ cy 1 3 (xq (fun k => loc (200 + k)) (σ.2 3))) := xup_o (xup_o (f2) (by omega)) (by omega)
              refine lv_iload hx hb dX7_work_116 (lv_at hl 1 rfl) ?_
              exact x_rmi hx hb hr hlocks dX7_work_118 hV39 hS38 (x_lf (by simp only [sp_work, c6, c10, c15, hxw, c16, k_kb, nr_kb, if_true, if_false, ite_true, ite_false, not_true_eq_false, not_false_eq_true, and_true, true_and, and_false, false_and, or_true, true_or, or_false, false_or, and_self, or_self, Nat.add_sub_cancel, Nat.add_eq_zero_iff, Nat.one_ne_zero, eq_self, Nat.not_lt]) (xOK_work hRR kb n d h_kb (by omega)))
            · have _u := trivial
              have hm : a = -1 := c16
              refine lv_bipush (v := -103) hx hb dX7_work_78 (by decide +kernel) ?_
              exact x_rmi hx hb hr hlocks dX7_work_80 hV hS (x_lf (by simp only [sp_work, c6, c10, c15, hxw, c16, hm, if_true, if_false, ite_true, ite_false, not_true_eq_false, not_false_eq_true, and_true, true_and, and_false, false_and, or_true, true_or, or_false, false_or, and_self, or_self, Nat.add_sub_cancel, Nat.add_eq_zero_iff, Nat.one_ne_zero, eq_self, Nat.not_lt]) (xOK_id hRR))
          · have _u := trivial
            refine lv_aload_n hx hb dX7_work_39 rfl (lv_at hl 3 rfl) ?_
            refine x_get (C := RX7) (T := TX7) (N := 18) hx hb hts hi_X7_work_X7 hown hK hV f1 rfl 4 (by decide) (hts (.fieldLink RX7 33 "SaddleHouse" "benches" "[LSaddleHouse$Bench;") (List.mem_of_getElem? (i := 3) rfl)) (fun _ h9 => h9) rfl dX7_work_40 ?_
            refine lv_iload hx hb dX7_work_43 (lv_at hl 0 rfl) ?_
            refine x_aald hx hb hK hV f2 rfl (i) (by omega) (by decide) dX7_work_45 ?_
            refine x_topr (xq_at (by omega)) ?_
            have f43 : w (200 + i) = some (.inr (0, [.int (σ.1 7 i), .int (σ.1 8 i)])) := ((hw (200 + i) (by omega)).trans (xC_200 (by omega) (by omega)))
            refine lv_iload_n hx hb dX7_work_46 rfl (lv_at hl 4 rfl) ?_
            refine lv_iload_n hx hb dX7_work_47 rfl (lv_at hl 5 rfl) ?_
            refine x_ci (va_runVN (host := RX7) (As := [.int (n), .int (d)]) (rest := []) ⟨hx, hb, hml, hown, hts⟩ (c_X0_promiseFor l D cy loc w s.heap.size (200 + i) (σ.1 7 i) (σ.1 8 i) n d f43) ⟨va_cnB 2 hts gX7_work_X0_promiseFor_n198 rfl rfl rfl (hK.2.1 (.methodLinkNest RX7 198 yX0_promiseFor RX7) (by decide +kernel)) (hts (.initialized RX0) (List.mem_of_getElem? (i := 14) rfl)) (by decide +kernel) ⟨Nat.le_of_ble_eq_true rfl, Nat.le_of_ble_eq_true rfl⟩, hts (.instanceMethod yX0_promiseFor) (List.mem_of_getElem? (i := 13) rfl), hts (.selects RX0 yX0_promiseFor yX0_promiseFor) (List.mem_of_getElem? (i := 15) rfl)⟩ (x_preV hK hV f43 rfl) rfl rfl hl.1 rfl (lv_room (Nat.le_of_ble_eq_true rfl)) dX7_work_48 ⟨Nat.le_of_ble_eq_true rfl, Nat.le_of_ble_eq_true rfl⟩) (fun r44 hr45 => ?_)
            have ez46 : xprom (σ.1 7 i) (σ.1 8 i) n d = r44 := Eq.symm (show r44 = xprom (σ.1 7 i) (σ.1 8 i) n d from hr45)
            subst ez46
            refine lv_istore (lv' := [(6, .int (xprom (σ.1 7 i) (σ.1 8 i) n d)), (5, .int (nI (i))), (4, .int (z)), (3, .int (a)), (0, .ref (loc (0))), (1, .int (n)), (2, .int (d))]) hx hb dX7_work_51 hl (by decide) rfl (fun ls hl => ?_)
            refine lv_iload hx hb dX7_work_53 (lv_at hl 0 rfl) ?_
            refine lv_iload hx hb dX7_work_55 (lv_at hl 2 rfl) ?_
            refine lv_icmp_ge (tgt := 67) hx hb dX7_work_57 (by decide) (fun c47 => ?_) (fun c47 => ?_)
            · have _u := trivial
              refine lv_iinc (v := nI (i + 1)) (lv' := [(5, .int (nI (i + 1))), (6, .int (xprom (σ.1 7 i) (σ.1 8 i) n d)), (4, .int (z)), (3, .int (a)), (0, .ref (loc (0))), (1, .int (n)), (2, .int (d))]) hx hb dX7_work_67 hl (k := 1) rfl (nI_add _ _) (by decide) rfl (fun ls hl => ?_)
              refine lv_goto (tgt := 30) hx hb dX7_work_70 (by decide) ?_
              exact ih14 a z (i + 1) ls (by omega) (by omega) (xwb_n h2 (Int32.not_lt.mpr c47)) (lv_sub hl [0, 2, 3, 4, 5, 6] rfl)
            · have _u := trivial
              refine lv_iload hx hb dX7_work_60 (lv_at hl 1 rfl) ?_
              refine lv_istore_n (lv' := [(3, .int (nI (i))), (6, .int (xprom (σ.1 7 i) (σ.1 8 i) n d)), (5, .int (nI (i))), (4, .int (z)), (0, .ref (loc (0))), (1, .int (n)), (2, .int (d))]) hx hb dX7_work_62 rfl hl (by decide) rfl (fun ls hl => ?_)
              refine lv_iload hx hb dX7_work_63 (lv_at hl 1 rfl) ?_
              refine lv_istore (lv' := [(4, .int (xprom (σ.1 7 i) (σ.1 8 i) n d)), (3, .int (nI (i))), (6, .int (xprom (σ.1 7 i) (σ.1 8 i) n d)), (5, .int (nI (i))), (0, .ref (loc (0))), (1, .int (n)), (2, .int (d))]) hx hb dX7_work_65 hl (by decide) rfl (fun ls hl => ?_)
              refine lv_iinc (v := nI (i + 1)) (lv' := [(5, .int (nI (i + 1))), (4, .int (xprom (σ.1 7 i) (σ.1 8 i) n d)), (3, .int (nI (i))), (6, .int (xprom (σ.1 7 i) (σ.1 8 i) n d)), (0, .ref (loc (0))), (1, .int (n)), (2, .int (d))]) hx hb dX7_work_67 hl (k := 3) rfl (nI_add _ _) (by decide) rfl (fun ls hl => ?_)
              refine lv_goto (tgt := 30) hx hb dX7_work_70 (by decide) ?_
              exact ih14 (nI i) (xprom (σ.1 7 i) (σ.1 8 i) n d) (i + 1) ls (by omega) (by omega) (xwb_y h2 (Int32.not_le.mp c47)) (lv_sub hl [0, 1, 2, 4, 5, 6] rfl)
      exact lp30_11 ((σ.2 3) + 1) (-1) (nI 100001) 0 ls (by omega) (Nat.zero_le _) rfl (lv_sub hl [0, 1, 2, 3, 4, 5] rfl)
    · have _u := trivial
      refine lv_bipush (v := -102) hx hb dX7_work_18 (by decide +kernel) ?_
      exact x_rmi hx hb hr hlocks dX7_work_20 hV hS (x_lf (by simp only [sp_work, c6, c10, if_true, if_false, ite_true, ite_false, not_true_eq_false, not_false_eq_true, and_true, true_and, and_false, false_and, or_true, true_or, or_false, false_or, and_self, or_self, Nat.add_sub_cancel, Nat.add_eq_zero_iff, Nat.one_ne_zero, eq_self, Nat.not_lt]) (xOK_id hRR))
