abbrev rm_X7_measure : Room := { frames := 3, cells := 2, slots := 11, locals := 70 }
theorem hi_X7_measure_X2 : ∀ w ∈ wsX20, w ∈ wsX7_measure := fun w h => List.mem_cons_of_mem _ (List.mem_append_left _ (List.mem_append_right _ h))
theorem hi_X7_measure_X3 : ∀ w ∈ wsX30, w ∈ wsX7_measure := fun w h => List.mem_cons_of_mem _ (List.mem_append_right _ h)
theorem hi_X7_measure_X7 : ∀ w ∈ wsX70, w ∈ wsX7_measure := fun w h => List.mem_cons_of_mem _ (List.mem_append_left _ (List.mem_append_left _ (List.mem_append_right _ h)))
set_option maxHeartbeats 4000000 in
set_option maxRecDepth 100000 in
theorem c_X7_measure (l : Launch) (D : va_G) (cy : Nat → ClassId) (loc : Nat → Nat) (w : xM) (sz : Nat) (σ : xS) (hN : xN8 σ) (hR : xR cy loc σ w) (ho d : Int32)  : Met l yX7_measure wsX7_measure rm_X7_measure (va_Pc [.ref (loc (0)), .int (ho), .int (d)] (xP D cy loc w sz)) (va_Qi (fun r u => r = (sp_measure σ ho d).1 ∧ xOK cy loc w (sp_measure σ ho d).2 u) (xB D (xA loc w sz)) (xA loc w sz)) 2 11 (xA loc w sz) := by
  refine x_met (cc := cX7_measure) (maxL := 4) (ret := (some .int)) (C := RX7) (by decide) rfl rfl (Nat.le_of_ble_eq_true rfl) ?_
  intro p e s m below meth c ls hx hb hml hr hts hown hlocks hin hP hl
  obtain ⟨hsz, hV, hK⟩ := hP
  subst hsz
  have hA : ∀ q : Nat, s.heap.size ≤ q → xA loc w s.heap.size q := fun q h => Or.inr h
  have hS : va_S (xA loc w s.heap.size) s.heap s.heap [] := va_S.rf
  have hl : lv_has ls 4 [(0, .ref (loc (0))), (1, .int (ho)), (2, .int (d))] := hl
  have hNN := hN
  have hRR := hR
  obtain ⟨g0, b0, q0, hw⟩ := hR
  obtain ⟨hN0, hN1, hN2, hN3, hN4, hN5, hN6⟩ := hN
  have f1 : w (0) = some (.inr (7, [.ref (loc (1)), .ref (loc (2)), .ref (loc (3)), .ref (loc (4)), .ref (loc (5)), .ref (loc (6)), .ref (loc (7)), .int (nI (σ.2 0)), .int (nI (σ.2 1)), .int (nI (σ.2 2)), .int (nI (σ.2 3)), .int (nI (σ.2 4)), .int (nI (σ.2 5)), .int (nI (σ.2 6)), .int (σ.1 10 1), .int (σ.1 10 0), .ref (loc (8)), .ref (loc (11))])) := (hw 0 (by decide)).trans rfl
  have f2 : w (1) = some (eI cy 9 (σ.1 0)) := (hw 1 (by decide)).trans rfl
  refine lv_aload_n hx hb dX7_measure_0 rfl (lv_at hl 0 rfl) ?_
  refine lv_iload_n hx hb dX7_measure_1 rfl (lv_at hl 1 rfl) ?_
  refine x_cq (va_runV (As := [.int (ho)]) (rest := []) ⟨hx, hb, hml, hown, hts⟩ (c_X7_horseAt l D cy loc w s.heap.size σ ⟨hN0, hN1, hN2, hN3, hN4, hN5, hN6⟩ hRR ho) (cwV 1 hts gX7_measure_X7_horseAt rfl rfl rfl (by decide +kernel) ⟨Nat.le_of_ble_eq_true rfl, Nat.le_of_ble_eq_true rfl⟩) (x_preV hK hV f1 rfl) rfl rfl hl.1 rfl (lv_room (Nat.le_of_ble_eq_true rfl)) dX7_measure_2 ⟨Nat.le_of_ble_eq_true rfl, Nat.le_of_ble_eq_true rfl⟩) (fun r3 hr4 => ?_)
  rcases xat_or (fun k => loc (20 + k)) ho (show σ.2 0 < 2 ^ 31 by omega) with ⟨k, h_k, e_k, p_k, eq5⟩ | ⟨p_k, eq5⟩
  · refine x_topr (Eq.trans (show _ = _ from hr4) eq5) ?_
    subst e_k
    have f6 : w (20 + k) = some (.inr (2, [.ref (loc (30 + k)), .int (nI (σ.2 (10 + k)))])) := ((hw (20 + k) (by omega)).trans (xC_20 (by omega) (by omega)))
    have f7 : w (30 + k) = some (eQ cy 4 6 (xq (fun j => loc (40 + 6 * k + j)) (σ.2 (10 + k)))) := ((hw (30 + k) (by omega)).trans (xC_30 (by omega) (by omega)))
    have k_k : (nI k).toNatClampNeg = k := nI_clamp (by omega)
    refine lv_astore_n (lv' := [(3, .ref (loc (20 + k))), (0, .ref (loc (0))), (1, .int (nI (k))), (2, .int (d))]) hx hb dX7_measure_5 rfl hl (by decide) rfl (fun ls hl => ?_)
    refine lv_aload_n hx hb dX7_measure_6 rfl (lv_at hl 0 rfl) ?_
    refine lv_ifnonnull (tgt := 13) hx hb dX7_measure_7 (by decide) ?_
    refine lv_iload_n hx hb dX7_measure_13 rfl (lv_at hl 3 rfl) ?_
    refine x_ci (va_runS (As := [.int (d)]) (rest := []) ⟨hx, hb, hml, hown, hts⟩ (c_X7_isDay l D cy loc w s.heap.size d) (cwS 1 hts gX7_measure_X7_isDay rfl rfl rfl (by decide +kernel) ⟨Nat.le_of_ble_eq_true rfl, Nat.le_of_ble_eq_true rfl⟩) (x_preS hK hV) rfl rfl hl.1 rfl (lv_room (Nat.le_of_ble_eq_true rfl)) dX7_measure_14 ⟨Nat.le_of_ble_eq_true rfl, Nat.le_of_ble_eq_true rfl⟩) (fun r8 hr9 => ?_)
    have ez10 : xb (nI 0 ≤ d ∧ d ≤ nI 10000) = r8 := Eq.symm (show r8 = xb (nI 0 ≤ d ∧ d ≤ nI 10000) from hr9)
    subst ez10
    refine x_beq (tgt := 41) hx hb dX7_measure_17 (by decide) (fun c11 => ?_) (fun c11 => ?_)
    · have _u := trivial
      refine lv_bipush (v := -102) hx hb dX7_measure_41 (by decide +kernel) ?_
      refine W.widen (k := 2) (n := 11) (by omega) (by omega) ?_
      exact x_rmi hx hb hr hlocks dX7_measure_43 hV hS (x_lf (by simp only [sp_measure, p_k, k_k, c11, if_true, if_false, ite_true, ite_false, not_true_eq_false, not_false_eq_true, and_true, true_and, and_false, false_and, or_true, true_or, or_false, false_or, and_self, or_self, Nat.add_sub_cancel, Nat.add_eq_zero_iff, Nat.one_ne_zero, eq_self, Nat.not_lt]) (xOK_id hRR))
    · have _u := trivial
      refine lv_aload_n hx hb dX7_measure_20 rfl (lv_at hl 1 rfl) ?_
      refine x_get (C := RX7) (T := TX7) (N := 18) hx hb hts hi_X7_measure_X7 hown hK hV f1 rfl 0 (by decide) (hts (.fieldLink RX7 9 "SaddleHouse" "row" "[I") (List.mem_of_getElem? (i := 1) rfl)) (fun _ h9 => h9) rfl dX7_measure_21 ?_
      refine lv_iconst (v := nI 0) hx hb dX7_measure_24 (by decide +kernel) ?_
      refine x_iald hx hb hK hV f2 (0) (by omega) (by decide) dX7_measure_25 ?_
      refine lv_iconst (v := -1) hx hb dX7_measure_26 (by decide +kernel) ?_
      refine lv_icmp_eq (tgt := 41) hx hb dX7_measure_27 (by decide) (fun c12 => ?_) (fun c12 => ?_)
      · have _u := trivial
        refine lv_bipush (v := -102) hx hb dX7_measure_41 (by decide +kernel) ?_
        refine W.widen (k := 2) (n := 11) (by omega) (by omega) ?_
        exact x_rmi hx hb hr hlocks dX7_measure_43 hV hS (x_lf (by simp only [sp_measure, p_k, k_k, c11, c12, if_true, if_false, ite_true, ite_false, not_true_eq_false, not_false_eq_true, and_true, true_and, and_false, false_and, or_true, true_or, or_false, false_or, and_self, or_self, Nat.add_sub_cancel, Nat.add_eq_zero_iff, Nat.one_ne_zero, eq_self, Nat.not_lt]) (xOK_id hRR))
      · have _u := trivial
        have g0n : ¬ σ.1 0 0 = -1 := c12
        refine lv_aload_n hx hb dX7_measure_30 rfl (lv_at hl 1 rfl) ?_
        refine x_get (C := RX7) (T := TX7) (N := 18) hx hb hts hi_X7_measure_X7 hown hK hV f1 rfl 0 (by decide) (hts (.fieldLink RX7 9 "SaddleHouse" "row" "[I") (List.mem_of_getElem? (i := 1) rfl)) (fun _ h9 => h9) rfl dX7_measure_31 ?_
        refine lv_bipush (v := nI 8) hx hb dX7_measure_34 (by decide +kernel) ?_
        refine x_iald hx hb hK hV f2 (8) (by omega) (by decide) dX7_measure_36 ?_
        refine lv_iconst (v := -1) hx hb dX7_measure_37 (by decide +kernel) ?_
        refine lv_icmp_ne (tgt := 44) hx hb dX7_measure_38 (by decide) (fun c13 => ?_) (fun c13 => ?_)
        · have _u := trivial
          have g8n : ¬ σ.1 0 8 = -1 := c13
          refine lv_aload_n hx hb dX7_measure_44 rfl (lv_at hl 0 rfl) ?_
          refine lv_iload_n hx hb dX7_measure_45 rfl (lv_at hl 3 rfl) ?_
          refine x_ci (va_runVN (host := RX7) (As := [.int (d)]) (rest := []) ⟨hx, hb, hml, hown, hts⟩ (c_X2_isAboveLatest l D cy loc w s.heap.size (20 + k) (30 + k) (40 + 6 * k) (100 + 6 * k) (σ.2 (10 + k)) (fun j => σ.1 1 (6 * k + j)) (xq (fun j => loc (40 + 6 * k + j)) (σ.2 (10 + k))) (hN6 k) (fun j h_j => xq_at h_j) (fun j h_j => by have h6 := hN6 k; exact (hw (40 + 6 * k + j) (by omega)).trans (xC_40 (by omega) (by omega) h_j (by omega))) d f6 f7) ⟨va_cnB 1 hts gX7_measure_X2_isAboveLatest_n100 rfl rfl rfl (hK.2.1 (.methodLinkNest RX7 100 yX2_isAboveLatest RX7) (by decide +kernel)) (hts (.initialized RX2) (List.mem_of_getElem? (i := 19) rfl)) (by decide +kernel) ⟨Nat.le_of_ble_eq_true rfl, Nat.le_of_ble_eq_true rfl⟩, hts (.instanceMethod yX2_isAboveLatest) (List.mem_of_getElem? (i := 18) rfl), hts (.selects RX2 yX2_isAboveLatest yX2_isAboveLatest) (List.mem_of_getElem? (i := 20) rfl)⟩ (x_preV hK hV f6 rfl) rfl rfl hl.1 rfl (lv_room (Nat.le_of_ble_eq_true rfl)) dX7_measure_46 ⟨Nat.le_of_ble_eq_true rfl, Nat.le_of_ble_eq_true rfl⟩) (fun r14 hr15 => ?_)
          have ez16 : xb (σ.2 (10 + k) = 0 ∨ σ.1 1 (6 * k + (σ.2 (10 + k) - 1)) < d) = r14 := Eq.symm (show r14 = xb (σ.2 (10 + k) = 0 ∨ σ.1 1 (6 * k + (σ.2 (10 + k) - 1)) < d) from hr15)
          subst ez16
          refine x_bne (tgt := 55) hx hb dX7_measure_49 (by decide) (fun c17 => ?_) (fun c17 => ?_)
          · have _u := trivial
            refine lv_aload_n hx hb dX7_measure_55 rfl (lv_at hl 0 rfl) ?_
            refine x_getN (C := RX2) (T := TX2) (N := 2) (ref := "SaddleHouse$Horse") (host := RX7) hx hb hts hi_X7_measure_X2 hown hK hV f6 rfl 1 (by decide) (by decide +kernel) (fun _ h9 => h9) rfl dX7_measure_56 ?_
            refine lv_bipush (v := nI 6) hx hb dX7_measure_59 (by decide +kernel) ?_
            refine x_clt hx hb (σ.2 (10 + k)) (6) (by have := hN6 k; omega) (by have := hN6 k; omega) (tgt := 67) dX7_measure_61 (by decide) (fun c18 => ?_) (fun c18 => ?_)
            · have _u := trivial
              have nn19 : w (40 + 6 * k + σ.2 (10 + k)) = none := (hw (40 + 6 * k + σ.2 (10 + k)) (by omega)).trans (xn_40 (by omega) c18 (Nat.le_refl _))
              have nn20 : w (100 + 6 * k + σ.2 (10 + k)) = none := (hw (100 + 6 * k + σ.2 (10 + k)) (by omega)).trans (xn_100 (by omega) c18 (Nat.le_refl _))
              refine lv_aload_n hx hb dX7_measure_67 rfl (lv_at hl 0 rfl) ?_
              refine x_new (40 + 6 * k + σ.2 (10 + k)) (nn19) (ci := 3) (fs := [.int (0), .null]) (C := RX3) (T := TX3) (N := 2) hx hb hts hi_X7_measure_X3 tyX3 tyX3_ok hown (hts (.classLink RX7 106 RX3) (List.mem_of_getElem? (i := 2) rfl)) (hts (.instantiable RX3 2) (List.mem_of_getElem? (i := 3) rfl)) (hts (.initialized RX3) (List.mem_of_getElem? (i := 4) rfl)) hK hV hS hA rfl (fun j hj => by rcases (show j = 0 ∨ j = 1 by omega) with rfl | rfl <;> rfl) (Nat.le_of_ble_eq_true rfl) (Nat.le_of_ble_eq_true rfl) dX7_measure_68 (fun q24 H21 hV22 hS23 => ?_)
              obtain ⟨loc25, hq26, hlo27, hV28⟩ : ∃ z : Nat → Nat, z (40 + 6 * k + σ.2 (10 + k)) = q24 ∧ (∀ b, b ≠ 40 + 6 * k + σ.2 (10 + k) → loc b = z b) ∧ xV D (xA loc w s.heap.size) z (xup w (40 + 6 * k + σ.2 (10 + k)) (.inr (3, [.int (0), .null]))) H21 := ⟨_, va_up_self _ _ _, fun b hb => (va_up_ne _ _ hb).symm, hV22⟩
              subst hq26
              have e29 : loc (20 + k) = loc25 (20 + k) := hlo27 _ (by omega)
              have e30 : loc (0) = loc25 (0) := hlo27 _ (by omega)
              have e31 : loc (1) = loc25 (1) := hlo27 _ (by omega)
              have e32 : loc (2) = loc25 (2) := hlo27 _ (by omega)
              have e33 : loc (3) = loc25 (3) := hlo27 _ (by omega)
              have e34 : loc (4) = loc25 (4) := hlo27 _ (by omega)
              have e35 : loc (5) = loc25 (5) := hlo27 _ (by omega)
              have e36 : loc (6) = loc25 (6) := hlo27 _ (by omega)
              have e37 : loc (7) = loc25 (7) := hlo27 _ (by omega)
              have e38 : loc (8) = loc25 (8) := hlo27 _ (by omega)
              have e39 : loc (11) = loc25 (11) := hlo27 _ (by omega)
              have e40 : loc (30 + k) = loc25 (30 + k) := hlo27 _ (by omega)
              refine W.eq (g2 := F0 m 71 ls [.ref (loc25 (40 + 6 * k + σ.2 (10 + k))), .ref (loc25 (20 + k))]) (by rw [e29]) ?_
              have hl : lv_has ls 4 [(3, .ref (loc25 (20 + k))), (0, .ref (loc25 (0))), (1, .int (nI (k))), (2, .int (d))] := Eq.mp (congrArg (lv_has ls 4) (show ([(3, .ref (loc (20 + k))), (0, .ref (loc (0))), (1, .int (nI (k))), (2, .int (d))] : List (Nat × Value)) = [(3, .ref (loc25 (20 + k))), (0, .ref (loc25 (0))), (1, .int (nI (k))), (2, .int (d))] from by rw [e29, e30])) hl
              have f41 : (xup w (40 + 6 * k + σ.2 (10 + k)) (.inr (3, [.int (0), .null]))) (0) = some (.inr (7, [.ref (loc25 (1)), .ref (loc25 (2)), .ref (loc25 (3)), .ref (loc25 (4)), .ref (loc25 (5)), .ref (loc25 (6)), .ref (loc25 (7)), .int (nI (σ.2 0)), .int (nI (σ.2 1)), .int (nI (σ.2 2)), .int (nI (σ.2 3)), .int (nI (σ.2 4)), .int (nI (σ.2 5)), .int (nI (σ.2 6)), .int (σ.1 10 1), .int (σ.1 10 0), .ref (loc25 (8)), .ref (loc25 (11))])) := (xup_o (f1) (by omega)).trans (congrArg some (show (.inr (7, [.ref (loc (1)), .ref (loc (2)), .ref (loc (3)), .ref (loc (4)), .ref (loc (5)), .ref (loc (6)), .ref (loc (7)), .int (nI (σ.2 0)), .int (nI (σ.2 1)), .int (nI (σ.2 2)), .int (nI (σ.2 3)), .int (nI (σ.2 4)), .int (nI (σ.2 5)), .int (nI (σ.2 6)), .int (σ.1 10 1), .int (σ.1 10 0), .ref (loc (8)), .ref (loc (11))]) : va_E) = .inr (7, [.ref (loc25 (1)), .ref (loc25 (2)), .ref (loc25 (3)), .ref (loc25 (4)), .ref (loc25 (5)), .ref (loc25 (6)), .ref (loc25 (7)), .int (nI (σ.2 0)), .int (nI (σ.2 1)), .int (nI (σ.2 2)), .int (nI (σ.2 3)), .int (nI (σ.2 4)), .int (nI (σ.2 5)), .int (nI (σ.2 6)), .int (σ.1 10 1), .int (σ.1 10 0), .ref (loc25 (8)), .ref (loc25 (11))]) from by rw [e31, e32, e33, e34, e35, e36, e37, e38, e39]))
              have f42 : (xup w (40 + 6 * k + σ.2 (10 + k)) (.inr (3, [.int (0), .null]))) (20 + k) = some (.inr (2, [.ref (loc25 (30 + k)), .int (nI (σ.2 (10 + k)))])) := (xup_o (f6) (by omega)).trans (congrArg some (show (.inr (2, [.ref (loc (30 + k)), .int (nI (σ.2 (10 + k)))]) : va_E) = .inr (2, [.ref (loc25 (30 + k)), .int (nI (σ.2 (10 + k)))]) from by rw [e40]))
              have f43 : (xup w (40 + 6 * k + σ.2 (10 + k)) (.inr (3, [.int (0), .null]))) (1) = some (eI cy 9 (σ.1 0)) := xup_o (f2) (by omega)
              have f44 : (xup w (40 + 6 * k + σ.2 (10 + k)) (.inr (3, [.int (0), .null]))) (30 + k) = some (eQ cy 4 6 (xq (fun j => loc (40 + 6 * k + j)) (σ.2 (10 + k)))) := xup_o (f7) (by omega)
              have nn45 : (xup w (40 + 6 * k + σ.2 (10 + k)) (.inr (3, [.int (0), .null]))) (100 + 6 * k + σ.2 (10 + k)) = none := xup_o ((nn20)) (by omega)
              have f46 : (xup w (40 + 6 * k + σ.2 (10 + k)) (.inr (3, [.int (0), .null]))) (40 + 6 * k + σ.2 (10 + k)) = some (.inr (3, [.int (0), .null])) := xup_at _ _ _
              refine lv_dup hx hb dX7_measure_71 rfl ?_
              refine lv_iload_n hx hb dX7_measure_72 rfl (lv_at hl 3 rfl) ?_
              refine lv_aload_n hx hb dX7_measure_73 rfl (lv_at hl 1 rfl) ?_
              refine x_get (C := RX7) (T := TX7) (N := 18) hx hb hts hi_X7_measure_X7 hown hK hV28 f41 rfl 0 (by decide) (hts (.fieldLink RX7 9 "SaddleHouse" "row" "[I") (List.mem_of_getElem? (i := 1) rfl)) (fun _ h9 => h9) rfl dX7_measure_74 ?_
              refine x_mv (va_runIN (host := RX7) (As := [.int (d), .ref (loc25 (1))]) (rest := [.ref (loc25 (40 + 6 * k + σ.2 (10 + k))), .ref (loc25 (20 + k))]) ⟨hx, hb, hml, hown, hts⟩ (c_X3_init l D cy loc25 (xup w (40 + 6 * k + σ.2 (10 + k)) (.inr (3, [.int (0), .null]))) H21.size (40 + 6 * k + σ.2 (10 + k)) (100 + 6 * k + σ.2 (10 + k)) 1 d (σ.1 0) g0n g8n (by omega) (by omega) (by omega) f46 f43 (nn45)) ⟨va_cnB 2 hts gX7_measure_X3_init_n108 rfl rfl rfl (hK.2.1 (.methodLinkNest RX7 108 yX3_init RX7) (by decide +kernel)) (hts (.initialized RX3) (List.mem_of_getElem? (i := 4) rfl)) (by decide +kernel) ⟨Nat.le_of_ble_eq_true rfl, Nat.le_of_ble_eq_true rfl⟩, rfl, hts (.instanceMethod yX3_init) (List.mem_of_getElem? (i := 24) rfl)⟩ (x_preS hK hV28) rfl rfl hl.1 rfl (lv_room (Nat.le_of_ble_eq_true rfl)) dX7_measure_77 ⟨Nat.le_of_ble_eq_true rfl, Nat.le_of_ble_eq_true rfl⟩) hV28 hS23 hA (fun loc54 w53 H49 L50 hr48 hV51 hS52 => ?_)
              obtain ⟨hlo55, gg, e56, hg, hg2⟩ := hr48
              have hlo57 : ∀ b, b ≠ 100 + 6 * k + σ.2 (10 + k) → loc25 b = loc54 b := fun b n0 => (hlo55 b n0).symm
              have e56 : (xup (xup (xup w (40 + 6 * k + σ.2 (10 + k)) (.inr (3, [.int (0), .null]))) (100 + 6 * k + σ.2 (10 + k)) (eI cy 9 (gg))) (40 + 6 * k + σ.2 (10 + k)) (.inr (3, [.int (d), .ref (loc54 (100 + 6 * k + σ.2 (10 + k)))]))) = w53 := Eq.symm e56
              subst e56
              have e58 : loc25 (20 + k) = loc54 (20 + k) := hlo57 _ (by omega)
              have e59 : loc25 (0) = loc54 (0) := hlo57 _ (by omega)
              have e60 : loc25 (40 + 6 * k + σ.2 (10 + k)) = loc54 (40 + 6 * k + σ.2 (10 + k)) := hlo57 _ (by omega)
              have e61 : loc25 (1) = loc54 (1) := hlo57 _ (by omega)
              have e62 : loc25 (2) = loc54 (2) := hlo57 _ (by omega)
              have e63 : loc25 (3) = loc54 (3) := hlo57 _ (by omega)
              have e64 : loc25 (4) = loc54 (4) := hlo57 _ (by omega)
              have e65 : loc25 (5) = loc54 (5) := hlo57 _ (by omega)
              have e66 : loc25 (6) = loc54 (6) := hlo57 _ (by omega)
              have e67 : loc25 (7) = loc54 (7) := hlo57 _ (by omega)
              have e68 : loc25 (8) = loc54 (8) := hlo57 _ (by omega)
              have e69 : loc25 (11) = loc54 (11) := hlo57 _ (by omega)
              have e70 : loc25 (30 + k) = loc54 (30 + k) := hlo57 _ (by omega)
              refine W.eq (g2 := F0 m 80 ls [.ref (loc54 (40 + 6 * k + σ.2 (10 + k))), .ref (loc54 (20 + k))]) (by rw [e58, e60]) ?_
              have hl : lv_has ls 4 [(3, .ref (loc54 (20 + k))), (0, .ref (loc54 (0))), (1, .int (nI (k))), (2, .int (d))] := Eq.mp (congrArg (lv_has ls 4) (show ([(3, .ref (loc25 (20 + k))), (0, .ref (loc25 (0))), (1, .int (nI (k))), (2, .int (d))] : List (Nat × Value)) = [(3, .ref (loc54 (20 + k))), (0, .ref (loc54 (0))), (1, .int (nI (k))), (2, .int (d))] from by rw [e58, e59])) hl
              have f71 : (xup (xup (xup w (40 + 6 * k + σ.2 (10 + k)) (.inr (3, [.int (0), .null]))) (100 + 6 * k + σ.2 (10 + k)) (eI cy 9 (gg))) (40 + 6 * k + σ.2 (10 + k)) (.inr (3, [.int (d), .ref (loc54 (100 + 6 * k + σ.2 (10 + k)))]))) (0) = some (.inr (7, [.ref (loc54 (1)), .ref (loc54 (2)), .ref (loc54 (3)), .ref (loc54 (4)), .ref (loc54 (5)), .ref (loc54 (6)), .ref (loc54 (7)), .int (nI (σ.2 0)), .int (nI (σ.2 1)), .int (nI (σ.2 2)), .int (nI (σ.2 3)), .int (nI (σ.2 4)), .int (nI (σ.2 5)), .int (nI (σ.2 6)), .int (σ.1 10 1), .int (σ.1 10 0), .ref (loc54 (8)), .ref (loc54 (11))])) := (xup_o (xup_o (f41) (by omega)) (by omega)).trans (congrArg some (show (.inr (7, [.ref (loc25 (1)), .ref (loc25 (2)), .ref (loc25 (3)), .ref (loc25 (4)), .ref (loc25 (5)), .ref (loc25 (6)), .ref (loc25 (7)), .int (nI (σ.2 0)), .int (nI (σ.2 1)), .int (nI (σ.2 2)), .int (nI (σ.2 3)), .int (nI (σ.2 4)), .int (nI (σ.2 5)), .int (nI (σ.2 6)), .int (σ.1 10 1), .int (σ.1 10 0), .ref (loc25 (8)), .ref (loc25 (11))]) : va_E) = .inr (7, [.ref (loc54 (1)), .ref (loc54 (2)), .ref (loc54 (3)), .ref (loc54 (4)), .ref (loc54 (5)), .ref (loc54 (6)), .ref (loc54 (7)), .int (nI (σ.2 0)), .int (nI (σ.2 1)), .int (nI (σ.2 2)), .int (nI (σ.2 3)), .int (nI (σ.2 4)), .int (nI (σ.2 5)), .int (nI (σ.2 6)), .int (σ.1 10 1), .int (σ.1 10 0), .ref (loc54 (8)), .ref (loc54 (11))]) from by rw [e61, e62, e63, e64, e65, e66, e67, e68, e69]))
              have f72 : (xup (xup (xup w (40 + 6 * k + σ.2 (10 + k)) (.inr (3, [.int (0), .null]))) (100 + 6 * k + σ.2 (10 + k)) (eI cy 9 (gg))) (40 + 6 * k + σ.2 (10 + k)) (.inr (3, [.int (d), .ref (loc54 (100 + 6 * k + σ.2 (10 + k)))]))) (20 + k) = some (.inr (2, [.ref (loc54 (30 + k)), .int (nI (σ.2 (10 + k)))])) := (xup_o (xup_o (f42) (by omega)) (by omega)).trans (congrArg some (show (.inr (2, [.ref (loc25 (30 + k)), .int (nI (σ.2 (10 + k)))]) : va_E) = .inr (2, [.ref (loc54 (30 + k)), .int (nI (σ.2 (10 + k)))]) from by rw [e70]))
              have f73 : (xup (xup (xup w (40 + 6 * k + σ.2 (10 + k)) (.inr (3, [.int (0), .null]))) (100 + 6 * k + σ.2 (10 + k)) (eI cy 9 (gg))) (40 + 6 * k + σ.2 (10 + k)) (.inr (3, [.int (d), .ref (loc54 (100 + 6 * k + σ.2 (10 + k)))]))) (1) = some (eI cy 9 (σ.1 0)) := xup_o (xup_o (f43) (by omega)) (by omega)
              have f74 : (xup (xup (xup w (40 + 6 * k + σ.2 (10 + k)) (.inr (3, [.int (0), .null]))) (100 + 6 * k + σ.2 (10 + k)) (eI cy 9 (gg))) (40 + 6 * k + σ.2 (10 + k)) (.inr (3, [.int (d), .ref (loc54 (100 + 6 * k + σ.2 (10 + k)))]))) (30 + k) = some (eQ cy 4 6 (xq (fun j => loc (40 + 6 * k + j)) (σ.2 (10 + k)))) := xup_o (xup_o (f44) (by omega)) (by omega)
              have f75 : (xup (xup (xup w (40 + 6 * k + σ.2 (10 + k)) (.inr (3, [.int (0), .null]))) (100 + 6 * k + σ.2 (10 + k)) (eI cy 9 (gg))) (40 + 6 * k + σ.2 (10 + k)) (.inr (3, [.int (d), .ref (loc54 (100 + 6 * k + σ.2 (10 + k)))]))) (100 + 6 * k + σ.2 (10 + k)) = some (eI cy 9 (gg)) := xup_o (xup_at _ _ _) (by omega)
              have f76 : (xup (xup (xup w (40 + 6 * k + σ.2 (10 + k)) (.inr (3, [.int (0), .null]))) (100 + 6 * k + σ.2 (10 + k)) (eI cy 9 (gg))) (40 + 6 * k + σ.2 (10 + k)) (.inr (3, [.int (d), .ref (loc54 (100 + 6 * k + σ.2 (10 + k)))]))) (40 + 6 * k + σ.2 (10 + k)) = some (.inr (3, [.int (d), .ref (loc54 (100 + 6 * k + σ.2 (10 + k)))])) := xup_at _ _ _
              refine x_mv (va_runVN (host := RX7) (As := [.ref (loc54 (40 + 6 * k + σ.2 (10 + k)))]) (rest := []) ⟨hx, hb, hml, hown, hts⟩ (c_X2_add l D cy loc54 (xup (xup (xup w (40 + 6 * k + σ.2 (10 + k)) (.inr (3, [.int (0), .null]))) (100 + 6 * k + σ.2 (10 + k)) (eI cy 9 (gg))) (40 + 6 * k + σ.2 (10 + k)) (.inr (3, [.int (d), .ref (loc54 (100 + 6 * k + σ.2 (10 + k)))]))) H49.size (20 + k) (30 + k) (σ.2 (10 + k)) (40 + 6 * k + σ.2 (10 + k)) (xq (fun j => loc (40 + 6 * k + j)) (σ.2 (10 + k))) .null (100 + 6 * k + σ.2 (10 + k)) c18 d (by omega) (by omega) (by omega) f72 f76 f74) ⟨va_cnB 1 hts gX7_measure_X2_add_n111 rfl rfl rfl (hK.2.1 (.methodLinkNest RX7 111 yX2_add RX7) (by decide +kernel)) (hts (.initialized RX2) (List.mem_of_getElem? (i := 19) rfl)) (by decide +kernel) ⟨Nat.le_of_ble_eq_true rfl, Nat.le_of_ble_eq_true rfl⟩, hts (.instanceMethod yX2_add) (List.mem_of_getElem? (i := 42) rfl), hts (.selects RX2 yX2_add yX2_add) (List.mem_of_getElem? (i := 43) rfl)⟩ (x_preV hK hV51 f72 rfl) rfl rfl hl.1 rfl (lv_room (Nat.le_of_ble_eq_true rfl)) dX7_measure_80 ⟨Nat.le_of_ble_eq_true rfl, Nat.le_of_ble_eq_true rfl⟩) hV51 hS52 hA (fun loc84 w83 H79 L80 hr78 hV81 hS82 => ?_)
              obtain ⟨e86, e87⟩ := hr78
              have e86 : loc54 = loc84 := Eq.symm e86
              subst e86
              have e87 := Eq.symm e87
              subst e87
              have f88 : (xup (xup (xup (xup (xup w (40 + 6 * k + σ.2 (10 + k)) (.inr (3, [.int (0), .null]))) (100 + 6 * k + σ.2 (10 + k)) (eI cy 9 (gg))) (40 + 6 * k + σ.2 (10 + k)) (.inr (3, [.int (d), .ref (loc54 (100 + 6 * k + σ.2 (10 + k)))]))) (30 + k) (eQ cy 4 6 (va_up (xq (fun j => loc (40 + 6 * k + j)) (σ.2 (10 + k))) (σ.2 (10 + k)) (some (loc54 (40 + 6 * k + σ.2 (10 + k))))))) (20 + k) (.inr (2, [.ref (loc54 (30 + k)), .int (nI (σ.2 (10 + k) + 1))]))) (0) = some (.inr (7, [.ref (loc54 (1)), .ref (loc54 (2)), .ref (loc54 (3)), .ref (loc54 (4)), .ref (loc54 (5)), .ref (loc54 (6)), .ref (loc54 (7)), .int (nI (σ.2 0)), .int (nI (σ.2 1)), .int (nI (σ.2 2)), .int (nI (σ.2 3)), .int (nI (σ.2 4)), .int (nI (σ.2 5)), .int (nI (σ.2 6)), .int (σ.1 10 1), .int (σ.1 10 0), .ref (loc54 (8)), .ref (loc54 (11))])) := xup_o (xup_o (f71) (by omega)) (by omega)
              have f89 : (xup (xup (xup (xup (xup w (40 + 6 * k + σ.2 (10 + k)) (.inr (3, [.int (0), .null]))) (100 + 6 * k + σ.2 (10 + k)) (eI cy 9 (gg))) (40 + 6 * k + σ.2 (10 + k)) (.inr (3, [.int (d), .ref (loc54 (100 + 6 * k + σ.2 (10 + k)))]))) (30 + k) (eQ cy 4 6 (va_up (xq (fun j => loc (40 + 6 * k + j)) (σ.2 (10 + k))) (σ.2 (10 + k)) (some (loc54 (40 + 6 * k + σ.2 (10 + k))))))) (20 + k) (.inr (2, [.ref (loc54 (30 + k)), .int (nI (σ.2 (10 + k) + 1))]))) (20 + k) = some (.inr (2, [.ref (loc54 (30 + k)), .int (nI (σ.2 (10 + k) + 1))])) := xup_at _ _ _
              have f90 : (xup (xup (xup (xup (xup w (40 + 6 * k + σ.2 (10 + k)) (.inr (3, [.int (0), .null]))) (100 + 6 * k + σ.2 (10 + k)) (eI cy 9 (gg))) (40 + 6 * k + σ.2 (10 + k)) (.inr (3, [.int (d), .ref (loc54 (100 + 6 * k + σ.2 (10 + k)))]))) (30 + k) (eQ cy 4 6 (va_up (xq (fun j => loc (40 + 6 * k + j)) (σ.2 (10 + k))) (σ.2 (10 + k)) (some (loc54 (40 + 6 * k + σ.2 (10 + k))))))) (20 + k) (.inr (2, [.ref (loc54 (30 + k)), .int (nI (σ.2 (10 + k) + 1))]))) (40 + 6 * k + σ.2 (10 + k)) = some (.inr (3, [.int (d), .ref (loc54 (100 + 6 * k + σ.2 (10 + k)))])) := xup_o (xup_o (f76) (by omega)) (by omega)
              have f91 : (xup (xup (xup (xup (xup w (40 + 6 * k + σ.2 (10 + k)) (.inr (3, [.int (0), .null]))) (100 + 6 * k + σ.2 (10 + k)) (eI cy 9 (gg))) (40 + 6 * k + σ.2 (10 + k)) (.inr (3, [.int (d), .ref (loc54 (100 + 6 * k + σ.2 (10 + k)))]))) (30 + k) (eQ cy 4 6 (va_up (xq (fun j => loc (40 + 6 * k + j)) (σ.2 (10 + k))) (σ.2 (10 + k)) (some (loc54 (40 + 6 * k + σ.2 (10 + k))))))) (20 + k) (.inr (2, [.ref (loc54 (30 + k)), .int (nI (σ.2 (10 + k) + 1))]))) (1) = some (eI cy 9 (σ.1 0)) := xup_o (xup_o (f73) (by omega)) (by omega)
              have f92 : (xup (xup (xup (xup (xup w (40 + 6 * k + σ.2 (10 + k)) (.inr (3, [.int (0), .null]))) (100 + 6 * k + σ.2 (10 + k)) (eI cy 9 (gg))) (40 + 6 * k + σ.2 (10 + k)) (.inr (3, [.int (d), .ref (loc54 (100 + 6 * k + σ.2 (10 + k)))]))) (30 + k) (eQ cy 4 6 (va_up (xq (fun j => loc (40 + 6 * k + j)) (σ.2 (10 + k))) (σ.2 (10 + k)) (some (loc54 (40 + 6 * k + σ.2 (10 + k))))))) (20 + k) (.inr (2, [.ref (loc54 (30 + k)), .int (nI (σ.2 (10 + k) + 1))]))) (100 + 6 * k + σ.2 (10 + k)) = some (eI cy 9 (gg)) := xup_o (xup_o (f75) (by omega)) (by omega)
              have f93 : (xup (xup (xup (xup (xup w (40 + 6 * k + σ.2 (10 + k)) (.inr (3, [.int (0), .null]))) (100 + 6 * k + σ.2 (10 + k)) (eI cy 9 (gg))) (40 + 6 * k + σ.2 (10 + k)) (.inr (3, [.int (d), .ref (loc54 (100 + 6 * k + σ.2 (10 + k)))]))) (30 + k) (eQ cy 4 6 (va_up (xq (fun j => loc (40 + 6 * k + j)) (σ.2 (10 + k))) (σ.2 (10 + k)) (some (loc54 (40 + 6 * k + σ.2 (10 + k))))))) (20 + k) (.inr (2, [.ref (loc54 (30 + k)), .int (nI (σ.2 (10 + k) + 1))]))) (30 + k) = some (eQ cy 4 6 (va_up (xq (fun j => loc (40 + 6 * k + j)) (σ.2 (10 + k))) (σ.2 (10 + k)) (some (loc54 (40 + 6 * k + σ.2 (10 + k)))))) := xup_o (xup_at _ _ _) (by omega)
              refine lv_aload_n hx hb dX7_measure_83 rfl (lv_at hl 0 rfl) ?_
              refine x_getN (C := RX2) (T := TX2) (N := 2) (ref := "SaddleHouse$Horse") (host := RX7) hx hb hts hi_X7_measure_X2 hown hK hV81 f89 rfl 1 (by decide) (by decide +kernel) (fun _ h9 => h9) rfl dX7_measure_84 ?_
              refine W.widen (k := 2) (n := 11) (by omega) (by omega) ?_
              exact x_rmi hx hb hr hlocks dX7_measure_87 hV81 hS82 (x_lf (by simp only [sp_measure, p_k, k_k, c11, c12, c13, c17, c18, if_true, if_false, ite_true, ite_false, not_true_eq_false, not_false_eq_true, and_true, true_and, and_false, false_and, or_true, true_or, or_false, false_or, and_self, or_self, Nat.add_sub_cancel, Nat.add_eq_zero_iff, Nat.one_ne_zero, eq_self, Nat.not_lt]) (xOK_measure hRR hNN k d gg h_k (by omega) hg hg2 (fun b9 n0 n1 => ((hlo57 b9 n1).symm).trans ((hlo27 b9 n0).symm))))
            · have _u := trivial
              refine lv_bipush (v := -104) hx hb dX7_measure_64 (by decide +kernel) ?_
              refine W.widen (k := 2) (n := 11) (by omega) (by omega) ?_
              exact x_rmi hx hb hr hlocks dX7_measure_66 hV hS (x_lf (by simp only [sp_measure, p_k, k_k, c11, c12, c13, c17, c18, if_true, if_false, ite_true, ite_false, not_true_eq_false, not_false_eq_true, and_true, true_and, and_false, false_and, or_true, true_or, or_false, false_or, and_self, or_self, Nat.add_sub_cancel, Nat.add_eq_zero_iff, Nat.one_ne_zero, eq_self, Nat.not_lt]) (xOK_id hRR))
          · have _u := trivial
            refine lv_bipush (v := -103) hx hb dX7_measure_52 (by decide +kernel) ?_
            refine W.widen (k := 2) (n := 11) (by omega) (by omega) ?_
            exact x_rmi hx hb hr hlocks dX7_measure_54 hV hS (x_lf (by simp only [sp_measure, p_k, k_k, c11, c12, c13, c17, if_true, if_false, ite_true, ite_false, not_true_eq_false, not_false_eq_true, and_true, true_and, and_false, false_and, or_true, true_or, or_false, false_or, and_self, or_self, Nat.add_sub_cancel, Nat.add_eq_zero_iff, Nat.one_ne_zero, eq_self, Nat.not_lt]) (xOK_id hRR))
        · have _u := trivial
          refine lv_bipush (v := -102) hx hb dX7_measure_41 (by decide +kernel) ?_
          refine W.widen (k := 2) (n := 11) (by omega) (by omega) ?_
          exact x_rmi hx hb hr hlocks dX7_measure_43 hV hS (x_lf (by simp only [sp_measure, p_k, k_k, c11, c12, c13, if_true, if_false, ite_true, ite_false, not_true_eq_false, not_false_eq_true, and_true, true_and, and_false, false_and, or_true, true_or, or_false, false_or, and_self, or_self, Nat.add_sub_cancel, Nat.add_eq_zero_iff, Nat.one_ne_zero, eq_self, Nat.not_lt]) (xOK_id hRR))
  · refine x_topn (Eq.trans (show _ = _ from hr4) eq5) ?_
    refine lv_astore_nN (lv' := [(3, .null), (0, .ref (loc (0))), (1, .int (ho)), (2, .int (d))]) hx hb dX7_measure_5 rfl hl (by decide) rfl (fun ls hl => ?_)
    refine lv_aload_nN hx hb dX7_measure_6 rfl (lv_at hl 0 rfl) ?_
    refine lv_ifnonnullN hx hb dX7_measure_7 ?_
    refine lv_bipush (v := -101) hx hb dX7_measure_10 (by decide +kernel) ?_
    refine W.widen (k := 2) (n := 11) (by omega) (by omega) ?_
    exact x_rmi hx hb hr hlocks dX7_measure_12 hV hS (x_lf (by simp only [sp_measure, p_k, if_true, if_false, ite_true, ite_false, not_true_eq_false, not_false_eq_true, and_true, true_and, and_false, false_and, or_true, true_or, or_false, false_or, and_self, or_self, Nat.add_sub_cancel, Nat.add_eq_zero_iff, Nat.one_ne_zero, eq_self, Nat.not_lt]) (xOK_id hRR))
