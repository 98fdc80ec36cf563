abbrev rm_X7_fault : Room := { frames := 4, cells := 0, slots := 0, locals := 92 }
theorem hi_X7_fault_X7 : ∀ w ∈ wsX70, w ∈ wsX7_fault := fun w h => List.mem_cons_of_mem _ (List.mem_append_left _ (List.mem_append_left _ (List.mem_append_left _ (List.mem_append_left _ (List.mem_append_right _ h)))))
set_option maxHeartbeats 4000000 in
set_option maxRecDepth 100000 in
theorem c_X7_fault (l : Launch) (D : va_G) (cy : Nat → ClassId) (loc : Nat → Nat) (w : xM) (sz : Nat) (σ : xS) (hN : xN8 σ) (hR : xR cy loc σ w) (hB : xBd σ) (n ho d ld m0 wh : Int32)  : Met l yX7_fault wsX7_fault rm_X7_fault (va_Pc [.ref (loc (0)), .int (n), .int (ho), .int (d), .int (ld), .int (m0), .int (wh)] (xP D cy loc w sz)) (va_Qi (fun r u => r = sp_fault σ n ho d ld m0 wh ∧ xOK cy loc w σ u) (xB D (xA loc w sz)) (xA loc w sz)) 0 0 (xA loc w sz) := by
  refine x_met (cc := cX7_fault) (maxL := 10) (ret := (some .int)) (C := RX7) (by decide) rfl rfl (Nat.le_of_ble_eq_true rfl) ?_
  intro p e s m below meth c ls hx hb hml hr hts hown hlocks hin hP hl
  obtain ⟨hsz, hV, hK⟩ := hP
  subst hsz
  have hA : ∀ q : Nat, s.heap.size ≤ q → xA loc w s.heap.size q := fun q h => Or.inr h
  have hS : va_S (xA loc w s.heap.size) s.heap s.heap [] := va_S.rf
  have hl : lv_has ls 10 [(0, .ref (loc (0))), (1, .int (n)), (2, .int (ho)), (3, .int (d)), (4, .int (ld)), (5, .int (m0)), (6, .int (wh))] := hl
  have hNN := hN
  have hRR := hR
  obtain ⟨g0, b0, q0, hw⟩ := hR
  obtain ⟨hN0, hN1, hN2, hN3, hN4, hN5, hN6⟩ := hN
  have f1 : w (0) = some (.inr (7, [.ref (loc (1)), .ref (loc (2)), .ref (loc (3)), .ref (loc (4)), .ref (loc (5)), .ref (loc (6)), .ref (loc (7)), .int (nI (σ.2 0)), .int (nI (σ.2 1)), .int (nI (σ.2 2)), .int (nI (σ.2 3)), .int (nI (σ.2 4)), .int (nI (σ.2 5)), .int (nI (σ.2 6)), .int (σ.1 10 1), .int (σ.1 10 0), .ref (loc (8)), .ref (loc (11))])) := (hw 0 (by decide)).trans rfl
  have f2 : w (8) = some (.inr (5, [.ref (loc (9)), .ref (loc (10))])) := (hw 8 (by decide)).trans rfl
  have f3 : w (9) = some (eI cy 9 (g0)) := (hw 9 (by decide)).trans rfl
  have f4 : w (10) = some (eI cy 9 (b0)) := (hw 10 (by decide)).trans rfl
  refine lv_aload_n hx hb dX7_fault_0 rfl (lv_at hl 0 rfl) ?_
  refine lv_iload_n hx hb dX7_fault_1 rfl (lv_at hl 1 rfl) ?_
  refine x_cq (va_runV (As := [.int (n)]) (rest := []) ⟨hx, hb, hml, hown, hts⟩ (c_X7_treeAt l D cy loc w s.heap.size σ ⟨hN0, hN1, hN2, hN3, hN4, hN5, hN6⟩ hRR n) (cwV 1 hts gX7_fault_X7_treeAt rfl rfl rfl (by decide +kernel) ⟨Nat.le_of_ble_eq_true rfl, Nat.le_of_ble_eq_true rfl⟩) (x_preV hK hV f1 rfl) rfl rfl hl.1 rfl (lv_room (Nat.le_of_ble_eq_true rfl)) dX7_fault_2 ⟨Nat.le_of_ble_eq_true rfl, Nat.le_of_ble_eq_true rfl⟩) (fun r5 hr6 => ?_)
  rcases xat_or (fun k => loc (150 + k)) n (show σ.2 1 < 2 ^ 31 by omega) with ⟨kt, h_kt, e_kt, p_kt, eq7⟩ | ⟨p_kt, eq7⟩
  · refine x_topr (Eq.trans (show _ = _ from hr6) eq7) ?_
    subst e_kt
    have f8 : w (150 + kt) = some (.inr (6, [.ref (loc (160 + kt)), .ref (loc (170 + kt))])) := ((hw (150 + kt) (by omega)).trans (xC_150 (by omega) (by omega)))
    have f9 : w (160 + kt) = some (eI cy 9 (xsl 9 (σ.1 3) (9 * kt))) := ((hw (160 + kt) (by omega)).trans (xC_160 (by omega) (by omega)))
    have f10 : w (170 + kt) = some (eI cy 9 (xsl 9 (σ.1 4) (9 * kt))) := ((hw (170 + kt) (by omega)).trans (xC_170 (by omega) (by omega)))
    have k_kt : (nI kt).toNatClampNeg = kt := nI_clamp (by omega)
    refine lv_astore (lv' := [(7, .ref (loc (150 + kt))), (0, .ref (loc (0))), (1, .int (nI (kt))), (2, .int (ho)), (3, .int (d)), (4, .int (ld)), (5, .int (m0)), (6, .int (wh))]) hx hb dX7_fault_5 hl (by decide) rfl (fun ls hl => ?_)
    refine lv_aload_n hx hb dX7_fault_7 rfl (lv_at hl 1 rfl) ?_
    refine lv_iload_n hx hb dX7_fault_8 rfl (lv_at hl 3 rfl) ?_
    refine x_cq (va_runV (As := [.int (ho)]) (rest := []) ⟨hx, hb, hml, hown, hts⟩ (c_X7_horseAt l D cy loc w s.heap.size σ ⟨hN0, hN1, hN2, hN3, hN4, hN5, hN6⟩ hRR ho) (cwV 1 hts gX7_fault_X7_horseAt rfl rfl rfl (by decide +kernel) ⟨Nat.le_of_ble_eq_true rfl, Nat.le_of_ble_eq_true rfl⟩) (x_preV hK hV f1 rfl) rfl rfl hl.1 rfl (lv_room (Nat.le_of_ble_eq_true rfl)) dX7_fault_9 ⟨Nat.le_of_ble_eq_true rfl, Nat.le_of_ble_eq_true rfl⟩) (fun r11 hr12 => ?_)
    rcases xat_or (fun k => loc (20 + k)) ho (show σ.2 0 < 2 ^ 31 by omega) with ⟨k, h_k, e_k, p_k, eq13⟩ | ⟨p_k, eq13⟩
    · refine x_topr (Eq.trans (show _ = _ from hr12) eq13) ?_
      subst e_k
      have f14 : w (20 + k) = some (.inr (2, [.ref (loc (30 + k)), .int (nI (σ.2 (10 + k)))])) := ((hw (20 + k) (by omega)).trans (xC_20 (by omega) (by omega)))
      have f15 : w (30 + k) = some (eQ cy 4 6 (xq (fun j => loc (40 + 6 * k + j)) (σ.2 (10 + k)))) := ((hw (30 + k) (by omega)).trans (xC_30 (by omega) (by omega)))
      have k_k : (nI k).toNatClampNeg = k := nI_clamp (by omega)
      refine lv_astore (lv' := [(8, .ref (loc (20 + k))), (7, .ref (loc (150 + kt))), (0, .ref (loc (0))), (1, .int (nI (kt))), (2, .int (nI (k))), (3, .int (d)), (4, .int (ld)), (5, .int (m0)), (6, .int (wh))]) hx hb dX7_fault_12 hl (by decide) rfl (fun ls hl => ?_)
      refine lv_aload hx hb dX7_fault_14 (lv_at hl 1 rfl) ?_
      refine lv_ifnull hx hb dX7_fault_16 ?_
      refine lv_aload hx hb dX7_fault_19 (lv_at hl 0 rfl) ?_
      refine lv_ifnonnull (tgt := 27) hx hb dX7_fault_21 (by decide) ?_
      refine lv_iload_n hx hb dX7_fault_27 rfl (lv_at hl 5 rfl) ?_
      refine x_ci (va_runS (As := [.int (d)]) (rest := []) ⟨hx, hb, hml, hown, hts⟩ (c_X7_isDay l D cy loc w s.heap.size d) (cwS 1 hts gX7_fault_X7_isDay rfl rfl rfl (by decide +kernel) ⟨Nat.le_of_ble_eq_true rfl, Nat.le_of_ble_eq_true rfl⟩) (x_preS hK hV) rfl rfl hl.1 rfl (lv_room (Nat.le_of_ble_eq_true rfl)) dX7_fault_28 ⟨Nat.le_of_ble_eq_true rfl, Nat.le_of_ble_eq_true rfl⟩) (fun r16 hr17 => ?_)
      have ez18 : xb (nI 0 ≤ d ∧ d ≤ nI 10000) = r16 := Eq.symm (show r16 = xb (nI 0 ≤ d ∧ d ≤ nI 10000) from hr17)
      subst ez18
      refine x_beq (tgt := 60) hx hb dX7_fault_31 (by decide) (fun c19 => ?_) (fun c19 => ?_)
      · have _u := trivial
        refine lv_bipush (v := -102) hx hb dX7_fault_60 (by decide +kernel) ?_
        exact x_rmi hx hb hr hlocks dX7_fault_62 hV hS (⟨by show _ = _; simp only [sp_fault, p_kt, k_kt, p_k, k_k, c19, if_true, if_false, ite_true, ite_false, not_true_eq_false, not_false_eq_true, and_true, true_and, and_false, false_and, or_true, true_or, or_false, false_or, and_self, or_self], xOK_id hRR⟩)
      · have _u := trivial
        refine lv_iload hx hb dX7_fault_34 (lv_at hl 6 rfl) ?_
        refine x_ci (va_runS (As := [.int (ld)]) (rest := []) ⟨hx, hb, hml, hown, hts⟩ (c_X7_isLoad l D cy loc w s.heap.size ld) (cwS 1 hts gX7_fault_X7_isLoad rfl rfl rfl (by decide +kernel) ⟨Nat.le_of_ble_eq_true rfl, Nat.le_of_ble_eq_true rfl⟩) (x_preS hK hV) rfl rfl hl.1 rfl (lv_room (Nat.le_of_ble_eq_true rfl)) dX7_fault_36 ⟨Nat.le_of_ble_eq_true rfl, Nat.le_of_ble_eq_true rfl⟩) (fun r20 hr21 => ?_)
        have ez22 : xb (nI 1 ≤ ld ∧ ld ≤ nI 2000) = r20 := Eq.symm (show r20 = xb (nI 1 ≤ ld ∧ ld ≤ nI 2000) from hr21)
        subst ez22
        refine x_beq (tgt := 60) hx hb dX7_fault_39 (by decide) (fun c23 => ?_) (fun c23 => ?_)
        · have _u := trivial
          refine lv_bipush (v := -102) hx hb dX7_fault_60 (by decide +kernel) ?_
          exact x_rmi hx hb hr hlocks dX7_fault_62 hV hS (⟨by show _ = _; simp only [sp_fault, p_kt, k_kt, p_k, k_k, c19, c23, if_true, if_false, ite_true, ite_false, not_true_eq_false, not_false_eq_true, and_true, true_and, and_false, false_and, or_true, true_or, or_false, false_or, and_self, or_self], xOK_id hRR⟩)
        · have _u := trivial
          obtain ⟨ll, h_ll, h_ll', e_ll⟩ := x_rng1 (by decide) (by decide) c23
          subst e_ll
          have k_ll : (nI ll).toNatClampNeg = ll := nI_clamp (by omega)
          refine lv_iload hx hb dX7_fault_42 (lv_at hl 7 rfl) ?_
          refine x_ci (va_runS (As := [.int (m0)]) (rest := []) ⟨hx, hb, hml, hown, hts⟩ (c_X7_isLoad l D cy loc w s.heap.size m0) (cwS 1 hts gX7_fault_X7_isLoad rfl rfl rfl (by decide +kernel) ⟨Nat.le_of_ble_eq_true rfl, Nat.le_of_ble_eq_true rfl⟩) (x_preS hK hV) rfl rfl hl.1 rfl (lv_room (Nat.le_of_ble_eq_true rfl)) dX7_fault_44 ⟨Nat.le_of_ble_eq_true rfl, Nat.le_of_ble_eq_true rfl⟩) (fun r24 hr25 => ?_)
          have ez26 : xb (nI 1 ≤ m0 ∧ m0 ≤ nI 2000) = r24 := Eq.symm (show r24 = xb (nI 1 ≤ m0 ∧ m0 ≤ nI 2000) from hr25)
          subst ez26
          refine x_beq (tgt := 60) hx hb dX7_fault_47 (by decide) (fun c27 => ?_) (fun c27 => ?_)
          · have _u := trivial
            refine lv_bipush (v := -102) hx hb dX7_fault_60 (by decide +kernel) ?_
            exact x_rmi hx hb hr hlocks dX7_fault_62 hV hS (⟨by show _ = _; simp only [sp_fault, p_kt, k_kt, p_k, k_k, c19, c23, k_ll, c27, if_true, if_false, ite_true, ite_false, not_true_eq_false, not_false_eq_true, and_true, true_and, and_false, false_and, or_true, true_or, or_false, false_or, and_self, or_self], xOK_id hRR⟩)
          · have _u := trivial
            refine lv_iload hx hb dX7_fault_50 (lv_at hl 8 rfl) ?_
            refine lv_iconst (v := nI 0) hx hb dX7_fault_52 (by decide +kernel) ?_
            refine lv_iconst (v := nI 3) hx hb dX7_fault_53 (by decide +kernel) ?_
            refine x_ci (va_runS (As := [.int (wh), .int (nI (0)), .int (nI (3))]) (rest := []) ⟨hx, hb, hml, hown, hts⟩ (c_X7_isWithin l D cy loc w s.heap.size wh (nI 0) (nI 3)) (cwS 3 hts gX7_fault_X7_isWithin rfl rfl rfl (by decide +kernel) ⟨Nat.le_of_ble_eq_true rfl, Nat.le_of_ble_eq_true rfl⟩) (x_preS hK hV) rfl rfl hl.1 rfl (lv_room (Nat.le_of_ble_eq_true rfl)) dX7_fault_54 ⟨Nat.le_of_ble_eq_true rfl, Nat.le_of_ble_eq_true rfl⟩) (fun r28 hr29 => ?_)
            have ez30 : xb (nI 0 ≤ wh ∧ wh ≤ nI 3) = r28 := Eq.symm (show r28 = xb (nI 0 ≤ wh ∧ wh ≤ nI 3) from hr29)
            subst ez30
            refine x_bne (tgt := 63) hx hb dX7_fault_57 (by decide) (fun c31 => ?_) (fun c31 => ?_)
            · have _u := trivial
              obtain ⟨ww, h_ww, e_ww⟩ := x_rng (by decide) c31
              subst e_ww
              have k_ww : (nI ww).toNatClampNeg = ww := nI_clamp (by omega)
              refine lv_aload hx hb dX7_fault_63 (lv_at hl 0 rfl) ?_
              refine lv_iload_n hx hb dX7_fault_65 rfl (lv_at hl 5 rfl) ?_
              refine x_cq (va_runVN (host := RX7) (As := [.int (d)]) (rest := []) ⟨hx, hb, hml, hown, hts⟩ (c_X2_backOn l D cy loc w s.heap.size (20 + k) (30 + k) (40 + 6 * k) (100 + 6 * k) (σ.2 (10 + k)) (fun j => σ.1 1 (6 * k + j)) (xq (fun j => loc (40 + 6 * k + j)) (σ.2 (10 + k))) (hN6 k) (fun j h_j => xq_at h_j) (fun j h_j => by have h6 := hN6 k; exact (hw (40 + 6 * k + j) (by omega)).trans (xC_40 (by omega) (by omega) h_j (by have := hN6 k; omega))) d f14 f15) ⟨va_cnB 1 hts gX7_fault_X2_backOn_n115 rfl rfl rfl (hK.2.1 (.methodLinkNest RX7 115 yX2_backOn RX7) (by decide +kernel)) (hts (.initialized RX2) (List.mem_of_getElem? (i := 25) rfl)) (by decide +kernel) ⟨Nat.le_of_ble_eq_true rfl, Nat.le_of_ble_eq_true rfl⟩, hts (.instanceMethod yX2_backOn) (List.mem_of_getElem? (i := 24) rfl), hts (.selects RX2 yX2_backOn yX2_backOn) (List.mem_of_getElem? (i := 26) rfl)⟩ (x_preV hK hV f14 rfl) rfl rfl hl.1 rfl (lv_room (Nat.le_of_ble_eq_true rfl)) dX7_fault_66 ⟨Nat.le_of_ble_eq_true rfl, Nat.le_of_ble_eq_true rfl⟩) (fun r32 hr33 => ?_)
              rcases xlo_or (fun j => loc (40 + 6 * k + j)) (fun j => σ.1 1 (6 * k + j)) d (σ.2 (10 + k)) with ⟨j, h_j, p_j, eq34⟩ | ⟨p_j, eq34⟩
              · refine x_topr (Eq.trans (show _ = _ from hr33) eq34) ?_
                have h6_j := hN6 k
                have f35 : w (40 + 6 * k + j) = some (.inr (3, [.int (σ.1 1 (6 * k + j)), .ref (loc (100 + 6 * k + j))])) := ((hw (40 + 6 * k + j) (by omega)).trans (xC_40 (by omega) (by omega) (by omega) (by omega)))
                have f36 : w (100 + 6 * k + j) = some (eI cy 9 (xsl 9 (σ.1 2) (9 * (6 * k + j)))) := ((hw (100 + 6 * k + j) (by omega)).trans (xC_100 (by omega) (by omega) (by omega) (by omega)))
                have q_j : xbd σ k d = j + 1 := p_j
                refine lv_astore (lv' := [(9, .ref (loc (40 + 6 * k + j))), (8, .ref (loc (20 + k))), (7, .ref (loc (150 + kt))), (0, .ref (loc (0))), (1, .int (nI (kt))), (2, .int (nI (k))), (3, .int (d)), (4, .int (nI (ll))), (5, .int (m0)), (6, .int (nI (ww)))]) hx hb dX7_fault_69 hl (by decide) rfl (fun ls hl => ?_)
                refine lv_aload hx hb dX7_fault_71 (lv_at hl 0 rfl) ?_
                refine lv_ifnonnull (tgt := 79) hx hb dX7_fault_73 (by decide) ?_
                refine lv_aload_n hx hb dX7_fault_79 rfl (lv_at hl 3 rfl) ?_
                refine x_get (C := RX7) (T := TX7) (N := 18) hx hb hts hi_X7_fault_X7 hown hK hV f1 rfl 16 (by decide) (hts (.fieldLink RX7 77 "SaddleHouse" "seat" "LSaddleHouse$Seat;") (List.mem_of_getElem? (i := 1) rfl)) (fun _ h9 => h9) rfl dX7_fault_80 ?_
                refine lv_aload hx hb dX7_fault_83 (lv_at hl 2 rfl) ?_
                refine lv_aload hx hb dX7_fault_85 (lv_at hl 0 rfl) ?_
                refine lv_iload hx hb dX7_fault_87 (lv_at hl 7 rfl) ?_
                refine x_mv (va_runVN (host := RX7) (As := [.ref (loc (150 + kt)), .ref (loc (40 + 6 * k + j)), .int (nI (ll))]) (rest := []) ⟨hx, hb, hml, hown, hts⟩ (c_X5_settle l D cy loc w s.heap.size (150 + kt) (160 + kt) (170 + kt) (40 + 6 * k + j) (100 + 6 * k + j) g0 b0 (xsl 9 (σ.1 3) (9 * kt)) (xsl 9 (σ.1 4) (9 * kt)) (xsl 9 (σ.1 2) (9 * (6 * k + j))) (σ.1 1 (6 * k + j)) ⟨by omega, by omega⟩ ⟨by omega, by omega⟩ ⟨by omega, by omega⟩ ⟨by omega, by omega⟩ ⟨by omega, by omega⟩ (xGs σ kt (6 * k + j)) (xGs_all hB kt (6 * k + j)).1 (xGs_all hB kt (6 * k + j)).2.1 (xGs_all hB kt (6 * k + j)).2.2 ll h_ll h_ll' f2 f8 f35 f3 f4 f9 f10 f36) ⟨va_cnB 3 hts gX7_fault_X5_settle_n139 rfl rfl rfl (hK.2.1 (.methodLinkNest RX7 139 yX5_settle RX7) (by decide +kernel)) (hts (.initialized RX5) (List.mem_of_getElem? (i := 31) rfl)) (by decide +kernel) ⟨Nat.le_of_ble_eq_true rfl, Nat.le_of_ble_eq_true rfl⟩, hts (.instanceMethod yX5_settle) (List.mem_of_getElem? (i := 30) rfl), hts (.selects RX5 yX5_settle yX5_settle) (List.mem_of_getElem? (i := 32) rfl)⟩ (x_preV hK hV f2 rfl) rfl rfl hl.1 rfl (lv_room (Nat.le_of_ble_eq_true rfl)) dX7_fault_89 ⟨Nat.le_of_ble_eq_true rfl, Nat.le_of_ble_eq_true rfl⟩) hV hS hA (fun loc44 w43 H39 L40 hr38 hV41 hS42 => ?_)
                obtain ⟨e46, g1, b1, e47, hb1⟩ := hr38
                have e46 : loc = loc44 := Eq.symm e46
                subst e46
                have e47 := Eq.symm e47
                subst e47
                have f48 : (xup (xup w (9) (eI cy 9 (g1))) (10) (eI cy 9 (b1))) (0) = some (.inr (7, [.ref (loc (1)), .ref (loc (2)), .ref (loc (3)), .ref (loc (4)), .ref (loc (5)), .ref (loc (6)), .ref (loc (7)), .int (nI (σ.2 0)), .int (nI (σ.2 1)), .int (nI (σ.2 2)), .int (nI (σ.2 3)), .int (nI (σ.2 4)), .int (nI (σ.2 5)), .int (nI (σ.2 6)), .int (σ.1 10 1), .int (σ.1 10 0), .ref (loc (8)), .ref (loc (11))])) := xup_o (xup_o (f1) (by omega)) (by omega)
                have f49 : (xup (xup w (9) (eI cy 9 (g1))) (10) (eI cy 9 (b1))) (8) = some (.inr (5, [.ref (loc (9)), .ref (loc (10))])) := xup_o (xup_o (f2) (by omega)) (by omega)
                have f50 : (xup (xup w (9) (eI cy 9 (g1))) (10) (eI cy 9 (b1))) (150 + kt) = some (.inr (6, [.ref (loc (160 + kt)), .ref (loc (170 + kt))])) := xup_o (xup_o (((hw (150 + kt) (by omega)).trans (xC_150 (by omega) (by omega)))) (by omega)) (by omega)
                have f51 : (xup (xup w (9) (eI cy 9 (g1))) (10) (eI cy 9 (b1))) (20 + k) = some (.inr (2, [.ref (loc (30 + k)), .int (nI (σ.2 (10 + k)))])) := xup_o (xup_o (((hw (20 + k) (by omega)).trans (xC_20 (by omega) (by omega)))) (by omega)) (by omega)
                have f52 : (xup (xup w (9) (eI cy 9 (g1))) (10) (eI cy 9 (b1))) (40 + 6 * k + j) = some (.inr (3, [.int (σ.1 1 (6 * k + j)), .ref (loc (100 + 6 * k + j))])) := xup_o (xup_o (((hw (40 + 6 * k + j) (by omega)).trans (xC_40 (by omega) (by omega) (by omega) (by omega)))) (by omega)) (by omega)
                have f53 : (xup (xup w (9) (eI cy 9 (g1))) (10) (eI cy 9 (b1))) (9) = some (eI cy 9 (g1)) := xup_o (xup_at _ _ _) (by omega)
                have f54 : (xup (xup w (9) (eI cy 9 (g1))) (10) (eI cy 9 (b1))) (10) = some (eI cy 9 (b1)) := xup_at _ _ _
                have f55 : (xup (xup w (9) (eI cy 9 (g1))) (10) (eI cy 9 (b1))) (160 + kt) = some (eI cy 9 (xsl 9 (σ.1 3) (9 * kt))) := xup_o (xup_o (((hw (160 + kt) (by omega)).trans (xC_160 (by omega) (by omega)))) (by omega)) (by omega)
                have f56 : (xup (xup w (9) (eI cy 9 (g1))) (10) (eI cy 9 (b1))) (170 + kt) = some (eI cy 9 (xsl 9 (σ.1 4) (9 * kt))) := xup_o (xup_o (((hw (170 + kt) (by omega)).trans (xC_170 (by omega) (by omega)))) (by omega)) (by omega)
                have f57 : (xup (xup w (9) (eI cy 9 (g1))) (10) (eI cy 9 (b1))) (100 + 6 * k + j) = some (eI cy 9 (xsl 9 (σ.1 2) (9 * (6 * k + j)))) := xup_o (xup_o (((hw (100 + 6 * k + j) (by omega)).trans (xC_100 (by omega) (by omega) (by omega) (by omega)))) (by omega)) (by omega)
                have f58 : (xup (xup w (9) (eI cy 9 (g1))) (10) (eI cy 9 (b1))) (30 + k) = some (eQ cy 4 6 (xq (fun j => loc (40 + 6 * k + j)) (σ.2 (10 + k)))) := xup_o (xup_o (((hw (30 + k) (by omega)).trans (xC_30 (by omega) (by omega)))) (by omega)) (by omega)
                have hb1 : ∀ i, i < 9 → b1 i = xbe σ kt (6 * k + j) ll i := hb1
                refine lv_iload hx hb dX7_fault_92 (lv_at hl 9 rfl) ?_
                have hs59 : nI ww = nI 0 ∨ nI ww = nI 1 ∨ nI ww = nI 2 ∨ nI ww = nI 3 := x_w4 h_ww
                rcases hs59 with hs59 | hs59 | hs59 | hs59
                · refine x_top (congrArg Value.int hs59) ?_
                  refine lv_tableIn (tgt := 120) hx hb dX7_fault_94 (by decide) (by decide) rfl (by decide) ?_
                  have w4 : ww = 0 := x_w4n h_ww (by decide) hs59
                  refine lv_aload_n hx hb dX7_fault_120 rfl (lv_at hl 3 rfl) ?_
                  refine x_get (C := RX7) (T := TX7) (N := 18) hx hb hts hi_X7_fault_X7 hown hK hV41 f48 rfl 16 (by decide) (hts (.fieldLink RX7 77 "SaddleHouse" "seat" "LSaddleHouse$Seat;") (List.mem_of_getElem? (i := 1) rfl)) (fun _ h9 => h9) rfl dX7_fault_121 ?_
                  refine lv_iload hx hb dX7_fault_124 (lv_at hl 8 rfl) ?_
                  refine x_ci (va_runVN (host := RX7) (As := [.int (m0)]) (rest := []) ⟨hx, hb, hml, hown, hts⟩ (c_X5_firstFault l D cy loc (xup (xup w (9) (eI cy 9 (g1))) (10) (eI cy 9 (b1))) H39.size b1 m0 f49 f54) ⟨va_cnB 1 hts gX7_fault_X5_firstFault_n146 rfl rfl rfl (hK.2.1 (.methodLinkNest RX7 146 yX5_firstFault RX7) (by decide +kernel)) (hts (.initialized RX5) (List.mem_of_getElem? (i := 31) rfl)) (by decide +kernel) ⟨Nat.le_of_ble_eq_true rfl, Nat.le_of_ble_eq_true rfl⟩, hts (.instanceMethod yX5_firstFault) (List.mem_of_getElem? (i := 65) rfl), hts (.selects RX5 yX5_firstFault yX5_firstFault) (List.mem_of_getElem? (i := 66) rfl)⟩ (x_preV hK hV41 f49 rfl) rfl rfl hl.1 rfl (lv_room (Nat.le_of_ble_eq_true rfl)) dX7_fault_126 ⟨Nat.le_of_ble_eq_true rfl, Nat.le_of_ble_eq_true rfl⟩) (fun r60 hr61 => ?_)
                  have ez62 : nI (xfault b1 m0) = r60 := Eq.symm (show r60 = nI (xfault b1 m0) from hr61)
                  subst ez62
                  refine W.widen (k := 0) (n := 0) (by omega) (by omega) ?_
                  exact x_rmi hx hb hr hlocks dX7_fault_129 hV41 hS42 (⟨by show _ = _; simp only [sp_fault, p_kt, k_kt, p_k, k_k, c19, c23, k_ll, c27, c31, k_ww, q_j, if_true, if_false, ite_true, ite_false, not_true_eq_false, not_false_eq_true, and_true, true_and, and_false, false_and, or_true, true_or, or_false, false_or, and_self, or_self, Nat.add_sub_cancel, Nat.add_eq_zero_iff, Nat.one_ne_zero]; exact xft_0 hb1 w4, xOK_sc hRR⟩)
                · refine x_top (congrArg Value.int hs59) ?_
                  refine lv_tableIn (tgt := 130) hx hb dX7_fault_94 (by decide) (by decide) rfl (by decide) ?_
                  have w4 : ww = 1 := x_w4n h_ww (by decide) hs59
                  refine lv_aload_n hx hb dX7_fault_130 rfl (lv_at hl 3 rfl) ?_
                  refine x_get (C := RX7) (T := TX7) (N := 18) hx hb hts hi_X7_fault_X7 hown hK hV41 f48 rfl 16 (by decide) (hts (.fieldLink RX7 77 "SaddleHouse" "seat" "LSaddleHouse$Seat;") (List.mem_of_getElem? (i := 1) rfl)) (fun _ h9 => h9) rfl dX7_fault_131 ?_
                  refine lv_iload hx hb dX7_fault_134 (lv_at hl 8 rfl) ?_
                  refine x_ci (va_runVN (host := RX7) (As := [.int (m0)]) (rest := []) ⟨hx, hb, hml, hown, hts⟩ (c_X5_faultPlace l D cy loc (xup (xup w (9) (eI cy 9 (g1))) (10) (eI cy 9 (b1))) H39.size b1 m0 f49 f54) ⟨va_cnB 1 hts gX7_fault_X5_faultPlace_n149 rfl rfl rfl (hK.2.1 (.methodLinkNest RX7 149 yX5_faultPlace RX7) (by decide +kernel)) (hts (.initialized RX5) (List.mem_of_getElem? (i := 31) rfl)) (by decide +kernel) ⟨Nat.le_of_ble_eq_true rfl, Nat.le_of_ble_eq_true rfl⟩, hts (.instanceMethod yX5_faultPlace) (List.mem_of_getElem? (i := 84) rfl), hts (.selects RX5 yX5_faultPlace yX5_faultPlace) (List.mem_of_getElem? (i := 85) rfl)⟩ (x_preV hK hV41 f49 rfl) rfl rfl hl.1 rfl (lv_room (Nat.le_of_ble_eq_true rfl)) dX7_fault_136 ⟨Nat.le_of_ble_eq_true rfl, Nat.le_of_ble_eq_true rfl⟩) (fun r63 hr64 => ?_)
                  have ez65 : xplace b1 m0 = r63 := Eq.symm (show r63 = xplace b1 m0 from hr64)
                  subst ez65
                  refine W.widen (k := 0) (n := 0) (by omega) (by omega) ?_
                  exact x_rmi hx hb hr hlocks dX7_fault_139 hV41 hS42 (⟨by show _ = _; simp only [sp_fault, p_kt, k_kt, p_k, k_k, c19, c23, k_ll, c27, c31, k_ww, q_j, if_true, if_false, ite_true, ite_false, not_true_eq_false, not_false_eq_true, and_true, true_and, and_false, false_and, or_true, true_or, or_false, false_or, and_self, or_self, Nat.add_sub_cancel, Nat.add_eq_zero_iff, Nat.one_ne_zero]; exact xft_1 hb1 w4, xOK_sc hRR⟩)
                · refine x_top (congrArg Value.int hs59) ?_
                  refine lv_tableIn (tgt := 140) hx hb dX7_fault_94 (by decide) (by decide) rfl (by decide) ?_
                  have w4 : ww = 2 := x_w4n h_ww (by decide) hs59
                  refine lv_aload_n hx hb dX7_fault_140 rfl (lv_at hl 3 rfl) ?_
                  refine x_get (C := RX7) (T := TX7) (N := 18) hx hb hts hi_X7_fault_X7 hown hK hV41 f48 rfl 16 (by decide) (hts (.fieldLink RX7 77 "SaddleHouse" "seat" "LSaddleHouse$Seat;") (List.mem_of_getElem? (i := 1) rfl)) (fun _ h9 => h9) rfl dX7_fault_141 ?_
                  refine x_ci (va_runVN (host := RX7) (As := []) (rest := []) ⟨hx, hb, hml, hown, hts⟩ (c_X5_most l D cy loc (xup (xup w (9) (eI cy 9 (g1))) (10) (eI cy 9 (b1))) H39.size b1 f49 f54) ⟨va_cnB 0 hts gX7_fault_X5_most_n152 rfl rfl rfl (hK.2.1 (.methodLinkNest RX7 152 yX5_most RX7) (by decide +kernel)) (hts (.initialized RX5) (List.mem_of_getElem? (i := 31) rfl)) (by decide +kernel) ⟨Nat.le_of_ble_eq_true rfl, Nat.le_of_ble_eq_true rfl⟩, hts (.instanceMethod yX5_most) (List.mem_of_getElem? (i := 88) rfl), hts (.selects RX5 yX5_most yX5_most) (List.mem_of_getElem? (i := 89) rfl)⟩ (x_preV hK hV41 f49 rfl) rfl rfl hl.1 rfl (lv_room (Nat.le_of_ble_eq_true rfl)) dX7_fault_144 ⟨Nat.le_of_ble_eq_true rfl, Nat.le_of_ble_eq_true rfl⟩) (fun r66 hr67 => ?_)
                  have ez68 : b1 (xtop b1 8) = r66 := Eq.symm (show r66 = b1 (xtop b1 8) from hr67)
                  subst ez68
                  refine W.widen (k := 0) (n := 0) (by omega) (by omega) ?_
                  exact x_rmi hx hb hr hlocks dX7_fault_147 hV41 hS42 (⟨by show _ = _; simp only [sp_fault, p_kt, k_kt, p_k, k_k, c19, c23, k_ll, c27, c31, k_ww, q_j, if_true, if_false, ite_true, ite_false, not_true_eq_false, not_false_eq_true, and_true, true_and, and_false, false_and, or_true, true_or, or_false, false_or, and_self, or_self, Nat.add_sub_cancel, Nat.add_eq_zero_iff, Nat.one_ne_zero]; exact xft_2 hb1 w4, xOK_sc hRR⟩)
                · refine x_top (congrArg Value.int hs59) ?_
                  refine lv_tableOut (tgt := 148) hx hb dX7_fault_94 (by decide) (by decide) ?_
                  have w4 : ww = 3 := x_w4n h_ww (by decide) hs59
                  refine lv_aload_n hx hb dX7_fault_148 rfl (lv_at hl 3 rfl) ?_
                  refine x_get (C := RX7) (T := TX7) (N := 18) hx hb hts hi_X7_fault_X7 hown hK hV41 f48 rfl 16 (by decide) (hts (.fieldLink RX7 77 "SaddleHouse" "seat" "LSaddleHouse$Seat;") (List.mem_of_getElem? (i := 1) rfl)) (fun _ h9 => h9) rfl dX7_fault_149 ?_
                  refine x_ci (va_runVN (host := RX7) (As := []) (rest := []) ⟨hx, hb, hml, hown, hts⟩ (c_X5_pressedCount l D cy loc (xup (xup w (9) (eI cy 9 (g1))) (10) (eI cy 9 (b1))) H39.size b1 f49 f54) ⟨va_cnB 0 hts gX7_fault_X5_pressedCount_n156 rfl rfl rfl (hK.2.1 (.methodLinkNest RX7 156 yX5_pressedCount RX7) (by decide +kernel)) (hts (.initialized RX5) (List.mem_of_getElem? (i := 31) rfl)) (by decide +kernel) ⟨Nat.le_of_ble_eq_true rfl, Nat.le_of_ble_eq_true rfl⟩, hts (.instanceMethod yX5_pressedCount) (List.mem_of_getElem? (i := 91) rfl), hts (.selects RX5 yX5_pressedCount yX5_pressedCount) (List.mem_of_getElem? (i := 92) rfl)⟩ (x_preV hK hV41 f49 rfl) rfl rfl hl.1 rfl (lv_room (Nat.le_of_ble_eq_true rfl)) dX7_fault_152 ⟨Nat.le_of_ble_eq_true rfl, Nat.le_of_ble_eq_true rfl⟩) (fun r69 hr70 => ?_)
                  have ez71 : nI (xcnt b1 0 9) = r69 := Eq.symm (show r69 = nI (xcnt b1 0 9) from hr70)
                  subst ez71
                  refine W.widen (k := 0) (n := 0) (by omega) (by omega) ?_
                  exact x_rmi hx hb hr hlocks dX7_fault_155 hV41 hS42 (⟨by show _ = _; simp only [sp_fault, p_kt, k_kt, p_k, k_k, c19, c23, k_ll, c27, c31, k_ww, q_j, if_true, if_false, ite_true, ite_false, not_true_eq_false, not_false_eq_true, and_true, true_and, and_false, false_and, or_true, true_or, or_false, false_or, and_self, or_self, Nat.add_sub_cancel, Nat.add_eq_zero_iff, Nat.one_ne_zero]; exact xft_3 hb1 w4, xOK_sc hRR⟩)
              · refine x_topn (Eq.trans (show _ = _ from hr33) eq34) ?_
                have q_j : xbd σ k d = 0 := p_j
                refine lv_astoreN (lv' := [(9, .null), (8, .ref (loc (20 + k))), (7, .ref (loc (150 + kt))), (0, .ref (loc (0))), (1, .int (nI (kt))), (2, .int (nI (k))), (3, .int (d)), (4, .int (nI (ll))), (5, .int (m0)), (6, .int (nI (ww)))]) hx hb dX7_fault_69 hl (by decide) rfl (fun ls hl => ?_)
                refine lv_aloadN hx hb dX7_fault_71 (lv_at hl 0 rfl) ?_
                refine lv_ifnonnullN hx hb dX7_fault_73 ?_
                refine lv_bipush (v := -103) hx hb dX7_fault_76 (by decide +kernel) ?_
                exact x_rmi hx hb hr hlocks dX7_fault_78 hV hS (⟨by show _ = _; simp only [sp_fault, p_kt, k_kt, p_k, k_k, c19, c23, k_ll, c27, c31, k_ww, q_j, if_true, if_false, ite_true, ite_false, not_true_eq_false, not_false_eq_true, and_true, true_and, and_false, false_and, or_true, true_or, or_false, false_or, and_self, or_self], xOK_id hRR⟩)
            · have _u := trivial
              refine lv_bipush (v := -102) hx hb dX7_fault_60 (by decide +kernel) ?_
              exact x_rmi hx hb hr hlocks dX7_fault_62 hV hS (⟨by show _ = _; simp only [sp_fault, p_kt, k_kt, p_k, k_k, c19, c23, k_ll, c27, c31, if_true, if_false, ite_true, ite_false, not_true_eq_false, not_false_eq_true, and_true, true_and, and_false, false_and, or_true, true_or, or_false, false_or, and_self, or_self], xOK_id hRR⟩)
    · refine x_topn (Eq.trans (show _ = _ from hr12) eq13) ?_
      refine lv_astoreN (lv' := [(8, .null), (7, .ref (loc (150 + kt))), (0, .ref (loc (0))), (1, .int (nI (kt))), (2, .int (ho)), (3, .int (d)), (4, .int (ld)), (5, .int (m0)), (6, .int (wh))]) hx hb dX7_fault_12 hl (by decide) rfl (fun ls hl => ?_)
      refine lv_aload hx hb dX7_fault_14 (lv_at hl 1 rfl) ?_
      refine lv_ifnull hx hb dX7_fault_16 ?_
      refine lv_aloadN hx hb dX7_fault_19 (lv_at hl 0 rfl) ?_
      refine lv_ifnonnullN hx hb dX7_fault_21 ?_
      refine lv_bipush (v := -101) hx hb dX7_fault_24 (by decide +kernel) ?_
      exact x_rmi hx hb hr hlocks dX7_fault_26 hV hS (⟨by show _ = _; simp only [sp_fault, p_kt, k_kt, p_k, if_true, if_false, ite_true, ite_false, not_true_eq_false, not_false_eq_true, and_true, true_and, and_false, false_and, or_true, true_or, or_false, false_or, and_self, or_self], xOK_id hRR⟩)
  · refine x_topn (Eq.trans (show _ = _ from hr6) eq7) ?_
    refine lv_astoreN (lv' := [(7, .null), (0, .ref (loc (0))), (1, .int (n)), (2, .int (ho)), (3, .int (d)), (4, .int (ld)), (5, .int (m0)), (6, .int (wh))]) hx hb dX7_fault_5 hl (by decide) rfl (fun ls hl => ?_)
    refine lv_aload_n hx hb dX7_fault_7 rfl (lv_at hl 1 rfl) ?_
    refine lv_iload_n hx hb dX7_fault_8 rfl (lv_at hl 3 rfl) ?_
    refine x_cq (va_runV (As := [.int (ho)]) (rest := []) ⟨hx, hb, hml, hown, hts⟩ (c_X7_horseAt l D cy loc w s.heap.size σ ⟨hN0, hN1, hN2, hN3, hN4, hN5, hN6⟩ hRR ho) (cwV 1 hts gX7_fault_X7_horseAt rfl rfl rfl (by decide +kernel) ⟨Nat.le_of_ble_eq_true rfl, Nat.le_of_ble_eq_true rfl⟩) (x_preV hK hV f1 rfl) rfl rfl hl.1 rfl (lv_room (Nat.le_of_ble_eq_true rfl)) dX7_fault_9 ⟨Nat.le_of_ble_eq_true rfl, Nat.le_of_ble_eq_true rfl⟩) (fun r72 hr73 => ?_)
    rcases xat_or (fun k => loc (20 + k)) ho (show σ.2 0 < 2 ^ 31 by omega) with ⟨k, h_k, e_k, p_k, eq74⟩ | ⟨p_k, eq74⟩
    · refine x_topr (Eq.trans (show _ = _ from hr73) eq74) ?_
      subst e_k
      have f75 : w (20 + k) = some (.inr (2, [.ref (loc (30 + k)), .int (nI (σ.2 (10 + k)))])) := ((hw (20 + k) (by omega)).trans (xC_20 (by omega) (by omega)))
      have f76 : w (30 + k) = some (eQ cy 4 6 (xq (fun j => loc (40 + 6 * k + j)) (σ.2 (10 + k)))) := ((hw (30 + k) (by omega)).trans (xC_30 (by omega) (by omega)))
      have k_k : (nI k).toNatClampNeg = k := nI_clamp (by omega)
      refine lv_astore (lv' := [(8, .ref (loc (20 + k))), (7, .null), (0, .ref (loc (0))), (1, .int (n)), (2, .int (nI (k))), (3, .int (d)), (4, .int (ld)), (5, .int (m0)), (6, .int (wh))]) hx hb dX7_fault_12 hl (by decide) rfl (fun ls hl => ?_)
      refine lv_aloadN hx hb dX7_fault_14 (lv_at hl 1 rfl) ?_
      refine lv_ifnullN (tgt := 24) hx hb dX7_fault_16 (by decide) ?_
      refine lv_bipush (v := -101) hx hb dX7_fault_24 (by decide +kernel) ?_
      exact x_rmi hx hb hr hlocks dX7_fault_26 hV hS (⟨by show _ = _; simp only [sp_fault, p_kt, p_k, k_k, if_true, if_false, ite_true, ite_false, not_true_eq_false, not_false_eq_true, and_true, true_and, and_false, false_and, or_true, true_or, or_false, false_or, and_self, or_self], xOK_id hRR⟩)
    · refine x_topn (Eq.trans (show _ = _ from hr73) eq74) ?_
      refine lv_astoreN (lv' := [(8, .null), (7, .null), (0, .ref (loc (0))), (1, .int (n)), (2, .int (ho)), (3, .int (d)), (4, .int (ld)), (5, .int (m0)), (6, .int (wh))]) hx hb dX7_fault_12 hl (by decide) rfl (fun ls hl => ?_)
      refine lv_aloadN hx hb dX7_fault_14 (lv_at hl 1 rfl) ?_
      refine lv_ifnullN (tgt := 24) hx hb dX7_fault_16 (by decide) ?_
      refine lv_bipush (v := -101) hx hb dX7_fault_24 (by decide +kernel) ?_
      exact x_rmi hx hb hr hlocks dX7_fault_26 hV hS (⟨by show _ = _; simp only [sp_fault, p_kt, p_k, if_true, if_false, ite_true, ite_false, not_true_eq_false, not_false_eq_true, and_true, true_and, and_false, false_and, or_true, true_or, or_false, false_or, and_self, or_self], xOK_id hRR⟩)
