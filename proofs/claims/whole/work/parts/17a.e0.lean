abbrev rm_X7_bears : Room := { frames := 4, cells := 0, slots := 0, locals := 92 }
theorem hi_X7_bears_X5 : ∀ w ∈ wsX50, w ∈ wsX7_bears := fun w h => List.mem_cons_of_mem _ (List.mem_append_left _ (List.mem_append_left _ (List.mem_append_left _ (List.mem_append_right _ h))))
theorem hi_X7_bears_X7 : ∀ w ∈ wsX70, w ∈ wsX7_bears := fun w h => List.mem_cons_of_mem _ (List.mem_append_left _ (List.mem_append_left _ (List.mem_append_left _ (List.mem_append_left _ (List.mem_append_right _ h)))))
set_option maxHeartbeats 4000000 in
set_option maxRecDepth 100000 in
theorem c_X7_bears (l : Launch) (D : va_G) (cy : Nat → ClassId) (loc : Nat → Nat) (w : xM) (sz : Nat) (σ : xS) (hN : xN8 σ) (hR : xR cy loc σ w) (hB : xBd σ) (n ho d ld i : Int32)  : Met l yX7_bears wsX7_bears rm_X7_bears (va_Pc [.ref (loc (0)), .int (n), .int (ho), .int (d), .int (ld), .int (i)] (xP D cy loc w sz)) (va_Qi (fun r u => r = sp_bears σ n ho d ld i ∧ xOK cy loc w σ u) (xB D (xA loc w sz)) (xA loc w sz)) 0 0 (xA loc w sz) := by
  refine x_met (cc := cX7_bears) (maxL := 9) (ret := (some .int)) (C := RX7) (by decide) rfl rfl (Nat.le_of_ble_eq_true rfl) ?_
  intro p e s m below meth c ls hx hb hml hr hts hown hlocks hin hP hl
  obtain ⟨hsz, hV, hK⟩ := hP
  subst hsz
  have hA : ∀ q : Nat, s.heap.size ≤ q → xA loc w s.heap.size q := fun q h => Or.inr h
  have hS : va_S (xA loc w s.heap.size) s.heap s.heap [] := va_S.rf
  have hl : lv_has ls 9 [(0, .ref (loc (0))), (1, .int (n)), (2, .int (ho)), (3, .int (d)), (4, .int (ld)), (5, .int (i))] := hl
  have hNN := hN
  have hRR := hR
  obtain ⟨g0, b0, q0, hw⟩ := hR
  obtain ⟨hN0, hN1, hN2, hN3, hN4, hN5, hN6⟩ := hN
  have f1 : w (0) = some (.inr (7, [.ref (loc (1)), .ref (loc (2)), .ref (loc (3)), .ref (loc (4)), .ref (loc (5)), .ref (loc (6)), .ref (loc (7)), .int (nI (σ.2 0)), .int (nI (σ.2 1)), .int (nI (σ.2 2)), .int (nI (σ.2 3)), .int (nI (σ.2 4)), .int (nI (σ.2 5)), .int (nI (σ.2 6)), .int (σ.1 10 1), .int (σ.1 10 0), .ref (loc (8)), .ref (loc (11))])) := (hw 0 (by decide)).trans rfl
  have f2 : w (8) = some (.inr (5, [.ref (loc (9)), .ref (loc (10))])) := (hw 8 (by decide)).trans rfl
  have f3 : w (9) = some (eI cy 9 (g0)) := (hw 9 (by decide)).trans rfl
  have f4 : w (10) = some (eI cy 9 (b0)) := (hw 10 (by decide)).trans rfl
  refine lv_aload_n hx hb dX7_bears_0 rfl (lv_at hl 0 rfl) ?_
  refine lv_iload_n hx hb dX7_bears_1 rfl (lv_at hl 1 rfl) ?_
  refine x_cq (va_runV (As := [.int (n)]) (rest := []) ⟨hx, hb, hml, hown, hts⟩ (c_X7_treeAt l D cy loc w s.heap.size σ ⟨hN0, hN1, hN2, hN3, hN4, hN5, hN6⟩ hRR n) (cwV 1 hts gX7_bears_X7_treeAt rfl rfl rfl (by decide +kernel) ⟨Nat.le_of_ble_eq_true rfl, Nat.le_of_ble_eq_true rfl⟩) (x_preV hK hV f1 rfl) rfl rfl hl.1 rfl (lv_room (Nat.le_of_ble_eq_true rfl)) dX7_bears_2 ⟨Nat.le_of_ble_eq_true rfl, Nat.le_of_ble_eq_true rfl⟩) (fun r5 hr6 => ?_)
  rcases xat_or (fun k => loc (150 + k)) n (show σ.2 1 < 2 ^ 31 by omega) with ⟨kt, h_kt, e_kt, p_kt, eq7⟩ | ⟨p_kt, eq7⟩
  · refine x_topr (Eq.trans (show _ = _ from hr6) eq7) ?_
    subst e_kt
    have f8 : w (150 + kt) = some (.inr (6, [.ref (loc (160 + kt)), .ref (loc (170 + kt))])) := ((hw (150 + kt) (by omega)).trans (xC_150 (by omega) (by omega)))
    have f9 : w (160 + kt) = some (eI cy 9 (xsl 9 (σ.1 3) (9 * kt))) := ((hw (160 + kt) (by omega)).trans (xC_160 (by omega) (by omega)))
    have f10 : w (170 + kt) = some (eI cy 9 (xsl 9 (σ.1 4) (9 * kt))) := ((hw (170 + kt) (by omega)).trans (xC_170 (by omega) (by omega)))
    have k_kt : (nI kt).toNatClampNeg = kt := nI_clamp (by omega)
    refine lv_astore (lv' := [(6, .ref (loc (150 + kt))), (0, .ref (loc (0))), (1, .int (nI (kt))), (2, .int (ho)), (3, .int (d)), (4, .int (ld)), (5, .int (i))]) hx hb dX7_bears_5 hl (by decide) rfl (fun ls hl => ?_)
    refine lv_aload_n hx hb dX7_bears_7 rfl (lv_at hl 1 rfl) ?_
    refine lv_iload_n hx hb dX7_bears_8 rfl (lv_at hl 3 rfl) ?_
    refine x_cq (va_runV (As := [.int (ho)]) (rest := []) ⟨hx, hb, hml, hown, hts⟩ (c_X7_horseAt l D cy loc w s.heap.size σ ⟨hN0, hN1, hN2, hN3, hN4, hN5, hN6⟩ hRR ho) (cwV 1 hts gX7_bears_X7_horseAt rfl rfl rfl (by decide +kernel) ⟨Nat.le_of_ble_eq_true rfl, Nat.le_of_ble_eq_true rfl⟩) (x_preV hK hV f1 rfl) rfl rfl hl.1 rfl (lv_room (Nat.le_of_ble_eq_true rfl)) dX7_bears_9 ⟨Nat.le_of_ble_eq_true rfl, Nat.le_of_ble_eq_true rfl⟩) (fun r11 hr12 => ?_)
    rcases xat_or (fun k => loc (20 + k)) ho (show σ.2 0 < 2 ^ 31 by omega) with ⟨k, h_k, e_k, p_k, eq13⟩ | ⟨p_k, eq13⟩
    · refine x_topr (Eq.trans (show _ = _ from hr12) eq13) ?_
      subst e_k
      have f14 : w (20 + k) = some (.inr (2, [.ref (loc (30 + k)), .int (nI (σ.2 (10 + k)))])) := ((hw (20 + k) (by omega)).trans (xC_20 (by omega) (by omega)))
      have f15 : w (30 + k) = some (eQ cy 4 6 (xq (fun j => loc (40 + 6 * k + j)) (σ.2 (10 + k)))) := ((hw (30 + k) (by omega)).trans (xC_30 (by omega) (by omega)))
      have k_k : (nI k).toNatClampNeg = k := nI_clamp (by omega)
      refine lv_astore (lv' := [(7, .ref (loc (20 + k))), (6, .ref (loc (150 + kt))), (0, .ref (loc (0))), (1, .int (nI (kt))), (2, .int (nI (k))), (3, .int (d)), (4, .int (ld)), (5, .int (i))]) hx hb dX7_bears_12 hl (by decide) rfl (fun ls hl => ?_)
      refine lv_aload hx hb dX7_bears_14 (lv_at hl 1 rfl) ?_
      refine lv_ifnull hx hb dX7_bears_16 ?_
      refine lv_aload hx hb dX7_bears_19 (lv_at hl 0 rfl) ?_
      refine lv_ifnull hx hb dX7_bears_21 ?_
      refine lv_iload hx hb dX7_bears_24 (lv_at hl 7 rfl) ?_
      refine x_ci (va_runS (As := [.int (i)]) (rest := []) ⟨hx, hb, hml, hown, hts⟩ (c_X7_isStation l D cy loc w s.heap.size i) (cwS 1 hts gX7_bears_X7_isStation rfl rfl rfl (by decide +kernel) ⟨Nat.le_of_ble_eq_true rfl, Nat.le_of_ble_eq_true rfl⟩) (x_preS hK hV) rfl rfl hl.1 rfl (lv_room (Nat.le_of_ble_eq_true rfl)) dX7_bears_26 ⟨Nat.le_of_ble_eq_true rfl, Nat.le_of_ble_eq_true rfl⟩) (fun r16 hr17 => ?_)
      have ez18 : xb (nI 0 ≤ i ∧ i ≤ nI 8) = r16 := Eq.symm (show r16 = xb (nI 0 ≤ i ∧ i ≤ nI 8) from hr17)
      subst ez18
      refine x_bne (tgt := 35) hx hb dX7_bears_29 (by decide) (fun c19 => ?_) (fun c19 => ?_)
      · have _u := trivial
        obtain ⟨ii, h_ii, e_ii⟩ := x_rng (by decide) c19
        subst e_ii
        have k_ii : (nI ii).toNatClampNeg = ii := nI_clamp (by omega)
        refine lv_iload_n hx hb dX7_bears_35 rfl (lv_at hl 5 rfl) ?_
        refine x_ci (va_runS (As := [.int (d)]) (rest := []) ⟨hx, hb, hml, hown, hts⟩ (c_X7_isDay l D cy loc w s.heap.size d) (cwS 1 hts gX7_bears_X7_isDay rfl rfl rfl (by decide +kernel) ⟨Nat.le_of_ble_eq_true rfl, Nat.le_of_ble_eq_true rfl⟩) (x_preS hK hV) rfl rfl hl.1 rfl (lv_room (Nat.le_of_ble_eq_true rfl)) dX7_bears_36 ⟨Nat.le_of_ble_eq_true rfl, Nat.le_of_ble_eq_true rfl⟩) (fun r20 hr21 => ?_)
        have ez22 : xb (nI 0 ≤ d ∧ d ≤ nI 10000) = r20 := Eq.symm (show r20 = xb (nI 0 ≤ d ∧ d ≤ nI 10000) from hr21)
        subst ez22
        refine x_beq (tgt := 50) hx hb dX7_bears_39 (by decide) (fun c23 => ?_) (fun c23 => ?_)
        · have _u := trivial
          refine lv_bipush (v := -102) hx hb dX7_bears_50 (by decide +kernel) ?_
          exact x_rmi hx hb hr hlocks dX7_bears_52 hV hS (⟨by show _ = _; simp only [sp_bears, p_kt, k_kt, p_k, k_k, c19, k_ii, c23, if_true, if_false, ite_true, ite_false, not_true_eq_false, not_false_eq_true, and_true, true_and, and_false, false_and, or_true, true_or, or_false, false_or, and_self, or_self], xOK_id hRR⟩)
        · have _u := trivial
          refine lv_iload hx hb dX7_bears_42 (lv_at hl 6 rfl) ?_
          refine x_ci (va_runS (As := [.int (ld)]) (rest := []) ⟨hx, hb, hml, hown, hts⟩ (c_X7_isLoad l D cy loc w s.heap.size ld) (cwS 1 hts gX7_bears_X7_isLoad rfl rfl rfl (by decide +kernel) ⟨Nat.le_of_ble_eq_true rfl, Nat.le_of_ble_eq_true rfl⟩) (x_preS hK hV) rfl rfl hl.1 rfl (lv_room (Nat.le_of_ble_eq_true rfl)) dX7_bears_44 ⟨Nat.le_of_ble_eq_true rfl, Nat.le_of_ble_eq_true rfl⟩) (fun r24 hr25 => ?_)
          have ez26 : xb (nI 1 ≤ ld ∧ ld ≤ nI 2000) = r24 := Eq.symm (show r24 = xb (nI 1 ≤ ld ∧ ld ≤ nI 2000) from hr25)
          subst ez26
          refine x_bne (tgt := 53) hx hb dX7_bears_47 (by decide) (fun c27 => ?_) (fun c27 => ?_)
          · have _u := trivial
            obtain ⟨ll, h_ll, h_ll', e_ll⟩ := x_rng1 (by decide) (by decide) c27
            subst e_ll
            have k_ll : (nI ll).toNatClampNeg = ll := nI_clamp (by omega)
            refine lv_aload hx hb dX7_bears_53 (lv_at hl 0 rfl) ?_
            refine lv_iload_n hx hb dX7_bears_55 rfl (lv_at hl 5 rfl) ?_
            refine x_cq (va_runVN (host := RX7) (As := [.int (d)]) (rest := []) ⟨hx, hb, hml, hown, hts⟩ (c_X2_backOn l D cy loc w s.heap.size (20 + k) (30 + k) (40 + 6 * k) (100 + 6 * k) (σ.2 (10 + k)) (fun j => σ.1 1 (6 * k + j)) (xq (fun j => loc (40 + 6 * k + j)) (σ.2 (10 + k))) (hN6 k) (fun j h_j => xq_at h_j) (fun j h_j => by have h6 := hN6 k; exact (hw (40 + 6 * k + j) (by omega)).trans (xC_40 (by omega) (by omega) h_j (by have := hN6 k; omega))) d f14 f15) ⟨va_cnB 1 hts gX7_bears_X2_backOn_n115 rfl rfl rfl (hK.2.1 (.methodLinkNest RX7 115 yX2_backOn RX7) (by decide +kernel)) (hts (.initialized RX2) (List.mem_of_getElem? (i := 28) rfl)) (by decide +kernel) ⟨Nat.le_of_ble_eq_true rfl, Nat.le_of_ble_eq_true rfl⟩, hts (.instanceMethod yX2_backOn) (List.mem_of_getElem? (i := 27) rfl), hts (.selects RX2 yX2_backOn yX2_backOn) (List.mem_of_getElem? (i := 29) rfl)⟩ (x_preV hK hV f14 rfl) rfl rfl hl.1 rfl (lv_room (Nat.le_of_ble_eq_true rfl)) dX7_bears_56 ⟨Nat.le_of_ble_eq_true rfl, Nat.le_of_ble_eq_true rfl⟩) (fun r28 hr29 => ?_)
            rcases xlo_or (fun j => loc (40 + 6 * k + j)) (fun j => σ.1 1 (6 * k + j)) d (σ.2 (10 + k)) with ⟨j, h_j, p_j, eq30⟩ | ⟨p_j, eq30⟩
            · refine x_topr (Eq.trans (show _ = _ from hr29) eq30) ?_
              have h6_j := hN6 k
              have f31 : w (40 + 6 * k + j) = some (.inr (3, [.int (σ.1 1 (6 * k + j)), .ref (loc (100 + 6 * k + j))])) := ((hw (40 + 6 * k + j) (by omega)).trans (xC_40 (by omega) (by omega) (by omega) (by omega)))
              have f32 : w (100 + 6 * k + j) = some (eI cy 9 (xsl 9 (σ.1 2) (9 * (6 * k + j)))) := ((hw (100 + 6 * k + j) (by omega)).trans (xC_100 (by omega) (by omega) (by omega) (by omega)))
              have q_j : xbd σ k d = j + 1 := p_j
              refine lv_astore (lv' := [(8, .ref (loc (40 + 6 * k + j))), (7, .ref (loc (20 + k))), (6, .ref (loc (150 + kt))), (0, .ref (loc (0))), (1, .int (nI (kt))), (2, .int (nI (k))), (3, .int (d)), (4, .int (nI (ll))), (5, .int (nI (ii)))]) hx hb dX7_bears_59 hl (by decide) rfl (fun ls hl => ?_)
              refine lv_aload hx hb dX7_bears_61 (lv_at hl 0 rfl) ?_
              refine lv_ifnonnull (tgt := 69) hx hb dX7_bears_63 (by decide) ?_
              refine lv_aload_n hx hb dX7_bears_69 rfl (lv_at hl 3 rfl) ?_
              refine x_get (C := RX7) (T := TX7) (N := 18) hx hb hts hi_X7_bears_X7 hown hK hV f1 rfl 16 (by decide) (hts (.fieldLink RX7 77 "SaddleHouse" "seat" "LSaddleHouse$Seat;") (List.mem_of_getElem? (i := 1) rfl)) (fun _ h9 => h9) rfl dX7_bears_70 ?_
              refine lv_aload hx hb dX7_bears_73 (lv_at hl 2 rfl) ?_
              refine lv_aload hx hb dX7_bears_75 (lv_at hl 0 rfl) ?_
              refine lv_iload hx hb dX7_bears_77 (lv_at hl 7 rfl) ?_
              refine x_mv (va_runVN (host := RX7) (As := [.ref (loc (150 + kt)), .ref (loc (40 + 6 * k + j)), .int (nI (ll))]) (rest := []) ⟨hx, hb, hml, hown, hts⟩ (c_X5_settle l D cy loc w s.heap.size (150 + kt) (160 + kt) (170 + kt) (40 + 6 * k + j) (100 + 6 * k + j) g0 b0 (xsl 9 (σ.1 3) (9 * kt)) (xsl 9 (σ.1 4) (9 * kt)) (xsl 9 (σ.1 2) (9 * (6 * k + j))) (σ.1 1 (6 * k + j)) ⟨by omega, by omega⟩ ⟨by omega, by omega⟩ ⟨by omega, by omega⟩ ⟨by omega, by omega⟩ ⟨by omega, by omega⟩ (xGs σ kt (6 * k + j)) (xGs_all hB kt (6 * k + j)).1 (xGs_all hB kt (6 * k + j)).2.1 (xGs_all hB kt (6 * k + j)).2.2 ll h_ll h_ll' f2 f8 f31 f3 f4 f9 f10 f32) ⟨va_cnB 3 hts gX7_bears_X5_settle_n139 rfl rfl rfl (hK.2.1 (.methodLinkNest RX7 139 yX5_settle RX7) (by decide +kernel)) (hts (.initialized RX5) (List.mem_of_getElem? (i := 34) rfl)) (by decide +kernel) ⟨Nat.le_of_ble_eq_true rfl, Nat.le_of_ble_eq_true rfl⟩, hts (.instanceMethod yX5_settle) (List.mem_of_getElem? (i := 33) rfl), hts (.selects RX5 yX5_settle yX5_settle) (List.mem_of_getElem? (i := 35) rfl)⟩ (x_preV hK hV f2 rfl) rfl rfl hl.1 rfl (lv_room (Nat.le_of_ble_eq_true rfl)) dX7_bears_79 ⟨Nat.le_of_ble_eq_true rfl, Nat.le_of_ble_eq_true rfl⟩) hV hS hA (fun loc40 w39 H35 L36 hr34 hV37 hS38 => ?_)
              obtain ⟨e42, g1, b1, e43, hb1⟩ := hr34
              have e42 : loc = loc40 := Eq.symm e42
              subst e42
              have e43 := Eq.symm e43
              subst e43
              have f44 : (xup (xup w (9) (eI cy 9 (g1))) (10) (eI cy 9 (b1))) (0) = some (.inr (7, [.ref (loc (1)), .ref (loc (2)), .ref (loc (3)), .ref (loc (4)), .ref (loc (5)), .ref (loc (6)), .ref (loc (7)), .int (nI (σ.2 0)), .int (nI (σ.2 1)), .int (nI (σ.2 2)), .int (nI (σ.2 3)), .int (nI (σ.2 4)), .int (nI (σ.2 5)), .int (nI (σ.2 6)), .int (σ.1 10 1), .int (σ.1 10 0), .ref (loc (8)), .ref (loc (11))])) := xup_o (xup_o (f1) (by omega)) (by omega)
              have f45 : (xup (xup w (9) (eI cy 9 (g1))) (10) (eI cy 9 (b1))) (8) = some (.inr (5, [.ref (loc (9)), .ref (loc (10))])) := xup_o (xup_o (f2) (by omega)) (by omega)
              have f46 : (xup (xup w (9) (eI cy 9 (g1))) (10) (eI cy 9 (b1))) (150 + kt) = some (.inr (6, [.ref (loc (160 + kt)), .ref (loc (170 + kt))])) := xup_o (xup_o (((hw (150 + kt) (by omega)).trans (xC_150 (by omega) (by omega)))) (by omega)) (by omega)
              have f47 : (xup (xup w (9) (eI cy 9 (g1))) (10) (eI cy 9 (b1))) (20 + k) = some (.inr (2, [.ref (loc (30 + k)), .int (nI (σ.2 (10 + k)))])) := xup_o (xup_o (((hw (20 + k) (by omega)).trans (xC_20 (by omega) (by omega)))) (by omega)) (by omega)
              have f48 : (xup (xup w (9) (eI cy 9 (g1))) (10) (eI cy 9 (b1))) (40 + 6 * k + j) = some (.inr (3, [.int (σ.1 1 (6 * k + j)), .ref (loc (100 + 6 * k + j))])) := xup_o (xup_o (((hw (40 + 6 * k + j) (by omega)).trans (xC_40 (by omega) (by omega) (by omega) (by omega)))) (by omega)) (by omega)
              have f49 : (xup (xup w (9) (eI cy 9 (g1))) (10) (eI cy 9 (b1))) (9) = some (eI cy 9 (g1)) := xup_o (xup_at _ _ _) (by omega)
              have f50 : (xup (xup w (9) (eI cy 9 (g1))) (10) (eI cy 9 (b1))) (10) = some (eI cy 9 (b1)) := xup_at _ _ _
              have f51 : (xup (xup w (9) (eI cy 9 (g1))) (10) (eI cy 9 (b1))) (160 + kt) = some (eI cy 9 (xsl 9 (σ.1 3) (9 * kt))) := xup_o (xup_o (((hw (160 + kt) (by omega)).trans (xC_160 (by omega) (by omega)))) (by omega)) (by omega)
              have f52 : (xup (xup w (9) (eI cy 9 (g1))) (10) (eI cy 9 (b1))) (170 + kt) = some (eI cy 9 (xsl 9 (σ.1 4) (9 * kt))) := xup_o (xup_o (((hw (170 + kt) (by omega)).trans (xC_170 (by omega) (by omega)))) (by omega)) (by omega)
              have f53 : (xup (xup w (9) (eI cy 9 (g1))) (10) (eI cy 9 (b1))) (100 + 6 * k + j) = some (eI cy 9 (xsl 9 (σ.1 2) (9 * (6 * k + j)))) := xup_o (xup_o (((hw (100 + 6 * k + j) (by omega)).trans (xC_100 (by omega) (by omega) (by omega) (by omega)))) (by omega)) (by omega)
              have f54 : (xup (xup w (9) (eI cy 9 (g1))) (10) (eI cy 9 (b1))) (30 + k) = some (eQ cy 4 6 (xq (fun j => loc (40 + 6 * k + j)) (σ.2 (10 + k)))) := xup_o (xup_o (((hw (30 + k) (by omega)).trans (xC_30 (by omega) (by omega)))) (by omega)) (by omega)
              have hb1 : ∀ i, i < 9 → b1 i = xbe σ kt (6 * k + j) ll i := hb1
              refine lv_aload_n hx hb dX7_bears_82 rfl (lv_at hl 3 rfl) ?_
              refine x_get (C := RX7) (T := TX7) (N := 18) hx hb hts hi_X7_bears_X7 hown hK hV37 f44 rfl 16 (by decide) (hts (.fieldLink RX7 77 "SaddleHouse" "seat" "LSaddleHouse$Seat;") (List.mem_of_getElem? (i := 1) rfl)) (fun _ h9 => h9) rfl dX7_bears_83 ?_
              refine x_getN (C := RX5) (T := TX5) (N := 2) (ref := "SaddleHouse$Seat") (host := RX7) hx hb hts hi_X7_bears_X5 hown hK hV37 f45 rfl 1 (by decide) (by decide +kernel) (fun _ h9 => h9) rfl dX7_bears_86 ?_
              refine lv_iload hx hb dX7_bears_89 (lv_at hl 8 rfl) ?_
              refine x_iald hx hb hK hV37 f50 (ii) (by omega) (by decide) dX7_bears_91 ?_
              refine W.widen (k := 0) (n := 0) (by omega) (by omega) ?_
              exact x_rmi hx hb hr hlocks dX7_bears_92 hV37 hS38 (⟨by show _ = _; simp only [sp_bears, p_kt, k_kt, p_k, k_k, c19, k_ii, c23, c27, k_ll, q_j, if_true, if_false, ite_true, ite_false, not_true_eq_false, not_false_eq_true, and_true, true_and, and_false, false_and, or_true, true_or, or_false, false_or, and_self, or_self, Nat.add_sub_cancel, Nat.add_eq_zero_iff, Nat.one_ne_zero]; exact hb1 ii (by omega), xOK_sc hRR⟩)
            · refine x_topn (Eq.trans (show _ = _ from hr29) eq30) ?_
              have q_j : xbd σ k d = 0 := p_j
              refine lv_astoreN (lv' := [(8, .null), (7, .ref (loc (20 + k))), (6, .ref (loc (150 + kt))), (0, .ref (loc (0))), (1, .int (nI (kt))), (2, .int (nI (k))), (3, .int (d)), (4, .int (nI (ll))), (5, .int (nI (ii)))]) hx hb dX7_bears_59 hl (by decide) rfl (fun ls hl => ?_)
              refine lv_aloadN hx hb dX7_bears_61 (lv_at hl 0 rfl) ?_
              refine lv_ifnonnullN hx hb dX7_bears_63 ?_
              refine lv_bipush (v := -103) hx hb dX7_bears_66 (by decide +kernel) ?_
              exact x_rmi hx hb hr hlocks dX7_bears_68 hV hS (⟨by show _ = _; simp only [sp_bears, p_kt, k_kt, p_k, k_k, c19, k_ii, c23, c27, k_ll, q_j, if_true, if_false, ite_true, ite_false, not_true_eq_false, not_false_eq_true, and_true, true_and, and_false, false_and, or_true, true_or, or_false, false_or, and_self, or_self], xOK_id hRR⟩)
          · have _u := trivial
            refine lv_bipush (v := -102) hx hb dX7_bears_50 (by decide +kernel) ?_
            exact x_rmi hx hb hr hlocks dX7_bears_52 hV hS (⟨by show _ = _; simp only [sp_bears, p_kt, k_kt, p_k, k_k, c19, k_ii, c23, c27, if_true, if_false, ite_true, ite_false, not_true_eq_false, not_false_eq_true, and_true, true_and, and_false, false_and, or_true, true_or, or_false, false_or, and_self, or_self], xOK_id hRR⟩)
      · have _u := trivial
        refine lv_bipush (v := -101) hx hb dX7_bears_32 (by decide +kernel) ?_
        exact x_rmi hx hb hr hlocks dX7_bears_34 hV hS (⟨by show _ = _; simp only [sp_bears, p_kt, k_kt, p_k, k_k, c19, if_true, if_false, ite_true, ite_false, not_true_eq_false, not_false_eq_true, and_true, true_and, and_false, false_and, or_true, true_or, or_false, false_or, and_self, or_self], xOK_id hRR⟩)
    · refine x_topn (Eq.trans (show _ = _ from hr12) eq13) ?_
      refine lv_astoreN (lv' := [(7, .null), (6, .ref (loc (150 + kt))), (0, .ref (loc (0))), (1, .int (nI (kt))), (2, .int (ho)), (3, .int (d)), (4, .int (ld)), (5, .int (i))]) hx hb dX7_bears_12 hl (by decide) rfl (fun ls hl => ?_)
      refine lv_aload hx hb dX7_bears_14 (lv_at hl 1 rfl) ?_
      refine lv_ifnull hx hb dX7_bears_16 ?_
      refine lv_aloadN hx hb dX7_bears_19 (lv_at hl 0 rfl) ?_
      refine lv_ifnullN (tgt := 32) hx hb dX7_bears_21 (by decide) ?_
      refine lv_bipush (v := -101) hx hb dX7_bears_32 (by decide +kernel) ?_
      exact x_rmi hx hb hr hlocks dX7_bears_34 hV hS (⟨by show _ = _; simp only [sp_bears, p_kt, k_kt, p_k, if_true, if_false, ite_true, ite_false, not_true_eq_false, not_false_eq_true, and_true, true_and, and_false, false_and, or_true, true_or, or_false, false_or, and_self, or_self], xOK_id hRR⟩)
  · refine x_topn (Eq.trans (show _ = _ from hr6) eq7) ?_
    refine lv_astoreN (lv' := [(6, .null), (0, .ref (loc (0))), (1, .int (n)), (2, .int (ho)), (3, .int (d)), (4, .int (ld)), (5, .int (i))]) hx hb dX7_bears_5 hl (by decide) rfl (fun ls hl => ?_)
    refine lv_aload_n hx hb dX7_bears_7 rfl (lv_at hl 1 rfl) ?_
    refine lv_iload_n hx hb dX7_bears_8 rfl (lv_at hl 3 rfl) ?_
    refine x_cq (va_runV (As := [.int (ho)]) (rest := []) ⟨hx, hb, hml, hown, hts⟩ (c_X7_horseAt l D cy loc w s.heap.size σ ⟨hN0, hN1, hN2, hN3, hN4, hN5, hN6⟩ hRR ho) (cwV 1 hts gX7_bears_X7_horseAt rfl rfl rfl (by decide +kernel) ⟨Nat.le_of_ble_eq_true rfl, Nat.le_of_ble_eq_true rfl⟩) (x_preV hK hV f1 rfl) rfl rfl hl.1 rfl (lv_room (Nat.le_of_ble_eq_true rfl)) dX7_bears_9 ⟨Nat.le_of_ble_eq_true rfl, Nat.le_of_ble_eq_true rfl⟩) (fun r55 hr56 => ?_)
    rcases xat_or (fun k => loc (20 + k)) ho (show σ.2 0 < 2 ^ 31 by omega) with ⟨k, h_k, e_k, p_k, eq57⟩ | ⟨p_k, eq57⟩
    · refine x_topr (Eq.trans (show _ = _ from hr56) eq57) ?_
      subst e_k
      have f58 : w (20 + k) = some (.inr (2, [.ref (loc (30 + k)), .int (nI (σ.2 (10 + k)))])) := ((hw (20 + k) (by omega)).trans (xC_20 (by omega) (by omega)))
      have f59 : w (30 + k) = some (eQ cy 4 6 (xq (fun j => loc (40 + 6 * k + j)) (σ.2 (10 + k)))) := ((hw (30 + k) (by omega)).trans (xC_30 (by omega) (by omega)))
      have k_k : (nI k).toNatClampNeg = k := nI_clamp (by omega)
      refine lv_astore (lv' := [(7, .ref (loc (20 + k))), (6, .null), (0, .ref (loc (0))), (1, .int (n)), (2, .int (nI (k))), (3, .int (d)), (4, .int (ld)), (5, .int (i))]) hx hb dX7_bears_12 hl (by decide) rfl (fun ls hl => ?_)
      refine lv_aloadN hx hb dX7_bears_14 (lv_at hl 1 rfl) ?_
      refine lv_ifnullN (tgt := 32) hx hb dX7_bears_16 (by decide) ?_
      refine lv_bipush (v := -101) hx hb dX7_bears_32 (by decide +kernel) ?_
      exact x_rmi hx hb hr hlocks dX7_bears_34 hV hS (⟨by show _ = _; simp only [sp_bears, p_kt, p_k, k_k, if_true, if_false, ite_true, ite_false, not_true_eq_false, not_false_eq_true, and_true, true_and, and_false, false_and, or_true, true_or, or_false, false_or, and_self, or_self], xOK_id hRR⟩)
    · refine x_topn (Eq.trans (show _ = _ from hr56) eq57) ?_
      refine lv_astoreN (lv' := [(7, .null), (6, .null), (0, .ref (loc (0))), (1, .int (n)), (2, .int (ho)), (3, .int (d)), (4, .int (ld)), (5, .int (i))]) hx hb dX7_bears_12 hl (by decide) rfl (fun ls hl => ?_)
      refine lv_aloadN hx hb dX7_bears_14 (lv_at hl 1 rfl) ?_
      refine lv_ifnullN (tgt := 32) hx hb dX7_bears_16 (by decide) ?_
      refine lv_bipush (v := -101) hx hb dX7_bears_32 (by decide +kernel) ?_
      exact x_rmi hx hb hr hlocks dX7_bears_34 hV hS (⟨by show _ = _; simp only [sp_bears, p_kt, p_k, if_true, if_false, ite_true, ite_false, not_true_eq_false, not_false_eq_true, and_true, true_and, and_false, false_and, or_true, true_or, or_false, false_or, and_self, or_self], xOK_id hRR⟩)
