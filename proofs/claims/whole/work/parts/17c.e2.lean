abbrev rm_X7_best : Room := { frames := 5, cells := 0, slots := 0, locals := 116 }
theorem hi_X7_best_X7 : ∀ w ∈ wsX70, w ∈ wsX7_best := fun w h => List.mem_cons_of_mem _ (List.mem_append_left _ (List.mem_append_left _ (List.mem_append_left _ (List.mem_append_left _ (List.mem_append_right _ h)))))
set_option maxHeartbeats 4000000 in
set_option maxRecDepth 100000 in
theorem c_X7_best (l : Launch) (D : va_G) (cy : Nat → ClassId) (loc : Nat → Nat) (w : xM) (sz : Nat) (σ : xS) (hN : xN8 σ) (hR : xR cy loc σ w) (hB : xBd σ) (ho d ld m0 : Int32)  : Met l yX7_best wsX7_best rm_X7_best (va_Pc [.ref (loc (0)), .int (ho), .int (d), .int (ld), .int (m0)] (xP D cy loc w sz)) (va_Qi (fun r u => r = sp_best σ ho d ld m0 ∧ xOK cy loc w σ u) (xB D (xA loc w sz)) (xA loc w sz)) 0 0 (xA loc w sz) := by
  refine x_met (cc := cX7_best) (maxL := 10) (ret := (some .int)) (C := RX7) (by decide) rfl rfl (Nat.le_of_ble_eq_true rfl) ?_
  intro p e s m below meth c ls hx hb hml hr hts hown hlocks hin hP hl
  obtain ⟨hsz, hV, hK⟩ := hP
  subst hsz
  have hA : ∀ q : Nat, s.heap.size ≤ q → xA loc w s.heap.size q := fun q h => Or.inr h
  have hS : va_S (xA loc w s.heap.size) s.heap s.heap [] := va_S.rf
  have hl : lv_has ls 10 [(0, .ref (loc (0))), (1, .int (ho)), (2, .int (d)), (3, .int (ld)), (4, .int (m0))] := hl
  have hNN := hN
  have hRR := hR
  obtain ⟨g0, b0, q0, hw⟩ := hR
  obtain ⟨hN0, hN1, hN2, hN3, hN4, hN5, hN6⟩ := hN
  have f1 : w (0) = some (.inr (7, [.ref (loc (1)), .ref (loc (2)), .ref (loc (3)), .ref (loc (4)), .ref (loc (5)), .ref (loc (6)), .ref (loc (7)), .int (nI (σ.2 0)), .int (nI (σ.2 1)), .int (nI (σ.2 2)), .int (nI (σ.2 3)), .int (nI (σ.2 4)), .int (nI (σ.2 5)), .int (nI (σ.2 6)), .int (σ.1 10 1), .int (σ.1 10 0), .ref (loc (8)), .ref (loc (11))])) := (hw 0 (by decide)).trans rfl
  have f2 : w (8) = some (.inr (5, [.ref (loc (9)), .ref (loc (10))])) := (hw 8 (by decide)).trans rfl
  have f3 : w (9) = some (eI cy 9 (g0)) := (hw 9 (by decide)).trans rfl
  have f4 : w (10) = some (eI cy 9 (b0)) := (hw 10 (by decide)).trans rfl
  refine lv_aload_n hx hb dX7_best_0 rfl (lv_at hl 0 rfl) ?_
  refine lv_iload_n hx hb dX7_best_1 rfl (lv_at hl 1 rfl) ?_
  refine x_cq (va_runV (As := [.int (ho)]) (rest := []) ⟨hx, hb, hml, hown, hts⟩ (c_X7_horseAt l D cy loc w s.heap.size σ ⟨hN0, hN1, hN2, hN3, hN4, hN5, hN6⟩ hRR ho) (cwV 1 hts gX7_best_X7_horseAt rfl rfl rfl (by decide +kernel) ⟨Nat.le_of_ble_eq_true rfl, Nat.le_of_ble_eq_true rfl⟩) (x_preV hK hV f1 rfl) rfl rfl hl.1 rfl (lv_room (Nat.le_of_ble_eq_true rfl)) dX7_best_2 ⟨Nat.le_of_ble_eq_true rfl, Nat.le_of_ble_eq_true rfl⟩) (fun r5 hr6 => ?_)
  rcases xat_or (fun k => loc (20 + k)) ho (show σ.2 0 < 2 ^ 31 by omega) with ⟨k, h_k, e_k, p_k, eq7⟩ | ⟨p_k, eq7⟩
  · refine x_topr (Eq.trans (show _ = _ from hr6) eq7) ?_
    subst e_k
    have f8 : w (20 + k) = some (.inr (2, [.ref (loc (30 + k)), .int (nI (σ.2 (10 + k)))])) := ((hw (20 + k) (by omega)).trans (xC_20 (by omega) (by omega)))
    have f9 : w (30 + k) = some (eQ cy 4 6 (xq (fun j => loc (40 + 6 * k + j)) (σ.2 (10 + k)))) := ((hw (30 + k) (by omega)).trans (xC_30 (by omega) (by omega)))
    have k_k : (nI k).toNatClampNeg = k := nI_clamp (by omega)
    refine lv_astore (lv' := [(5, .ref (loc (20 + k))), (0, .ref (loc (0))), (1, .int (nI (k))), (2, .int (d)), (3, .int (ld)), (4, .int (m0))]) hx hb dX7_best_5 hl (by decide) rfl (fun ls hl => ?_)
    refine lv_aload hx hb dX7_best_7 (lv_at hl 0 rfl) ?_
    refine lv_ifnonnull (tgt := 15) hx hb dX7_best_9 (by decide) ?_
    refine lv_iload_n hx hb dX7_best_15 rfl (lv_at hl 3 rfl) ?_
    refine x_ci (va_runS (As := [.int (d)]) (rest := []) ⟨hx, hb, hml, hown, hts⟩ (c_X7_isDay l D cy loc w s.heap.size d) (cwS 1 hts gX7_best_X7_isDay rfl rfl rfl (by decide +kernel) ⟨Nat.le_of_ble_eq_true rfl, Nat.le_of_ble_eq_true rfl⟩) (x_preS hK hV) rfl rfl hl.1 rfl (lv_room (Nat.le_of_ble_eq_true rfl)) dX7_best_16 ⟨Nat.le_of_ble_eq_true rfl, Nat.le_of_ble_eq_true rfl⟩) (fun r10 hr11 => ?_)
    have ez12 : xb (nI 0 ≤ d ∧ d ≤ nI 10000) = r10 := Eq.symm (show r10 = xb (nI 0 ≤ d ∧ d ≤ nI 10000) from hr11)
    subst ez12
    refine x_beq (tgt := 37) hx hb dX7_best_19 (by decide) (fun c13 => ?_) (fun c13 => ?_)
    · have _u := trivial
      refine lv_bipush (v := -102) hx hb dX7_best_37 (by decide +kernel) ?_
      exact x_rmi hx hb hr hlocks dX7_best_39 hV hS (⟨by show _ = _; simp only [sp_best, p_k, k_k, c13, if_true, if_false, ite_true, ite_false, not_true_eq_false, not_false_eq_true, and_true, true_and, and_false, false_and, or_true, true_or, or_false, false_or, and_self, or_self], xOK_id hRR⟩)
    · have _u := trivial
      refine lv_iload_n hx hb dX7_best_22 rfl (lv_at hl 4 rfl) ?_
      refine x_ci (va_runS (As := [.int (ld)]) (rest := []) ⟨hx, hb, hml, hown, hts⟩ (c_X7_isLoad l D cy loc w s.heap.size ld) (cwS 1 hts gX7_best_X7_isLoad rfl rfl rfl (by decide +kernel) ⟨Nat.le_of_ble_eq_true rfl, Nat.le_of_ble_eq_true rfl⟩) (x_preS hK hV) rfl rfl hl.1 rfl (lv_room (Nat.le_of_ble_eq_true rfl)) dX7_best_23 ⟨Nat.le_of_ble_eq_true rfl, Nat.le_of_ble_eq_true rfl⟩) (fun r14 hr15 => ?_)
      have ez16 : xb (nI 1 ≤ ld ∧ ld ≤ nI 2000) = r14 := Eq.symm (show r14 = xb (nI 1 ≤ ld ∧ ld ≤ nI 2000) from hr15)
      subst ez16
      refine x_beq (tgt := 37) hx hb dX7_best_26 (by decide) (fun c17 => ?_) (fun c17 => ?_)
      · have _u := trivial
        refine lv_bipush (v := -102) hx hb dX7_best_37 (by decide +kernel) ?_
        exact x_rmi hx hb hr hlocks dX7_best_39 hV hS (⟨by show _ = _; simp only [sp_best, p_k, k_k, c13, c17, if_true, if_false, ite_true, ite_false, not_true_eq_false, not_false_eq_true, and_true, true_and, and_false, false_and, or_true, true_or, or_false, false_or, and_self, or_self], xOK_id hRR⟩)
      · have _u := trivial
        obtain ⟨ll, h_ll, h_ll', e_ll⟩ := x_rng1 (by decide) (by decide) c17
        subst e_ll
        have k_ll : (nI ll).toNatClampNeg = ll := nI_clamp (by omega)
        refine lv_iload hx hb dX7_best_29 (lv_at hl 5 rfl) ?_
        refine x_ci (va_runS (As := [.int (m0)]) (rest := []) ⟨hx, hb, hml, hown, hts⟩ (c_X7_isLoad l D cy loc w s.heap.size m0) (cwS 1 hts gX7_best_X7_isLoad rfl rfl rfl (by decide +kernel) ⟨Nat.le_of_ble_eq_true rfl, Nat.le_of_ble_eq_true rfl⟩) (x_preS hK hV) rfl rfl hl.1 rfl (lv_room (Nat.le_of_ble_eq_true rfl)) dX7_best_31 ⟨Nat.le_of_ble_eq_true rfl, Nat.le_of_ble_eq_true rfl⟩) (fun r18 hr19 => ?_)
        have ez20 : xb (nI 1 ≤ m0 ∧ m0 ≤ nI 2000) = r18 := Eq.symm (show r18 = xb (nI 1 ≤ m0 ∧ m0 ≤ nI 2000) from hr19)
        subst ez20
        refine x_bne (tgt := 40) hx hb dX7_best_34 (by decide) (fun c21 => ?_) (fun c21 => ?_)
        · have _u := trivial
          refine lv_aload hx hb dX7_best_40 (lv_at hl 0 rfl) ?_
          refine lv_iload_n hx hb dX7_best_42 rfl (lv_at hl 3 rfl) ?_
          refine x_cq (va_runVN (host := RX7) (As := [.int (d)]) (rest := []) ⟨hx, hb, hml, hown, hts⟩ (c_X2_backOn l D cy loc w s.heap.size (20 + k) (30 + k) (40 + 6 * k) (100 + 6 * k) (σ.2 (10 + k)) (fun j => σ.1 1 (6 * k + j)) (xq (fun j => loc (40 + 6 * k + j)) (σ.2 (10 + k))) (hN6 k) (fun j h_j => xq_at h_j) (fun j h_j => by have h6 := hN6 k; exact (hw (40 + 6 * k + j) (by omega)).trans (xC_40 (by omega) (by omega) h_j (by have := hN6 k; omega))) d f8 f9) ⟨va_cnB 1 hts gX7_best_X2_backOn_n115 rfl rfl rfl (hK.2.1 (.methodLinkNest RX7 115 yX2_backOn RX7) (by decide +kernel)) (hts (.initialized RX2) (List.mem_of_getElem? (i := 20) rfl)) (by decide +kernel) ⟨Nat.le_of_ble_eq_true rfl, Nat.le_of_ble_eq_true rfl⟩, hts (.instanceMethod yX2_backOn) (List.mem_of_getElem? (i := 19) rfl), hts (.selects RX2 yX2_backOn yX2_backOn) (List.mem_of_getElem? (i := 21) rfl)⟩ (x_preV hK hV f8 rfl) rfl rfl hl.1 rfl (lv_room (Nat.le_of_ble_eq_true rfl)) dX7_best_43 ⟨Nat.le_of_ble_eq_true rfl, Nat.le_of_ble_eq_true rfl⟩) (fun r22 hr23 => ?_)
          rcases xlo_or (fun j => loc (40 + 6 * k + j)) (fun j => σ.1 1 (6 * k + j)) d (σ.2 (10 + k)) with ⟨j, h_j, p_j, eq24⟩ | ⟨p_j, eq24⟩
          · refine x_topr (Eq.trans (show _ = _ from hr23) eq24) ?_
            have h6_j := hN6 k
            have f25 : w (40 + 6 * k + j) = some (.inr (3, [.int (σ.1 1 (6 * k + j)), .ref (loc (100 + 6 * k + j))])) := ((hw (40 + 6 * k + j) (by omega)).trans (xC_40 (by omega) (by omega) (by omega) (by omega)))
            have f26 : w (100 + 6 * k + j) = some (eI cy 9 (xsl 9 (σ.1 2) (9 * (6 * k + j)))) := ((hw (100 + 6 * k + j) (by omega)).trans (xC_100 (by omega) (by omega) (by omega) (by omega)))
            have q_j : xbd σ k d = j + 1 := p_j
            refine lv_astore (lv' := [(6, .ref (loc (40 + 6 * k + j))), (5, .ref (loc (20 + k))), (0, .ref (loc (0))), (1, .int (nI (k))), (2, .int (d)), (3, .int (nI (ll))), (4, .int (m0))]) hx hb dX7_best_46 hl (by decide) rfl (fun ls hl => ?_)
            refine lv_aload hx hb dX7_best_48 (lv_at hl 0 rfl) ?_
            refine lv_ifnonnull (tgt := 56) hx hb dX7_best_50 (by decide) ?_
            refine lv_iconst (v := -1) hx hb dX7_best_56 (by decide +kernel) ?_
            refine lv_istore (lv' := [(7, .int ((-1))), (6, .ref (loc (40 + 6 * k + j))), (5, .ref (loc (20 + k))), (0, .ref (loc (0))), (1, .int (nI (k))), (2, .int (d)), (3, .int (nI (ll))), (4, .int (m0))]) hx hb dX7_best_57 hl (by decide) rfl (fun ls hl => ?_)
            refine lv_sipush (v := nI 2001) hx hb dX7_best_59 (by decide +kernel) ?_
            refine lv_istore (lv' := [(8, .int (nI (2001))), (7, .int ((-1))), (6, .ref (loc (40 + 6 * k + j))), (5, .ref (loc (20 + k))), (0, .ref (loc (0))), (1, .int (nI (k))), (2, .int (d)), (3, .int (nI (ll))), (4, .int (m0))]) hx hb dX7_best_62 hl (by decide) rfl (fun ls hl => ?_)
            refine lv_iconst (v := nI 0) hx hb dX7_best_64 (by decide +kernel) ?_
            refine lv_istore (lv' := [(9, .int (nI (0))), (8, .int (nI (2001))), (7, .int ((-1))), (6, .ref (loc (40 + 6 * k + j))), (5, .ref (loc (20 + k))), (0, .ref (loc (0))), (1, .int (nI (k))), (2, .int (d)), (3, .int (nI (ll))), (4, .int (m0))]) hx hb dX7_best_65 hl (by decide) rfl (fun ls hl => ?_)
            have lp67_27 : ∀ (fuel32 : Nat) (a : Int32) (z : Int32) (i : Nat) (g1 : Nat → Int32) (b1 : Nat → Int32) (ls : Array Slot) (H28 : Heap) (L29 : List Loc), σ.2 1 - i < fuel32 → (i ≤ σ.2 1) → ((a, z) = xbs σ (6 * k + j) ll m0 i) → xV D (xA loc w s.heap.size) loc ((xup (xup w (9) (eI cy 9 (g1))) (10) (eI cy 9 (b1)))) H28 → va_S (xA loc w s.heap.size) s.heap H28 L29 → lv_has ls 10 [(9, .int (nI (i))), (8, .int (z)), (7, .int (a)), (6, .ref (loc (40 + 6 * k + j))), (5, .ref (loc (20 + k))), (0, .ref (loc (0))), (1, .int (nI (k))), (2, .int (d)), (3, .int (nI (ll))), (4, .int (m0))] → W p l e rm_X7_best s m ([.ref (loc (0)), .int ((nI k)), .int (d), .int ((nI ll)), .int (m0)] : List Value).toArray below meth c H28 L29 0 0 (MQ below (va_Qi (fun r u => r = sp_best σ (nI k) d (nI ll) m0 ∧ xOK cy loc w σ u) (xB D (xA loc w s.heap.size)) (xA loc w s.heap.size)) ([.ref (loc (0)), .int ((nI k)), .int (d), .int ((nI ll)), .int (m0)] : List Value).toArray s 0 0 (xA loc w s.heap.size)) (F0 m 67 ls []) := by
              intro fuel32
              induction fuel32 with
              | zero => intro a z i g1 b1 ls H28 L29 hm33; exact absurd hm33 (Nat.not_lt_zero _)
              | succ fuel32 ih34 =>
                intro a z i g1 b1 ls H28 L29 hm33 h1 h2 hV30 hS31 hl
                have f35 : (xup (xup w (9) (eI cy 9 (g1))) (10) (eI cy 9 (b1))) (0) = some (.inr (7, [.ref (loc (1)), .ref (loc (2)), .ref (loc (3)), .ref (loc (4)), .ref (loc (5)), .ref (loc (6)), .ref (loc (7)), .int (nI (σ.2 0)), .int (nI (σ.2 1)), .int (nI (σ.2 2)), .int (nI (σ.2 3)), .int (nI (σ.2 4)), .int (nI (σ.2 5)), .int (nI (σ.2 6)), .int (σ.1 10 1), .int (σ.1 10 0), .ref (loc (8)), .ref (loc (11))])) := xup_o (xup_o (f1) (by omega)) (by omega)
                have f36 : (xup (xup w (9) (eI cy 9 (g1))) (10) (eI cy 9 (b1))) (8) = some (.inr (5, [.ref (loc (9)), .ref (loc (10))])) := xup_o (xup_o (f2) (by omega)) (by omega)
                have f37 : (xup (xup w (9) (eI cy 9 (g1))) (10) (eI cy 9 (b1))) (20 + k) = some (.inr (2, [.ref (loc (30 + k)), .int (nI (σ.2 (10 + k)))])) := xup_o (xup_o (((hw (20 + k) (by omega)).trans (xC_20 (by omega) (by omega)))) (by omega)) (by omega)
                have f38 : (xup (xup w (9) (eI cy 9 (g1))) (10) (eI cy 9 (b1))) (40 + 6 * k + j) = some (.inr (3, [.int (σ.1 1 (6 * k + j)), .ref (loc (100 + 6 * k + j))])) := xup_o (xup_o (((hw (40 + 6 * k + j) (by omega)).trans (xC_40 (by omega) (by omega) (by omega) (by omega)))) (by omega)) (by omega)
                have f39 : (xup (xup w (9) (eI cy 9 (g1))) (10) (eI cy 9 (b1))) (9) = some (eI cy 9 (g1)) := xup_o (xup_at _ _ _) (by omega)
                have f40 : (xup (xup w (9) (eI cy 9 (g1))) (10) (eI cy 9 (b1))) (10) = some (eI cy 9 (b1)) := xup_at _ _ _
                have f41 : (xup (xup w (9) (eI cy 9 (g1))) (10) (eI cy 9 (b1))) (100 + 6 * k + j) = some (eI cy 9 (xsl 9 (σ.1 2) (9 * (6 * k + j)))) := xup_o (xup_o (((hw (100 + 6 * k + j) (by omega)).trans (xC_100 (by omega) (by omega) (by omega) (by omega)))) (by omega)) (by omega)
                have f42 : (xup (xup w (9) (eI cy 9 (g1))) (10) (eI cy 9 (b1))) (30 + k) = some (eQ cy 4 6 (xq (fun j => loc (40 + 6 * k + j)) (σ.2 (10 + k)))) := xup_o (xup_o (((hw (30 + k) (by omega)).trans (xC_30 (by omega) (by omega)))) (by omega)) (by omega)
                refine lv_iload hx hb dX7_best_67 (lv_at hl 0 rfl) ?_
                refine lv_aload_n hx hb dX7_best_69 rfl (lv_at hl 5 rfl) ?_
                refine x_get (C := RX7) (T := TX7) (N := 18) hx hb hts hi_X7_best_X7 hown hK hV30 f35 rfl 8 (by decide) (hts (.fieldLink RX7 50 "SaddleHouse" "treeCount" "I") (List.mem_of_getElem? (i := 1) rfl)) (fun _ h9 => h9) rfl dX7_best_70 ?_
                refine x_cge hx hb (i) (σ.2 1) (by omega) (by omega) (tgt := 121) dX7_best_73 (by decide) (fun c43 => ?_) (fun c43 => ?_)
                · have _u := trivial
                  refine lv_iload hx hb dX7_best_121 (lv_at hl 2 rfl) ?_
                  exact x_rmi hx hb hr hlocks dX7_best_123 hV30 hS31 (⟨by show _ = _; simp only [sp_best, p_k, k_k, c13, c17, k_ll, c21, q_j, if_true, if_false, ite_true, ite_false, not_true_eq_false, not_false_eq_true, and_true, true_and, and_false, false_and, or_true, true_or, or_false, false_or, and_self, or_self, Nat.add_sub_cancel, Nat.add_eq_zero_iff, Nat.one_ne_zero]; rw [← show i = σ.2 1 by omega, ← h2], xOK_sc hRR⟩)
                · have _u := trivial
                  refine lv_aload_n hx hb dX7_best_76 rfl (lv_at hl 5 rfl) ?_
                  refine lv_iload hx hb dX7_best_77 (lv_at hl 0 rfl) ?_
                  refine lv_aload hx hb dX7_best_79 (lv_at hl 3 rfl) ?_
                  refine lv_iload_n hx hb dX7_best_81 rfl (lv_at hl 8 rfl) ?_
                  refine lv_iload hx hb dX7_best_82 (lv_at hl 9 rfl) ?_
                  refine x_mi (va_runV (As := [.int (nI (i)), .ref (loc (40 + 6 * k + j)), .int (nI (ll)), .int (m0)]) (rest := []) ⟨hx, hb, hml, hown, hts⟩ (c_X7_fitsOn l D cy loc (xup (xup w (9) (eI cy 9 (g1))) (10) (eI cy 9 (b1))) H28.size σ hNN (xR_10 (xR_9 hRR)) hB k j ll (by omega) h_j h_ll h_ll' i (by omega) m0) (cwV 4 hts gX7_best_X7_fitsOn rfl rfl rfl (by decide +kernel) ⟨Nat.le_of_ble_eq_true rfl, Nat.le_of_ble_eq_true rfl⟩) (x_preV hK hV30 f35 rfl) rfl rfl hl.1 rfl (lv_room (Nat.le_of_ble_eq_true rfl)) dX7_best_84 ⟨Nat.le_of_ble_eq_true rfl, Nat.le_of_ble_eq_true rfl⟩) hV30 hS31 hA (fun r44 loc51 w50 H46 L47 hr45 hV48 hS49 => ?_)
                  obtain ⟨e52, e53, g2, b2, e54, hb2⟩ := hr45
                  have e52 : xb (xfault (xbe σ i (6 * k + j) ll) m0 = 0) = r44 := Eq.symm e52
                  subst e52
                  have e53 : loc = loc51 := Eq.symm e53
                  subst e53
                  have e54 := Eq.symm e54
                  subst e54
                  have hV55 : xV D (xA loc w s.heap.size) loc (xup (xup w (9) (eI cy 9 (g2))) (10) (eI cy 9 (b2))) H46 := hV48.eq (x_two (by decide))
                  have f56 : (xup (xup w (9) (eI cy 9 (g2))) (10) (eI cy 9 (b2))) (0) = some (.inr (7, [.ref (loc (1)), .ref (loc (2)), .ref (loc (3)), .ref (loc (4)), .ref (loc (5)), .ref (loc (6)), .ref (loc (7)), .int (nI (σ.2 0)), .int (nI (σ.2 1)), .int (nI (σ.2 2)), .int (nI (σ.2 3)), .int (nI (σ.2 4)), .int (nI (σ.2 5)), .int (nI (σ.2 6)), .int (σ.1 10 1), .int (σ.1 10 0), .ref (loc (8)), .ref (loc (11))])) := xup_o (xup_o (f1) (by omega)) (by omega)
                  have f57 : (xup (xup w (9) (eI cy 9 (g2))) (10) (eI cy 9 (b2))) (8) = some (.inr (5, [.ref (loc (9)), .ref (loc (10))])) := xup_o (xup_o (f2) (by omega)) (by omega)
                  have f58 : (xup (xup w (9) (eI cy 9 (g2))) (10) (eI cy 9 (b2))) (20 + k) = some (.inr (2, [.ref (loc (30 + k)), .int (nI (σ.2 (10 + k)))])) := xup_o (xup_o (((hw (20 + k) (by omega)).trans (xC_20 (by omega) (by omega)))) (by omega)) (by omega)
                  have f59 : (xup (xup w (9) (eI cy 9 (g2))) (10) (eI cy 9 (b2))) (40 + 6 * k + j) = some (.inr (3, [.int (σ.1 1 (6 * k + j)), .ref (loc (100 + 6 * k + j))])) := xup_o (xup_o (((hw (40 + 6 * k + j) (by omega)).trans (xC_40 (by omega) (by omega) (by omega) (by omega)))) (by omega)) (by omega)
                  have f60 : (xup (xup w (9) (eI cy 9 (g2))) (10) (eI cy 9 (b2))) (9) = some (eI cy 9 (g2)) := xup_o (xup_at _ _ _) (by omega)
                  have f61 : (xup (xup w (9) (eI cy 9 (g2))) (10) (eI cy 9 (b2))) (10) = some (eI cy 9 (b2)) := xup_at _ _ _
                  have f62 : (xup (xup w (9) (eI cy 9 (g2))) (10) (eI cy 9 (b2))) (100 + 6 * k + j) = some (eI cy 9 (xsl 9 (σ.1 2) (9 * (6 * k + j)))) := xup_o (xup_o (((hw (100 + 6 * k + j) (by omega)).trans (xC_100 (by omega) (by omega) (by omega) (by omega)))) (by omega)) (by omega)
                  have f63 : (xup (xup w (9) (eI cy 9 (g2))) (10) (eI cy 9 (b2))) (30 + k) = some (eQ cy 4 6 (xq (fun j => loc (40 + 6 * k + j)) (σ.2 (10 + k)))) := xup_o (xup_o (((hw (30 + k) (by omega)).trans (xC_30 (by omega) (by omega)))) (by omega)) (by omega)
                  refine x_beq (tgt := 115) hx hb dX7_best_87 (by decide) (fun c64 => ?_) (fun c64 => ?_)
                  · have _u := trivial
                    refine lv_iinc (v := nI (i + 1)) (lv' := [(9, .int (nI (i + 1))), (8, .int (z)), (7, .int (a)), (6, .ref (loc (40 + 6 * k + j))), (5, .ref (loc (20 + k))), (0, .ref (loc (0))), (1, .int (nI (k))), (2, .int (d)), (3, .int (nI (ll))), (4, .int (m0))]) hx hb dX7_best_115 hl (k := 0) rfl (nI_add _ _) (by decide) rfl (fun ls hl => ?_)
                    refine lv_goto (tgt := 67) hx hb dX7_best_118 (by decide) ?_
                    exact ih34 a z (i + 1) g2 b2 ls _ _ (by omega) (by omega) (xbs_n h2 (Or.inl c64)) hV55 hS49 (lv_sub hl [0, 1, 2, 3, 4, 5, 6, 7, 8, 9] rfl)
                  · have _u := trivial
                    refine lv_aload_n hx hb dX7_best_90 rfl (lv_at hl 5 rfl) ?_
                    refine x_get (C := RX7) (T := TX7) (N := 18) hx hb hts hi_X7_best_X7 hown hK hV55 f56 rfl 16 (by decide) (hts (.fieldLink RX7 77 "SaddleHouse" "seat" "LSaddleHouse$Seat;") (List.mem_of_getElem? (i := 2) rfl)) (fun _ h9 => h9) rfl dX7_best_91 ?_
                    refine x_ci (va_runVN (host := RX7) (As := []) (rest := []) ⟨hx, hb, hml, hown, hts⟩ (c_X5_most l D cy loc (xup (xup w (9) (eI cy 9 (g2))) (10) (eI cy 9 (b2))) H46.size b2 f57 f61) ⟨va_cnB 0 hts gX7_best_X5_most_n152 rfl rfl rfl (hK.2.1 (.methodLinkNest RX7 152 yX5_most RX7) (by decide +kernel)) (hts (.initialized RX5) (List.mem_of_getElem? (i := 31) rfl)) (by decide +kernel) ⟨Nat.le_of_ble_eq_true rfl, Nat.le_of_ble_eq_true rfl⟩, hts (.instanceMethod yX5_most) (List.mem_of_getElem? (i := 84) rfl), hts (.selects RX5 yX5_most yX5_most) (List.mem_of_getElem? (i := 85) rfl)⟩ (x_preV hK hV55 f57 rfl) rfl rfl hl.1 rfl (lv_room (Nat.le_of_ble_eq_true rfl)) dX7_best_94 ⟨Nat.le_of_ble_eq_true rfl, Nat.le_of_ble_eq_true rfl⟩) (fun r65 hr66 => ?_)
                    have ez67 : b2 (xtop b2 8) = r65 := Eq.symm (show r65 = b2 (xtop b2 8) from hr66)
                    subst ez67
                    refine x_top (congrArg Value.int (show _ = xmo σ i (6 * k + j) ll from xmost_cong hb2)) ?_
                    refine lv_iload hx hb dX7_best_97 (lv_at hl 1 rfl) ?_
                    refine lv_icmp_ge (tgt := 115) hx hb dX7_best_99 (by decide) (fun c68 => ?_) (fun c68 => ?_)
                    · have _u := trivial
                      refine lv_iinc (v := nI (i + 1)) (lv' := [(9, .int (nI (i + 1))), (8, .int (z)), (7, .int (a)), (6, .ref (loc (40 + 6 * k + j))), (5, .ref (loc (20 + k))), (0, .ref (loc (0))), (1, .int (nI (k))), (2, .int (d)), (3, .int (nI (ll))), (4, .int (m0))]) hx hb dX7_best_115 hl (k := 0) rfl (nI_add _ _) (by decide) rfl (fun ls hl => ?_)
                      refine lv_goto (tgt := 67) hx hb dX7_best_118 (by decide) ?_
                      exact ih34 a z (i + 1) g2 b2 ls _ _ (by omega) (by omega) (xbs_n h2 (Or.inr (Int32.not_lt.mpr c68))) hV55 hS49 (lv_sub hl [0, 1, 2, 3, 4, 5, 6, 7, 8, 9] rfl)
                    · have _u := trivial
                      refine lv_iload hx hb dX7_best_102 (lv_at hl 0 rfl) ?_
                      refine lv_istore (lv' := [(7, .int (nI (i))), (9, .int (nI (i))), (8, .int (z)), (6, .ref (loc (40 + 6 * k + j))), (5, .ref (loc (20 + k))), (0, .ref (loc (0))), (1, .int (nI (k))), (2, .int (d)), (3, .int (nI (ll))), (4, .int (m0))]) hx hb dX7_best_104 hl (by decide) rfl (fun ls hl => ?_)
                      refine lv_aload_n hx hb dX7_best_106 rfl (lv_at hl 5 rfl) ?_
                      refine x_get (C := RX7) (T := TX7) (N := 18) hx hb hts hi_X7_best_X7 hown hK hV55 f56 rfl 16 (by decide) (hts (.fieldLink RX7 77 "SaddleHouse" "seat" "LSaddleHouse$Seat;") (List.mem_of_getElem? (i := 2) rfl)) (fun _ h9 => h9) rfl dX7_best_107 ?_
                      refine x_ci (va_runVN (host := RX7) (As := []) (rest := []) ⟨hx, hb, hml, hown, hts⟩ (c_X5_most l D cy loc (xup (xup w (9) (eI cy 9 (g2))) (10) (eI cy 9 (b2))) H46.size b2 f57 f61) ⟨va_cnB 0 hts gX7_best_X5_most_n152 rfl rfl rfl (hK.2.1 (.methodLinkNest RX7 152 yX5_most RX7) (by decide +kernel)) (hts (.initialized RX5) (List.mem_of_getElem? (i := 31) rfl)) (by decide +kernel) ⟨Nat.le_of_ble_eq_true rfl, Nat.le_of_ble_eq_true rfl⟩, hts (.instanceMethod yX5_most) (List.mem_of_getElem? (i := 84) rfl), hts (.selects RX5 yX5_most yX5_most) (List.mem_of_getElem? (i := 85) rfl)⟩ (x_preV hK hV55 f57 rfl) rfl rfl hl.1 rfl (lv_room (Nat.le_of_ble_eq_true rfl)) dX7_best_110 ⟨Nat.le_of_ble_eq_true rfl, Nat.le_of_ble_eq_true rfl⟩) (fun r69 hr70 => ?_)
                      have ez71 : b2 (xtop b2 8) = r69 := Eq.symm (show r69 = b2 (xtop b2 8) from hr70)
                      subst ez71
                      refine x_top (congrArg Value.int (show _ = xmo σ i (6 * k + j) ll from xmost_cong hb2)) ?_
                      refine lv_istore (lv' := [(8, .int (xmo σ i (6 * k + j) ll)), (7, .int (nI (i))), (9, .int (nI (i))), (6, .ref (loc (40 + 6 * k + j))), (5, .ref (loc (20 + k))), (0, .ref (loc (0))), (1, .int (nI (k))), (2, .int (d)), (3, .int (nI (ll))), (4, .int (m0))]) hx hb dX7_best_113 hl (by decide) rfl (fun ls hl => ?_)
                      refine lv_iinc (v := nI (i + 1)) (lv' := [(9, .int (nI (i + 1))), (8, .int (xmo σ i (6 * k + j) ll)), (7, .int (nI (i))), (6, .ref (loc (40 + 6 * k + j))), (5, .ref (loc (20 + k))), (0, .ref (loc (0))), (1, .int (nI (k))), (2, .int (d)), (3, .int (nI (ll))), (4, .int (m0))]) hx hb dX7_best_115 hl (k := 2) rfl (nI_add _ _) (by decide) rfl (fun ls hl => ?_)
                      refine lv_goto (tgt := 67) hx hb dX7_best_118 (by decide) ?_
                      exact ih34 (nI i) (xmo σ i (6 * k + j) ll) (i + 1) g2 b2 ls _ _ (by omega) (by omega) (xbs_y h2 c64 (Int32.not_le.mp c68)) hV55 hS49 (lv_sub hl [0, 1, 2, 3, 4, 5, 6, 7, 8, 9] rfl)
            exact lp67_27 ((σ.2 1) + 1) (-1) (nI 2001) 0 g0 b0 ls _ _ (by omega) (Nat.zero_le _) rfl ((hV.eq (xup_id f3).symm).eq (xup_id (xup_o f4 (by omega))).symm) hS (lv_sub hl [0, 1, 2, 3, 4, 5, 6, 7, 8, 9] rfl)
          · refine x_topn (Eq.trans (show _ = _ from hr23) eq24) ?_
            have q_j : xbd σ k d = 0 := p_j
            refine lv_astoreN (lv' := [(6, .null), (5, .ref (loc (20 + k))), (0, .ref (loc (0))), (1, .int (nI (k))), (2, .int (d)), (3, .int (nI (ll))), (4, .int (m0))]) hx hb dX7_best_46 hl (by decide) rfl (fun ls hl => ?_)
            refine lv_aloadN hx hb dX7_best_48 (lv_at hl 0 rfl) ?_
            refine lv_ifnonnullN hx hb dX7_best_50 ?_
            refine lv_bipush (v := -103) hx hb dX7_best_53 (by decide +kernel) ?_
            exact x_rmi hx hb hr hlocks dX7_best_55 hV hS (⟨by show _ = _; simp only [sp_best, p_k, k_k, c13, c17, k_ll, c21, q_j, if_true, if_false, ite_true, ite_false, not_true_eq_false, not_false_eq_true, and_true, true_and, and_false, false_and, or_true, true_or, or_false, false_or, and_self, or_self], xOK_id hRR⟩)
        · have _u := trivial
          refine lv_bipush (v := -102) hx hb dX7_best_37 (by decide +kernel) ?_
          exact x_rmi hx hb hr hlocks dX7_best_39 hV hS (⟨by show _ = _; simp only [sp_best, p_k, k_k, c13, c17, k_ll, c21, if_true, if_false, ite_true, ite_false, not_true_eq_false, not_false_eq_true, and_true, true_and, and_false, false_and, or_true, true_or, or_false, false_or, and_self, or_self], xOK_id hRR⟩)
  · refine x_topn (Eq.trans (show _ = _ from hr6) eq7) ?_
    refine lv_astoreN (lv' := [(5, .null), (0, .ref (loc (0))), (1, .int (ho)), (2, .int (d)), (3, .int (ld)), (4, .int (m0))]) hx hb dX7_best_5 hl (by decide) rfl (fun ls hl => ?_)
    refine lv_aloadN hx hb dX7_best_7 (lv_at hl 0 rfl) ?_
    refine lv_ifnonnullN hx hb dX7_best_9 ?_
    refine lv_bipush (v := -101) hx hb dX7_best_12 (by decide +kernel) ?_
    exact x_rmi hx hb hr hlocks dX7_best_14 hV hS (⟨by show _ = _; simp only [sp_best, p_k, if_true, if_false, ite_true, ite_false, not_true_eq_false, not_false_eq_true, and_true, true_and, and_false, false_and, or_true, true_or, or_false, false_or, and_self, or_self], xOK_id hRR⟩)
