abbrev rm_X7_under : Room := { frames := 2, cells := 0, slots := 0, locals := 42 }
set_option maxHeartbeats 4000000 in
set_option maxRecDepth 100000 in
theorem c_X7_under (l : Launch) (D : va_G) (cy : Nat → ClassId) (loc : Nat → Nat) (w : xM) (sz : Nat) (σ : xS) (hN : xN8 σ) (hR : xR cy loc σ w) (n i : Int32)  : Met l yX7_under wsX7_under rm_X7_under (va_Pc [.ref (loc (0)), .int (n), .int (i)] (xP D cy loc w sz)) (vp_Si (fun r => r = sp_under σ n i)) 0 0 (fun _ => False) := by
  refine x_met (cc := cX7_under) (maxL := 4) (ret := (some .int)) (C := RX7) (by decide) rfl rfl (Nat.le_of_ble_eq_true rfl) ?_
  intro p e s m below meth c ls hx hb hml hr hts hown hlocks hin hP hl
  obtain ⟨hsz, hV, hK⟩ := hP
  subst hsz
  have hl : lv_has ls 4 [(0, .ref (loc (0))), (1, .int (n)), (2, .int (i))] := hl
  obtain ⟨g0, b0, q0, hw⟩ := hR
  obtain ⟨hN0, hN1, hN2, hN3, hN4, hN5, hN6⟩ := hN
  have f1 : w (0) = some (.inr (7, [.ref (loc (1)), .ref (loc (2)), .ref (loc (3)), .ref (loc (4)), .ref (loc (5)), .ref (loc (6)), .ref (loc (7)), .int (nI (σ.2 0)), .int (nI (σ.2 1)), .int (nI (σ.2 2)), .int (nI (σ.2 3)), .int (nI (σ.2 4)), .int (nI (σ.2 5)), .int (nI (σ.2 6)), .int (σ.1 10 1), .int (σ.1 10 0), .ref (loc (8)), .ref (loc (11))])) := (hw 0 (by decide)).trans rfl
  refine lv_aload_n hx hb dX7_under_0 rfl (lv_at hl 0 rfl) ?_
  refine lv_iload_n hx hb dX7_under_1 rfl (lv_at hl 1 rfl) ?_
  refine x_cq (va_runV (As := [.int (n)]) (rest := []) ⟨hx, hb, hml, hown, hts⟩ (c_X7_treeAt l D cy loc w s.heap.size σ ⟨hN0, hN1, hN2, hN3, hN4, hN5, hN6⟩ ⟨g0, b0, q0, hw⟩ n) (cwV 1 hts gX7_under_X7_treeAt rfl rfl rfl (by decide +kernel) ⟨Nat.le_of_ble_eq_true rfl, Nat.le_of_ble_eq_true rfl⟩) (x_preV hK hV f1 rfl) rfl rfl hl.1 rfl (lv_room (Nat.le_of_ble_eq_true rfl)) dX7_under_2 ⟨Nat.le_of_ble_eq_true rfl, Nat.le_of_ble_eq_true rfl⟩) (fun r2 hr3 => ?_)
  rcases xat_or (fun k => loc (150 + k)) n (show σ.2 1 < 2 ^ 31 by omega) with ⟨kt, h_kt, e_kt, p_kt, eq4⟩ | ⟨p_kt, eq4⟩
  · refine x_topr (Eq.trans (show _ = _ from hr3) eq4) ?_
    subst e_kt
    have f5 : w (150 + kt) = some (.inr (6, [.ref (loc (160 + kt)), .ref (loc (170 + kt))])) := ((hw (150 + kt) (by omega)).trans (xC_150 (by omega) (by omega)))
    have f6 : w (160 + kt) = some (eI cy 9 (xsl 9 (σ.1 3) (9 * kt))) := ((hw (160 + kt) (by omega)).trans (xC_160 (by omega) (by omega)))
    have f7 : w (170 + kt) = some (eI cy 9 (xsl 9 (σ.1 4) (9 * kt))) := ((hw (170 + kt) (by omega)).trans (xC_170 (by omega) (by omega)))
    have k_kt : (nI kt).toNatClampNeg = kt := nI_clamp (by omega)
    refine lv_astore_n (lv' := [(3, .ref (loc (150 + kt))), (0, .ref (loc (0))), (1, .int (nI (kt))), (2, .int (i))]) hx hb dX7_under_5 rfl hl (by decide) rfl (fun ls hl => ?_)
    refine lv_aload_n hx hb dX7_under_6 rfl (lv_at hl 0 rfl) ?_
    refine lv_ifnull hx hb dX7_under_7 ?_
    refine lv_iload_n hx hb dX7_under_10 rfl (lv_at hl 3 rfl) ?_
    refine x_ci (va_runS (As := [.int (i)]) (rest := []) ⟨hx, hb, hml, hown, hts⟩ (c_X7_isStation l D cy loc w s.heap.size i) (cwS 1 hts gX7_under_X7_isStation rfl rfl rfl (by decide +kernel) ⟨Nat.le_of_ble_eq_true rfl, Nat.le_of_ble_eq_true rfl⟩) (x_preS hK hV) rfl rfl hl.1 rfl (lv_room (Nat.le_of_ble_eq_true rfl)) dX7_under_11 ⟨Nat.le_of_ble_eq_true rfl, Nat.le_of_ble_eq_true rfl⟩) (fun r8 hr9 => ?_)
    obtain rfl : r8 = xb (nI 0 ≤ i ∧ i ≤ nI 8) := hr9
    refine x_bne (tgt := 20) hx hb dX7_under_14 (by decide) (fun c10 => ?_) (fun c10 => ?_)
    · have _u := trivial
      obtain ⟨ii, h_ii, e_ii⟩ := x_rng (by decide) c10
      subst e_ii
      have k_ii : (nI ii).toNatClampNeg = ii := nI_clamp (by omega)
      refine lv_aload_n hx hb dX7_under_20 rfl (lv_at hl 0 rfl) ?_
      refine lv_iload_n hx hb dX7_under_21 rfl (lv_at hl 3 rfl) ?_
      refine x_ci (va_runVN (host := RX7) (As := [.int (nI (ii))]) (rest := []) ⟨hx, hb, hml, hown, hts⟩ (c_X6_undersideAt l D cy loc w s.heap.size (150 + kt) (160 + kt) (170 + kt) ii (xsl 9 (σ.1 3) (9 * kt)) (xsl 9 (σ.1 4) (9 * kt)) (by omega) f5 f6 f7) ⟨va_cnB 1 hts gX7_under_X6_undersideAt_n132 rfl rfl rfl (hK.2.1 (.methodLinkNest RX7 132 yX6_undersideAt RX7) (by decide +kernel)) (hts (.initialized RX6) (by decide +kernel)) (by decide +kernel) ⟨Nat.le_of_ble_eq_true rfl, Nat.le_of_ble_eq_true rfl⟩, hts (.instanceMethod yX6_undersideAt) (by decide +kernel), hts (.selects RX6 yX6_undersideAt yX6_undersideAt) (by decide +kernel)⟩ (x_preV hK hV f5 rfl) rfl rfl hl.1 rfl (lv_room (Nat.le_of_ble_eq_true rfl)) dX7_under_22 ⟨Nat.le_of_ble_eq_true rfl, Nat.le_of_ble_eq_true rfl⟩) (fun r11 hr12 => ?_)
      obtain rfl : r11 = xsl 9 (σ.1 3) (9 * kt) ii - xsl 9 (σ.1 4) (9 * kt) ii := hr12
      exact x_ri hx hb hr hlocks dX7_under_25 (by show _ = _; simp only [sp_under, xsl_at (show ii < 9 by omega), p_kt, k_kt, c10, k_ii, if_true, if_false, ite_true, ite_false, not_true_eq_false, not_false_eq_true, and_true, true_and, and_false, false_and, or_true, true_or, or_false, false_or, and_self, or_self])
    · have _u := trivial
      refine lv_bipush (v := -101) hx hb dX7_under_17 (by decide +kernel) ?_
      exact x_ri hx hb hr hlocks dX7_under_19 (by show _ = _; simp only [sp_under, p_kt, k_kt, c10, if_true, if_false, ite_true, ite_false, not_true_eq_false, not_false_eq_true, and_true, true_and, and_false, false_and, or_true, true_or, or_false, false_or, and_self, or_self])
  · refine x_topn (Eq.trans (show _ = _ from hr3) eq4) ?_
    refine lv_astore_nN (lv' := [(3, .null), (0, .ref (loc (0))), (1, .int (n)), (2, .int (i))]) hx hb dX7_under_5 rfl hl (by decide) rfl (fun ls hl => ?_)
    refine lv_aload_nN hx hb dX7_under_6 rfl (lv_at hl 0 rfl) ?_
    refine lv_ifnullN (tgt := 17) hx hb dX7_under_7 (by decide) ?_
    refine lv_bipush (v := -101) hx hb dX7_under_17 (by decide +kernel) ?_
    exact x_ri hx hb hr hlocks dX7_under_19 (by show _ = _; simp only [sp_under, p_kt, if_true, if_false, ite_true, ite_false, not_true_eq_false, not_false_eq_true, and_true, true_and, and_false, false_and, or_true, true_or, or_false, false_or, and_self, or_self])
abbrev rm_X7_patch : Room := { frames := 2, cells := 0, slots := 0, locals := 43 }
theorem hi_X7_patch_X1 : ∀ w ∈ wsX10, w ∈ wsX7_patch := by decide +kernel
set_option maxHeartbeats 4000000 in
set_option maxRecDepth 100000 in
theorem c_X7_patch (l : Launch) (D : va_G) (cy : Nat → ClassId) (loc : Nat → Nat) (w : xM) (sz : Nat) (σ : xS) (hN : xN8 σ) (hR : xR cy loc σ w) (n x y : Int32)  : Met l yX7_patch wsX7_patch rm_X7_patch (va_Pc [.ref (loc (0)), .int (n), .int (x), .int (y)] (xP D cy loc w sz)) (vp_Si (fun r => r = sp_patch σ n x y)) 0 0 (fun _ => False) := by
  refine x_met (cc := cX7_patch) (maxL := 5) (ret := (some .int)) (C := RX7) (by decide) rfl rfl (Nat.le_of_ble_eq_true rfl) ?_
  intro p e s m below meth c ls hx hb hml hr hts hown hlocks hin hP hl
  obtain ⟨hsz, hV, hK⟩ := hP
  subst hsz
  have hl : lv_has ls 5 [(0, .ref (loc (0))), (1, .int (n)), (2, .int (x)), (3, .int (y))] := hl
  obtain ⟨g0, b0, q0, hw⟩ := hR
  obtain ⟨hN0, hN1, hN2, hN3, hN4, hN5, hN6⟩ := hN
  have f1 : w (0) = some (.inr (7, [.ref (loc (1)), .ref (loc (2)), .ref (loc (3)), .ref (loc (4)), .ref (loc (5)), .ref (loc (6)), .ref (loc (7)), .int (nI (σ.2 0)), .int (nI (σ.2 1)), .int (nI (σ.2 2)), .int (nI (σ.2 3)), .int (nI (σ.2 4)), .int (nI (σ.2 5)), .int (nI (σ.2 6)), .int (σ.1 10 1), .int (σ.1 10 0), .ref (loc (8)), .ref (loc (11))])) := (hw 0 (by decide)).trans rfl
  refine lv_aload_n hx hb dX7_patch_0 rfl (lv_at hl 0 rfl) ?_
  refine lv_iload_n hx hb dX7_patch_1 rfl (lv_at hl 1 rfl) ?_
  refine x_cq (va_runV (As := [.int (n)]) (rest := []) ⟨hx, hb, hml, hown, hts⟩ (c_X7_hideAt l D cy loc w s.heap.size σ ⟨hN0, hN1, hN2, hN3, hN4, hN5, hN6⟩ ⟨g0, b0, q0, hw⟩ n) (cwV 1 hts gX7_patch_X7_hideAt rfl rfl rfl (by decide +kernel) ⟨Nat.le_of_ble_eq_true rfl, Nat.le_of_ble_eq_true rfl⟩) (x_preV hK hV f1 rfl) rfl rfl hl.1 rfl (lv_room (Nat.le_of_ble_eq_true rfl)) dX7_patch_2 ⟨Nat.le_of_ble_eq_true rfl, Nat.le_of_ble_eq_true rfl⟩) (fun r2 hr3 => ?_)
  rcases xat_or (fun k => loc (180 + k)) n (show σ.2 2 < 2 ^ 31 by omega) with ⟨kh, h_kh, e_kh, p_kh, eq4⟩ | ⟨p_kh, eq4⟩
  · refine x_topr (Eq.trans (show _ = _ from hr3) eq4) ?_
    subst e_kh
    have f5 : w (180 + kh) = some (.inr (1, [.ref (loc (190 + kh))])) := ((hw (180 + kh) (by omega)).trans (xC_180 (by omega) (by omega)))
    have f6 : w (190 + kh) = some (eI cy 192 (xsl 192 (σ.1 6) (192 * kh))) := ((hw (190 + kh) (by omega)).trans (xC_190 (by omega) (by omega)))
    have k_kh : (nI kh).toNatClampNeg = kh := nI_clamp (by omega)
    refine lv_astore (lv' := [(4, .ref (loc (180 + kh))), (0, .ref (loc (0))), (1, .int (nI (kh))), (2, .int (x)), (3, .int (y))]) hx hb dX7_patch_5 hl (by decide) rfl (fun ls hl => ?_)
    refine lv_aload hx hb dX7_patch_7 (lv_at hl 0 rfl) ?_
    refine lv_ifnull hx hb dX7_patch_9 ?_
    refine lv_iload_n hx hb dX7_patch_12 rfl (lv_at hl 3 rfl) ?_
    refine lv_iload_n hx hb dX7_patch_13 rfl (lv_at hl 4 rfl) ?_
    refine x_ci (va_runS (As := [.int (x), .int (y)]) (rest := []) ⟨hx, hb, hml, hown, hts⟩ (c_X7_isPatch l D cy loc w s.heap.size x y) (cwS 2 hts gX7_patch_X7_isPatch rfl rfl rfl (by decide +kernel) ⟨Nat.le_of_ble_eq_true rfl, Nat.le_of_ble_eq_true rfl⟩) (x_preS hK hV) rfl rfl hl.1 rfl (lv_room (Nat.le_of_ble_eq_true rfl)) dX7_patch_14 ⟨Nat.le_of_ble_eq_true rfl, Nat.le_of_ble_eq_true rfl⟩) (fun r7 hr8 => ?_)
    obtain rfl : r7 = xb ((nI 0 ≤ x ∧ x ≤ nI 15) ∧ nI 0 ≤ y ∧ y ≤ nI 11) := hr8
    refine x_bne (tgt := 23) hx hb dX7_patch_17 (by decide) (fun c9 => ?_) (fun c9 => ?_)
    · have _u := trivial
      obtain ⟨xx, h_xx, e_xx⟩ := x_rng (by decide) c9.1
      subst e_xx
      have k_xx : (nI xx).toNatClampNeg = xx := nI_clamp (by omega)
      obtain ⟨yy, h_yy, e_yy⟩ := x_rng (by decide) c9.2
      subst e_yy
      have k_yy : (nI yy).toNatClampNeg = yy := nI_clamp (by omega)
      refine lv_aload hx hb dX7_patch_23 (lv_at hl 0 rfl) ?_
      refine x_getN (C := RX1) (T := TX1) (N := 1) (ref := "SaddleHouse$Hide") (host := RX7) hx hb hts hi_X7_patch_X1 hown hK hV f5 rfl 0 (by decide) (by decide +kernel) (fun _ h9 => h9) rfl dX7_patch_25 ?_
      refine lv_bipush (v := nI 16) hx hb dX7_patch_28 (by decide +kernel) ?_
      refine lv_iload_n hx hb dX7_patch_30 rfl (lv_at hl 4 rfl) ?_
      refine x_imul hx hb (16) (yy) dX7_patch_31 ?_
      refine lv_iload_n hx hb dX7_patch_32 rfl (lv_at hl 3 rfl) ?_
      refine x_iadd hx hb (16 * yy) (xx) dX7_patch_33 ?_
      refine x_iald hx hb hK hV f6 ((16 * yy) + xx) (by omega) (by decide) dX7_patch_34 ?_
      exact x_ri hx hb hr hlocks dX7_patch_35 (by show _ = _; simp only [sp_patch, xsl_at (show 16 * yy + xx < 192 by omega), p_kh, k_kh, c9, k_xx, k_yy, if_true, if_false, ite_true, ite_false, not_true_eq_false, not_false_eq_true, and_true, true_and, and_false, false_and, or_true, true_or, or_false, false_or, and_self, or_self])
    · have _u := trivial
      refine lv_bipush (v := -101) hx hb dX7_patch_20 (by decide +kernel) ?_
      exact x_ri hx hb hr hlocks dX7_patch_22 (by show _ = _; simp only [sp_patch, p_kh, k_kh, c9, if_true, if_false, ite_true, ite_false, not_true_eq_false, not_false_eq_true, and_true, true_and, and_false, false_and, or_true, true_or, or_false, false_or, and_self, or_self])
  · refine x_topn (Eq.trans (show _ = _ from hr3) eq4) ?_
    refine lv_astoreN (lv' := [(4, .null), (0, .ref (loc (0))), (1, .int (n)), (2, .int (x)), (3, .int (y))]) hx hb dX7_patch_5 hl (by decide) rfl (fun ls hl => ?_)
    refine lv_aloadN hx hb dX7_patch_7 (lv_at hl 0 rfl) ?_
    refine lv_ifnullN (tgt := 20) hx hb dX7_patch_9 (by decide) ?_
    refine lv_bipush (v := -101) hx hb dX7_patch_20 (by decide +kernel) ?_
    exact x_ri hx hb hr hlocks dX7_patch_22 (by show _ = _; simp only [sp_patch, p_kh, if_true, if_false, ite_true, ite_false, not_true_eq_false, not_false_eq_true, and_true, true_and, and_false, false_and, or_true, true_or, or_false, false_or, and_self, or_self])
abbrev rm_X7_back : Room := { frames := 2, cells := 0, slots := 0, locals := 42 }
theorem hi_X7_back_X3 : ∀ w ∈ wsX30, w ∈ wsX7_back := by decide +kernel
set_option maxHeartbeats 4000000 in
set_option maxRecDepth 100000 in
theorem c_X7_back (l : Launch) (D : va_G) (cy : Nat → ClassId) (loc : Nat → Nat) (w : xM) (sz : Nat) (σ : xS) (hN : xN8 σ) (hR : xR cy loc σ w) (n d i : Int32)  : Met l yX7_back wsX7_back rm_X7_back (va_Pc [.ref (loc (0)), .int (n), .int (d), .int (i)] (xP D cy loc w sz)) (vp_Si (fun r => r = sp_back σ n d i)) 0 0 (fun _ => False) := by
  refine x_met (cc := cX7_back) (maxL := 6) (ret := (some .int)) (C := RX7) (by decide) rfl rfl (Nat.le_of_ble_eq_true rfl) ?_
  intro p e s m below meth c ls hx hb hml hr hts hown hlocks hin hP hl
  obtain ⟨hsz, hV, hK⟩ := hP
  subst hsz
  have hl : lv_has ls 6 [(0, .ref (loc (0))), (1, .int (n)), (2, .int (d)), (3, .int (i))] := hl
  obtain ⟨g0, b0, q0, hw⟩ := hR
  obtain ⟨hN0, hN1, hN2, hN3, hN4, hN5, hN6⟩ := hN
  have f1 : w (0) = some (.inr (7, [.ref (loc (1)), .ref (loc (2)), .ref (loc (3)), .ref (loc (4)), .ref (loc (5)), .ref (loc (6)), .ref (loc (7)), .int (nI (σ.2 0)), .int (nI (σ.2 1)), .int (nI (σ.2 2)), .int (nI (σ.2 3)), .int (nI (σ.2 4)), .int (nI (σ.2 5)), .int (nI (σ.2 6)), .int (σ.1 10 1), .int (σ.1 10 0), .ref (loc (8)), .ref (loc (11))])) := (hw 0 (by decide)).trans rfl
  refine lv_aload_n hx hb dX7_back_0 rfl (lv_at hl 0 rfl) ?_
  refine lv_iload_n hx hb dX7_back_1 rfl (lv_at hl 1 rfl) ?_
  refine x_cq (va_runV (As := [.int (n)]) (rest := []) ⟨hx, hb, hml, hown, hts⟩ (c_X7_horseAt l D cy loc w s.heap.size σ ⟨hN0, hN1, hN2, hN3, hN4, hN5, hN6⟩ ⟨g0, b0, q0, hw⟩ n) (cwV 1 hts gX7_back_X7_horseAt rfl rfl rfl (by decide +kernel) ⟨Nat.le_of_ble_eq_true rfl, Nat.le_of_ble_eq_true rfl⟩) (x_preV hK hV f1 rfl) rfl rfl hl.1 rfl (lv_room (Nat.le_of_ble_eq_true rfl)) dX7_back_2 ⟨Nat.le_of_ble_eq_true rfl, Nat.le_of_ble_eq_true rfl⟩) (fun r2 hr3 => ?_)
  rcases xat_or (fun k => loc (20 + k)) n (show σ.2 0 < 2 ^ 31 by omega) with ⟨k, h_k, e_k, p_k, eq4⟩ | ⟨p_k, eq4⟩
  · refine x_topr (Eq.trans (show _ = _ from hr3) eq4) ?_
    subst e_k
    have f5 : w (20 + k) = some (.inr (2, [.ref (loc (30 + k)), .int (nI (σ.2 (10 + k)))])) := ((hw (20 + k) (by omega)).trans (xC_20 (by omega) (by omega)))
    have f6 : w (30 + k) = some (eQ cy 4 6 (xq (fun j => loc (40 + 6 * k + j)) (σ.2 (10 + k)))) := ((hw (30 + k) (by omega)).trans (xC_30 (by omega) (by omega)))
    have k_k : (nI k).toNatClampNeg = k := nI_clamp (by omega)
    refine lv_astore (lv' := [(4, .ref (loc (20 + k))), (0, .ref (loc (0))), (1, .int (nI (k))), (2, .int (d)), (3, .int (i))]) hx hb dX7_back_5 hl (by decide) rfl (fun ls hl => ?_)
    refine lv_aload hx hb dX7_back_7 (lv_at hl 0 rfl) ?_
    refine lv_ifnull hx hb dX7_back_9 ?_
    refine lv_iload_n hx hb dX7_back_12 rfl (lv_at hl 4 rfl) ?_
    refine x_ci (va_runS (As := [.int (i)]) (rest := []) ⟨hx, hb, hml, hown, hts⟩ (c_X7_isStation l D cy loc w s.heap.size i) (cwS 1 hts gX7_back_X7_isStation rfl rfl rfl (by decide +kernel) ⟨Nat.le_of_ble_eq_true rfl, Nat.le_of_ble_eq_true rfl⟩) (x_preS hK hV) rfl rfl hl.1 rfl (lv_room (Nat.le_of_ble_eq_true rfl)) dX7_back_13 ⟨Nat.le_of_ble_eq_true rfl, Nat.le_of_ble_eq_true rfl⟩) (fun r7 hr8 => ?_)
    obtain rfl : r7 = xb (nI 0 ≤ i ∧ i ≤ nI 8) := hr8
    refine x_bne (tgt := 22) hx hb dX7_back_16 (by decide) (fun c9 => ?_) (fun c9 => ?_)
    · have _u := trivial
      obtain ⟨ii, h_ii, e_ii⟩ := x_rng (by decide) c9
      subst e_ii
      have k_ii : (nI ii).toNatClampNeg = ii := nI_clamp (by omega)
      refine lv_iload_n hx hb dX7_back_22 rfl (lv_at hl 3 rfl) ?_
      refine x_ci (va_runS (As := [.int (d)]) (rest := []) ⟨hx, hb, hml, hown, hts⟩ (c_X7_isDay l D cy loc w s.heap.size d) (cwS 1 hts gX7_back_X7_isDay rfl rfl rfl (by decide +kernel) ⟨Nat.le_of_ble_eq_true rfl, Nat.le_of_ble_eq_true rfl⟩) (x_preS hK hV) rfl rfl hl.1 rfl (lv_room (Nat.le_of_ble_eq_true rfl)) dX7_back_23 ⟨Nat.le_of_ble_eq_true rfl, Nat.le_of_ble_eq_true rfl⟩) (fun r10 hr11 => ?_)
      obtain rfl : r10 = xb (nI 0 ≤ d ∧ d ≤ nI 10000) := hr11
      refine x_bne (tgt := 32) hx hb dX7_back_26 (by decide) (fun c12 => ?_) (fun c12 => ?_)
      · have _u := trivial
        refine lv_aload hx hb dX7_back_32 (lv_at hl 0 rfl) ?_
        refine lv_iload_n hx hb dX7_back_34 rfl (lv_at hl 3 rfl) ?_
        refine x_cq (va_runVN (host := RX7) (As := [.int (d)]) (rest := []) ⟨hx, hb, hml, hown, hts⟩ (c_X2_backOn l D cy loc w s.heap.size (20 + k) (30 + k) (40 + 6 * k) (100 + 6 * k) (σ.2 (10 + k)) (fun j => σ.1 1 (6 * k + j)) (xq (fun j => loc (40 + 6 * k + j)) (σ.2 (10 + k))) (hN6 k) (fun j h_j => xq_at h_j) (fun j h_j => by have h6 := hN6 k; exact (hw (40 + 6 * k + j) (by omega)).trans (xC_40 (by omega) (by omega) h_j (by have := hN6 k; omega))) d f5 f6) ⟨va_cnB 1 hts gX7_back_X2_backOn_n115 rfl rfl rfl (hK.2.1 (.methodLinkNest RX7 115 yX2_backOn RX7) (by decide +kernel)) (hts (.initialized RX2) (by decide +kernel)) (by decide +kernel) ⟨Nat.le_of_ble_eq_true rfl, Nat.le_of_ble_eq_true rfl⟩, hts (.instanceMethod yX2_backOn) (by decide +kernel), hts (.selects RX2 yX2_backOn yX2_backOn) (by decide +kernel)⟩ (x_preV hK hV f5 rfl) rfl rfl hl.1 rfl (lv_room (Nat.le_of_ble_eq_true rfl)) dX7_back_35 ⟨Nat.le_of_ble_eq_true rfl, Nat.le_of_ble_eq_true rfl⟩) (fun r13 hr14 => ?_)
        rcases xlo_or (fun j => loc (40 + 6 * k + j)) (fun j => σ.1 1 (6 * k + j)) d (σ.2 (10 + k)) with ⟨j, h_j, p_j, eq15⟩ | ⟨p_j, eq15⟩
        · refine x_topr (Eq.trans (show _ = _ from hr14) eq15) ?_
          have h6_j := hN6 k
          have f16 : w (40 + 6 * k + j) = some (.inr (3, [.int (σ.1 1 (6 * k + j)), .ref (loc (100 + 6 * k + j))])) := ((hw (40 + 6 * k + j) (by omega)).trans (xC_40 (by omega) (by omega) (by omega) (by omega)))
          have f17 : w (100 + 6 * k + j) = some (eI cy 9 (xsl 9 (σ.1 2) (9 * (6 * k + j)))) := ((hw (100 + 6 * k + j) (by omega)).trans (xC_100 (by omega) (by omega) (by omega) (by omega)))
          have q_j : xbd σ k d = j + 1 := p_j
          refine lv_astore (lv' := [(5, .ref (loc (40 + 6 * k + j))), (4, .ref (loc (20 + k))), (0, .ref (loc (0))), (1, .int (nI (k))), (2, .int (d)), (3, .int (nI (ii)))]) hx hb dX7_back_38 hl (by decide) rfl (fun ls hl => ?_)
          refine lv_aload hx hb dX7_back_40 (lv_at hl 0 rfl) ?_
          refine lv_ifnonnull (tgt := 50) hx hb dX7_back_42 (by decide) ?_
          refine lv_aload hx hb dX7_back_50 (lv_at hl 0 rfl) ?_
          refine x_getN (C := RX3) (T := TX3) (N := 2) (ref := "SaddleHouse$Measure") (host := RX7) hx hb hts hi_X7_back_X3 hown hK hV f16 rfl 1 (by decide) (by decide +kernel) (fun _ h9 => h9) rfl dX7_back_52 ?_
          refine lv_iload_n hx hb dX7_back_55 rfl (lv_at hl 5 rfl) ?_
          refine x_iald hx hb hK hV f17 (ii) (by omega) (by decide) dX7_back_56 ?_
          exact x_ri hx hb hr hlocks dX7_back_57 (by show _ = _; simp only [sp_back, p_k, k_k, c9, k_ii, c12, q_j, if_true, if_false, ite_true, ite_false, not_true_eq_false, not_false_eq_true, and_true, true_and, and_false, false_and, or_true, true_or, or_false, false_or, and_self, or_self, Nat.add_sub_cancel, xsl_at (show ii < 9 by omega), Nat.add_eq_zero_iff, Nat.one_ne_zero])
        · refine x_topn (Eq.trans (show _ = _ from hr14) eq15) ?_
          have q_j : xbd σ k d = 0 := p_j
          refine lv_astoreN (lv' := [(5, .null), (4, .ref (loc (20 + k))), (0, .ref (loc (0))), (1, .int (nI (k))), (2, .int (d)), (3, .int (nI (ii)))]) hx hb dX7_back_38 hl (by decide) rfl (fun ls hl => ?_)
          refine lv_aloadN hx hb dX7_back_40 (lv_at hl 0 rfl) ?_
          refine lv_ifnonnullN hx hb dX7_back_42 ?_
          refine lv_bipush (v := -103) hx hb dX7_back_45 (by decide +kernel) ?_
          refine lv_goto (tgt := 57) hx hb dX7_back_47 (by decide) ?_
          exact x_ri hx hb hr hlocks dX7_back_57 (by show _ = _; simp only [sp_back, p_k, k_k, c9, k_ii, c12, q_j, if_true, if_false, ite_true, ite_false, not_true_eq_false, not_false_eq_true, and_true, true_and, and_false, false_and, or_true, true_or, or_false, false_or, and_self, or_self])
      · have _u := trivial
        refine lv_bipush (v := -102) hx hb dX7_back_29 (by decide +kernel) ?_
        exact x_ri hx hb hr hlocks dX7_back_31 (by show _ = _; simp only [sp_back, p_k, k_k, c9, k_ii, c12, if_true, if_false, ite_true, ite_false, not_true_eq_false, not_false_eq_true, and_true, true_and, and_false, false_and, or_true, true_or, or_false, false_or, and_self, or_self])
    · have _u := trivial
      refine lv_bipush (v := -101) hx hb dX7_back_19 (by decide +kernel) ?_
      exact x_ri hx hb hr hlocks dX7_back_21 (by show _ = _; simp only [sp_back, p_k, k_k, c9, if_true, if_false, ite_true, ite_false, not_true_eq_false, not_false_eq_true, and_true, true_and, and_false, false_and, or_true, true_or, or_false, false_or, and_self, or_self])
  · refine x_topn (Eq.trans (show _ = _ from hr3) eq4) ?_
    refine lv_astoreN (lv' := [(4, .null), (0, .ref (loc (0))), (1, .int (n)), (2, .int (d)), (3, .int (i))]) hx hb dX7_back_5 hl (by decide) rfl (fun ls hl => ?_)
    refine lv_aloadN hx hb dX7_back_7 (lv_at hl 0 rfl) ?_
    refine lv_ifnullN (tgt := 19) hx hb dX7_back_9 (by decide) ?_
    refine lv_bipush (v := -101) hx hb dX7_back_19 (by decide +kernel) ?_
    exact x_ri hx hb hr hlocks dX7_back_21 (by show _ = _; simp only [sp_back, p_k, if_true, if_false, ite_true, ite_false, not_true_eq_false, not_false_eq_true, and_true, true_and, and_false, false_and, or_true, true_or, or_false, false_or, and_self, or_self])
