abbrev rm_X7_hide : Room := { frames := 2, cells := 2, slots := 193, locals := 40 }
theorem hi_X7_hide_X1 : ∀ w ∈ wsX10, w ∈ wsX7_hide := fun w h => List.mem_cons_of_mem _ (List.mem_append_right _ h)
theorem hi_X7_hide_X7 : ∀ w ∈ wsX70, w ∈ wsX7_hide := fun w h => List.mem_cons_of_mem _ (List.mem_append_left _ (List.mem_append_right _ h))
set_option maxHeartbeats 4000000 in
set_option maxRecDepth 100000 in
theorem c_X7_hide (l : Launch) (D : va_G) (cy : Nat → ClassId) (loc : Nat → Nat) (w : xM) (sz : Nat) (σ : xS) (hN : xN8 σ) (hR : xR cy loc σ w) (hz : ∀ i, i < 192 → σ.1 6 (192 * σ.2 2 + i) = 0)   : Met l yX7_hide wsX7_hide rm_X7_hide (va_Pc [.ref (loc (0))] (xP D cy loc w sz)) (va_Qi (fun r u => r = (sp_hide σ).1 ∧ xOK cy loc w (sp_hide σ).2 u) (xB D (xA loc w sz)) (xA loc w sz)) 2 193 (xA loc w sz) := by
  refine x_met (cc := cX7_hide) (maxL := 1) (ret := (some .int)) (C := RX7) (by decide) rfl rfl (Nat.le_of_ble_eq_true rfl) ?_
  intro p e s m below meth c ls hx hb hml hr hts hown hlocks hin hP hl
  obtain ⟨hsz, hV, hK⟩ := hP
  subst hsz
  have hA : ∀ q : Nat, s.heap.size ≤ q → xA loc w s.heap.size q := fun q h => Or.inr h
  have hS : va_S (xA loc w s.heap.size) s.heap s.heap [] := va_S.rf
  have hl : lv_has ls 1 [(0, .ref (loc (0)))] := hl
  have hNN := hN
  have hRR := hR
  obtain ⟨g0, b0, q0, hw⟩ := hR
  obtain ⟨hN0, hN1, hN2, hN3, hN4, hN5, hN6⟩ := hN
  have f1 : w (0) = some (.inr (7, [.ref (loc (1)), .ref (loc (2)), .ref (loc (3)), .ref (loc (4)), .ref (loc (5)), .ref (loc (6)), .ref (loc (7)), .int (nI (σ.2 0)), .int (nI (σ.2 1)), .int (nI (σ.2 2)), .int (nI (σ.2 3)), .int (nI (σ.2 4)), .int (nI (σ.2 5)), .int (nI (σ.2 6)), .int (σ.1 10 1), .int (σ.1 10 0), .ref (loc (8)), .ref (loc (11))])) := (hw 0 (by decide)).trans rfl
  have f2 : w (4) = some (eQ cy 2 4 (xq (fun k => loc (180 + k)) (σ.2 2))) := (hw 4 (by decide)).trans rfl
  have f3 : w (180 + σ.2 2) = none := (hw (180 + σ.2 2) (by omega)).trans (xn_180 (Nat.le_refl _) (by omega))
  have f4 : w (190 + σ.2 2) = none := (hw (190 + σ.2 2) (by omega)).trans (xn_190 (Nat.le_refl _) (by omega))
  refine lv_aload_n hx hb dX7_hide_0 rfl (lv_at hl 0 rfl) ?_
  refine x_get (C := RX7) (T := TX7) (N := 18) hx hb hts hi_X7_hide_X7 hown hK hV f1 rfl 9 (by decide) (hts (.fieldLink RX7 53 "SaddleHouse" "hideCount" "I") (List.mem_of_getElem? (i := 1) rfl)) (fun _ h9 => h9) rfl dX7_hide_1 ?_
  refine lv_iconst (v := nI 4) hx hb dX7_hide_4 (by decide +kernel) ?_
  refine x_clt hx hb (σ.2 2) (4) (by omega) (by omega) (tgt := 11) dX7_hide_5 (by decide) (fun c5 => ?_) (fun c5 => ?_)
  · have _u := trivial
    refine lv_aload_n hx hb dX7_hide_11 rfl (lv_at hl 0 rfl) ?_
    refine x_get (C := RX7) (T := TX7) (N := 18) hx hb hts hi_X7_hide_X7 hown hK hV f1 rfl 3 (by decide) (hts (.fieldLink RX7 27 "SaddleHouse" "hides" "[LSaddleHouse$Hide;") (List.mem_of_getElem? (i := 2) rfl)) (fun _ h9 => h9) rfl dX7_hide_12 ?_
    refine lv_aload_n hx hb dX7_hide_15 rfl (lv_at hl 0 rfl) ?_
    refine x_get (C := RX7) (T := TX7) (N := 18) hx hb hts hi_X7_hide_X7 hown hK hV f1 rfl 9 (by decide) (hts (.fieldLink RX7 53 "SaddleHouse" "hideCount" "I") (List.mem_of_getElem? (i := 1) rfl)) (fun _ h9 => h9) rfl dX7_hide_16 ?_
    refine x_new (180 + σ.2 2) (f3) (ci := 1) (fs := [.null]) (C := RX1) (T := TX1) (N := 1) hx hb hts hi_X7_hide_X1 tyX1 tyX1_ok hown (hts (.classLink RX7 25 RX1) (List.mem_of_getElem? (i := 3) rfl)) (hts (.instantiable RX1 1) (List.mem_of_getElem? (i := 4) rfl)) (hts (.initialized RX1) (List.mem_of_getElem? (i := 5) rfl)) hK hV hS hA rfl (fun j hj => by rcases (show j = 0 by omega) with rfl <;> rfl) (Nat.le_of_ble_eq_true rfl) (Nat.le_of_ble_eq_true rfl) dX7_hide_19 (fun q9 H6 hV7 hS8 => ?_)
    obtain ⟨loc10, hq11, hlo12, hV13⟩ : ∃ z : Nat → Nat, z (180 + σ.2 2) = q9 ∧ (∀ b, b ≠ 180 + σ.2 2 → loc b = z b) ∧ xV D (xA loc w s.heap.size) z (xup w (180 + σ.2 2) (.inr (1, [.null]))) H6 := ⟨_, va_up_self _ _ _, fun b hb => (va_up_ne _ _ hb).symm, hV7⟩
    subst hq11
    have e14 : loc (0) = loc10 (0) := hlo12 _ (by omega)
    have e15 : loc (4) = loc10 (4) := hlo12 _ (by omega)
    have e16 : loc (1) = loc10 (1) := hlo12 _ (by omega)
    have e17 : loc (2) = loc10 (2) := hlo12 _ (by omega)
    have e18 : loc (3) = loc10 (3) := hlo12 _ (by omega)
    have e19 : loc (5) = loc10 (5) := hlo12 _ (by omega)
    have e20 : loc (6) = loc10 (6) := hlo12 _ (by omega)
    have e21 : loc (7) = loc10 (7) := hlo12 _ (by omega)
    have e22 : loc (8) = loc10 (8) := hlo12 _ (by omega)
    have e23 : loc (11) = loc10 (11) := hlo12 _ (by omega)
    refine W.eq (g2 := F0 m 22 ls [.ref (loc10 (180 + σ.2 2)), .int (nI (σ.2 2)), .ref (loc10 (4))]) (by rw [e15]) ?_
    have hl : lv_has ls 1 [(0, .ref (loc10 (0)))] := Eq.mp (congrArg (lv_has ls 1) (show ([(0, .ref (loc (0)))] : List (Nat × Value)) = [(0, .ref (loc10 (0)))] from by rw [e14])) hl
    have f24 : (xup w (180 + σ.2 2) (.inr (1, [.null]))) (0) = some (.inr (7, [.ref (loc10 (1)), .ref (loc10 (2)), .ref (loc10 (3)), .ref (loc10 (4)), .ref (loc10 (5)), .ref (loc10 (6)), .ref (loc10 (7)), .int (nI (σ.2 0)), .int (nI (σ.2 1)), .int (nI (σ.2 2)), .int (nI (σ.2 3)), .int (nI (σ.2 4)), .int (nI (σ.2 5)), .int (nI (σ.2 6)), .int (σ.1 10 1), .int (σ.1 10 0), .ref (loc10 (8)), .ref (loc10 (11))])) := (xup_o (f1) (by omega)).trans (congrArg some (show (.inr (7, [.ref (loc (1)), .ref (loc (2)), .ref (loc (3)), .ref (loc (4)), .ref (loc (5)), .ref (loc (6)), .ref (loc (7)), .int (nI (σ.2 0)), .int (nI (σ.2 1)), .int (nI (σ.2 2)), .int (nI (σ.2 3)), .int (nI (σ.2 4)), .int (nI (σ.2 5)), .int (nI (σ.2 6)), .int (σ.1 10 1), .int (σ.1 10 0), .ref (loc (8)), .ref (loc (11))]) : va_E) = .inr (7, [.ref (loc10 (1)), .ref (loc10 (2)), .ref (loc10 (3)), .ref (loc10 (4)), .ref (loc10 (5)), .ref (loc10 (6)), .ref (loc10 (7)), .int (nI (σ.2 0)), .int (nI (σ.2 1)), .int (nI (σ.2 2)), .int (nI (σ.2 3)), .int (nI (σ.2 4)), .int (nI (σ.2 5)), .int (nI (σ.2 6)), .int (σ.1 10 1), .int (σ.1 10 0), .ref (loc10 (8)), .ref (loc10 (11))]) from by rw [e16, e17, e18, e15, e19, e20, e21, e22, e23]))
    have f25 : (xup w (180 + σ.2 2) (.inr (1, [.null]))) (4) = some (eQ cy 2 4 (xq (fun k => loc (180 + k)) (σ.2 2))) := xup_o (f2) (by omega)
    have nn26 : (xup w (180 + σ.2 2) (.inr (1, [.null]))) (190 + σ.2 2) = none := xup_o ((f4)) (by omega)
    have f27 : (xup w (180 + σ.2 2) (.inr (1, [.null]))) (180 + σ.2 2) = some (.inr (1, [.null])) := xup_at _ _ _
    refine lv_dup hx hb dX7_hide_22 rfl ?_
    refine x_mv (va_runIN (host := RX7) (As := []) (rest := [.ref (loc10 (180 + σ.2 2)), .int (nI (σ.2 2)), .ref (loc10 (4))]) ⟨hx, hb, hml, hown, hts⟩ (c_X1_init l D cy loc10 (xup w (180 + σ.2 2) (.inr (1, [.null]))) H6.size (180 + σ.2 2) (190 + σ.2 2) (by omega) f27 (nn26)) ⟨va_cnB 0 hts gX7_hide_X1_init_n176 rfl rfl rfl (hK.2.1 (.methodLinkNest RX7 176 yX1_init RX7) (by decide +kernel)) (hts (.initialized RX1) (List.mem_of_getElem? (i := 5) rfl)) (by decide +kernel) ⟨Nat.le_of_ble_eq_true rfl, Nat.le_of_ble_eq_true rfl⟩, rfl, hts (.instanceMethod yX1_init) (List.mem_of_getElem? (i := 6) rfl)⟩ (x_preS hK hV13) rfl rfl hl.1 rfl (lv_room (Nat.le_of_ble_eq_true rfl)) dX7_hide_23 ⟨Nat.le_of_ble_eq_true rfl, Nat.le_of_ble_eq_true rfl⟩) hV13 hS8 hA (fun loc35 w34 H30 L31 hr29 hV32 hS33 => ?_)
    obtain ⟨hlo36, e37⟩ := hr29
    have hlo38 : ∀ b, b ≠ 190 + σ.2 2 → loc10 b = loc35 b := fun b n0 => (hlo36 b n0).symm
    have e37 : (xup (xup (xup w (180 + σ.2 2) (.inr (1, [.null]))) (190 + σ.2 2) (eI cy 192 (fun _ => 0))) (180 + σ.2 2) (.inr (1, [.ref (loc35 (190 + σ.2 2))]))) = w34 := Eq.symm e37
    subst e37
    have e39 : loc10 (0) = loc35 (0) := hlo38 _ (by omega)
    have e40 : loc10 (4) = loc35 (4) := hlo38 _ (by omega)
    have e41 : loc10 (180 + σ.2 2) = loc35 (180 + σ.2 2) := hlo38 _ (by omega)
    have e42 : loc10 (1) = loc35 (1) := hlo38 _ (by omega)
    have e43 : loc10 (2) = loc35 (2) := hlo38 _ (by omega)
    have e44 : loc10 (3) = loc35 (3) := hlo38 _ (by omega)
    have e45 : loc10 (5) = loc35 (5) := hlo38 _ (by omega)
    have e46 : loc10 (6) = loc35 (6) := hlo38 _ (by omega)
    have e47 : loc10 (7) = loc35 (7) := hlo38 _ (by omega)
    have e48 : loc10 (8) = loc35 (8) := hlo38 _ (by omega)
    have e49 : loc10 (11) = loc35 (11) := hlo38 _ (by omega)
    refine W.eq (g2 := F0 m 26 ls [.ref (loc35 (180 + σ.2 2)), .int (nI (σ.2 2)), .ref (loc35 (4))]) (by rw [e40, e41]) ?_
    have hl : lv_has ls 1 [(0, .ref (loc35 (0)))] := Eq.mp (congrArg (lv_has ls 1) (show ([(0, .ref (loc10 (0)))] : List (Nat × Value)) = [(0, .ref (loc35 (0)))] from by rw [e39])) hl
    have f50 : (xup (xup (xup w (180 + σ.2 2) (.inr (1, [.null]))) (190 + σ.2 2) (eI cy 192 (fun _ => 0))) (180 + σ.2 2) (.inr (1, [.ref (loc35 (190 + σ.2 2))]))) (0) = some (.inr (7, [.ref (loc35 (1)), .ref (loc35 (2)), .ref (loc35 (3)), .ref (loc35 (4)), .ref (loc35 (5)), .ref (loc35 (6)), .ref (loc35 (7)), .int (nI (σ.2 0)), .int (nI (σ.2 1)), .int (nI (σ.2 2)), .int (nI (σ.2 3)), .int (nI (σ.2 4)), .int (nI (σ.2 5)), .int (nI (σ.2 6)), .int (σ.1 10 1), .int (σ.1 10 0), .ref (loc35 (8)), .ref (loc35 (11))])) := (xup_o (xup_o (f24) (by omega)) (by omega)).trans (congrArg some (show (.inr (7, [.ref (loc10 (1)), .ref (loc10 (2)), .ref (loc10 (3)), .ref (loc10 (4)), .ref (loc10 (5)), .ref (loc10 (6)), .ref (loc10 (7)), .int (nI (σ.2 0)), .int (nI (σ.2 1)), .int (nI (σ.2 2)), .int (nI (σ.2 3)), .int (nI (σ.2 4)), .int (nI (σ.2 5)), .int (nI (σ.2 6)), .int (σ.1 10 1), .int (σ.1 10 0), .ref (loc10 (8)), .ref (loc10 (11))]) : va_E) = .inr (7, [.ref (loc35 (1)), .ref (loc35 (2)), .ref (loc35 (3)), .ref (loc35 (4)), .ref (loc35 (5)), .ref (loc35 (6)), .ref (loc35 (7)), .int (nI (σ.2 0)), .int (nI (σ.2 1)), .int (nI (σ.2 2)), .int (nI (σ.2 3)), .int (nI (σ.2 4)), .int (nI (σ.2 5)), .int (nI (σ.2 6)), .int (σ.1 10 1), .int (σ.1 10 0), .ref (loc35 (8)), .ref (loc35 (11))]) from by rw [e42, e43, e44, e40, e45, e46, e47, e48, e49]))
    have f51 : (xup (xup (xup w (180 + σ.2 2) (.inr (1, [.null]))) (190 + σ.2 2) (eI cy 192 (fun _ => 0))) (180 + σ.2 2) (.inr (1, [.ref (loc35 (190 + σ.2 2))]))) (4) = some (eQ cy 2 4 (xq (fun k => loc (180 + k)) (σ.2 2))) := xup_o (xup_o (f25) (by omega)) (by omega)
    have f52 : (xup (xup (xup w (180 + σ.2 2) (.inr (1, [.null]))) (190 + σ.2 2) (eI cy 192 (fun _ => 0))) (180 + σ.2 2) (.inr (1, [.ref (loc35 (190 + σ.2 2))]))) (190 + σ.2 2) = some (eI cy 192 (fun _ => 0)) := xup_o (xup_at _ _ _) (by omega)
    have f53 : (xup (xup (xup w (180 + σ.2 2) (.inr (1, [.null]))) (190 + σ.2 2) (eI cy 192 (fun _ => 0))) (180 + σ.2 2) (.inr (1, [.ref (loc35 (190 + σ.2 2))]))) (180 + σ.2 2) = some (.inr (1, [.ref (loc35 (190 + σ.2 2))])) := xup_at _ _ _
    refine x_aast hx hb hK hV32 hS33 f51 rfl f53 rfl (σ.2 2) (by omega) (by decide) dX7_hide_26 (fun H54 L55 hV56 hS57 => ?_)
    have f58 : (xup (xup (xup (xup w (180 + σ.2 2) (.inr (1, [.null]))) (190 + σ.2 2) (eI cy 192 (fun _ => 0))) (180 + σ.2 2) (.inr (1, [.ref (loc35 (190 + σ.2 2))]))) (4) (eQ cy 2 4 (va_up (xq (fun k => loc (180 + k)) (σ.2 2)) (σ.2 2) (some (loc35 (180 + σ.2 2)))))) (0) = some (.inr (7, [.ref (loc35 (1)), .ref (loc35 (2)), .ref (loc35 (3)), .ref (loc35 (4)), .ref (loc35 (5)), .ref (loc35 (6)), .ref (loc35 (7)), .int (nI (σ.2 0)), .int (nI (σ.2 1)), .int (nI (σ.2 2)), .int (nI (σ.2 3)), .int (nI (σ.2 4)), .int (nI (σ.2 5)), .int (nI (σ.2 6)), .int (σ.1 10 1), .int (σ.1 10 0), .ref (loc35 (8)), .ref (loc35 (11))])) := xup_o (f50) (by omega)
    have f59 : (xup (xup (xup (xup w (180 + σ.2 2) (.inr (1, [.null]))) (190 + σ.2 2) (eI cy 192 (fun _ => 0))) (180 + σ.2 2) (.inr (1, [.ref (loc35 (190 + σ.2 2))]))) (4) (eQ cy 2 4 (va_up (xq (fun k => loc (180 + k)) (σ.2 2)) (σ.2 2) (some (loc35 (180 + σ.2 2)))))) (180 + σ.2 2) = some (.inr (1, [.ref (loc35 (190 + σ.2 2))])) := xup_o (f53) (by omega)
    have f60 : (xup (xup (xup (xup w (180 + σ.2 2) (.inr (1, [.null]))) (190 + σ.2 2) (eI cy 192 (fun _ => 0))) (180 + σ.2 2) (.inr (1, [.ref (loc35 (190 + σ.2 2))]))) (4) (eQ cy 2 4 (va_up (xq (fun k => loc (180 + k)) (σ.2 2)) (σ.2 2) (some (loc35 (180 + σ.2 2)))))) (190 + σ.2 2) = some (eI cy 192 (fun _ => 0)) := xup_o (f52) (by omega)
    have f61 : (xup (xup (xup (xup w (180 + σ.2 2) (.inr (1, [.null]))) (190 + σ.2 2) (eI cy 192 (fun _ => 0))) (180 + σ.2 2) (.inr (1, [.ref (loc35 (190 + σ.2 2))]))) (4) (eQ cy 2 4 (va_up (xq (fun k => loc (180 + k)) (σ.2 2)) (σ.2 2) (some (loc35 (180 + σ.2 2)))))) (4) = some (eQ cy 2 4 (va_up (xq (fun k => loc (180 + k)) (σ.2 2)) (σ.2 2) (some (loc35 (180 + σ.2 2))))) := xup_at _ _ _
    refine lv_aload_n hx hb dX7_hide_27 rfl (lv_at hl 0 rfl) ?_
    refine lv_dup hx hb dX7_hide_28 rfl ?_
    refine x_get (C := RX7) (T := TX7) (N := 18) hx hb hts hi_X7_hide_X7 hown hK hV56 f58 rfl 9 (by decide) (hts (.fieldLink RX7 53 "SaddleHouse" "hideCount" "I") (List.mem_of_getElem? (i := 1) rfl)) (fun _ h9 => h9) rfl dX7_hide_29 ?_
    refine lv_iconst (v := nI 1) hx hb dX7_hide_32 (by decide +kernel) ?_
    refine x_iadd hx hb (σ.2 2) (1) dX7_hide_33 ?_
    refine x_putf (C := RX7) (T := TX7) (N := 18) (v := .int (nI ((σ.2 2) + 1))) (ty := .int) hx hb hts hi_X7_hide_X7 tyX7 tyX7_ok nmX7 hown hK hV56 hS57 f58 rfl 9 (by decide) (hts (.fieldLink RX7 53 "SaddleHouse" "hideCount" "I") (List.mem_of_getElem? (i := 1) rfl)) (fun _ h9 => h9) rfl (by decide +kernel) rfl rfl (Nat.le_of_ble_eq_true rfl) dX7_hide_34 (fun H62 L63 hV64 hS65 => ?_)
    have f66 : (xup (xup (xup (xup (xup w (180 + σ.2 2) (.inr (1, [.null]))) (190 + σ.2 2) (eI cy 192 (fun _ => 0))) (180 + σ.2 2) (.inr (1, [.ref (loc35 (190 + σ.2 2))]))) (4) (eQ cy 2 4 (va_up (xq (fun k => loc (180 + k)) (σ.2 2)) (σ.2 2) (some (loc35 (180 + σ.2 2)))))) (0) (.inr (7, [.ref (loc35 (1)), .ref (loc35 (2)), .ref (loc35 (3)), .ref (loc35 (4)), .ref (loc35 (5)), .ref (loc35 (6)), .ref (loc35 (7)), .int (nI (σ.2 0)), .int (nI (σ.2 1)), .int (nI ((σ.2 2) + 1)), .int (nI (σ.2 3)), .int (nI (σ.2 4)), .int (nI (σ.2 5)), .int (nI (σ.2 6)), .int (σ.1 10 1), .int (σ.1 10 0), .ref (loc35 (8)), .ref (loc35 (11))]))) (0) = some (.inr (7, [.ref (loc35 (1)), .ref (loc35 (2)), .ref (loc35 (3)), .ref (loc35 (4)), .ref (loc35 (5)), .ref (loc35 (6)), .ref (loc35 (7)), .int (nI (σ.2 0)), .int (nI (σ.2 1)), .int (nI ((σ.2 2) + 1)), .int (nI (σ.2 3)), .int (nI (σ.2 4)), .int (nI (σ.2 5)), .int (nI (σ.2 6)), .int (σ.1 10 1), .int (σ.1 10 0), .ref (loc35 (8)), .ref (loc35 (11))])) := xup_at _ _ _
    have f67 : (xup (xup (xup (xup (xup w (180 + σ.2 2) (.inr (1, [.null]))) (190 + σ.2 2) (eI cy 192 (fun _ => 0))) (180 + σ.2 2) (.inr (1, [.ref (loc35 (190 + σ.2 2))]))) (4) (eQ cy 2 4 (va_up (xq (fun k => loc (180 + k)) (σ.2 2)) (σ.2 2) (some (loc35 (180 + σ.2 2)))))) (0) (.inr (7, [.ref (loc35 (1)), .ref (loc35 (2)), .ref (loc35 (3)), .ref (loc35 (4)), .ref (loc35 (5)), .ref (loc35 (6)), .ref (loc35 (7)), .int (nI (σ.2 0)), .int (nI (σ.2 1)), .int (nI ((σ.2 2) + 1)), .int (nI (σ.2 3)), .int (nI (σ.2 4)), .int (nI (σ.2 5)), .int (nI (σ.2 6)), .int (σ.1 10 1), .int (σ.1 10 0), .ref (loc35 (8)), .ref (loc35 (11))]))) (180 + σ.2 2) = some (.inr (1, [.ref (loc35 (190 + σ.2 2))])) := xup_o (xup_o (f53) (by omega)) (by omega)
    have f68 : (xup (xup (xup (xup (xup w (180 + σ.2 2) (.inr (1, [.null]))) (190 + σ.2 2) (eI cy 192 (fun _ => 0))) (180 + σ.2 2) (.inr (1, [.ref (loc35 (190 + σ.2 2))]))) (4) (eQ cy 2 4 (va_up (xq (fun k => loc (180 + k)) (σ.2 2)) (σ.2 2) (some (loc35 (180 + σ.2 2)))))) (0) (.inr (7, [.ref (loc35 (1)), .ref (loc35 (2)), .ref (loc35 (3)), .ref (loc35 (4)), .ref (loc35 (5)), .ref (loc35 (6)), .ref (loc35 (7)), .int (nI (σ.2 0)), .int (nI (σ.2 1)), .int (nI ((σ.2 2) + 1)), .int (nI (σ.2 3)), .int (nI (σ.2 4)), .int (nI (σ.2 5)), .int (nI (σ.2 6)), .int (σ.1 10 1), .int (σ.1 10 0), .ref (loc35 (8)), .ref (loc35 (11))]))) (190 + σ.2 2) = some (eI cy 192 (fun _ => 0)) := xup_o (xup_o (f52) (by omega)) (by omega)
    have f69 : (xup (xup (xup (xup (xup w (180 + σ.2 2) (.inr (1, [.null]))) (190 + σ.2 2) (eI cy 192 (fun _ => 0))) (180 + σ.2 2) (.inr (1, [.ref (loc35 (190 + σ.2 2))]))) (4) (eQ cy 2 4 (va_up (xq (fun k => loc (180 + k)) (σ.2 2)) (σ.2 2) (some (loc35 (180 + σ.2 2)))))) (0) (.inr (7, [.ref (loc35 (1)), .ref (loc35 (2)), .ref (loc35 (3)), .ref (loc35 (4)), .ref (loc35 (5)), .ref (loc35 (6)), .ref (loc35 (7)), .int (nI (σ.2 0)), .int (nI (σ.2 1)), .int (nI ((σ.2 2) + 1)), .int (nI (σ.2 3)), .int (nI (σ.2 4)), .int (nI (σ.2 5)), .int (nI (σ.2 6)), .int (σ.1 10 1), .int (σ.1 10 0), .ref (loc35 (8)), .ref (loc35 (11))]))) (4) = some (eQ cy 2 4 (va_up (xq (fun k => loc (180 + k)) (σ.2 2)) (σ.2 2) (some (loc35 (180 + σ.2 2))))) := xup_o (xup_at _ _ _) (by omega)
    refine lv_aload_n hx hb dX7_hide_37 rfl (lv_at hl 0 rfl) ?_
    refine x_get (C := RX7) (T := TX7) (N := 18) hx hb hts hi_X7_hide_X7 hown hK hV64 f66 rfl 9 (by decide) (hts (.fieldLink RX7 53 "SaddleHouse" "hideCount" "I") (List.mem_of_getElem? (i := 1) rfl)) (fun _ h9 => h9) rfl dX7_hide_38 ?_
    refine lv_iconst (v := nI 1) hx hb dX7_hide_41 (by decide +kernel) ?_
    refine x_isub hx hb ((σ.2 2) + 1) (1) (by omega) dX7_hide_42 ?_
    refine W.widen (k := 2) (n := 193) (by omega) (by omega) ?_
    exact x_rmi hx hb hr hlocks dX7_hide_43 hV64 hS65 (x_lf (by simp only [sp_hide, c5, if_true, if_false, ite_true, ite_false, not_true_eq_false, not_false_eq_true, and_true, true_and, and_false, false_and, or_true, true_or, or_false, false_or, and_self, or_self, Nat.add_sub_cancel, Nat.add_eq_zero_iff, Nat.one_ne_zero, eq_self, Nat.not_lt]) (xOK_hide hRR hNN (by omega) hz (fun b9 n0 n1 => ((hlo38 b9 n1).symm).trans ((hlo12 b9 n0).symm))))
  · have _u := trivial
    refine lv_bipush (v := -104) hx hb dX7_hide_8 (by decide +kernel) ?_
    refine W.widen (k := 2) (n := 193) (by omega) (by omega) ?_
    exact x_rmi hx hb hr hlocks dX7_hide_10 hV hS (x_lf (by simp only [sp_hide, c5, if_true, if_false, ite_true, ite_false, not_true_eq_false, not_false_eq_true, and_true, true_and, and_false, false_and, or_true, true_or, or_false, false_or, and_self, or_self, Nat.add_sub_cancel, Nat.add_eq_zero_iff, Nat.one_ne_zero, eq_self, Nat.not_lt]) (xOK_id hRR))
