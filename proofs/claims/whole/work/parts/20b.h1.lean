abbrev rm_X7_horse : Room := { frames := 2, cells := 2, slots := 8, locals := 40 }
theorem hi_X7_horse_X2 : ∀ w ∈ wsX20, w ∈ wsX7_horse := fun w h => List.mem_cons_of_mem _ (List.mem_append_right _ h)
theorem hi_X7_horse_X7 : ∀ w ∈ wsX70, w ∈ wsX7_horse := fun w h => List.mem_cons_of_mem _ (List.mem_append_left _ (List.mem_append_right _ h))
set_option maxHeartbeats 4000000 in
set_option maxRecDepth 100000 in
theorem c_X7_horse (l : Launch) (D : va_G) (cy : Nat → ClassId) (loc : Nat → Nat) (w : xM) (sz : Nat) (σ : xS) (hN : xN8 σ) (hR : xR cy loc σ w) (hz : σ.2 (10 + σ.2 0) = 0)   : Met l yX7_horse wsX7_horse rm_X7_horse (va_Pc [.ref (loc (0))] (xP D cy loc w sz)) (va_Qi (fun r u => r = (sp_horse σ).1 ∧ xOK cy loc w (sp_horse σ).2 u) (xB D (xA loc w sz)) (xA loc w sz)) 2 8 (xA loc w sz) := by
  refine x_met (cc := cX7_horse) (maxL := 1) (ret := (some .int)) (C := RX7) (by decide) rfl rfl (Nat.le_of_ble_eq_true rfl) ?_
  intro p e s m below meth c ls hx hb hml hr hts hown hlocks hin hP hl
  obtain ⟨hsz, hV, hK⟩ := hP
  subst hsz
  have hA : ∀ q : Nat, s.heap.size ≤ q → xA loc w s.heap.size q := fun q h => Or.inr h
  have hS : va_S (xA loc w s.heap.size) s.heap s.heap [] := va_S.rf
  have hl : lv_has ls 1 [(0, .ref (loc (0)))] := hl
  have hNN := hN
  have hRR := hR
  obtain ⟨g0, b0, q0, hw⟩ := hR
  obtain ⟨hN0, hN1, hN2, hN3, hN4, hN5, hN6⟩ := hN
  have f1 : w (0) = some (.inr (7, [.ref (loc (1)), .ref (loc (2)), .ref (loc (3)), .ref (loc (4)), .ref (loc (5)), .ref (loc (6)), .ref (loc (7)), .int (nI (σ.2 0)), .int (nI (σ.2 1)), .int (nI (σ.2 2)), .int (nI (σ.2 3)), .int (nI (σ.2 4)), .int (nI (σ.2 5)), .int (nI (σ.2 6)), .int (σ.1 10 1), .int (σ.1 10 0), .ref (loc (8)), .ref (loc (11))])) := (hw 0 (by decide)).trans rfl
  have f2 : w (2) = some (eQ cy 3 8 (xq (fun k => loc (20 + k)) (σ.2 0))) := (hw 2 (by decide)).trans rfl
  have f3 : w (20 + σ.2 0) = none := (hw (20 + σ.2 0) (by omega)).trans (xn_20 (Nat.le_refl _) (by omega))
  have f4 : w (30 + σ.2 0) = none := (hw (30 + σ.2 0) (by omega)).trans (xn_30 (Nat.le_refl _) (by omega))
  refine lv_aload_n hx hb dX7_horse_0 rfl (lv_at hl 0 rfl) ?_
  refine x_get (C := RX7) (T := TX7) (N := 18) hx hb hts hi_X7_horse_X7 hown hK hV f1 rfl 7 (by decide) (hts (.fieldLink RX7 46 "SaddleHouse" "horseCount" "I") (List.mem_of_getElem? (i := 1) rfl)) (fun _ h9 => h9) rfl dX7_horse_1 ?_
  refine lv_bipush (v := nI 8) hx hb dX7_horse_4 (by decide +kernel) ?_
  refine x_clt hx hb (σ.2 0) (8) (by omega) (by omega) (tgt := 12) dX7_horse_6 (by decide) (fun c5 => ?_) (fun c5 => ?_)
  · have _u := trivial
    refine lv_aload_n hx hb dX7_horse_12 rfl (lv_at hl 0 rfl) ?_
    refine x_get (C := RX7) (T := TX7) (N := 18) hx hb hts hi_X7_horse_X7 hown hK hV f1 rfl 1 (by decide) (hts (.fieldLink RX7 15 "SaddleHouse" "horses" "[LSaddleHouse$Horse;") (List.mem_of_getElem? (i := 2) rfl)) (fun _ h9 => h9) rfl dX7_horse_13 ?_
    refine lv_aload_n hx hb dX7_horse_16 rfl (lv_at hl 0 rfl) ?_
    refine x_get (C := RX7) (T := TX7) (N := 18) hx hb hts hi_X7_horse_X7 hown hK hV f1 rfl 7 (by decide) (hts (.fieldLink RX7 46 "SaddleHouse" "horseCount" "I") (List.mem_of_getElem? (i := 1) rfl)) (fun _ h9 => h9) rfl dX7_horse_17 ?_
    refine x_new (20 + σ.2 0) (f3) (ci := 2) (fs := [.null, .int (0)]) (C := RX2) (T := TX2) (N := 2) hx hb hts hi_X7_horse_X2 tyX2 tyX2_ok hown (hts (.classLink RX7 13 RX2) (List.mem_of_getElem? (i := 3) rfl)) (hts (.instantiable RX2 2) (List.mem_of_getElem? (i := 4) rfl)) (hts (.initialized RX2) (List.mem_of_getElem? (i := 5) rfl)) hK hV hS hA rfl (fun j hj => by rcases (show j = 0 ∨ j = 1 by omega) with rfl | rfl <;> rfl) (Nat.le_of_ble_eq_true rfl) (Nat.le_of_ble_eq_true rfl) dX7_horse_20 (fun q9 H6 hV7 hS8 => ?_)
    obtain ⟨loc10, hq11, hlo12, hV13⟩ : ∃ z : Nat → Nat, z (20 + σ.2 0) = q9 ∧ (∀ b, b ≠ 20 + σ.2 0 → loc b = z b) ∧ xV D (xA loc w s.heap.size) z (xup w (20 + σ.2 0) (.inr (2, [.null, .int (0)]))) H6 := ⟨_, va_up_self _ _ _, fun b hb => (va_up_ne _ _ hb).symm, hV7⟩
    subst hq11
    have e14 : loc (0) = loc10 (0) := hlo12 _ (by omega)
    have e15 : loc (2) = loc10 (2) := hlo12 _ (by omega)
    have e16 : loc (1) = loc10 (1) := hlo12 _ (by omega)
    have e17 : loc (3) = loc10 (3) := hlo12 _ (by omega)
    have e18 : loc (4) = loc10 (4) := hlo12 _ (by omega)
    have e19 : loc (5) = loc10 (5) := hlo12 _ (by omega)
    have e20 : loc (6) = loc10 (6) := hlo12 _ (by omega)
    have e21 : loc (7) = loc10 (7) := hlo12 _ (by omega)
    have e22 : loc (8) = loc10 (8) := hlo12 _ (by omega)
    have e23 : loc (11) = loc10 (11) := hlo12 _ (by omega)
    refine W.eq (g2 := F0 m 23 ls [.ref (loc10 (20 + σ.2 0)), .int (nI (σ.2 0)), .ref (loc10 (2))]) (by rw [e15]) ?_
    have hl : lv_has ls 1 [(0, .ref (loc10 (0)))] := Eq.mp (congrArg (lv_has ls 1) (show ([(0, .ref (loc (0)))] : List (Nat × Value)) = [(0, .ref (loc10 (0)))] from by rw [e14])) hl
    have f24 : (xup w (20 + σ.2 0) (.inr (2, [.null, .int (0)]))) (0) = some (.inr (7, [.ref (loc10 (1)), .ref (loc10 (2)), .ref (loc10 (3)), .ref (loc10 (4)), .ref (loc10 (5)), .ref (loc10 (6)), .ref (loc10 (7)), .int (nI (σ.2 0)), .int (nI (σ.2 1)), .int (nI (σ.2 2)), .int (nI (σ.2 3)), .int (nI (σ.2 4)), .int (nI (σ.2 5)), .int (nI (σ.2 6)), .int (σ.1 10 1), .int (σ.1 10 0), .ref (loc10 (8)), .ref (loc10 (11))])) := (xup_o (f1) (by omega)).trans (congrArg some (show (.inr (7, [.ref (loc (1)), .ref (loc (2)), .ref (loc (3)), .ref (loc (4)), .ref (loc (5)), .ref (loc (6)), .ref (loc (7)), .int (nI (σ.2 0)), .int (nI (σ.2 1)), .int (nI (σ.2 2)), .int (nI (σ.2 3)), .int (nI (σ.2 4)), .int (nI (σ.2 5)), .int (nI (σ.2 6)), .int (σ.1 10 1), .int (σ.1 10 0), .ref (loc (8)), .ref (loc (11))]) : va_E) = .inr (7, [.ref (loc10 (1)), .ref (loc10 (2)), .ref (loc10 (3)), .ref (loc10 (4)), .ref (loc10 (5)), .ref (loc10 (6)), .ref (loc10 (7)), .int (nI (σ.2 0)), .int (nI (σ.2 1)), .int (nI (σ.2 2)), .int (nI (σ.2 3)), .int (nI (σ.2 4)), .int (nI (σ.2 5)), .int (nI (σ.2 6)), .int (σ.1 10 1), .int (σ.1 10 0), .ref (loc10 (8)), .ref (loc10 (11))]) from by rw [e16, e15, e17, e18, e19, e20, e21, e22, e23]))
    have f25 : (xup w (20 + σ.2 0) (.inr (2, [.null, .int (0)]))) (2) = some (eQ cy 3 8 (xq (fun k => loc (20 + k)) (σ.2 0))) := xup_o (f2) (by omega)
    have nn26 : (xup w (20 + σ.2 0) (.inr (2, [.null, .int (0)]))) (30 + σ.2 0) = none := xup_o ((f4)) (by omega)
    have f27 : (xup w (20 + σ.2 0) (.inr (2, [.null, .int (0)]))) (20 + σ.2 0) = some (.inr (2, [.null, .int (0)])) := xup_at _ _ _
    refine lv_dup hx hb dX7_horse_23 rfl ?_
    refine x_mv (va_runIN (host := RX7) (As := []) (rest := [.ref (loc10 (20 + σ.2 0)), .int (nI (σ.2 0)), .ref (loc10 (2))]) ⟨hx, hb, hml, hown, hts⟩ (c_X2_init l D cy loc10 (xup w (20 + σ.2 0) (.inr (2, [.null, .int (0)]))) H6.size (20 + σ.2 0) (30 + σ.2 0) (by omega) f27 (nn26)) ⟨va_cnB 0 hts gX7_horse_X2_init_n84 rfl rfl rfl (hK.2.1 (.methodLinkNest RX7 84 yX2_init RX7) (by decide +kernel)) (hts (.initialized RX2) (List.mem_of_getElem? (i := 5) rfl)) (by decide +kernel) ⟨Nat.le_of_ble_eq_true rfl, Nat.le_of_ble_eq_true rfl⟩, rfl, hts (.instanceMethod yX2_init) (List.mem_of_getElem? (i := 6) rfl)⟩ (x_preS hK hV13) rfl rfl hl.1 rfl (lv_room (Nat.le_of_ble_eq_true rfl)) dX7_horse_24 ⟨Nat.le_of_ble_eq_true rfl, Nat.le_of_ble_eq_true rfl⟩) hV13 hS8 hA (fun loc35 w34 H30 L31 hr29 hV32 hS33 => ?_)
    obtain ⟨hlo36, e37⟩ := hr29
    have hlo38 : ∀ b, b ≠ 30 + σ.2 0 → loc10 b = loc35 b := fun b n0 => (hlo36 b n0).symm
    have e37 : (xup (xup (xup w (20 + σ.2 0) (.inr (2, [.null, .int (0)]))) (30 + σ.2 0) (eQ cy 4 6 (fun _ => none))) (20 + σ.2 0) (.inr (2, [.ref (loc35 (30 + σ.2 0)), .int (nI (0))]))) = w34 := Eq.symm e37
    subst e37
    have e39 : loc10 (0) = loc35 (0) := hlo38 _ (by omega)
    have e40 : loc10 (2) = loc35 (2) := hlo38 _ (by omega)
    have e41 : loc10 (20 + σ.2 0) = loc35 (20 + σ.2 0) := hlo38 _ (by omega)
    have e42 : loc10 (1) = loc35 (1) := hlo38 _ (by omega)
    have e43 : loc10 (3) = loc35 (3) := hlo38 _ (by omega)
    have e44 : loc10 (4) = loc35 (4) := hlo38 _ (by omega)
    have e45 : loc10 (5) = loc35 (5) := hlo38 _ (by omega)
    have e46 : loc10 (6) = loc35 (6) := hlo38 _ (by omega)
    have e47 : loc10 (7) = loc35 (7) := hlo38 _ (by omega)
    have e48 : loc10 (8) = loc35 (8) := hlo38 _ (by omega)
    have e49 : loc10 (11) = loc35 (11) := hlo38 _ (by omega)
    refine W.eq (g2 := F0 m 27 ls [.ref (loc35 (20 + σ.2 0)), .int (nI (σ.2 0)), .ref (loc35 (2))]) (by rw [e40, e41]) ?_
    have hl : lv_has ls 1 [(0, .ref (loc35 (0)))] := Eq.mp (congrArg (lv_has ls 1) (show ([(0, .ref (loc10 (0)))] : List (Nat × Value)) = [(0, .ref (loc35 (0)))] from by rw [e39])) hl
    have f50 : (xup (xup (xup w (20 + σ.2 0) (.inr (2, [.null, .int (0)]))) (30 + σ.2 0) (eQ cy 4 6 (fun _ => none))) (20 + σ.2 0) (.inr (2, [.ref (loc35 (30 + σ.2 0)), .int (nI (0))]))) (0) = some (.inr (7, [.ref (loc35 (1)), .ref (loc35 (2)), .ref (loc35 (3)), .ref (loc35 (4)), .ref (loc35 (5)), .ref (loc35 (6)), .ref (loc35 (7)), .int (nI (σ.2 0)), .int (nI (σ.2 1)), .int (nI (σ.2 2)), .int (nI (σ.2 3)), .int (nI (σ.2 4)), .int (nI (σ.2 5)), .int (nI (σ.2 6)), .int (σ.1 10 1), .int (σ.1 10 0), .ref (loc35 (8)), .ref (loc35 (11))])) := (xup_o (xup_o (f24) (by omega)) (by omega)).trans (congrArg some (show (.inr (7, [.ref (loc10 (1)), .ref (loc10 (2)), .ref (loc10 (3)), .ref (loc10 (4)), .ref (loc10 (5)), .ref (loc10 (6)), .ref (loc10 (7)), .int (nI (σ.2 0)), .int (nI (σ.2 1)), .int (nI (σ.2 2)), .int (nI (σ.2 3)), .int (nI (σ.2 4)), .int (nI (σ.2 5)), .int (nI (σ.2 6)), .int (σ.1 10 1), .int (σ.1 10 0), .ref (loc10 (8)), .ref (loc10 (11))]) : va_E) = .inr (7, [.ref (loc35 (1)), .ref (loc35 (2)), .ref (loc35 (3)), .ref (loc35 (4)), .ref (loc35 (5)), .ref (loc35 (6)), .ref (loc35 (7)), .int (nI (σ.2 0)), .int (nI (σ.2 1)), .int (nI (σ.2 2)), .int (nI (σ.2 3)), .int (nI (σ.2 4)), .int (nI (σ.2 5)), .int (nI (σ.2 6)), .int (σ.1 10 1), .int (σ.1 10 0), .ref (loc35 (8)), .ref (loc35 (11))]) from by rw [e42, e40, e43, e44, e45, e46, e47, e48, e49]))
    have f51 : (xup (xup (xup w (20 + σ.2 0) (.inr (2, [.null, .int (0)]))) (30 + σ.2 0) (eQ cy 4 6 (fun _ => none))) (20 + σ.2 0) (.inr (2, [.ref (loc35 (30 + σ.2 0)), .int (nI (0))]))) (2) = some (eQ cy 3 8 (xq (fun k => loc (20 + k)) (σ.2 0))) := xup_o (xup_o (f25) (by omega)) (by omega)
    have f52 : (xup (xup (xup w (20 + σ.2 0) (.inr (2, [.null, .int (0)]))) (30 + σ.2 0) (eQ cy 4 6 (fun _ => none))) (20 + σ.2 0) (.inr (2, [.ref (loc35 (30 + σ.2 0)), .int (nI (0))]))) (30 + σ.2 0) = some (eQ cy 4 6 (fun _ => none)) := xup_o (xup_at _ _ _) (by omega)
    have f53 : (xup (xup (xup w (20 + σ.2 0) (.inr (2, [.null, .int (0)]))) (30 + σ.2 0) (eQ cy 4 6 (fun _ => none))) (20 + σ.2 0) (.inr (2, [.ref (loc35 (30 + σ.2 0)), .int (nI (0))]))) (20 + σ.2 0) = some (.inr (2, [.ref (loc35 (30 + σ.2 0)), .int (nI (0))])) := xup_at _ _ _
    refine x_aast hx hb hK hV32 hS33 f51 rfl f53 rfl (σ.2 0) (by omega) (by decide) dX7_horse_27 (fun H54 L55 hV56 hS57 => ?_)
    have f58 : (xup (xup (xup (xup w (20 + σ.2 0) (.inr (2, [.null, .int (0)]))) (30 + σ.2 0) (eQ cy 4 6 (fun _ => none))) (20 + σ.2 0) (.inr (2, [.ref (loc35 (30 + σ.2 0)), .int (nI (0))]))) (2) (eQ cy 3 8 (va_up (xq (fun k => loc (20 + k)) (σ.2 0)) (σ.2 0) (some (loc35 (20 + σ.2 0)))))) (0) = some (.inr (7, [.ref (loc35 (1)), .ref (loc35 (2)), .ref (loc35 (3)), .ref (loc35 (4)), .ref (loc35 (5)), .ref (loc35 (6)), .ref (loc35 (7)), .int (nI (σ.2 0)), .int (nI (σ.2 1)), .int (nI (σ.2 2)), .int (nI (σ.2 3)), .int (nI (σ.2 4)), .int (nI (σ.2 5)), .int (nI (σ.2 6)), .int (σ.1 10 1), .int (σ.1 10 0), .ref (loc35 (8)), .ref (loc35 (11))])) := xup_o (f50) (by omega)
    have f59 : (xup (xup (xup (xup w (20 + σ.2 0) (.inr (2, [.null, .int (0)]))) (30 + σ.2 0) (eQ cy 4 6 (fun _ => none))) (20 + σ.2 0) (.inr (2, [.ref (loc35 (30 + σ.2 0)), .int (nI (0))]))) (2) (eQ cy 3 8 (va_up (xq (fun k => loc (20 + k)) (σ.2 0)) (σ.2 0) (some (loc35 (20 + σ.2 0)))))) (20 + σ.2 0) = some (.inr (2, [.ref (loc35 (30 + σ.2 0)), .int (nI (0))])) := xup_o (f53) (by omega)
    have f60 : (xup (xup (xup (xup w (20 + σ.2 0) (.inr (2, [.null, .int (0)]))) (30 + σ.2 0) (eQ cy 4 6 (fun _ => none))) (20 + σ.2 0) (.inr (2, [.ref (loc35 (30 + σ.2 0)), .int (nI (0))]))) (2) (eQ cy 3 8 (va_up (xq (fun k => loc (20 + k)) (σ.2 0)) (σ.2 0) (some (loc35 (20 + σ.2 0)))))) (2) = some (eQ cy 3 8 (va_up (xq (fun k => loc (20 + k)) (σ.2 0)) (σ.2 0) (some (loc35 (20 + σ.2 0))))) := xup_at _ _ _
    have f61 : (xup (xup (xup (xup w (20 + σ.2 0) (.inr (2, [.null, .int (0)]))) (30 + σ.2 0) (eQ cy 4 6 (fun _ => none))) (20 + σ.2 0) (.inr (2, [.ref (loc35 (30 + σ.2 0)), .int (nI (0))]))) (2) (eQ cy 3 8 (va_up (xq (fun k => loc (20 + k)) (σ.2 0)) (σ.2 0) (some (loc35 (20 + σ.2 0)))))) (30 + σ.2 0) = some (eQ cy 4 6 (fun _ => none)) := xup_o (f52) (by omega)
    refine lv_aload_n hx hb dX7_horse_28 rfl (lv_at hl 0 rfl) ?_
    refine lv_dup hx hb dX7_horse_29 rfl ?_
    refine x_get (C := RX7) (T := TX7) (N := 18) hx hb hts hi_X7_horse_X7 hown hK hV56 f58 rfl 7 (by decide) (hts (.fieldLink RX7 46 "SaddleHouse" "horseCount" "I") (List.mem_of_getElem? (i := 1) rfl)) (fun _ h9 => h9) rfl dX7_horse_30 ?_
    refine lv_iconst (v := nI 1) hx hb dX7_horse_33 (by decide +kernel) ?_
    refine x_iadd hx hb (σ.2 0) (1) dX7_horse_34 ?_
    refine x_putf (C := RX7) (T := TX7) (N := 18) (v := .int (nI ((σ.2 0) + 1))) (ty := .int) hx hb hts hi_X7_horse_X7 tyX7 tyX7_ok nmX7 hown hK hV56 hS57 f58 rfl 7 (by decide) (hts (.fieldLink RX7 46 "SaddleHouse" "horseCount" "I") (List.mem_of_getElem? (i := 1) rfl)) (fun _ h9 => h9) rfl (by decide +kernel) rfl rfl (Nat.le_of_ble_eq_true rfl) dX7_horse_35 (fun H62 L63 hV64 hS65 => ?_)
    have f66 : (xup (xup (xup (xup (xup w (20 + σ.2 0) (.inr (2, [.null, .int (0)]))) (30 + σ.2 0) (eQ cy 4 6 (fun _ => none))) (20 + σ.2 0) (.inr (2, [.ref (loc35 (30 + σ.2 0)), .int (nI (0))]))) (2) (eQ cy 3 8 (va_up (xq (fun k => loc (20 + k)) (σ.2 0)) (σ.2 0) (some (loc35 (20 + σ.2 0)))))) (0) (.inr (7, [.ref (loc35 (1)), .ref (loc35 (2)), .ref (loc35 (3)), .ref (loc35 (4)), .ref (loc35 (5)), .ref (loc35 (6)), .ref (loc35 (7)), .int (nI ((σ.2 0) + 1)), .int (nI (σ.2 1)), .int (nI (σ.2 2)), .int (nI (σ.2 3)), .int (nI (σ.2 4)), .int (nI (σ.2 5)), .int (nI (σ.2 6)), .int (σ.1 10 1), .int (σ.1 10 0), .ref (loc35 (8)), .ref (loc35 (11))]))) (0) = some (.inr (7, [.ref (loc35 (1)), .ref (loc35 (2)), .ref (loc35 (3)), .ref (loc35 (4)), .ref (loc35 (5)), .ref (loc35 (6)), .ref (loc35 (7)), .int (nI ((σ.2 0) + 1)), .int (nI (σ.2 1)), .int (nI (σ.2 2)), .int (nI (σ.2 3)), .int (nI (σ.2 4)), .int (nI (σ.2 5)), .int (nI (σ.2 6)), .int (σ.1 10 1), .int (σ.1 10 0), .ref (loc35 (8)), .ref (loc35 (11))])) := xup_at _ _ _
    have f67 : (xup (xup (xup (xup (xup w (20 + σ.2 0) (.inr (2, [.null, .int (0)]))) (30 + σ.2 0) (eQ cy 4 6 (fun _ => none))) (20 + σ.2 0) (.inr (2, [.ref (loc35 (30 + σ.2 0)), .int (nI (0))]))) (2) (eQ cy 3 8 (va_up (xq (fun k => loc (20 + k)) (σ.2 0)) (σ.2 0) (some (loc35 (20 + σ.2 0)))))) (0) (.inr (7, [.ref (loc35 (1)), .ref (loc35 (2)), .ref (loc35 (3)), .ref (loc35 (4)), .ref (loc35 (5)), .ref (loc35 (6)), .ref (loc35 (7)), .int (nI ((σ.2 0) + 1)), .int (nI (σ.2 1)), .int (nI (σ.2 2)), .int (nI (σ.2 3)), .int (nI (σ.2 4)), .int (nI (σ.2 5)), .int (nI (σ.2 6)), .int (σ.1 10 1), .int (σ.1 10 0), .ref (loc35 (8)), .ref (loc35 (11))]))) (20 + σ.2 0) = some (.inr (2, [.ref (loc35 (30 + σ.2 0)), .int (nI (0))])) := xup_o (xup_o (f53) (by omega)) (by omega)
    have f68 : (xup (xup (xup (xup (xup w (20 + σ.2 0) (.inr (2, [.null, .int (0)]))) (30 + σ.2 0) (eQ cy 4 6 (fun _ => none))) (20 + σ.2 0) (.inr (2, [.ref (loc35 (30 + σ.2 0)), .int (nI (0))]))) (2) (eQ cy 3 8 (va_up (xq (fun k => loc (20 + k)) (σ.2 0)) (σ.2 0) (some (loc35 (20 + σ.2 0)))))) (0) (.inr (7, [.ref (loc35 (1)), .ref (loc35 (2)), .ref (loc35 (3)), .ref (loc35 (4)), .ref (loc35 (5)), .ref (loc35 (6)), .ref (loc35 (7)), .int (nI ((σ.2 0) + 1)), .int (nI (σ.2 1)), .int (nI (σ.2 2)), .int (nI (σ.2 3)), .int (nI (σ.2 4)), .int (nI (σ.2 5)), .int (nI (σ.2 6)), .int (σ.1 10 1), .int (σ.1 10 0), .ref (loc35 (8)), .ref (loc35 (11))]))) (2) = some (eQ cy 3 8 (va_up (xq (fun k => loc (20 + k)) (σ.2 0)) (σ.2 0) (some (loc35 (20 + σ.2 0))))) := xup_o (xup_at _ _ _) (by omega)
    have f69 : (xup (xup (xup (xup (xup w (20 + σ.2 0) (.inr (2, [.null, .int (0)]))) (30 + σ.2 0) (eQ cy 4 6 (fun _ => none))) (20 + σ.2 0) (.inr (2, [.ref (loc35 (30 + σ.2 0)), .int (nI (0))]))) (2) (eQ cy 3 8 (va_up (xq (fun k => loc (20 + k)) (σ.2 0)) (σ.2 0) (some (loc35 (20 + σ.2 0)))))) (0) (.inr (7, [.ref (loc35 (1)), .ref (loc35 (2)), .ref (loc35 (3)), .ref (loc35 (4)), .ref (loc35 (5)), .ref (loc35 (6)), .ref (loc35 (7)), .int (nI ((σ.2 0) + 1)), .int (nI (σ.2 1)), .int (nI (σ.2 2)), .int (nI (σ.2 3)), .int (nI (σ.2 4)), .int (nI (σ.2 5)), .int (nI (σ.2 6)), .int (σ.1 10 1), .int (σ.1 10 0), .ref (loc35 (8)), .ref (loc35 (11))]))) (30 + σ.2 0) = some (eQ cy 4 6 (fun _ => none)) := xup_o (xup_o (f52) (by omega)) (by omega)
    refine lv_aload_n hx hb dX7_horse_38 rfl (lv_at hl 0 rfl) ?_
    refine x_get (C := RX7) (T := TX7) (N := 18) hx hb hts hi_X7_horse_X7 hown hK hV64 f66 rfl 7 (by decide) (hts (.fieldLink RX7 46 "SaddleHouse" "horseCount" "I") (List.mem_of_getElem? (i := 1) rfl)) (fun _ h9 => h9) rfl dX7_horse_39 ?_
    refine lv_iconst (v := nI 1) hx hb dX7_horse_42 (by decide +kernel) ?_
    refine x_isub hx hb ((σ.2 0) + 1) (1) (by omega) dX7_horse_43 ?_
    refine W.widen (k := 2) (n := 8) (by omega) (by omega) ?_
    exact x_rmi hx hb hr hlocks dX7_horse_44 hV64 hS65 (x_lf (by simp only [sp_horse, c5, if_true, if_false, ite_true, ite_false, not_true_eq_false, not_false_eq_true, and_true, true_and, and_false, false_and, or_true, true_or, or_false, false_or, and_self, or_self, Nat.add_sub_cancel, Nat.add_eq_zero_iff, Nat.one_ne_zero, eq_self, Nat.not_lt]) (xOK_horse hRR hNN (by omega) hz (fun b9 n0 n1 => ((hlo38 b9 n1).symm).trans ((hlo12 b9 n0).symm))))
  · have _u := trivial
    refine lv_bipush (v := -104) hx hb dX7_horse_9 (by decide +kernel) ?_
    refine W.widen (k := 2) (n := 8) (by omega) (by omega) ?_
    exact x_rmi hx hb hr hlocks dX7_horse_11 hV hS (x_lf (by simp only [sp_horse, c5, if_true, if_false, ite_true, ite_false, not_true_eq_false, not_false_eq_true, and_true, true_and, and_false, false_and, or_true, true_or, or_false, false_or, and_self, or_self, Nat.add_sub_cancel, Nat.add_eq_zero_iff, Nat.one_ne_zero, eq_self, Nat.not_lt]) (xOK_id hRR))
