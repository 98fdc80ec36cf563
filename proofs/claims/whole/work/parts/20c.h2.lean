abbrev rm_X7_bench : Room := { frames := 2, cells := 1, slots := 2, locals := 41 }
theorem hi_X7_bench_X0 : ∀ w ∈ wsX00, w ∈ wsX7_bench := fun w h => List.mem_cons_of_mem _ (List.mem_append_right _ h)
theorem hi_X7_bench_X7 : ∀ w ∈ wsX70, w ∈ wsX7_bench := fun w h => List.mem_cons_of_mem _ (List.mem_append_left _ (List.mem_append_right _ h))
set_option maxHeartbeats 4000000 in
set_option maxRecDepth 100000 in
theorem c_X7_bench (l : Launch) (D : va_G) (cy : Nat → ClassId) (loc : Nat → Nat) (w : xM) (sz : Nat) (σ : xS) (hN : xN8 σ) (hR : xR cy loc σ w) (hz : σ.1 8 (σ.2 3) = 0) (n : Int32)  : Met l yX7_bench wsX7_bench rm_X7_bench (va_Pc [.ref (loc (0)), .int (n)] (xP D cy loc w sz)) (va_Qi (fun r u => r = (sp_bench σ n).1 ∧ xOK cy loc w (sp_bench σ n).2 u) (xB D (xA loc w sz)) (xA loc w sz)) 1 2 (xA loc w sz) := by
  refine x_met (cc := cX7_bench) (maxL := 2) (ret := (some .int)) (C := RX7) (by decide) rfl rfl (Nat.le_of_ble_eq_true rfl) ?_
  intro p e s m below meth c ls hx hb hml hr hts hown hlocks hin hP hl
  obtain ⟨hsz, hV, hK⟩ := hP
  subst hsz
  have hA : ∀ q : Nat, s.heap.size ≤ q → xA loc w s.heap.size q := fun q h => Or.inr h
  have hS : va_S (xA loc w s.heap.size) s.heap s.heap [] := va_S.rf
  have hl : lv_has ls 2 [(0, .ref (loc (0))), (1, .int (n))] := hl
  have hNN := hN
  have hRR := hR
  obtain ⟨g0, b0, q0, hw⟩ := hR
  obtain ⟨hN0, hN1, hN2, hN3, hN4, hN5, hN6⟩ := hN
  have f1 : w (0) = some (.inr (7, [.ref (loc (1)), .ref (loc (2)), .ref (loc (3)), .ref (loc (4)), .ref (loc (5)), .ref (loc (6)), .ref (loc (7)), .int (nI (σ.2 0)), .int (nI (σ.2 1)), .int (nI (σ.2 2)), .int (nI (σ.2 3)), .int (nI (σ.2 4)), .int (nI (σ.2 5)), .int (nI (σ.2 6)), .int (σ.1 10 1), .int (σ.1 10 0), .ref (loc (8)), .ref (loc (11))])) := (hw 0 (by decide)).trans rfl
  have f2 : w (5) = some (eQ cy 1 3 (xq (fun k => loc (200 + k)) (σ.2 3))) := (hw 5 (by decide)).trans rfl
  have f3 : w (200 + σ.2 3) = none := (hw (200 + σ.2 3) (by omega)).trans (xn_200 (Nat.le_refl _) (by omega))
  refine lv_iload_n hx hb dX7_bench_0 rfl (lv_at hl 1 rfl) ?_
  refine lv_iconst (v := nI 1) hx hb dX7_bench_1 (by decide +kernel) ?_
  refine lv_bipush (v := nI 24) hx hb dX7_bench_2 (by decide +kernel) ?_
  refine x_ci (va_runS (As := [.int (n), .int (nI (1)), .int (nI (24))]) (rest := []) ⟨hx, hb, hml, hown, hts⟩ (c_X7_isWithin l D cy loc w s.heap.size n (nI 1) (nI 24)) (cwS 3 hts gX7_bench_X7_isWithin rfl rfl rfl (by decide +kernel) ⟨Nat.le_of_ble_eq_true rfl, Nat.le_of_ble_eq_true rfl⟩) (x_preS hK hV) rfl rfl hl.1 rfl (lv_room (Nat.le_of_ble_eq_true rfl)) dX7_bench_4 ⟨Nat.le_of_ble_eq_true rfl, Nat.le_of_ble_eq_true rfl⟩) (fun r4 hr5 => ?_)
  have ez6 : xb (nI 1 ≤ n ∧ n ≤ nI 24) = r4 := Eq.symm (show r4 = xb (nI 1 ≤ n ∧ n ≤ nI 24) from hr5)
  subst ez6
  refine x_bne (tgt := 13) hx hb dX7_bench_7 (by decide) (fun c7 => ?_) (fun c7 => ?_)
  · have _u := trivial
    refine lv_aload_n hx hb dX7_bench_13 rfl (lv_at hl 0 rfl) ?_
    refine x_get (C := RX7) (T := TX7) (N := 18) hx hb hts hi_X7_bench_X7 hown hK hV f1 rfl 10 (by decide) (hts (.fieldLink RX7 56 "SaddleHouse" "benchCount" "I") (List.mem_of_getElem? (i := 1) rfl)) (fun _ h9 => h9) rfl dX7_bench_14 ?_
    refine lv_iconst (v := nI 3) hx hb dX7_bench_17 (by decide +kernel) ?_
    refine x_clt hx hb (σ.2 3) (3) (by omega) (by omega) (tgt := 24) dX7_bench_18 (by decide) (fun c8 => ?_) (fun c8 => ?_)
    · have _u := trivial
      refine lv_aload_n hx hb dX7_bench_24 rfl (lv_at hl 0 rfl) ?_
      refine x_get (C := RX7) (T := TX7) (N := 18) hx hb hts hi_X7_bench_X7 hown hK hV f1 rfl 4 (by decide) (hts (.fieldLink RX7 33 "SaddleHouse" "benches" "[LSaddleHouse$Bench;") (List.mem_of_getElem? (i := 2) rfl)) (fun _ h9 => h9) rfl dX7_bench_25 ?_
      refine lv_aload_n hx hb dX7_bench_28 rfl (lv_at hl 0 rfl) ?_
      refine x_get (C := RX7) (T := TX7) (N := 18) hx hb hts hi_X7_bench_X7 hown hK hV f1 rfl 10 (by decide) (hts (.fieldLink RX7 56 "SaddleHouse" "benchCount" "I") (List.mem_of_getElem? (i := 1) rfl)) (fun _ h9 => h9) rfl dX7_bench_29 ?_
      refine x_new (200 + σ.2 3) (f3) (ci := 0) (fs := [.int (0), .int (0)]) (C := RX0) (T := TX0) (N := 2) hx hb hts hi_X7_bench_X0 tyX0 tyX0_ok hown (hts (.classLink RX7 31 RX0) (List.mem_of_getElem? (i := 3) rfl)) (hts (.instantiable RX0 2) (List.mem_of_getElem? (i := 4) rfl)) (hts (.initialized RX0) (List.mem_of_getElem? (i := 5) rfl)) hK hV hS hA rfl (fun j hj => by rcases (show j = 0 ∨ j = 1 by omega) with rfl | rfl <;> rfl) (Nat.le_of_ble_eq_true rfl) (Nat.le_of_ble_eq_true rfl) dX7_bench_32 (fun q12 H9 hV10 hS11 => ?_)
      obtain ⟨loc13, hq14, hlo15, hV16⟩ : ∃ z : Nat → Nat, z (200 + σ.2 3) = q12 ∧ (∀ b, b ≠ 200 + σ.2 3 → loc b = z b) ∧ xV D (xA loc w s.heap.size) z (xup w (200 + σ.2 3) (.inr (0, [.int (0), .int (0)]))) H9 := ⟨_, va_up_self _ _ _, fun b hb => (va_up_ne _ _ hb).symm, hV10⟩
      subst hq14
      have e17 : loc (0) = loc13 (0) := hlo15 _ (by omega)
      have e18 : loc (5) = loc13 (5) := hlo15 _ (by omega)
      have e19 : loc (1) = loc13 (1) := hlo15 _ (by omega)
      have e20 : loc (2) = loc13 (2) := hlo15 _ (by omega)
      have e21 : loc (3) = loc13 (3) := hlo15 _ (by omega)
      have e22 : loc (4) = loc13 (4) := hlo15 _ (by omega)
      have e23 : loc (6) = loc13 (6) := hlo15 _ (by omega)
      have e24 : loc (7) = loc13 (7) := hlo15 _ (by omega)
      have e25 : loc (8) = loc13 (8) := hlo15 _ (by omega)
      have e26 : loc (11) = loc13 (11) := hlo15 _ (by omega)
      refine W.eq (g2 := F0 m 35 ls [.ref (loc13 (200 + σ.2 3)), .int (nI (σ.2 3)), .ref (loc13 (5))]) (by rw [e18]) ?_
      have hl : lv_has ls 2 [(0, .ref (loc13 (0))), (1, .int (n))] := Eq.mp (congrArg (lv_has ls 2) (show ([(0, .ref (loc (0))), (1, .int (n))] : List (Nat × Value)) = [(0, .ref (loc13 (0))), (1, .int (n))] from by rw [e17])) hl
      have f27 : (xup w (200 + σ.2 3) (.inr (0, [.int (0), .int (0)]))) (0) = some (.inr (7, [.ref (loc13 (1)), .ref (loc13 (2)), .ref (loc13 (3)), .ref (loc13 (4)), .ref (loc13 (5)), .ref (loc13 (6)), .ref (loc13 (7)), .int (nI (σ.2 0)), .int (nI (σ.2 1)), .int (nI (σ.2 2)), .int (nI (σ.2 3)), .int (nI (σ.2 4)), .int (nI (σ.2 5)), .int (nI (σ.2 6)), .int (σ.1 10 1), .int (σ.1 10 0), .ref (loc13 (8)), .ref (loc13 (11))])) := (xup_o (f1) (by omega)).trans (congrArg some (show (.inr (7, [.ref (loc (1)), .ref (loc (2)), .ref (loc (3)), .ref (loc (4)), .ref (loc (5)), .ref (loc (6)), .ref (loc (7)), .int (nI (σ.2 0)), .int (nI (σ.2 1)), .int (nI (σ.2 2)), .int (nI (σ.2 3)), .int (nI (σ.2 4)), .int (nI (σ.2 5)), .int (nI (σ.2 6)), .int (σ.1 10 1), .int (σ.1 10 0), .ref (loc (8)), .ref (loc (11))]) : va_E) = .inr (7, [.ref (loc13 (1)), .ref (loc13 (2)), .ref (loc13 (3)), .ref (loc13 (4)), .ref (loc13 (5)), .ref (loc13 (6)), .ref (loc13 (7)), .int (nI (σ.2 0)), .int (nI (σ.2 1)), .int (nI (σ.2 2)), .int (nI (σ.2 3)), .int (nI (σ.2 4)), .int (nI (σ.2 5)), .int (nI (σ.2 6)), .int (σ.1 10 1), .int (σ.1 10 0), .ref (loc13 (8)), .ref (loc13 (11))]) from by rw [e19, e20, e21, e22, e18, e23, e24, e25, e26]))
      have f28 : (xup w (200 + σ.2 3) (.inr (0, [.int (0), .int (0)]))) (5) = some (eQ cy 1 3 (xq (fun k => loc (200 + k)) (σ.2 3))) := xup_o (f2) (by omega)
      have f29 : (xup w (200 + σ.2 3) (.inr (0, [.int (0), .int (0)]))) (200 + σ.2 3) = some (.inr (0, [.int (0), .int (0)])) := xup_at _ _ _
      refine lv_dup hx hb dX7_bench_35 rfl ?_
      refine lv_iload_n hx hb dX7_bench_36 rfl (lv_at hl 1 rfl) ?_
      refine x_mv (va_runIN (host := RX7) (As := [.int (n)]) (rest := [.ref (loc13 (200 + σ.2 3)), .int (nI (σ.2 3)), .ref (loc13 (5))]) ⟨hx, hb, hml, hown, hts⟩ (c_X0_init l D cy loc13 (xup w (200 + σ.2 3) (.inr (0, [.int (0), .int (0)]))) H9.size (200 + σ.2 3) n f29) ⟨va_cnB 1 hts gX7_bench_X0_init_n194 rfl rfl rfl (hK.2.1 (.methodLinkNest RX7 194 yX0_init RX7) (by decide +kernel)) (hts (.initialized RX0) (List.mem_of_getElem? (i := 5) rfl)) (by decide +kernel) ⟨Nat.le_of_ble_eq_true rfl, Nat.le_of_ble_eq_true rfl⟩, rfl, hts (.instanceMethod yX0_init) (List.mem_of_getElem? (i := 10) rfl)⟩ (x_preS hK hV16) rfl rfl hl.1 rfl (lv_room (Nat.le_of_ble_eq_true rfl)) dX7_bench_37 ⟨Nat.le_of_ble_eq_true rfl, Nat.le_of_ble_eq_true rfl⟩) hV16 hS11 hA (fun loc37 w36 H32 L33 hr31 hV34 hS35 => ?_)
      obtain ⟨e39, e40⟩ := hr31
      have e39 : loc13 = loc37 := Eq.symm e39
      subst e39
      have e40 := Eq.symm e40
      subst e40
      have f41 : (xup (xup w (200 + σ.2 3) (.inr (0, [.int (0), .int (0)]))) (200 + σ.2 3) (.inr (0, [.int (n), .int (nI (0))]))) (0) = some (.inr (7, [.ref (loc13 (1)), .ref (loc13 (2)), .ref (loc13 (3)), .ref (loc13 (4)), .ref (loc13 (5)), .ref (loc13 (6)), .ref (loc13 (7)), .int (nI (σ.2 0)), .int (nI (σ.2 1)), .int (nI (σ.2 2)), .int (nI (σ.2 3)), .int (nI (σ.2 4)), .int (nI (σ.2 5)), .int (nI (σ.2 6)), .int (σ.1 10 1), .int (σ.1 10 0), .ref (loc13 (8)), .ref (loc13 (11))])) := xup_o (f27) (by omega)
      have f42 : (xup (xup w (200 + σ.2 3) (.inr (0, [.int (0), .int (0)]))) (200 + σ.2 3) (.inr (0, [.int (n), .int (nI (0))]))) (200 + σ.2 3) = some (.inr (0, [.int (n), .int (nI (0))])) := xup_at _ _ _
      have f43 : (xup (xup w (200 + σ.2 3) (.inr (0, [.int (0), .int (0)]))) (200 + σ.2 3) (.inr (0, [.int (n), .int (nI (0))]))) (5) = some (eQ cy 1 3 (xq (fun k => loc (200 + k)) (σ.2 3))) := xup_o (f28) (by omega)
      refine x_aast hx hb hK hV34 hS35 f43 rfl f42 rfl (σ.2 3) (by omega) (by decide) dX7_bench_40 (fun H44 L45 hV46 hS47 => ?_)
      have f48 : (xup (xup (xup w (200 + σ.2 3) (.inr (0, [.int (0), .int (0)]))) (200 + σ.2 3) (.inr (0, [.int (n), .int (nI (0))]))) (5) (eQ cy 1 3 (va_up (xq (fun k => loc (200 + k)) (σ.2 3)) (σ.2 3) (some (loc13 (200 + σ.2 3)))))) (0) = some (.inr (7, [.ref (loc13 (1)), .ref (loc13 (2)), .ref (loc13 (3)), .ref (loc13 (4)), .ref (loc13 (5)), .ref (loc13 (6)), .ref (loc13 (7)), .int (nI (σ.2 0)), .int (nI (σ.2 1)), .int (nI (σ.2 2)), .int (nI (σ.2 3)), .int (nI (σ.2 4)), .int (nI (σ.2 5)), .int (nI (σ.2 6)), .int (σ.1 10 1), .int (σ.1 10 0), .ref (loc13 (8)), .ref (loc13 (11))])) := xup_o (xup_o (f27) (by omega)) (by omega)
      have f49 : (xup (xup (xup w (200 + σ.2 3) (.inr (0, [.int (0), .int (0)]))) (200 + σ.2 3) (.inr (0, [.int (n), .int (nI (0))]))) (5) (eQ cy 1 3 (va_up (xq (fun k => loc (200 + k)) (σ.2 3)) (σ.2 3) (some (loc13 (200 + σ.2 3)))))) (200 + σ.2 3) = some (.inr (0, [.int (n), .int (nI (0))])) := xup_o (xup_at _ _ _) (by omega)
      have f50 : (xup (xup (xup w (200 + σ.2 3) (.inr (0, [.int (0), .int (0)]))) (200 + σ.2 3) (.inr (0, [.int (n), .int (nI (0))]))) (5) (eQ cy 1 3 (va_up (xq (fun k => loc (200 + k)) (σ.2 3)) (σ.2 3) (some (loc13 (200 + σ.2 3)))))) (5) = some (eQ cy 1 3 (va_up (xq (fun k => loc (200 + k)) (σ.2 3)) (σ.2 3) (some (loc13 (200 + σ.2 3))))) := xup_at _ _ _
      refine lv_aload_n hx hb dX7_bench_41 rfl (lv_at hl 0 rfl) ?_
      refine lv_dup hx hb dX7_bench_42 rfl ?_
      refine x_get (C := RX7) (T := TX7) (N := 18) hx hb hts hi_X7_bench_X7 hown hK hV46 f48 rfl 10 (by decide) (hts (.fieldLink RX7 56 "SaddleHouse" "benchCount" "I") (List.mem_of_getElem? (i := 1) rfl)) (fun _ h9 => h9) rfl dX7_bench_43 ?_
      refine lv_iconst (v := nI 1) hx hb dX7_bench_46 (by decide +kernel) ?_
      refine x_iadd hx hb (σ.2 3) (1) dX7_bench_47 ?_
      refine x_putf (C := RX7) (T := TX7) (N := 18) (v := .int (nI ((σ.2 3) + 1))) (ty := .int) hx hb hts hi_X7_bench_X7 tyX7 tyX7_ok nmX7 hown hK hV46 hS47 f48 rfl 10 (by decide) (hts (.fieldLink RX7 56 "SaddleHouse" "benchCount" "I") (List.mem_of_getElem? (i := 1) rfl)) (fun _ h9 => h9) rfl (by decide +kernel) rfl rfl (Nat.le_of_ble_eq_true rfl) dX7_bench_48 (fun H51 L52 hV53 hS54 => ?_)
      have f55 : (xup (xup (xup (xup w (200 + σ.2 3) (.inr (0, [.int (0), .int (0)]))) (200 + σ.2 3) (.inr (0, [.int (n), .int (nI (0))]))) (5) (eQ cy 1 3 (va_up (xq (fun k => loc (200 + k)) (σ.2 3)) (σ.2 3) (some (loc13 (200 + σ.2 3)))))) (0) (.inr (7, [.ref (loc13 (1)), .ref (loc13 (2)), .ref (loc13 (3)), .ref (loc13 (4)), .ref (loc13 (5)), .ref (loc13 (6)), .ref (loc13 (7)), .int (nI (σ.2 0)), .int (nI (σ.2 1)), .int (nI (σ.2 2)), .int (nI ((σ.2 3) + 1)), .int (nI (σ.2 4)), .int (nI (σ.2 5)), .int (nI (σ.2 6)), .int (σ.1 10 1), .int (σ.1 10 0), .ref (loc13 (8)), .ref (loc13 (11))]))) (0) = some (.inr (7, [.ref (loc13 (1)), .ref (loc13 (2)), .ref (loc13 (3)), .ref (loc13 (4)), .ref (loc13 (5)), .ref (loc13 (6)), .ref (loc13 (7)), .int (nI (σ.2 0)), .int (nI (σ.2 1)), .int (nI (σ.2 2)), .int (nI ((σ.2 3) + 1)), .int (nI (σ.2 4)), .int (nI (σ.2 5)), .int (nI (σ.2 6)), .int (σ.1 10 1), .int (σ.1 10 0), .ref (loc13 (8)), .ref (loc13 (11))])) := xup_at _ _ _
      have f56 : (xup (xup (xup (xup w (200 + σ.2 3) (.inr (0, [.int (0), .int (0)]))) (200 + σ.2 3) (.inr (0, [.int (n), .int (nI (0))]))) (5) (eQ cy 1 3 (va_up (xq (fun k => loc (200 + k)) (σ.2 3)) (σ.2 3) (some (loc13 (200 + σ.2 3)))))) (0) (.inr (7, [.ref (loc13 (1)), .ref (loc13 (2)), .ref (loc13 (3)), .ref (loc13 (4)), .ref (loc13 (5)), .ref (loc13 (6)), .ref (loc13 (7)), .int (nI (σ.2 0)), .int (nI (σ.2 1)), .int (nI (σ.2 2)), .int (nI ((σ.2 3) + 1)), .int (nI (σ.2 4)), .int (nI (σ.2 5)), .int (nI (σ.2 6)), .int (σ.1 10 1), .int (σ.1 10 0), .ref (loc13 (8)), .ref (loc13 (11))]))) (200 + σ.2 3) = some (.inr (0, [.int (n), .int (nI (0))])) := xup_o (xup_o (xup_at _ _ _) (by omega)) (by omega)
      have f57 : (xup (xup (xup (xup w (200 + σ.2 3) (.inr (0, [.int (0), .int (0)]))) (200 + σ.2 3) (.inr (0, [.int (n), .int (nI (0))]))) (5) (eQ cy 1 3 (va_up (xq (fun k => loc (200 + k)) (σ.2 3)) (σ.2 3) (some (loc13 (200 + σ.2 3)))))) (0) (.inr (7, [.ref (loc13 (1)), .ref (loc13 (2)), .ref (loc13 (3)), .ref (loc13 (4)), .ref (loc13 (5)), .ref (loc13 (6)), .ref (loc13 (7)), .int (nI (σ.2 0)), .int (nI (σ.2 1)), .int (nI (σ.2 2)), .int (nI ((σ.2 3) + 1)), .int (nI (σ.2 4)), .int (nI (σ.2 5)), .int (nI (σ.2 6)), .int (σ.1 10 1), .int (σ.1 10 0), .ref (loc13 (8)), .ref (loc13 (11))]))) (5) = some (eQ cy 1 3 (va_up (xq (fun k => loc (200 + k)) (σ.2 3)) (σ.2 3) (some (loc13 (200 + σ.2 3))))) := xup_o (xup_at _ _ _) (by omega)
      refine lv_aload_n hx hb dX7_bench_51 rfl (lv_at hl 0 rfl) ?_
      refine x_get (C := RX7) (T := TX7) (N := 18) hx hb hts hi_X7_bench_X7 hown hK hV53 f55 rfl 10 (by decide) (hts (.fieldLink RX7 56 "SaddleHouse" "benchCount" "I") (List.mem_of_getElem? (i := 1) rfl)) (fun _ h9 => h9) rfl dX7_bench_52 ?_
      refine lv_iconst (v := nI 1) hx hb dX7_bench_55 (by decide +kernel) ?_
      refine x_isub hx hb ((σ.2 3) + 1) (1) (by omega) dX7_bench_56 ?_
      refine W.widen (k := 1) (n := 2) (by omega) (by omega) ?_
      exact x_rmi hx hb hr hlocks dX7_bench_57 hV53 hS54 (x_lf (by simp only [sp_bench, c7, c8, if_true, if_false, ite_true, ite_false, not_true_eq_false, not_false_eq_true, and_true, true_and, and_false, false_and, or_true, true_or, or_false, false_or, and_self, or_self, Nat.add_sub_cancel, Nat.add_eq_zero_iff, Nat.one_ne_zero, eq_self, Nat.not_lt]) (xOK_bench hRR hNN n (by omega) hz (fun b9 n0 => (hlo15 b9 n0).symm)))
    · have _u := trivial
      refine lv_bipush (v := -104) hx hb dX7_bench_21 (by decide +kernel) ?_
      refine W.widen (k := 1) (n := 2) (by omega) (by omega) ?_
      exact x_rmi hx hb hr hlocks dX7_bench_23 hV hS (x_lf (by simp only [sp_bench, c7, c8, if_true, if_false, ite_true, ite_false, not_true_eq_false, not_false_eq_true, and_true, true_and, and_false, false_and, or_true, true_or, or_false, false_or, and_self, or_self, Nat.add_sub_cancel, Nat.add_eq_zero_iff, Nat.one_ne_zero, eq_self, Nat.not_lt]) (xOK_id hRR))
  · have _u := trivial
    refine lv_bipush (v := -102) hx hb dX7_bench_10 (by decide +kernel) ?_
    refine W.widen (k := 1) (n := 2) (by omega) (by omega) ?_
    exact x_rmi hx hb hr hlocks dX7_bench_12 hV hS (x_lf (by simp only [sp_bench, c7, if_true, if_false, ite_true, ite_false, not_true_eq_false, not_false_eq_true, and_true, true_and, and_false, false_and, or_true, true_or, or_false, false_or, and_self, or_self, Nat.add_sub_cancel, Nat.add_eq_zero_iff, Nat.one_ne_zero, eq_self, Nat.not_lt]) (xOK_id hRR))
