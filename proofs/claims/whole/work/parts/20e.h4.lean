abbrev rm_X7_tree : Room := { frames := 2, cells := 3, slots := 20, locals := 42 }
theorem hi_X7_tree_X6 : ∀ w ∈ wsX60, w ∈ wsX7_tree := fun w h => List.mem_cons_of_mem _ (List.mem_append_right _ h)
theorem hi_X7_tree_X7 : ∀ w ∈ wsX70, w ∈ wsX7_tree := fun w h => List.mem_cons_of_mem _ (List.mem_append_left _ (List.mem_append_right _ h))
set_option maxHeartbeats 4000000 in
set_option maxRecDepth 100000 in
theorem c_X7_tree (l : Launch) (D : va_G) (cy : Nat → ClassId) (loc : Nat → Nat) (w : xM) (sz : Nat) (σ : xS) (hN : xN8 σ) (hR : xR cy loc σ w) (hz : ∀ i, i < 9 → σ.1 4 (9 * σ.2 1 + i) = 0)   : Met l yX7_tree wsX7_tree rm_X7_tree (va_Pc [.ref (loc (0))] (xP D cy loc w sz)) (va_Qi (fun r u => r = (sp_tree σ).1 ∧ xOK cy loc w (sp_tree σ).2 u) (xB D (xA loc w sz)) (xA loc w sz)) 3 20 (xA loc w sz) := by
  refine x_met (cc := cX7_tree) (maxL := 2) (ret := (some .int)) (C := RX7) (by decide) rfl rfl (Nat.le_of_ble_eq_true rfl) ?_
  intro p e s m below meth c ls hx hb hml hr hts hown hlocks hin hP hl
  obtain ⟨hsz, hV, hK⟩ := hP
  subst hsz
  have hA : ∀ q : Nat, s.heap.size ≤ q → xA loc w s.heap.size q := fun q h => Or.inr h
  have hS : va_S (xA loc w s.heap.size) s.heap s.heap [] := va_S.rf
  have hl : lv_has ls 2 [(0, .ref (loc (0)))] := hl
  have hNN := hN
  have hRR := hR
  obtain ⟨g0, b0, q0, hw⟩ := hR
  obtain ⟨hN0, hN1, hN2, hN3, hN4, hN5, hN6⟩ := hN
  have f1 : w (0) = some (.inr (7, [.ref (loc (1)), .ref (loc (2)), .ref (loc (3)), .ref (loc (4)), .ref (loc (5)), .ref (loc (6)), .ref (loc (7)), .int (nI (σ.2 0)), .int (nI (σ.2 1)), .int (nI (σ.2 2)), .int (nI (σ.2 3)), .int (nI (σ.2 4)), .int (nI (σ.2 5)), .int (nI (σ.2 6)), .int (σ.1 10 1), .int (σ.1 10 0), .ref (loc (8)), .ref (loc (11))])) := (hw 0 (by decide)).trans rfl
  have f2 : w (1) = some (eI cy 9 (σ.1 0)) := (hw 1 (by decide)).trans rfl
  have f3 : w (3) = some (eQ cy 6 8 (xq (fun k => loc (150 + k)) (σ.2 1))) := (hw 3 (by decide)).trans rfl
  have f4 : w (150 + σ.2 1) = none := (hw (150 + σ.2 1) (by omega)).trans (xn_150 (Nat.le_refl _) (by omega))
  have f5 : w (160 + σ.2 1) = none := (hw (160 + σ.2 1) (by omega)).trans (xn_160 (Nat.le_refl _) (by omega))
  have f6 : w (170 + σ.2 1) = none := (hw (170 + σ.2 1) (by omega)).trans (xn_170 (Nat.le_refl _) (by omega))
  refine lv_iconst (v := nI 0) hx hb dX7_tree_0 (by decide +kernel) ?_
  refine lv_istore_n (lv' := [(1, .int (nI (0))), (0, .ref (loc (0)))]) hx hb dX7_tree_1 rfl hl (by decide) rfl (fun ls hl => ?_)
  have lp2_7 : ∀ (fuel8 : Nat) (i : Nat) (ls : Array Slot), 9 - i < fuel8 → (i ≤ 9) → (∀ k, k < i → ¬ σ.1 0 k = -1) → lv_has ls 2 [(1, .int (nI (i))), (0, .ref (loc (0)))] → W p l e rm_X7_tree s m ([.ref (loc (0))] : List Value).toArray below meth c s.heap [] 0 0 (MQ below (va_Qi (fun r u => r = (sp_tree σ).1 ∧ xOK cy loc w (sp_tree σ).2 u) (xB D (xA loc w s.heap.size)) (xA loc w s.heap.size)) ([.ref (loc (0))] : List Value).toArray s 3 20 (xA loc w s.heap.size)) (F0 m 2 ls []) := by
    intro fuel8
    induction fuel8 with
    | zero => intro i ls hm9; exact absurd hm9 (Nat.not_lt_zero _)
    | succ fuel8 ih10 =>
      intro i ls hm9 h1 h2  hl
      refine lv_iload_n hx hb dX7_tree_2 rfl (lv_at hl 0 rfl) ?_
      refine lv_bipush (v := nI 9) hx hb dX7_tree_3 (by decide +kernel) ?_
      refine x_cge hx hb (i) (9) (by omega) (by omega) (tgt := 27) dX7_tree_5 (by decide) (fun c11 => ?_) (fun c11 => ?_)
      · have _u := trivial
        have y2 : (xgl σ) = True := eq_true (fun k hk => h2 k (by omega))
        refine lv_aload_n hx hb dX7_tree_27 rfl (lv_at hl 1 rfl) ?_
        refine x_get (C := RX7) (T := TX7) (N := 18) hx hb hts hi_X7_tree_X7 hown hK hV f1 rfl 8 (by decide) (hts (.fieldLink RX7 50 "SaddleHouse" "treeCount" "I") (List.mem_of_getElem? (i := 2) rfl)) (fun _ h9 => h9) rfl dX7_tree_28 ?_
        refine lv_bipush (v := nI 8) hx hb dX7_tree_31 (by decide +kernel) ?_
        refine x_clt hx hb (σ.2 1) (8) (by omega) (by omega) (tgt := 39) dX7_tree_33 (by decide) (fun c12 => ?_) (fun c12 => ?_)
        · have _u := trivial
          refine lv_aload_n hx hb dX7_tree_39 rfl (lv_at hl 1 rfl) ?_
          refine x_get (C := RX7) (T := TX7) (N := 18) hx hb hts hi_X7_tree_X7 hown hK hV f1 rfl 2 (by decide) (hts (.fieldLink RX7 21 "SaddleHouse" "trees" "[LSaddleHouse$Tree;") (List.mem_of_getElem? (i := 3) rfl)) (fun _ h9 => h9) rfl dX7_tree_40 ?_
          refine lv_aload_n hx hb dX7_tree_43 rfl (lv_at hl 1 rfl) ?_
          refine x_get (C := RX7) (T := TX7) (N := 18) hx hb hts hi_X7_tree_X7 hown hK hV f1 rfl 8 (by decide) (hts (.fieldLink RX7 50 "SaddleHouse" "treeCount" "I") (List.mem_of_getElem? (i := 2) rfl)) (fun _ h9 => h9) rfl dX7_tree_44 ?_
          refine x_new (150 + σ.2 1) (f4) (ci := 6) (fs := [.null, .null]) (C := RX6) (T := TX6) (N := 2) hx hb hts hi_X7_tree_X6 tyX6 tyX6_ok hown (hts (.classLink RX7 19 RX6) (List.mem_of_getElem? (i := 4) rfl)) (hts (.instantiable RX6 2) (List.mem_of_getElem? (i := 5) rfl)) (hts (.initialized RX6) (List.mem_of_getElem? (i := 6) rfl)) hK hV hS hA rfl (fun j hj => by rcases (show j = 0 ∨ j = 1 by omega) with rfl | rfl <;> rfl) (Nat.le_of_ble_eq_true rfl) (Nat.le_of_ble_eq_true rfl) dX7_tree_47 (fun q16 H13 hV14 hS15 => ?_)
          obtain ⟨loc17, hq18, hlo19, hV20⟩ : ∃ z : Nat → Nat, z (150 + σ.2 1) = q16 ∧ (∀ b, b ≠ 150 + σ.2 1 → loc b = z b) ∧ xV D (xA loc w s.heap.size) z (xup w (150 + σ.2 1) (.inr (6, [.null, .null]))) H13 := ⟨_, va_up_self _ _ _, fun b hb => (va_up_ne _ _ hb).symm, hV14⟩
          subst hq18
          have e21 : loc (0) = loc17 (0) := hlo19 _ (by omega)
          have e22 : loc (3) = loc17 (3) := hlo19 _ (by omega)
          have e23 : loc (1) = loc17 (1) := hlo19 _ (by omega)
          have e24 : loc (2) = loc17 (2) := hlo19 _ (by omega)
          have e25 : loc (4) = loc17 (4) := hlo19 _ (by omega)
          have e26 : loc (5) = loc17 (5) := hlo19 _ (by omega)
          have e27 : loc (6) = loc17 (6) := hlo19 _ (by omega)
          have e28 : loc (7) = loc17 (7) := hlo19 _ (by omega)
          have e29 : loc (8) = loc17 (8) := hlo19 _ (by omega)
          have e30 : loc (11) = loc17 (11) := hlo19 _ (by omega)
          refine W.eq (g2 := F0 m 50 ls [.ref (loc17 (150 + σ.2 1)), .int (nI (σ.2 1)), .ref (loc17 (3))]) (by rw [e22]) ?_
          have hl : lv_has ls 2 [(1, .int (nI (i))), (0, .ref (loc17 (0)))] := Eq.mp (congrArg (lv_has ls 2) (show ([(1, .int (nI (i))), (0, .ref (loc (0)))] : List (Nat × Value)) = [(1, .int (nI (i))), (0, .ref (loc17 (0)))] from by rw [e21])) hl
          have f31 : (xup w (150 + σ.2 1) (.inr (6, [.null, .null]))) (0) = some (.inr (7, [.ref (loc17 (1)), .ref (loc17 (2)), .ref (loc17 (3)), .ref (loc17 (4)), .ref (loc17 (5)), .ref (loc17 (6)), .ref (loc17 (7)), .int (nI (σ.2 0)), .int (nI (σ.2 1)), .int (nI (σ.2 2)), .int (nI (σ.2 3)), .int (nI (σ.2 4)), .int (nI (σ.2 5)), .int (nI (σ.2 6)), .int (σ.1 10 1), .int (σ.1 10 0), .ref (loc17 (8)), .ref (loc17 (11))])) := (xup_o (f1) (by omega)).trans (congrArg some (show (.inr (7, [.ref (loc (1)), .ref (loc (2)), .ref (loc (3)), .ref (loc (4)), .ref (loc (5)), .ref (loc (6)), .ref (loc (7)), .int (nI (σ.2 0)), .int (nI (σ.2 1)), .int (nI (σ.2 2)), .int (nI (σ.2 3)), .int (nI (σ.2 4)), .int (nI (σ.2 5)), .int (nI (σ.2 6)), .int (σ.1 10 1), .int (σ.1 10 0), .ref (loc (8)), .ref (loc (11))]) : va_E) = .inr (7, [.ref (loc17 (1)), .ref (loc17 (2)), .ref (loc17 (3)), .ref (loc17 (4)), .ref (loc17 (5)), .ref (loc17 (6)), .ref (loc17 (7)), .int (nI (σ.2 0)), .int (nI (σ.2 1)), .int (nI (σ.2 2)), .int (nI (σ.2 3)), .int (nI (σ.2 4)), .int (nI (σ.2 5)), .int (nI (σ.2 6)), .int (σ.1 10 1), .int (σ.1 10 0), .ref (loc17 (8)), .ref (loc17 (11))]) from by rw [e23, e24, e22, e25, e26, e27, e28, e29, e30]))
          have f32 : (xup w (150 + σ.2 1) (.inr (6, [.null, .null]))) (1) = some (eI cy 9 (σ.1 0)) := xup_o (f2) (by omega)
          have f33 : (xup w (150 + σ.2 1) (.inr (6, [.null, .null]))) (3) = some (eQ cy 6 8 (xq (fun k => loc (150 + k)) (σ.2 1))) := xup_o (f3) (by omega)
          have nn34 : (xup w (150 + σ.2 1) (.inr (6, [.null, .null]))) (160 + σ.2 1) = none := xup_o ((f5)) (by omega)
          have nn35 : (xup w (150 + σ.2 1) (.inr (6, [.null, .null]))) (170 + σ.2 1) = none := xup_o ((f6)) (by omega)
          have f36 : (xup w (150 + σ.2 1) (.inr (6, [.null, .null]))) (150 + σ.2 1) = some (.inr (6, [.null, .null])) := xup_at _ _ _
          refine lv_dup hx hb dX7_tree_50 rfl ?_
          refine lv_aload_n hx hb dX7_tree_51 rfl (lv_at hl 1 rfl) ?_
          refine x_get (C := RX7) (T := TX7) (N := 18) hx hb hts hi_X7_tree_X7 hown hK hV20 f31 rfl 0 (by decide) (hts (.fieldLink RX7 9 "SaddleHouse" "row" "[I") (List.mem_of_getElem? (i := 1) rfl)) (fun _ h9 => h9) rfl dX7_tree_52 ?_
          refine x_mv (va_runIN (host := RX7) (As := [.ref (loc17 (1))]) (rest := [.ref (loc17 (150 + σ.2 1)), .int (nI (σ.2 1)), .ref (loc17 (3))]) ⟨hx, hb, hml, hown, hts⟩ (c_X6_init l D cy loc17 (xup w (150 + σ.2 1) (.inr (6, [.null, .null]))) H13.size (150 + σ.2 1) (160 + σ.2 1) (170 + σ.2 1) 1 (σ.1 0) (by omega) (by omega) (by omega) (by omega) (by omega) (by omega) f36 f32 (nn34) (nn35)) ⟨va_cnB 1 hts gX7_tree_X6_init_n122 rfl rfl rfl (hK.2.1 (.methodLinkNest RX7 122 yX6_init RX7) (by decide +kernel)) (hts (.initialized RX6) (List.mem_of_getElem? (i := 6) rfl)) (by decide +kernel) ⟨Nat.le_of_ble_eq_true rfl, Nat.le_of_ble_eq_true rfl⟩, rfl, hts (.instanceMethod yX6_init) (List.mem_of_getElem? (i := 7) rfl)⟩ (x_preS hK hV20) rfl rfl hl.1 rfl (lv_room (Nat.le_of_ble_eq_true rfl)) dX7_tree_55 ⟨Nat.le_of_ble_eq_true rfl, Nat.le_of_ble_eq_true rfl⟩) hV20 hS15 hA (fun loc44 w43 H39 L40 hr38 hV41 hS42 => ?_)
          obtain ⟨hlo45, e46⟩ := hr38
          have hlo47 : ∀ b, b ≠ 160 + σ.2 1 → b ≠ 170 + σ.2 1 → loc17 b = loc44 b := fun b n0 n1 => (hlo45 b n0 n1).symm
          have e46 : (xup (xup (xup (xup w (150 + σ.2 1) (.inr (6, [.null, .null]))) (160 + σ.2 1) (eI cy 9 (xsl0 9 (σ.1 0)))) (170 + σ.2 1) (eI cy 9 (fun _ => 0))) (150 + σ.2 1) (.inr (6, [.ref (loc44 (160 + σ.2 1)), .ref (loc44 (170 + σ.2 1))]))) = w43 := Eq.symm e46
          subst e46
          have e48 : loc17 (0) = loc44 (0) := hlo47 _ (by omega) (by omega)
          have e49 : loc17 (3) = loc44 (3) := hlo47 _ (by omega) (by omega)
          have e50 : loc17 (150 + σ.2 1) = loc44 (150 + σ.2 1) := hlo47 _ (by omega) (by omega)
          have e51 : loc17 (1) = loc44 (1) := hlo47 _ (by omega) (by omega)
          have e52 : loc17 (2) = loc44 (2) := hlo47 _ (by omega) (by omega)
          have e53 : loc17 (4) = loc44 (4) := hlo47 _ (by omega) (by omega)
          have e54 : loc17 (5) = loc44 (5) := hlo47 _ (by omega) (by omega)
          have e55 : loc17 (6) = loc44 (6) := hlo47 _ (by omega) (by omega)
          have e56 : loc17 (7) = loc44 (7) := hlo47 _ (by omega) (by omega)
          have e57 : loc17 (8) = loc44 (8) := hlo47 _ (by omega) (by omega)
          have e58 : loc17 (11) = loc44 (11) := hlo47 _ (by omega) (by omega)
          refine W.eq (g2 := F0 m 58 ls [.ref (loc44 (150 + σ.2 1)), .int (nI (σ.2 1)), .ref (loc44 (3))]) (by rw [e49, e50]) ?_
          have hl : lv_has ls 2 [(1, .int (nI (i))), (0, .ref (loc44 (0)))] := Eq.mp (congrArg (lv_has ls 2) (show ([(1, .int (nI (i))), (0, .ref (loc17 (0)))] : List (Nat × Value)) = [(1, .int (nI (i))), (0, .ref (loc44 (0)))] from by rw [e48])) hl
          have f59 : (xup (xup (xup (xup w (150 + σ.2 1) (.inr (6, [.null, .null]))) (160 + σ.2 1) (eI cy 9 (xsl0 9 (σ.1 0)))) (170 + σ.2 1) (eI cy 9 (fun _ => 0))) (150 + σ.2 1) (.inr (6, [.ref (loc44 (160 + σ.2 1)), .ref (loc44 (170 + σ.2 1))]))) (0) = some (.inr (7, [.ref (loc44 (1)), .ref (loc44 (2)), .ref (loc44 (3)), .ref (loc44 (4)), .ref (loc44 (5)), .ref (loc44 (6)), .ref (loc44 (7)), .int (nI (σ.2 0)), .int (nI (σ.2 1)), .int (nI (σ.2 2)), .int (nI (σ.2 3)), .int (nI (σ.2 4)), .int (nI (σ.2 5)), .int (nI (σ.2 6)), .int (σ.1 10 1), .int (σ.1 10 0), .ref (loc44 (8)), .ref (loc44 (11))])) := (xup_o (xup_o (xup_o (f31) (by omega)) (by omega)) (by omega)).trans (congrArg some (show (.inr (7, [.ref (loc17 (1)), .ref (loc17 (2)), .ref (loc17 (3)), .ref (loc17 (4)), .ref (loc17 (5)), .ref (loc17 (6)), .ref (loc17 (7)), .int (nI (σ.2 0)), .int (nI (σ.2 1)), .int (nI (σ.2 2)), .int (nI (σ.2 3)), .int (nI (σ.2 4)), .int (nI (σ.2 5)), .int (nI (σ.2 6)), .int (σ.1 10 1), .int (σ.1 10 0), .ref (loc17 (8)), .ref (loc17 (11))]) : va_E) = .inr (7, [.ref (loc44 (1)), .ref (loc44 (2)), .ref (loc44 (3)), .ref (loc44 (4)), .ref (loc44 (5)), .ref (loc44 (6)), .ref (loc44 (7)), .int (nI (σ.2 0)), .int (nI (σ.2 1)), .int (nI (σ.2 2)), .int (nI (σ.2 3)), .int (nI (σ.2 4)), .int (nI (σ.2 5)), .int (nI (σ.2 6)), .int (σ.1 10 1), .int (σ.1 10 0), .ref (loc44 (8)), .ref (loc44 (11))]) from by rw [e51, e52, e49, e53, e54, e55, e56, e57, e58]))
          have f60 : (xup (xup (xup (xup w (150 + σ.2 1) (.inr (6, [.null, .null]))) (160 + σ.2 1) (eI cy 9 (xsl0 9 (σ.1 0)))) (170 + σ.2 1) (eI cy 9 (fun _ => 0))) (150 + σ.2 1) (.inr (6, [.ref (loc44 (160 + σ.2 1)), .ref (loc44 (170 + σ.2 1))]))) (1) = some (eI cy 9 (σ.1 0)) := xup_o (xup_o (xup_o (f32) (by omega)) (by omega)) (by omega)
          have f61 : (xup (xup (xup (xup w (150 + σ.2 1) (.inr (6, [.null, .null]))) (160 + σ.2 1) (eI cy 9 (xsl0 9 (σ.1 0)))) (170 + σ.2 1) (eI cy 9 (fun _ => 0))) (150 + σ.2 1) (.inr (6, [.ref (loc44 (160 + σ.2 1)), .ref (loc44 (170 + σ.2 1))]))) (3) = some (eQ cy 6 8 (xq (fun k => loc (150 + k)) (σ.2 1))) := xup_o (xup_o (xup_o (f33) (by omega)) (by omega)) (by omega)
          have f62 : (xup (xup (xup (xup w (150 + σ.2 1) (.inr (6, [.null, .null]))) (160 + σ.2 1) (eI cy 9 (xsl0 9 (σ.1 0)))) (170 + σ.2 1) (eI cy 9 (fun _ => 0))) (150 + σ.2 1) (.inr (6, [.ref (loc44 (160 + σ.2 1)), .ref (loc44 (170 + σ.2 1))]))) (160 + σ.2 1) = some (eI cy 9 (xsl0 9 (σ.1 0))) := xup_o (xup_o (xup_at _ _ _) (by omega)) (by omega)
          have f63 : (xup (xup (xup (xup w (150 + σ.2 1) (.inr (6, [.null, .null]))) (160 + σ.2 1) (eI cy 9 (xsl0 9 (σ.1 0)))) (170 + σ.2 1) (eI cy 9 (fun _ => 0))) (150 + σ.2 1) (.inr (6, [.ref (loc44 (160 + σ.2 1)), .ref (loc44 (170 + σ.2 1))]))) (170 + σ.2 1) = some (eI cy 9 (fun _ => 0)) := xup_o (xup_at _ _ _) (by omega)
          have f64 : (xup (xup (xup (xup w (150 + σ.2 1) (.inr (6, [.null, .null]))) (160 + σ.2 1) (eI cy 9 (xsl0 9 (σ.1 0)))) (170 + σ.2 1) (eI cy 9 (fun _ => 0))) (150 + σ.2 1) (.inr (6, [.ref (loc44 (160 + σ.2 1)), .ref (loc44 (170 + σ.2 1))]))) (150 + σ.2 1) = some (.inr (6, [.ref (loc44 (160 + σ.2 1)), .ref (loc44 (170 + σ.2 1))])) := xup_at _ _ _
          refine x_aast hx hb hK hV41 hS42 f61 rfl f64 rfl (σ.2 1) (by omega) (by decide) dX7_tree_58 (fun H65 L66 hV67 hS68 => ?_)
          have f69 : (xup (xup (xup (xup (xup w (150 + σ.2 1) (.inr (6, [.null, .null]))) (160 + σ.2 1) (eI cy 9 (xsl0 9 (σ.1 0)))) (170 + σ.2 1) (eI cy 9 (fun _ => 0))) (150 + σ.2 1) (.inr (6, [.ref (loc44 (160 + σ.2 1)), .ref (loc44 (170 + σ.2 1))]))) (3) (eQ cy 6 8 (va_up (xq (fun k => loc (150 + k)) (σ.2 1)) (σ.2 1) (some (loc44 (150 + σ.2 1)))))) (0) = some (.inr (7, [.ref (loc44 (1)), .ref (loc44 (2)), .ref (loc44 (3)), .ref (loc44 (4)), .ref (loc44 (5)), .ref (loc44 (6)), .ref (loc44 (7)), .int (nI (σ.2 0)), .int (nI (σ.2 1)), .int (nI (σ.2 2)), .int (nI (σ.2 3)), .int (nI (σ.2 4)), .int (nI (σ.2 5)), .int (nI (σ.2 6)), .int (σ.1 10 1), .int (σ.1 10 0), .ref (loc44 (8)), .ref (loc44 (11))])) := xup_o (f59) (by omega)
          have f70 : (xup (xup (xup (xup (xup w (150 + σ.2 1) (.inr (6, [.null, .null]))) (160 + σ.2 1) (eI cy 9 (xsl0 9 (σ.1 0)))) (170 + σ.2 1) (eI cy 9 (fun _ => 0))) (150 + σ.2 1) (.inr (6, [.ref (loc44 (160 + σ.2 1)), .ref (loc44 (170 + σ.2 1))]))) (3) (eQ cy 6 8 (va_up (xq (fun k => loc (150 + k)) (σ.2 1)) (σ.2 1) (some (loc44 (150 + σ.2 1)))))) (150 + σ.2 1) = some (.inr (6, [.ref (loc44 (160 + σ.2 1)), .ref (loc44 (170 + σ.2 1))])) := xup_o (f64) (by omega)
          have f71 : (xup (xup (xup (xup (xup w (150 + σ.2 1) (.inr (6, [.null, .null]))) (160 + σ.2 1) (eI cy 9 (xsl0 9 (σ.1 0)))) (170 + σ.2 1) (eI cy 9 (fun _ => 0))) (150 + σ.2 1) (.inr (6, [.ref (loc44 (160 + σ.2 1)), .ref (loc44 (170 + σ.2 1))]))) (3) (eQ cy 6 8 (va_up (xq (fun k => loc (150 + k)) (σ.2 1)) (σ.2 1) (some (loc44 (150 + σ.2 1)))))) (1) = some (eI cy 9 (σ.1 0)) := xup_o (f60) (by omega)
          have f72 : (xup (xup (xup (xup (xup w (150 + σ.2 1) (.inr (6, [.null, .null]))) (160 + σ.2 1) (eI cy 9 (xsl0 9 (σ.1 0)))) (170 + σ.2 1) (eI cy 9 (fun _ => 0))) (150 + σ.2 1) (.inr (6, [.ref (loc44 (160 + σ.2 1)), .ref (loc44 (170 + σ.2 1))]))) (3) (eQ cy 6 8 (va_up (xq (fun k => loc (150 + k)) (σ.2 1)) (σ.2 1) (some (loc44 (150 + σ.2 1)))))) (160 + σ.2 1) = some (eI cy 9 (xsl0 9 (σ.1 0))) := xup_o (f62) (by omega)
          have f73 : (xup (xup (xup (xup (xup w (150 + σ.2 1) (.inr (6, [.null, .null]))) (160 + σ.2 1) (eI cy 9 (xsl0 9 (σ.1 0)))) (170 + σ.2 1) (eI cy 9 (fun _ => 0))) (150 + σ.2 1) (.inr (6, [.ref (loc44 (160 + σ.2 1)), .ref (loc44 (170 + σ.2 1))]))) (3) (eQ cy 6 8 (va_up (xq (fun k => loc (150 + k)) (σ.2 1)) (σ.2 1) (some (loc44 (150 + σ.2 1)))))) (170 + σ.2 1) = some (eI cy 9 (fun _ => 0)) := xup_o (f63) (by omega)
          have f74 : (xup (xup (xup (xup (xup w (150 + σ.2 1) (.inr (6, [.null, .null]))) (160 + σ.2 1) (eI cy 9 (xsl0 9 (σ.1 0)))) (170 + σ.2 1) (eI cy 9 (fun _ => 0))) (150 + σ.2 1) (.inr (6, [.ref (loc44 (160 + σ.2 1)), .ref (loc44 (170 + σ.2 1))]))) (3) (eQ cy 6 8 (va_up (xq (fun k => loc (150 + k)) (σ.2 1)) (σ.2 1) (some (loc44 (150 + σ.2 1)))))) (3) = some (eQ cy 6 8 (va_up (xq (fun k => loc (150 + k)) (σ.2 1)) (σ.2 1) (some (loc44 (150 + σ.2 1))))) := xup_at _ _ _
          refine lv_aload_n hx hb dX7_tree_59 rfl (lv_at hl 1 rfl) ?_
          refine lv_dup hx hb dX7_tree_60 rfl ?_
          refine x_get (C := RX7) (T := TX7) (N := 18) hx hb hts hi_X7_tree_X7 hown hK hV67 f69 rfl 8 (by decide) (hts (.fieldLink RX7 50 "SaddleHouse" "treeCount" "I") (List.mem_of_getElem? (i := 2) rfl)) (fun _ h9 => h9) rfl dX7_tree_61 ?_
          refine lv_iconst (v := nI 1) hx hb dX7_tree_64 (by decide +kernel) ?_
          refine x_iadd hx hb (σ.2 1) (1) dX7_tree_65 ?_
          refine x_putf (C := RX7) (T := TX7) (N := 18) (v := .int (nI ((σ.2 1) + 1))) (ty := .int) hx hb hts hi_X7_tree_X7 tyX7 tyX7_ok nmX7 hown hK hV67 hS68 f69 rfl 8 (by decide) (hts (.fieldLink RX7 50 "SaddleHouse" "treeCount" "I") (List.mem_of_getElem? (i := 2) rfl)) (fun _ h9 => h9) rfl (by decide +kernel) rfl rfl (Nat.le_of_ble_eq_true rfl) dX7_tree_66 (fun H75 L76 hV77 hS78 => ?_)
          have f79 : (xup (xup (xup (xup (xup (xup w (150 + σ.2 1) (.inr (6, [.null, .null]))) (160 + σ.2 1) (eI cy 9 (xsl0 9 (σ.1 0)))) (170 + σ.2 1) (eI cy 9 (fun _ => 0))) (150 + σ.2 1) (.inr (6, [.ref (loc44 (160 + σ.2 1)), .ref (loc44 (170 + σ.2 1))]))) (3) (eQ cy 6 8 (va_up (xq (fun k => loc (150 + k)) (σ.2 1)) (σ.2 1) (some (loc44 (150 + σ.2 1)))))) (0) (.inr (7, [.ref (loc44 (1)), .ref (loc44 (2)), .ref (loc44 (3)), .ref (loc44 (4)), .ref (loc44 (5)), .ref (loc44 (6)), .ref (loc44 (7)), .int (nI (σ.2 0)), .int (nI ((σ.2 1) + 1)), .int (nI (σ.2 2)), .int (nI (σ.2 3)), .int (nI (σ.2 4)), .int (nI (σ.2 5)), .int (nI (σ.2 6)), .int (σ.1 10 1), .int (σ.1 10 0), .ref (loc44 (8)), .ref (loc44 (11))]))) (0) = some (.inr (7, [.ref (loc44 (1)), .ref (loc44 (2)), .ref (loc44 (3)), .ref (loc44 (4)), .ref (loc44 (5)), .ref (loc44 (6)), .ref (loc44 (7)), .int (nI (σ.2 0)), .int (nI ((σ.2 1) + 1)), .int (nI (σ.2 2)), .int (nI (σ.2 3)), .int (nI (σ.2 4)), .int (nI (σ.2 5)), .int (nI (σ.2 6)), .int (σ.1 10 1), .int (σ.1 10 0), .ref (loc44 (8)), .ref (loc44 (11))])) := xup_at _ _ _
          have f80 : (xup (xup (xup (xup (xup (xup w (150 + σ.2 1) (.inr (6, [.null, .null]))) (160 + σ.2 1) (eI cy 9 (xsl0 9 (σ.1 0)))) (170 + σ.2 1) (eI cy 9 (fun _ => 0))) (150 + σ.2 1) (.inr (6, [.ref (loc44 (160 + σ.2 1)), .ref (loc44 (170 + σ.2 1))]))) (3) (eQ cy 6 8 (va_up (xq (fun k => loc (150 + k)) (σ.2 1)) (σ.2 1) (some (loc44 (150 + σ.2 1)))))) (0) (.inr (7, [.ref (loc44 (1)), .ref (loc44 (2)), .ref (loc44 (3)), .ref (loc44 (4)), .ref (loc44 (5)), .ref (loc44 (6)), .ref (loc44 (7)), .int (nI (σ.2 0)), .int (nI ((σ.2 1) + 1)), .int (nI (σ.2 2)), .int (nI (σ.2 3)), .int (nI (σ.2 4)), .int (nI (σ.2 5)), .int (nI (σ.2 6)), .int (σ.1 10 1), .int (σ.1 10 0), .ref (loc44 (8)), .ref (loc44 (11))]))) (150 + σ.2 1) = some (.inr (6, [.ref (loc44 (160 + σ.2 1)), .ref (loc44 (170 + σ.2 1))])) := xup_o (xup_o (f64) (by omega)) (by omega)
          have f81 : (xup (xup (xup (xup (xup (xup w (150 + σ.2 1) (.inr (6, [.null, .null]))) (160 + σ.2 1) (eI cy 9 (xsl0 9 (σ.1 0)))) (170 + σ.2 1) (eI cy 9 (fun _ => 0))) (150 + σ.2 1) (.inr (6, [.ref (loc44 (160 + σ.2 1)), .ref (loc44 (170 + σ.2 1))]))) (3) (eQ cy 6 8 (va_up (xq (fun k => loc (150 + k)) (σ.2 1)) (σ.2 1) (some (loc44 (150 + σ.2 1)))))) (0) (.inr (7, [.ref (loc44 (1)), .ref (loc44 (2)), .ref (loc44 (3)), .ref (loc44 (4)), .ref (loc44 (5)), .ref (loc44 (6)), .ref (loc44 (7)), .int (nI (σ.2 0)), .int (nI ((σ.2 1) + 1)), .int (nI (σ.2 2)), .int (nI (σ.2 3)), .int (nI (σ.2 4)), .int (nI (σ.2 5)), .int (nI (σ.2 6)), .int (σ.1 10 1), .int (σ.1 10 0), .ref (loc44 (8)), .ref (loc44 (11))]))) (1) = some (eI cy 9 (σ.1 0)) := xup_o (xup_o (f60) (by omega)) (by omega)
          have f82 : (xup (xup (xup (xup (xup (xup w (150 + σ.2 1) (.inr (6, [.null, .null]))) (160 + σ.2 1) (eI cy 9 (xsl0 9 (σ.1 0)))) (170 + σ.2 1) (eI cy 9 (fun _ => 0))) (150 + σ.2 1) (.inr (6, [.ref (loc44 (160 + σ.2 1)), .ref (loc44 (170 + σ.2 1))]))) (3) (eQ cy 6 8 (va_up (xq (fun k => loc (150 + k)) (σ.2 1)) (σ.2 1) (some (loc44 (150 + σ.2 1)))))) (0) (.inr (7, [.ref (loc44 (1)), .ref (loc44 (2)), .ref (loc44 (3)), .ref (loc44 (4)), .ref (loc44 (5)), .ref (loc44 (6)), .ref (loc44 (7)), .int (nI (σ.2 0)), .int (nI ((σ.2 1) + 1)), .int (nI (σ.2 2)), .int (nI (σ.2 3)), .int (nI (σ.2 4)), .int (nI (σ.2 5)), .int (nI (σ.2 6)), .int (σ.1 10 1), .int (σ.1 10 0), .ref (loc44 (8)), .ref (loc44 (11))]))) (160 + σ.2 1) = some (eI cy 9 (xsl0 9 (σ.1 0))) := xup_o (xup_o (f62) (by omega)) (by omega)
          have f83 : (xup (xup (xup (xup (xup (xup w (150 + σ.2 1) (.inr (6, [.null, .null]))) (160 + σ.2 1) (eI cy 9 (xsl0 9 (σ.1 0)))) (170 + σ.2 1) (eI cy 9 (fun _ => 0))) (150 + σ.2 1) (.inr (6, [.ref (loc44 (160 + σ.2 1)), .ref (loc44 (170 + σ.2 1))]))) (3) (eQ cy 6 8 (va_up (xq (fun k => loc (150 + k)) (σ.2 1)) (σ.2 1) (some (loc44 (150 + σ.2 1)))))) (0) (.inr (7, [.ref (loc44 (1)), .ref (loc44 (2)), .ref (loc44 (3)), .ref (loc44 (4)), .ref (loc44 (5)), .ref (loc44 (6)), .ref (loc44 (7)), .int (nI (σ.2 0)), .int (nI ((σ.2 1) + 1)), .int (nI (σ.2 2)), .int (nI (σ.2 3)), .int (nI (σ.2 4)), .int (nI (σ.2 5)), .int (nI (σ.2 6)), .int (σ.1 10 1), .int (σ.1 10 0), .ref (loc44 (8)), .ref (loc44 (11))]))) (170 + σ.2 1) = some (eI cy 9 (fun _ => 0)) := xup_o (xup_o (f63) (by omega)) (by omega)
          have f84 : (xup (xup (xup (xup (xup (xup w (150 + σ.2 1) (.inr (6, [.null, .null]))) (160 + σ.2 1) (eI cy 9 (xsl0 9 (σ.1 0)))) (170 + σ.2 1) (eI cy 9 (fun _ => 0))) (150 + σ.2 1) (.inr (6, [.ref (loc44 (160 + σ.2 1)), .ref (loc44 (170 + σ.2 1))]))) (3) (eQ cy 6 8 (va_up (xq (fun k => loc (150 + k)) (σ.2 1)) (σ.2 1) (some (loc44 (150 + σ.2 1)))))) (0) (.inr (7, [.ref (loc44 (1)), .ref (loc44 (2)), .ref (loc44 (3)), .ref (loc44 (4)), .ref (loc44 (5)), .ref (loc44 (6)), .ref (loc44 (7)), .int (nI (σ.2 0)), .int (nI ((σ.2 1) + 1)), .int (nI (σ.2 2)), .int (nI (σ.2 3)), .int (nI (σ.2 4)), .int (nI (σ.2 5)), .int (nI (σ.2 6)), .int (σ.1 10 1), .int (σ.1 10 0), .ref (loc44 (8)), .ref (loc44 (11))]))) (3) = some (eQ cy 6 8 (va_up (xq (fun k => loc (150 + k)) (σ.2 1)) (σ.2 1) (some (loc44 (150 + σ.2 1))))) := xup_o (xup_at _ _ _) (by omega)
          refine lv_aload_n hx hb dX7_tree_69 rfl (lv_at hl 1 rfl) ?_
          refine x_get (C := RX7) (T := TX7) (N := 18) hx hb hts hi_X7_tree_X7 hown hK hV77 f79 rfl 8 (by decide) (hts (.fieldLink RX7 50 "SaddleHouse" "treeCount" "I") (List.mem_of_getElem? (i := 2) rfl)) (fun _ h9 => h9) rfl dX7_tree_70 ?_
          refine lv_iconst (v := nI 1) hx hb dX7_tree_73 (by decide +kernel) ?_
          refine x_isub hx hb ((σ.2 1) + 1) (1) (by omega) dX7_tree_74 ?_
          refine W.widen (k := 3) (n := 20) (by omega) (by omega) ?_
          exact x_rmi hx hb hr hlocks dX7_tree_75 hV77 hS78 (x_lf (by simp only [sp_tree, c11, y2, c12, if_true, if_false, ite_true, ite_false, not_true_eq_false, not_false_eq_true, and_true, true_and, and_false, false_and, or_true, true_or, or_false, false_or, and_self, or_self, Nat.add_sub_cancel, Nat.add_eq_zero_iff, Nat.one_ne_zero, eq_self, Nat.not_lt]) (xOK_tree hRR hNN (by omega) hz (fun b9 n0 n1 n2 => ((hlo47 b9 n1 n2).symm).trans ((hlo19 b9 n0).symm))))
        · have _u := trivial
          refine lv_bipush (v := -104) hx hb dX7_tree_36 (by decide +kernel) ?_
          refine W.widen (k := 3) (n := 20) (by omega) (by omega) ?_
          exact x_rmi hx hb hr hlocks dX7_tree_38 hV hS (x_lf (by simp only [sp_tree, c11, y2, c12, if_true, if_false, ite_true, ite_false, not_true_eq_false, not_false_eq_true, and_true, true_and, and_false, false_and, or_true, true_or, or_false, false_or, and_self, or_self, Nat.add_sub_cancel, Nat.add_eq_zero_iff, Nat.one_ne_zero, eq_self, Nat.not_lt]) (xOK_id hRR))
      · have _u := trivial
        refine lv_aload_n hx hb dX7_tree_8 rfl (lv_at hl 1 rfl) ?_
        refine x_get (C := RX7) (T := TX7) (N := 18) hx hb hts hi_X7_tree_X7 hown hK hV f1 rfl 0 (by decide) (hts (.fieldLink RX7 9 "SaddleHouse" "row" "[I") (List.mem_of_getElem? (i := 1) rfl)) (fun _ h9 => h9) rfl dX7_tree_9 ?_
        refine lv_iload_n hx hb dX7_tree_12 rfl (lv_at hl 0 rfl) ?_
        refine x_iald hx hb hK hV f2 (i) (by omega) (by decide) dX7_tree_13 ?_
        refine lv_iconst (v := -1) hx hb dX7_tree_14 (by decide +kernel) ?_
        refine lv_icmp_ne (tgt := 21) hx hb dX7_tree_15 (by decide) (fun c85 => ?_) (fun c85 => ?_)
        · have _u := trivial
          refine lv_iinc (v := nI (i + 1)) (lv' := [(1, .int (nI (i + 1))), (0, .ref (loc (0)))]) hx hb dX7_tree_21 hl (k := 0) rfl (nI_add _ _) (by decide) rfl (fun ls hl => ?_)
          refine lv_goto (tgt := 2) hx hb dX7_tree_24 (by decide) ?_
          exact ih10 (i + 1) ls (by omega) (by omega) (x_alls h2 c85) (lv_sub hl [0, 1] rfl)
        · have _u := trivial
          have y1 : (xgl σ) = False := eq_false (fun q => q i (by omega) c85)
          refine lv_bipush (v := -102) hx hb dX7_tree_18 (by decide +kernel) ?_
          refine W.widen (k := 3) (n := 20) (by omega) (by omega) ?_
          exact x_rmi hx hb hr hlocks dX7_tree_20 hV hS (x_lf (by simp only [sp_tree, y1, if_true, if_false, ite_true, ite_false, not_true_eq_false, not_false_eq_true, and_true, true_and, and_false, false_and, or_true, true_or, or_false, false_or, and_self, or_self, Nat.add_sub_cancel, Nat.add_eq_zero_iff, Nat.one_ne_zero, eq_self, Nat.not_lt]) (xOK_id hRR))
  exact lp2_7 (9 + 1) 0 ls (by omega) (Nat.zero_le _) (fun k h => absurd h (Nat.not_lt_zero k)) (lv_sub hl [0, 1] rfl)
