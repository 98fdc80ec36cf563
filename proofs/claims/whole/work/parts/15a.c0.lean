abbrev rm_X7_isStation : Room := { frames := 1, cells := 0, slots := 0, locals := 22 }
set_option maxHeartbeats 4000000 in
set_option maxRecDepth 100000 in
theorem c_X7_isStation (l : Launch) (D : va_G) (cy : Nat → ClassId) (loc : Nat → Nat) (w : xM) (sz : Nat) (n : Int32)  : Met l yX7_isStation wsX7_isStation rm_X7_isStation (va_Pc [.int (n)] (xP D cy loc w sz)) (vp_Si (fun r => r = xb (nI 0 ≤ n ∧ n ≤ nI 8))) 0 0 (fun _ => False) := by
  refine x_met (cc := cX7_isStation) (maxL := 1) (ret := (some .boolean)) (C := RX7) (by decide) rfl rfl (Nat.le_of_ble_eq_true rfl) ?_
  intro p e s m below meth c ls hx hb hml hr hts hown hlocks hin hP hl
  obtain ⟨hsz, hV, hK⟩ := hP
  subst hsz
  have hl : lv_has ls 1 [(0, .int (n))] := hl
  refine lv_iload_n hx hb dX7_isStation_0 rfl (lv_at hl 0 rfl) ?_
  refine lv_iconst (v := nI 0) hx hb dX7_isStation_1 (by decide +kernel) ?_
  refine lv_bipush (v := nI 8) hx hb dX7_isStation_2 (by decide +kernel) ?_
  refine x_ci (va_runS (As := [.int (n), .int (nI (0)), .int (nI (8))]) (rest := []) ⟨hx, hb, hml, hown, hts⟩ (c_X7_isWithin l D cy loc w s.heap.size n (nI 0) (nI 8)) (cwS 3 hts gX7_isStation_X7_isWithin rfl rfl rfl (by decide +kernel) ⟨Nat.le_of_ble_eq_true rfl, Nat.le_of_ble_eq_true rfl⟩) (x_preS hK hV) rfl rfl hl.1 rfl (lv_room (Nat.le_of_ble_eq_true rfl)) dX7_isStation_4 ⟨Nat.le_of_ble_eq_true rfl, Nat.le_of_ble_eq_true rfl⟩) (fun r1 hr2 => ?_)
  obtain rfl : r1 = xb (nI 0 ≤ n ∧ n ≤ nI 8) := hr2
  exact x_rz hx hb hr hlocks (xb_nar _) dX7_isStation_7 (rfl)
abbrev rm_X7_isDay : Room := { frames := 1, cells := 0, slots := 0, locals := 22 }
set_option maxHeartbeats 4000000 in
set_option maxRecDepth 100000 in
theorem c_X7_isDay (l : Launch) (D : va_G) (cy : Nat → ClassId) (loc : Nat → Nat) (w : xM) (sz : Nat) (n : Int32)  : Met l yX7_isDay wsX7_isDay rm_X7_isDay (va_Pc [.int (n)] (xP D cy loc w sz)) (vp_Si (fun r => r = xb (nI 0 ≤ n ∧ n ≤ nI 10000))) 0 0 (fun _ => False) := by
  refine x_met (cc := cX7_isDay) (maxL := 1) (ret := (some .boolean)) (C := RX7) (by decide) rfl rfl (Nat.le_of_ble_eq_true rfl) ?_
  intro p e s m below meth c ls hx hb hml hr hts hown hlocks hin hP hl
  obtain ⟨hsz, hV, hK⟩ := hP
  subst hsz
  have hl : lv_has ls 1 [(0, .int (n))] := hl
  refine lv_iload_n hx hb dX7_isDay_0 rfl (lv_at hl 0 rfl) ?_
  refine lv_iconst (v := nI 0) hx hb dX7_isDay_1 (by decide +kernel) ?_
  refine lv_sipush (v := nI 10000) hx hb dX7_isDay_2 (by decide +kernel) ?_
  refine x_ci (va_runS (As := [.int (n), .int (nI (0)), .int (nI (10000))]) (rest := []) ⟨hx, hb, hml, hown, hts⟩ (c_X7_isWithin l D cy loc w s.heap.size n (nI 0) (nI 10000)) (cwS 3 hts gX7_isDay_X7_isWithin rfl rfl rfl (by decide +kernel) ⟨Nat.le_of_ble_eq_true rfl, Nat.le_of_ble_eq_true rfl⟩) (x_preS hK hV) rfl rfl hl.1 rfl (lv_room (Nat.le_of_ble_eq_true rfl)) dX7_isDay_5 ⟨Nat.le_of_ble_eq_true rfl, Nat.le_of_ble_eq_true rfl⟩) (fun r1 hr2 => ?_)
  obtain rfl : r1 = xb (nI 0 ≤ n ∧ n ≤ nI 10000) := hr2
  exact x_rz hx hb hr hlocks (xb_nar _) dX7_isDay_8 (rfl)
abbrev rm_X7_isLoad : Room := { frames := 1, cells := 0, slots := 0, locals := 22 }
set_option maxHeartbeats 4000000 in
set_option maxRecDepth 100000 in
theorem c_X7_isLoad (l : Launch) (D : va_G) (cy : Nat → ClassId) (loc : Nat → Nat) (w : xM) (sz : Nat) (n : Int32)  : Met l yX7_isLoad wsX7_isLoad rm_X7_isLoad (va_Pc [.int (n)] (xP D cy loc w sz)) (vp_Si (fun r => r = xb (nI 1 ≤ n ∧ n ≤ nI 2000))) 0 0 (fun _ => False) := by
  refine x_met (cc := cX7_isLoad) (maxL := 1) (ret := (some .boolean)) (C := RX7) (by decide) rfl rfl (Nat.le_of_ble_eq_true rfl) ?_
  intro p e s m below meth c ls hx hb hml hr hts hown hlocks hin hP hl
  obtain ⟨hsz, hV, hK⟩ := hP
  subst hsz
  have hl : lv_has ls 1 [(0, .int (n))] := hl
  refine lv_iload_n hx hb dX7_isLoad_0 rfl (lv_at hl 0 rfl) ?_
  refine lv_iconst (v := nI 1) hx hb dX7_isLoad_1 (by decide +kernel) ?_
  refine lv_sipush (v := nI 2000) hx hb dX7_isLoad_2 (by decide +kernel) ?_
  refine x_ci (va_runS (As := [.int (n), .int (nI (1)), .int (nI (2000))]) (rest := []) ⟨hx, hb, hml, hown, hts⟩ (c_X7_isWithin l D cy loc w s.heap.size n (nI 1) (nI 2000)) (cwS 3 hts gX7_isLoad_X7_isWithin rfl rfl rfl (by decide +kernel) ⟨Nat.le_of_ble_eq_true rfl, Nat.le_of_ble_eq_true rfl⟩) (x_preS hK hV) rfl rfl hl.1 rfl (lv_room (Nat.le_of_ble_eq_true rfl)) dX7_isLoad_5 ⟨Nat.le_of_ble_eq_true rfl, Nat.le_of_ble_eq_true rfl⟩) (fun r1 hr2 => ?_)
  obtain rfl : r1 = xb (nI 1 ≤ n ∧ n ≤ nI 2000) := hr2
  exact x_rz hx hb hr hlocks (xb_nar _) dX7_isLoad_8 (rfl)
abbrev rm_X7_isPatch : Room := { frames := 1, cells := 0, slots := 0, locals := 22 }
set_option maxHeartbeats 4000000 in
set_option maxRecDepth 100000 in
theorem c_X7_isPatch (l : Launch) (D : va_G) (cy : Nat → ClassId) (loc : Nat → Nat) (w : xM) (sz : Nat) (x y : Int32)  : Met l yX7_isPatch wsX7_isPatch rm_X7_isPatch (va_Pc [.int (x), .int (y)] (xP D cy loc w sz)) (vp_Si (fun r => r = xb ((nI 0 ≤ x ∧ x ≤ nI 15) ∧ nI 0 ≤ y ∧ y ≤ nI 11))) 0 0 (fun _ => False) := by
  refine x_met (cc := cX7_isPatch) (maxL := 2) (ret := (some .boolean)) (C := RX7) (by decide) rfl rfl (Nat.le_of_ble_eq_true rfl) ?_
  intro p e s m below meth c ls hx hb hml hr hts hown hlocks hin hP hl
  obtain ⟨hsz, hV, hK⟩ := hP
  subst hsz
  have hl : lv_has ls 2 [(0, .int (x)), (1, .int (y))] := hl
  refine lv_iload_n hx hb dX7_isPatch_0 rfl (lv_at hl 0 rfl) ?_
  refine lv_iconst (v := nI 0) hx hb dX7_isPatch_1 (by decide +kernel) ?_
  refine lv_bipush (v := nI 15) hx hb dX7_isPatch_2 (by decide +kernel) ?_
  refine x_ci (va_runS (As := [.int (x), .int (nI (0)), .int (nI (15))]) (rest := []) ⟨hx, hb, hml, hown, hts⟩ (c_X7_isWithin l D cy loc w s.heap.size x (nI 0) (nI 15)) (cwS 3 hts gX7_isPatch_X7_isWithin rfl rfl rfl (by decide +kernel) ⟨Nat.le_of_ble_eq_true rfl, Nat.le_of_ble_eq_true rfl⟩) (x_preS hK hV) rfl rfl hl.1 rfl (lv_room (Nat.le_of_ble_eq_true rfl)) dX7_isPatch_4 ⟨Nat.le_of_ble_eq_true rfl, Nat.le_of_ble_eq_true rfl⟩) (fun r1 hr2 => ?_)
  obtain rfl : r1 = xb (nI 0 ≤ x ∧ x ≤ nI 15) := hr2
  refine x_beq (tgt := 24) hx hb dX7_isPatch_7 (by decide) (fun c3 => ?_) (fun c3 => ?_)
  · have _u := trivial
    refine lv_iconst (v := nI 0) hx hb dX7_isPatch_24 (by decide +kernel) ?_
    exact x_rz hx hb hr hlocks rfl dX7_isPatch_25 ((xb_f (fun q => c3 q.1)).symm)
  · have _u := trivial
    refine lv_iload_n hx hb dX7_isPatch_10 rfl (lv_at hl 1 rfl) ?_
    refine lv_iconst (v := nI 0) hx hb dX7_isPatch_11 (by decide +kernel) ?_
    refine lv_bipush (v := nI 11) hx hb dX7_isPatch_12 (by decide +kernel) ?_
    refine x_ci (va_runS (As := [.int (y), .int (nI (0)), .int (nI (11))]) (rest := []) ⟨hx, hb, hml, hown, hts⟩ (c_X7_isWithin l D cy loc w s.heap.size y (nI 0) (nI 11)) (cwS 3 hts gX7_isPatch_X7_isWithin rfl rfl rfl (by decide +kernel) ⟨Nat.le_of_ble_eq_true rfl, Nat.le_of_ble_eq_true rfl⟩) (x_preS hK hV) rfl rfl hl.1 rfl (lv_room (Nat.le_of_ble_eq_true rfl)) dX7_isPatch_14 ⟨Nat.le_of_ble_eq_true rfl, Nat.le_of_ble_eq_true rfl⟩) (fun r4 hr5 => ?_)
    obtain rfl : r4 = xb (nI 0 ≤ y ∧ y ≤ nI 11) := hr5
    refine x_beq (tgt := 24) hx hb dX7_isPatch_17 (by decide) (fun c6 => ?_) (fun c6 => ?_)
    · have _u := trivial
      refine lv_iconst (v := nI 0) hx hb dX7_isPatch_24 (by decide +kernel) ?_
      exact x_rz hx hb hr hlocks rfl dX7_isPatch_25 ((xb_f (fun q => c6 q.2)).symm)
    · have _u := trivial
      refine lv_iconst (v := nI 1) hx hb dX7_isPatch_20 (by decide +kernel) ?_
      refine lv_goto (tgt := 25) hx hb dX7_isPatch_21 (by decide) ?_
      exact x_rz hx hb hr hlocks rfl dX7_isPatch_25 ((xb_t ⟨c3, c6⟩).symm)
abbrev rm_X7_horseAt : Room := { frames := 0, cells := 0, slots := 0, locals := 0 }
theorem hi_X7_horseAt_X7 : ∀ w ∈ wsX70, w ∈ wsX7_horseAt := by decide +kernel
set_option maxHeartbeats 4000000 in
set_option maxRecDepth 100000 in
theorem c_X7_horseAt (l : Launch) (D : va_G) (cy : Nat → ClassId) (loc : Nat → Nat) (w : xM) (sz : Nat) (σ : xS) (hN : xN8 σ) (hR : xR cy loc σ w) (n : Int32)  : Met l yX7_horseAt wsX7_horseAt rm_X7_horseAt (va_Pc [.ref (loc (0)), .int (n)] (xP D cy loc w sz)) (va_Sq (fun r => r = xat (fun k => loc (20 + k)) (σ.2 0) n)) 0 0 (fun _ => False) := by
  refine x_met (cc := cX7_horseAt) (maxL := 2) (ret := (some (.object "SaddleHouse$Horse"))) (C := RX7) (by decide) rfl rfl (Nat.le_of_ble_eq_true rfl) ?_
  intro p e s m below meth c ls hx hb hml hr hts hown hlocks hin hP hl
  obtain ⟨hsz, hV, hK⟩ := hP
  subst hsz
  have hl : lv_has ls 2 [(0, .ref (loc (0))), (1, .int (n))] := hl
  obtain ⟨g0, b0, q0, hw⟩ := hR
  obtain ⟨hN0, hN1, hN2, hN3, hN4, hN5, hN6⟩ := hN
  have f1 : w (0) = some (.inr (7, [.ref (loc (1)), .ref (loc (2)), .ref (loc (3)), .ref (loc (4)), .ref (loc (5)), .ref (loc (6)), .ref (loc (7)), .int (nI (σ.2 0)), .int (nI (σ.2 1)), .int (nI (σ.2 2)), .int (nI (σ.2 3)), .int (nI (σ.2 4)), .int (nI (σ.2 5)), .int (nI (σ.2 6)), .int (σ.1 10 1), .int (σ.1 10 0), .ref (loc (8)), .ref (loc (11))])) := (hw 0 (by decide)).trans rfl
  have f2 : w (2) = some (eQ cy 3 8 (xq (fun k => loc (20 + k)) (σ.2 0))) := (hw 2 (by decide)).trans rfl
  refine lv_iload_n hx hb dX7_horseAt_0 rfl (lv_at hl 1 rfl) ?_
  refine lv_if_lt (tgt := 12) hx hb dX7_horseAt_1 (by decide) (fun c3 => ?_) (fun c3 => ?_)
  · have _u := trivial
    refine lv_null hx hb dX7_horseAt_12 ?_
    refine lv_goto (tgt := 22) hx hb dX7_horseAt_13 (by decide) ?_
    exact x_rq (v := none) hx hb hr hlocks dX7_horseAt_22 (xat_lo c3)
  · have _u := trivial
    refine lv_iload_n hx hb dX7_horseAt_4 rfl (lv_at hl 1 rfl) ?_
    refine lv_aload_n hx hb dX7_horseAt_5 rfl (lv_at hl 0 rfl) ?_
    refine x_get (C := RX7) (T := TX7) (N := 18) hx hb hts hi_X7_horseAt_X7 hown hK hV f1 rfl 7 (by decide) (hts (.fieldLink RX7 46 "SaddleHouse" "horseCount" "I") (by decide +kernel)) (fun _ h9 => h9) rfl dX7_horseAt_6 ?_
    refine lv_icmp_lt (tgt := 16) hx hb dX7_horseAt_9 (by decide) (fun c4 => ?_) (fun c4 => ?_)
    · have _u := trivial
      obtain ⟨j, hj, ej⟩ := x_ix (by omega) c3 c4
      subst ej
      refine lv_aload_n hx hb dX7_horseAt_16 rfl (lv_at hl 0 rfl) ?_
      refine x_get (C := RX7) (T := TX7) (N := 18) hx hb hts hi_X7_horseAt_X7 hown hK hV f1 rfl 1 (by decide) (hts (.fieldLink RX7 15 "SaddleHouse" "horses" "[LSaddleHouse$Horse;") (by decide +kernel)) (fun _ h9 => h9) rfl dX7_horseAt_17 ?_
      refine lv_iload_n hx hb dX7_horseAt_20 rfl (lv_at hl 1 rfl) ?_
      refine x_aald hx hb hK hV f2 rfl (j) (by omega) (by decide) dX7_horseAt_21 ?_
      exact x_rq hx hb hr hlocks dX7_horseAt_22 (by show _ = _; rw [xat_hit (by omega) hj, xq_at hj])
    · have _u := trivial
      refine lv_null hx hb dX7_horseAt_12 ?_
      refine lv_goto (tgt := 22) hx hb dX7_horseAt_13 (by decide) ?_
      exact x_rq (v := none) hx hb hr hlocks dX7_horseAt_22 (xat_hi c4)
abbrev rm_X7_treeAt : Room := { frames := 0, cells := 0, slots := 0, locals := 0 }
theorem hi_X7_treeAt_X7 : ∀ w ∈ wsX70, w ∈ wsX7_treeAt := by decide +kernel
set_option maxHeartbeats 4000000 in
set_option maxRecDepth 100000 in
theorem c_X7_treeAt (l : Launch) (D : va_G) (cy : Nat → ClassId) (loc : Nat → Nat) (w : xM) (sz : Nat) (σ : xS) (hN : xN8 σ) (hR : xR cy loc σ w) (n : Int32)  : Met l yX7_treeAt wsX7_treeAt rm_X7_treeAt (va_Pc [.ref (loc (0)), .int (n)] (xP D cy loc w sz)) (va_Sq (fun r => r = xat (fun k => loc (150 + k)) (σ.2 1) n)) 0 0 (fun _ => False) := by
  refine x_met (cc := cX7_treeAt) (maxL := 2) (ret := (some (.object "SaddleHouse$Tree"))) (C := RX7) (by decide) rfl rfl (Nat.le_of_ble_eq_true rfl) ?_
  intro p e s m below meth c ls hx hb hml hr hts hown hlocks hin hP hl
  obtain ⟨hsz, hV, hK⟩ := hP
  subst hsz
  have hl : lv_has ls 2 [(0, .ref (loc (0))), (1, .int (n))] := hl
  obtain ⟨g0, b0, q0, hw⟩ := hR
  obtain ⟨hN0, hN1, hN2, hN3, hN4, hN5, hN6⟩ := hN
  have f1 : w (0) = some (.inr (7, [.ref (loc (1)), .ref (loc (2)), .ref (loc (3)), .ref (loc (4)), .ref (loc (5)), .ref (loc (6)), .ref (loc (7)), .int (nI (σ.2 0)), .int (nI (σ.2 1)), .int (nI (σ.2 2)), .int (nI (σ.2 3)), .int (nI (σ.2 4)), .int (nI (σ.2 5)), .int (nI (σ.2 6)), .int (σ.1 10 1), .int (σ.1 10 0), .ref (loc (8)), .ref (loc (11))])) := (hw 0 (by decide)).trans rfl
  have f2 : w (3) = some (eQ cy 6 8 (xq (fun k => loc (150 + k)) (σ.2 1))) := (hw 3 (by decide)).trans rfl
  refine lv_iload_n hx hb dX7_treeAt_0 rfl (lv_at hl 1 rfl) ?_
  refine lv_if_lt (tgt := 12) hx hb dX7_treeAt_1 (by decide) (fun c3 => ?_) (fun c3 => ?_)
  · have _u := trivial
    refine lv_null hx hb dX7_treeAt_12 ?_
    refine lv_goto (tgt := 22) hx hb dX7_treeAt_13 (by decide) ?_
    exact x_rq (v := none) hx hb hr hlocks dX7_treeAt_22 (xat_lo c3)
  · have _u := trivial
    refine lv_iload_n hx hb dX7_treeAt_4 rfl (lv_at hl 1 rfl) ?_
    refine lv_aload_n hx hb dX7_treeAt_5 rfl (lv_at hl 0 rfl) ?_
    refine x_get (C := RX7) (T := TX7) (N := 18) hx hb hts hi_X7_treeAt_X7 hown hK hV f1 rfl 8 (by decide) (hts (.fieldLink RX7 50 "SaddleHouse" "treeCount" "I") (by decide +kernel)) (fun _ h9 => h9) rfl dX7_treeAt_6 ?_
    refine lv_icmp_lt (tgt := 16) hx hb dX7_treeAt_9 (by decide) (fun c4 => ?_) (fun c4 => ?_)
    · have _u := trivial
      obtain ⟨j, hj, ej⟩ := x_ix (by omega) c3 c4
      subst ej
      refine lv_aload_n hx hb dX7_treeAt_16 rfl (lv_at hl 0 rfl) ?_
      refine x_get (C := RX7) (T := TX7) (N := 18) hx hb hts hi_X7_treeAt_X7 hown hK hV f1 rfl 2 (by decide) (hts (.fieldLink RX7 21 "SaddleHouse" "trees" "[LSaddleHouse$Tree;") (by decide +kernel)) (fun _ h9 => h9) rfl dX7_treeAt_17 ?_
      refine lv_iload_n hx hb dX7_treeAt_20 rfl (lv_at hl 1 rfl) ?_
      refine x_aald hx hb hK hV f2 rfl (j) (by omega) (by decide) dX7_treeAt_21 ?_
      exact x_rq hx hb hr hlocks dX7_treeAt_22 (by show _ = _; rw [xat_hit (by omega) hj, xq_at hj])
    · have _u := trivial
      refine lv_null hx hb dX7_treeAt_12 ?_
      refine lv_goto (tgt := 22) hx hb dX7_treeAt_13 (by decide) ?_
      exact x_rq (v := none) hx hb hr hlocks dX7_treeAt_22 (xat_hi c4)
abbrev rm_X7_hideAt : Room := { frames := 0, cells := 0, slots := 0, locals := 0 }
theorem hi_X7_hideAt_X7 : ∀ w ∈ wsX70, w ∈ wsX7_hideAt := by decide +kernel
set_option maxHeartbeats 4000000 in
set_option maxRecDepth 100000 in
theorem c_X7_hideAt (l : Launch) (D : va_G) (cy : Nat → ClassId) (loc : Nat → Nat) (w : xM) (sz : Nat) (σ : xS) (hN : xN8 σ) (hR : xR cy loc σ w) (n : Int32)  : Met l yX7_hideAt wsX7_hideAt rm_X7_hideAt (va_Pc [.ref (loc (0)), .int (n)] (xP D cy loc w sz)) (va_Sq (fun r => r = xat (fun k => loc (180 + k)) (σ.2 2) n)) 0 0 (fun _ => False) := by
  refine x_met (cc := cX7_hideAt) (maxL := 2) (ret := (some (.object "SaddleHouse$Hide"))) (C := RX7) (by decide) rfl rfl (Nat.le_of_ble_eq_true rfl) ?_
  intro p e s m below meth c ls hx hb hml hr hts hown hlocks hin hP hl
  obtain ⟨hsz, hV, hK⟩ := hP
  subst hsz
  have hl : lv_has ls 2 [(0, .ref (loc (0))), (1, .int (n))] := hl
  obtain ⟨g0, b0, q0, hw⟩ := hR
  obtain ⟨hN0, hN1, hN2, hN3, hN4, hN5, hN6⟩ := hN
  have f1 : w (0) = some (.inr (7, [.ref (loc (1)), .ref (loc (2)), .ref (loc (3)), .ref (loc (4)), .ref (loc (5)), .ref (loc (6)), .ref (loc (7)), .int (nI (σ.2 0)), .int (nI (σ.2 1)), .int (nI (σ.2 2)), .int (nI (σ.2 3)), .int (nI (σ.2 4)), .int (nI (σ.2 5)), .int (nI (σ.2 6)), .int (σ.1 10 1), .int (σ.1 10 0), .ref (loc (8)), .ref (loc (11))])) := (hw 0 (by decide)).trans rfl
  have f2 : w (4) = some (eQ cy 2 4 (xq (fun k => loc (180 + k)) (σ.2 2))) := (hw 4 (by decide)).trans rfl
  refine lv_iload_n hx hb dX7_hideAt_0 rfl (lv_at hl 1 rfl) ?_
  refine lv_if_lt (tgt := 12) hx hb dX7_hideAt_1 (by decide) (fun c3 => ?_) (fun c3 => ?_)
  · have _u := trivial
    refine lv_null hx hb dX7_hideAt_12 ?_
    refine lv_goto (tgt := 22) hx hb dX7_hideAt_13 (by decide) ?_
    exact x_rq (v := none) hx hb hr hlocks dX7_hideAt_22 (xat_lo c3)
  · have _u := trivial
    refine lv_iload_n hx hb dX7_hideAt_4 rfl (lv_at hl 1 rfl) ?_
    refine lv_aload_n hx hb dX7_hideAt_5 rfl (lv_at hl 0 rfl) ?_
    refine x_get (C := RX7) (T := TX7) (N := 18) hx hb hts hi_X7_hideAt_X7 hown hK hV f1 rfl 9 (by decide) (hts (.fieldLink RX7 53 "SaddleHouse" "hideCount" "I") (by decide +kernel)) (fun _ h9 => h9) rfl dX7_hideAt_6 ?_
    refine lv_icmp_lt (tgt := 16) hx hb dX7_hideAt_9 (by decide) (fun c4 => ?_) (fun c4 => ?_)
    · have _u := trivial
      obtain ⟨j, hj, ej⟩ := x_ix (by omega) c3 c4
      subst ej
      refine lv_aload_n hx hb dX7_hideAt_16 rfl (lv_at hl 0 rfl) ?_
      refine x_get (C := RX7) (T := TX7) (N := 18) hx hb hts hi_X7_hideAt_X7 hown hK hV f1 rfl 3 (by decide) (hts (.fieldLink RX7 27 "SaddleHouse" "hides" "[LSaddleHouse$Hide;") (by decide +kernel)) (fun _ h9 => h9) rfl dX7_hideAt_17 ?_
      refine lv_iload_n hx hb dX7_hideAt_20 rfl (lv_at hl 1 rfl) ?_
      refine x_aald hx hb hK hV f2 rfl (j) (by omega) (by decide) dX7_hideAt_21 ?_
      exact x_rq hx hb hr hlocks dX7_hideAt_22 (by show _ = _; rw [xat_hit (by omega) hj, xq_at hj])
    · have _u := trivial
      refine lv_null hx hb dX7_hideAt_12 ?_
      refine lv_goto (tgt := 22) hx hb dX7_hideAt_13 (by decide) ?_
      exact x_rq (v := none) hx hb hr hlocks dX7_hideAt_22 (xat_hi c4)
abbrev rm_X7_saddleAt : Room := { frames := 0, cells := 0, slots := 0, locals := 0 }
theorem hi_X7_saddleAt_X7 : ∀ w ∈ wsX70, w ∈ wsX7_saddleAt := by decide +kernel
set_option maxHeartbeats 4000000 in
set_option maxRecDepth 100000 in
theorem c_X7_saddleAt (l : Launch) (D : va_G) (cy : Nat → ClassId) (loc : Nat → Nat) (w : xM) (sz : Nat) (σ : xS) (hN : xN8 σ) (hR : xR cy loc σ w) (n : Int32)  : Met l yX7_saddleAt wsX7_saddleAt rm_X7_saddleAt (va_Pc [.ref (loc (0)), .int (n)] (xP D cy loc w sz)) (va_Sq (fun r => r = xat (fun k => loc (210 + k)) (σ.2 4) n)) 0 0 (fun _ => False) := by
  refine x_met (cc := cX7_saddleAt) (maxL := 2) (ret := (some (.object "SaddleHouse$Saddle"))) (C := RX7) (by decide) rfl rfl (Nat.le_of_ble_eq_true rfl) ?_
  intro p e s m below meth c ls hx hb hml hr hts hown hlocks hin hP hl
  obtain ⟨hsz, hV, hK⟩ := hP
  subst hsz
  have hl : lv_has ls 2 [(0, .ref (loc (0))), (1, .int (n))] := hl
  obtain ⟨g0, b0, q0, hw⟩ := hR
  obtain ⟨hN0, hN1, hN2, hN3, hN4, hN5, hN6⟩ := hN
  have f1 : w (0) = some (.inr (7, [.ref (loc (1)), .ref (loc (2)), .ref (loc (3)), .ref (loc (4)), .ref (loc (5)), .ref (loc (6)), .ref (loc (7)), .int (nI (σ.2 0)), .int (nI (σ.2 1)), .int (nI (σ.2 2)), .int (nI (σ.2 3)), .int (nI (σ.2 4)), .int (nI (σ.2 5)), .int (nI (σ.2 6)), .int (σ.1 10 1), .int (σ.1 10 0), .ref (loc (8)), .ref (loc (11))])) := (hw 0 (by decide)).trans rfl
  have f2 : w (6) = some (eQ cy 5 12 (xq (fun k => loc (210 + k)) (σ.2 4))) := (hw 6 (by decide)).trans rfl
  refine lv_iload_n hx hb dX7_saddleAt_0 rfl (lv_at hl 1 rfl) ?_
  refine lv_if_lt (tgt := 12) hx hb dX7_saddleAt_1 (by decide) (fun c3 => ?_) (fun c3 => ?_)
  · have _u := trivial
    refine lv_null hx hb dX7_saddleAt_12 ?_
    refine lv_goto (tgt := 22) hx hb dX7_saddleAt_13 (by decide) ?_
    exact x_rq (v := none) hx hb hr hlocks dX7_saddleAt_22 (xat_lo c3)
  · have _u := trivial
    refine lv_iload_n hx hb dX7_saddleAt_4 rfl (lv_at hl 1 rfl) ?_
    refine lv_aload_n hx hb dX7_saddleAt_5 rfl (lv_at hl 0 rfl) ?_
    refine x_get (C := RX7) (T := TX7) (N := 18) hx hb hts hi_X7_saddleAt_X7 hown hK hV f1 rfl 11 (by decide) (hts (.fieldLink RX7 59 "SaddleHouse" "saddleCount" "I") (by decide +kernel)) (fun _ h9 => h9) rfl dX7_saddleAt_6 ?_
    refine lv_icmp_lt (tgt := 16) hx hb dX7_saddleAt_9 (by decide) (fun c4 => ?_) (fun c4 => ?_)
    · have _u := trivial
      obtain ⟨j, hj, ej⟩ := x_ix (by omega) c3 c4
      subst ej
      refine lv_aload_n hx hb dX7_saddleAt_16 rfl (lv_at hl 0 rfl) ?_
      refine x_get (C := RX7) (T := TX7) (N := 18) hx hb hts hi_X7_saddleAt_X7 hown hK hV f1 rfl 5 (by decide) (hts (.fieldLink RX7 39 "SaddleHouse" "saddles" "[LSaddleHouse$Saddle;") (by decide +kernel)) (fun _ h9 => h9) rfl dX7_saddleAt_17 ?_
      refine lv_iload_n hx hb dX7_saddleAt_20 rfl (lv_at hl 1 rfl) ?_
      refine x_aald hx hb hK hV f2 rfl (j) (by omega) (by decide) dX7_saddleAt_21 ?_
      exact x_rq hx hb hr hlocks dX7_saddleAt_22 (by show _ = _; rw [xat_hit (by omega) hj, xq_at hj])
    · have _u := trivial
      refine lv_null hx hb dX7_saddleAt_12 ?_
      refine lv_goto (tgt := 22) hx hb dX7_saddleAt_13 (by decide) ?_
      exact x_rq (v := none) hx hb hr hlocks dX7_saddleAt_22 (xat_hi c4)
abbrev rm_X7_where : Room := { frames := 0, cells := 0, slots := 0, locals := 0 }
theorem hi_X7_where_X7 : ∀ w ∈ wsX70, w ∈ wsX7_where := by decide +kernel
set_option maxHeartbeats 4000000 in
set_option maxRecDepth 100000 in
theorem c_X7_where (l : Launch) (D : va_G) (cy : Nat → ClassId) (loc : Nat → Nat) (w : xM) (sz : Nat) (σ : xS) (hN : xN8 σ) (hR : xR cy loc σ w)   : Met l yX7_where wsX7_where rm_X7_where (va_Pc [.ref (loc (0))] (xP D cy loc w sz)) (vp_Si (fun r => r = σ.1 10 0)) 0 0 (fun _ => False) := by
  refine x_met (cc := cX7_where) (maxL := 1) (ret := (some .int)) (C := RX7) (by decide) rfl rfl (Nat.le_of_ble_eq_true rfl) ?_
  intro p e s m below meth c ls hx hb hml hr hts hown hlocks hin hP hl
  obtain ⟨hsz, hV, hK⟩ := hP
  subst hsz
  have hl : lv_has ls 1 [(0, .ref (loc (0)))] := hl
  obtain ⟨g0, b0, q0, hw⟩ := hR
  obtain ⟨hN0, hN1, hN2, hN3, hN4, hN5, hN6⟩ := hN
  have f1 : w (0) = some (.inr (7, [.ref (loc (1)), .ref (loc (2)), .ref (loc (3)), .ref (loc (4)), .ref (loc (5)), .ref (loc (6)), .ref (loc (7)), .int (nI (σ.2 0)), .int (nI (σ.2 1)), .int (nI (σ.2 2)), .int (nI (σ.2 3)), .int (nI (σ.2 4)), .int (nI (σ.2 5)), .int (nI (σ.2 6)), .int (σ.1 10 1), .int (σ.1 10 0), .ref (loc (8)), .ref (loc (11))])) := (hw 0 (by decide)).trans rfl
  refine lv_aload_n hx hb dX7_where_0 rfl (lv_at hl 0 rfl) ?_
  refine x_get (C := RX7) (T := TX7) (N := 18) hx hb hts hi_X7_where_X7 hown hK hV f1 rfl 15 (by decide) (hts (.fieldLink RX7 71 "SaddleHouse" "latestBench" "I") (by decide +kernel)) (fun _ h9 => h9) rfl dX7_where_1 ?_
  exact x_ri hx hb hr hlocks dX7_where_4 (rfl)
abbrev rm_X7_count : Room := { frames := 0, cells := 0, slots := 0, locals := 0 }
theorem hi_X7_count_X7 : ∀ w ∈ wsX70, w ∈ wsX7_count := by decide +kernel
set_option maxHeartbeats 4000000 in
set_option maxRecDepth 100000 in
theorem c_X7_count (l : Launch) (D : va_G) (cy : Nat → ClassId) (loc : Nat → Nat) (w : xM) (sz : Nat) (σ : xS) (hN : xN8 σ) (hR : xR cy loc σ w) (n : Int32)  : Met l yX7_count wsX7_count rm_X7_count (va_Pc [.ref (loc (0)), .int (n)] (xP D cy loc w sz)) (vp_Si (fun r => r = sp_count σ n)) 0 0 (fun _ => False) := by
  refine x_met (cc := cX7_count) (maxL := 2) (ret := (some .int)) (C := RX7) (by decide) rfl rfl (Nat.le_of_ble_eq_true rfl) ?_
  intro p e s m below meth c ls hx hb hml hr hts hown hlocks hin hP hl
  obtain ⟨hsz, hV, hK⟩ := hP
  subst hsz
  have hl : lv_has ls 2 [(0, .ref (loc (0))), (1, .int (n))] := hl
  obtain ⟨g0, b0, q0, hw⟩ := hR
  obtain ⟨hN0, hN1, hN2, hN3, hN4, hN5, hN6⟩ := hN
  have f1 : w (0) = some (.inr (7, [.ref (loc (1)), .ref (loc (2)), .ref (loc (3)), .ref (loc (4)), .ref (loc (5)), .ref (loc (6)), .ref (loc (7)), .int (nI (σ.2 0)), .int (nI (σ.2 1)), .int (nI (σ.2 2)), .int (nI (σ.2 3)), .int (nI (σ.2 4)), .int (nI (σ.2 5)), .int (nI (σ.2 6)), .int (σ.1 10 1), .int (σ.1 10 0), .ref (loc (8)), .ref (loc (11))])) := (hw 0 (by decide)).trans rfl
  refine lv_iload_n hx hb dX7_count_0 rfl (lv_at hl 1 rfl) ?_
  have hs2 : n = nI 0 ∨ n = nI 1 ∨ n = nI 2 ∨ n = nI 3 ∨ n = nI 4 ∨ n = nI 5 ∨ n = nI 6 ∨ n = nI 7 ∨ ¬ (nI 0 ≤ n ∧ n ≤ nI 7) := x_c8 n
  rcases hs2 with hs2 | hs2 | hs2 | hs2 | hs2 | hs2 | hs2 | hs2 | hs2
  · refine x_top (congrArg Value.int hs2) ?_
    refine lv_tableIn (tgt := 48) hx hb dX7_count_1 (by decide) (by decide) rfl (by decide) ?_
    subst hs2
    refine lv_aload_n hx hb dX7_count_48 rfl (lv_at hl 0 rfl) ?_
    refine x_get (C := RX7) (T := TX7) (N := 18) hx hb hts hi_X7_count_X7 hown hK hV f1 rfl 7 (by decide) (hts (.fieldLink RX7 46 "SaddleHouse" "horseCount" "I") (by decide +kernel)) (fun _ h9 => h9) rfl dX7_count_49 ?_
    exact x_ri hx hb hr hlocks dX7_count_52 (by show _ = _; rw [sp_count]; rfl)
  · refine x_top (congrArg Value.int hs2) ?_
    refine lv_tableIn (tgt := 53) hx hb dX7_count_1 (by decide) (by decide) rfl (by decide) ?_
    subst hs2
    refine lv_aload_n hx hb dX7_count_53 rfl (lv_at hl 0 rfl) ?_
    refine x_get (C := RX7) (T := TX7) (N := 18) hx hb hts hi_X7_count_X7 hown hK hV f1 rfl 8 (by decide) (hts (.fieldLink RX7 50 "SaddleHouse" "treeCount" "I") (by decide +kernel)) (fun _ h9 => h9) rfl dX7_count_54 ?_
    exact x_ri hx hb hr hlocks dX7_count_57 (by show _ = _; rw [sp_count]; rfl)
  · refine x_top (congrArg Value.int hs2) ?_
    refine lv_tableIn (tgt := 58) hx hb dX7_count_1 (by decide) (by decide) rfl (by decide) ?_
    subst hs2
    refine lv_aload_n hx hb dX7_count_58 rfl (lv_at hl 0 rfl) ?_
    refine x_get (C := RX7) (T := TX7) (N := 18) hx hb hts hi_X7_count_X7 hown hK hV f1 rfl 9 (by decide) (hts (.fieldLink RX7 53 "SaddleHouse" "hideCount" "I") (by decide +kernel)) (fun _ h9 => h9) rfl dX7_count_59 ?_
    exact x_ri hx hb hr hlocks dX7_count_62 (by show _ = _; rw [sp_count]; rfl)
  · refine x_top (congrArg Value.int hs2) ?_
    refine lv_tableIn (tgt := 63) hx hb dX7_count_1 (by decide) (by decide) rfl (by decide) ?_
    subst hs2
    refine lv_aload_n hx hb dX7_count_63 rfl (lv_at hl 0 rfl) ?_
    refine x_get (C := RX7) (T := TX7) (N := 18) hx hb hts hi_X7_count_X7 hown hK hV f1 rfl 10 (by decide) (hts (.fieldLink RX7 56 "SaddleHouse" "benchCount" "I") (by decide +kernel)) (fun _ h9 => h9) rfl dX7_count_64 ?_
    exact x_ri hx hb hr hlocks dX7_count_67 (by show _ = _; rw [sp_count]; rfl)
  · refine x_top (congrArg Value.int hs2) ?_
    refine lv_tableIn (tgt := 68) hx hb dX7_count_1 (by decide) (by decide) rfl (by decide) ?_
    subst hs2
    refine lv_aload_n hx hb dX7_count_68 rfl (lv_at hl 0 rfl) ?_
    refine x_get (C := RX7) (T := TX7) (N := 18) hx hb hts hi_X7_count_X7 hown hK hV f1 rfl 11 (by decide) (hts (.fieldLink RX7 59 "SaddleHouse" "saddleCount" "I") (by decide +kernel)) (fun _ h9 => h9) rfl dX7_count_69 ?_
    exact x_ri hx hb hr hlocks dX7_count_72 (by show _ = _; rw [sp_count]; rfl)
  · refine x_top (congrArg Value.int hs2) ?_
    refine lv_tableIn (tgt := 73) hx hb dX7_count_1 (by decide) (by decide) rfl (by decide) ?_
    subst hs2
    refine lv_aload_n hx hb dX7_count_73 rfl (lv_at hl 0 rfl) ?_
    refine x_get (C := RX7) (T := TX7) (N := 18) hx hb hts hi_X7_count_X7 hown hK hV f1 rfl 12 (by decide) (hts (.fieldLink RX7 62 "SaddleHouse" "dayCount" "I") (by decide +kernel)) (fun _ h9 => h9) rfl dX7_count_74 ?_
    exact x_ri hx hb hr hlocks dX7_count_77 (by show _ = _; rw [sp_count]; rfl)
  · refine x_top (congrArg Value.int hs2) ?_
    refine lv_tableIn (tgt := 78) hx hb dX7_count_1 (by decide) (by decide) rfl (by decide) ?_
    subst hs2
    refine lv_aload_n hx hb dX7_count_78 rfl (lv_at hl 0 rfl) ?_
    refine x_get (C := RX7) (T := TX7) (N := 18) hx hb hts hi_X7_count_X7 hown hK hV f1 rfl 13 (by decide) (hts (.fieldLink RX7 65 "SaddleHouse" "cutCount" "I") (by decide +kernel)) (fun _ h9 => h9) rfl dX7_count_79 ?_
    exact x_ri hx hb hr hlocks dX7_count_82 (by show _ = _; rw [sp_count]; rfl)
  · refine x_top (congrArg Value.int hs2) ?_
    refine lv_tableIn (tgt := 83) hx hb dX7_count_1 (by decide) (by decide) rfl (by decide) ?_
    subst hs2
    refine lv_aload_n hx hb dX7_count_83 rfl (lv_at hl 0 rfl) ?_
    refine x_get (C := RX7) (T := TX7) (N := 18) hx hb hts hi_X7_count_X7 hown hK hV f1 rfl 14 (by decide) (hts (.fieldLink RX7 68 "SaddleHouse" "workHours" "I") (by decide +kernel)) (fun _ h9 => h9) rfl dX7_count_84 ?_
    exact x_ri hx hb hr hlocks dX7_count_87 (by show _ = _; rw [sp_count]; rfl)
  · have _u := trivial
    refine lv_tableOut (tgt := 88) hx hb dX7_count_1 (x_out hs2 (by decide)) (by decide) ?_
    refine lv_bipush (v := -102) hx hb dX7_count_88 (by decide +kernel) ?_
    exact x_ri hx hb hr hlocks dX7_count_90 (by show _ = _; rw [sp_count, if_neg (x_c8n hs2 (by decide)), if_neg (x_c8n hs2 (by decide)), if_neg (x_c8n hs2 (by decide)), if_neg (x_c8n hs2 (by decide)), if_neg (x_c8n hs2 (by decide)), if_neg (x_c8n hs2 (by decide)), if_neg (x_c8n hs2 (by decide)), if_neg (x_c8n hs2 (by decide))])
