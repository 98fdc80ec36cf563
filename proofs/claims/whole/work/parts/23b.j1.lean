abbrev rm_X8_isStation : Room := { frames := 1, cells := 0, slots := 0, locals := 25 }
set_option maxHeartbeats 4000000 in
set_option maxRecDepth 100000 in
theorem c_X8_isStation (l : Launch) (D : va_G) (cy : Nat → ClassId) (loc : Nat → Nat) (w : xM) (sz : Nat) (n : Int32)  : Met l yX8_isStation wsX8_isStation rm_X8_isStation (va_Pc [.int (n)] (xP D cy loc w sz)) (vp_Si (fun r => r = xb (nI 0 ≤ n ∧ n ≤ nI 8))) 0 0 (fun _ => False) := by
  refine x_met (cc := cX8_isStation) (maxL := 1) (ret := (some .boolean)) (C := RX8) (by decide) rfl rfl (Nat.le_of_ble_eq_true rfl) ?_
  intro p e s m below meth c ls hx hb hml hr hts hown hlocks hin hP hl
  obtain ⟨hsz, hV, hK⟩ := hP
  subst hsz
  have hl : lv_has ls 1 [(0, .int (n))] := hl
  refine lv_iload_n hx hb dX8_isStation_0 rfl (lv_at hl 0 rfl) ?_
  refine lv_i2l (v := (n).toInt64) hx hb dX8_isStation_1 rfl ?_
  refine lv_lconst (v := 0) hx hb dX8_isStation_2 (by decide +kernel) ?_
  refine lv_ldc2 (v := 8) hx hb hown (hts (.constantLong RX8 56 (8)) (List.mem_of_getElem? (i := 1) rfl)) dX8_isStation_3 ?_
  refine x_ci (va_runS (As := [.long ((n).toInt64), .long (0), .long (8)]) (rest := []) ⟨hx, hb, hml, hown, hts⟩ (c_X8_in l D cy loc w s.heap.size ((n).toInt64) 0 8) (cwS 3 hts gX8_isStation_X8_in rfl rfl rfl (by decide +kernel) ⟨Nat.le_of_ble_eq_true rfl, Nat.le_of_ble_eq_true rfl⟩) (x_preS hK hV) rfl rfl hl.1 rfl (lv_room (Nat.le_of_ble_eq_true rfl)) dX8_isStation_6 ⟨Nat.le_of_ble_eq_true rfl, Nat.le_of_ble_eq_true rfl⟩) (fun r1 hr2 => ?_)
  have ez3 : xb (nI 0 ≤ n ∧ n ≤ nI 8) = r1 := Eq.symm ((show r1 = xb (0 ≤ ((n).toInt64) ∧ ((n).toInt64) ≤ 8) from hr2).trans (x_in2 rfl rfl))
  subst ez3
  exact x_rz hx hb hr hlocks (xb_nar _) dX8_isStation_9 (rfl)
abbrev rm_X8_isDay : Room := { frames := 1, cells := 0, slots := 0, locals := 25 }
set_option maxHeartbeats 4000000 in
set_option maxRecDepth 100000 in
theorem c_X8_isDay (l : Launch) (D : va_G) (cy : Nat → ClassId) (loc : Nat → Nat) (w : xM) (sz : Nat) (n : Int32)  : Met l yX8_isDay wsX8_isDay rm_X8_isDay (va_Pc [.int (n)] (xP D cy loc w sz)) (vp_Si (fun r => r = xb (nI 0 ≤ n ∧ n ≤ nI 10000))) 0 0 (fun _ => False) := by
  refine x_met (cc := cX8_isDay) (maxL := 1) (ret := (some .boolean)) (C := RX8) (by decide) rfl rfl (Nat.le_of_ble_eq_true rfl) ?_
  intro p e s m below meth c ls hx hb hml hr hts hown hlocks hin hP hl
  obtain ⟨hsz, hV, hK⟩ := hP
  subst hsz
  have hl : lv_has ls 1 [(0, .int (n))] := hl
  refine lv_iload_n hx hb dX8_isDay_0 rfl (lv_at hl 0 rfl) ?_
  refine lv_i2l (v := (n).toInt64) hx hb dX8_isDay_1 rfl ?_
  refine lv_lconst (v := 0) hx hb dX8_isDay_2 (by decide +kernel) ?_
  refine lv_ldc2 (v := 10000) hx hb hown (hts (.constantLong RX8 62 (10000)) (List.mem_of_getElem? (i := 1) rfl)) dX8_isDay_3 ?_
  refine x_ci (va_runS (As := [.long ((n).toInt64), .long (0), .long (10000)]) (rest := []) ⟨hx, hb, hml, hown, hts⟩ (c_X8_in l D cy loc w s.heap.size ((n).toInt64) 0 10000) (cwS 3 hts gX8_isDay_X8_in rfl rfl rfl (by decide +kernel) ⟨Nat.le_of_ble_eq_true rfl, Nat.le_of_ble_eq_true rfl⟩) (x_preS hK hV) rfl rfl hl.1 rfl (lv_room (Nat.le_of_ble_eq_true rfl)) dX8_isDay_6 ⟨Nat.le_of_ble_eq_true rfl, Nat.le_of_ble_eq_true rfl⟩) (fun r1 hr2 => ?_)
  have ez3 : xb (nI 0 ≤ n ∧ n ≤ nI 10000) = r1 := Eq.symm ((show r1 = xb (0 ≤ ((n).toInt64) ∧ ((n).toInt64) ≤ 10000) from hr2).trans (x_in2 rfl rfl))
  subst ez3
  exact x_rz hx hb hr hlocks (xb_nar _) dX8_isDay_9 (rfl)
abbrev rm_X8_isLoad : Room := { frames := 1, cells := 0, slots := 0, locals := 25 }
set_option maxHeartbeats 4000000 in
set_option maxRecDepth 100000 in
theorem c_X8_isLoad (l : Launch) (D : va_G) (cy : Nat → ClassId) (loc : Nat → Nat) (w : xM) (sz : Nat) (n : Int32)  : Met l yX8_isLoad wsX8_isLoad rm_X8_isLoad (va_Pc [.int (n)] (xP D cy loc w sz)) (vp_Si (fun r => r = xb (nI 1 ≤ n ∧ n ≤ nI 2000))) 0 0 (fun _ => False) := by
  refine x_met (cc := cX8_isLoad) (maxL := 1) (ret := (some .boolean)) (C := RX8) (by decide) rfl rfl (Nat.le_of_ble_eq_true rfl) ?_
  intro p e s m below meth c ls hx hb hml hr hts hown hlocks hin hP hl
  obtain ⟨hsz, hV, hK⟩ := hP
  subst hsz
  have hl : lv_has ls 1 [(0, .int (n))] := hl
  refine lv_iload_n hx hb dX8_isLoad_0 rfl (lv_at hl 0 rfl) ?_
  refine lv_i2l (v := (n).toInt64) hx hb dX8_isLoad_1 rfl ?_
  refine lv_lconst (v := 1) hx hb dX8_isLoad_2 (by decide +kernel) ?_
  refine lv_ldc2 (v := 2000) hx hb hown (hts (.constantLong RX8 123 (2000)) (List.mem_of_getElem? (i := 1) rfl)) dX8_isLoad_3 ?_
  refine x_ci (va_runS (As := [.long ((n).toInt64), .long (1), .long (2000)]) (rest := []) ⟨hx, hb, hml, hown, hts⟩ (c_X8_in l D cy loc w s.heap.size ((n).toInt64) 1 2000) (cwS 3 hts gX8_isLoad_X8_in rfl rfl rfl (by decide +kernel) ⟨Nat.le_of_ble_eq_true rfl, Nat.le_of_ble_eq_true rfl⟩) (x_preS hK hV) rfl rfl hl.1 rfl (lv_room (Nat.le_of_ble_eq_true rfl)) dX8_isLoad_6 ⟨Nat.le_of_ble_eq_true rfl, Nat.le_of_ble_eq_true rfl⟩) (fun r1 hr2 => ?_)
  have ez3 : xb (nI 1 ≤ n ∧ n ≤ nI 2000) = r1 := Eq.symm ((show r1 = xb (1 ≤ ((n).toInt64) ∧ ((n).toInt64) ≤ 2000) from hr2).trans (x_in2 rfl rfl))
  subst ez3
  exact x_rz hx hb hr hlocks (xb_nar _) dX8_isLoad_9 (rfl)
abbrev rm_X8_isHorse : Room := { frames := 1, cells := 0, slots := 0, locals := 25 }
theorem hi_X8_isHorse_X8 : ∀ w ∈ wsX80, w ∈ wsX8_isHorse := fun w h => List.mem_cons_of_mem _ (List.mem_append_right _ h)
set_option maxHeartbeats 4000000 in
set_option maxRecDepth 100000 in
theorem c_X8_isHorse (l : Launch) (D : va_G) (cy : Nat → ClassId) (loc : Nat → Nat) (w : xM) (sz : Nat) (σ : xS) (hN : xN8 σ) (hR : yR cy loc σ w) (n : Int32)   : Met l yX8_isHorse wsX8_isHorse rm_X8_isHorse (va_Pc [.ref (loc (300)), .int (n)] (xP D cy loc w sz)) (vp_Si (fun r => r = xb (nI 0 ≤ n ∧ n < nI (σ.2 0)))) 0 0 (fun _ => False) := by
  refine x_met (cc := cX8_isHorse) (maxL := 2) (ret := (some .boolean)) (C := RX8) (by decide) rfl rfl (Nat.le_of_ble_eq_true rfl) ?_
  intro p e s m below meth c ls hx hb hml hr hts hown hlocks hin hP hl
  obtain ⟨hsz, hV, hK⟩ := hP
  subst hsz
  have hl : lv_has ls 2 [(0, .ref (loc (300))), (1, .int (n))] := hl
  have hNN := hN
  have hRR := hR
  obtain ⟨g0, b0, q0, v0, hw⟩ := hR
  obtain ⟨hN0, hN1, hN2, hN3, hN4, hN5, hN6⟩ := hN
  have f1 : w (300) = some (.inr (8, [.ref (loc (301)), .int (nI (σ.2 0)), .ref (loc (302)), .ref (loc (303)), .ref (loc (304)), .int (nI (σ.2 1)), .ref (loc (305)), .ref (loc (306)), .ref (loc (307)), .ref (loc (308)), .int (v0 0), .int (v0 1), .int (v0 2), .int (v0 3), .int (nI (σ.2 5)), .ref (loc (309)), .ref (loc (310)), .int (v0 4), .int (nI (σ.2 2)), .ref (loc (311)), .int (nI (σ.2 3)), .ref (loc (312)), .ref (loc (313)), .int (σ.1 10 0), .int (σ.1 10 1), .int (nI (σ.2 4)), .ref (loc (314))])) := (hw 0 (by decide)).trans rfl
  refine lv_iload_n hx hb dX8_isHorse_0 rfl (lv_at hl 1 rfl) ?_
  refine lv_i2l (v := (n).toInt64) hx hb dX8_isHorse_1 rfl ?_
  refine lv_lconst (v := 0) hx hb dX8_isHorse_2 (by decide +kernel) ?_
  refine lv_aload_n hx hb dX8_isHorse_3 rfl (lv_at hl 0 rfl) ?_
  refine x_get (C := RX8) (T := TX8) (N := 27) hx hb hts hi_X8_isHorse_X8 hown hK hV f1 rfl 1 (by decide) (hts (.fieldLink RX8 64 "SaddleHouseModel" "horses" "I") (List.mem_of_getElem? (i := 1) rfl)) (fun _ h9 => h9) rfl dX8_isHorse_4 ?_
  refine lv_iconst (v := nI 1) hx hb dX8_isHorse_7 (by decide +kernel) ?_
  refine lv_isub hx hb dX8_isHorse_8 ?_
  refine lv_i2l (v := ((nI (σ.2 0)) - (nI 1)).toInt64) hx hb dX8_isHorse_9 rfl ?_
  refine x_ci (va_runS (As := [.long ((n).toInt64), .long (0), .long (((nI (σ.2 0)) - (nI 1)).toInt64)]) (rest := []) ⟨hx, hb, hml, hown, hts⟩ (c_X8_in l D cy loc w s.heap.size ((n).toInt64) 0 (((nI (σ.2 0)) - (nI 1)).toInt64)) (cwS 3 hts gX8_isHorse_X8_in rfl rfl rfl (by decide +kernel) ⟨Nat.le_of_ble_eq_true rfl, Nat.le_of_ble_eq_true rfl⟩) (x_preS hK hV) rfl rfl hl.1 rfl (lv_room (Nat.le_of_ble_eq_true rfl)) dX8_isHorse_10 ⟨Nat.le_of_ble_eq_true rfl, Nat.le_of_ble_eq_true rfl⟩) (fun r2 hr3 => ?_)
  have ez4 : xb (nI 0 ≤ n ∧ n < nI (σ.2 0)) = r2 := Eq.symm ((show r2 = xb (0 ≤ ((n).toInt64) ∧ ((n).toInt64) ≤ (((nI (σ.2 0)) - (nI 1)).toInt64)) from hr3).trans (x_in3 (by omega)))
  subst ez4
  exact x_rz hx hb hr hlocks (xb_nar _) dX8_isHorse_13 (rfl)
abbrev rm_X8_isTree : Room := { frames := 1, cells := 0, slots := 0, locals := 25 }
theorem hi_X8_isTree_X8 : ∀ w ∈ wsX80, w ∈ wsX8_isTree := fun w h => List.mem_cons_of_mem _ (List.mem_append_right _ h)
set_option maxHeartbeats 4000000 in
set_option maxRecDepth 100000 in
theorem c_X8_isTree (l : Launch) (D : va_G) (cy : Nat → ClassId) (loc : Nat → Nat) (w : xM) (sz : Nat) (σ : xS) (hN : xN8 σ) (hR : yR cy loc σ w) (n : Int32)   : Met l yX8_isTree wsX8_isTree rm_X8_isTree (va_Pc [.ref (loc (300)), .int (n)] (xP D cy loc w sz)) (vp_Si (fun r => r = xb (nI 0 ≤ n ∧ n < nI (σ.2 1)))) 0 0 (fun _ => False) := by
  refine x_met (cc := cX8_isTree) (maxL := 2) (ret := (some .boolean)) (C := RX8) (by decide) rfl rfl (Nat.le_of_ble_eq_true rfl) ?_
  intro p e s m below meth c ls hx hb hml hr hts hown hlocks hin hP hl
  obtain ⟨hsz, hV, hK⟩ := hP
  subst hsz
  have hl : lv_has ls 2 [(0, .ref (loc (300))), (1, .int (n))] := hl
  have hNN := hN
  have hRR := hR
  obtain ⟨g0, b0, q0, v0, hw⟩ := hR
  obtain ⟨hN0, hN1, hN2, hN3, hN4, hN5, hN6⟩ := hN
  have f1 : w (300) = some (.inr (8, [.ref (loc (301)), .int (nI (σ.2 0)), .ref (loc (302)), .ref (loc (303)), .ref (loc (304)), .int (nI (σ.2 1)), .ref (loc (305)), .ref (loc (306)), .ref (loc (307)), .ref (loc (308)), .int (v0 0), .int (v0 1), .int (v0 2), .int (v0 3), .int (nI (σ.2 5)), .ref (loc (309)), .ref (loc (310)), .int (v0 4), .int (nI (σ.2 2)), .ref (loc (311)), .int (nI (σ.2 3)), .ref (loc (312)), .ref (loc (313)), .int (σ.1 10 0), .int (σ.1 10 1), .int (nI (σ.2 4)), .ref (loc (314))])) := (hw 0 (by decide)).trans rfl
  refine lv_iload_n hx hb dX8_isTree_0 rfl (lv_at hl 1 rfl) ?_
  refine lv_i2l (v := (n).toInt64) hx hb dX8_isTree_1 rfl ?_
  refine lv_lconst (v := 0) hx hb dX8_isTree_2 (by decide +kernel) ?_
  refine lv_aload_n hx hb dX8_isTree_3 rfl (lv_at hl 0 rfl) ?_
  refine x_get (C := RX8) (T := TX8) (N := 27) hx hb hts hi_X8_isTree_X8 hown hK hV f1 rfl 5 (by decide) (hts (.fieldLink RX8 88 "SaddleHouseModel" "trees" "I") (List.mem_of_getElem? (i := 1) rfl)) (fun _ h9 => h9) rfl dX8_isTree_4 ?_
  refine lv_iconst (v := nI 1) hx hb dX8_isTree_7 (by decide +kernel) ?_
  refine lv_isub hx hb dX8_isTree_8 ?_
  refine lv_i2l (v := ((nI (σ.2 1)) - (nI 1)).toInt64) hx hb dX8_isTree_9 rfl ?_
  refine x_ci (va_runS (As := [.long ((n).toInt64), .long (0), .long (((nI (σ.2 1)) - (nI 1)).toInt64)]) (rest := []) ⟨hx, hb, hml, hown, hts⟩ (c_X8_in l D cy loc w s.heap.size ((n).toInt64) 0 (((nI (σ.2 1)) - (nI 1)).toInt64)) (cwS 3 hts gX8_isTree_X8_in rfl rfl rfl (by decide +kernel) ⟨Nat.le_of_ble_eq_true rfl, Nat.le_of_ble_eq_true rfl⟩) (x_preS hK hV) rfl rfl hl.1 rfl (lv_room (Nat.le_of_ble_eq_true rfl)) dX8_isTree_10 ⟨Nat.le_of_ble_eq_true rfl, Nat.le_of_ble_eq_true rfl⟩) (fun r2 hr3 => ?_)
  have ez4 : xb (nI 0 ≤ n ∧ n < nI (σ.2 1)) = r2 := Eq.symm ((show r2 = xb (0 ≤ ((n).toInt64) ∧ ((n).toInt64) ≤ (((nI (σ.2 1)) - (nI 1)).toInt64)) from hr3).trans (x_in3 (by omega)))
  subst ez4
  exact x_rz hx hb hr hlocks (xb_nar _) dX8_isTree_13 (rfl)
abbrev rm_X8_isHide : Room := { frames := 1, cells := 0, slots := 0, locals := 25 }
theorem hi_X8_isHide_X8 : ∀ w ∈ wsX80, w ∈ wsX8_isHide := fun w h => List.mem_cons_of_mem _ (List.mem_append_right _ h)
set_option maxHeartbeats 4000000 in
set_option maxRecDepth 100000 in
theorem c_X8_isHide (l : Launch) (D : va_G) (cy : Nat → ClassId) (loc : Nat → Nat) (w : xM) (sz : Nat) (σ : xS) (hN : xN8 σ) (hR : yR cy loc σ w) (n : Int32)   : Met l yX8_isHide wsX8_isHide rm_X8_isHide (va_Pc [.ref (loc (300)), .int (n)] (xP D cy loc w sz)) (vp_Si (fun r => r = xb (nI 0 ≤ n ∧ n < nI (σ.2 2)))) 0 0 (fun _ => False) := by
  refine x_met (cc := cX8_isHide) (maxL := 2) (ret := (some .boolean)) (C := RX8) (by decide) rfl rfl (Nat.le_of_ble_eq_true rfl) ?_
  intro p e s m below meth c ls hx hb hml hr hts hown hlocks hin hP hl
  obtain ⟨hsz, hV, hK⟩ := hP
  subst hsz
  have hl : lv_has ls 2 [(0, .ref (loc (300))), (1, .int (n))] := hl
  have hNN := hN
  have hRR := hR
  obtain ⟨g0, b0, q0, v0, hw⟩ := hR
  obtain ⟨hN0, hN1, hN2, hN3, hN4, hN5, hN6⟩ := hN
  have f1 : w (300) = some (.inr (8, [.ref (loc (301)), .int (nI (σ.2 0)), .ref (loc (302)), .ref (loc (303)), .ref (loc (304)), .int (nI (σ.2 1)), .ref (loc (305)), .ref (loc (306)), .ref (loc (307)), .ref (loc (308)), .int (v0 0), .int (v0 1), .int (v0 2), .int (v0 3), .int (nI (σ.2 5)), .ref (loc (309)), .ref (loc (310)), .int (v0 4), .int (nI (σ.2 2)), .ref (loc (311)), .int (nI (σ.2 3)), .ref (loc (312)), .ref (loc (313)), .int (σ.1 10 0), .int (σ.1 10 1), .int (nI (σ.2 4)), .ref (loc (314))])) := (hw 0 (by decide)).trans rfl
  refine lv_iload_n hx hb dX8_isHide_0 rfl (lv_at hl 1 rfl) ?_
  refine lv_i2l (v := (n).toInt64) hx hb dX8_isHide_1 rfl ?_
  refine lv_lconst (v := 0) hx hb dX8_isHide_2 (by decide +kernel) ?_
  refine lv_aload_n hx hb dX8_isHide_3 rfl (lv_at hl 0 rfl) ?_
  refine x_get (C := RX8) (T := TX8) (N := 27) hx hb hts hi_X8_isHide_X8 hown hK hV f1 rfl 18 (by decide) (hts (.fieldLink RX8 151 "SaddleHouseModel" "hides" "I") (List.mem_of_getElem? (i := 1) rfl)) (fun _ h9 => h9) rfl dX8_isHide_4 ?_
  refine lv_iconst (v := nI 1) hx hb dX8_isHide_7 (by decide +kernel) ?_
  refine lv_isub hx hb dX8_isHide_8 ?_
  refine lv_i2l (v := ((nI (σ.2 2)) - (nI 1)).toInt64) hx hb dX8_isHide_9 rfl ?_
  refine x_ci (va_runS (As := [.long ((n).toInt64), .long (0), .long (((nI (σ.2 2)) - (nI 1)).toInt64)]) (rest := []) ⟨hx, hb, hml, hown, hts⟩ (c_X8_in l D cy loc w s.heap.size ((n).toInt64) 0 (((nI (σ.2 2)) - (nI 1)).toInt64)) (cwS 3 hts gX8_isHide_X8_in rfl rfl rfl (by decide +kernel) ⟨Nat.le_of_ble_eq_true rfl, Nat.le_of_ble_eq_true rfl⟩) (x_preS hK hV) rfl rfl hl.1 rfl (lv_room (Nat.le_of_ble_eq_true rfl)) dX8_isHide_10 ⟨Nat.le_of_ble_eq_true rfl, Nat.le_of_ble_eq_true rfl⟩) (fun r2 hr3 => ?_)
  have ez4 : xb (nI 0 ≤ n ∧ n < nI (σ.2 2)) = r2 := Eq.symm ((show r2 = xb (0 ≤ ((n).toInt64) ∧ ((n).toInt64) ≤ (((nI (σ.2 2)) - (nI 1)).toInt64)) from hr3).trans (x_in3 (by omega)))
  subst ez4
  exact x_rz hx hb hr hlocks (xb_nar _) dX8_isHide_13 (rfl)
abbrev rm_X8_isPatch : Room := { frames := 1, cells := 0, slots := 0, locals := 25 }
set_option maxHeartbeats 4000000 in
set_option maxRecDepth 100000 in
theorem c_X8_isPatch (l : Launch) (D : va_G) (cy : Nat → ClassId) (loc : Nat → Nat) (w : xM) (sz : Nat) (x y : Int32)  : Met l yX8_isPatch wsX8_isPatch rm_X8_isPatch (va_Pc [.int (x), .int (y)] (xP D cy loc w sz)) (vp_Si (fun r => r = xb ((nI 0 ≤ x ∧ x ≤ nI 15) ∧ nI 0 ≤ y ∧ y ≤ nI 11))) 0 0 (fun _ => False) := by
  refine x_met (cc := cX8_isPatch) (maxL := 2) (ret := (some .boolean)) (C := RX8) (by decide) rfl rfl (Nat.le_of_ble_eq_true rfl) ?_
  intro p e s m below meth c ls hx hb hml hr hts hown hlocks hin hP hl
  obtain ⟨hsz, hV, hK⟩ := hP
  subst hsz
  have hl : lv_has ls 2 [(0, .int (x)), (1, .int (y))] := hl
  refine lv_iload_n hx hb dX8_isPatch_0 rfl (lv_at hl 0 rfl) ?_
  refine lv_i2l (v := (x).toInt64) hx hb dX8_isPatch_1 rfl ?_
  refine lv_lconst (v := 0) hx hb dX8_isPatch_2 (by decide +kernel) ?_
  refine lv_ldc2 (v := 15) hx hb hown (hts (.constantLong RX8 154 (15)) (List.mem_of_getElem? (i := 1) rfl)) dX8_isPatch_3 ?_
  refine x_ci (va_runS (As := [.long ((x).toInt64), .long (0), .long (15)]) (rest := []) ⟨hx, hb, hml, hown, hts⟩ (c_X8_in l D cy loc w s.heap.size ((x).toInt64) 0 15) (cwS 3 hts gX8_isPatch_X8_in rfl rfl rfl (by decide +kernel) ⟨Nat.le_of_ble_eq_true rfl, Nat.le_of_ble_eq_true rfl⟩) (x_preS hK hV) rfl rfl hl.1 rfl (lv_room (Nat.le_of_ble_eq_true rfl)) dX8_isPatch_6 ⟨Nat.le_of_ble_eq_true rfl, Nat.le_of_ble_eq_true rfl⟩) (fun r1 hr2 => ?_)
  have ez3 : xb (nI 0 ≤ x ∧ x ≤ nI 15) = r1 := Eq.symm ((show r1 = xb (0 ≤ ((x).toInt64) ∧ ((x).toInt64) ≤ 15) from hr2).trans (x_in2 rfl rfl))
  subst ez3
  refine x_beq (tgt := 28) hx hb dX8_isPatch_9 (by decide) (fun c4 => ?_) (fun c4 => ?_)
  · have _u := trivial
    refine lv_iconst (v := nI 0) hx hb dX8_isPatch_28 (by decide +kernel) ?_
    exact x_rz hx hb hr hlocks rfl dX8_isPatch_29 ((xb_f (fun q => c4 q.1)).symm)
  · have _u := trivial
    refine lv_iload_n hx hb dX8_isPatch_12 rfl (lv_at hl 1 rfl) ?_
    refine lv_i2l (v := (y).toInt64) hx hb dX8_isPatch_13 rfl ?_
    refine lv_lconst (v := 0) hx hb dX8_isPatch_14 (by decide +kernel) ?_
    refine lv_ldc2 (v := 11) hx hb hown (hts (.constantLong RX8 156 (11)) (List.mem_of_getElem? (i := 2) rfl)) dX8_isPatch_15 ?_
    refine x_ci (va_runS (As := [.long ((y).toInt64), .long (0), .long (11)]) (rest := []) ⟨hx, hb, hml, hown, hts⟩ (c_X8_in l D cy loc w s.heap.size ((y).toInt64) 0 11) (cwS 3 hts gX8_isPatch_X8_in rfl rfl rfl (by decide +kernel) ⟨Nat.le_of_ble_eq_true rfl, Nat.le_of_ble_eq_true rfl⟩) (x_preS hK hV) rfl rfl hl.1 rfl (lv_room (Nat.le_of_ble_eq_true rfl)) dX8_isPatch_18 ⟨Nat.le_of_ble_eq_true rfl, Nat.le_of_ble_eq_true rfl⟩) (fun r5 hr6 => ?_)
    have ez7 : xb (nI 0 ≤ y ∧ y ≤ nI 11) = r5 := Eq.symm ((show r5 = xb (0 ≤ ((y).toInt64) ∧ ((y).toInt64) ≤ 11) from hr6).trans (x_in2 rfl rfl))
    subst ez7
    refine x_beq (tgt := 28) hx hb dX8_isPatch_21 (by decide) (fun c8 => ?_) (fun c8 => ?_)
    · have _u := trivial
      refine lv_iconst (v := nI 0) hx hb dX8_isPatch_28 (by decide +kernel) ?_
      exact x_rz hx hb hr hlocks rfl dX8_isPatch_29 ((xb_f (fun q => c8 q.2)).symm)
    · have _u := trivial
      refine lv_iconst (v := nI 1) hx hb dX8_isPatch_24 (by decide +kernel) ?_
      refine lv_goto (tgt := 29) hx hb dX8_isPatch_25 (by decide) ?_
      exact x_rz hx hb hr hlocks rfl dX8_isPatch_29 ((xb_t ⟨c4, c8⟩).symm)
