/-! the law, case by case -/
set_option maxHeartbeats 4000000 in
set_option maxRecDepth 100000 in
theorem law_c6 {p : Program} {e : Env} {s : State} {m : MethodId} {below : List Frame} {meth : Method} {c : Code} (l : Launch) {b L : Nat} {xs : Nat → Int32} (hL : L ≤ 3584) (C0 : lw_At p s m meth c b L xs) {D : va_G} {cy : Nat → ClassId} (hK : xK D cy s) {i : Nat} (hi : i + 7 ≤ L) {loc : Nat → Nat} {w : xM} {σ : xS} {H : Heap} {locs : List Loc} (hI : lwI D cy s loc w σ H locs) {cells slots : Nat} (hc : cells + 3 ≤ 600000) (hs : slots + 193 ≤ 7302250) {ls : Array Slot} (hl : lv_has ls 4 [(1, .ref (loc 0)), (2, .ref (loc 300)), (3, .int (nI i)), (0, .ref b)])
    (nxt : ∀ (loc' : Nat → Nat) (w' : xM) (σ' : xS) (H' : Heap) (locs' : List Loc), lwI D cy s loc' w' σ' H' locs' → loc' 0 = loc 0 → loc' 300 = loc 300 → W p l e room_1 s m #[Value.ref b] below meth c H' locs' (cells + 3) (slots + 193) (lw_Z below #[Value.ref b] s) (F0 m 1090 ls [])) : W p l e room_1 s m #[Value.ref b] below meth c H locs cells slots (lw_Z below #[Value.ref b] s) (F0 m 334 ls []) := by
  obtain ⟨hx, hb, hr, hml, hown, hts, hX, hbl, hlocks, hgv⟩ := id C0
  have hA : ∀ q : Nat, s.heap.size ≤ q → (fun q : Nat => s.heap.size ≤ q) q := fun _ h => h
  have hbA : ¬ (fun q : Nat => s.heap.size ≤ q) b := Nat.not_le.mpr hbl
  have hown : s.vm.findClass RL = some m.cls := hown
  have hV := hI.2.2.2.1
  have hS := hI.2.2.2.2
  obtain ⟨fs0, f0⟩ := lw_f0 hI.2.1
  obtain ⟨fs3, f3⟩ := lw_f3 hI.2.2.1
  refine lv_aload_n hx hb dL_law_334 rfl (lv_at hl 0 rfl) ?_
  refine lv_aload_n hx hb dL_law_335 rfl (lv_at hl 3 rfl) ?_
  refine lv_iload_n hx hb dL_law_336 rfl (lv_at hl 2 rfl) ?_
  refine lv_iconst (v := nI 1) hx hb dL_law_337 (by decide +kernel) ?_
  refine x_iadd hx hb (i) (1) dL_law_338 ?_
  refine va_sld (i := nI (i + 1)) hx hb hX hbl hbA hS (vp_in_nI (by omega) (by omega)) dL_law_339 ?_
  refine x_top (congrArg Value.int (show xs (nI (i + 1)).toNatClampNeg = xs (i + 1) from by rw [nI_clamp (by omega)])) ?_
  refine lv_aload_n hx hb dL_law_340 rfl (lv_at hl 3 rfl) ?_
  refine lv_iload_n hx hb dL_law_341 rfl (lv_at hl 2 rfl) ?_
  refine lv_iconst (v := nI 2) hx hb dL_law_342 (by decide +kernel) ?_
  refine x_iadd hx hb (i) (2) dL_law_343 ?_
  refine va_sld (i := nI (i + 2)) hx hb hX hbl hbA hS (vp_in_nI (by omega) (by omega)) dL_law_344 ?_
  refine x_top (congrArg Value.int (show xs (nI (i + 2)).toNatClampNeg = xs (i + 2) from by rw [nI_clamp (by omega)])) ?_
  refine x_ci (va_runV (As := [.int (xs (i + 1)), .int (xs (i + 2))]) (rest := []) ⟨hx, hb, hml, hown, hts⟩ (c_X7_under l D cy loc w H.size σ hI.1.1 hI.2.1 (xs (i + 1)) (xs (i + 2))) (cwV 2 hts gL_law_X7_under rfl rfl rfl (by decide +kernel) ⟨Nat.le_of_ble_eq_true rfl, Nat.le_of_ble_eq_true rfl⟩) (x_preV hK hV f0 rfl) rfl rfl hl.1 rfl (lv_room (Nat.le_of_ble_eq_true rfl)) dL_law_345 ⟨(by show _ ≤ 600000; omega), (by show _ ≤ 7302250; omega)⟩) (fun r hr => ?_)
  have hr : r = sp_under σ (xs (i + 1)) (xs (i + 2)) := hr
  refine lv_aload_n hx hb dL_law_348 rfl (lv_at hl 1 rfl) ?_
  refine lv_aload_n hx hb dL_law_349 rfl (lv_at hl 3 rfl) ?_
  refine lv_iload_n hx hb dL_law_350 rfl (lv_at hl 2 rfl) ?_
  refine lv_iconst (v := nI 1) hx hb dL_law_351 (by decide +kernel) ?_
  refine x_iadd hx hb (i) (1) dL_law_352 ?_
  refine va_sld (i := nI (i + 1)) hx hb hX hbl hbA hS (vp_in_nI (by omega) (by omega)) dL_law_353 ?_
  refine x_top (congrArg Value.int (show xs (nI (i + 1)).toNatClampNeg = xs (i + 1) from by rw [nI_clamp (by omega)])) ?_
  refine lv_aload_n hx hb dL_law_354 rfl (lv_at hl 3 rfl) ?_
  refine lv_iload_n hx hb dL_law_355 rfl (lv_at hl 2 rfl) ?_
  refine lv_iconst (v := nI 2) hx hb dL_law_356 (by decide +kernel) ?_
  refine x_iadd hx hb (i) (2) dL_law_357 ?_
  refine va_sld (i := nI (i + 2)) hx hb hX hbl hbA hS (vp_in_nI (by omega) (by omega)) dL_law_358 ?_
  refine x_top (congrArg Value.int (show xs (nI (i + 2)).toNatClampNeg = xs (i + 2) from by rw [nI_clamp (by omega)])) ?_
  refine x_ci (va_runV (As := [.int (xs (i + 1)), .int (xs (i + 2))]) (rest := [.int r]) ⟨hx, hb, hml, hown, hts⟩ (c_X8_under l D cy loc w H.size σ hI.1.1 hI.2.2.1 (xs (i + 1)) (xs (i + 2))) (cwV 2 hts gL_law_X8_under rfl rfl rfl (by decide +kernel) ⟨Nat.le_of_ble_eq_true rfl, Nat.le_of_ble_eq_true rfl⟩) (x_preV hK hV f3 rfl) rfl rfl hl.1 rfl (lv_room (Nat.le_of_ble_eq_true rfl)) dL_law_359 ⟨(by show _ ≤ 600000; omega), (by show _ ≤ 7302250; omega)⟩) (fun r2 hr2 => ?_)
  have hr2 : r2 = sp_under σ (xs (i + 1)) (xs (i + 2)) := hr2
  refine lv_icmp_eq (tgt := 1090) hx hb dL_law_362 (by decide) (fun _ => ?_) (fun hq => absurd (hr.trans hr2.symm) hq)
  refine W.widen (k := cells + 3) (n := slots + 193) (by omega) (by omega) ?_
  exact nxt loc w σ H locs hI rfl rfl

set_option maxHeartbeats 4000000 in
set_option maxRecDepth 100000 in
theorem law_c7 {p : Program} {e : Env} {s : State} {m : MethodId} {below : List Frame} {meth : Method} {c : Code} (l : Launch) {b L : Nat} {xs : Nat → Int32} (hL : L ≤ 3584) (C0 : lw_At p s m meth c b L xs) {D : va_G} {cy : Nat → ClassId} (hK : xK D cy s) {i : Nat} (hi : i + 7 ≤ L) {loc : Nat → Nat} {w : xM} {σ : xS} {H : Heap} {locs : List Loc} (hI : lwI D cy s loc w σ H locs) {cells slots : Nat} (hc : cells + 3 ≤ 600000) (hs : slots + 193 ≤ 7302250) {ls : Array Slot} (hl : lv_has ls 4 [(1, .ref (loc 0)), (2, .ref (loc 300)), (3, .int (nI i)), (0, .ref b)])
    (nxt : ∀ (loc' : Nat → Nat) (w' : xM) (σ' : xS) (H' : Heap) (locs' : List Loc), lwI D cy s loc' w' σ' H' locs' → loc' 0 = loc 0 → loc' 300 = loc 300 → W p l e room_1 s m #[Value.ref b] below meth c H' locs' (cells + 3) (slots + 193) (lw_Z below #[Value.ref b] s) (F0 m 1090 ls [])) : W p l e room_1 s m #[Value.ref b] below meth c H locs cells slots (lw_Z below #[Value.ref b] s) (F0 m 367 ls []) := by
  obtain ⟨hx, hb, hr, hml, hown, hts, hX, hbl, hlocks, hgv⟩ := id C0
  have hA : ∀ q : Nat, s.heap.size ≤ q → (fun q : Nat => s.heap.size ≤ q) q := fun _ h => h
  have hbA : ¬ (fun q : Nat => s.heap.size ≤ q) b := Nat.not_le.mpr hbl
  have hown : s.vm.findClass RL = some m.cls := hown
  have hV := hI.2.2.2.1
  have hS := hI.2.2.2.2
  obtain ⟨fs0, f0⟩ := lw_f0 hI.2.1
  obtain ⟨fs3, f3⟩ := lw_f3 hI.2.2.1
  refine lv_aload_n hx hb dL_law_367 rfl (lv_at hl 0 rfl) ?_
  refine lv_aload_n hx hb dL_law_368 rfl (lv_at hl 3 rfl) ?_
  refine lv_iload_n hx hb dL_law_369 rfl (lv_at hl 2 rfl) ?_
  refine lv_iconst (v := nI 1) hx hb dL_law_370 (by decide +kernel) ?_
  refine x_iadd hx hb (i) (1) dL_law_371 ?_
  refine va_sld (i := nI (i + 1)) hx hb hX hbl hbA hS (vp_in_nI (by omega) (by omega)) dL_law_372 ?_
  refine x_top (congrArg Value.int (show xs (nI (i + 1)).toNatClampNeg = xs (i + 1) from by rw [nI_clamp (by omega)])) ?_
  refine lv_aload_n hx hb dL_law_373 rfl (lv_at hl 3 rfl) ?_
  refine lv_iload_n hx hb dL_law_374 rfl (lv_at hl 2 rfl) ?_
  refine lv_iconst (v := nI 2) hx hb dL_law_375 (by decide +kernel) ?_
  refine x_iadd hx hb (i) (2) dL_law_376 ?_
  refine va_sld (i := nI (i + 2)) hx hb hX hbl hbA hS (vp_in_nI (by omega) (by omega)) dL_law_377 ?_
  refine x_top (congrArg Value.int (show xs (nI (i + 2)).toNatClampNeg = xs (i + 2) from by rw [nI_clamp (by omega)])) ?_
  refine lv_aload_n hx hb dL_law_378 rfl (lv_at hl 3 rfl) ?_
  refine lv_iload_n hx hb dL_law_379 rfl (lv_at hl 2 rfl) ?_
  refine lv_iconst (v := nI 3) hx hb dL_law_380 (by decide +kernel) ?_
  refine x_iadd hx hb (i) (3) dL_law_381 ?_
  refine va_sld (i := nI (i + 3)) hx hb hX hbl hbA hS (vp_in_nI (by omega) (by omega)) dL_law_382 ?_
  refine x_top (congrArg Value.int (show xs (nI (i + 3)).toNatClampNeg = xs (i + 3) from by rw [nI_clamp (by omega)])) ?_
  refine lv_aload_n hx hb dL_law_383 rfl (lv_at hl 3 rfl) ?_
  refine lv_iload_n hx hb dL_law_384 rfl (lv_at hl 2 rfl) ?_
  refine lv_iconst (v := nI 4) hx hb dL_law_385 (by decide +kernel) ?_
  refine x_iadd hx hb (i) (4) dL_law_386 ?_
  refine va_sld (i := nI (i + 4)) hx hb hX hbl hbA hS (vp_in_nI (by omega) (by omega)) dL_law_387 ?_
  refine x_top (congrArg Value.int (show xs (nI (i + 4)).toNatClampNeg = xs (i + 4) from by rw [nI_clamp (by omega)])) ?_
  refine lv_aload_n hx hb dL_law_388 rfl (lv_at hl 3 rfl) ?_
  refine lv_iload_n hx hb dL_law_389 rfl (lv_at hl 2 rfl) ?_
  refine lv_iconst (v := nI 5) hx hb dL_law_390 (by decide +kernel) ?_
  refine x_iadd hx hb (i) (5) dL_law_391 ?_
  refine va_sld (i := nI (i + 5)) hx hb hX hbl hbA hS (vp_in_nI (by omega) (by omega)) dL_law_392 ?_
  refine x_top (congrArg Value.int (show xs (nI (i + 5)).toNatClampNeg = xs (i + 5) from by rw [nI_clamp (by omega)])) ?_
  refine x_mi (va_runV (As := [.int (xs (i + 1)), .int (xs (i + 2)), .int (xs (i + 3)), .int (xs (i + 4)), .int (xs (i + 5))]) (rest := []) ⟨hx, hb, hml, hown, hts⟩ (c_X7_bears l D cy loc w H.size σ hI.1.1 hI.2.1 hI.1.2.1 (xs (i + 1)) (xs (i + 2)) (xs (i + 3)) (xs (i + 4)) (xs (i + 5))) (cwV 5 hts gL_law_X7_bears rfl rfl rfl (by decide +kernel) ⟨Nat.le_of_ble_eq_true rfl, Nat.le_of_ble_eq_true rfl⟩) (x_preV hK hV f0 rfl) rfl rfl hl.1 rfl (lv_room (Nat.le_of_ble_eq_true rfl)) dL_law_393 ⟨(by show _ ≤ 600000; omega), (by show _ ≤ 7302250; omega)⟩) hV hS hA (fun r loc2 w2 H2 L2 hr hV2 hS2 => ?_)
  obtain ⟨hr, hO⟩ := hr
  have hr : r = sp_bears σ (xs (i + 1)) (xs (i + 2)) (xs (i + 3)) (xs (i + 4)) (xs (i + 5)) := hr
  have hO : xOK cy loc w (σ) (loc2, w2) := hO
  have hY2 : yR cy loc2 σ w2 := lw_y2 hI.2.2.1 hO.2.1
  have f4 : w2 300 = _ := (hO.2.1 300 (by decide)).1.trans f3
  have e4 : loc2 300 = loc 300 := (hO.2.1 300 (by decide)).2
  refine lv_aload_n hx hb dL_law_396 rfl (lv_at hl 1 rfl) ?_
  refine lw_st e4.symm ?_
  refine lv_aload_n hx hb dL_law_397 rfl (lv_at hl 3 rfl) ?_
  refine lv_iload_n hx hb dL_law_398 rfl (lv_at hl 2 rfl) ?_
  refine lv_iconst (v := nI 1) hx hb dL_law_399 (by decide +kernel) ?_
  refine x_iadd hx hb (i) (1) dL_law_400 ?_
  refine va_sld (i := nI (i + 1)) hx hb hX hbl hbA hS2 (vp_in_nI (by omega) (by omega)) dL_law_401 ?_
  refine x_top (congrArg Value.int (show xs (nI (i + 1)).toNatClampNeg = xs (i + 1) from by rw [nI_clamp (by omega)])) ?_
  refine lv_aload_n hx hb dL_law_402 rfl (lv_at hl 3 rfl) ?_
  refine lv_iload_n hx hb dL_law_403 rfl (lv_at hl 2 rfl) ?_
  refine lv_iconst (v := nI 2) hx hb dL_law_404 (by decide +kernel) ?_
  refine x_iadd hx hb (i) (2) dL_law_405 ?_
  refine va_sld (i := nI (i + 2)) hx hb hX hbl hbA hS2 (vp_in_nI (by omega) (by omega)) dL_law_406 ?_
  refine x_top (congrArg Value.int (show xs (nI (i + 2)).toNatClampNeg = xs (i + 2) from by rw [nI_clamp (by omega)])) ?_
  refine lv_aload_n hx hb dL_law_407 rfl (lv_at hl 3 rfl) ?_
  refine lv_iload_n hx hb dL_law_408 rfl (lv_at hl 2 rfl) ?_
  refine lv_iconst (v := nI 3) hx hb dL_law_409 (by decide +kernel) ?_
  refine x_iadd hx hb (i) (3) dL_law_410 ?_
  refine va_sld (i := nI (i + 3)) hx hb hX hbl hbA hS2 (vp_in_nI (by omega) (by omega)) dL_law_411 ?_
  refine x_top (congrArg Value.int (show xs (nI (i + 3)).toNatClampNeg = xs (i + 3) from by rw [nI_clamp (by omega)])) ?_
  refine lv_aload_n hx hb dL_law_412 rfl (lv_at hl 3 rfl) ?_
  refine lv_iload_n hx hb dL_law_413 rfl (lv_at hl 2 rfl) ?_
  refine lv_iconst (v := nI 4) hx hb dL_law_414 (by decide +kernel) ?_
  refine x_iadd hx hb (i) (4) dL_law_415 ?_
  refine va_sld (i := nI (i + 4)) hx hb hX hbl hbA hS2 (vp_in_nI (by omega) (by omega)) dL_law_416 ?_
  refine x_top (congrArg Value.int (show xs (nI (i + 4)).toNatClampNeg = xs (i + 4) from by rw [nI_clamp (by omega)])) ?_
  refine lv_aload_n hx hb dL_law_417 rfl (lv_at hl 3 rfl) ?_
  refine lv_iload_n hx hb dL_law_418 rfl (lv_at hl 2 rfl) ?_
  refine lv_iconst (v := nI 5) hx hb dL_law_419 (by decide +kernel) ?_
  refine x_iadd hx hb (i) (5) dL_law_420 ?_
  refine va_sld (i := nI (i + 5)) hx hb hX hbl hbA hS2 (vp_in_nI (by omega) (by omega)) dL_law_421 ?_
  refine x_top (congrArg Value.int (show xs (nI (i + 5)).toNatClampNeg = xs (i + 5) from by rw [nI_clamp (by omega)])) ?_
  refine x_mi (va_runV (As := [.int (xs (i + 1)), .int (xs (i + 2)), .int (xs (i + 3)), .int (xs (i + 4)), .int (xs (i + 5))]) (rest := [.int r]) ⟨hx, hb, hml, hown, hts⟩ (c_X8_bears l D cy loc2 w2 H2.size σ hI.1.1 hY2 (xs (i + 1)) (xs (i + 2)) (xs (i + 3)) (xs (i + 4)) (xs (i + 5)) hI.1.2.1) (cwV 5 hts gL_law_X8_bears rfl rfl rfl (by decide +kernel) ⟨Nat.le_of_ble_eq_true rfl, Nat.le_of_ble_eq_true rfl⟩) (x_preV hK hV2 f4 rfl) rfl rfl hl.1 rfl (lv_room (Nat.le_of_ble_eq_true rfl)) dL_law_422 ⟨(by show _ ≤ 600000; omega), (by show _ ≤ 7302250; omega)⟩) hV2 hS2 hA (fun r2 loc3 w3 H3 L3 hr2 hV3 hS3 => ?_)
  obtain ⟨hr2, hO2⟩ := hr2
  have hr2 : r2 = sp_bears σ (xs (i + 1)) (xs (i + 2)) (xs (i + 3)) (xs (i + 4)) (xs (i + 5)) := hr2
  have hO2 : yOK cy loc2 w2 (σ) (loc3, w3) := hO2
  refine lv_icmp_eq (tgt := 1090) hx hb dL_law_425 (by decide) (fun _ => ?_) (fun hq => absurd (hr.trans hr2.symm) hq)
  refine W.widen (k := cells + 3) (n := slots + 193) (by omega) (by omega) ?_
  exact nxt loc3 w3 (σ) H3 L3 (lw_two (hI.1) hO hO2 hV3 hS3) (lw_l0 hO hO2) (lw_l3 hO hO2)

set_option maxHeartbeats 4000000 in
set_option maxRecDepth 100000 in
theorem law_c8 {p : Program} {e : Env} {s : State} {m : MethodId} {below : List Frame} {meth : Method} {c : Code} (l : Launch) {b L : Nat} {xs : Nat → Int32} (hL : L ≤ 3584) (C0 : lw_At p s m meth c b L xs) {D : va_G} {cy : Nat → ClassId} (hK : xK D cy s) {i : Nat} (hi : i + 7 ≤ L) {loc : Nat → Nat} {w : xM} {σ : xS} {H : Heap} {locs : List Loc} (hI : lwI D cy s loc w σ H locs) {cells slots : Nat} (hc : cells + 3 ≤ 600000) (hs : slots + 193 ≤ 7302250) {ls : Array Slot} (hl : lv_has ls 4 [(1, .ref (loc 0)), (2, .ref (loc 300)), (3, .int (nI i)), (0, .ref b)])
    (nxt : ∀ (loc' : Nat → Nat) (w' : xM) (σ' : xS) (H' : Heap) (locs' : List Loc), lwI D cy s loc' w' σ' H' locs' → loc' 0 = loc 0 → loc' 300 = loc 300 → W p l e room_1 s m #[Value.ref b] below meth c H' locs' (cells + 3) (slots + 193) (lw_Z below #[Value.ref b] s) (F0 m 1090 ls [])) : W p l e room_1 s m #[Value.ref b] below meth c H locs cells slots (lw_Z below #[Value.ref b] s) (F0 m 430 ls []) := by
  obtain ⟨hx, hb, hr, hml, hown, hts, hX, hbl, hlocks, hgv⟩ := id C0
  have hA : ∀ q : Nat, s.heap.size ≤ q → (fun q : Nat => s.heap.size ≤ q) q := fun _ h => h
  have hbA : ¬ (fun q : Nat => s.heap.size ≤ q) b := Nat.not_le.mpr hbl
  have hown : s.vm.findClass RL = some m.cls := hown
  have hV := hI.2.2.2.1
  have hS := hI.2.2.2.2
  obtain ⟨fs0, f0⟩ := lw_f0 hI.2.1
  obtain ⟨fs3, f3⟩ := lw_f3 hI.2.2.1
  refine lv_aload_n hx hb dL_law_430 rfl (lv_at hl 0 rfl) ?_
  refine lv_aload_n hx hb dL_law_431 rfl (lv_at hl 3 rfl) ?_
  refine lv_iload_n hx hb dL_law_432 rfl (lv_at hl 2 rfl) ?_
  refine lv_iconst (v := nI 1) hx hb dL_law_433 (by decide +kernel) ?_
  refine x_iadd hx hb (i) (1) dL_law_434 ?_
  refine va_sld (i := nI (i + 1)) hx hb hX hbl hbA hS (vp_in_nI (by omega) (by omega)) dL_law_435 ?_
  refine x_top (congrArg Value.int (show xs (nI (i + 1)).toNatClampNeg = xs (i + 1) from by rw [nI_clamp (by omega)])) ?_
  refine lv_aload_n hx hb dL_law_436 rfl (lv_at hl 3 rfl) ?_
  refine lv_iload_n hx hb dL_law_437 rfl (lv_at hl 2 rfl) ?_
  refine lv_iconst (v := nI 2) hx hb dL_law_438 (by decide +kernel) ?_
  refine x_iadd hx hb (i) (2) dL_law_439 ?_
  refine va_sld (i := nI (i + 2)) hx hb hX hbl hbA hS (vp_in_nI (by omega) (by omega)) dL_law_440 ?_
  refine x_top (congrArg Value.int (show xs (nI (i + 2)).toNatClampNeg = xs (i + 2) from by rw [nI_clamp (by omega)])) ?_
  refine lv_aload_n hx hb dL_law_441 rfl (lv_at hl 3 rfl) ?_
  refine lv_iload_n hx hb dL_law_442 rfl (lv_at hl 2 rfl) ?_
  refine lv_iconst (v := nI 3) hx hb dL_law_443 (by decide +kernel) ?_
  refine x_iadd hx hb (i) (3) dL_law_444 ?_
  refine va_sld (i := nI (i + 3)) hx hb hX hbl hbA hS (vp_in_nI (by omega) (by omega)) dL_law_445 ?_
  refine x_top (congrArg Value.int (show xs (nI (i + 3)).toNatClampNeg = xs (i + 3) from by rw [nI_clamp (by omega)])) ?_
  refine lv_aload_n hx hb dL_law_446 rfl (lv_at hl 3 rfl) ?_
  refine lv_iload_n hx hb dL_law_447 rfl (lv_at hl 2 rfl) ?_
  refine lv_iconst (v := nI 4) hx hb dL_law_448 (by decide +kernel) ?_
  refine x_iadd hx hb (i) (4) dL_law_449 ?_
  refine va_sld (i := nI (i + 4)) hx hb hX hbl hbA hS (vp_in_nI (by omega) (by omega)) dL_law_450 ?_
  refine x_top (congrArg Value.int (show xs (nI (i + 4)).toNatClampNeg = xs (i + 4) from by rw [nI_clamp (by omega)])) ?_
  refine lv_aload_n hx hb dL_law_451 rfl (lv_at hl 3 rfl) ?_
  refine lv_iload_n hx hb dL_law_452 rfl (lv_at hl 2 rfl) ?_
  refine lv_iconst (v := nI 5) hx hb dL_law_453 (by decide +kernel) ?_
  refine x_iadd hx hb (i) (5) dL_law_454 ?_
  refine va_sld (i := nI (i + 5)) hx hb hX hbl hbA hS (vp_in_nI (by omega) (by omega)) dL_law_455 ?_
  refine x_top (congrArg Value.int (show xs (nI (i + 5)).toNatClampNeg = xs (i + 5) from by rw [nI_clamp (by omega)])) ?_
  refine lv_aload_n hx hb dL_law_456 rfl (lv_at hl 3 rfl) ?_
  refine lv_iload_n hx hb dL_law_457 rfl (lv_at hl 2 rfl) ?_
  refine lv_bipush (v := nI 6) hx hb dL_law_458 (by decide +kernel) ?_
  refine x_iadd hx hb (i) (6) dL_law_460 ?_
  refine va_sld (i := nI (i + 6)) hx hb hX hbl hbA hS (vp_in_nI (by omega) (by omega)) dL_law_461 ?_
  refine x_top (congrArg Value.int (show xs (nI (i + 6)).toNatClampNeg = xs (i + 6) from by rw [nI_clamp (by omega)])) ?_
  refine x_mi (va_runV (As := [.int (xs (i + 1)), .int (xs (i + 2)), .int (xs (i + 3)), .int (xs (i + 4)), .int (xs (i + 5)), .int (xs (i + 6))]) (rest := []) ⟨hx, hb, hml, hown, hts⟩ (c_X7_fault l D cy loc w H.size σ hI.1.1 hI.2.1 hI.1.2.1 (xs (i + 1)) (xs (i + 2)) (xs (i + 3)) (xs (i + 4)) (xs (i + 5)) (xs (i + 6))) (cwV 6 hts gL_law_X7_fault rfl rfl rfl (by decide +kernel) ⟨Nat.le_of_ble_eq_true rfl, Nat.le_of_ble_eq_true rfl⟩) (x_preV hK hV f0 rfl) rfl rfl hl.1 rfl (lv_room (Nat.le_of_ble_eq_true rfl)) dL_law_462 ⟨(by show _ ≤ 600000; omega), (by show _ ≤ 7302250; omega)⟩) hV hS hA (fun r loc2 w2 H2 L2 hr hV2 hS2 => ?_)
  obtain ⟨hr, hO⟩ := hr
  have hr : r = sp_fault σ (xs (i + 1)) (xs (i + 2)) (xs (i + 3)) (xs (i + 4)) (xs (i + 5)) (xs (i + 6)) := hr
  have hO : xOK cy loc w (σ) (loc2, w2) := hO
  have hY2 : yR cy loc2 σ w2 := lw_y2 hI.2.2.1 hO.2.1
  have f4 : w2 300 = _ := (hO.2.1 300 (by decide)).1.trans f3
  have e4 : loc2 300 = loc 300 := (hO.2.1 300 (by decide)).2
  refine lv_aload_n hx hb dL_law_465 rfl (lv_at hl 1 rfl) ?_
  refine lw_st e4.symm ?_
  refine lv_aload_n hx hb dL_law_466 rfl (lv_at hl 3 rfl) ?_
  refine lv_iload_n hx hb dL_law_467 rfl (lv_at hl 2 rfl) ?_
  refine lv_iconst (v := nI 1) hx hb dL_law_468 (by decide +kernel) ?_
  refine x_iadd hx hb (i) (1) dL_law_469 ?_
  refine va_sld (i := nI (i + 1)) hx hb hX hbl hbA hS2 (vp_in_nI (by omega) (by omega)) dL_law_470 ?_
  refine x_top (congrArg Value.int (show xs (nI (i + 1)).toNatClampNeg = xs (i + 1) from by rw [nI_clamp (by omega)])) ?_
  refine lv_aload_n hx hb dL_law_471 rfl (lv_at hl 3 rfl) ?_
  refine lv_iload_n hx hb dL_law_472 rfl (lv_at hl 2 rfl) ?_
  refine lv_iconst (v := nI 2) hx hb dL_law_473 (by decide +kernel) ?_
  refine x_iadd hx hb (i) (2) dL_law_474 ?_
  refine va_sld (i := nI (i + 2)) hx hb hX hbl hbA hS2 (vp_in_nI (by omega) (by omega)) dL_law_475 ?_
  refine x_top (congrArg Value.int (show xs (nI (i + 2)).toNatClampNeg = xs (i + 2) from by rw [nI_clamp (by omega)])) ?_
  refine lv_aload_n hx hb dL_law_476 rfl (lv_at hl 3 rfl) ?_
  refine lv_iload_n hx hb dL_law_477 rfl (lv_at hl 2 rfl) ?_
  refine lv_iconst (v := nI 3) hx hb dL_law_478 (by decide +kernel) ?_
  refine x_iadd hx hb (i) (3) dL_law_479 ?_
  refine va_sld (i := nI (i + 3)) hx hb hX hbl hbA hS2 (vp_in_nI (by omega) (by omega)) dL_law_480 ?_
  refine x_top (congrArg Value.int (show xs (nI (i + 3)).toNatClampNeg = xs (i + 3) from by rw [nI_clamp (by omega)])) ?_
  refine lv_aload_n hx hb dL_law_481 rfl (lv_at hl 3 rfl) ?_
  refine lv_iload_n hx hb dL_law_482 rfl (lv_at hl 2 rfl) ?_
  refine lv_iconst (v := nI 4) hx hb dL_law_483 (by decide +kernel) ?_
  refine x_iadd hx hb (i) (4) dL_law_484 ?_
  refine va_sld (i := nI (i + 4)) hx hb hX hbl hbA hS2 (vp_in_nI (by omega) (by omega)) dL_law_485 ?_
  refine x_top (congrArg Value.int (show xs (nI (i + 4)).toNatClampNeg = xs (i + 4) from by rw [nI_clamp (by omega)])) ?_
  refine lv_aload_n hx hb dL_law_486 rfl (lv_at hl 3 rfl) ?_
  refine lv_iload_n hx hb dL_law_487 rfl (lv_at hl 2 rfl) ?_
  refine lv_iconst (v := nI 5) hx hb dL_law_488 (by decide +kernel) ?_
  refine x_iadd hx hb (i) (5) dL_law_489 ?_
  refine va_sld (i := nI (i + 5)) hx hb hX hbl hbA hS2 (vp_in_nI (by omega) (by omega)) dL_law_490 ?_
  refine x_top (congrArg Value.int (show xs (nI (i + 5)).toNatClampNeg = xs (i + 5) from by rw [nI_clamp (by omega)])) ?_
  refine lv_aload_n hx hb dL_law_491 rfl (lv_at hl 3 rfl) ?_
  refine lv_iload_n hx hb dL_law_492 rfl (lv_at hl 2 rfl) ?_
  refine lv_bipush (v := nI 6) hx hb dL_law_493 (by decide +kernel) ?_
  refine x_iadd hx hb (i) (6) dL_law_495 ?_
  refine va_sld (i := nI (i + 6)) hx hb hX hbl hbA hS2 (vp_in_nI (by omega) (by omega)) dL_law_496 ?_
  refine x_top (congrArg Value.int (show xs (nI (i + 6)).toNatClampNeg = xs (i + 6) from by rw [nI_clamp (by omega)])) ?_
  refine x_mi (va_runV (As := [.int (xs (i + 1)), .int (xs (i + 2)), .int (xs (i + 3)), .int (xs (i + 4)), .int (xs (i + 5)), .int (xs (i + 6))]) (rest := [.int r]) ⟨hx, hb, hml, hown, hts⟩ (c_X8_fault l D cy loc2 w2 H2.size σ hI.1.1 hY2 (xs (i + 1)) (xs (i + 2)) (xs (i + 3)) (xs (i + 4)) (xs (i + 5)) (xs (i + 6)) hI.1.2.1) (cwV 6 hts gL_law_X8_fault rfl rfl rfl (by decide +kernel) ⟨Nat.le_of_ble_eq_true rfl, Nat.le_of_ble_eq_true rfl⟩) (x_preV hK hV2 f4 rfl) rfl rfl hl.1 rfl (lv_room (Nat.le_of_ble_eq_true rfl)) dL_law_497 ⟨(by show _ ≤ 600000; omega), (by show _ ≤ 7302250; omega)⟩) hV2 hS2 hA (fun r2 loc3 w3 H3 L3 hr2 hV3 hS3 => ?_)
  obtain ⟨hr2, hO2⟩ := hr2
  have hr2 : r2 = sp_fault σ (xs (i + 1)) (xs (i + 2)) (xs (i + 3)) (xs (i + 4)) (xs (i + 5)) (xs (i + 6)) := hr2
  have hO2 : yOK cy loc2 w2 (σ) (loc3, w3) := hO2
  refine lv_icmp_eq (tgt := 1090) hx hb dL_law_500 (by decide) (fun _ => ?_) (fun hq => absurd (hr.trans hr2.symm) hq)
  refine W.widen (k := cells + 3) (n := slots + 193) (by omega) (by omega) ?_
  exact nxt loc3 w3 (σ) H3 L3 (lw_two (hI.1) hO hO2 hV3 hS3) (lw_l0 hO hO2) (lw_l3 hO hO2)

set_option maxHeartbeats 4000000 in
set_option maxRecDepth 100000 in
theorem law_c9 {p : Program} {e : Env} {s : State} {m : MethodId} {below : List Frame} {meth : Method} {c : Code} (l : Launch) {b L : Nat} {xs : Nat → Int32} (hL : L ≤ 3584) (C0 : lw_At p s m meth c b L xs) {D : va_G} {cy : Nat → ClassId} (hK : xK D cy s) {i : Nat} (hi : i + 7 ≤ L) {loc : Nat → Nat} {w : xM} {σ : xS} {H : Heap} {locs : List Loc} (hI : lwI D cy s loc w σ H locs) {cells slots : Nat} (hc : cells + 3 ≤ 600000) (hs : slots + 193 ≤ 7302250) {ls : Array Slot} (hl : lv_has ls 4 [(1, .ref (loc 0)), (2, .ref (loc 300)), (3, .int (nI i)), (0, .ref b)])
    (nxt : ∀ (loc' : Nat → Nat) (w' : xM) (σ' : xS) (H' : Heap) (locs' : List Loc), lwI D cy s loc' w' σ' H' locs' → loc' 0 = loc 0 → loc' 300 = loc 300 → W p l e room_1 s m #[Value.ref b] below meth c H' locs' (cells + 3) (slots + 193) (lw_Z below #[Value.ref b] s) (F0 m 1090 ls [])) : W p l e room_1 s m #[Value.ref b] below meth c H locs cells slots (lw_Z below #[Value.ref b] s) (F0 m 505 ls []) := by
  obtain ⟨hx, hb, hr, hml, hown, hts, hX, hbl, hlocks, hgv⟩ := id C0
  have hA : ∀ q : Nat, s.heap.size ≤ q → (fun q : Nat => s.heap.size ≤ q) q := fun _ h => h
  have hbA : ¬ (fun q : Nat => s.heap.size ≤ q) b := Nat.not_le.mpr hbl
  have hown : s.vm.findClass RL = some m.cls := hown
  have hV := hI.2.2.2.1
  have hS := hI.2.2.2.2
  obtain ⟨fs0, f0⟩ := lw_f0 hI.2.1
  obtain ⟨fs3, f3⟩ := lw_f3 hI.2.2.1
  refine lv_aload_n hx hb dL_law_505 rfl (lv_at hl 0 rfl) ?_
  refine lv_aload_n hx hb dL_law_506 rfl (lv_at hl 3 rfl) ?_
  refine lv_iload_n hx hb dL_law_507 rfl (lv_at hl 2 rfl) ?_
  refine lv_iconst (v := nI 1) hx hb dL_law_508 (by decide +kernel) ?_
  refine x_iadd hx hb (i) (1) dL_law_509 ?_
  refine va_sld (i := nI (i + 1)) hx hb hX hbl hbA hS (vp_in_nI (by omega) (by omega)) dL_law_510 ?_
  refine x_top (congrArg Value.int (show xs (nI (i + 1)).toNatClampNeg = xs (i + 1) from by rw [nI_clamp (by omega)])) ?_
  refine lv_aload_n hx hb dL_law_511 rfl (lv_at hl 3 rfl) ?_
  refine lv_iload_n hx hb dL_law_512 rfl (lv_at hl 2 rfl) ?_
  refine lv_iconst (v := nI 2) hx hb dL_law_513 (by decide +kernel) ?_
  refine x_iadd hx hb (i) (2) dL_law_514 ?_
  refine va_sld (i := nI (i + 2)) hx hb hX hbl hbA hS (vp_in_nI (by omega) (by omega)) dL_law_515 ?_
  refine x_top (congrArg Value.int (show xs (nI (i + 2)).toNatClampNeg = xs (i + 2) from by rw [nI_clamp (by omega)])) ?_
  refine lv_aload_n hx hb dL_law_516 rfl (lv_at hl 3 rfl) ?_
  refine lv_iload_n hx hb dL_law_517 rfl (lv_at hl 2 rfl) ?_
  refine lv_iconst (v := nI 3) hx hb dL_law_518 (by decide +kernel) ?_
  refine x_iadd hx hb (i) (3) dL_law_519 ?_
  refine va_sld (i := nI (i + 3)) hx hb hX hbl hbA hS (vp_in_nI (by omega) (by omega)) dL_law_520 ?_
  refine x_top (congrArg Value.int (show xs (nI (i + 3)).toNatClampNeg = xs (i + 3) from by rw [nI_clamp (by omega)])) ?_
  refine lv_aload_n hx hb dL_law_521 rfl (lv_at hl 3 rfl) ?_
  refine lv_iload_n hx hb dL_law_522 rfl (lv_at hl 2 rfl) ?_
  refine lv_iconst (v := nI 4) hx hb dL_law_523 (by decide +kernel) ?_
  refine x_iadd hx hb (i) (4) dL_law_524 ?_
  refine va_sld (i := nI (i + 4)) hx hb hX hbl hbA hS (vp_in_nI (by omega) (by omega)) dL_law_525 ?_
  refine x_top (congrArg Value.int (show xs (nI (i + 4)).toNatClampNeg = xs (i + 4) from by rw [nI_clamp (by omega)])) ?_
  refine x_mi (va_runV (As := [.int (xs (i + 1)), .int (xs (i + 2)), .int (xs (i + 3)), .int (xs (i + 4))]) (rest := []) ⟨hx, hb, hml, hown, hts⟩ (c_X7_best l D cy loc w H.size σ hI.1.1 hI.2.1 hI.1.2.1 (xs (i + 1)) (xs (i + 2)) (xs (i + 3)) (xs (i + 4))) (cwV 4 hts gL_law_X7_best rfl rfl rfl (by decide +kernel) ⟨Nat.le_of_ble_eq_true rfl, Nat.le_of_ble_eq_true rfl⟩) (x_preV hK hV f0 rfl) rfl rfl hl.1 rfl (lv_room (Nat.le_of_ble_eq_true rfl)) dL_law_526 ⟨(by show _ ≤ 600000; omega), (by show _ ≤ 7302250; omega)⟩) hV hS hA (fun r loc2 w2 H2 L2 hr hV2 hS2 => ?_)
  obtain ⟨hr, hO⟩ := hr
  have hr : r = sp_best σ (xs (i + 1)) (xs (i + 2)) (xs (i + 3)) (xs (i + 4)) := hr
  have hO : xOK cy loc w (σ) (loc2, w2) := hO
  have hY2 : yR cy loc2 σ w2 := lw_y2 hI.2.2.1 hO.2.1
  have f4 : w2 300 = _ := (hO.2.1 300 (by decide)).1.trans f3
  have e4 : loc2 300 = loc 300 := (hO.2.1 300 (by decide)).2
  refine lv_aload_n hx hb dL_law_529 rfl (lv_at hl 1 rfl) ?_
  refine lw_st e4.symm ?_
  refine lv_aload_n hx hb dL_law_530 rfl (lv_at hl 3 rfl) ?_
  refine lv_iload_n hx hb dL_law_531 rfl (lv_at hl 2 rfl) ?_
  refine lv_iconst (v := nI 1) hx hb dL_law_532 (by decide +kernel) ?_
  refine x_iadd hx hb (i) (1) dL_law_533 ?_
  refine va_sld (i := nI (i + 1)) hx hb hX hbl hbA hS2 (vp_in_nI (by omega) (by omega)) dL_law_534 ?_
  refine x_top (congrArg Value.int (show xs (nI (i + 1)).toNatClampNeg = xs (i + 1) from by rw [nI_clamp (by omega)])) ?_
  refine lv_aload_n hx hb dL_law_535 rfl (lv_at hl 3 rfl) ?_
  refine lv_iload_n hx hb dL_law_536 rfl (lv_at hl 2 rfl) ?_
  refine lv_iconst (v := nI 2) hx hb dL_law_537 (by decide +kernel) ?_
  refine x_iadd hx hb (i) (2) dL_law_538 ?_
  refine va_sld (i := nI (i + 2)) hx hb hX hbl hbA hS2 (vp_in_nI (by omega) (by omega)) dL_law_539 ?_
  refine x_top (congrArg Value.int (show xs (nI (i + 2)).toNatClampNeg = xs (i + 2) from by rw [nI_clamp (by omega)])) ?_
  refine lv_aload_n hx hb dL_law_540 rfl (lv_at hl 3 rfl) ?_
  refine lv_iload_n hx hb dL_law_541 rfl (lv_at hl 2 rfl) ?_
  refine lv_iconst (v := nI 3) hx hb dL_law_542 (by decide +kernel) ?_
  refine x_iadd hx hb (i) (3) dL_law_543 ?_
  refine va_sld (i := nI (i + 3)) hx hb hX hbl hbA hS2 (vp_in_nI (by omega) (by omega)) dL_law_544 ?_
  refine x_top (congrArg Value.int (show xs (nI (i + 3)).toNatClampNeg = xs (i + 3) from by rw [nI_clamp (by omega)])) ?_
  refine lv_aload_n hx hb dL_law_545 rfl (lv_at hl 3 rfl) ?_
  refine lv_iload_n hx hb dL_law_546 rfl (lv_at hl 2 rfl) ?_
  refine lv_iconst (v := nI 4) hx hb dL_law_547 (by decide +kernel) ?_
  refine x_iadd hx hb (i) (4) dL_law_548 ?_
  refine va_sld (i := nI (i + 4)) hx hb hX hbl hbA hS2 (vp_in_nI (by omega) (by omega)) dL_law_549 ?_
  refine x_top (congrArg Value.int (show xs (nI (i + 4)).toNatClampNeg = xs (i + 4) from by rw [nI_clamp (by omega)])) ?_
  refine x_mi (va_runV (As := [.int (xs (i + 1)), .int (xs (i + 2)), .int (xs (i + 3)), .int (xs (i + 4))]) (rest := [.int r]) ⟨hx, hb, hml, hown, hts⟩ (c_X8_best l D cy loc2 w2 H2.size σ hI.1.1 hY2 (xs (i + 1)) (xs (i + 2)) (xs (i + 3)) (xs (i + 4)) hI.1.2.1) (cwV 4 hts gL_law_X8_best rfl rfl rfl (by decide +kernel) ⟨Nat.le_of_ble_eq_true rfl, Nat.le_of_ble_eq_true rfl⟩) (x_preV hK hV2 f4 rfl) rfl rfl hl.1 rfl (lv_room (Nat.le_of_ble_eq_true rfl)) dL_law_550 ⟨(by show _ ≤ 600000; omega), (by show _ ≤ 7302250; omega)⟩) hV2 hS2 hA (fun r2 loc3 w3 H3 L3 hr2 hV3 hS3 => ?_)
  obtain ⟨hr2, hO2⟩ := hr2
  have hr2 : r2 = sp_best σ (xs (i + 1)) (xs (i + 2)) (xs (i + 3)) (xs (i + 4)) := hr2
  have hO2 : yOK cy loc2 w2 (σ) (loc3, w3) := hO2
  refine lv_icmp_eq (tgt := 1090) hx hb dL_law_553 (by decide) (fun _ => ?_) (fun hq => absurd (hr.trans hr2.symm) hq)
  refine W.widen (k := cells + 3) (n := slots + 193) (by omega) (by omega) ?_
  exact nxt loc3 w3 (σ) H3 L3 (lw_two (hI.1) hO hO2 hV3 hS3) (lw_l0 hO hO2) (lw_l3 hO hO2)

set_option maxHeartbeats 4000000 in
set_option maxRecDepth 100000 in
theorem law_c10 {p : Program} {e : Env} {s : State} {m : MethodId} {below : List Frame} {meth : Method} {c : Code} (l : Launch) {b L : Nat} {xs : Nat → Int32} (hL : L ≤ 3584) (C0 : lw_At p s m meth c b L xs) {D : va_G} {cy : Nat → ClassId} (hK : xK D cy s) {i : Nat} (hi : i + 7 ≤ L) {loc : Nat → Nat} {w : xM} {σ : xS} {H : Heap} {locs : List Loc} (hI : lwI D cy s loc w σ H locs) {cells slots : Nat} (hc : cells + 3 ≤ 600000) (hs : slots + 193 ≤ 7302250) {ls : Array Slot} (hl : lv_has ls 4 [(1, .ref (loc 0)), (2, .ref (loc 300)), (3, .int (nI i)), (0, .ref b)])
    (nxt : ∀ (loc' : Nat → Nat) (w' : xM) (σ' : xS) (H' : Heap) (locs' : List Loc), lwI D cy s loc' w' σ' H' locs' → loc' 0 = loc 0 → loc' 300 = loc 300 → W p l e room_1 s m #[Value.ref b] below meth c H' locs' (cells + 3) (slots + 193) (lw_Z below #[Value.ref b] s) (F0 m 1090 ls [])) : W p l e room_1 s m #[Value.ref b] below meth c H locs cells slots (lw_Z below #[Value.ref b] s) (F0 m 558 ls []) := by
  obtain ⟨hx, hb, hr, hml, hown, hts, hX, hbl, hlocks, hgv⟩ := id C0
  have hA : ∀ q : Nat, s.heap.size ≤ q → (fun q : Nat => s.heap.size ≤ q) q := fun _ h => h
  have hbA : ¬ (fun q : Nat => s.heap.size ≤ q) b := Nat.not_le.mpr hbl
  have hown : s.vm.findClass RL = some m.cls := hown
  have hV := hI.2.2.2.1
  have hS := hI.2.2.2.2
  obtain ⟨fs0, f0⟩ := lw_f0 hI.2.1
  obtain ⟨fs3, f3⟩ := lw_f3 hI.2.2.1
  refine lv_aload_n hx hb dL_law_558 rfl (lv_at hl 0 rfl) ?_
  refine lv_aload_n hx hb dL_law_559 rfl (lv_at hl 3 rfl) ?_
  refine lv_iload_n hx hb dL_law_560 rfl (lv_at hl 2 rfl) ?_
  refine lv_iconst (v := nI 1) hx hb dL_law_561 (by decide +kernel) ?_
  refine x_iadd hx hb (i) (1) dL_law_562 ?_
  refine va_sld (i := nI (i + 1)) hx hb hX hbl hbA hS (vp_in_nI (by omega) (by omega)) dL_law_563 ?_
  refine x_top (congrArg Value.int (show xs (nI (i + 1)).toNatClampNeg = xs (i + 1) from by rw [nI_clamp (by omega)])) ?_
  refine x_mi (va_runV (As := [.int (xs (i + 1))]) (rest := []) ⟨hx, hb, hml, hown, hts⟩ (c_X7_day l D cy loc w H.size σ hI.1.1 hI.2.1 (xs (i + 1))) (cwV 1 hts gL_law_X7_day rfl rfl rfl (by decide +kernel) ⟨Nat.le_of_ble_eq_true rfl, Nat.le_of_ble_eq_true rfl⟩) (x_preV hK hV f0 rfl) rfl rfl hl.1 rfl (lv_room (Nat.le_of_ble_eq_true rfl)) dL_law_564 ⟨(by show _ ≤ 600000; omega), (by show _ ≤ 7302250; omega)⟩) hV hS hA (fun r loc2 w2 H2 L2 hr hV2 hS2 => ?_)
  obtain ⟨hr, hO⟩ := hr
  have hr : r = (sp_day σ (xs (i + 1))).1 := hr
  have hO : xOK cy loc w ((sp_day σ (xs (i + 1))).2) (loc2, w2) := hO
  have hY2 : yR cy loc2 σ w2 := lw_y2 hI.2.2.1 hO.2.1
  have f4 : w2 300 = _ := (hO.2.1 300 (by decide)).1.trans f3
  have e4 : loc2 300 = loc 300 := (hO.2.1 300 (by decide)).2
  refine lv_aload_n hx hb dL_law_567 rfl (lv_at hl 1 rfl) ?_
  refine lw_st e4.symm ?_
  refine lv_aload_n hx hb dL_law_568 rfl (lv_at hl 3 rfl) ?_
  refine lv_iload_n hx hb dL_law_569 rfl (lv_at hl 2 rfl) ?_
  refine lv_iconst (v := nI 1) hx hb dL_law_570 (by decide +kernel) ?_
  refine x_iadd hx hb (i) (1) dL_law_571 ?_
  refine va_sld (i := nI (i + 1)) hx hb hX hbl hbA hS2 (vp_in_nI (by omega) (by omega)) dL_law_572 ?_
  refine x_top (congrArg Value.int (show xs (nI (i + 1)).toNatClampNeg = xs (i + 1) from by rw [nI_clamp (by omega)])) ?_
  refine x_mi (va_runV (As := [.int (xs (i + 1))]) (rest := [.int r]) ⟨hx, hb, hml, hown, hts⟩ (c_X8_day l D cy loc2 w2 H2.size σ hI.1.1 hY2 (xs (i + 1))) (cwV 1 hts gL_law_X8_day rfl rfl rfl (by decide +kernel) ⟨Nat.le_of_ble_eq_true rfl, Nat.le_of_ble_eq_true rfl⟩) (x_preV hK hV2 f4 rfl) rfl rfl hl.1 rfl (lv_room (Nat.le_of_ble_eq_true rfl)) dL_law_573 ⟨(by show _ ≤ 600000; omega), (by show _ ≤ 7302250; omega)⟩) hV2 hS2 hA (fun r2 loc3 w3 H3 L3 hr2 hV3 hS3 => ?_)
  obtain ⟨hr2, hO2⟩ := hr2
  have hr2 : r2 = (sp_day σ (xs (i + 1))).1 := hr2
  have hO2 : yOK cy loc2 w2 ((sp_day σ (xs (i + 1))).2) (loc3, w3) := hO2
  refine lv_icmp_eq (tgt := 1090) hx hb dL_law_576 (by decide) (fun _ => ?_) (fun hq => absurd (hr.trans hr2.symm) hq)
  refine W.widen (k := cells + 3) (n := slots + 193) (by omega) (by omega) ?_
  exact nxt loc3 w3 ((sp_day σ (xs (i + 1))).2) H3 L3 (lw_two (gd_day hI.1 (xs (i + 1))) hO hO2 hV3 hS3) (lw_l0 hO hO2) (lw_l3 hO hO2)
