/-! the law, case by case -/
set_option maxHeartbeats 4000000 in
set_option maxRecDepth 100000 in
theorem law_c11 {p : Program} {e : Env} {s : State} {m : MethodId} {below : List Frame} {meth : Method} {c : Code} (l : Launch) {b L : Nat} {xs : Nat → Int32} (hL : L ≤ 3584) (C0 : lw_At p s m meth c b L xs) {D : va_G} {cy : Nat → ClassId} (hK : xK D cy s) {i : Nat} (hi : i + 7 ≤ L) {loc : Nat → Nat} {w : xM} {σ : xS} {H : Heap} {locs : List Loc} (hI : lwI D cy s loc w σ H locs) {cells slots : Nat} (hc : cells + 3 ≤ 600000) (hs : slots + 193 ≤ 7302250) {ls : Array Slot} (hl : lv_has ls 4 [(1, .ref (loc 0)), (2, .ref (loc 300)), (3, .int (nI i)), (0, .ref b)])
    (nxt : ∀ (loc' : Nat → Nat) (w' : xM) (σ' : xS) (H' : Heap) (locs' : List Loc), lwI D cy s loc' w' σ' H' locs' → loc' 0 = loc 0 → loc' 300 = loc 300 → W p l e room_1 s m #[Value.ref b] below meth c H' locs' (cells + 3) (slots + 193) (lw_Z below #[Value.ref b] s) (F0 m 1090 ls [])) : W p l e room_1 s m #[Value.ref b] below meth c H locs cells slots (lw_Z below #[Value.ref b] s) (F0 m 581 ls []) := by
  obtain ⟨hx, hb, hr, hml, hown, hts, hX, hbl, hlocks, hgv⟩ := id C0
  have hA : ∀ q : Nat, s.heap.size ≤ q → (fun q : Nat => s.heap.size ≤ q) q := fun _ h => h
  have hbA : ¬ (fun q : Nat => s.heap.size ≤ q) b := Nat.not_le.mpr hbl
  have hown : s.vm.findClass RL = some m.cls := hown
  have hV := hI.2.2.2.1
  have hS := hI.2.2.2.2
  obtain ⟨fs0, f0⟩ := lw_f0 hI.2.1
  obtain ⟨fs3, f3⟩ := lw_f3 hI.2.2.1
  refine lv_aload_n hx hb dL_law_581 rfl (lv_at hl 0 rfl) ?_
  refine x_mi (va_runV (As := []) (rest := []) ⟨hx, hb, hml, hown, hts⟩ (c_X7_clear l D cy loc w H.size σ hI.1.1 hI.2.1 ) (cwV 0 hts gL_law_X7_clear rfl rfl rfl (by decide +kernel) ⟨Nat.le_of_ble_eq_true rfl, Nat.le_of_ble_eq_true rfl⟩) (x_preV hK hV f0 rfl) rfl rfl hl.1 rfl (lv_room (Nat.le_of_ble_eq_true rfl)) dL_law_582 ⟨(by show _ ≤ 600000; omega), (by show _ ≤ 7302250; omega)⟩) hV hS hA (fun r loc2 w2 H2 L2 hr hV2 hS2 => ?_)
  obtain ⟨hr, hO⟩ := hr
  have hr : r = (sp_clear σ).1 := hr
  have hO : xOK cy loc w ((sp_clear σ).2) (loc2, w2) := hO
  have hY2 : yR cy loc2 σ w2 := lw_y2 hI.2.2.1 hO.2.1
  have f4 : w2 300 = _ := (hO.2.1 300 (by decide)).1.trans f3
  have e4 : loc2 300 = loc 300 := (hO.2.1 300 (by decide)).2
  refine lv_aload_n hx hb dL_law_585 rfl (lv_at hl 1 rfl) ?_
  refine lw_st e4.symm ?_
  refine x_mi (va_runV (As := []) (rest := [.int r]) ⟨hx, hb, hml, hown, hts⟩ (c_X8_clear l D cy loc2 w2 H2.size σ hI.1.1 hY2 ) (cwV 0 hts gL_law_X8_clear rfl rfl rfl (by decide +kernel) ⟨Nat.le_of_ble_eq_true rfl, Nat.le_of_ble_eq_true rfl⟩) (x_preV hK hV2 f4 rfl) rfl rfl hl.1 rfl (lv_room (Nat.le_of_ble_eq_true rfl)) dL_law_586 ⟨(by show _ ≤ 600000; omega), (by show _ ≤ 7302250; omega)⟩) hV2 hS2 hA (fun r2 loc3 w3 H3 L3 hr2 hV3 hS3 => ?_)
  obtain ⟨hr2, hO2⟩ := hr2
  have hr2 : r2 = (sp_clear σ).1 := hr2
  have hO2 : yOK cy loc2 w2 ((sp_clear σ).2) (loc3, w3) := hO2
  refine lv_icmp_eq (tgt := 1090) hx hb dL_law_589 (by decide) (fun _ => ?_) (fun hq => absurd (hr.trans hr2.symm) hq)
  refine W.widen (k := cells + 3) (n := slots + 193) (by omega) (by omega) ?_
  exact nxt loc3 w3 ((sp_clear σ).2) H3 L3 (lw_two (gd_clear hI.1 ) hO hO2 hV3 hS3) (lw_l0 hO hO2) (lw_l3 hO hO2)

set_option maxHeartbeats 4000000 in
set_option maxRecDepth 100000 in
theorem law_c12 {p : Program} {e : Env} {s : State} {m : MethodId} {below : List Frame} {meth : Method} {c : Code} (l : Launch) {b L : Nat} {xs : Nat → Int32} (hL : L ≤ 3584) (C0 : lw_At p s m meth c b L xs) {D : va_G} {cy : Nat → ClassId} (hK : xK D cy s) {i : Nat} (hi : i + 7 ≤ L) {loc : Nat → Nat} {w : xM} {σ : xS} {H : Heap} {locs : List Loc} (hI : lwI D cy s loc w σ H locs) {cells slots : Nat} (hc : cells + 3 ≤ 600000) (hs : slots + 193 ≤ 7302250) {ls : Array Slot} (hl : lv_has ls 4 [(1, .ref (loc 0)), (2, .ref (loc 300)), (3, .int (nI i)), (0, .ref b)])
    (nxt : ∀ (loc' : Nat → Nat) (w' : xM) (σ' : xS) (H' : Heap) (locs' : List Loc), lwI D cy s loc' w' σ' H' locs' → loc' 0 = loc 0 → loc' 300 = loc 300 → W p l e room_1 s m #[Value.ref b] below meth c H' locs' (cells + 3) (slots + 193) (lw_Z below #[Value.ref b] s) (F0 m 1090 ls [])) : W p l e room_1 s m #[Value.ref b] below meth c H locs cells slots (lw_Z below #[Value.ref b] s) (F0 m 594 ls []) := by
  obtain ⟨hx, hb, hr, hml, hown, hts, hX, hbl, hlocks, hgv⟩ := id C0
  have hA : ∀ q : Nat, s.heap.size ≤ q → (fun q : Nat => s.heap.size ≤ q) q := fun _ h => h
  have hbA : ¬ (fun q : Nat => s.heap.size ≤ q) b := Nat.not_le.mpr hbl
  have hown : s.vm.findClass RL = some m.cls := hown
  have hV := hI.2.2.2.1
  have hS := hI.2.2.2.2
  obtain ⟨fs0, f0⟩ := lw_f0 hI.2.1
  obtain ⟨fs3, f3⟩ := lw_f3 hI.2.2.1
  refine lv_aload_n hx hb dL_law_594 rfl (lv_at hl 0 rfl) ?_
  refine lv_aload_n hx hb dL_law_595 rfl (lv_at hl 3 rfl) ?_
  refine lv_iload_n hx hb dL_law_596 rfl (lv_at hl 2 rfl) ?_
  refine lv_iconst (v := nI 1) hx hb dL_law_597 (by decide +kernel) ?_
  refine x_iadd hx hb (i) (1) dL_law_598 ?_
  refine va_sld (i := nI (i + 1)) hx hb hX hbl hbA hS (vp_in_nI (by omega) (by omega)) dL_law_599 ?_
  refine x_top (congrArg Value.int (show xs (nI (i + 1)).toNatClampNeg = xs (i + 1) from by rw [nI_clamp (by omega)])) ?_
  refine lv_aload_n hx hb dL_law_600 rfl (lv_at hl 3 rfl) ?_
  refine lv_iload_n hx hb dL_law_601 rfl (lv_at hl 2 rfl) ?_
  refine lv_iconst (v := nI 2) hx hb dL_law_602 (by decide +kernel) ?_
  refine x_iadd hx hb (i) (2) dL_law_603 ?_
  refine va_sld (i := nI (i + 2)) hx hb hX hbl hbA hS (vp_in_nI (by omega) (by omega)) dL_law_604 ?_
  refine x_top (congrArg Value.int (show xs (nI (i + 2)).toNatClampNeg = xs (i + 2) from by rw [nI_clamp (by omega)])) ?_
  refine lv_aload_n hx hb dL_law_605 rfl (lv_at hl 3 rfl) ?_
  refine lv_iload_n hx hb dL_law_606 rfl (lv_at hl 2 rfl) ?_
  refine lv_iconst (v := nI 3) hx hb dL_law_607 (by decide +kernel) ?_
  refine x_iadd hx hb (i) (3) dL_law_608 ?_
  refine va_sld (i := nI (i + 3)) hx hb hX hbl hbA hS (vp_in_nI (by omega) (by omega)) dL_law_609 ?_
  refine x_top (congrArg Value.int (show xs (nI (i + 3)).toNatClampNeg = xs (i + 3) from by rw [nI_clamp (by omega)])) ?_
  refine x_mi (va_runV (As := [.int (xs (i + 1)), .int (xs (i + 2)), .int (xs (i + 3))]) (rest := []) ⟨hx, hb, hml, hown, hts⟩ (c_X7_serves l D cy loc w H.size σ hI.1.1 hI.2.1 hI.1.2.1 (xs (i + 1)) (xs (i + 2)) (xs (i + 3))) (cwV 3 hts gL_law_X7_serves rfl rfl rfl (by decide +kernel) ⟨Nat.le_of_ble_eq_true rfl, Nat.le_of_ble_eq_true rfl⟩) (x_preV hK hV f0 rfl) rfl rfl hl.1 rfl (lv_room (Nat.le_of_ble_eq_true rfl)) dL_law_610 ⟨(by show _ ≤ 600000; omega), (by show _ ≤ 7302250; omega)⟩) hV hS hA (fun r loc2 w2 H2 L2 hr hV2 hS2 => ?_)
  obtain ⟨hr, hO⟩ := hr
  have hr : r = sp_serves σ (xs (i + 1)) (xs (i + 2)) (xs (i + 3)) := hr
  have hO : xOK cy loc w (σ) (loc2, w2) := hO
  have hY2 : yR cy loc2 σ w2 := lw_y2 hI.2.2.1 hO.2.1
  have f4 : w2 300 = _ := (hO.2.1 300 (by decide)).1.trans f3
  have e4 : loc2 300 = loc 300 := (hO.2.1 300 (by decide)).2
  refine lv_aload_n hx hb dL_law_613 rfl (lv_at hl 1 rfl) ?_
  refine lw_st e4.symm ?_
  refine lv_aload_n hx hb dL_law_614 rfl (lv_at hl 3 rfl) ?_
  refine lv_iload_n hx hb dL_law_615 rfl (lv_at hl 2 rfl) ?_
  refine lv_iconst (v := nI 1) hx hb dL_law_616 (by decide +kernel) ?_
  refine x_iadd hx hb (i) (1) dL_law_617 ?_
  refine va_sld (i := nI (i + 1)) hx hb hX hbl hbA hS2 (vp_in_nI (by omega) (by omega)) dL_law_618 ?_
  refine x_top (congrArg Value.int (show xs (nI (i + 1)).toNatClampNeg = xs (i + 1) from by rw [nI_clamp (by omega)])) ?_
  refine lv_aload_n hx hb dL_law_619 rfl (lv_at hl 3 rfl) ?_
  refine lv_iload_n hx hb dL_law_620 rfl (lv_at hl 2 rfl) ?_
  refine lv_iconst (v := nI 2) hx hb dL_law_621 (by decide +kernel) ?_
  refine x_iadd hx hb (i) (2) dL_law_622 ?_
  refine va_sld (i := nI (i + 2)) hx hb hX hbl hbA hS2 (vp_in_nI (by omega) (by omega)) dL_law_623 ?_
  refine x_top (congrArg Value.int (show xs (nI (i + 2)).toNatClampNeg = xs (i + 2) from by rw [nI_clamp (by omega)])) ?_
  refine lv_aload_n hx hb dL_law_624 rfl (lv_at hl 3 rfl) ?_
  refine lv_iload_n hx hb dL_law_625 rfl (lv_at hl 2 rfl) ?_
  refine lv_iconst (v := nI 3) hx hb dL_law_626 (by decide +kernel) ?_
  refine x_iadd hx hb (i) (3) dL_law_627 ?_
  refine va_sld (i := nI (i + 3)) hx hb hX hbl hbA hS2 (vp_in_nI (by omega) (by omega)) dL_law_628 ?_
  refine x_top (congrArg Value.int (show xs (nI (i + 3)).toNatClampNeg = xs (i + 3) from by rw [nI_clamp (by omega)])) ?_
  refine x_mi (va_runV (As := [.int (xs (i + 1)), .int (xs (i + 2)), .int (xs (i + 3))]) (rest := [.int r]) ⟨hx, hb, hml, hown, hts⟩ (c_X8_serves l D cy loc2 w2 H2.size σ hI.1.1 hY2 (xs (i + 1)) (xs (i + 2)) (xs (i + 3)) hI.1.2.1) (cwV 3 hts gL_law_X8_serves rfl rfl rfl (by decide +kernel) ⟨Nat.le_of_ble_eq_true rfl, Nat.le_of_ble_eq_true rfl⟩) (x_preV hK hV2 f4 rfl) rfl rfl hl.1 rfl (lv_room (Nat.le_of_ble_eq_true rfl)) dL_law_629 ⟨(by show _ ≤ 600000; omega), (by show _ ≤ 7302250; omega)⟩) hV2 hS2 hA (fun r2 loc3 w3 H3 L3 hr2 hV3 hS3 => ?_)
  obtain ⟨hr2, hO2⟩ := hr2
  have hr2 : r2 = sp_serves σ (xs (i + 1)) (xs (i + 2)) (xs (i + 3)) := hr2
  have hO2 : yOK cy loc2 w2 (σ) (loc3, w3) := hO2
  refine lv_icmp_eq (tgt := 1090) hx hb dL_law_632 (by decide) (fun _ => ?_) (fun hq => absurd (hr.trans hr2.symm) hq)
  refine W.widen (k := cells + 3) (n := slots + 193) (by omega) (by omega) ?_
  exact nxt loc3 w3 (σ) H3 L3 (lw_two (hI.1) hO hO2 hV3 hS3) (lw_l0 hO hO2) (lw_l3 hO hO2)

set_option maxHeartbeats 4000000 in
set_option maxRecDepth 100000 in
theorem law_c13 {p : Program} {e : Env} {s : State} {m : MethodId} {below : List Frame} {meth : Method} {c : Code} (l : Launch) {b L : Nat} {xs : Nat → Int32} (hL : L ≤ 3584) (C0 : lw_At p s m meth c b L xs) {D : va_G} {cy : Nat → ClassId} (hK : xK D cy s) {i : Nat} (hi : i + 7 ≤ L) {loc : Nat → Nat} {w : xM} {σ : xS} {H : Heap} {locs : List Loc} (hI : lwI D cy s loc w σ H locs) {cells slots : Nat} (hc : cells + 3 ≤ 600000) (hs : slots + 193 ≤ 7302250) {ls : Array Slot} (hl : lv_has ls 4 [(1, .ref (loc 0)), (2, .ref (loc 300)), (3, .int (nI i)), (0, .ref b)])
    (nxt : ∀ (loc' : Nat → Nat) (w' : xM) (σ' : xS) (H' : Heap) (locs' : List Loc), lwI D cy s loc' w' σ' H' locs' → loc' 0 = loc 0 → loc' 300 = loc 300 → W p l e room_1 s m #[Value.ref b] below meth c H' locs' (cells + 3) (slots + 193) (lw_Z below #[Value.ref b] s) (F0 m 1090 ls [])) : W p l e room_1 s m #[Value.ref b] below meth c H locs cells slots (lw_Z below #[Value.ref b] s) (F0 m 637 ls []) := by
  obtain ⟨hx, hb, hr, hml, hown, hts, hX, hbl, hlocks, hgv⟩ := id C0
  have hA : ∀ q : Nat, s.heap.size ≤ q → (fun q : Nat => s.heap.size ≤ q) q := fun _ h => h
  have hbA : ¬ (fun q : Nat => s.heap.size ≤ q) b := Nat.not_le.mpr hbl
  have hown : s.vm.findClass RL = some m.cls := hown
  have hV := hI.2.2.2.1
  have hS := hI.2.2.2.2
  obtain ⟨fs0, f0⟩ := lw_f0 hI.2.1
  obtain ⟨fs3, f3⟩ := lw_f3 hI.2.2.1
  refine lv_aload_n hx hb dL_law_637 rfl (lv_at hl 0 rfl) ?_
  refine lv_aload_n hx hb dL_law_638 rfl (lv_at hl 3 rfl) ?_
  refine lv_iload_n hx hb dL_law_639 rfl (lv_at hl 2 rfl) ?_
  refine lv_iconst (v := nI 1) hx hb dL_law_640 (by decide +kernel) ?_
  refine x_iadd hx hb (i) (1) dL_law_641 ?_
  refine va_sld (i := nI (i + 1)) hx hb hX hbl hbA hS (vp_in_nI (by omega) (by omega)) dL_law_642 ?_
  refine x_top (congrArg Value.int (show xs (nI (i + 1)).toNatClampNeg = xs (i + 1) from by rw [nI_clamp (by omega)])) ?_
  refine lv_aload_n hx hb dL_law_643 rfl (lv_at hl 3 rfl) ?_
  refine lv_iload_n hx hb dL_law_644 rfl (lv_at hl 2 rfl) ?_
  refine lv_iconst (v := nI 2) hx hb dL_law_645 (by decide +kernel) ?_
  refine x_iadd hx hb (i) (2) dL_law_646 ?_
  refine va_sld (i := nI (i + 2)) hx hb hX hbl hbA hS (vp_in_nI (by omega) (by omega)) dL_law_647 ?_
  refine x_top (congrArg Value.int (show xs (nI (i + 2)).toNatClampNeg = xs (i + 2) from by rw [nI_clamp (by omega)])) ?_
  refine x_mi (va_runV (As := [.int (xs (i + 1)), .int (xs (i + 2))]) (rest := []) ⟨hx, hb, hml, hown, hts⟩ (c_X7_fewest l D cy loc w H.size σ hI.1.1 hI.2.1 hI.1.2.1 (xs (i + 1)) (xs (i + 2))) (cwV 2 hts gL_law_X7_fewest rfl rfl rfl (by decide +kernel) ⟨Nat.le_of_ble_eq_true rfl, Nat.le_of_ble_eq_true rfl⟩) (x_preV hK hV f0 rfl) rfl rfl hl.1 rfl (lv_room (Nat.le_of_ble_eq_true rfl)) dL_law_648 ⟨(by show _ ≤ 600000; omega), (by show _ ≤ 7302250; omega)⟩) hV hS hA (fun r loc2 w2 H2 L2 hr hV2 hS2 => ?_)
  obtain ⟨hr, hO⟩ := hr
  have hr : r = sp_fewest σ (xs (i + 1)) (xs (i + 2)) := hr
  have hO : xOK cy loc w (σ) (loc2, w2) := hO
  have hY2 : yR cy loc2 σ w2 := lw_y2 hI.2.2.1 hO.2.1
  have f4 : w2 300 = _ := (hO.2.1 300 (by decide)).1.trans f3
  have e4 : loc2 300 = loc 300 := (hO.2.1 300 (by decide)).2
  refine lv_aload_n hx hb dL_law_651 rfl (lv_at hl 1 rfl) ?_
  refine lw_st e4.symm ?_
  refine lv_aload_n hx hb dL_law_652 rfl (lv_at hl 3 rfl) ?_
  refine lv_iload_n hx hb dL_law_653 rfl (lv_at hl 2 rfl) ?_
  refine lv_iconst (v := nI 1) hx hb dL_law_654 (by decide +kernel) ?_
  refine x_iadd hx hb (i) (1) dL_law_655 ?_
  refine va_sld (i := nI (i + 1)) hx hb hX hbl hbA hS2 (vp_in_nI (by omega) (by omega)) dL_law_656 ?_
  refine x_top (congrArg Value.int (show xs (nI (i + 1)).toNatClampNeg = xs (i + 1) from by rw [nI_clamp (by omega)])) ?_
  refine lv_aload_n hx hb dL_law_657 rfl (lv_at hl 3 rfl) ?_
  refine lv_iload_n hx hb dL_law_658 rfl (lv_at hl 2 rfl) ?_
  refine lv_iconst (v := nI 2) hx hb dL_law_659 (by decide +kernel) ?_
  refine x_iadd hx hb (i) (2) dL_law_660 ?_
  refine va_sld (i := nI (i + 2)) hx hb hX hbl hbA hS2 (vp_in_nI (by omega) (by omega)) dL_law_661 ?_
  refine x_top (congrArg Value.int (show xs (nI (i + 2)).toNatClampNeg = xs (i + 2) from by rw [nI_clamp (by omega)])) ?_
  refine x_mi (va_runV (As := [.int (xs (i + 1)), .int (xs (i + 2))]) (rest := [.int r]) ⟨hx, hb, hml, hown, hts⟩ (c_X8_fewest l D cy loc2 w2 H2.size σ hI.1.1 hY2 (xs (i + 1)) (xs (i + 2)) hI.1.2.1) (cwV 2 hts gL_law_X8_fewest rfl rfl rfl (by decide +kernel) ⟨Nat.le_of_ble_eq_true rfl, Nat.le_of_ble_eq_true rfl⟩) (x_preV hK hV2 f4 rfl) rfl rfl hl.1 rfl (lv_room (Nat.le_of_ble_eq_true rfl)) dL_law_662 ⟨(by show _ ≤ 600000; omega), (by show _ ≤ 7302250; omega)⟩) hV2 hS2 hA (fun r2 loc3 w3 H3 L3 hr2 hV3 hS3 => ?_)
  obtain ⟨hr2, hO2⟩ := hr2
  have hr2 : r2 = sp_fewest σ (xs (i + 1)) (xs (i + 2)) := hr2
  have hO2 : yOK cy loc2 w2 (σ) (loc3, w3) := hO2
  refine lv_icmp_eq (tgt := 1090) hx hb dL_law_665 (by decide) (fun _ => ?_) (fun hq => absurd (hr.trans hr2.symm) hq)
  refine W.widen (k := cells + 3) (n := slots + 193) (by omega) (by omega) ?_
  exact nxt loc3 w3 (σ) H3 L3 (lw_two (hI.1) hO hO2 hV3 hS3) (lw_l0 hO hO2) (lw_l3 hO hO2)

set_option maxHeartbeats 4000000 in
set_option maxRecDepth 100000 in
theorem law_c14 {p : Program} {e : Env} {s : State} {m : MethodId} {below : List Frame} {meth : Method} {c : Code} (l : Launch) {b L : Nat} {xs : Nat → Int32} (hL : L ≤ 3584) (C0 : lw_At p s m meth c b L xs) {D : va_G} {cy : Nat → ClassId} (hK : xK D cy s) {i : Nat} (hi : i + 7 ≤ L) {loc : Nat → Nat} {w : xM} {σ : xS} {H : Heap} {locs : List Loc} (hI : lwI D cy s loc w σ H locs) {cells slots : Nat} (hc : cells + 3 ≤ 600000) (hs : slots + 193 ≤ 7302250) {ls : Array Slot} (hl : lv_has ls 4 [(1, .ref (loc 0)), (2, .ref (loc 300)), (3, .int (nI i)), (0, .ref b)])
    (nxt : ∀ (loc' : Nat → Nat) (w' : xM) (σ' : xS) (H' : Heap) (locs' : List Loc), lwI D cy s loc' w' σ' H' locs' → loc' 0 = loc 0 → loc' 300 = loc 300 → W p l e room_1 s m #[Value.ref b] below meth c H' locs' (cells + 3) (slots + 193) (lw_Z below #[Value.ref b] s) (F0 m 1090 ls [])) : W p l e room_1 s m #[Value.ref b] below meth c H locs cells slots (lw_Z below #[Value.ref b] s) (F0 m 670 ls []) := by
  obtain ⟨hx, hb, hr, hml, hown, hts, hX, hbl, hlocks, hgv⟩ := id C0
  have hA : ∀ q : Nat, s.heap.size ≤ q → (fun q : Nat => s.heap.size ≤ q) q := fun _ h => h
  have hbA : ¬ (fun q : Nat => s.heap.size ≤ q) b := Nat.not_le.mpr hbl
  have hown : s.vm.findClass RL = some m.cls := hown
  have hV := hI.2.2.2.1
  have hS := hI.2.2.2.2
  obtain ⟨fs0, f0⟩ := lw_f0 hI.2.1
  obtain ⟨fs3, f3⟩ := lw_f3 hI.2.2.1
  refine lv_aload_n hx hb dL_law_670 rfl (lv_at hl 0 rfl) ?_
  refine x_mi (va_runV (As := []) (rest := []) ⟨hx, hb, hml, hown, hts⟩ (c_X7_hide l D cy loc w H.size σ hI.1.1 hI.2.1 (fun i9 _ => hI.1.2.2.2.2.2.1 _ (Nat.le_add_right _ i9))) (cwV 0 hts gL_law_X7_hide rfl rfl rfl (by decide +kernel) ⟨Nat.le_of_ble_eq_true rfl, Nat.le_of_ble_eq_true rfl⟩) (x_preV hK hV f0 rfl) rfl rfl hl.1 rfl (lv_room (Nat.le_of_ble_eq_true rfl)) dL_law_671 ⟨(by show _ ≤ 600000; omega), (by show _ ≤ 7302250; omega)⟩) hV hS hA (fun r loc2 w2 H2 L2 hr hV2 hS2 => ?_)
  obtain ⟨hr, hO⟩ := hr
  have hr : r = (sp_hide σ).1 := hr
  have hO : xOK cy loc w ((sp_hide σ).2) (loc2, w2) := hO
  have hY2 : yR cy loc2 σ w2 := lw_y2 hI.2.2.1 hO.2.1
  have f4 : w2 300 = _ := (hO.2.1 300 (by decide)).1.trans f3
  have e4 : loc2 300 = loc 300 := (hO.2.1 300 (by decide)).2
  refine lv_aload_n hx hb dL_law_674 rfl (lv_at hl 1 rfl) ?_
  refine lw_st e4.symm ?_
  refine x_mi (va_runV (As := []) (rest := [.int r]) ⟨hx, hb, hml, hown, hts⟩ (c_X8_hide l D cy loc2 w2 H2.size σ hI.1.1 hY2 ) (cwV 0 hts gL_law_X8_hide rfl rfl rfl (by decide +kernel) ⟨Nat.le_of_ble_eq_true rfl, Nat.le_of_ble_eq_true rfl⟩) (x_preV hK hV2 f4 rfl) rfl rfl hl.1 rfl (lv_room (Nat.le_of_ble_eq_true rfl)) dL_law_675 ⟨(by show _ ≤ 600000; omega), (by show _ ≤ 7302250; omega)⟩) hV2 hS2 hA (fun r2 loc3 w3 H3 L3 hr2 hV3 hS3 => ?_)
  obtain ⟨hr2, hO2⟩ := hr2
  have hr2 : r2 = (sp_hide σ).1 := hr2
  have hO2 : yOK cy loc2 w2 ((sp_hide σ).2) (loc3, w3) := hO2
  refine lv_icmp_eq (tgt := 1090) hx hb dL_law_678 (by decide) (fun _ => ?_) (fun hq => absurd (hr.trans hr2.symm) hq)
  refine W.widen (k := cells + 3) (n := slots + 193) (by omega) (by omega) ?_
  exact nxt loc3 w3 ((sp_hide σ).2) H3 L3 (lw_two (gd_hide hI.1 ) hO hO2 hV3 hS3) (lw_l0 hO hO2) (lw_l3 hO hO2)

set_option maxHeartbeats 4000000 in
set_option maxRecDepth 100000 in
theorem law_c15 {p : Program} {e : Env} {s : State} {m : MethodId} {below : List Frame} {meth : Method} {c : Code} (l : Launch) {b L : Nat} {xs : Nat → Int32} (hL : L ≤ 3584) (C0 : lw_At p s m meth c b L xs) {D : va_G} {cy : Nat → ClassId} (hK : xK D cy s) {i : Nat} (hi : i + 7 ≤ L) {loc : Nat → Nat} {w : xM} {σ : xS} {H : Heap} {locs : List Loc} (hI : lwI D cy s loc w σ H locs) {cells slots : Nat} (hc : cells + 3 ≤ 600000) (hs : slots + 193 ≤ 7302250) {ls : Array Slot} (hl : lv_has ls 4 [(1, .ref (loc 0)), (2, .ref (loc 300)), (3, .int (nI i)), (0, .ref b)])
    (nxt : ∀ (loc' : Nat → Nat) (w' : xM) (σ' : xS) (H' : Heap) (locs' : List Loc), lwI D cy s loc' w' σ' H' locs' → loc' 0 = loc 0 → loc' 300 = loc 300 → W p l e room_1 s m #[Value.ref b] below meth c H' locs' (cells + 3) (slots + 193) (lw_Z below #[Value.ref b] s) (F0 m 1090 ls [])) : W p l e room_1 s m #[Value.ref b] below meth c H locs cells slots (lw_Z below #[Value.ref b] s) (F0 m 683 ls []) := by
  obtain ⟨hx, hb, hr, hml, hown, hts, hX, hbl, hlocks, hgv⟩ := id C0
  have hA : ∀ q : Nat, s.heap.size ≤ q → (fun q : Nat => s.heap.size ≤ q) q := fun _ h => h
  have hbA : ¬ (fun q : Nat => s.heap.size ≤ q) b := Nat.not_le.mpr hbl
  have hown : s.vm.findClass RL = some m.cls := hown
  have hV := hI.2.2.2.1
  have hS := hI.2.2.2.2
  obtain ⟨fs0, f0⟩ := lw_f0 hI.2.1
  obtain ⟨fs3, f3⟩ := lw_f3 hI.2.2.1
  refine lv_aload_n hx hb dL_law_683 rfl (lv_at hl 0 rfl) ?_
  refine lv_aload_n hx hb dL_law_684 rfl (lv_at hl 3 rfl) ?_
  refine lv_iload_n hx hb dL_law_685 rfl (lv_at hl 2 rfl) ?_
  refine lv_iconst (v := nI 1) hx hb dL_law_686 (by decide +kernel) ?_
  refine x_iadd hx hb (i) (1) dL_law_687 ?_
  refine va_sld (i := nI (i + 1)) hx hb hX hbl hbA hS (vp_in_nI (by omega) (by omega)) dL_law_688 ?_
  refine x_top (congrArg Value.int (show xs (nI (i + 1)).toNatClampNeg = xs (i + 1) from by rw [nI_clamp (by omega)])) ?_
  refine lv_aload_n hx hb dL_law_689 rfl (lv_at hl 3 rfl) ?_
  refine lv_iload_n hx hb dL_law_690 rfl (lv_at hl 2 rfl) ?_
  refine lv_iconst (v := nI 2) hx hb dL_law_691 (by decide +kernel) ?_
  refine x_iadd hx hb (i) (2) dL_law_692 ?_
  refine va_sld (i := nI (i + 2)) hx hb hX hbl hbA hS (vp_in_nI (by omega) (by omega)) dL_law_693 ?_
  refine x_top (congrArg Value.int (show xs (nI (i + 2)).toNatClampNeg = xs (i + 2) from by rw [nI_clamp (by omega)])) ?_
  refine lv_aload_n hx hb dL_law_694 rfl (lv_at hl 3 rfl) ?_
  refine lv_iload_n hx hb dL_law_695 rfl (lv_at hl 2 rfl) ?_
  refine lv_iconst (v := nI 3) hx hb dL_law_696 (by decide +kernel) ?_
  refine x_iadd hx hb (i) (3) dL_law_697 ?_
  refine va_sld (i := nI (i + 3)) hx hb hX hbl hbA hS (vp_in_nI (by omega) (by omega)) dL_law_698 ?_
  refine x_top (congrArg Value.int (show xs (nI (i + 3)).toNatClampNeg = xs (i + 3) from by rw [nI_clamp (by omega)])) ?_
  refine x_mi (va_runV (As := [.int (xs (i + 1)), .int (xs (i + 2)), .int (xs (i + 3))]) (rest := []) ⟨hx, hb, hml, hown, hts⟩ (c_X7_flaw l D cy loc w H.size σ hI.1.1 hI.2.1 (xs (i + 1)) (xs (i + 2)) (xs (i + 3))) (cwV 3 hts gL_law_X7_flaw rfl rfl rfl (by decide +kernel) ⟨Nat.le_of_ble_eq_true rfl, Nat.le_of_ble_eq_true rfl⟩) (x_preV hK hV f0 rfl) rfl rfl hl.1 rfl (lv_room (Nat.le_of_ble_eq_true rfl)) dL_law_699 ⟨(by show _ ≤ 600000; omega), (by show _ ≤ 7302250; omega)⟩) hV hS hA (fun r loc2 w2 H2 L2 hr hV2 hS2 => ?_)
  obtain ⟨hr, hO⟩ := hr
  have hr : r = (sp_flaw σ (xs (i + 1)) (xs (i + 2)) (xs (i + 3))).1 := hr
  have hO : xOK cy loc w ((sp_flaw σ (xs (i + 1)) (xs (i + 2)) (xs (i + 3))).2) (loc2, w2) := hO
  have hY2 : yR cy loc2 σ w2 := lw_y2 hI.2.2.1 hO.2.1
  have f4 : w2 300 = _ := (hO.2.1 300 (by decide)).1.trans f3
  have e4 : loc2 300 = loc 300 := (hO.2.1 300 (by decide)).2
  refine lv_aload_n hx hb dL_law_702 rfl (lv_at hl 1 rfl) ?_
  refine lw_st e4.symm ?_
  refine lv_aload_n hx hb dL_law_703 rfl (lv_at hl 3 rfl) ?_
  refine lv_iload_n hx hb dL_law_704 rfl (lv_at hl 2 rfl) ?_
  refine lv_iconst (v := nI 1) hx hb dL_law_705 (by decide +kernel) ?_
  refine x_iadd hx hb (i) (1) dL_law_706 ?_
  refine va_sld (i := nI (i + 1)) hx hb hX hbl hbA hS2 (vp_in_nI (by omega) (by omega)) dL_law_707 ?_
  refine x_top (congrArg Value.int (show xs (nI (i + 1)).toNatClampNeg = xs (i + 1) from by rw [nI_clamp (by omega)])) ?_
  refine lv_aload_n hx hb dL_law_708 rfl (lv_at hl 3 rfl) ?_
  refine lv_iload_n hx hb dL_law_709 rfl (lv_at hl 2 rfl) ?_
  refine lv_iconst (v := nI 2) hx hb dL_law_710 (by decide +kernel) ?_
  refine x_iadd hx hb (i) (2) dL_law_711 ?_
  refine va_sld (i := nI (i + 2)) hx hb hX hbl hbA hS2 (vp_in_nI (by omega) (by omega)) dL_law_712 ?_
  refine x_top (congrArg Value.int (show xs (nI (i + 2)).toNatClampNeg = xs (i + 2) from by rw [nI_clamp (by omega)])) ?_
  refine lv_aload_n hx hb dL_law_713 rfl (lv_at hl 3 rfl) ?_
  refine lv_iload_n hx hb dL_law_714 rfl (lv_at hl 2 rfl) ?_
  refine lv_iconst (v := nI 3) hx hb dL_law_715 (by decide +kernel) ?_
  refine x_iadd hx hb (i) (3) dL_law_716 ?_
  refine va_sld (i := nI (i + 3)) hx hb hX hbl hbA hS2 (vp_in_nI (by omega) (by omega)) dL_law_717 ?_
  refine x_top (congrArg Value.int (show xs (nI (i + 3)).toNatClampNeg = xs (i + 3) from by rw [nI_clamp (by omega)])) ?_
  refine x_mi (va_runV (As := [.int (xs (i + 1)), .int (xs (i + 2)), .int (xs (i + 3))]) (rest := [.int r]) ⟨hx, hb, hml, hown, hts⟩ (c_X8_flaw l D cy loc2 w2 H2.size σ hI.1.1 hY2 (xs (i + 1)) (xs (i + 2)) (xs (i + 3)) (fun i9 _ => hI.1.2.2.2.2.2.2.2.2.1 i9)) (cwV 3 hts gL_law_X8_flaw rfl rfl rfl (by decide +kernel) ⟨Nat.le_of_ble_eq_true rfl, Nat.le_of_ble_eq_true rfl⟩) (x_preV hK hV2 f4 rfl) rfl rfl hl.1 rfl (lv_room (Nat.le_of_ble_eq_true rfl)) dL_law_718 ⟨(by show _ ≤ 600000; omega), (by show _ ≤ 7302250; omega)⟩) hV2 hS2 hA (fun r2 loc3 w3 H3 L3 hr2 hV3 hS3 => ?_)
  obtain ⟨hr2, hO2⟩ := hr2
  have hr2 : r2 = (sp_flaw σ (xs (i + 1)) (xs (i + 2)) (xs (i + 3))).1 := hr2
  have hO2 : yOK cy loc2 w2 ((sp_flaw σ (xs (i + 1)) (xs (i + 2)) (xs (i + 3))).2) (loc3, w3) := hO2
  refine lv_icmp_eq (tgt := 1090) hx hb dL_law_721 (by decide) (fun _ => ?_) (fun hq => absurd (hr.trans hr2.symm) hq)
  refine W.widen (k := cells + 3) (n := slots + 193) (by omega) (by omega) ?_
  exact nxt loc3 w3 ((sp_flaw σ (xs (i + 1)) (xs (i + 2)) (xs (i + 3))).2) H3 L3 (lw_two (gd_flaw hI.1 (xs (i + 1)) (xs (i + 2)) (xs (i + 3))) hO hO2 hV3 hS3) (lw_l0 hO hO2) (lw_l3 hO hO2)

set_option maxHeartbeats 4000000 in
set_option maxRecDepth 100000 in
theorem law_c16 {p : Program} {e : Env} {s : State} {m : MethodId} {below : List Frame} {meth : Method} {c : Code} (l : Launch) {b L : Nat} {xs : Nat → Int32} (hL : L ≤ 3584) (C0 : lw_At p s m meth c b L xs) {D : va_G} {cy : Nat → ClassId} (hK : xK D cy s) {i : Nat} (hi : i + 7 ≤ L) {loc : Nat → Nat} {w : xM} {σ : xS} {H : Heap} {locs : List Loc} (hI : lwI D cy s loc w σ H locs) {cells slots : Nat} (hc : cells + 3 ≤ 600000) (hs : slots + 193 ≤ 7302250) {ls : Array Slot} (hl : lv_has ls 4 [(1, .ref (loc 0)), (2, .ref (loc 300)), (3, .int (nI i)), (0, .ref b)])
    (nxt : ∀ (loc' : Nat → Nat) (w' : xM) (σ' : xS) (H' : Heap) (locs' : List Loc), lwI D cy s loc' w' σ' H' locs' → loc' 0 = loc 0 → loc' 300 = loc 300 → W p l e room_1 s m #[Value.ref b] below meth c H' locs' (cells + 3) (slots + 193) (lw_Z below #[Value.ref b] s) (F0 m 1090 ls [])) : W p l e room_1 s m #[Value.ref b] below meth c H locs cells slots (lw_Z below #[Value.ref b] s) (F0 m 726 ls []) := by
  obtain ⟨hx, hb, hr, hml, hown, hts, hX, hbl, hlocks, hgv⟩ := id C0
  have hA : ∀ q : Nat, s.heap.size ≤ q → (fun q : Nat => s.heap.size ≤ q) q := fun _ h => h
  have hbA : ¬ (fun q : Nat => s.heap.size ≤ q) b := Nat.not_le.mpr hbl
  have hown : s.vm.findClass RL = some m.cls := hown
  have hV := hI.2.2.2.1
  have hS := hI.2.2.2.2
  obtain ⟨fs0, f0⟩ := lw_f0 hI.2.1
  obtain ⟨fs3, f3⟩ := lw_f3 hI.2.2.1
  refine lv_aload_n hx hb dL_law_726 rfl (lv_at hl 0 rfl) ?_
  refine lv_aload_n hx hb dL_law_727 rfl (lv_at hl 3 rfl) ?_
  refine lv_iload_n hx hb dL_law_728 rfl (lv_at hl 2 rfl) ?_
  refine lv_iconst (v := nI 1) hx hb dL_law_729 (by decide +kernel) ?_
  refine x_iadd hx hb (i) (1) dL_law_730 ?_
  refine va_sld (i := nI (i + 1)) hx hb hX hbl hbA hS (vp_in_nI (by omega) (by omega)) dL_law_731 ?_
  refine x_top (congrArg Value.int (show xs (nI (i + 1)).toNatClampNeg = xs (i + 1) from by rw [nI_clamp (by omega)])) ?_
  refine lv_aload_n hx hb dL_law_732 rfl (lv_at hl 3 rfl) ?_
  refine lv_iload_n hx hb dL_law_733 rfl (lv_at hl 2 rfl) ?_
  refine lv_iconst (v := nI 2) hx hb dL_law_734 (by decide +kernel) ?_
  refine x_iadd hx hb (i) (2) dL_law_735 ?_
  refine va_sld (i := nI (i + 2)) hx hb hX hbl hbA hS (vp_in_nI (by omega) (by omega)) dL_law_736 ?_
  refine x_top (congrArg Value.int (show xs (nI (i + 2)).toNatClampNeg = xs (i + 2) from by rw [nI_clamp (by omega)])) ?_
  refine lv_aload_n hx hb dL_law_737 rfl (lv_at hl 3 rfl) ?_
  refine lv_iload_n hx hb dL_law_738 rfl (lv_at hl 2 rfl) ?_
  refine lv_iconst (v := nI 3) hx hb dL_law_739 (by decide +kernel) ?_
  refine x_iadd hx hb (i) (3) dL_law_740 ?_
  refine va_sld (i := nI (i + 3)) hx hb hX hbl hbA hS (vp_in_nI (by omega) (by omega)) dL_law_741 ?_
  refine x_top (congrArg Value.int (show xs (nI (i + 3)).toNatClampNeg = xs (i + 3) from by rw [nI_clamp (by omega)])) ?_
  refine x_mi (va_runV (As := [.int (xs (i + 1)), .int (xs (i + 2)), .int (xs (i + 3))]) (rest := []) ⟨hx, hb, hml, hown, hts⟩ (c_X7_cut l D cy loc w H.size σ hI.1.1 hI.2.1 (xs (i + 1)) (xs (i + 2)) (xs (i + 3))) (cwV 3 hts gL_law_X7_cut rfl rfl rfl (by decide +kernel) ⟨Nat.le_of_ble_eq_true rfl, Nat.le_of_ble_eq_true rfl⟩) (x_preV hK hV f0 rfl) rfl rfl hl.1 rfl (lv_room (Nat.le_of_ble_eq_true rfl)) dL_law_742 ⟨(by show _ ≤ 600000; omega), (by show _ ≤ 7302250; omega)⟩) hV hS hA (fun r loc2 w2 H2 L2 hr hV2 hS2 => ?_)
  obtain ⟨hr, hO⟩ := hr
  have hr : r = (sp_cut σ (xs (i + 1)) (xs (i + 2)) (xs (i + 3))).1 := hr
  have hO : xOK cy loc w ((sp_cut σ (xs (i + 1)) (xs (i + 2)) (xs (i + 3))).2) (loc2, w2) := hO
  have hY2 : yR cy loc2 σ w2 := lw_y2 hI.2.2.1 hO.2.1
  have f4 : w2 300 = _ := (hO.2.1 300 (by decide)).1.trans f3
  have e4 : loc2 300 = loc 300 := (hO.2.1 300 (by decide)).2
  refine lv_aload_n hx hb dL_law_745 rfl (lv_at hl 1 rfl) ?_
  refine lw_st e4.symm ?_
  refine lv_aload_n hx hb dL_law_746 rfl (lv_at hl 3 rfl) ?_
  refine lv_iload_n hx hb dL_law_747 rfl (lv_at hl 2 rfl) ?_
  refine lv_iconst (v := nI 1) hx hb dL_law_748 (by decide +kernel) ?_
  refine x_iadd hx hb (i) (1) dL_law_749 ?_
  refine va_sld (i := nI (i + 1)) hx hb hX hbl hbA hS2 (vp_in_nI (by omega) (by omega)) dL_law_750 ?_
  refine x_top (congrArg Value.int (show xs (nI (i + 1)).toNatClampNeg = xs (i + 1) from by rw [nI_clamp (by omega)])) ?_
  refine lv_aload_n hx hb dL_law_751 rfl (lv_at hl 3 rfl) ?_
  refine lv_iload_n hx hb dL_law_752 rfl (lv_at hl 2 rfl) ?_
  refine lv_iconst (v := nI 2) hx hb dL_law_753 (by decide +kernel) ?_
  refine x_iadd hx hb (i) (2) dL_law_754 ?_
  refine va_sld (i := nI (i + 2)) hx hb hX hbl hbA hS2 (vp_in_nI (by omega) (by omega)) dL_law_755 ?_
  refine x_top (congrArg Value.int (show xs (nI (i + 2)).toNatClampNeg = xs (i + 2) from by rw [nI_clamp (by omega)])) ?_
  refine lv_aload_n hx hb dL_law_756 rfl (lv_at hl 3 rfl) ?_
  refine lv_iload_n hx hb dL_law_757 rfl (lv_at hl 2 rfl) ?_
  refine lv_iconst (v := nI 3) hx hb dL_law_758 (by decide +kernel) ?_
  refine x_iadd hx hb (i) (3) dL_law_759 ?_
  refine va_sld (i := nI (i + 3)) hx hb hX hbl hbA hS2 (vp_in_nI (by omega) (by omega)) dL_law_760 ?_
  refine x_top (congrArg Value.int (show xs (nI (i + 3)).toNatClampNeg = xs (i + 3) from by rw [nI_clamp (by omega)])) ?_
  refine x_mi (va_runV (As := [.int (xs (i + 1)), .int (xs (i + 2)), .int (xs (i + 3))]) (rest := [.int r]) ⟨hx, hb, hml, hown, hts⟩ (c_X8_cut l D cy loc2 w2 H2.size σ hI.1.1 hY2 (xs (i + 1)) (xs (i + 2)) (xs (i + 3))) (cwV 3 hts gL_law_X8_cut rfl rfl rfl (by decide +kernel) ⟨Nat.le_of_ble_eq_true rfl, Nat.le_of_ble_eq_true rfl⟩) (x_preV hK hV2 f4 rfl) rfl rfl hl.1 rfl (lv_room (Nat.le_of_ble_eq_true rfl)) dL_law_761 ⟨(by show _ ≤ 600000; omega), (by show _ ≤ 7302250; omega)⟩) hV2 hS2 hA (fun r2 loc3 w3 H3 L3 hr2 hV3 hS3 => ?_)
  obtain ⟨hr2, hO2⟩ := hr2
  have hr2 : r2 = (sp_cut σ (xs (i + 1)) (xs (i + 2)) (xs (i + 3))).1 := hr2
  have hO2 : yOK cy loc2 w2 ((sp_cut σ (xs (i + 1)) (xs (i + 2)) (xs (i + 3))).2) (loc3, w3) := hO2
  refine lv_icmp_eq (tgt := 1090) hx hb dL_law_764 (by decide) (fun _ => ?_) (fun hq => absurd (hr.trans hr2.symm) hq)
  refine W.widen (k := cells + 3) (n := slots + 193) (by omega) (by omega) ?_
  exact nxt loc3 w3 ((sp_cut σ (xs (i + 1)) (xs (i + 2)) (xs (i + 3))).2) H3 L3 (lw_two (gd_cut hI.1 (xs (i + 1)) (xs (i + 2)) (xs (i + 3))) hO hO2 hV3 hS3) (lw_l0 hO hO2) (lw_l3 hO hO2)
