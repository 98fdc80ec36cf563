/-! the law, case by case -/
set_option maxHeartbeats 4000000 in
set_option maxRecDepth 100000 in
theorem law_c17 {p : Program} {e : Env} {s : State} {m : MethodId} {below : List Frame} {meth : Method} {c : Code} (l : Launch) {b L : Nat} {xs : Nat → Int32} (hL : L ≤ 3584) (C0 : lw_At p s m meth c b L xs) {D : va_G} {cy : Nat → ClassId} (hK : xK D cy s) {i : Nat} (hi : i + 7 ≤ L) {loc : Nat → Nat} {w : xM} {σ : xS} {H : Heap} {locs : List Loc} (hI : lwI D cy s loc w σ H locs) {cells slots : Nat} (hc : cells + 3 ≤ 600000) (hs : slots + 193 ≤ 7302250) {ls : Array Slot} (hl : lv_has ls 4 [(1, .ref (loc 0)), (2, .ref (loc 300)), (3, .int (nI i)), (0, .ref b)])
    (nxt : ∀ (loc' : Nat → Nat) (w' : xM) (σ' : xS) (H' : Heap) (locs' : List Loc), lwI D cy s loc' w' σ' H' locs' → loc' 0 = loc 0 → loc' 300 = loc 300 → W p l e room_1 s m #[Value.ref b] below meth c H' locs' (cells + 3) (slots + 193) (lw_Z below #[Value.ref b] s) (F0 m 1090 ls [])) : W p l e room_1 s m #[Value.ref b] below meth c H locs cells slots (lw_Z below #[Value.ref b] s) (F0 m 769 ls []) := by
  obtain ⟨hx, hb, hr, hml, hown, hts, hX, hbl, hlocks, hgv⟩ := id C0
  have hA : ∀ q : Nat, s.heap.size ≤ q → (fun q : Nat => s.heap.size ≤ q) q := fun _ h => h
  have hbA : ¬ (fun q : Nat => s.heap.size ≤ q) b := Nat.not_le.mpr hbl
  have hown : s.vm.findClass RL = some m.cls := hown
  have hV := hI.2.2.2.1
  have hS := hI.2.2.2.2
  obtain ⟨fs0, f0⟩ := lw_f0 hI.2.1
  obtain ⟨fs3, f3⟩ := lw_f3 hI.2.2.1
  refine lv_aload_n hx hb dL_law_769 rfl (lv_at hl 0 rfl) ?_
  refine lv_aload_n hx hb dL_law_770 rfl (lv_at hl 3 rfl) ?_
  refine lv_iload_n hx hb dL_law_771 rfl (lv_at hl 2 rfl) ?_
  refine lv_iconst (v := nI 1) hx hb dL_law_772 (by decide +kernel) ?_
  refine x_iadd hx hb (i) (1) dL_law_773 ?_
  refine va_sld (i := nI (i + 1)) hx hb hX hbl hbA hS (vp_in_nI (by omega) (by omega)) dL_law_774 ?_
  refine x_top (congrArg Value.int (show xs (nI (i + 1)).toNatClampNeg = xs (i + 1) from by rw [nI_clamp (by omega)])) ?_
  refine lv_aload_n hx hb dL_law_775 rfl (lv_at hl 3 rfl) ?_
  refine lv_iload_n hx hb dL_law_776 rfl (lv_at hl 2 rfl) ?_
  refine lv_iconst (v := nI 2) hx hb dL_law_777 (by decide +kernel) ?_
  refine x_iadd hx hb (i) (2) dL_law_778 ?_
  refine va_sld (i := nI (i + 2)) hx hb hX hbl hbA hS (vp_in_nI (by omega) (by omega)) dL_law_779 ?_
  refine x_top (congrArg Value.int (show xs (nI (i + 2)).toNatClampNeg = xs (i + 2) from by rw [nI_clamp (by omega)])) ?_
  refine lv_aload_n hx hb dL_law_780 rfl (lv_at hl 3 rfl) ?_
  refine lv_iload_n hx hb dL_law_781 rfl (lv_at hl 2 rfl) ?_
  refine lv_iconst (v := nI 3) hx hb dL_law_782 (by decide +kernel) ?_
  refine x_iadd hx hb (i) (3) dL_law_783 ?_
  refine va_sld (i := nI (i + 3)) hx hb hX hbl hbA hS (vp_in_nI (by omega) (by omega)) dL_law_784 ?_
  refine x_top (congrArg Value.int (show xs (nI (i + 3)).toNatClampNeg = xs (i + 3) from by rw [nI_clamp (by omega)])) ?_
  refine x_mi (va_runV (As := [.int (xs (i + 1)), .int (xs (i + 2)), .int (xs (i + 3))]) (rest := []) ⟨hx, hb, hml, hown, hts⟩ (c_X7_pair l D cy loc w H.size σ hI.1.1 hI.2.1 (xs (i + 1)) (xs (i + 2)) (xs (i + 3))) (cwV 3 hts gL_law_X7_pair rfl rfl rfl (by decide +kernel) ⟨Nat.le_of_ble_eq_true rfl, Nat.le_of_ble_eq_true rfl⟩) (x_preV hK hV f0 rfl) rfl rfl hl.1 rfl (lv_room (Nat.le_of_ble_eq_true rfl)) dL_law_785 ⟨(by show _ ≤ 600000; omega), (by show _ ≤ 7302250; omega)⟩) hV hS hA (fun r loc2 w2 H2 L2 hr hV2 hS2 => ?_)
  obtain ⟨hr, hO⟩ := hr
  have hr : r = (sp_pair σ (xs (i + 1)) (xs (i + 2)) (xs (i + 3))).1 := hr
  have hO : xOK cy loc w ((sp_pair σ (xs (i + 1)) (xs (i + 2)) (xs (i + 3))).2) (loc2, w2) := hO
  have hY2 : yR cy loc2 σ w2 := lw_y2 hI.2.2.1 hO.2.1
  have f4 : w2 300 = _ := (hO.2.1 300 (by decide)).1.trans f3
  have e4 : loc2 300 = loc 300 := (hO.2.1 300 (by decide)).2
  refine lv_aload_n hx hb dL_law_788 rfl (lv_at hl 1 rfl) ?_
  refine lw_st e4.symm ?_
  refine lv_aload_n hx hb dL_law_789 rfl (lv_at hl 3 rfl) ?_
  refine lv_iload_n hx hb dL_law_790 rfl (lv_at hl 2 rfl) ?_
  refine lv_iconst (v := nI 1) hx hb dL_law_791 (by decide +kernel) ?_
  refine x_iadd hx hb (i) (1) dL_law_792 ?_
  refine va_sld (i := nI (i + 1)) hx hb hX hbl hbA hS2 (vp_in_nI (by omega) (by omega)) dL_law_793 ?_
  refine x_top (congrArg Value.int (show xs (nI (i + 1)).toNatClampNeg = xs (i + 1) from by rw [nI_clamp (by omega)])) ?_
  refine lv_aload_n hx hb dL_law_794 rfl (lv_at hl 3 rfl) ?_
  refine lv_iload_n hx hb dL_law_795 rfl (lv_at hl 2 rfl) ?_
  refine lv_iconst (v := nI 2) hx hb dL_law_796 (by decide +kernel) ?_
  refine x_iadd hx hb (i) (2) dL_law_797 ?_
  refine va_sld (i := nI (i + 2)) hx hb hX hbl hbA hS2 (vp_in_nI (by omega) (by omega)) dL_law_798 ?_
  refine x_top (congrArg Value.int (show xs (nI (i + 2)).toNatClampNeg = xs (i + 2) from by rw [nI_clamp (by omega)])) ?_
  refine lv_aload_n hx hb dL_law_799 rfl (lv_at hl 3 rfl) ?_
  refine lv_iload_n hx hb dL_law_800 rfl (lv_at hl 2 rfl) ?_
  refine lv_iconst (v := nI 3) hx hb dL_law_801 (by decide +kernel) ?_
  refine x_iadd hx hb (i) (3) dL_law_802 ?_
  refine va_sld (i := nI (i + 3)) hx hb hX hbl hbA hS2 (vp_in_nI (by omega) (by omega)) dL_law_803 ?_
  refine x_top (congrArg Value.int (show xs (nI (i + 3)).toNatClampNeg = xs (i + 3) from by rw [nI_clamp (by omega)])) ?_
  refine x_mi (va_runV (As := [.int (xs (i + 1)), .int (xs (i + 2)), .int (xs (i + 3))]) (rest := [.int r]) ⟨hx, hb, hml, hown, hts⟩ (c_X8_pair l D cy loc2 w2 H2.size σ hI.1.1 hY2 (xs (i + 1)) (xs (i + 2)) (xs (i + 3))) (cwV 3 hts gL_law_X8_pair rfl rfl rfl (by decide +kernel) ⟨Nat.le_of_ble_eq_true rfl, Nat.le_of_ble_eq_true rfl⟩) (x_preV hK hV2 f4 rfl) rfl rfl hl.1 rfl (lv_room (Nat.le_of_ble_eq_true rfl)) dL_law_804 ⟨(by show _ ≤ 600000; omega), (by show _ ≤ 7302250; omega)⟩) hV2 hS2 hA (fun r2 loc3 w3 H3 L3 hr2 hV3 hS3 => ?_)
  obtain ⟨hr2, hO2⟩ := hr2
  have hr2 : r2 = (sp_pair σ (xs (i + 1)) (xs (i + 2)) (xs (i + 3))).1 := hr2
  have hO2 : yOK cy loc2 w2 ((sp_pair σ (xs (i + 1)) (xs (i + 2)) (xs (i + 3))).2) (loc3, w3) := hO2
  refine lv_icmp_eq (tgt := 1090) hx hb dL_law_807 (by decide) (fun _ => ?_) (fun hq => absurd (hr.trans hr2.symm) hq)
  refine W.widen (k := cells + 3) (n := slots + 193) (by omega) (by omega) ?_
  exact nxt loc3 w3 ((sp_pair σ (xs (i + 1)) (xs (i + 2)) (xs (i + 3))).2) H3 L3 (lw_two (gd_pair hI.1 (xs (i + 1)) (xs (i + 2)) (xs (i + 3))) hO hO2 hV3 hS3) (lw_l0 hO hO2) (lw_l3 hO hO2)

set_option maxHeartbeats 4000000 in
set_option maxRecDepth 100000 in
theorem law_c18 {p : Program} {e : Env} {s : State} {m : MethodId} {below : List Frame} {meth : Method} {c : Code} (l : Launch) {b L : Nat} {xs : Nat → Int32} (hL : L ≤ 3584) (C0 : lw_At p s m meth c b L xs) {D : va_G} {cy : Nat → ClassId} (hK : xK D cy s) {i : Nat} (hi : i + 7 ≤ L) {loc : Nat → Nat} {w : xM} {σ : xS} {H : Heap} {locs : List Loc} (hI : lwI D cy s loc w σ H locs) {cells slots : Nat} (hc : cells + 3 ≤ 600000) (hs : slots + 193 ≤ 7302250) {ls : Array Slot} (hl : lv_has ls 4 [(1, .ref (loc 0)), (2, .ref (loc 300)), (3, .int (nI i)), (0, .ref b)])
    (nxt : ∀ (loc' : Nat → Nat) (w' : xM) (σ' : xS) (H' : Heap) (locs' : List Loc), lwI D cy s loc' w' σ' H' locs' → loc' 0 = loc 0 → loc' 300 = loc 300 → W p l e room_1 s m #[Value.ref b] below meth c H' locs' (cells + 3) (slots + 193) (lw_Z below #[Value.ref b] s) (F0 m 1090 ls [])) : W p l e room_1 s m #[Value.ref b] below meth c H locs cells slots (lw_Z below #[Value.ref b] s) (F0 m 812 ls []) := by
  obtain ⟨hx, hb, hr, hml, hown, hts, hX, hbl, hlocks, hgv⟩ := id C0
  have hA : ∀ q : Nat, s.heap.size ≤ q → (fun q : Nat => s.heap.size ≤ q) q := fun _ h => h
  have hbA : ¬ (fun q : Nat => s.heap.size ≤ q) b := Nat.not_le.mpr hbl
  have hown : s.vm.findClass RL = some m.cls := hown
  have hV := hI.2.2.2.1
  have hS := hI.2.2.2.2
  obtain ⟨fs0, f0⟩ := lw_f0 hI.2.1
  obtain ⟨fs3, f3⟩ := lw_f3 hI.2.2.1
  refine lv_aload_n hx hb dL_law_812 rfl (lv_at hl 0 rfl) ?_
  refine lv_aload_n hx hb dL_law_813 rfl (lv_at hl 3 rfl) ?_
  refine lv_iload_n hx hb dL_law_814 rfl (lv_at hl 2 rfl) ?_
  refine lv_iconst (v := nI 1) hx hb dL_law_815 (by decide +kernel) ?_
  refine x_iadd hx hb (i) (1) dL_law_816 ?_
  refine va_sld (i := nI (i + 1)) hx hb hX hbl hbA hS (vp_in_nI (by omega) (by omega)) dL_law_817 ?_
  refine x_top (congrArg Value.int (show xs (nI (i + 1)).toNatClampNeg = xs (i + 1) from by rw [nI_clamp (by omega)])) ?_
  refine lv_aload_n hx hb dL_law_818 rfl (lv_at hl 3 rfl) ?_
  refine lv_iload_n hx hb dL_law_819 rfl (lv_at hl 2 rfl) ?_
  refine lv_iconst (v := nI 2) hx hb dL_law_820 (by decide +kernel) ?_
  refine x_iadd hx hb (i) (2) dL_law_821 ?_
  refine va_sld (i := nI (i + 2)) hx hb hX hbl hbA hS (vp_in_nI (by omega) (by omega)) dL_law_822 ?_
  refine x_top (congrArg Value.int (show xs (nI (i + 2)).toNatClampNeg = xs (i + 2) from by rw [nI_clamp (by omega)])) ?_
  refine lv_aload_n hx hb dL_law_823 rfl (lv_at hl 3 rfl) ?_
  refine lv_iload_n hx hb dL_law_824 rfl (lv_at hl 2 rfl) ?_
  refine lv_iconst (v := nI 3) hx hb dL_law_825 (by decide +kernel) ?_
  refine x_iadd hx hb (i) (3) dL_law_826 ?_
  refine va_sld (i := nI (i + 3)) hx hb hX hbl hbA hS (vp_in_nI (by omega) (by omega)) dL_law_827 ?_
  refine x_top (congrArg Value.int (show xs (nI (i + 3)).toNatClampNeg = xs (i + 3) from by rw [nI_clamp (by omega)])) ?_
  refine x_ci (va_runV (As := [.int (xs (i + 1)), .int (xs (i + 2)), .int (xs (i + 3))]) (rest := []) ⟨hx, hb, hml, hown, hts⟩ (c_X7_patch l D cy loc w H.size σ hI.1.1 hI.2.1 (xs (i + 1)) (xs (i + 2)) (xs (i + 3))) (cwV 3 hts gL_law_X7_patch rfl rfl rfl (by decide +kernel) ⟨Nat.le_of_ble_eq_true rfl, Nat.le_of_ble_eq_true rfl⟩) (x_preV hK hV f0 rfl) rfl rfl hl.1 rfl (lv_room (Nat.le_of_ble_eq_true rfl)) dL_law_828 ⟨(by show _ ≤ 600000; omega), (by show _ ≤ 7302250; omega)⟩) (fun r hr => ?_)
  have hr : r = sp_patch σ (xs (i + 1)) (xs (i + 2)) (xs (i + 3)) := hr
  refine lv_aload_n hx hb dL_law_831 rfl (lv_at hl 1 rfl) ?_
  refine lv_aload_n hx hb dL_law_832 rfl (lv_at hl 3 rfl) ?_
  refine lv_iload_n hx hb dL_law_833 rfl (lv_at hl 2 rfl) ?_
  refine lv_iconst (v := nI 1) hx hb dL_law_834 (by decide +kernel) ?_
  refine x_iadd hx hb (i) (1) dL_law_835 ?_
  refine va_sld (i := nI (i + 1)) hx hb hX hbl hbA hS (vp_in_nI (by omega) (by omega)) dL_law_836 ?_
  refine x_top (congrArg Value.int (show xs (nI (i + 1)).toNatClampNeg = xs (i + 1) from by rw [nI_clamp (by omega)])) ?_
  refine lv_aload_n hx hb dL_law_837 rfl (lv_at hl 3 rfl) ?_
  refine lv_iload_n hx hb dL_law_838 rfl (lv_at hl 2 rfl) ?_
  refine lv_iconst (v := nI 2) hx hb dL_law_839 (by decide +kernel) ?_
  refine x_iadd hx hb (i) (2) dL_law_840 ?_
  refine va_sld (i := nI (i + 2)) hx hb hX hbl hbA hS (vp_in_nI (by omega) (by omega)) dL_law_841 ?_
  refine x_top (congrArg Value.int (show xs (nI (i + 2)).toNatClampNeg = xs (i + 2) from by rw [nI_clamp (by omega)])) ?_
  refine lv_aload_n hx hb dL_law_842 rfl (lv_at hl 3 rfl) ?_
  refine lv_iload_n hx hb dL_law_843 rfl (lv_at hl 2 rfl) ?_
  refine lv_iconst (v := nI 3) hx hb dL_law_844 (by decide +kernel) ?_
  refine x_iadd hx hb (i) (3) dL_law_845 ?_
  refine va_sld (i := nI (i + 3)) hx hb hX hbl hbA hS (vp_in_nI (by omega) (by omega)) dL_law_846 ?_
  refine x_top (congrArg Value.int (show xs (nI (i + 3)).toNatClampNeg = xs (i + 3) from by rw [nI_clamp (by omega)])) ?_
  refine x_ci (va_runV (As := [.int (xs (i + 1)), .int (xs (i + 2)), .int (xs (i + 3))]) (rest := [.int r]) ⟨hx, hb, hml, hown, hts⟩ (c_X8_patch l D cy loc w H.size σ hI.1.1 hI.2.2.1 (xs (i + 1)) (xs (i + 2)) (xs (i + 3))) (cwV 3 hts gL_law_X8_patch rfl rfl rfl (by decide +kernel) ⟨Nat.le_of_ble_eq_true rfl, Nat.le_of_ble_eq_true rfl⟩) (x_preV hK hV f3 rfl) rfl rfl hl.1 rfl (lv_room (Nat.le_of_ble_eq_true rfl)) dL_law_847 ⟨(by show _ ≤ 600000; omega), (by show _ ≤ 7302250; omega)⟩) (fun r2 hr2 => ?_)
  have hr2 : r2 = sp_patch σ (xs (i + 1)) (xs (i + 2)) (xs (i + 3)) := hr2
  refine lv_icmp_eq (tgt := 1090) hx hb dL_law_850 (by decide) (fun _ => ?_) (fun hq => absurd (hr.trans hr2.symm) hq)
  refine W.widen (k := cells + 3) (n := slots + 193) (by omega) (by omega) ?_
  exact nxt loc w σ H locs hI rfl rfl

set_option maxHeartbeats 4000000 in
set_option maxRecDepth 100000 in
theorem law_c19 {p : Program} {e : Env} {s : State} {m : MethodId} {below : List Frame} {meth : Method} {c : Code} (l : Launch) {b L : Nat} {xs : Nat → Int32} (hL : L ≤ 3584) (C0 : lw_At p s m meth c b L xs) {D : va_G} {cy : Nat → ClassId} (hK : xK D cy s) {i : Nat} (hi : i + 7 ≤ L) {loc : Nat → Nat} {w : xM} {σ : xS} {H : Heap} {locs : List Loc} (hI : lwI D cy s loc w σ H locs) {cells slots : Nat} (hc : cells + 3 ≤ 600000) (hs : slots + 193 ≤ 7302250) {ls : Array Slot} (hl : lv_has ls 4 [(1, .ref (loc 0)), (2, .ref (loc 300)), (3, .int (nI i)), (0, .ref b)])
    (nxt : ∀ (loc' : Nat → Nat) (w' : xM) (σ' : xS) (H' : Heap) (locs' : List Loc), lwI D cy s loc' w' σ' H' locs' → loc' 0 = loc 0 → loc' 300 = loc 300 → W p l e room_1 s m #[Value.ref b] below meth c H' locs' (cells + 3) (slots + 193) (lw_Z below #[Value.ref b] s) (F0 m 1090 ls [])) : W p l e room_1 s m #[Value.ref b] below meth c H locs cells slots (lw_Z below #[Value.ref b] s) (F0 m 855 ls []) := by
  obtain ⟨hx, hb, hr, hml, hown, hts, hX, hbl, hlocks, hgv⟩ := id C0
  have hA : ∀ q : Nat, s.heap.size ≤ q → (fun q : Nat => s.heap.size ≤ q) q := fun _ h => h
  have hbA : ¬ (fun q : Nat => s.heap.size ≤ q) b := Nat.not_le.mpr hbl
  have hown : s.vm.findClass RL = some m.cls := hown
  have hV := hI.2.2.2.1
  have hS := hI.2.2.2.2
  obtain ⟨fs0, f0⟩ := lw_f0 hI.2.1
  obtain ⟨fs3, f3⟩ := lw_f3 hI.2.2.1
  refine lv_aload_n hx hb dL_law_855 rfl (lv_at hl 0 rfl) ?_
  refine lv_aload_n hx hb dL_law_856 rfl (lv_at hl 3 rfl) ?_
  refine lv_iload_n hx hb dL_law_857 rfl (lv_at hl 2 rfl) ?_
  refine lv_iconst (v := nI 1) hx hb dL_law_858 (by decide +kernel) ?_
  refine x_iadd hx hb (i) (1) dL_law_859 ?_
  refine va_sld (i := nI (i + 1)) hx hb hX hbl hbA hS (vp_in_nI (by omega) (by omega)) dL_law_860 ?_
  refine x_top (congrArg Value.int (show xs (nI (i + 1)).toNatClampNeg = xs (i + 1) from by rw [nI_clamp (by omega)])) ?_
  refine x_mi (va_runV (As := [.int (xs (i + 1))]) (rest := []) ⟨hx, hb, hml, hown, hts⟩ (c_X7_bench l D cy loc w H.size σ hI.1.1 hI.2.1 (hI.1.2.2.2.2.2.2.1 _ (Nat.le_refl _)) (xs (i + 1))) (cwV 1 hts gL_law_X7_bench rfl rfl rfl (by decide +kernel) ⟨Nat.le_of_ble_eq_true rfl, Nat.le_of_ble_eq_true rfl⟩) (x_preV hK hV f0 rfl) rfl rfl hl.1 rfl (lv_room (Nat.le_of_ble_eq_true rfl)) dL_law_861 ⟨(by show _ ≤ 600000; omega), (by show _ ≤ 7302250; omega)⟩) hV hS hA (fun r loc2 w2 H2 L2 hr hV2 hS2 => ?_)
  obtain ⟨hr, hO⟩ := hr
  have hr : r = (sp_bench σ (xs (i + 1))).1 := hr
  have hO : xOK cy loc w ((sp_bench σ (xs (i + 1))).2) (loc2, w2) := hO
  have hY2 : yR cy loc2 σ w2 := lw_y2 hI.2.2.1 hO.2.1
  have f4 : w2 300 = _ := (hO.2.1 300 (by decide)).1.trans f3
  have e4 : loc2 300 = loc 300 := (hO.2.1 300 (by decide)).2
  refine lv_aload_n hx hb dL_law_864 rfl (lv_at hl 1 rfl) ?_
  refine lw_st e4.symm ?_
  refine lv_aload_n hx hb dL_law_865 rfl (lv_at hl 3 rfl) ?_
  refine lv_iload_n hx hb dL_law_866 rfl (lv_at hl 2 rfl) ?_
  refine lv_iconst (v := nI 1) hx hb dL_law_867 (by decide +kernel) ?_
  refine x_iadd hx hb (i) (1) dL_law_868 ?_
  refine va_sld (i := nI (i + 1)) hx hb hX hbl hbA hS2 (vp_in_nI (by omega) (by omega)) dL_law_869 ?_
  refine x_top (congrArg Value.int (show xs (nI (i + 1)).toNatClampNeg = xs (i + 1) from by rw [nI_clamp (by omega)])) ?_
  refine x_mi (va_runV (As := [.int (xs (i + 1))]) (rest := [.int r]) ⟨hx, hb, hml, hown, hts⟩ (c_X8_bench l D cy loc2 w2 H2.size σ hI.1.1 hY2 (xs (i + 1))) (cwV 1 hts gL_law_X8_bench rfl rfl rfl (by decide +kernel) ⟨Nat.le_of_ble_eq_true rfl, Nat.le_of_ble_eq_true rfl⟩) (x_preV hK hV2 f4 rfl) rfl rfl hl.1 rfl (lv_room (Nat.le_of_ble_eq_true rfl)) dL_law_870 ⟨(by show _ ≤ 600000; omega), (by show _ ≤ 7302250; omega)⟩) hV2 hS2 hA (fun r2 loc3 w3 H3 L3 hr2 hV3 hS3 => ?_)
  obtain ⟨hr2, hO2⟩ := hr2
  have hr2 : r2 = (sp_bench σ (xs (i + 1))).1 := hr2
  have hO2 : yOK cy loc2 w2 ((sp_bench σ (xs (i + 1))).2) (loc3, w3) := hO2
  refine lv_icmp_eq (tgt := 1090) hx hb dL_law_873 (by decide) (fun _ => ?_) (fun hq => absurd (hr.trans hr2.symm) hq)
  refine W.widen (k := cells + 3) (n := slots + 193) (by omega) (by omega) ?_
  exact nxt loc3 w3 ((sp_bench σ (xs (i + 1))).2) H3 L3 (lw_two (gd_bench hI.1 (xs (i + 1))) hO hO2 hV3 hS3) (lw_l0 hO hO2) (lw_l3 hO hO2)

set_option maxHeartbeats 4000000 in
set_option maxRecDepth 100000 in
theorem law_c20 {p : Program} {e : Env} {s : State} {m : MethodId} {below : List Frame} {meth : Method} {c : Code} (l : Launch) {b L : Nat} {xs : Nat → Int32} (hL : L ≤ 3584) (C0 : lw_At p s m meth c b L xs) {D : va_G} {cy : Nat → ClassId} (hK : xK D cy s) {i : Nat} (hi : i + 7 ≤ L) {loc : Nat → Nat} {w : xM} {σ : xS} {H : Heap} {locs : List Loc} (hI : lwI D cy s loc w σ H locs) {cells slots : Nat} (hc : cells + 3 ≤ 600000) (hs : slots + 193 ≤ 7302250) {ls : Array Slot} (hl : lv_has ls 4 [(1, .ref (loc 0)), (2, .ref (loc 300)), (3, .int (nI i)), (0, .ref b)])
    (nxt : ∀ (loc' : Nat → Nat) (w' : xM) (σ' : xS) (H' : Heap) (locs' : List Loc), lwI D cy s loc' w' σ' H' locs' → loc' 0 = loc 0 → loc' 300 = loc 300 → W p l e room_1 s m #[Value.ref b] below meth c H' locs' (cells + 3) (slots + 193) (lw_Z below #[Value.ref b] s) (F0 m 1090 ls [])) : W p l e room_1 s m #[Value.ref b] below meth c H locs cells slots (lw_Z below #[Value.ref b] s) (F0 m 878 ls []) := by
  obtain ⟨hx, hb, hr, hml, hown, hts, hX, hbl, hlocks, hgv⟩ := id C0
  have hA : ∀ q : Nat, s.heap.size ≤ q → (fun q : Nat => s.heap.size ≤ q) q := fun _ h => h
  have hbA : ¬ (fun q : Nat => s.heap.size ≤ q) b := Nat.not_le.mpr hbl
  have hown : s.vm.findClass RL = some m.cls := hown
  have hV := hI.2.2.2.1
  have hS := hI.2.2.2.2
  obtain ⟨fs0, f0⟩ := lw_f0 hI.2.1
  obtain ⟨fs3, f3⟩ := lw_f3 hI.2.2.1
  refine lv_aload_n hx hb dL_law_878 rfl (lv_at hl 0 rfl) ?_
  refine lv_aload_n hx hb dL_law_879 rfl (lv_at hl 3 rfl) ?_
  refine lv_iload_n hx hb dL_law_880 rfl (lv_at hl 2 rfl) ?_
  refine lv_iconst (v := nI 1) hx hb dL_law_881 (by decide +kernel) ?_
  refine x_iadd hx hb (i) (1) dL_law_882 ?_
  refine va_sld (i := nI (i + 1)) hx hb hX hbl hbA hS (vp_in_nI (by omega) (by omega)) dL_law_883 ?_
  refine x_top (congrArg Value.int (show xs (nI (i + 1)).toNatClampNeg = xs (i + 1) from by rw [nI_clamp (by omega)])) ?_
  refine lv_aload_n hx hb dL_law_884 rfl (lv_at hl 3 rfl) ?_
  refine lv_iload_n hx hb dL_law_885 rfl (lv_at hl 2 rfl) ?_
  refine lv_iconst (v := nI 2) hx hb dL_law_886 (by decide +kernel) ?_
  refine x_iadd hx hb (i) (2) dL_law_887 ?_
  refine va_sld (i := nI (i + 2)) hx hb hX hbl hbA hS (vp_in_nI (by omega) (by omega)) dL_law_888 ?_
  refine x_top (congrArg Value.int (show xs (nI (i + 2)).toNatClampNeg = xs (i + 2) from by rw [nI_clamp (by omega)])) ?_
  refine x_mi (va_runV (As := [.int (xs (i + 1)), .int (xs (i + 2))]) (rest := []) ⟨hx, hb, hml, hown, hts⟩ (c_X7_work l D cy loc w H.size σ hI.1.1 hI.2.1 (xs (i + 1)) (xs (i + 2))) (cwV 2 hts gL_law_X7_work rfl rfl rfl (by decide +kernel) ⟨Nat.le_of_ble_eq_true rfl, Nat.le_of_ble_eq_true rfl⟩) (x_preV hK hV f0 rfl) rfl rfl hl.1 rfl (lv_room (Nat.le_of_ble_eq_true rfl)) dL_law_889 ⟨(by show _ ≤ 600000; omega), (by show _ ≤ 7302250; omega)⟩) hV hS hA (fun r loc2 w2 H2 L2 hr hV2 hS2 => ?_)
  obtain ⟨hr, hO⟩ := hr
  have hr : r = (sp_work σ (xs (i + 1)) (xs (i + 2))).1 := hr
  have hO : xOK cy loc w ((sp_work σ (xs (i + 1)) (xs (i + 2))).2) (loc2, w2) := hO
  have hY2 : yR cy loc2 σ w2 := lw_y2 hI.2.2.1 hO.2.1
  have f4 : w2 300 = _ := (hO.2.1 300 (by decide)).1.trans f3
  have e4 : loc2 300 = loc 300 := (hO.2.1 300 (by decide)).2
  refine lv_aload_n hx hb dL_law_892 rfl (lv_at hl 1 rfl) ?_
  refine lw_st e4.symm ?_
  refine lv_aload_n hx hb dL_law_893 rfl (lv_at hl 3 rfl) ?_
  refine lv_iload_n hx hb dL_law_894 rfl (lv_at hl 2 rfl) ?_
  refine lv_iconst (v := nI 1) hx hb dL_law_895 (by decide +kernel) ?_
  refine x_iadd hx hb (i) (1) dL_law_896 ?_
  refine va_sld (i := nI (i + 1)) hx hb hX hbl hbA hS2 (vp_in_nI (by omega) (by omega)) dL_law_897 ?_
  refine x_top (congrArg Value.int (show xs (nI (i + 1)).toNatClampNeg = xs (i + 1) from by rw [nI_clamp (by omega)])) ?_
  refine lv_aload_n hx hb dL_law_898 rfl (lv_at hl 3 rfl) ?_
  refine lv_iload_n hx hb dL_law_899 rfl (lv_at hl 2 rfl) ?_
  refine lv_iconst (v := nI 2) hx hb dL_law_900 (by decide +kernel) ?_
  refine x_iadd hx hb (i) (2) dL_law_901 ?_
  refine va_sld (i := nI (i + 2)) hx hb hX hbl hbA hS2 (vp_in_nI (by omega) (by omega)) dL_law_902 ?_
  refine x_top (congrArg Value.int (show xs (nI (i + 2)).toNatClampNeg = xs (i + 2) from by rw [nI_clamp (by omega)])) ?_
  refine x_mi (va_runV (As := [.int (xs (i + 1)), .int (xs (i + 2))]) (rest := [.int r]) ⟨hx, hb, hml, hown, hts⟩ (c_X8_work l D cy loc2 w2 H2.size σ hI.1.1 hY2 (xs (i + 1)) (xs (i + 2)) hI.1.2.2.2.2.2.2.2.1) (cwV 2 hts gL_law_X8_work rfl rfl rfl (by decide +kernel) ⟨Nat.le_of_ble_eq_true rfl, Nat.le_of_ble_eq_true rfl⟩) (x_preV hK hV2 f4 rfl) rfl rfl hl.1 rfl (lv_room (Nat.le_of_ble_eq_true rfl)) dL_law_903 ⟨(by show _ ≤ 600000; omega), (by show _ ≤ 7302250; omega)⟩) hV2 hS2 hA (fun r2 loc3 w3 H3 L3 hr2 hV3 hS3 => ?_)
  obtain ⟨hr2, hO2⟩ := hr2
  have hr2 : r2 = (sp_work σ (xs (i + 1)) (xs (i + 2))).1 := hr2
  have hO2 : yOK cy loc2 w2 ((sp_work σ (xs (i + 1)) (xs (i + 2))).2) (loc3, w3) := hO2
  refine lv_icmp_eq (tgt := 1090) hx hb dL_law_906 (by decide) (fun _ => ?_) (fun hq => absurd (hr.trans hr2.symm) hq)
  refine W.widen (k := cells + 3) (n := slots + 193) (by omega) (by omega) ?_
  exact nxt loc3 w3 ((sp_work σ (xs (i + 1)) (xs (i + 2))).2) H3 L3 (lw_two (gd_work hI.1 (xs (i + 1)) (xs (i + 2))) hO hO2 hV3 hS3) (lw_l0 hO hO2) (lw_l3 hO hO2)

set_option maxHeartbeats 4000000 in
set_option maxRecDepth 100000 in
theorem law_c21 {p : Program} {e : Env} {s : State} {m : MethodId} {below : List Frame} {meth : Method} {c : Code} (l : Launch) {b L : Nat} {xs : Nat → Int32} (hL : L ≤ 3584) (C0 : lw_At p s m meth c b L xs) {D : va_G} {cy : Nat → ClassId} (hK : xK D cy s) {i : Nat} (hi : i + 7 ≤ L) {loc : Nat → Nat} {w : xM} {σ : xS} {H : Heap} {locs : List Loc} (hI : lwI D cy s loc w σ H locs) {cells slots : Nat} (hc : cells + 3 ≤ 600000) (hs : slots + 193 ≤ 7302250) {ls : Array Slot} (hl : lv_has ls 4 [(1, .ref (loc 0)), (2, .ref (loc 300)), (3, .int (nI i)), (0, .ref b)])
    (nxt : ∀ (loc' : Nat → Nat) (w' : xM) (σ' : xS) (H' : Heap) (locs' : List Loc), lwI D cy s loc' w' σ' H' locs' → loc' 0 = loc 0 → loc' 300 = loc 300 → W p l e room_1 s m #[Value.ref b] below meth c H' locs' (cells + 3) (slots + 193) (lw_Z below #[Value.ref b] s) (F0 m 1090 ls [])) : W p l e room_1 s m #[Value.ref b] below meth c H locs cells slots (lw_Z below #[Value.ref b] s) (F0 m 911 ls []) := by
  obtain ⟨hx, hb, hr, hml, hown, hts, hX, hbl, hlocks, hgv⟩ := id C0
  have hA : ∀ q : Nat, s.heap.size ≤ q → (fun q : Nat => s.heap.size ≤ q) q := fun _ h => h
  have hbA : ¬ (fun q : Nat => s.heap.size ≤ q) b := Nat.not_le.mpr hbl
  have hown : s.vm.findClass RL = some m.cls := hown
  have hV := hI.2.2.2.1
  have hS := hI.2.2.2.2
  obtain ⟨fs0, f0⟩ := lw_f0 hI.2.1
  obtain ⟨fs3, f3⟩ := lw_f3 hI.2.2.1
  refine lv_aload_n hx hb dL_law_911 rfl (lv_at hl 0 rfl) ?_
  refine x_ci (va_runV (As := []) (rest := []) ⟨hx, hb, hml, hown, hts⟩ (c_X7_where l D cy loc w H.size σ hI.1.1 hI.2.1 ) (cwV 0 hts gL_law_X7_where rfl rfl rfl (by decide +kernel) ⟨Nat.le_of_ble_eq_true rfl, Nat.le_of_ble_eq_true rfl⟩) (x_preV hK hV f0 rfl) rfl rfl hl.1 rfl (lv_room (Nat.le_of_ble_eq_true rfl)) dL_law_912 ⟨(by show _ ≤ 600000; omega), (by show _ ≤ 7302250; omega)⟩) (fun r hr => ?_)
  have hr : r = σ.1 10 0 := hr
  refine lv_aload_n hx hb dL_law_915 rfl (lv_at hl 1 rfl) ?_
  refine x_ci (va_runV (As := []) (rest := [.int r]) ⟨hx, hb, hml, hown, hts⟩ (c_X8_where l D cy loc w H.size σ hI.1.1 hI.2.2.1 ) (cwV 0 hts gL_law_X8_where rfl rfl rfl (by decide +kernel) ⟨Nat.le_of_ble_eq_true rfl, Nat.le_of_ble_eq_true rfl⟩) (x_preV hK hV f3 rfl) rfl rfl hl.1 rfl (lv_room (Nat.le_of_ble_eq_true rfl)) dL_law_916 ⟨(by show _ ≤ 600000; omega), (by show _ ≤ 7302250; omega)⟩) (fun r2 hr2 => ?_)
  have hr2 : r2 = σ.1 10 0 := hr2
  refine lv_icmp_eq (tgt := 1090) hx hb dL_law_919 (by decide) (fun _ => ?_) (fun hq => absurd (hr.trans hr2.symm) hq)
  refine W.widen (k := cells + 3) (n := slots + 193) (by omega) (by omega) ?_
  exact nxt loc w σ H locs hI rfl rfl
