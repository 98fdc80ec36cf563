/-! the law, case by case -/
set_option maxHeartbeats 4000000 in
set_option maxRecDepth 100000 in
theorem law_c22 {p : Program} {e : Env} {s : State} {m : MethodId} {below : List Frame} {meth : Method} {c : Code} (l : Launch) {b L : Nat} {xs : Nat → Int32} (hL : L ≤ 3584) (C0 : lw_At p s m meth c b L xs) {D : va_G} {cy : Nat → ClassId} (hK : xK D cy s) {i : Nat} (hi : i + 7 ≤ L) {loc : Nat → Nat} {w : xM} {σ : xS} {H : Heap} {locs : List Loc} (hI : lwI D cy s loc w σ H locs) {cells slots : Nat} (hc : cells + 3 ≤ 600000) (hs : slots + 193 ≤ 7302250) {ls : Array Slot} (hl : lv_has ls 4 [(1, .ref (loc 0)), (2, .ref (loc 300)), (3, .int (nI i)), (0, .ref b)])
    (nxt : ∀ (loc' : Nat → Nat) (w' : xM) (σ' : xS) (H' : Heap) (locs' : List Loc), lwI D cy s loc' w' σ' H' locs' → loc' 0 = loc 0 → loc' 300 = loc 300 → W p l e room_1 s m #[Value.ref b] below meth c H' locs' (cells + 3) (slots + 193) (lw_Z below #[Value.ref b] s) (F0 m 1090 ls [])) : W p l e room_1 s m #[Value.ref b] below meth c H locs cells slots (lw_Z below #[Value.ref b] s) (F0 m 924 ls []) := by
  obtain ⟨hx, hb, hr, hml, hown, hts, hX, hbl, hlocks, hgv⟩ := id C0
  have hA : ∀ q : Nat, s.heap.size ≤ q → (fun q : Nat => s.heap.size ≤ q) q := fun _ h => h
  have hbA : ¬ (fun q : Nat => s.heap.size ≤ q) b := Nat.not_le.mpr hbl
  have hown : s.vm.findClass RL = some m.cls := hown
  have hV := hI.2.2.2.1
  have hS := hI.2.2.2.2
  obtain ⟨fs0, f0⟩ := lw_f0 hI.2.1
  obtain ⟨fs3, f3⟩ := lw_f3 hI.2.2.1
  refine lv_aload_n hx hb dL_law_924 rfl (lv_at hl 0 rfl) ?_
  refine lv_aload_n hx hb dL_law_925 rfl (lv_at hl 3 rfl) ?_
  refine lv_iload_n hx hb dL_law_926 rfl (lv_at hl 2 rfl) ?_
  refine lv_iconst (v := nI 1) hx hb dL_law_927 (by decide +kernel) ?_
  refine x_iadd hx hb (i) (1) dL_law_928 ?_
  refine va_sld (i := nI (i + 1)) hx hb hX hbl hbA hS (vp_in_nI (by omega) (by omega)) dL_law_929 ?_
  refine x_top (congrArg Value.int (show xs (nI (i + 1)).toNatClampNeg = xs (i + 1) from by rw [nI_clamp (by omega)])) ?_
  refine lv_aload_n hx hb dL_law_930 rfl (lv_at hl 3 rfl) ?_
  refine lv_iload_n hx hb dL_law_931 rfl (lv_at hl 2 rfl) ?_
  refine lv_iconst (v := nI 2) hx hb dL_law_932 (by decide +kernel) ?_
  refine x_iadd hx hb (i) (2) dL_law_933 ?_
  refine va_sld (i := nI (i + 2)) hx hb hX hbl hbA hS (vp_in_nI (by omega) (by omega)) dL_law_934 ?_
  refine x_top (congrArg Value.int (show xs (nI (i + 2)).toNatClampNeg = xs (i + 2) from by rw [nI_clamp (by omega)])) ?_
  refine lv_aload_n hx hb dL_law_935 rfl (lv_at hl 3 rfl) ?_
  refine lv_iload_n hx hb dL_law_936 rfl (lv_at hl 2 rfl) ?_
  refine lv_iconst (v := nI 3) hx hb dL_law_937 (by decide +kernel) ?_
  refine x_iadd hx hb (i) (3) dL_law_938 ?_
  refine va_sld (i := nI (i + 3)) hx hb hX hbl hbA hS (vp_in_nI (by omega) (by omega)) dL_law_939 ?_
  refine x_top (congrArg Value.int (show xs (nI (i + 3)).toNatClampNeg = xs (i + 3) from by rw [nI_clamp (by omega)])) ?_
  refine lv_aload_n hx hb dL_law_940 rfl (lv_at hl 3 rfl) ?_
  refine lv_iload_n hx hb dL_law_941 rfl (lv_at hl 2 rfl) ?_
  refine lv_iconst (v := nI 4) hx hb dL_law_942 (by decide +kernel) ?_
  refine x_iadd hx hb (i) (4) dL_law_943 ?_
  refine va_sld (i := nI (i + 4)) hx hb hX hbl hbA hS (vp_in_nI (by omega) (by omega)) dL_law_944 ?_
  refine x_top (congrArg Value.int (show xs (nI (i + 4)).toNatClampNeg = xs (i + 4) from by rw [nI_clamp (by omega)])) ?_
  refine lv_aload_n hx hb dL_law_945 rfl (lv_at hl 3 rfl) ?_
  refine lv_iload_n hx hb dL_law_946 rfl (lv_at hl 2 rfl) ?_
  refine lv_iconst (v := nI 5) hx hb dL_law_947 (by decide +kernel) ?_
  refine x_iadd hx hb (i) (5) dL_law_948 ?_
  refine va_sld (i := nI (i + 5)) hx hb hX hbl hbA hS (vp_in_nI (by omega) (by omega)) dL_law_949 ?_
  refine x_top (congrArg Value.int (show xs (nI (i + 5)).toNatClampNeg = xs (i + 5) from by rw [nI_clamp (by omega)])) ?_
  refine x_mi (va_runV (As := [.int (xs (i + 1)), .int (xs (i + 2)), .int (xs (i + 3)), .int (xs (i + 4)), .int (xs (i + 5))]) (rest := []) ⟨hx, hb, hml, hown, hts⟩ (c_X7_saddle l D cy loc w H.size σ hI.1.1 hI.2.1 (xs (i + 1)) (xs (i + 2)) (xs (i + 3)) (xs (i + 4)) (xs (i + 5))) (cwV 5 hts gL_law_X7_saddle rfl rfl rfl (by decide +kernel) ⟨Nat.le_of_ble_eq_true rfl, Nat.le_of_ble_eq_true rfl⟩) (x_preV hK hV f0 rfl) rfl rfl hl.1 rfl (lv_room (Nat.le_of_ble_eq_true rfl)) dL_law_950 ⟨(by show _ ≤ 600000; omega), (by show _ ≤ 7302250; omega)⟩) hV hS hA (fun r loc2 w2 H2 L2 hr hV2 hS2 => ?_)
  obtain ⟨hr, hO⟩ := hr
  have hr : r = (sp_saddle σ (xs (i + 1)) (xs (i + 2)) (xs (i + 3)) (xs (i + 4)) (xs (i + 5))).1 := hr
  have hO : xOK cy loc w ((sp_saddle σ (xs (i + 1)) (xs (i + 2)) (xs (i + 3)) (xs (i + 4)) (xs (i + 5))).2) (loc2, w2) := hO
  have hY2 : yR cy loc2 σ w2 := lw_y2 hI.2.2.1 hO.2.1
  have f4 : w2 300 = _ := (hO.2.1 300 (by decide)).1.trans f3
  have e4 : loc2 300 = loc 300 := (hO.2.1 300 (by decide)).2
  refine lv_aload_n hx hb dL_law_953 rfl (lv_at hl 1 rfl) ?_
  refine lw_st e4.symm ?_
  refine lv_aload_n hx hb dL_law_954 rfl (lv_at hl 3 rfl) ?_
  refine lv_iload_n hx hb dL_law_955 rfl (lv_at hl 2 rfl) ?_
  refine lv_iconst (v := nI 1) hx hb dL_law_956 (by decide +kernel) ?_
  refine x_iadd hx hb (i) (1) dL_law_957 ?_
  refine va_sld (i := nI (i + 1)) hx hb hX hbl hbA hS2 (vp_in_nI (by omega) (by omega)) dL_law_958 ?_
  refine x_top (congrArg Value.int (show xs (nI (i + 1)).toNatClampNeg = xs (i + 1) from by rw [nI_clamp (by omega)])) ?_
  refine lv_aload_n hx hb dL_law_959 rfl (lv_at hl 3 rfl) ?_
  refine lv_iload_n hx hb dL_law_960 rfl (lv_at hl 2 rfl) ?_
  refine lv_iconst (v := nI 2) hx hb dL_law_961 (by decide +kernel) ?_
  refine x_iadd hx hb (i) (2) dL_law_962 ?_
  refine va_sld (i := nI (i + 2)) hx hb hX hbl hbA hS2 (vp_in_nI (by omega) (by omega)) dL_law_963 ?_
  refine x_top (congrArg Value.int (show xs (nI (i + 2)).toNatClampNeg = xs (i + 2) from by rw [nI_clamp (by omega)])) ?_
  refine lv_aload_n hx hb dL_law_964 rfl (lv_at hl 3 rfl) ?_
  refine lv_iload_n hx hb dL_law_965 rfl (lv_at hl 2 rfl) ?_
  refine lv_iconst (v := nI 3) hx hb dL_law_966 (by decide +kernel) ?_
  refine x_iadd hx hb (i) (3) dL_law_967 ?_
  refine va_sld (i := nI (i + 3)) hx hb hX hbl hbA hS2 (vp_in_nI (by omega) (by omega)) dL_law_968 ?_
  refine x_top (congrArg Value.int (show xs (nI (i + 3)).toNatClampNeg = xs (i + 3) from by rw [nI_clamp (by omega)])) ?_
  refine lv_aload_n hx hb dL_law_969 rfl (lv_at hl 3 rfl) ?_
  refine lv_iload_n hx hb dL_law_970 rfl (lv_at hl 2 rfl) ?_
  refine lv_iconst (v := nI 4) hx hb dL_law_971 (by decide +kernel) ?_
  refine x_iadd hx hb (i) (4) dL_law_972 ?_
  refine va_sld (i := nI (i + 4)) hx hb hX hbl hbA hS2 (vp_in_nI (by omega) (by omega)) dL_law_973 ?_
  refine x_top (congrArg Value.int (show xs (nI (i + 4)).toNatClampNeg = xs (i + 4) from by rw [nI_clamp (by omega)])) ?_
  refine lv_aload_n hx hb dL_law_974 rfl (lv_at hl 3 rfl) ?_
  refine lv_iload_n hx hb dL_law_975 rfl (lv_at hl 2 rfl) ?_
  refine lv_iconst (v := nI 5) hx hb dL_law_976 (by decide +kernel) ?_
  refine x_iadd hx hb (i) (5) dL_law_977 ?_
  refine va_sld (i := nI (i + 5)) hx hb hX hbl hbA hS2 (vp_in_nI (by omega) (by omega)) dL_law_978 ?_
  refine x_top (congrArg Value.int (show xs (nI (i + 5)).toNatClampNeg = xs (i + 5) from by rw [nI_clamp (by omega)])) ?_
  refine x_mi (va_runV (As := [.int (xs (i + 1)), .int (xs (i + 2)), .int (xs (i + 3)), .int (xs (i + 4)), .int (xs (i + 5))]) (rest := [.int r]) ⟨hx, hb, hml, hown, hts⟩ (c_X8_saddle l D cy loc2 w2 H2.size σ hI.1.1 hY2 (xs (i + 1)) (xs (i + 2)) (xs (i + 3)) (xs (i + 4)) (xs (i + 5))) (cwV 5 hts gL_law_X8_saddle rfl rfl rfl (by decide +kernel) ⟨Nat.le_of_ble_eq_true rfl, Nat.le_of_ble_eq_true rfl⟩) (x_preV hK hV2 f4 rfl) rfl rfl hl.1 rfl (lv_room (Nat.le_of_ble_eq_true rfl)) dL_law_979 ⟨(by show _ ≤ 600000; omega), (by show _ ≤ 7302250; omega)⟩) hV2 hS2 hA (fun r2 loc3 w3 H3 L3 hr2 hV3 hS3 => ?_)
  obtain ⟨hr2, hO2⟩ := hr2
  have hr2 : r2 = (sp_saddle σ (xs (i + 1)) (xs (i + 2)) (xs (i + 3)) (xs (i + 4)) (xs (i + 5))).1 := hr2
  have hO2 : yOK cy loc2 w2 ((sp_saddle σ (xs (i + 1)) (xs (i + 2)) (xs (i + 3)) (xs (i + 4)) (xs (i + 5))).2) (loc3, w3) := hO2
  refine lv_icmp_eq (tgt := 1090) hx hb dL_law_982 (by decide) (fun _ => ?_) (fun hq => absurd (hr.trans hr2.symm) hq)
  refine W.widen (k := cells + 3) (n := slots + 193) (by omega) (by omega) ?_
  exact nxt loc3 w3 ((sp_saddle σ (xs (i + 1)) (xs (i + 2)) (xs (i + 3)) (xs (i + 4)) (xs (i + 5))).2) H3 L3 (lw_two (gd_saddle hI.1 (xs (i + 1)) (xs (i + 2)) (xs (i + 3)) (xs (i + 4)) (xs (i + 5))) hO hO2 hV3 hS3) (lw_l0 hO hO2) (lw_l3 hO hO2)

set_option maxHeartbeats 4000000 in
set_option maxRecDepth 100000 in
theorem law_c23 {p : Program} {e : Env} {s : State} {m : MethodId} {below : List Frame} {meth : Method} {c : Code} (l : Launch) {b L : Nat} {xs : Nat → Int32} (hL : L ≤ 3584) (C0 : lw_At p s m meth c b L xs) {D : va_G} {cy : Nat → ClassId} (hK : xK D cy s) {i : Nat} (hi : i + 7 ≤ L) {loc : Nat → Nat} {w : xM} {σ : xS} {H : Heap} {locs : List Loc} (hI : lwI D cy s loc w σ H locs) {cells slots : Nat} (hc : cells + 3 ≤ 600000) (hs : slots + 193 ≤ 7302250) {ls : Array Slot} (hl : lv_has ls 4 [(1, .ref (loc 0)), (2, .ref (loc 300)), (3, .int (nI i)), (0, .ref b)])
    (nxt : ∀ (loc' : Nat → Nat) (w' : xM) (σ' : xS) (H' : Heap) (locs' : List Loc), lwI D cy s loc' w' σ' H' locs' → loc' 0 = loc 0 → loc' 300 = loc 300 → W p l e room_1 s m #[Value.ref b] below meth c H' locs' (cells + 3) (slots + 193) (lw_Z below #[Value.ref b] s) (F0 m 1090 ls [])) : W p l e room_1 s m #[Value.ref b] below meth c H locs cells slots (lw_Z below #[Value.ref b] s) (F0 m 987 ls []) := by
  obtain ⟨hx, hb, hr, hml, hown, hts, hX, hbl, hlocks, hgv⟩ := id C0
  have hA : ∀ q : Nat, s.heap.size ≤ q → (fun q : Nat => s.heap.size ≤ q) q := fun _ h => h
  have hbA : ¬ (fun q : Nat => s.heap.size ≤ q) b := Nat.not_le.mpr hbl
  have hown : s.vm.findClass RL = some m.cls := hown
  have hV := hI.2.2.2.1
  have hS := hI.2.2.2.2
  obtain ⟨fs0, f0⟩ := lw_f0 hI.2.1
  obtain ⟨fs3, f3⟩ := lw_f3 hI.2.2.1
  refine lv_aload_n hx hb dL_law_987 rfl (lv_at hl 0 rfl) ?_
  refine lv_aload_n hx hb dL_law_988 rfl (lv_at hl 3 rfl) ?_
  refine lv_iload_n hx hb dL_law_989 rfl (lv_at hl 2 rfl) ?_
  refine lv_iconst (v := nI 1) hx hb dL_law_990 (by decide +kernel) ?_
  refine x_iadd hx hb (i) (1) dL_law_991 ?_
  refine va_sld (i := nI (i + 1)) hx hb hX hbl hbA hS (vp_in_nI (by omega) (by omega)) dL_law_992 ?_
  refine x_top (congrArg Value.int (show xs (nI (i + 1)).toNatClampNeg = xs (i + 1) from by rw [nI_clamp (by omega)])) ?_
  refine lv_aload_n hx hb dL_law_993 rfl (lv_at hl 3 rfl) ?_
  refine lv_iload_n hx hb dL_law_994 rfl (lv_at hl 2 rfl) ?_
  refine lv_iconst (v := nI 2) hx hb dL_law_995 (by decide +kernel) ?_
  refine x_iadd hx hb (i) (2) dL_law_996 ?_
  refine va_sld (i := nI (i + 2)) hx hb hX hbl hbA hS (vp_in_nI (by omega) (by omega)) dL_law_997 ?_
  refine x_top (congrArg Value.int (show xs (nI (i + 2)).toNatClampNeg = xs (i + 2) from by rw [nI_clamp (by omega)])) ?_
  refine x_ci (va_runV (As := [.int (xs (i + 1)), .int (xs (i + 2))]) (rest := []) ⟨hx, hb, hml, hown, hts⟩ (c_X7_free l D cy loc w H.size σ hI.1.1 hI.2.1 hI.1.2.2.1 (xs (i + 1)) (xs (i + 2))) (cwV 2 hts gL_law_X7_free rfl rfl rfl (by decide +kernel) ⟨Nat.le_of_ble_eq_true rfl, Nat.le_of_ble_eq_true rfl⟩) (x_preV hK hV f0 rfl) rfl rfl hl.1 rfl (lv_room (Nat.le_of_ble_eq_true rfl)) dL_law_998 ⟨(by show _ ≤ 600000; omega), (by show _ ≤ 7302250; omega)⟩) (fun r hr => ?_)
  have hr : r = sp_free σ (xs (i + 1)) (xs (i + 2)) := hr
  refine lv_aload_n hx hb dL_law_1001 rfl (lv_at hl 1 rfl) ?_
  refine lv_aload_n hx hb dL_law_1002 rfl (lv_at hl 3 rfl) ?_
  refine lv_iload_n hx hb dL_law_1003 rfl (lv_at hl 2 rfl) ?_
  refine lv_iconst (v := nI 1) hx hb dL_law_1004 (by decide +kernel) ?_
  refine x_iadd hx hb (i) (1) dL_law_1005 ?_
  refine va_sld (i := nI (i + 1)) hx hb hX hbl hbA hS (vp_in_nI (by omega) (by omega)) dL_law_1006 ?_
  refine x_top (congrArg Value.int (show xs (nI (i + 1)).toNatClampNeg = xs (i + 1) from by rw [nI_clamp (by omega)])) ?_
  refine lv_aload_n hx hb dL_law_1007 rfl (lv_at hl 3 rfl) ?_
  refine lv_iload_n hx hb dL_law_1008 rfl (lv_at hl 2 rfl) ?_
  refine lv_iconst (v := nI 2) hx hb dL_law_1009 (by decide +kernel) ?_
  refine x_iadd hx hb (i) (2) dL_law_1010 ?_
  refine va_sld (i := nI (i + 2)) hx hb hX hbl hbA hS (vp_in_nI (by omega) (by omega)) dL_law_1011 ?_
  refine x_top (congrArg Value.int (show xs (nI (i + 2)).toNatClampNeg = xs (i + 2) from by rw [nI_clamp (by omega)])) ?_
  refine x_ci (va_runV (As := [.int (xs (i + 1)), .int (xs (i + 2))]) (rest := [.int r]) ⟨hx, hb, hml, hown, hts⟩ (c_X8_free l D cy loc w H.size σ hI.1.1 hI.2.2.1 (xs (i + 1)) (xs (i + 2)) hI.1.2.2.1) (cwV 2 hts gL_law_X8_free rfl rfl rfl (by decide +kernel) ⟨Nat.le_of_ble_eq_true rfl, Nat.le_of_ble_eq_true rfl⟩) (x_preV hK hV f3 rfl) rfl rfl hl.1 rfl (lv_room (Nat.le_of_ble_eq_true rfl)) dL_law_1012 ⟨(by show _ ≤ 600000; omega), (by show _ ≤ 7302250; omega)⟩) (fun r2 hr2 => ?_)
  have hr2 : r2 = sp_free σ (xs (i + 1)) (xs (i + 2)) := hr2
  refine lv_icmp_eq (tgt := 1090) hx hb dL_law_1015 (by decide) (fun _ => ?_) (fun hq => absurd (hr.trans hr2.symm) hq)
  refine W.widen (k := cells + 3) (n := slots + 193) (by omega) (by omega) ?_
  exact nxt loc w σ H locs hI rfl rfl

set_option maxHeartbeats 4000000 in
set_option maxRecDepth 100000 in
theorem law_c24 {p : Program} {e : Env} {s : State} {m : MethodId} {below : List Frame} {meth : Method} {c : Code} (l : Launch) {b L : Nat} {xs : Nat → Int32} (hL : L ≤ 3584) (C0 : lw_At p s m meth c b L xs) {D : va_G} {cy : Nat → ClassId} (hK : xK D cy s) {i : Nat} (hi : i + 7 ≤ L) {loc : Nat → Nat} {w : xM} {σ : xS} {H : Heap} {locs : List Loc} (hI : lwI D cy s loc w σ H locs) {cells slots : Nat} (hc : cells + 3 ≤ 600000) (hs : slots + 193 ≤ 7302250) {ls : Array Slot} (hl : lv_has ls 4 [(1, .ref (loc 0)), (2, .ref (loc 300)), (3, .int (nI i)), (0, .ref b)])
    (nxt : ∀ (loc' : Nat → Nat) (w' : xM) (σ' : xS) (H' : Heap) (locs' : List Loc), lwI D cy s loc' w' σ' H' locs' → loc' 0 = loc 0 → loc' 300 = loc 300 → W p l e room_1 s m #[Value.ref b] below meth c H' locs' (cells + 3) (slots + 193) (lw_Z below #[Value.ref b] s) (F0 m 1090 ls [])) : W p l e room_1 s m #[Value.ref b] below meth c H locs cells slots (lw_Z below #[Value.ref b] s) (F0 m 1020 ls []) := by
  obtain ⟨hx, hb, hr, hml, hown, hts, hX, hbl, hlocks, hgv⟩ := id C0
  have hA : ∀ q : Nat, s.heap.size ≤ q → (fun q : Nat => s.heap.size ≤ q) q := fun _ h => h
  have hbA : ¬ (fun q : Nat => s.heap.size ≤ q) b := Nat.not_le.mpr hbl
  have hown : s.vm.findClass RL = some m.cls := hown
  have hV := hI.2.2.2.1
  have hS := hI.2.2.2.2
  obtain ⟨fs0, f0⟩ := lw_f0 hI.2.1
  obtain ⟨fs3, f3⟩ := lw_f3 hI.2.2.1
  refine lv_aload_n hx hb dL_law_1020 rfl (lv_at hl 0 rfl) ?_
  refine lv_aload_n hx hb dL_law_1021 rfl (lv_at hl 3 rfl) ?_
  refine lv_iload_n hx hb dL_law_1022 rfl (lv_at hl 2 rfl) ?_
  refine lv_iconst (v := nI 1) hx hb dL_law_1023 (by decide +kernel) ?_
  refine x_iadd hx hb (i) (1) dL_law_1024 ?_
  refine va_sld (i := nI (i + 1)) hx hb hX hbl hbA hS (vp_in_nI (by omega) (by omega)) dL_law_1025 ?_
  refine x_top (congrArg Value.int (show xs (nI (i + 1)).toNatClampNeg = xs (i + 1) from by rw [nI_clamp (by omega)])) ?_
  refine lv_aload_n hx hb dL_law_1026 rfl (lv_at hl 3 rfl) ?_
  refine lv_iload_n hx hb dL_law_1027 rfl (lv_at hl 2 rfl) ?_
  refine lv_iconst (v := nI 2) hx hb dL_law_1028 (by decide +kernel) ?_
  refine x_iadd hx hb (i) (2) dL_law_1029 ?_
  refine va_sld (i := nI (i + 2)) hx hb hX hbl hbA hS (vp_in_nI (by omega) (by omega)) dL_law_1030 ?_
  refine x_top (congrArg Value.int (show xs (nI (i + 2)).toNatClampNeg = xs (i + 2) from by rw [nI_clamp (by omega)])) ?_
  refine x_ci (va_runV (As := [.int (xs (i + 1)), .int (xs (i + 2))]) (rest := []) ⟨hx, hb, hml, hown, hts⟩ (c_X7_changed l D cy loc w H.size σ hI.1.1 hI.2.1 hI.1.2.2.1 (xs (i + 1)) (xs (i + 2))) (cwV 2 hts gL_law_X7_changed rfl rfl rfl (by decide +kernel) ⟨Nat.le_of_ble_eq_true rfl, Nat.le_of_ble_eq_true rfl⟩) (x_preV hK hV f0 rfl) rfl rfl hl.1 rfl (lv_room (Nat.le_of_ble_eq_true rfl)) dL_law_1031 ⟨(by show _ ≤ 600000; omega), (by show _ ≤ 7302250; omega)⟩) (fun r hr => ?_)
  have hr : r = sp_changed σ (xs (i + 1)) (xs (i + 2)) := hr
  refine lv_aload_n hx hb dL_law_1034 rfl (lv_at hl 1 rfl) ?_
  refine lv_aload_n hx hb dL_law_1035 rfl (lv_at hl 3 rfl) ?_
  refine lv_iload_n hx hb dL_law_1036 rfl (lv_at hl 2 rfl) ?_
  refine lv_iconst (v := nI 1) hx hb dL_law_1037 (by decide +kernel) ?_
  refine x_iadd hx hb (i) (1) dL_law_1038 ?_
  refine va_sld (i := nI (i + 1)) hx hb hX hbl hbA hS (vp_in_nI (by omega) (by omega)) dL_law_1039 ?_
  refine x_top (congrArg Value.int (show xs (nI (i + 1)).toNatClampNeg = xs (i + 1) from by rw [nI_clamp (by omega)])) ?_
  refine lv_aload_n hx hb dL_law_1040 rfl (lv_at hl 3 rfl) ?_
  refine lv_iload_n hx hb dL_law_1041 rfl (lv_at hl 2 rfl) ?_
  refine lv_iconst (v := nI 2) hx hb dL_law_1042 (by decide +kernel) ?_
  refine x_iadd hx hb (i) (2) dL_law_1043 ?_
  refine va_sld (i := nI (i + 2)) hx hb hX hbl hbA hS (vp_in_nI (by omega) (by omega)) dL_law_1044 ?_
  refine x_top (congrArg Value.int (show xs (nI (i + 2)).toNatClampNeg = xs (i + 2) from by rw [nI_clamp (by omega)])) ?_
  refine x_ci (va_runV (As := [.int (xs (i + 1)), .int (xs (i + 2))]) (rest := [.int r]) ⟨hx, hb, hml, hown, hts⟩ (c_X8_changed l D cy loc w H.size σ hI.1.1 hI.2.2.1 (xs (i + 1)) (xs (i + 2)) hI.1.2.2.1) (cwV 2 hts gL_law_X8_changed rfl rfl rfl (by decide +kernel) ⟨Nat.le_of_ble_eq_true rfl, Nat.le_of_ble_eq_true rfl⟩) (x_preV hK hV f3 rfl) rfl rfl hl.1 rfl (lv_room (Nat.le_of_ble_eq_true rfl)) dL_law_1045 ⟨(by show _ ≤ 600000; omega), (by show _ ≤ 7302250; omega)⟩) (fun r2 hr2 => ?_)
  have hr2 : r2 = sp_changed σ (xs (i + 1)) (xs (i + 2)) := hr2
  refine lv_icmp_eq (tgt := 1090) hx hb dL_law_1048 (by decide) (fun _ => ?_) (fun hq => absurd (hr.trans hr2.symm) hq)
  refine W.widen (k := cells + 3) (n := slots + 193) (by omega) (by omega) ?_
  exact nxt loc w σ H locs hI rfl rfl

set_option maxHeartbeats 4000000 in
set_option maxRecDepth 100000 in
theorem law_c25 {p : Program} {e : Env} {s : State} {m : MethodId} {below : List Frame} {meth : Method} {c : Code} (l : Launch) {b L : Nat} {xs : Nat → Int32} (hL : L ≤ 3584) (C0 : lw_At p s m meth c b L xs) {D : va_G} {cy : Nat → ClassId} (hK : xK D cy s) {i : Nat} (hi : i + 7 ≤ L) {loc : Nat → Nat} {w : xM} {σ : xS} {H : Heap} {locs : List Loc} (hI : lwI D cy s loc w σ H locs) {cells slots : Nat} (hc : cells + 3 ≤ 600000) (hs : slots + 193 ≤ 7302250) {ls : Array Slot} (hl : lv_has ls 4 [(1, .ref (loc 0)), (2, .ref (loc 300)), (3, .int (nI i)), (0, .ref b)])
    (nxt : ∀ (loc' : Nat → Nat) (w' : xM) (σ' : xS) (H' : Heap) (locs' : List Loc), lwI D cy s loc' w' σ' H' locs' → loc' 0 = loc 0 → loc' 300 = loc 300 → W p l e room_1 s m #[Value.ref b] below meth c H' locs' (cells + 3) (slots + 193) (lw_Z below #[Value.ref b] s) (F0 m 1090 ls [])) : W p l e room_1 s m #[Value.ref b] below meth c H locs cells slots (lw_Z below #[Value.ref b] s) (F0 m 1053 ls []) := by
  obtain ⟨hx, hb, hr, hml, hown, hts, hX, hbl, hlocks, hgv⟩ := id C0
  have hA : ∀ q : Nat, s.heap.size ≤ q → (fun q : Nat => s.heap.size ≤ q) q := fun _ h => h
  have hbA : ¬ (fun q : Nat => s.heap.size ≤ q) b := Nat.not_le.mpr hbl
  have hown : s.vm.findClass RL = some m.cls := hown
  have hV := hI.2.2.2.1
  have hS := hI.2.2.2.2
  obtain ⟨fs0, f0⟩ := lw_f0 hI.2.1
  obtain ⟨fs3, f3⟩ := lw_f3 hI.2.2.1
  refine lv_aload_n hx hb dL_law_1053 rfl (lv_at hl 0 rfl) ?_
  refine lv_aload_n hx hb dL_law_1054 rfl (lv_at hl 3 rfl) ?_
  refine lv_iload_n hx hb dL_law_1055 rfl (lv_at hl 2 rfl) ?_
  refine lv_iconst (v := nI 1) hx hb dL_law_1056 (by decide +kernel) ?_
  refine x_iadd hx hb (i) (1) dL_law_1057 ?_
  refine va_sld (i := nI (i + 1)) hx hb hX hbl hbA hS (vp_in_nI (by omega) (by omega)) dL_law_1058 ?_
  refine x_top (congrArg Value.int (show xs (nI (i + 1)).toNatClampNeg = xs (i + 1) from by rw [nI_clamp (by omega)])) ?_
  refine x_ci (va_runV (As := [.int (xs (i + 1))]) (rest := []) ⟨hx, hb, hml, hown, hts⟩ (c_X7_count l D cy loc w H.size σ hI.1.1 hI.2.1 (xs (i + 1))) (cwV 1 hts gL_law_X7_count rfl rfl rfl (by decide +kernel) ⟨Nat.le_of_ble_eq_true rfl, Nat.le_of_ble_eq_true rfl⟩) (x_preV hK hV f0 rfl) rfl rfl hl.1 rfl (lv_room (Nat.le_of_ble_eq_true rfl)) dL_law_1059 ⟨(by show _ ≤ 600000; omega), (by show _ ≤ 7302250; omega)⟩) (fun r hr => ?_)
  have hr : r = sp_count σ (xs (i + 1)) := hr
  refine lv_aload_n hx hb dL_law_1062 rfl (lv_at hl 1 rfl) ?_
  refine lv_aload_n hx hb dL_law_1063 rfl (lv_at hl 3 rfl) ?_
  refine lv_iload_n hx hb dL_law_1064 rfl (lv_at hl 2 rfl) ?_
  refine lv_iconst (v := nI 1) hx hb dL_law_1065 (by decide +kernel) ?_
  refine x_iadd hx hb (i) (1) dL_law_1066 ?_
  refine va_sld (i := nI (i + 1)) hx hb hX hbl hbA hS (vp_in_nI (by omega) (by omega)) dL_law_1067 ?_
  refine x_top (congrArg Value.int (show xs (nI (i + 1)).toNatClampNeg = xs (i + 1) from by rw [nI_clamp (by omega)])) ?_
  refine x_ci (va_runV (As := [.int (xs (i + 1))]) (rest := [.int r]) ⟨hx, hb, hml, hown, hts⟩ (c_X8_count l D cy loc w H.size σ hI.1.1 hI.2.2.1 (xs (i + 1)) hI.1.2.2.2.2.2.2.2.2.2.1) (cwV 1 hts gL_law_X8_count rfl rfl rfl (by decide +kernel) ⟨Nat.le_of_ble_eq_true rfl, Nat.le_of_ble_eq_true rfl⟩) (x_preV hK hV f3 rfl) rfl rfl hl.1 rfl (lv_room (Nat.le_of_ble_eq_true rfl)) dL_law_1068 ⟨(by show _ ≤ 600000; omega), (by show _ ≤ 7302250; omega)⟩) (fun r2 hr2 => ?_)
  have hr2 : r2 = sp_count σ (xs (i + 1)) := hr2
  refine lv_icmp_eq (tgt := 1090) hx hb dL_law_1071 (by decide) (fun _ => ?_) (fun hq => absurd (hr.trans hr2.symm) hq)
  refine W.widen (k := cells + 3) (n := slots + 193) (by omega) (by omega) ?_
  exact nxt loc w σ H locs hI rfl rfl

set_option maxHeartbeats 4000000 in
set_option maxRecDepth 100000 in
theorem law_c26 {p : Program} {e : Env} {s : State} {m : MethodId} {below : List Frame} {meth : Method} {c : Code} (l : Launch) {b L : Nat} {xs : Nat → Int32} (hL : L ≤ 3584) (C0 : lw_At p s m meth c b L xs) {D : va_G} {cy : Nat → ClassId} (hK : xK D cy s) {i : Nat} (hi : i + 7 ≤ L) {loc : Nat → Nat} {w : xM} {σ : xS} {H : Heap} {locs : List Loc} (hI : lwI D cy s loc w σ H locs) {cells slots : Nat} (hc : cells + 3 ≤ 600000) (hs : slots + 193 ≤ 7302250) {ls : Array Slot} (hl : lv_has ls 4 [(1, .ref (loc 0)), (2, .ref (loc 300)), (3, .int (nI i)), (0, .ref b)])
    (nxt : ∀ (loc' : Nat → Nat) (w' : xM) (σ' : xS) (H' : Heap) (locs' : List Loc), lwI D cy s loc' w' σ' H' locs' → loc' 0 = loc 0 → loc' 300 = loc 300 → W p l e room_1 s m #[Value.ref b] below meth c H' locs' (cells + 3) (slots + 193) (lw_Z below #[Value.ref b] s) (F0 m 1090 ls [])) : W p l e room_1 s m #[Value.ref b] below meth c H locs cells slots (lw_Z below #[Value.ref b] s) (F0 m 1076 ls []) := by
  obtain ⟨hx, hb, hr, hml, hown, hts, hX, hbl, hlocks, hgv⟩ := id C0
  have hA : ∀ q : Nat, s.heap.size ≤ q → (fun q : Nat => s.heap.size ≤ q) q := fun _ h => h
  have hbA : ¬ (fun q : Nat => s.heap.size ≤ q) b := Nat.not_le.mpr hbl
  have hown : s.vm.findClass RL = some m.cls := hown
  have hV := hI.2.2.2.1
  have hS := hI.2.2.2.2
  obtain ⟨fs0, f0⟩ := lw_f0 hI.2.1
  obtain ⟨fs3, f3⟩ := lw_f3 hI.2.2.1
  refine lv_aload_n hx hb dL_law_1076 rfl (lv_at hl 0 rfl) ?_
  refine x_cl (va_runV (As := []) (rest := []) ⟨hx, hb, hml, hown, hts⟩ (c_X7_digest l D cy loc w H.size σ hI.1.1 hI.2.1 ) (cwV 0 hts gL_law_X7_digest rfl rfl rfl (by decide +kernel) ⟨Nat.le_of_ble_eq_true rfl, Nat.le_of_ble_eq_true rfl⟩) (x_preV hK hV f0 rfl) rfl rfl hl.1 rfl (lv_room (Nat.le_of_ble_eq_true rfl)) dL_law_1077 ⟨(by show _ ≤ 600000; omega), (by show _ ≤ 7302250; omega)⟩) (fun r hr => ?_)
  have hr : r = sp_digest σ := hr
  refine lv_aload_n hx hb dL_law_1080 rfl (lv_at hl 1 rfl) ?_
  refine x_cl (va_runV (As := []) (rest := [.long r]) ⟨hx, hb, hml, hown, hts⟩ (c_X8_digest l D cy loc w H.size σ hI.1.1 hI.2.2.1 ) (cwV 0 hts gL_law_X8_digest rfl rfl rfl (by decide +kernel) ⟨Nat.le_of_ble_eq_true rfl, Nat.le_of_ble_eq_true rfl⟩) (x_preV hK hV f3 rfl) rfl rfl hl.1 rfl (lv_room (Nat.le_of_ble_eq_true rfl)) dL_law_1081 ⟨(by show _ ≤ 600000; omega), (by show _ ≤ 7302250; omega)⟩) (fun r2 hr2 => ?_)
  have hr2 : r2 = sp_digest σ := hr2
  refine x_lcmp hx hb dL_law_1084 ?_
  refine lv_if_eq (tgt := 1090) hx hb dL_law_1085 (by decide) (fun _ => ?_) (fun hq => absurd (by rw [hr, hr2]; exact lw_cmp _) hq)
  refine W.widen (k := cells + 3) (n := slots + 193) (by omega) (by omega) ?_
  exact nxt loc w σ H locs hI rfl rfl
