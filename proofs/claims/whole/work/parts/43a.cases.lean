/-! the law, case by case -/
set_option maxHeartbeats 4000000 in
set_option maxRecDepth 100000 in
theorem law_c0 {p : Program} {e : Env} {s : State} {m : MethodId} {below : List Frame} {meth : Method} {c : Code} (l : Launch) {b L : Nat} {xs : Nat → Int32} (hL : L ≤ 3584) (C0 : lw_At p s m meth c b L xs) {D : va_G} {cy : Nat → ClassId} (hK : xK D cy s) {i : Nat} (hi : i + 7 ≤ L) {loc : Nat → Nat} {w : xM} {σ : xS} {H : Heap} {locs : List Loc} (hI : lwI D cy s loc w σ H locs) {cells slots : Nat} (hc : cells + 3 ≤ 600000) (hs : slots + 193 ≤ 7302250) {ls : Array Slot} (hl : lv_has ls 4 [(1, .ref (loc 0)), (2, .ref (loc 300)), (3, .int (nI i)), (0, .ref b)])
    (nxt : ∀ (loc' : Nat → Nat) (w' : xM) (σ' : xS) (H' : Heap) (locs' : List Loc), lwI D cy s loc' w' σ' H' locs' → loc' 0 = loc 0 → loc' 300 = loc 300 → W p l e room_1 s m #[Value.ref b] below meth c H' locs' (cells + 3) (slots + 193) (lw_Z below #[Value.ref b] s) (F0 m 1090 ls [])) : W p l e room_1 s m #[Value.ref b] below meth c H locs cells slots (lw_Z below #[Value.ref b] s) (F0 m 156 ls []) := by
  obtain ⟨hx, hb, hr, hml, hown, hts, hX, hbl, hlocks, hgv⟩ := id C0
  have hA : ∀ q : Nat, s.heap.size ≤ q → (fun q : Nat => s.heap.size ≤ q) q := fun _ h => h
  have hbA : ¬ (fun q : Nat => s.heap.size ≤ q) b := Nat.not_le.mpr hbl
  have hown : s.vm.findClass RL = some m.cls := hown
  have hV := hI.2.2.2.1
  have hS := hI.2.2.2.2
  obtain ⟨fs0, f0⟩ := lw_f0 hI.2.1
  obtain ⟨fs3, f3⟩ := lw_f3 hI.2.2.1
  refine lv_aload_n hx hb dL_law_156 rfl (lv_at hl 0 rfl) ?_
  refine x_mi (va_runV (As := []) (rest := []) ⟨hx, hb, hml, hown, hts⟩ (c_X7_horse l D cy loc w H.size σ hI.1.1 hI.2.1 (hI.1.2.2.2.1 _ (Nat.le_refl _))) (cwV 0 hts gL_law_X7_horse rfl rfl rfl (by decide +kernel) ⟨Nat.le_of_ble_eq_true rfl, Nat.le_of_ble_eq_true rfl⟩) (x_preV hK hV f0 rfl) rfl rfl hl.1 rfl (lv_room (Nat.le_of_ble_eq_true rfl)) dL_law_157 ⟨(by show _ ≤ 600000; omega), (by show _ ≤ 7302250; omega)⟩) hV hS hA (fun r loc2 w2 H2 L2 hr hV2 hS2 => ?_)
  obtain ⟨hr, hO⟩ := hr
  have hr : r = (sp_horse σ).1 := hr
  have hO : xOK cy loc w ((sp_horse σ).2) (loc2, w2) := hO
  have hY2 : yR cy loc2 σ w2 := lw_y2 hI.2.2.1 hO.2.1
  have f4 : w2 300 = _ := (hO.2.1 300 (by decide)).1.trans f3
  have e4 : loc2 300 = loc 300 := (hO.2.1 300 (by decide)).2
  refine lv_aload_n hx hb dL_law_160 rfl (lv_at hl 1 rfl) ?_
  refine lw_st e4.symm ?_
  refine x_mi (va_runV (As := []) (rest := [.int r]) ⟨hx, hb, hml, hown, hts⟩ (c_X8_horse l D cy loc2 w2 H2.size σ hI.1.1 hY2 ) (cwV 0 hts gL_law_X8_horse rfl rfl rfl (by decide +kernel) ⟨Nat.le_of_ble_eq_true rfl, Nat.le_of_ble_eq_true rfl⟩) (x_preV hK hV2 f4 rfl) rfl rfl hl.1 rfl (lv_room (Nat.le_of_ble_eq_true rfl)) dL_law_161 ⟨(by show _ ≤ 600000; omega), (by show _ ≤ 7302250; omega)⟩) hV2 hS2 hA (fun r2 loc3 w3 H3 L3 hr2 hV3 hS3 => ?_)
  obtain ⟨hr2, hO2⟩ := hr2
  have hr2 : r2 = (sp_horse σ).1 := hr2
  have hO2 : yOK cy loc2 w2 ((sp_horse σ).2) (loc3, w3) := hO2
  refine lv_icmp_eq (tgt := 1090) hx hb dL_law_164 (by decide) (fun _ => ?_) (fun hq => absurd (hr.trans hr2.symm) hq)
  refine W.widen (k := cells + 3) (n := slots + 193) (by omega) (by omega) ?_
  exact nxt loc3 w3 ((sp_horse σ).2) H3 L3 (lw_two (gd_horse hI.1 ) hO hO2 hV3 hS3) (lw_l0 hO hO2) (lw_l3 hO hO2)

set_option maxHeartbeats 4000000 in
set_option maxRecDepth 100000 in
theorem law_c1 {p : Program} {e : Env} {s : State} {m : MethodId} {below : List Frame} {meth : Method} {c : Code} (l : Launch) {b L : Nat} {xs : Nat → Int32} (hL : L ≤ 3584) (C0 : lw_At p s m meth c b L xs) {D : va_G} {cy : Nat → ClassId} (hK : xK D cy s) {i : Nat} (hi : i + 7 ≤ L) {loc : Nat → Nat} {w : xM} {σ : xS} {H : Heap} {locs : List Loc} (hI : lwI D cy s loc w σ H locs) {cells slots : Nat} (hc : cells + 3 ≤ 600000) (hs : slots + 193 ≤ 7302250) {ls : Array Slot} (hl : lv_has ls 4 [(1, .ref (loc 0)), (2, .ref (loc 300)), (3, .int (nI i)), (0, .ref b)])
    (nxt : ∀ (loc' : Nat → Nat) (w' : xM) (σ' : xS) (H' : Heap) (locs' : List Loc), lwI D cy s loc' w' σ' H' locs' → loc' 0 = loc 0 → loc' 300 = loc 300 → W p l e room_1 s m #[Value.ref b] below meth c H' locs' (cells + 3) (slots + 193) (lw_Z below #[Value.ref b] s) (F0 m 1090 ls [])) : W p l e room_1 s m #[Value.ref b] below meth c H locs cells slots (lw_Z below #[Value.ref b] s) (F0 m 169 ls []) := by
  obtain ⟨hx, hb, hr, hml, hown, hts, hX, hbl, hlocks, hgv⟩ := id C0
  have hA : ∀ q : Nat, s.heap.size ≤ q → (fun q : Nat => s.heap.size ≤ q) q := fun _ h => h
  have hbA : ¬ (fun q : Nat => s.heap.size ≤ q) b := Nat.not_le.mpr hbl
  have hown : s.vm.findClass RL = some m.cls := hown
  have hV := hI.2.2.2.1
  have hS := hI.2.2.2.2
  obtain ⟨fs0, f0⟩ := lw_f0 hI.2.1
  obtain ⟨fs3, f3⟩ := lw_f3 hI.2.2.1
  refine lv_aload_n hx hb dL_law_169 rfl (lv_at hl 0 rfl) ?_
  refine lv_aload_n hx hb dL_law_170 rfl (lv_at hl 3 rfl) ?_
  refine lv_iload_n hx hb dL_law_171 rfl (lv_at hl 2 rfl) ?_
  refine lv_iconst (v := nI 1) hx hb dL_law_172 (by decide +kernel) ?_
  refine x_iadd hx hb (i) (1) dL_law_173 ?_
  refine va_sld (i := nI (i + 1)) hx hb hX hbl hbA hS (vp_in_nI (by omega) (by omega)) dL_law_174 ?_
  refine x_top (congrArg Value.int (show xs (nI (i + 1)).toNatClampNeg = xs (i + 1) from by rw [nI_clamp (by omega)])) ?_
  refine lv_aload_n hx hb dL_law_175 rfl (lv_at hl 3 rfl) ?_
  refine lv_iload_n hx hb dL_law_176 rfl (lv_at hl 2 rfl) ?_
  refine lv_iconst (v := nI 2) hx hb dL_law_177 (by decide +kernel) ?_
  refine x_iadd hx hb (i) (2) dL_law_178 ?_
  refine va_sld (i := nI (i + 2)) hx hb hX hbl hbA hS (vp_in_nI (by omega) (by omega)) dL_law_179 ?_
  refine x_top (congrArg Value.int (show xs (nI (i + 2)).toNatClampNeg = xs (i + 2) from by rw [nI_clamp (by omega)])) ?_
  refine x_mi (va_runV (As := [.int (xs (i + 1)), .int (xs (i + 2))]) (rest := []) ⟨hx, hb, hml, hown, hts⟩ (c_X7_height l D cy loc w H.size σ hI.1.1 hI.2.1 (xs (i + 1)) (xs (i + 2))) (cwV 2 hts gL_law_X7_height rfl rfl rfl (by decide +kernel) ⟨Nat.le_of_ble_eq_true rfl, Nat.le_of_ble_eq_true rfl⟩) (x_preV hK hV f0 rfl) rfl rfl hl.1 rfl (lv_room (Nat.le_of_ble_eq_true rfl)) dL_law_180 ⟨(by show _ ≤ 600000; omega), (by show _ ≤ 7302250; omega)⟩) hV hS hA (fun r loc2 w2 H2 L2 hr hV2 hS2 => ?_)
  obtain ⟨hr, hO⟩ := hr
  have hr : r = (sp_height σ (xs (i + 1)) (xs (i + 2))).1 := hr
  have hO : xOK cy loc w ((sp_height σ (xs (i + 1)) (xs (i + 2))).2) (loc2, w2) := hO
  have hY2 : yR cy loc2 σ w2 := lw_y2 hI.2.2.1 hO.2.1
  have f4 : w2 300 = _ := (hO.2.1 300 (by decide)).1.trans f3
  have e4 : loc2 300 = loc 300 := (hO.2.1 300 (by decide)).2
  refine lv_aload_n hx hb dL_law_183 rfl (lv_at hl 1 rfl) ?_
  refine lw_st e4.symm ?_
  refine lv_aload_n hx hb dL_law_184 rfl (lv_at hl 3 rfl) ?_
  refine lv_iload_n hx hb dL_law_185 rfl (lv_at hl 2 rfl) ?_
  refine lv_iconst (v := nI 1) hx hb dL_law_186 (by decide +kernel) ?_
  refine x_iadd hx hb (i) (1) dL_law_187 ?_
  refine va_sld (i := nI (i + 1)) hx hb hX hbl hbA hS2 (vp_in_nI (by omega) (by omega)) dL_law_188 ?_
  refine x_top (congrArg Value.int (show xs (nI (i + 1)).toNatClampNeg = xs (i + 1) from by rw [nI_clamp (by omega)])) ?_
  refine lv_aload_n hx hb dL_law_189 rfl (lv_at hl 3 rfl) ?_
  refine lv_iload_n hx hb dL_law_190 rfl (lv_at hl 2 rfl) ?_
  refine lv_iconst (v := nI 2) hx hb dL_law_191 (by decide +kernel) ?_
  refine x_iadd hx hb (i) (2) dL_law_192 ?_
  refine va_sld (i := nI (i + 2)) hx hb hX hbl hbA hS2 (vp_in_nI (by omega) (by omega)) dL_law_193 ?_
  refine x_top (congrArg Value.int (show xs (nI (i + 2)).toNatClampNeg = xs (i + 2) from by rw [nI_clamp (by omega)])) ?_
  refine x_mi (va_runV (As := [.int (xs (i + 1)), .int (xs (i + 2))]) (rest := [.int r]) ⟨hx, hb, hml, hown, hts⟩ (c_X8_height l D cy loc2 w2 H2.size σ hI.1.1 hY2 (xs (i + 1)) (xs (i + 2))) (cwV 2 hts gL_law_X8_height rfl rfl rfl (by decide +kernel) ⟨Nat.le_of_ble_eq_true rfl, Nat.le_of_ble_eq_true rfl⟩) (x_preV hK hV2 f4 rfl) rfl rfl hl.1 rfl (lv_room (Nat.le_of_ble_eq_true rfl)) dL_law_194 ⟨(by show _ ≤ 600000; omega), (by show _ ≤ 7302250; omega)⟩) hV2 hS2 hA (fun r2 loc3 w3 H3 L3 hr2 hV3 hS3 => ?_)
  obtain ⟨hr2, hO2⟩ := hr2
  have hr2 : r2 = (sp_height σ (xs (i + 1)) (xs (i + 2))).1 := hr2
  have hO2 : yOK cy loc2 w2 ((sp_height σ (xs (i + 1)) (xs (i + 2))).2) (loc3, w3) := hO2
  refine lv_icmp_eq (tgt := 1090) hx hb dL_law_197 (by decide) (fun _ => ?_) (fun hq => absurd (hr.trans hr2.symm) hq)
  refine W.widen (k := cells + 3) (n := slots + 193) (by omega) (by omega) ?_
  exact nxt loc3 w3 ((sp_height σ (xs (i + 1)) (xs (i + 2))).2) H3 L3 (lw_two (gd_height hI.1 (xs (i + 1)) (xs (i + 2))) hO hO2 hV3 hS3) (lw_l0 hO hO2) (lw_l3 hO hO2)

set_option maxHeartbeats 4000000 in
set_option maxRecDepth 100000 in
theorem law_c2 {p : Program} {e : Env} {s : State} {m : MethodId} {below : List Frame} {meth : Method} {c : Code} (l : Launch) {b L : Nat} {xs : Nat → Int32} (hL : L ≤ 3584) (C0 : lw_At p s m meth c b L xs) {D : va_G} {cy : Nat → ClassId} (hK : xK D cy s) {i : Nat} (hi : i + 7 ≤ L) {loc : Nat → Nat} {w : xM} {σ : xS} {H : Heap} {locs : List Loc} (hI : lwI D cy s loc w σ H locs) {cells slots : Nat} (hc : cells + 3 ≤ 600000) (hs : slots + 193 ≤ 7302250) {ls : Array Slot} (hl : lv_has ls 4 [(1, .ref (loc 0)), (2, .ref (loc 300)), (3, .int (nI i)), (0, .ref b)])
    (nxt : ∀ (loc' : Nat → Nat) (w' : xM) (σ' : xS) (H' : Heap) (locs' : List Loc), lwI D cy s loc' w' σ' H' locs' → loc' 0 = loc 0 → loc' 300 = loc 300 → W p l e room_1 s m #[Value.ref b] below meth c H' locs' (cells + 3) (slots + 193) (lw_Z below #[Value.ref b] s) (F0 m 1090 ls [])) : W p l e room_1 s m #[Value.ref b] below meth c H locs cells slots (lw_Z below #[Value.ref b] s) (F0 m 202 ls []) := by
  obtain ⟨hx, hb, hr, hml, hown, hts, hX, hbl, hlocks, hgv⟩ := id C0
  have hA : ∀ q : Nat, s.heap.size ≤ q → (fun q : Nat => s.heap.size ≤ q) q := fun _ h => h
  have hbA : ¬ (fun q : Nat => s.heap.size ≤ q) b := Nat.not_le.mpr hbl
  have hown : s.vm.findClass RL = some m.cls := hown
  have hV := hI.2.2.2.1
  have hS := hI.2.2.2.2
  obtain ⟨fs0, f0⟩ := lw_f0 hI.2.1
  obtain ⟨fs3, f3⟩ := lw_f3 hI.2.2.1
  refine lv_aload_n hx hb dL_law_202 rfl (lv_at hl 0 rfl) ?_
  refine lv_aload_n hx hb dL_law_203 rfl (lv_at hl 3 rfl) ?_
  refine lv_iload_n hx hb dL_law_204 rfl (lv_at hl 2 rfl) ?_
  refine lv_iconst (v := nI 1) hx hb dL_law_205 (by decide +kernel) ?_
  refine x_iadd hx hb (i) (1) dL_law_206 ?_
  refine va_sld (i := nI (i + 1)) hx hb hX hbl hbA hS (vp_in_nI (by omega) (by omega)) dL_law_207 ?_
  refine x_top (congrArg Value.int (show xs (nI (i + 1)).toNatClampNeg = xs (i + 1) from by rw [nI_clamp (by omega)])) ?_
  refine lv_aload_n hx hb dL_law_208 rfl (lv_at hl 3 rfl) ?_
  refine lv_iload_n hx hb dL_law_209 rfl (lv_at hl 2 rfl) ?_
  refine lv_iconst (v := nI 2) hx hb dL_law_210 (by decide +kernel) ?_
  refine x_iadd hx hb (i) (2) dL_law_211 ?_
  refine va_sld (i := nI (i + 2)) hx hb hX hbl hbA hS (vp_in_nI (by omega) (by omega)) dL_law_212 ?_
  refine x_top (congrArg Value.int (show xs (nI (i + 2)).toNatClampNeg = xs (i + 2) from by rw [nI_clamp (by omega)])) ?_
  refine x_mi (va_runV (As := [.int (xs (i + 1)), .int (xs (i + 2))]) (rest := []) ⟨hx, hb, hml, hown, hts⟩ (c_X7_measure l D cy loc w H.size σ hI.1.1 hI.2.1 (xs (i + 1)) (xs (i + 2))) (cwV 2 hts gL_law_X7_measure rfl rfl rfl (by decide +kernel) ⟨Nat.le_of_ble_eq_true rfl, Nat.le_of_ble_eq_true rfl⟩) (x_preV hK hV f0 rfl) rfl rfl hl.1 rfl (lv_room (Nat.le_of_ble_eq_true rfl)) dL_law_213 ⟨(by show _ ≤ 600000; omega), (by show _ ≤ 7302250; omega)⟩) hV hS hA (fun r loc2 w2 H2 L2 hr hV2 hS2 => ?_)
  obtain ⟨hr, hO⟩ := hr
  have hr : r = (sp_measure σ (xs (i + 1)) (xs (i + 2))).1 := hr
  have hO : xOK cy loc w ((sp_measure σ (xs (i + 1)) (xs (i + 2))).2) (loc2, w2) := hO
  have hY2 : yR cy loc2 σ w2 := lw_y2 hI.2.2.1 hO.2.1
  have f4 : w2 300 = _ := (hO.2.1 300 (by decide)).1.trans f3
  have e4 : loc2 300 = loc 300 := (hO.2.1 300 (by decide)).2
  refine lv_aload_n hx hb dL_law_216 rfl (lv_at hl 1 rfl) ?_
  refine lw_st e4.symm ?_
  refine lv_aload_n hx hb dL_law_217 rfl (lv_at hl 3 rfl) ?_
  refine lv_iload_n hx hb dL_law_218 rfl (lv_at hl 2 rfl) ?_
  refine lv_iconst (v := nI 1) hx hb dL_law_219 (by decide +kernel) ?_
  refine x_iadd hx hb (i) (1) dL_law_220 ?_
  refine va_sld (i := nI (i + 1)) hx hb hX hbl hbA hS2 (vp_in_nI (by omega) (by omega)) dL_law_221 ?_
  refine x_top (congrArg Value.int (show xs (nI (i + 1)).toNatClampNeg = xs (i + 1) from by rw [nI_clamp (by omega)])) ?_
  refine lv_aload_n hx hb dL_law_222 rfl (lv_at hl 3 rfl) ?_
  refine lv_iload_n hx hb dL_law_223 rfl (lv_at hl 2 rfl) ?_
  refine lv_iconst (v := nI 2) hx hb dL_law_224 (by decide +kernel) ?_
  refine x_iadd hx hb (i) (2) dL_law_225 ?_
  refine va_sld (i := nI (i + 2)) hx hb hX hbl hbA hS2 (vp_in_nI (by omega) (by omega)) dL_law_226 ?_
  refine x_top (congrArg Value.int (show xs (nI (i + 2)).toNatClampNeg = xs (i + 2) from by rw [nI_clamp (by omega)])) ?_
  refine x_mi (va_runV (As := [.int (xs (i + 1)), .int (xs (i + 2))]) (rest := [.int r]) ⟨hx, hb, hml, hown, hts⟩ (c_X8_measure l D cy loc2 w2 H2.size σ hI.1.1 hY2 (xs (i + 1)) (xs (i + 2))) (cwV 2 hts gL_law_X8_measure rfl rfl rfl (by decide +kernel) ⟨Nat.le_of_ble_eq_true rfl, Nat.le_of_ble_eq_true rfl⟩) (x_preV hK hV2 f4 rfl) rfl rfl hl.1 rfl (lv_room (Nat.le_of_ble_eq_true rfl)) dL_law_227 ⟨(by show _ ≤ 600000; omega), (by show _ ≤ 7302250; omega)⟩) hV2 hS2 hA (fun r2 loc3 w3 H3 L3 hr2 hV3 hS3 => ?_)
  obtain ⟨hr2, hO2⟩ := hr2
  have hr2 : r2 = (sp_measure σ (xs (i + 1)) (xs (i + 2))).1 := hr2
  have hO2 : yOK cy loc2 w2 ((sp_measure σ (xs (i + 1)) (xs (i + 2))).2) (loc3, w3) := hO2
  refine lv_icmp_eq (tgt := 1090) hx hb dL_law_230 (by decide) (fun _ => ?_) (fun hq => absurd (hr.trans hr2.symm) hq)
  refine W.widen (k := cells + 3) (n := slots + 193) (by omega) (by omega) ?_
  exact nxt loc3 w3 ((sp_measure σ (xs (i + 1)) (xs (i + 2))).2) H3 L3 (lw_two (gd_measure hI.1 (xs (i + 1)) (xs (i + 2))) hO hO2 hV3 hS3) (lw_l0 hO hO2) (lw_l3 hO hO2)

set_option maxHeartbeats 4000000 in
set_option maxRecDepth 100000 in
theorem law_c3 {p : Program} {e : Env} {s : State} {m : MethodId} {below : List Frame} {meth : Method} {c : Code} (l : Launch) {b L : Nat} {xs : Nat → Int32} (hL : L ≤ 3584) (C0 : lw_At p s m meth c b L xs) {D : va_G} {cy : Nat → ClassId} (hK : xK D cy s) {i : Nat} (hi : i + 7 ≤ L) {loc : Nat → Nat} {w : xM} {σ : xS} {H : Heap} {locs : List Loc} (hI : lwI D cy s loc w σ H locs) {cells slots : Nat} (hc : cells + 3 ≤ 600000) (hs : slots + 193 ≤ 7302250) {ls : Array Slot} (hl : lv_has ls 4 [(1, .ref (loc 0)), (2, .ref (loc 300)), (3, .int (nI i)), (0, .ref b)])
    (nxt : ∀ (loc' : Nat → Nat) (w' : xM) (σ' : xS) (H' : Heap) (locs' : List Loc), lwI D cy s loc' w' σ' H' locs' → loc' 0 = loc 0 → loc' 300 = loc 300 → W p l e room_1 s m #[Value.ref b] below meth c H' locs' (cells + 3) (slots + 193) (lw_Z below #[Value.ref b] s) (F0 m 1090 ls [])) : W p l e room_1 s m #[Value.ref b] below meth c H locs cells slots (lw_Z below #[Value.ref b] s) (F0 m 235 ls []) := by
  obtain ⟨hx, hb, hr, hml, hown, hts, hX, hbl, hlocks, hgv⟩ := id C0
  have hA : ∀ q : Nat, s.heap.size ≤ q → (fun q : Nat => s.heap.size ≤ q) q := fun _ h => h
  have hbA : ¬ (fun q : Nat => s.heap.size ≤ q) b := Nat.not_le.mpr hbl
  have hown : s.vm.findClass RL = some m.cls := hown
  have hV := hI.2.2.2.1
  have hS := hI.2.2.2.2
  obtain ⟨fs0, f0⟩ := lw_f0 hI.2.1
  obtain ⟨fs3, f3⟩ := lw_f3 hI.2.2.1
  refine lv_aload_n hx hb dL_law_235 rfl (lv_at hl 0 rfl) ?_
  refine lv_aload_n hx hb dL_law_236 rfl (lv_at hl 3 rfl) ?_
  refine lv_iload_n hx hb dL_law_237 rfl (lv_at hl 2 rfl) ?_
  refine lv_iconst (v := nI 1) hx hb dL_law_238 (by decide +kernel) ?_
  refine x_iadd hx hb (i) (1) dL_law_239 ?_
  refine va_sld (i := nI (i + 1)) hx hb hX hbl hbA hS (vp_in_nI (by omega) (by omega)) dL_law_240 ?_
  refine x_top (congrArg Value.int (show xs (nI (i + 1)).toNatClampNeg = xs (i + 1) from by rw [nI_clamp (by omega)])) ?_
  refine lv_aload_n hx hb dL_law_241 rfl (lv_at hl 3 rfl) ?_
  refine lv_iload_n hx hb dL_law_242 rfl (lv_at hl 2 rfl) ?_
  refine lv_iconst (v := nI 2) hx hb dL_law_243 (by decide +kernel) ?_
  refine x_iadd hx hb (i) (2) dL_law_244 ?_
  refine va_sld (i := nI (i + 2)) hx hb hX hbl hbA hS (vp_in_nI (by omega) (by omega)) dL_law_245 ?_
  refine x_top (congrArg Value.int (show xs (nI (i + 2)).toNatClampNeg = xs (i + 2) from by rw [nI_clamp (by omega)])) ?_
  refine lv_aload_n hx hb dL_law_246 rfl (lv_at hl 3 rfl) ?_
  refine lv_iload_n hx hb dL_law_247 rfl (lv_at hl 2 rfl) ?_
  refine lv_iconst (v := nI 3) hx hb dL_law_248 (by decide +kernel) ?_
  refine x_iadd hx hb (i) (3) dL_law_249 ?_
  refine va_sld (i := nI (i + 3)) hx hb hX hbl hbA hS (vp_in_nI (by omega) (by omega)) dL_law_250 ?_
  refine x_top (congrArg Value.int (show xs (nI (i + 3)).toNatClampNeg = xs (i + 3) from by rw [nI_clamp (by omega)])) ?_
  refine x_ci (va_runV (As := [.int (xs (i + 1)), .int (xs (i + 2)), .int (xs (i + 3))]) (rest := []) ⟨hx, hb, hml, hown, hts⟩ (c_X7_back l D cy loc w H.size σ hI.1.1 hI.2.1 (xs (i + 1)) (xs (i + 2)) (xs (i + 3))) (cwV 3 hts gL_law_X7_back rfl rfl rfl (by decide +kernel) ⟨Nat.le_of_ble_eq_true rfl, Nat.le_of_ble_eq_true rfl⟩) (x_preV hK hV f0 rfl) rfl rfl hl.1 rfl (lv_room (Nat.le_of_ble_eq_true rfl)) dL_law_251 ⟨(by show _ ≤ 600000; omega), (by show _ ≤ 7302250; omega)⟩) (fun r hr => ?_)
  have hr : r = sp_back σ (xs (i + 1)) (xs (i + 2)) (xs (i + 3)) := hr
  refine lv_aload_n hx hb dL_law_254 rfl (lv_at hl 1 rfl) ?_
  refine lv_aload_n hx hb dL_law_255 rfl (lv_at hl 3 rfl) ?_
  refine lv_iload_n hx hb dL_law_256 rfl (lv_at hl 2 rfl) ?_
  refine lv_iconst (v := nI 1) hx hb dL_law_257 (by decide +kernel) ?_
  refine x_iadd hx hb (i) (1) dL_law_258 ?_
  refine va_sld (i := nI (i + 1)) hx hb hX hbl hbA hS (vp_in_nI (by omega) (by omega)) dL_law_259 ?_
  refine x_top (congrArg Value.int (show xs (nI (i + 1)).toNatClampNeg = xs (i + 1) from by rw [nI_clamp (by omega)])) ?_
  refine lv_aload_n hx hb dL_law_260 rfl (lv_at hl 3 rfl) ?_
  refine lv_iload_n hx hb dL_law_261 rfl (lv_at hl 2 rfl) ?_
  refine lv_iconst (v := nI 2) hx hb dL_law_262 (by decide +kernel) ?_
  refine x_iadd hx hb (i) (2) dL_law_263 ?_
  refine va_sld (i := nI (i + 2)) hx hb hX hbl hbA hS (vp_in_nI (by omega) (by omega)) dL_law_264 ?_
  refine x_top (congrArg Value.int (show xs (nI (i + 2)).toNatClampNeg = xs (i + 2) from by rw [nI_clamp (by omega)])) ?_
  refine lv_aload_n hx hb dL_law_265 rfl (lv_at hl 3 rfl) ?_
  refine lv_iload_n hx hb dL_law_266 rfl (lv_at hl 2 rfl) ?_
  refine lv_iconst (v := nI 3) hx hb dL_law_267 (by decide +kernel) ?_
  refine x_iadd hx hb (i) (3) dL_law_268 ?_
  refine va_sld (i := nI (i + 3)) hx hb hX hbl hbA hS (vp_in_nI (by omega) (by omega)) dL_law_269 ?_
  refine x_top (congrArg Value.int (show xs (nI (i + 3)).toNatClampNeg = xs (i + 3) from by rw [nI_clamp (by omega)])) ?_
  refine x_ci (va_runV (As := [.int (xs (i + 1)), .int (xs (i + 2)), .int (xs (i + 3))]) (rest := [.int r]) ⟨hx, hb, hml, hown, hts⟩ (c_X8_back l D cy loc w H.size σ hI.1.1 hI.2.2.1 (xs (i + 1)) (xs (i + 2)) (xs (i + 3))) (cwV 3 hts gL_law_X8_back rfl rfl rfl (by decide +kernel) ⟨Nat.le_of_ble_eq_true rfl, Nat.le_of_ble_eq_true rfl⟩) (x_preV hK hV f3 rfl) rfl rfl hl.1 rfl (lv_room (Nat.le_of_ble_eq_true rfl)) dL_law_270 ⟨(by show _ ≤ 600000; omega), (by show _ ≤ 7302250; omega)⟩) (fun r2 hr2 => ?_)
  have hr2 : r2 = sp_back σ (xs (i + 1)) (xs (i + 2)) (xs (i + 3)) := hr2
  refine lv_icmp_eq (tgt := 1090) hx hb dL_law_273 (by decide) (fun _ => ?_) (fun hq => absurd (hr.trans hr2.symm) hq)
  refine W.widen (k := cells + 3) (n := slots + 193) (by omega) (by omega) ?_
  exact nxt loc w σ H locs hI rfl rfl

set_option maxHeartbeats 4000000 in
set_option maxRecDepth 100000 in
theorem law_c4 {p : Program} {e : Env} {s : State} {m : MethodId} {below : List Frame} {meth : Method} {c : Code} (l : Launch) {b L : Nat} {xs : Nat → Int32} (hL : L ≤ 3584) (C0 : lw_At p s m meth c b L xs) {D : va_G} {cy : Nat → ClassId} (hK : xK D cy s) {i : Nat} (hi : i + 7 ≤ L) {loc : Nat → Nat} {w : xM} {σ : xS} {H : Heap} {locs : List Loc} (hI : lwI D cy s loc w σ H locs) {cells slots : Nat} (hc : cells + 3 ≤ 600000) (hs : slots + 193 ≤ 7302250) {ls : Array Slot} (hl : lv_has ls 4 [(1, .ref (loc 0)), (2, .ref (loc 300)), (3, .int (nI i)), (0, .ref b)])
    (nxt : ∀ (loc' : Nat → Nat) (w' : xM) (σ' : xS) (H' : Heap) (locs' : List Loc), lwI D cy s loc' w' σ' H' locs' → loc' 0 = loc 0 → loc' 300 = loc 300 → W p l e room_1 s m #[Value.ref b] below meth c H' locs' (cells + 3) (slots + 193) (lw_Z below #[Value.ref b] s) (F0 m 1090 ls [])) : W p l e room_1 s m #[Value.ref b] below meth c H locs cells slots (lw_Z below #[Value.ref b] s) (F0 m 278 ls []) := by
  obtain ⟨hx, hb, hr, hml, hown, hts, hX, hbl, hlocks, hgv⟩ := id C0
  have hA : ∀ q : Nat, s.heap.size ≤ q → (fun q : Nat => s.heap.size ≤ q) q := fun _ h => h
  have hbA : ¬ (fun q : Nat => s.heap.size ≤ q) b := Nat.not_le.mpr hbl
  have hown : s.vm.findClass RL = some m.cls := hown
  have hV := hI.2.2.2.1
  have hS := hI.2.2.2.2
  obtain ⟨fs0, f0⟩ := lw_f0 hI.2.1
  obtain ⟨fs3, f3⟩ := lw_f3 hI.2.2.1
  refine lv_aload_n hx hb dL_law_278 rfl (lv_at hl 0 rfl) ?_
  refine x_mi (va_runV (As := []) (rest := []) ⟨hx, hb, hml, hown, hts⟩ (c_X7_tree l D cy loc w H.size σ hI.1.1 hI.2.1 (fun i9 _ => hI.1.2.2.2.2.1 _ (Nat.le_add_right _ i9))) (cwV 0 hts gL_law_X7_tree rfl rfl rfl (by decide +kernel) ⟨Nat.le_of_ble_eq_true rfl, Nat.le_of_ble_eq_true rfl⟩) (x_preV hK hV f0 rfl) rfl rfl hl.1 rfl (lv_room (Nat.le_of_ble_eq_true rfl)) dL_law_279 ⟨(by show _ ≤ 600000; omega), (by show _ ≤ 7302250; omega)⟩) hV hS hA (fun r loc2 w2 H2 L2 hr hV2 hS2 => ?_)
  obtain ⟨hr, hO⟩ := hr
  have hr : r = (sp_tree σ).1 := hr
  have hO : xOK cy loc w ((sp_tree σ).2) (loc2, w2) := hO
  have hY2 : yR cy loc2 σ w2 := lw_y2 hI.2.2.1 hO.2.1
  have f4 : w2 300 = _ := (hO.2.1 300 (by decide)).1.trans f3
  have e4 : loc2 300 = loc 300 := (hO.2.1 300 (by decide)).2
  refine lv_aload_n hx hb dL_law_282 rfl (lv_at hl 1 rfl) ?_
  refine lw_st e4.symm ?_
  refine x_mi (va_runV (As := []) (rest := [.int r]) ⟨hx, hb, hml, hown, hts⟩ (c_X8_tree l D cy loc2 w2 H2.size σ hI.1.1 hY2 ) (cwV 0 hts gL_law_X8_tree rfl rfl rfl (by decide +kernel) ⟨Nat.le_of_ble_eq_true rfl, Nat.le_of_ble_eq_true rfl⟩) (x_preV hK hV2 f4 rfl) rfl rfl hl.1 rfl (lv_room (Nat.le_of_ble_eq_true rfl)) dL_law_283 ⟨(by show _ ≤ 600000; omega), (by show _ ≤ 7302250; omega)⟩) hV2 hS2 hA (fun r2 loc3 w3 H3 L3 hr2 hV3 hS3 => ?_)
  obtain ⟨hr2, hO2⟩ := hr2
  have hr2 : r2 = (sp_tree σ).1 := hr2
  have hO2 : yOK cy loc2 w2 ((sp_tree σ).2) (loc3, w3) := hO2
  refine lv_icmp_eq (tgt := 1090) hx hb dL_law_286 (by decide) (fun _ => ?_) (fun hq => absurd (hr.trans hr2.symm) hq)
  refine W.widen (k := cells + 3) (n := slots + 193) (by omega) (by omega) ?_
  exact nxt loc3 w3 ((sp_tree σ).2) H3 L3 (lw_two (gd_tree hI.1 ) hO hO2 hV3 hS3) (lw_l0 hO hO2) (lw_l3 hO hO2)

set_option maxHeartbeats 4000000 in
set_option maxRecDepth 100000 in
theorem law_c5 {p : Program} {e : Env} {s : State} {m : MethodId} {below : List Frame} {meth : Method} {c : Code} (l : Launch) {b L : Nat} {xs : Nat → Int32} (hL : L ≤ 3584) (C0 : lw_At p s m meth c b L xs) {D : va_G} {cy : Nat → ClassId} (hK : xK D cy s) {i : Nat} (hi : i + 7 ≤ L) {loc : Nat → Nat} {w : xM} {σ : xS} {H : Heap} {locs : List Loc} (hI : lwI D cy s loc w σ H locs) {cells slots : Nat} (hc : cells + 3 ≤ 600000) (hs : slots + 193 ≤ 7302250) {ls : Array Slot} (hl : lv_has ls 4 [(1, .ref (loc 0)), (2, .ref (loc 300)), (3, .int (nI i)), (0, .ref b)])
    (nxt : ∀ (loc' : Nat → Nat) (w' : xM) (σ' : xS) (H' : Heap) (locs' : List Loc), lwI D cy s loc' w' σ' H' locs' → loc' 0 = loc 0 → loc' 300 = loc 300 → W p l e room_1 s m #[Value.ref b] below meth c H' locs' (cells + 3) (slots + 193) (lw_Z below #[Value.ref b] s) (F0 m 1090 ls [])) : W p l e room_1 s m #[Value.ref b] below meth c H locs cells slots (lw_Z below #[Value.ref b] s) (F0 m 291 ls []) := by
  obtain ⟨hx, hb, hr, hml, hown, hts, hX, hbl, hlocks, hgv⟩ := id C0
  have hA : ∀ q : Nat, s.heap.size ≤ q → (fun q : Nat => s.heap.size ≤ q) q := fun _ h => h
  have hbA : ¬ (fun q : Nat => s.heap.size ≤ q) b := Nat.not_le.mpr hbl
  have hown : s.vm.findClass RL = some m.cls := hown
  have hV := hI.2.2.2.1
  have hS := hI.2.2.2.2
  obtain ⟨fs0, f0⟩ := lw_f0 hI.2.1
  obtain ⟨fs3, f3⟩ := lw_f3 hI.2.2.1
  refine lv_aload_n hx hb dL_law_291 rfl (lv_at hl 0 rfl) ?_
  refine lv_aload_n hx hb dL_law_292 rfl (lv_at hl 3 rfl) ?_
  refine lv_iload_n hx hb dL_law_293 rfl (lv_at hl 2 rfl) ?_
  refine lv_iconst (v := nI 1) hx hb dL_law_294 (by decide +kernel) ?_
  refine x_iadd hx hb (i) (1) dL_law_295 ?_
  refine va_sld (i := nI (i + 1)) hx hb hX hbl hbA hS (vp_in_nI (by omega) (by omega)) dL_law_296 ?_
  refine x_top (congrArg Value.int (show xs (nI (i + 1)).toNatClampNeg = xs (i + 1) from by rw [nI_clamp (by omega)])) ?_
  refine lv_aload_n hx hb dL_law_297 rfl (lv_at hl 3 rfl) ?_
  refine lv_iload_n hx hb dL_law_298 rfl (lv_at hl 2 rfl) ?_
  refine lv_iconst (v := nI 2) hx hb dL_law_299 (by decide +kernel) ?_
  refine x_iadd hx hb (i) (2) dL_law_300 ?_
  refine va_sld (i := nI (i + 2)) hx hb hX hbl hbA hS (vp_in_nI (by omega) (by omega)) dL_law_301 ?_
  refine x_top (congrArg Value.int (show xs (nI (i + 2)).toNatClampNeg = xs (i + 2) from by rw [nI_clamp (by omega)])) ?_
  refine lv_aload_n hx hb dL_law_302 rfl (lv_at hl 3 rfl) ?_
  refine lv_iload_n hx hb dL_law_303 rfl (lv_at hl 2 rfl) ?_
  refine lv_iconst (v := nI 3) hx hb dL_law_304 (by decide +kernel) ?_
  refine x_iadd hx hb (i) (3) dL_law_305 ?_
  refine va_sld (i := nI (i + 3)) hx hb hX hbl hbA hS (vp_in_nI (by omega) (by omega)) dL_law_306 ?_
  refine x_top (congrArg Value.int (show xs (nI (i + 3)).toNatClampNeg = xs (i + 3) from by rw [nI_clamp (by omega)])) ?_
  refine x_mi (va_runV (As := [.int (xs (i + 1)), .int (xs (i + 2)), .int (xs (i + 3))]) (rest := []) ⟨hx, hb, hml, hown, hts⟩ (c_X7_shim l D cy loc w H.size σ hI.1.1 hI.2.1 (xs (i + 1)) (xs (i + 2)) (xs (i + 3))) (cwV 3 hts gL_law_X7_shim rfl rfl rfl (by decide +kernel) ⟨Nat.le_of_ble_eq_true rfl, Nat.le_of_ble_eq_true rfl⟩) (x_preV hK hV f0 rfl) rfl rfl hl.1 rfl (lv_room (Nat.le_of_ble_eq_true rfl)) dL_law_307 ⟨(by show _ ≤ 600000; omega), (by show _ ≤ 7302250; omega)⟩) hV hS hA (fun r loc2 w2 H2 L2 hr hV2 hS2 => ?_)
  obtain ⟨hr, hO⟩ := hr
  have hr : r = (sp_shim σ (xs (i + 1)) (xs (i + 2)) (xs (i + 3))).1 := hr
  have hO : xOK cy loc w ((sp_shim σ (xs (i + 1)) (xs (i + 2)) (xs (i + 3))).2) (loc2, w2) := hO
  have hY2 : yR cy loc2 σ w2 := lw_y2 hI.2.2.1 hO.2.1
  have f4 : w2 300 = _ := (hO.2.1 300 (by decide)).1.trans f3
  have e4 : loc2 300 = loc 300 := (hO.2.1 300 (by decide)).2
  refine lv_aload_n hx hb dL_law_310 rfl (lv_at hl 1 rfl) ?_
  refine lw_st e4.symm ?_
  refine lv_aload_n hx hb dL_law_311 rfl (lv_at hl 3 rfl) ?_
  refine lv_iload_n hx hb dL_law_312 rfl (lv_at hl 2 rfl) ?_
  refine lv_iconst (v := nI 1) hx hb dL_law_313 (by decide +kernel) ?_
  refine x_iadd hx hb (i) (1) dL_law_314 ?_
  refine va_sld (i := nI (i + 1)) hx hb hX hbl hbA hS2 (vp_in_nI (by omega) (by omega)) dL_law_315 ?_
  refine x_top (congrArg Value.int (show xs (nI (i + 1)).toNatClampNeg = xs (i + 1) from by rw [nI_clamp (by omega)])) ?_
  refine lv_aload_n hx hb dL_law_316 rfl (lv_at hl 3 rfl) ?_
  refine lv_iload_n hx hb dL_law_317 rfl (lv_at hl 2 rfl) ?_
  refine lv_iconst (v := nI 2) hx hb dL_law_318 (by decide +kernel) ?_
  refine x_iadd hx hb (i) (2) dL_law_319 ?_
  refine va_sld (i := nI (i + 2)) hx hb hX hbl hbA hS2 (vp_in_nI (by omega) (by omega)) dL_law_320 ?_
  refine x_top (congrArg Value.int (show xs (nI (i + 2)).toNatClampNeg = xs (i + 2) from by rw [nI_clamp (by omega)])) ?_
  refine lv_aload_n hx hb dL_law_321 rfl (lv_at hl 3 rfl) ?_
  refine lv_iload_n hx hb dL_law_322 rfl (lv_at hl 2 rfl) ?_
  refine lv_iconst (v := nI 3) hx hb dL_law_323 (by decide +kernel) ?_
  refine x_iadd hx hb (i) (3) dL_law_324 ?_
  refine va_sld (i := nI (i + 3)) hx hb hX hbl hbA hS2 (vp_in_nI (by omega) (by omega)) dL_law_325 ?_
  refine x_top (congrArg Value.int (show xs (nI (i + 3)).toNatClampNeg = xs (i + 3) from by rw [nI_clamp (by omega)])) ?_
  refine x_mi (va_runV (As := [.int (xs (i + 1)), .int (xs (i + 2)), .int (xs (i + 3))]) (rest := [.int r]) ⟨hx, hb, hml, hown, hts⟩ (c_X8_shim l D cy loc2 w2 H2.size σ hI.1.1 hY2 (xs (i + 1)) (xs (i + 2)) (xs (i + 3))) (cwV 3 hts gL_law_X8_shim rfl rfl rfl (by decide +kernel) ⟨Nat.le_of_ble_eq_true rfl, Nat.le_of_ble_eq_true rfl⟩) (x_preV hK hV2 f4 rfl) rfl rfl hl.1 rfl (lv_room (Nat.le_of_ble_eq_true rfl)) dL_law_326 ⟨(by show _ ≤ 600000; omega), (by show _ ≤ 7302250; omega)⟩) hV2 hS2 hA (fun r2 loc3 w3 H3 L3 hr2 hV3 hS3 => ?_)
  obtain ⟨hr2, hO2⟩ := hr2
  have hr2 : r2 = (sp_shim σ (xs (i + 1)) (xs (i + 2)) (xs (i + 3))).1 := hr2
  have hO2 : yOK cy loc2 w2 ((sp_shim σ (xs (i + 1)) (xs (i + 2)) (xs (i + 3))).2) (loc3, w3) := hO2
  refine lv_icmp_eq (tgt := 1090) hx hb dL_law_329 (by decide) (fun _ => ?_) (fun hq => absurd (hr.trans hr2.symm) hq)
  refine W.widen (k := cells + 3) (n := slots + 193) (by omega) (by omega) ?_
  exact nxt loc3 w3 ((sp_shim σ (xs (i + 1)) (xs (i + 2)) (xs (i + 3))).2) H3 L3 (lw_two (gd_shim hI.1 (xs (i + 1)) (xs (i + 2)) (xs (i + 3))) hO hO2 hV3 hS3) (lw_l0 hO hO2) (lw_l3 hO hO2)
