abbrev rm_X5_rockPlace : Room := { frames := 1, cells := 0, slots := 0, locals := 24 }
set_option maxHeartbeats 4000000 in
set_option maxRecDepth 100000 in
theorem c_X5_rockPlace (l : Launch) (D : va_G) (cy : Nat → ClassId) (loc : Nat → Nat) (w : xM) (sz : Nat) (b : Nat → Int32) (f1 : w (8) = some (.inr (5, [.ref (loc (9)), .ref (loc (10))]))) (f2 : w (10) = some (eI cy 9 (b))) : Met l yX5_rockPlace wsX5_rockPlace rm_X5_rockPlace (va_Pc [.ref (loc (8))] (xP D cy loc w sz)) (vp_Si (fun r => r = xrock b)) 0 0 (fun _ => False) := by
  refine x_met (cc := cX5_rockPlace) (maxL := 1) (ret := (some .int)) (C := RX5) (by decide) rfl rfl (Nat.le_of_ble_eq_true rfl) ?_
  intro p e s m below meth c ls hx hb hml hr hts hown hlocks hin hP hl
  obtain ⟨hsz, hV, hK⟩ := hP
  subst hsz
  have hl : lv_has ls 1 [(0, .ref (loc (8)))] := hl
  have b03 := xcnt_le b 0 3
  have b63 := xcnt_le b 6 3
  refine lv_aload_n hx hb dX5_rockPlace_0 rfl (lv_at hl 0 rfl) ?_
  refine lv_iconst (v := nI 0) hx hb dX5_rockPlace_1 (by decide +kernel) ?_
  refine lv_iconst (v := nI 2) hx hb dX5_rockPlace_2 (by decide +kernel) ?_
  refine x_ci (va_runV (As := [.int (nI (0)), .int (nI (2))]) (rest := []) ⟨hx, hb, hml, hown, hts⟩ (c_X5_pressedFrom l D cy loc w s.heap.size b 0 2 (by decide) (by decide) f1 f2) (cwV 2 hts gX5_rockPlace_X5_pressedFrom rfl rfl rfl (by decide +kernel) ⟨Nat.le_of_ble_eq_true rfl, Nat.le_of_ble_eq_true rfl⟩) (x_preV hK hV f1 rfl) rfl rfl hl.1 rfl (lv_room (Nat.le_of_ble_eq_true rfl)) dX5_rockPlace_3 ⟨Nat.le_of_ble_eq_true rfl, Nat.le_of_ble_eq_true rfl⟩) (fun r3 hr4 => ?_)
  obtain rfl : r3 = nI (xcnt b 0 3) := hr4
  refine lv_if_ne (tgt := 11) hx hb dX5_rockPlace_6 (by decide) (fun c5 => ?_) (fun c5 => ?_)
  · have _u := trivial
    have z1 : ¬ xcnt b 0 3 = 0 := nI_nz c5
    refine lv_aload_n hx hb dX5_rockPlace_11 rfl (lv_at hl 0 rfl) ?_
    refine lv_bipush (v := nI 6) hx hb dX5_rockPlace_12 (by decide +kernel) ?_
    refine lv_bipush (v := nI 8) hx hb dX5_rockPlace_14 (by decide +kernel) ?_
    refine x_ci (va_runV (As := [.int (nI (6)), .int (nI (8))]) (rest := []) ⟨hx, hb, hml, hown, hts⟩ (c_X5_pressedFrom l D cy loc w s.heap.size b 6 8 (by decide) (by decide) f1 f2) (cwV 2 hts gX5_rockPlace_X5_pressedFrom rfl rfl rfl (by decide +kernel) ⟨Nat.le_of_ble_eq_true rfl, Nat.le_of_ble_eq_true rfl⟩) (x_preV hK hV f1 rfl) rfl rfl hl.1 rfl (lv_room (Nat.le_of_ble_eq_true rfl)) dX5_rockPlace_16 ⟨Nat.le_of_ble_eq_true rfl, Nat.le_of_ble_eq_true rfl⟩) (fun r6 hr7 => ?_)
    obtain rfl : r6 = nI (xcnt b 6 3) := hr7
    refine lv_if_ne (tgt := 27) hx hb dX5_rockPlace_19 (by decide) (fun c8 => ?_) (fun c8 => ?_)
    · have _u := trivial
      have z2 : ¬ xcnt b 6 3 = 0 := nI_nz c8
      refine lv_iconst (v := -1) hx hb dX5_rockPlace_27 (by decide +kernel) ?_
      exact x_ri hx hb hr hlocks dX5_rockPlace_28 (xrock_n z1 z2)
    · have _u := trivial
      have z2 : xcnt b 6 3 = 0 := nI_z2 (by omega) c8
      refine lv_bipush (v := nI 6) hx hb dX5_rockPlace_22 (by decide +kernel) ?_
      refine lv_goto (tgt := 28) hx hb dX5_rockPlace_24 (by decide) ?_
      exact x_ri hx hb hr hlocks dX5_rockPlace_28 (xrock_6 z1 z2)
  · have _u := trivial
    have z1 : xcnt b 0 3 = 0 := nI_z2 (by omega) c5
    refine lv_iconst (v := nI 0) hx hb dX5_rockPlace_9 (by decide +kernel) ?_
    exact x_ri hx hb hr hlocks dX5_rockPlace_10 (xrock_0 z1)
abbrev rm_X5_firstFault : Room := { frames := 2, cells := 0, slots := 0, locals := 44 }
set_option maxHeartbeats 4000000 in
set_option maxRecDepth 100000 in
theorem c_X5_firstFault (l : Launch) (D : va_G) (cy : Nat → ClassId) (loc : Nat → Nat) (w : xM) (sz : Nat) (b : Nat → Int32) (m0 : Int32) (f1 : w (8) = some (.inr (5, [.ref (loc (9)), .ref (loc (10))]))) (f2 : w (10) = some (eI cy 9 (b))) : Met l yX5_firstFault wsX5_firstFault rm_X5_firstFault (va_Pc [.ref (loc (8)), .int (m0)] (xP D cy loc w sz)) (vp_Si (fun r => r = nI (xfault b m0))) 0 0 (fun _ => False) := by
  refine x_met (cc := cX5_firstFault) (maxL := 2) (ret := (some .int)) (C := RX5) (by decide) rfl rfl (Nat.le_of_ble_eq_true rfl) ?_
  intro p e s m below meth c ls hx hb hml hr hts hown hlocks hin hP hl
  obtain ⟨hsz, hV, hK⟩ := hP
  subst hsz
  have hl : lv_has ls 2 [(0, .ref (loc (8))), (1, .int (m0))] := hl
  refine lv_aload_n hx hb dX5_firstFault_0 rfl (lv_at hl 0 rfl) ?_
  refine lv_iload_n hx hb dX5_firstFault_1 rfl (lv_at hl 1 rfl) ?_
  refine x_ci (va_runV (As := [.int (m0)]) (rest := []) ⟨hx, hb, hml, hown, hts⟩ (c_X5_pressPlace l D cy loc w s.heap.size b m0 f1 f2) (cwV 1 hts gX5_firstFault_X5_pressPlace rfl rfl rfl (by decide +kernel) ⟨Nat.le_of_ble_eq_true rfl, Nat.le_of_ble_eq_true rfl⟩) (x_preV hK hV f1 rfl) rfl rfl hl.1 rfl (lv_room (Nat.le_of_ble_eq_true rfl)) dX5_firstFault_2 ⟨Nat.le_of_ble_eq_true rfl, Nat.le_of_ble_eq_true rfl⟩) (fun r3 hr4 => ?_)
  obtain rfl : r3 = xfv (xff (xovr b m0) 9) := hr4
  refine lv_iconst (v := -1) hx hb dX5_firstFault_5 (by decide +kernel) ?_
  refine lv_icmp_eq (tgt := 11) hx hb dX5_firstFault_6 (by decide) (fun c5 => ?_) (fun c5 => ?_)
  · have _u := trivial
    have z1 : ¬ xff (xovr b m0) 9 ≠ 0 := xfv_z (Nat.lt_of_le_of_lt (xff_le _ 9) (by decide)) c5
    refine lv_aload_n hx hb dX5_firstFault_11 rfl (lv_at hl 0 rfl) ?_
    refine x_ci (va_runV (As := []) (rest := []) ⟨hx, hb, hml, hown, hts⟩ (c_X5_bridgePlace l D cy loc w s.heap.size b f1 f2) (cwV 0 hts gX5_firstFault_X5_bridgePlace rfl rfl rfl (by decide +kernel) ⟨Nat.le_of_ble_eq_true rfl, Nat.le_of_ble_eq_true rfl⟩) (x_preV hK hV f1 rfl) rfl rfl hl.1 rfl (lv_room (Nat.le_of_ble_eq_true rfl)) dX5_firstFault_12 ⟨Nat.le_of_ble_eq_true rfl, Nat.le_of_ble_eq_true rfl⟩) (fun r6 hr7 => ?_)
    obtain rfl : r6 = xfv (xbc (xprs b)) := hr7
    refine lv_iconst (v := -1) hx hb dX5_firstFault_15 (by decide +kernel) ?_
    refine lv_icmp_eq (tgt := 21) hx hb dX5_firstFault_16 (by decide) (fun c8 => ?_) (fun c8 => ?_)
    · have _u := trivial
      have z2 : ¬ xbc (xprs b) ≠ 0 := xfv_z (Nat.lt_of_le_of_lt (xbc_le _) (by decide)) c8
      refine lv_aload_n hx hb dX5_firstFault_21 rfl (lv_at hl 0 rfl) ?_
      refine x_ci (va_runV (As := []) (rest := []) ⟨hx, hb, hml, hown, hts⟩ (c_X5_rockPlace l D cy loc w s.heap.size b f1 f2) (cwV 0 hts gX5_firstFault_X5_rockPlace rfl rfl rfl (by decide +kernel) ⟨Nat.le_of_ble_eq_true rfl, Nat.le_of_ble_eq_true rfl⟩) (x_preV hK hV f1 rfl) rfl rfl hl.1 rfl (lv_room (Nat.le_of_ble_eq_true rfl)) dX5_firstFault_22 ⟨Nat.le_of_ble_eq_true rfl, Nat.le_of_ble_eq_true rfl⟩) (fun r9 hr10 => ?_)
      obtain rfl : r9 = xrock b := hr10
      refine lv_iconst (v := -1) hx hb dX5_firstFault_25 (by decide +kernel) ?_
      refine lv_icmp_eq (tgt := 33) hx hb dX5_firstFault_26 (by decide) (fun c11 => ?_) (fun c11 => ?_)
      · have _u := trivial
        have z3 : xrock b = -1 := c11
        refine lv_iconst (v := nI 0) hx hb dX5_firstFault_33 (by decide +kernel) ?_
        exact x_ri hx hb hr hlocks dX5_firstFault_34 (xfault_0 z1 z2 z3)
      · have _u := trivial
        have z3 : ¬ xrock b = -1 := c11
        refine lv_iconst (v := nI 3) hx hb dX5_firstFault_29 (by decide +kernel) ?_
        refine lv_goto (tgt := 34) hx hb dX5_firstFault_30 (by decide) ?_
        exact x_ri hx hb hr hlocks dX5_firstFault_34 (xfault_3 z1 z2 z3)
    · have _u := trivial
      have z2 : xbc (xprs b) ≠ 0 := xfv_nz c8
      refine lv_iconst (v := nI 2) hx hb dX5_firstFault_19 (by decide +kernel) ?_
      exact x_ri hx hb hr hlocks dX5_firstFault_20 (xfault_2 z1 z2)
  · have _u := trivial
    have z1 : xff (xovr b m0) 9 ≠ 0 := xfv_nz c5
    refine lv_iconst (v := nI 1) hx hb dX5_firstFault_9 (by decide +kernel) ?_
    exact x_ri hx hb hr hlocks dX5_firstFault_10 (xfault_1 z1)
abbrev rm_X5_faultPlace : Room := { frames := 3, cells := 0, slots := 0, locals := 65 }
set_option maxHeartbeats 4000000 in
set_option maxRecDepth 100000 in
theorem c_X5_faultPlace (l : Launch) (D : va_G) (cy : Nat → ClassId) (loc : Nat → Nat) (w : xM) (sz : Nat) (b : Nat → Int32) (m0 : Int32) (f1 : w (8) = some (.inr (5, [.ref (loc (9)), .ref (loc (10))]))) (f2 : w (10) = some (eI cy 9 (b))) : Met l yX5_faultPlace wsX5_faultPlace rm_X5_faultPlace (va_Pc [.ref (loc (8)), .int (m0)] (xP D cy loc w sz)) (vp_Si (fun r => r = xplace b m0)) 0 0 (fun _ => False) := by
  refine x_met (cc := cX5_faultPlace) (maxL := 2) (ret := (some .int)) (C := RX5) (by decide) rfl rfl (Nat.le_of_ble_eq_true rfl) ?_
  intro p e s m below meth c ls hx hb hml hr hts hown hlocks hin hP hl
  obtain ⟨hsz, hV, hK⟩ := hP
  subst hsz
  have hl : lv_has ls 2 [(0, .ref (loc (8))), (1, .int (m0))] := hl
  refine lv_aload_n hx hb dX5_faultPlace_0 rfl (lv_at hl 0 rfl) ?_
  refine lv_iload_n hx hb dX5_faultPlace_1 rfl (lv_at hl 1 rfl) ?_
  refine x_ci (va_runV (As := [.int (m0)]) (rest := []) ⟨hx, hb, hml, hown, hts⟩ (c_X5_firstFault l D cy loc w s.heap.size b m0 f1 f2) (cwV 1 hts gX5_faultPlace_X5_firstFault rfl rfl rfl (by decide +kernel) ⟨Nat.le_of_ble_eq_true rfl, Nat.le_of_ble_eq_true rfl⟩) (x_preV hK hV f1 rfl) rfl rfl hl.1 rfl (lv_room (Nat.le_of_ble_eq_true rfl)) dX5_faultPlace_2 ⟨Nat.le_of_ble_eq_true rfl, Nat.le_of_ble_eq_true rfl⟩) (fun r3 hr4 => ?_)
  obtain rfl : r3 = nI (xfault b m0) := hr4
  have hs5 : nI (xfault b m0) = nI 0 ∨ nI (xfault b m0) = nI 1 ∨ nI (xfault b m0) = nI 2 ∨ nI (xfault b m0) = nI 3 := xfault_4 b m0
  rcases hs5 with hs5 | hs5 | hs5 | hs5
  · refine x_top (congrArg Value.int hs5) ?_
    refine lv_tableOut (tgt := 48) hx hb dX5_faultPlace_5 (by decide) (by decide) ?_
    have z4 : nI (xfault b m0) = nI 0 := hs5
    refine lv_iconst (v := -1) hx hb dX5_faultPlace_48 (by decide +kernel) ?_
    exact x_ri hx hb hr hlocks dX5_faultPlace_49 (xplace_0 z4)
  · refine x_top (congrArg Value.int hs5) ?_
    refine lv_tableIn (tgt := 32) hx hb dX5_faultPlace_5 (by decide) (by decide) rfl (by decide) ?_
    have z4 : nI (xfault b m0) = nI 1 := hs5
    refine lv_aload_n hx hb dX5_faultPlace_32 rfl (lv_at hl 0 rfl) ?_
    refine lv_iload_n hx hb dX5_faultPlace_33 rfl (lv_at hl 1 rfl) ?_
    refine x_ci (va_runV (As := [.int (m0)]) (rest := []) ⟨hx, hb, hml, hown, hts⟩ (c_X5_pressPlace l D cy loc w s.heap.size b m0 f1 f2) (cwV 1 hts gX5_faultPlace_X5_pressPlace rfl rfl rfl (by decide +kernel) ⟨Nat.le_of_ble_eq_true rfl, Nat.le_of_ble_eq_true rfl⟩) (x_preV hK hV f1 rfl) rfl rfl hl.1 rfl (lv_room (Nat.le_of_ble_eq_true rfl)) dX5_faultPlace_34 ⟨Nat.le_of_ble_eq_true rfl, Nat.le_of_ble_eq_true rfl⟩) (fun r6 hr7 => ?_)
    obtain rfl : r6 = xfv (xff (xovr b m0) 9) := hr7
    exact x_ri hx hb hr hlocks dX5_faultPlace_37 (xplace_1 z4)
  · refine x_top (congrArg Value.int hs5) ?_
    refine lv_tableIn (tgt := 38) hx hb dX5_faultPlace_5 (by decide) (by decide) rfl (by decide) ?_
    have z4 : nI (xfault b m0) = nI 2 := hs5
    refine lv_aload_n hx hb dX5_faultPlace_38 rfl (lv_at hl 0 rfl) ?_
    refine x_ci (va_runV (As := []) (rest := []) ⟨hx, hb, hml, hown, hts⟩ (c_X5_bridgePlace l D cy loc w s.heap.size b f1 f2) (cwV 0 hts gX5_faultPlace_X5_bridgePlace rfl rfl rfl (by decide +kernel) ⟨Nat.le_of_ble_eq_true rfl, Nat.le_of_ble_eq_true rfl⟩) (x_preV hK hV f1 rfl) rfl rfl hl.1 rfl (lv_room (Nat.le_of_ble_eq_true rfl)) dX5_faultPlace_39 ⟨Nat.le_of_ble_eq_true rfl, Nat.le_of_ble_eq_true rfl⟩) (fun r8 hr9 => ?_)
    obtain rfl : r8 = xfv (xbc (xprs b)) := hr9
    exact x_ri hx hb hr hlocks dX5_faultPlace_42 (xplace_2 z4)
  · refine x_top (congrArg Value.int hs5) ?_
    refine lv_tableIn (tgt := 43) hx hb dX5_faultPlace_5 (by decide) (by decide) rfl (by decide) ?_
    have z4 : nI (xfault b m0) = nI 3 := hs5
    refine lv_aload_n hx hb dX5_faultPlace_43 rfl (lv_at hl 0 rfl) ?_
    refine x_ci (va_runV (As := []) (rest := []) ⟨hx, hb, hml, hown, hts⟩ (c_X5_rockPlace l D cy loc w s.heap.size b f1 f2) (cwV 0 hts gX5_faultPlace_X5_rockPlace rfl rfl rfl (by decide +kernel) ⟨Nat.le_of_ble_eq_true rfl, Nat.le_of_ble_eq_true rfl⟩) (x_preV hK hV f1 rfl) rfl rfl hl.1 rfl (lv_room (Nat.le_of_ble_eq_true rfl)) dX5_faultPlace_44 ⟨Nat.le_of_ble_eq_true rfl, Nat.le_of_ble_eq_true rfl⟩) (fun r10 hr11 => ?_)
    obtain rfl : r10 = xrock b := hr11
    exact x_ri hx hb hr hlocks dX5_faultPlace_47 (xplace_3 z4)
abbrev rm_X5_most : Room := { frames := 1, cells := 0, slots := 0, locals := 22 }
theorem hi_X5_most_X5 : ∀ w ∈ wsX50, w ∈ wsX5_most := by decide +kernel
set_option maxHeartbeats 4000000 in
set_option maxRecDepth 100000 in
theorem c_X5_most (l : Launch) (D : va_G) (cy : Nat → ClassId) (loc : Nat → Nat) (w : xM) (sz : Nat) (b : Nat → Int32) (f1 : w (8) = some (.inr (5, [.ref (loc (9)), .ref (loc (10))]))) (f2 : w (10) = some (eI cy 9 (b))) : Met l yX5_most wsX5_most rm_X5_most (va_Pc [.ref (loc (8))] (xP D cy loc w sz)) (vp_Si (fun r => r = b (xtop b 8))) 0 0 (fun _ => False) := by
  refine x_met (cc := cX5_most) (maxL := 1) (ret := (some .int)) (C := RX5) (by decide) rfl rfl (Nat.le_of_ble_eq_true rfl) ?_
  intro p e s m below meth c ls hx hb hml hr hts hown hlocks hin hP hl
  obtain ⟨hsz, hV, hK⟩ := hP
  subst hsz
  have hl : lv_has ls 1 [(0, .ref (loc (8)))] := hl
  have ht8 := xtop_le b 8
  refine lv_aload_n hx hb dX5_most_0 rfl (lv_at hl 0 rfl) ?_
  refine x_get (C := RX5) (T := TX5) (N := 2) hx hb hts hi_X5_most_X5 hown hK hV f1 rfl 1 (by decide) (hts (.fieldLink RX5 15 "SaddleHouse$Seat" "borne" "[I") (by decide +kernel)) (fun _ h9 => h9) rfl dX5_most_1 ?_
  refine lv_aload_n hx hb dX5_most_4 rfl (lv_at hl 0 rfl) ?_
  refine x_ci (va_runV (As := []) (rest := [.ref (loc (10))]) ⟨hx, hb, hml, hown, hts⟩ (c_X5_firstOfMost l D cy loc w s.heap.size b f1 f2) (cwV 0 hts gX5_most_X5_firstOfMost rfl rfl rfl (by decide +kernel) ⟨Nat.le_of_ble_eq_true rfl, Nat.le_of_ble_eq_true rfl⟩) (x_preV hK hV f1 rfl) rfl rfl hl.1 rfl (lv_room (Nat.le_of_ble_eq_true rfl)) dX5_most_5 ⟨Nat.le_of_ble_eq_true rfl, Nat.le_of_ble_eq_true rfl⟩) (fun r3 hr4 => ?_)
  obtain rfl : r3 = nI (xtop b 8) := hr4
  refine x_iald hx hb hK hV f2 (xtop b 8) (by omega) (by decide) dX5_most_8 ?_
  exact x_ri hx hb hr hlocks dX5_most_9 (rfl)
abbrev rm_X5_pressedCount : Room := { frames := 1, cells := 0, slots := 0, locals := 24 }
set_option maxHeartbeats 4000000 in
set_option maxRecDepth 100000 in
theorem c_X5_pressedCount (l : Launch) (D : va_G) (cy : Nat → ClassId) (loc : Nat → Nat) (w : xM) (sz : Nat) (b : Nat → Int32) (f1 : w (8) = some (.inr (5, [.ref (loc (9)), .ref (loc (10))]))) (f2 : w (10) = some (eI cy 9 (b))) : Met l yX5_pressedCount wsX5_pressedCount rm_X5_pressedCount (va_Pc [.ref (loc (8))] (xP D cy loc w sz)) (vp_Si (fun r => r = nI (xcnt b 0 9))) 0 0 (fun _ => False) := by
  refine x_met (cc := cX5_pressedCount) (maxL := 1) (ret := (some .int)) (C := RX5) (by decide) rfl rfl (Nat.le_of_ble_eq_true rfl) ?_
  intro p e s m below meth c ls hx hb hml hr hts hown hlocks hin hP hl
  obtain ⟨hsz, hV, hK⟩ := hP
  subst hsz
  have hl : lv_has ls 1 [(0, .ref (loc (8)))] := hl
  refine lv_aload_n hx hb dX5_pressedCount_0 rfl (lv_at hl 0 rfl) ?_
  refine lv_iconst (v := nI 0) hx hb dX5_pressedCount_1 (by decide +kernel) ?_
  refine lv_bipush (v := nI 8) hx hb dX5_pressedCount_2 (by decide +kernel) ?_
  refine x_ci (va_runV (As := [.int (nI (0)), .int (nI (8))]) (rest := []) ⟨hx, hb, hml, hown, hts⟩ (c_X5_pressedFrom l D cy loc w s.heap.size b 0 8 (by decide) (by decide) f1 f2) (cwV 2 hts gX5_pressedCount_X5_pressedFrom rfl rfl rfl (by decide +kernel) ⟨Nat.le_of_ble_eq_true rfl, Nat.le_of_ble_eq_true rfl⟩) (x_preV hK hV f1 rfl) rfl rfl hl.1 rfl (lv_room (Nat.le_of_ble_eq_true rfl)) dX5_pressedCount_4 ⟨Nat.le_of_ble_eq_true rfl, Nat.le_of_ble_eq_true rfl⟩) (fun r3 hr4 => ?_)
  obtain rfl : r3 = nI (xcnt b 0 (8 + 1 - 0)) := hr4
  exact x_ri hx hb hr hlocks dX5_pressedCount_7 (rfl)
