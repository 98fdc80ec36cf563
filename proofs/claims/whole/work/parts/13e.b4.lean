abbrev rm_J9_floorDiv_7cf53 : Room := { frames := 0, cells := 0, slots := 0, locals := 0 }
set_option maxHeartbeats 4000000 in
set_option maxRecDepth 100000 in
theorem c_J9_floorDiv_7cf53 (l : Launch) (D : va_G) (cy : Nat → ClassId) (loc : Nat → Nat) (w : xM) (sz : Nat) (a : Int32) (d : Nat) (hd1 : 1 ≤ d) (hd2 : d < 2 ^ 31)  : Met l yJ9_floorDiv_7cf53 wsJ9_floorDiv_7cf53 rm_J9_floorDiv_7cf53 (va_Pc [.int (a), .int (nI (d))] (xP D cy loc w sz)) (vp_Si (fun r => r = xfloor a (nI d))) 0 0 (fun _ => False) := by
  refine x_metF (cc := cJ9_floorDiv_7cf53) (maxL := 3) (ret := (some .int)) (C := RJ9) (by decide +kernel) rfl rfl (Nat.le_of_ble_eq_true rfl) ?_
  intro p e s m below meth c ls hx hb hml hr hts hown hlocks hin hP hl
  obtain ⟨hsz, hV, hK⟩ := hP
  subst hsz
  have hl : lv_has ls 3 [(0, .int (a)), (1, .int (nI (d)))] := hl
  refine lv_iload_n hx hb dJ9_floorDiv_7cf53_0 rfl (lv_at hl 0 rfl) ?_
  refine lv_iload_n hx hb dJ9_floorDiv_7cf53_1 rfl (lv_at hl 1 rfl) ?_
  refine lv_idiv hx hb dJ9_floorDiv_7cf53_2 (nI_ne0 hd1 hd2) ?_
  refine lv_istore_n (lv' := [(2, .int (a / (nI d))), (0, .int (a)), (1, .int (nI (d)))]) hx hb dJ9_floorDiv_7cf53_3 rfl hl (by decide) rfl (fun ls hl => ?_)
  refine lv_iload_n hx hb dJ9_floorDiv_7cf53_4 rfl (lv_at hl 1 rfl) ?_
  refine lv_iload_n hx hb dJ9_floorDiv_7cf53_5 rfl (lv_at hl 2 rfl) ?_
  refine lv_ixor hx hb dJ9_floorDiv_7cf53_6 ?_
  refine lv_if_ge (tgt := 21) hx hb dJ9_floorDiv_7cf53_7 (by decide) (fun c1 => ?_) (fun c1 => ?_)
  · have _u := trivial
    have z1 : ¬ a < 0 := xor_ge hd2 c1
    refine lv_iload_n hx hb dJ9_floorDiv_7cf53_21 rfl (lv_at hl 0 rfl) ?_
    exact x_ri hx hb hr hlocks dJ9_floorDiv_7cf53_22 (by first | exact xfloor_2 z1 | exact xfloor_3 z2)
  · have _u := trivial
    have z1 : a < 0 := xor_lt hd2 c1
    refine lv_iload_n hx hb dJ9_floorDiv_7cf53_10 rfl (lv_at hl 0 rfl) ?_
    refine lv_iload_n hx hb dJ9_floorDiv_7cf53_11 rfl (lv_at hl 2 rfl) ?_
    refine lv_imul hx hb dJ9_floorDiv_7cf53_12 ?_
    refine lv_iload_n hx hb dJ9_floorDiv_7cf53_13 rfl (lv_at hl 1 rfl) ?_
    refine lv_icmp_eq (tgt := 21) hx hb dJ9_floorDiv_7cf53_14 (by decide) (fun c2 => ?_) (fun c2 => ?_)
    · have _u := trivial
      have z2 : a / nI d * nI d = a := c2
      refine lv_iload_n hx hb dJ9_floorDiv_7cf53_21 rfl (lv_at hl 0 rfl) ?_
      exact x_ri hx hb hr hlocks dJ9_floorDiv_7cf53_22 (by first | exact xfloor_2 z1 | exact xfloor_3 z2)
    · have _u := trivial
      have z2 : ¬ a / nI d * nI d = a := c2
      refine lv_iload_n hx hb dJ9_floorDiv_7cf53_17 rfl (lv_at hl 0 rfl) ?_
      refine lv_iconst (v := nI 1) hx hb dJ9_floorDiv_7cf53_18 (by decide +kernel) ?_
      refine lv_isub hx hb dJ9_floorDiv_7cf53_19 ?_
      exact x_ri hx hb hr hlocks dJ9_floorDiv_7cf53_20 (xfloor_1 z1 z2)
abbrev rm_X3_heightBetween : Room := { frames := 1, cells := 0, slots := 0, locals := 22 }
set_option maxHeartbeats 4000000 in
set_option maxRecDepth 100000 in
theorem c_X3_heightBetween (l : Launch) (D : va_G) (cy : Nat → ClassId) (loc : Nat → Nat) (w : xM) (sz : Nat) (ta a i b : Nat) (f : Nat → Int32) (hai : a ≤ i) (hib : i ≤ b) (hb8 : b ≤ 8) (f1 : w (ta) = some (eI cy 9 (f))) : Met l yX3_heightBetween wsX3_heightBetween rm_X3_heightBetween (va_Pc [.ref (loc (ta)), .int (nI (a)), .int (nI (i)), .int (nI (b))] (xP D cy loc w sz)) (vp_Si (fun r => r = xhb f a i b)) 0 0 (fun _ => False) := by
  refine x_met (cc := cX3_heightBetween) (maxL := 5) (ret := (some .int)) (C := RX3) (by decide) rfl rfl (Nat.le_of_ble_eq_true rfl) ?_
  intro p e s m below meth c ls hx hb hml hr hts hown hlocks hin hP hl
  obtain ⟨hsz, hV, hK⟩ := hP
  subst hsz
  have hl : lv_has ls 5 [(0, .ref (loc (ta))), (1, .int (nI (a))), (2, .int (nI (i))), (3, .int (nI (b)))] := hl
  refine lv_iload_n hx hb dX3_heightBetween_0 rfl (lv_at hl 3 rfl) ?_
  refine lv_iload_n hx hb dX3_heightBetween_1 rfl (lv_at hl 1 rfl) ?_
  refine x_cgt hx hb (b) (a) (by omega) (by omega) (tgt := 9) dX3_heightBetween_2 (by decide) (fun c2 => ?_) (fun c2 => ?_)
  · have _u := trivial
    refine lv_aload_n hx hb dX3_heightBetween_9 rfl (lv_at hl 0 rfl) ?_
    refine lv_iload_n hx hb dX3_heightBetween_10 rfl (lv_at hl 3 rfl) ?_
    refine x_iald hx hb hK hV f1 (b) (by omega) (by decide) dX3_heightBetween_11 ?_
    refine lv_aload_n hx hb dX3_heightBetween_12 rfl (lv_at hl 0 rfl) ?_
    refine lv_iload_n hx hb dX3_heightBetween_13 rfl (lv_at hl 1 rfl) ?_
    refine x_iald hx hb hK hV f1 (a) (by omega) (by decide) dX3_heightBetween_14 ?_
    refine lv_isub hx hb dX3_heightBetween_15 ?_
    refine lv_istore (lv' := [(4, .int ((f b) - (f a))), (0, .ref (loc (ta))), (1, .int (nI (a))), (2, .int (nI (i))), (3, .int (nI (b)))]) hx hb dX3_heightBetween_16 hl (by decide) rfl (fun ls hl => ?_)
    refine lv_aload_n hx hb dX3_heightBetween_18 rfl (lv_at hl 1 rfl) ?_
    refine lv_iload_n hx hb dX3_heightBetween_19 rfl (lv_at hl 2 rfl) ?_
    refine x_iald hx hb hK hV f1 (a) (by omega) (by decide) dX3_heightBetween_20 ?_
    refine lv_iload hx hb dX3_heightBetween_21 (lv_at hl 0 rfl) ?_
    refine lv_iload_n hx hb dX3_heightBetween_23 rfl (lv_at hl 3 rfl) ?_
    refine lv_iload_n hx hb dX3_heightBetween_24 rfl (lv_at hl 2 rfl) ?_
    refine x_isub hx hb (i) (a) hai dX3_heightBetween_25 ?_
    refine lv_imul hx hb dX3_heightBetween_26 ?_
    refine lv_iload_n hx hb dX3_heightBetween_27 rfl (lv_at hl 4 rfl) ?_
    refine lv_iload_n hx hb dX3_heightBetween_28 rfl (lv_at hl 2 rfl) ?_
    refine x_isub hx hb (b) (a) (by omega) dX3_heightBetween_29 ?_
    refine x_ci (va_runS (As := [.int (((f b) - (f a)) * (nI (i - a))), .int (nI (b - a))]) (rest := [.int (f a)]) ⟨hx, hb, hml, hown, hts⟩ (c_J9_floorDiv_7cf53 l D cy loc w s.heap.size ((f b - f a) * nI (i - a)) (b - a) (by omega) (by omega)) (va_cwS 2 hts gX3_heightBetween_J9_floorDiv_7cf53 rfl rfl rfl (by decide +kernel) ⟨Nat.le_of_ble_eq_true rfl, Nat.le_of_ble_eq_true rfl⟩) (x_preS hK hV) rfl rfl hl.1 rfl (lv_room (Nat.le_of_ble_eq_true rfl)) dX3_heightBetween_30 ⟨Nat.le_of_ble_eq_true rfl, Nat.le_of_ble_eq_true rfl⟩) (fun r3 hr4 => ?_)
    obtain rfl : r3 = xfloor ((f b - f a) * nI (i - a)) (nI (b - a)) := hr4
    refine lv_iadd hx hb dX3_heightBetween_33 ?_
    exact x_ri hx hb hr hlocks dX3_heightBetween_34 (by show _ = _; rw [xhb, if_neg (by omega)])
  · have _u := trivial
    refine lv_aload_n hx hb dX3_heightBetween_5 rfl (lv_at hl 0 rfl) ?_
    refine lv_iload_n hx hb dX3_heightBetween_6 rfl (lv_at hl 1 rfl) ?_
    refine x_iald hx hb hK hV f1 (a) (by omega) (by decide) dX3_heightBetween_7 ?_
    exact x_ri hx hb hr hlocks dX3_heightBetween_8 (by show _ = _; rw [xhb, if_pos (by omega)])
