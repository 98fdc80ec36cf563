abbrev rm_X0_endFor : Room := { frames := 1, cells := 0, slots := 0, locals := 21 }
theorem hi_X0_endFor_X0 : ∀ w ∈ wsX00, w ∈ wsX0_endFor := by decide +kernel
set_option maxHeartbeats 4000000 in
set_option maxRecDepth 100000 in
theorem c_X0_endFor (l : Launch) (D : va_G) (cy : Nat → ClassId) (loc : Nat → Nat) (w : xM) (sz : Nat) (t : Nat) (h0 f0 n d : Int32) (f1 : w (t) = some (.inr (0, [.int (h0), .int (f0)]))) : Met l yX0_endFor wsX0_endFor rm_X0_endFor (va_Pc [.ref (loc (t)), .int (n), .int (d)] (xP D cy loc w sz)) (vp_Si (fun r => r = xend h0 f0 n d)) 0 0 (fun _ => False) := by
  refine x_met (cc := cX0_endFor) (maxL := 3) (ret := (some .int)) (C := RX0) (by decide) rfl rfl (Nat.le_of_ble_eq_true rfl) ?_
  intro p e s m below meth c ls hx hb hml hr hts hown hlocks hin hP hl
  obtain ⟨hsz, hV, hK⟩ := hP
  subst hsz
  have hl : lv_has ls 3 [(0, .ref (loc (t))), (1, .int (n)), (2, .int (d))] := hl
  refine lv_iload_n hx hb dX0_endFor_0 rfl (lv_at hl 2 rfl) ?_
  refine lv_aload_n hx hb dX0_endFor_1 rfl (lv_at hl 0 rfl) ?_
  refine x_get (C := RX0) (T := TX0) (N := 2) hx hb hts hi_X0_endFor_X0 hown hK hV f1 rfl 0 (by decide) (hts (.fieldLink RX0 15 "SaddleHouse$Bench" "hours" "I") (by decide +kernel)) (fun _ h9 => h9) rfl dX0_endFor_2 ?_
  refine lv_imul hx hb dX0_endFor_5 ?_
  refine lv_aload_n hx hb dX0_endFor_6 rfl (lv_at hl 0 rfl) ?_
  refine x_get (C := RX0) (T := TX0) (N := 2) hx hb hts hi_X0_endFor_X0 hown hK hV f1 rfl 1 (by decide) (hts (.fieldLink RX0 9 "SaddleHouse$Bench" "freeHour" "I") (by decide +kernel)) (fun _ h9 => h9) rfl dX0_endFor_7 ?_
  refine va_mmax hx hb (by rw [hml]; exact hl.1.symm) hown (hts (.methodLink RX0 18 Lib.Math.max.name) (by decide +kernel)) (hts (.static Lib.Math.max.name) (by decide +kernel)) (hts (.initialized "java/lang/Math") (by decide +kernel)) (hts (.code Lib.Math.max.name Lib.Math.max.code 2 (some .int)) (by decide +kernel)) (Nat.le_of_ble_eq_true rfl) (Nat.le_of_ble_eq_true rfl) (Nat.zero_le _) (Nat.zero_le _) dX0_endFor_10 ?_
  refine lv_iload_n hx hb dX0_endFor_13 rfl (lv_at hl 1 rfl) ?_
  refine lv_iadd hx hb dX0_endFor_14 ?_
  exact x_ri hx hb hr hlocks dX0_endFor_15 (rfl)
abbrev rm_X0_promiseFor : Room := { frames := 2, cells := 0, slots := 0, locals := 43 }
theorem hi_X0_promiseFor_X0 : ∀ w ∈ wsX00, w ∈ wsX0_promiseFor := by decide +kernel
set_option maxHeartbeats 4000000 in
set_option maxRecDepth 100000 in
theorem c_X0_promiseFor (l : Launch) (D : va_G) (cy : Nat → ClassId) (loc : Nat → Nat) (w : xM) (sz : Nat) (t : Nat) (h0 f0 n d : Int32) (f1 : w (t) = some (.inr (0, [.int (h0), .int (f0)]))) : Met l yX0_promiseFor wsX0_promiseFor rm_X0_promiseFor (va_Pc [.ref (loc (t)), .int (n), .int (d)] (xP D cy loc w sz)) (vp_Si (fun r => r = xprom h0 f0 n d)) 0 0 (fun _ => False) := by
  refine x_met (cc := cX0_promiseFor) (maxL := 3) (ret := (some .int)) (C := RX0) (by decide) rfl rfl (Nat.le_of_ble_eq_true rfl) ?_
  intro p e s m below meth c ls hx hb hml hr hts hown hlocks hin hP hl
  obtain ⟨hsz, hV, hK⟩ := hP
  subst hsz
  have hl : lv_has ls 3 [(0, .ref (loc (t))), (1, .int (n)), (2, .int (d))] := hl
  refine lv_aload_n hx hb dX0_promiseFor_0 rfl (lv_at hl 0 rfl) ?_
  refine x_get (C := RX0) (T := TX0) (N := 2) hx hb hts hi_X0_promiseFor_X0 hown hK hV f1 rfl 0 (by decide) (hts (.fieldLink RX0 15 "SaddleHouse$Bench" "hours" "I") (by decide +kernel)) (fun _ h9 => h9) rfl dX0_promiseFor_1 ?_
  refine lv_iconst (v := nI 1) hx hb dX0_promiseFor_4 (by decide +kernel) ?_
  refine lv_icmp_ge (tgt := 13) hx hb dX0_promiseFor_5 (by decide) (fun c2 => ?_) (fun c2 => ?_)
  · have _u := trivial
    have hnl : ¬ h0 < nI 1 := Int32.not_lt.mpr c2
    have hne : ¬ h0 = 0 := fun q => absurd (show nI 1 ≤ 0 from q ▸ c2) (by decide)
    refine lv_aload_n hx hb dX0_promiseFor_13 rfl (lv_at hl 0 rfl) ?_
    refine lv_iload_n hx hb dX0_promiseFor_14 rfl (lv_at hl 1 rfl) ?_
    refine lv_iload_n hx hb dX0_promiseFor_15 rfl (lv_at hl 2 rfl) ?_
    refine x_ci (va_runV (As := [.int (n), .int (d)]) (rest := []) ⟨hx, hb, hml, hown, hts⟩ (c_X0_endFor l D cy loc w s.heap.size t h0 f0 n d f1) (cwV 2 hts gX0_promiseFor_X0_endFor rfl rfl rfl (by decide +kernel) ⟨Nat.le_of_ble_eq_true rfl, Nat.le_of_ble_eq_true rfl⟩) (x_preV hK hV f1 rfl) rfl rfl hl.1 rfl (lv_room (Nat.le_of_ble_eq_true rfl)) dX0_promiseFor_16 ⟨Nat.le_of_ble_eq_true rfl, Nat.le_of_ble_eq_true rfl⟩) (fun r3 hr4 => ?_)
    obtain rfl : r3 = xend h0 f0 n d := hr4
    refine lv_iconst (v := nI 1) hx hb dX0_promiseFor_19 (by decide +kernel) ?_
    refine lv_isub hx hb dX0_promiseFor_20 ?_
    refine lv_aload_n hx hb dX0_promiseFor_21 rfl (lv_at hl 0 rfl) ?_
    refine x_get (C := RX0) (T := TX0) (N := 2) hx hb hts hi_X0_promiseFor_X0 hown hK hV f1 rfl 0 (by decide) (hts (.fieldLink RX0 15 "SaddleHouse$Bench" "hours" "I") (by decide +kernel)) (fun _ h9 => h9) rfl dX0_promiseFor_22 ?_
    refine lv_idiv hx hb dX0_promiseFor_25 hne ?_
    exact x_ri hx hb hr hlocks dX0_promiseFor_26 (by show _ = _; rw [xprom, if_neg hnl])
  · have _u := trivial
    have hlt : h0 < nI 1 := Int32.not_le.mp c2
    refine lv_ldc (v := nI 100001) hx hb hown (hts (.constant RX0 24 (100001)) (by decide +kernel)) dX0_promiseFor_8 ?_
    refine lv_goto (tgt := 26) hx hb dX0_promiseFor_10 (by decide) ?_
    exact x_ri hx hb hr hlocks dX0_promiseFor_26 (by show _ = _; rw [xprom, if_pos hlt])
abbrev rm_X7_mix : Room := { frames := 0, cells := 0, slots := 0, locals := 0 }
set_option maxHeartbeats 4000000 in
set_option maxRecDepth 100000 in
theorem c_X7_mix (l : Launch) (D : va_G) (cy : Nat → ClassId) (loc : Nat → Nat) (w : xM) (sz : Nat) (h v : Int64)  : Met l yX7_mix wsX7_mix rm_X7_mix (va_Pc [.long (h), .long (v)] (xP D cy loc w sz)) (vp_Sl (fun r => r = 31 * h + v)) 0 0 (fun _ => False) := by
  refine x_met (cc := cX7_mix) (maxL := 4) (ret := (some .long)) (C := RX7) (by decide) rfl rfl (Nat.le_of_ble_eq_true rfl) ?_
  intro p e s m below meth c ls hx hb hml hr hts hown hlocks hin hP hl
  obtain ⟨hsz, hV, hK⟩ := hP
  subst hsz
  have hl : lv_has ls 4 [(0, .long (h)), (2, .long (v))] := hl
  refine lv_ldc2 (v := 31) hx hb hown (hts (.constantLong RX7 261 (31)) (by decide +kernel)) dX7_mix_0 ?_
  refine lv_lload_n hx hb dX7_mix_3 rfl (lv_at hl 0 rfl) ?_
  refine lv_lmul hx hb dX7_mix_4 ?_
  refine lv_lload_n hx hb dX7_mix_5 rfl (lv_at hl 1 rfl) ?_
  refine lv_ladd hx hb dX7_mix_6 ?_
  exact x_rl hx hb hr hlocks dX7_mix_7 (rfl)
abbrev rm_X7_mixAll : Room := { frames := 1, cells := 0, slots := 0, locals := 23 }
set_option maxHeartbeats 4000000 in
set_option maxRecDepth 100000 in
theorem c_X7_mixAll (l : Launch) (D : va_G) (cy : Nat → ClassId) (loc : Nat → Nat) (w : xM) (sz : Nat) (h : Int64) (ta n k0 : Nat) (f : Nat → Int32) (hk : k0 ≤ n) (hn : n < 1000) (f1 : w (ta) = some (eI cy n (f))) : Met l yX7_mixAll wsX7_mixAll rm_X7_mixAll (va_Pc [.long (h), .ref (loc (ta)), .int (nI (k0))] (xP D cy loc w sz)) (vp_Sl (fun r => r = xmx f k0 h)) 0 0 (fun _ => False) := by
  refine x_met (cc := cX7_mixAll) (maxL := 7) (ret := (some .long)) (C := RX7) (by decide) rfl rfl (Nat.le_of_ble_eq_true rfl) ?_
  intro p e s m below meth c ls hx hb hml hr hts hown hlocks hin hP hl
  obtain ⟨hsz, hV, hK⟩ := hP
  subst hsz
  have hl : lv_has ls 7 [(0, .long (h)), (2, .ref (loc (ta))), (3, .int (nI (k0)))] := hl
  refine lv_lload_n hx hb dX7_mixAll_0 rfl (lv_at hl 0 rfl) ?_
  refine lv_lstore (lv' := [(4, .long (h)), (0, .long (h)), (2, .ref (loc (ta))), (3, .int (nI (k0)))]) hx hb dX7_mixAll_1 hl (by decide) rfl (fun ls hl => ?_)
  refine lv_iconst (v := nI 0) hx hb dX7_mixAll_3 (by decide +kernel) ?_
  refine lv_istore (lv' := [(6, .int (nI (0))), (4, .long (h)), (0, .long (h)), (2, .ref (loc (ta))), (3, .int (nI (k0)))]) hx hb dX7_mixAll_4 hl (by decide) rfl (fun ls hl => ?_)
  have lp6_2 : ∀ (fuel3 : Nat) (z : Int64) (i : Nat) (ls : Array Slot), k0 - i < fuel3 → (i ≤ k0) → (z = xmx f i h) → lv_has ls 7 [(6, .int (nI (i))), (4, .long (z)), (0, .long (h)), (2, .ref (loc (ta))), (3, .int (nI (k0)))] → W p l e rm_X7_mixAll s m ([.long (h), .ref (loc (ta)), .int (nI (k0))] : List Value).toArray below meth c s.heap [] 0 0 (MQ below (vp_Sl (fun r => r = xmx f k0 h)) ([.long (h), .ref (loc (ta)), .int (nI (k0))] : List Value).toArray s 0 0 (fun _ => False)) (F0 m 6 ls []) := by
    intro fuel3
    induction fuel3 with
    | zero => intro z i ls hm4; exact absurd hm4 (Nat.not_lt_zero _)
    | succ fuel3 ih5 =>
      intro z i ls hm4 h1 h2  hl
      refine lv_iload hx hb dX7_mixAll_6 (lv_at hl 0 rfl) ?_
      refine lv_iload_n hx hb dX7_mixAll_8 rfl (lv_at hl 4 rfl) ?_
      refine x_cge hx hb (i) (k0) (by omega) (by omega) (tgt := 30) dX7_mixAll_9 (by decide) (fun c6 => ?_) (fun c6 => ?_)
      · have _u := trivial
        refine lv_lload hx hb dX7_mixAll_30 (lv_at hl 1 rfl) ?_
        exact x_rl hx hb hr hlocks dX7_mixAll_32 (by show _ = _; rw [h2, show i = k0 by omega])
      · have _u := trivial
        refine lv_lload hx hb dX7_mixAll_12 (lv_at hl 1 rfl) ?_
        refine lv_aload_n hx hb dX7_mixAll_14 rfl (lv_at hl 3 rfl) ?_
        refine lv_iload hx hb dX7_mixAll_15 (lv_at hl 0 rfl) ?_
        refine x_iald hx hb hK hV f1 (i) (by omega) (by omega) dX7_mixAll_17 ?_
        refine lv_i2l (v := (f i).toInt64) hx hb dX7_mixAll_18 rfl ?_
        refine x_cl (va_runS (As := [.long (z), .long ((f i).toInt64)]) (rest := []) ⟨hx, hb, hml, hown, hts⟩ (c_X7_mix l D cy loc w s.heap.size z ((f i).toInt64)) (cwS 2 hts gX7_mixAll_X7_mix rfl rfl rfl (by decide +kernel) ⟨Nat.le_of_ble_eq_true rfl, Nat.le_of_ble_eq_true rfl⟩) (x_preS hK hV) rfl rfl hl.1 rfl (lv_room (Nat.le_of_ble_eq_true rfl)) dX7_mixAll_19 ⟨Nat.le_of_ble_eq_true rfl, Nat.le_of_ble_eq_true rfl⟩) (fun r7 hr8 => ?_)
        obtain rfl : r7 = 31 * z + (f (i)).toInt64 := hr8
        refine lv_lstore (lv' := [(4, .long (31 * z + (f (i)).toInt64)), (6, .int (nI (i))), (0, .long (h)), (2, .ref (loc (ta))), (3, .int (nI (k0)))]) hx hb dX7_mixAll_22 hl (by decide) rfl (fun ls hl => ?_)
        refine lv_iinc (v := nI (i + 1)) (lv' := [(6, .int (nI (i + 1))), (4, .long (31 * z + (f (i)).toInt64)), (0, .long (h)), (2, .ref (loc (ta))), (3, .int (nI (k0)))]) hx hb dX7_mixAll_24 hl (k := 1) rfl (nI_add _ _) (by decide) rfl (fun ls hl => ?_)
        refine lv_goto (tgt := 6) hx hb dX7_mixAll_27 (by decide) ?_
        exact ih5 (31 * z + (f (i)).toInt64) (i + 1) ls (by omega) (by omega) (by rw [xmx, h2]) (lv_sub hl [0, 1, 2, 3, 4] rfl)
  exact lp6_2 (k0 + 1) h 0 ls (by omega) (Nat.zero_le _) rfl (lv_sub hl [0, 1, 2, 3, 4] rfl)
abbrev rm_X4_mixInto : Room := { frames := 1, cells := 0, slots := 0, locals := 23 }
theorem hi_X4_mixInto_X4 : ∀ w ∈ wsX40, w ∈ wsX4_mixInto := by decide +kernel
set_option maxHeartbeats 4000000 in
set_option maxRecDepth 100000 in
theorem c_X4_mixInto (l : Launch) (D : va_G) (cy : Nat → ClassId) (loc : Nat → Nat) (w : xM) (sz : Nat) (t : Nat) (s0 s1 s2 s3 s4 : Int32) (h : Int64) (f1 : w (t) = some (.inr (4, [.int (s0), .int (s1), .int (s2), .int (s3), .int (s4)]))) : Met l yX4_mixInto wsX4_mixInto rm_X4_mixInto (va_Pc [.ref (loc (t)), .long (h)] (xP D cy loc w sz)) (vp_Sl (fun r => r = xmxs s0 s1 s2 s3 s4 h)) 0 0 (fun _ => False) := by
  refine x_met (cc := cX4_mixInto) (maxL := 3) (ret := (some .long)) (C := RX4) (by decide) rfl rfl (Nat.le_of_ble_eq_true rfl) ?_
  intro p e s m below meth c ls hx hb hml hr hts hown hlocks hin hP hl
  obtain ⟨hsz, hV, hK⟩ := hP
  subst hsz
  have hl : lv_has ls 3 [(0, .ref (loc (t))), (1, .long (h))] := hl
  refine lv_lload_n hx hb dX4_mixInto_0 rfl (lv_at hl 1 rfl) ?_
  refine lv_aload_n hx hb dX4_mixInto_1 rfl (lv_at hl 0 rfl) ?_
  refine x_get (C := RX4) (T := TX4) (N := 5) hx hb hts hi_X4_mixInto_X4 hown hK hV f1 rfl 0 (by decide) (hts (.fieldLink RX4 7 "SaddleHouse$Saddle" "tree" "I") (by decide +kernel)) (fun _ h9 => h9) rfl dX4_mixInto_2 ?_
  refine lv_i2l (v := (s0).toInt64) hx hb dX4_mixInto_5 rfl ?_
  refine x_cl (va_runSN (host := RX7) (As := [.long (h), .long ((s0).toInt64)]) (rest := []) ⟨hx, hb, hml, hown, hts⟩ (c_X7_mix l D cy loc w s.heap.size h ((s0).toInt64)) ⟨va_cnB 2 hts gX4_mixInto_X7_mix_n25 rfl rfl rfl (hK.2.1 (.methodLinkNest RX4 25 yX7_mix RX7) (by decide +kernel)) (hts (.initialized RX7) (by decide +kernel)) (by decide +kernel) ⟨Nat.le_of_ble_eq_true rfl, Nat.le_of_ble_eq_true rfl⟩, hts (.static yX7_mix) (by decide +kernel), trivial⟩ (x_preS hK hV) rfl rfl hl.1 rfl (lv_room (Nat.le_of_ble_eq_true rfl)) dX4_mixInto_6 ⟨Nat.le_of_ble_eq_true rfl, Nat.le_of_ble_eq_true rfl⟩) (fun r2 hr3 => ?_)
  obtain rfl : r2 = 31 * h + ((s0).toInt64) := hr3
  refine lv_aload_n hx hb dX4_mixInto_9 rfl (lv_at hl 0 rfl) ?_
  refine x_get (C := RX4) (T := TX4) (N := 5) hx hb hts hi_X4_mixInto_X4 hown hK hV f1 rfl 1 (by decide) (hts (.fieldLink RX4 13 "SaddleHouse$Saddle" "horse" "I") (by decide +kernel)) (fun _ h9 => h9) rfl dX4_mixInto_10 ?_
  refine lv_i2l (v := (s1).toInt64) hx hb dX4_mixInto_13 rfl ?_
  refine x_cl (va_runSN (host := RX7) (As := [.long (31 * h + ((s0).toInt64)), .long ((s1).toInt64)]) (rest := []) ⟨hx, hb, hml, hown, hts⟩ (c_X7_mix l D cy loc w s.heap.size (31 * h + ((s0).toInt64)) ((s1).toInt64)) ⟨va_cnB 2 hts gX4_mixInto_X7_mix_n25 rfl rfl rfl (hK.2.1 (.methodLinkNest RX4 25 yX7_mix RX7) (by decide +kernel)) (hts (.initialized RX7) (by decide +kernel)) (by decide +kernel) ⟨Nat.le_of_ble_eq_true rfl, Nat.le_of_ble_eq_true rfl⟩, hts (.static yX7_mix) (by decide +kernel), trivial⟩ (x_preS hK hV) rfl rfl hl.1 rfl (lv_room (Nat.le_of_ble_eq_true rfl)) dX4_mixInto_14 ⟨Nat.le_of_ble_eq_true rfl, Nat.le_of_ble_eq_true rfl⟩) (fun r4 hr5 => ?_)
  obtain rfl : r4 = 31 * (31 * h + ((s0).toInt64)) + ((s1).toInt64) := hr5
  refine lv_aload_n hx hb dX4_mixInto_17 rfl (lv_at hl 0 rfl) ?_
  refine x_get (C := RX4) (T := TX4) (N := 5) hx hb hts hi_X4_mixInto_X4 hown hK hV f1 rfl 2 (by decide) (hts (.fieldLink RX4 16 "SaddleHouse$Saddle" "day" "I") (by decide +kernel)) (fun _ h9 => h9) rfl dX4_mixInto_18 ?_
  refine lv_i2l (v := (s2).toInt64) hx hb dX4_mixInto_21 rfl ?_
  refine x_cl (va_runSN (host := RX7) (As := [.long (31 * (31 * h + ((s0).toInt64)) + ((s1).toInt64)), .long ((s2).toInt64)]) (rest := []) ⟨hx, hb, hml, hown, hts⟩ (c_X7_mix l D cy loc w s.heap.size (31 * (31 * h + ((s0).toInt64)) + ((s1).toInt64)) ((s2).toInt64)) ⟨va_cnB 2 hts gX4_mixInto_X7_mix_n25 rfl rfl rfl (hK.2.1 (.methodLinkNest RX4 25 yX7_mix RX7) (by decide +kernel)) (hts (.initialized RX7) (by decide +kernel)) (by decide +kernel) ⟨Nat.le_of_ble_eq_true rfl, Nat.le_of_ble_eq_true rfl⟩, hts (.static yX7_mix) (by decide +kernel), trivial⟩ (x_preS hK hV) rfl rfl hl.1 rfl (lv_room (Nat.le_of_ble_eq_true rfl)) dX4_mixInto_22 ⟨Nat.le_of_ble_eq_true rfl, Nat.le_of_ble_eq_true rfl⟩) (fun r6 hr7 => ?_)
  obtain rfl : r6 = 31 * (31 * (31 * h + ((s0).toInt64)) + ((s1).toInt64)) + ((s2).toInt64) := hr7
  refine lv_aload_n hx hb dX4_mixInto_25 rfl (lv_at hl 0 rfl) ?_
  refine x_get (C := RX4) (T := TX4) (N := 5) hx hb hts hi_X4_mixInto_X4 hown hK hV f1 rfl 3 (by decide) (hts (.fieldLink RX4 19 "SaddleHouse$Saddle" "guarantee" "I") (by decide +kernel)) (fun _ h9 => h9) rfl dX4_mixInto_26 ?_
  refine lv_i2l (v := (s3).toInt64) hx hb dX4_mixInto_29 rfl ?_
  refine x_cl (va_runSN (host := RX7) (As := [.long (31 * (31 * (31 * h + ((s0).toInt64)) + ((s1).toInt64)) + ((s2).toInt64)), .long ((s3).toInt64)]) (rest := []) ⟨hx, hb, hml, hown, hts⟩ (c_X7_mix l D cy loc w s.heap.size (31 * (31 * (31 * h + ((s0).toInt64)) + ((s1).toInt64)) + ((s2).toInt64)) ((s3).toInt64)) ⟨va_cnB 2 hts gX4_mixInto_X7_mix_n25 rfl rfl rfl (hK.2.1 (.methodLinkNest RX4 25 yX7_mix RX7) (by decide +kernel)) (hts (.initialized RX7) (by decide +kernel)) (by decide +kernel) ⟨Nat.le_of_ble_eq_true rfl, Nat.le_of_ble_eq_true rfl⟩, hts (.static yX7_mix) (by decide +kernel), trivial⟩ (x_preS hK hV) rfl rfl hl.1 rfl (lv_room (Nat.le_of_ble_eq_true rfl)) dX4_mixInto_30 ⟨Nat.le_of_ble_eq_true rfl, Nat.le_of_ble_eq_true rfl⟩) (fun r8 hr9 => ?_)
  obtain rfl : r8 = 31 * (31 * (31 * (31 * h + ((s0).toInt64)) + ((s1).toInt64)) + ((s2).toInt64)) + ((s3).toInt64) := hr9
  refine lv_aload_n hx hb dX4_mixInto_33 rfl (lv_at hl 0 rfl) ?_
  refine x_get (C := RX4) (T := TX4) (N := 5) hx hb hts hi_X4_mixInto_X4 hown hK hV f1 rfl 4 (by decide) (hts (.fieldLink RX4 22 "SaddleHouse$Saddle" "change" "I") (by decide +kernel)) (fun _ h9 => h9) rfl dX4_mixInto_34 ?_
  refine lv_i2l (v := (s4).toInt64) hx hb dX4_mixInto_37 rfl ?_
  refine x_cl (va_runSN (host := RX7) (As := [.long (31 * (31 * (31 * (31 * h + ((s0).toInt64)) + ((s1).toInt64)) + ((s2).toInt64)) + ((s3).toInt64)), .long ((s4).toInt64)]) (rest := []) ⟨hx, hb, hml, hown, hts⟩ (c_X7_mix l D cy loc w s.heap.size (31 * (31 * (31 * (31 * h + ((s0).toInt64)) + ((s1).toInt64)) + ((s2).toInt64)) + ((s3).toInt64)) ((s4).toInt64)) ⟨va_cnB 2 hts gX4_mixInto_X7_mix_n25 rfl rfl rfl (hK.2.1 (.methodLinkNest RX4 25 yX7_mix RX7) (by decide +kernel)) (hts (.initialized RX7) (by decide +kernel)) (by decide +kernel) ⟨Nat.le_of_ble_eq_true rfl, Nat.le_of_ble_eq_true rfl⟩, hts (.static yX7_mix) (by decide +kernel), trivial⟩ (x_preS hK hV) rfl rfl hl.1 rfl (lv_room (Nat.le_of_ble_eq_true rfl)) dX4_mixInto_38 ⟨Nat.le_of_ble_eq_true rfl, Nat.le_of_ble_eq_true rfl⟩) (fun r10 hr11 => ?_)
  obtain rfl : r10 = 31 * (31 * (31 * (31 * (31 * h + ((s0).toInt64)) + ((s1).toInt64)) + ((s2).toInt64)) + ((s3).toInt64)) + ((s4).toInt64) := hr11
  exact x_rl hx hb hr hlocks dX4_mixInto_41 (rfl)
