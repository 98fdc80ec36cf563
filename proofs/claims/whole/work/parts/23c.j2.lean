abbrev rm_X8_floor : Room := { frames := 0, cells := 0, slots := 0, locals := 0 }
set_option maxHeartbeats 4000000 in
set_option maxRecDepth 100000 in
theorem c_X8_floor (l : Launch) (D : va_G) (cy : Nat → ClassId) (loc : Nat → Nat) (w : xM) (sz : Nat) (a : Int32) (d : Nat) (hd1 : 1 ≤ d) (hd2 : d < 2 ^ 31)  : Met l yX8_floor wsX8_floor rm_X8_floor (va_Pc [.int (a), .int (nI (d))] (xP D cy loc w sz)) (vp_Si (fun r => r = xfloor a (nI d))) 0 0 (fun _ => False) := by
  refine x_met (cc := cX8_floor) (maxL := 3) (ret := (some .int)) (C := RX8) (by decide) rfl rfl (Nat.le_of_ble_eq_true rfl) ?_
  intro p e s m below meth c ls hx hb hml hr hts hown hlocks hin hP hl
  obtain ⟨hsz, hV, hK⟩ := hP
  subst hsz
  have hl : lv_has ls 3 [(0, .int (a)), (1, .int (nI (d)))] := hl
  refine lv_iload_n hx hb dX8_floor_0 rfl (lv_at hl 0 rfl) ?_
  refine lv_iload_n hx hb dX8_floor_1 rfl (lv_at hl 1 rfl) ?_
  refine lv_idiv hx hb dX8_floor_2 (nI_ne0 hd1 hd2) ?_
  refine lv_istore_n (lv' := [(2, .int (a / (nI d))), (0, .int (a)), (1, .int (nI (d)))]) hx hb dX8_floor_3 rfl hl (by decide) rfl (fun ls hl => ?_)
  refine lv_iload_n hx hb dX8_floor_4 rfl (lv_at hl 1 rfl) ?_
  refine lv_if_ge (tgt := 20) hx hb dX8_floor_5 (by decide) (fun c1 => ?_) (fun c1 => ?_)
  · have _u := trivial
    have z1 : ¬ a < 0 := by first | exact c1 | exact Int32.not_lt.mpr c1
    refine lv_iload_n hx hb dX8_floor_20 rfl (lv_at hl 0 rfl) ?_
    exact x_ri hx hb hr hlocks dX8_floor_21 (by first | exact xfloor_2 z1 | exact yfl_3 z2 | exact yfl_1 z1 z2)
  · have _u := trivial
    have z1 : a < 0 := by first | exact c1 | exact Int32.not_le.mp c1
    refine lv_iload_n hx hb dX8_floor_8 rfl (lv_at hl 1 rfl) ?_
    refine lv_iload_n hx hb dX8_floor_9 rfl (lv_at hl 2 rfl) ?_
    refine lv_irem hx hb dX8_floor_10 (nI_ne0 hd1 hd2) ?_
    refine lv_if_eq (tgt := 20) hx hb dX8_floor_11 (by decide) (fun c2 => ?_) (fun c2 => ?_)
    · have _u := trivial
      have z2 : a - a / nI d * nI d = 0 := c2
      refine lv_iload_n hx hb dX8_floor_20 rfl (lv_at hl 0 rfl) ?_
      exact x_ri hx hb hr hlocks dX8_floor_21 (by first | exact xfloor_2 z1 | exact yfl_3 z2 | exact yfl_1 z1 z2)
    · have _u := trivial
      have z2 : ¬ a - a / nI d * nI d = 0 := c2
      refine lv_iload_n hx hb dX8_floor_14 rfl (lv_at hl 0 rfl) ?_
      refine lv_iconst (v := nI 1) hx hb dX8_floor_15 (by decide +kernel) ?_
      refine lv_isub hx hb dX8_floor_16 ?_
      refine lv_goto (tgt := 21) hx hb dX8_floor_17 (by decide) ?_
      exact x_ri hx hb hr hlocks dX8_floor_21 (by first | exact xfloor_2 z1 | exact yfl_3 z2 | exact yfl_1 z1 z2)
abbrev rm_X8_underOf : Room := { frames := 0, cells := 0, slots := 0, locals := 0 }
theorem hi_X8_underOf_X8 : ∀ w ∈ wsX80, w ∈ wsX8_underOf := fun w h => List.mem_cons_of_mem _ (List.mem_append_right _ h)
set_option maxHeartbeats 4000000 in
set_option maxRecDepth 100000 in
theorem c_X8_underOf (l : Launch) (D : va_G) (cy : Nat → ClassId) (loc : Nat → Nat) (w : xM) (sz : Nat) (σ : xS) (hN : xN8 σ) (hR : yR cy loc σ w) (kt i : Nat) (hk : kt < 8) (hi : i < 9)   : Met l yX8_underOf wsX8_underOf rm_X8_underOf (va_Pc [.ref (loc (300)), .int (nI (kt)), .int (nI (i))] (xP D cy loc w sz)) (vp_Si (fun r => r = σ.1 3 (9 * kt + i) - σ.1 4 (9 * kt + i))) 0 0 (fun _ => False) := by
  refine x_met (cc := cX8_underOf) (maxL := 3) (ret := (some .int)) (C := RX8) (by decide) rfl rfl (Nat.le_of_ble_eq_true rfl) ?_
  intro p e s m below meth c ls hx hb hml hr hts hown hlocks hin hP hl
  obtain ⟨hsz, hV, hK⟩ := hP
  subst hsz
  have hl : lv_has ls 3 [(0, .ref (loc (300))), (1, .int (nI (kt))), (2, .int (nI (i)))] := hl
  have hNN := hN
  have hRR := hR
  obtain ⟨g0, b0, q0, v0, hw⟩ := hR
  obtain ⟨hN0, hN1, hN2, hN3, hN4, hN5, hN6⟩ := hN
  have f1 : w (300) = some (.inr (8, [.ref (loc (301)), .int (nI (σ.2 0)), .ref (loc (302)), .ref (loc (303)), .ref (loc (304)), .int (nI (σ.2 1)), .ref (loc (305)), .ref (loc (306)), .ref (loc (307)), .ref (loc (308)), .int (v0 0), .int (v0 1), .int (v0 2), .int (v0 3), .int (nI (σ.2 5)), .ref (loc (309)), .ref (loc (310)), .int (v0 4), .int (nI (σ.2 2)), .ref (loc (311)), .int (nI (σ.2 3)), .ref (loc (312)), .ref (loc (313)), .int (σ.1 10 0), .int (σ.1 10 1), .int (nI (σ.2 4)), .ref (loc (314))])) := (hw 0 (by decide)).trans rfl
  have f2 : w (305) = some (eI cy 72 (σ.1 3)) := (hw 5 (by decide)).trans rfl
  have f3 : w (306) = some (eI cy 72 (σ.1 4)) := (hw 6 (by decide)).trans rfl
  refine lv_aload_n hx hb dX8_underOf_0 rfl (lv_at hl 0 rfl) ?_
  refine x_get (C := RX8) (T := TX8) (N := 27) hx hb hts hi_X8_underOf_X8 hown hK hV f1 rfl 6 (by decide) (hts (.fieldLink RX8 22 "SaddleHouseModel" "body" "[I") (List.mem_of_getElem? (i := 1) rfl)) (fun _ h9 => h9) rfl dX8_underOf_1 ?_
  refine lv_bipush (v := nI 9) hx hb dX8_underOf_4 (by decide +kernel) ?_
  refine lv_iload_n hx hb dX8_underOf_6 rfl (lv_at hl 1 rfl) ?_
  refine x_imul hx hb (9) (kt) dX8_underOf_7 ?_
  refine lv_iload_n hx hb dX8_underOf_8 rfl (lv_at hl 2 rfl) ?_
  refine x_iadd hx hb (9 * kt) (i) dX8_underOf_9 ?_
  refine x_iald hx hb hK hV f2 ((9 * kt) + i) (by omega) (by decide) dX8_underOf_10 ?_
  refine lv_aload_n hx hb dX8_underOf_11 rfl (lv_at hl 0 rfl) ?_
  refine x_get (C := RX8) (T := TX8) (N := 27) hx hb hts hi_X8_underOf_X8 hown hK hV f1 rfl 7 (by decide) (hts (.fieldLink RX8 25 "SaddleHouseModel" "shims" "[I") (List.mem_of_getElem? (i := 2) rfl)) (fun _ h9 => h9) rfl dX8_underOf_12 ?_
  refine lv_bipush (v := nI 9) hx hb dX8_underOf_15 (by decide +kernel) ?_
  refine lv_iload_n hx hb dX8_underOf_17 rfl (lv_at hl 1 rfl) ?_
  refine x_imul hx hb (9) (kt) dX8_underOf_18 ?_
  refine lv_iload_n hx hb dX8_underOf_19 rfl (lv_at hl 2 rfl) ?_
  refine x_iadd hx hb (9 * kt) (i) dX8_underOf_20 ?_
  refine x_iald hx hb hK hV f3 ((9 * kt) + i) (by omega) (by decide) dX8_underOf_21 ?_
  refine lv_isub hx hb dX8_underOf_22 ?_
  exact x_ri hx hb hr hlocks dX8_underOf_23 (rfl)
abbrev rm_X8_backAt : Room := { frames := 0, cells := 0, slots := 0, locals := 0 }
theorem hi_X8_backAt_X8 : ∀ w ∈ wsX80, w ∈ wsX8_backAt := fun w h => List.mem_cons_of_mem _ (List.mem_append_right _ h)
set_option maxHeartbeats 4000000 in
set_option maxRecDepth 100000 in
theorem c_X8_backAt (l : Launch) (D : va_G) (cy : Nat → ClassId) (loc : Nat → Nat) (w : xM) (sz : Nat) (σ : xS) (hN : xN8 σ) (hR : yR cy loc σ w) (d : Int32) (k : Nat) (hk : k < 8)   : Met l yX8_backAt wsX8_backAt rm_X8_backAt (va_Pc [.ref (loc (300)), .int (nI (k)), .int (d)] (xP D cy loc w sz)) (vp_Si (fun r => r = yat σ k d (σ.2 (10 + k)))) 0 0 (fun _ => False) := by
  refine x_met (cc := cX8_backAt) (maxL := 5) (ret := (some .int)) (C := RX8) (by decide) rfl rfl (Nat.le_of_ble_eq_true rfl) ?_
  intro p e s m below meth c ls hx hb hml hr hts hown hlocks hin hP hl
  obtain ⟨hsz, hV, hK⟩ := hP
  subst hsz
  have hl : lv_has ls 5 [(0, .ref (loc (300))), (1, .int (nI (k))), (2, .int (d))] := hl
  have hNN := hN
  have hRR := hR
  obtain ⟨g0, b0, q0, v0, hw⟩ := hR
  obtain ⟨hN0, hN1, hN2, hN3, hN4, hN5, hN6⟩ := hN
  have h6 := hN6 k
  have f1 : w (300) = some (.inr (8, [.ref (loc (301)), .int (nI (σ.2 0)), .ref (loc (302)), .ref (loc (303)), .ref (loc (304)), .int (nI (σ.2 1)), .ref (loc (305)), .ref (loc (306)), .ref (loc (307)), .ref (loc (308)), .int (v0 0), .int (v0 1), .int (v0 2), .int (v0 3), .int (nI (σ.2 5)), .ref (loc (309)), .ref (loc (310)), .int (v0 4), .int (nI (σ.2 2)), .ref (loc (311)), .int (nI (σ.2 3)), .ref (loc (312)), .ref (loc (313)), .int (σ.1 10 0), .int (σ.1 10 1), .int (nI (σ.2 4)), .ref (loc (314))])) := (hw 0 (by decide)).trans rfl
  have f2 : w (302) = some (eI cy 8 (fun k => nI (σ.2 (10 + k)))) := (hw 2 (by decide)).trans rfl
  have f3 : w (303) = some (eI cy 48 (σ.1 1)) := (hw 3 (by decide)).trans rfl
  refine lv_iconst (v := -1) hx hb dX8_backAt_0 (by decide +kernel) ?_
  refine lv_istore_n (lv' := [(3, .int ((-1))), (0, .ref (loc (300))), (1, .int (nI (k))), (2, .int (d))]) hx hb dX8_backAt_1 rfl hl (by decide) rfl (fun ls hl => ?_)
  refine lv_iconst (v := nI 0) hx hb dX8_backAt_2 (by decide +kernel) ?_
  refine lv_istore (lv' := [(4, .int (nI (0))), (3, .int ((-1))), (0, .ref (loc (300))), (1, .int (nI (k))), (2, .int (d))]) hx hb dX8_backAt_3 hl (by decide) rfl (fun ls hl => ?_)
  have lp5_4 : ∀ (fuel5 : Nat) (a : Int32) (i : Nat) (ls : Array Slot), σ.2 (10 + k) - i < fuel5 → (i ≤ σ.2 (10 + k)) → (a = yat σ k d i) → lv_has ls 5 [(4, .int (nI (i))), (3, .int (a)), (0, .ref (loc (300))), (1, .int (nI (k))), (2, .int (d))] → W p l e rm_X8_backAt s m ([.ref (loc (300)), .int (nI (k)), .int (d)] : List Value).toArray below meth c s.heap [] 0 0 (MQ below (vp_Si (fun r => r = yat σ k d (σ.2 (10 + k)))) ([.ref (loc (300)), .int (nI (k)), .int (d)] : List Value).toArray s 0 0 (fun _ => False)) (F0 m 5 ls []) := by
    intro fuel5
    induction fuel5 with
    | zero => intro a i ls hm6; exact absurd hm6 (Nat.not_lt_zero _)
    | succ fuel5 ih7 =>
      intro a i ls hm6 h1 h2  hl
      refine lv_iload hx hb dX8_backAt_5 (lv_at hl 0 rfl) ?_
      refine lv_aload_n hx hb dX8_backAt_7 rfl (lv_at hl 2 rfl) ?_
      refine x_get (C := RX8) (T := TX8) (N := 27) hx hb hts hi_X8_backAt_X8 hown hK hV f1 rfl 2 (by decide) (hts (.fieldLink RX8 13 "SaddleHouseModel" "measures" "[I") (List.mem_of_getElem? (i := 1) rfl)) (fun _ h9 => h9) rfl dX8_backAt_8 ?_
      refine lv_iload_n hx hb dX8_backAt_11 rfl (lv_at hl 3 rfl) ?_
      refine x_iald hx hb hK hV f2 (k) (by omega) (by decide) dX8_backAt_12 ?_
      refine x_top (congrArg Value.int (show _ = nI (σ.2 (10 + k)) from rfl)) ?_
      refine x_cge hx hb (i) (σ.2 (10 + k)) (by omega) (by omega) (tgt := 53) dX8_backAt_13 (by decide) (fun c8 => ?_) (fun c8 => ?_)
      · have _u := trivial
        refine lv_iload_n hx hb dX8_backAt_53 rfl (lv_at hl 1 rfl) ?_
        exact x_ri hx hb hr hlocks dX8_backAt_54 (by show _ = _; rw [h2, show i = σ.2 (10 + k) by omega])
      · have _u := trivial
        refine lv_aload_n hx hb dX8_backAt_16 rfl (lv_at hl 2 rfl) ?_
        refine x_get (C := RX8) (T := TX8) (N := 27) hx hb hts hi_X8_backAt_X8 hown hK hV f1 rfl 3 (by decide) (hts (.fieldLink RX8 16 "SaddleHouseModel" "dayOf" "[I") (List.mem_of_getElem? (i := 2) rfl)) (fun _ h9 => h9) rfl dX8_backAt_17 ?_
        refine lv_bipush (v := nI 6) hx hb dX8_backAt_20 (by decide +kernel) ?_
        refine lv_iload_n hx hb dX8_backAt_22 rfl (lv_at hl 3 rfl) ?_
        refine x_imul hx hb (6) (k) dX8_backAt_23 ?_
        refine lv_iload hx hb dX8_backAt_24 (lv_at hl 0 rfl) ?_
        refine x_iadd hx hb (6 * k) (i) dX8_backAt_26 ?_
        refine x_iald hx hb hK hV f3 ((6 * k) + i) (by omega) (by decide) dX8_backAt_27 ?_
        refine lv_iload_n hx hb dX8_backAt_28 rfl (lv_at hl 4 rfl) ?_
        refine lv_icmp_gt (tgt := 45) hx hb dX8_backAt_29 (by decide) (fun c9 => ?_) (fun c9 => ?_)
        · have _u := trivial
          refine lv_iload_n hx hb dX8_backAt_45 rfl (lv_at hl 1 rfl) ?_
          refine lv_istore_n (lv' := [(3, .int (a)), (4, .int (nI (i))), (0, .ref (loc (300))), (1, .int (nI (k))), (2, .int (d))]) hx hb dX8_backAt_46 rfl hl (by decide) rfl (fun ls hl => ?_)
          refine lv_iinc (v := nI (i + 1)) (lv' := [(4, .int (nI (i + 1))), (3, .int (a)), (0, .ref (loc (300))), (1, .int (nI (k))), (2, .int (d))]) hx hb dX8_backAt_47 hl (k := 1) rfl (nI_add _ _) (by decide) rfl (fun ls hl => ?_)
          refine lv_goto (tgt := 5) hx hb dX8_backAt_50 (by decide) ?_
          exact ih7 a (i + 1) ls (by omega) (by omega) (yat_n h2 (by first | exact Int32.not_le.mpr c9 | exact c9)) (lv_sub hl [0, 1, 2, 3, 4] rfl)
        · have _u := trivial
          refine lv_bipush (v := nI 9) hx hb dX8_backAt_32 (by decide +kernel) ?_
          refine lv_bipush (v := nI 6) hx hb dX8_backAt_34 (by decide +kernel) ?_
          refine lv_iload_n hx hb dX8_backAt_36 rfl (lv_at hl 3 rfl) ?_
          refine x_imul hx hb (6) (k) dX8_backAt_37 ?_
          refine lv_iload hx hb dX8_backAt_38 (lv_at hl 0 rfl) ?_
          refine x_iadd hx hb (6 * k) (i) dX8_backAt_40 ?_
          refine x_imul hx hb (9) ((6 * k) + i) dX8_backAt_41 ?_
          refine lv_goto (tgt := 46) hx hb dX8_backAt_42 (by decide) ?_
          refine lv_istore_n (lv' := [(3, .int (nI (9 * ((6 * k) + i)))), (4, .int (nI (i))), (0, .ref (loc (300))), (1, .int (nI (k))), (2, .int (d))]) hx hb dX8_backAt_46 rfl hl (by decide) rfl (fun ls hl => ?_)
          refine lv_iinc (v := nI (i + 1)) (lv' := [(4, .int (nI (i + 1))), (3, .int (nI (9 * ((6 * k) + i)))), (0, .ref (loc (300))), (1, .int (nI (k))), (2, .int (d))]) hx hb dX8_backAt_47 hl (k := 1) rfl (nI_add _ _) (by decide) rfl (fun ls hl => ?_)
          refine lv_goto (tgt := 5) hx hb dX8_backAt_50 (by decide) ?_
          exact ih7 (nI (9 * ((6 * k) + i))) (i + 1) ls (by omega) (by omega) (yat_y (by first | exact Int32.not_lt.mp c9 | exact c9)) (lv_sub hl [0, 1, 2, 3, 4] rfl)
  exact lp5_4 ((σ.2 (10 + k)) + 1) (-1) 0 ls (by omega) (Nat.zero_le _) rfl (lv_sub hl [0, 1, 2, 3, 4] rfl)
