abbrev rm_X8_isPressed : Room := { frames := 0, cells := 0, slots := 0, locals := 0 }
theorem hi_X8_isPressed_X8 : ∀ w ∈ wsX80, w ∈ wsX8_isPressed := fun w h => List.mem_cons_of_mem _ (List.mem_append_right _ h)
set_option maxHeartbeats 4000000 in
set_option maxRecDepth 100000 in
theorem c_X8_isPressed (l : Launch) (D : va_G) (cy : Nat → ClassId) (loc : Nat → Nat) (w : xM) (sz : Nat) (σ : xS) (z0 z1 z2 z3 z4 : Int32) (b : Nat → Int32) (f t : Nat) (hf : f ≤ t + 1) (ht : t < 9) (f1 : w (300) = some (.inr (8, [.ref (loc (301)), .int (nI (σ.2 0)), .ref (loc (302)), .ref (loc (303)), .ref (loc (304)), .int (nI (σ.2 1)), .ref (loc (305)), .ref (loc (306)), .ref (loc (307)), .ref (loc (308)), .int (z0), .int (z1), .int (z2), .int (z3), .int (nI (σ.2 5)), .ref (loc (309)), .ref (loc (310)), .int (z4), .int (nI (σ.2 2)), .ref (loc (311)), .int (nI (σ.2 3)), .ref (loc (312)), .ref (loc (313)), .int (σ.1 10 0), .int (σ.1 10 1), .int (nI (σ.2 4)), .ref (loc (314))]))) (f2 : w (308) = some (eI cy 9 (b))) : Met l yX8_isPressed wsX8_isPressed rm_X8_isPressed (va_Pc [.ref (loc (300)), .int (nI (f)), .int (nI (t))] (xP D cy loc w sz)) (vp_Si (fun r => r = xb (xcnt b f (t + 1 - f) ≠ 0))) 0 0 (fun _ => False) := by
  refine x_met (cc := cX8_isPressed) (maxL := 5) (ret := (some .boolean)) (C := RX8) (by decide) rfl rfl (Nat.le_of_ble_eq_true rfl) ?_
  intro p e s m below meth c ls hx hb hml hr hts hown hlocks hin hP hl
  obtain ⟨hsz, hV, hK⟩ := hP
  subst hsz
  have hl : lv_has ls 5 [(0, .ref (loc (300))), (1, .int (nI (f))), (2, .int (nI (t)))] := hl
  refine lv_iconst (v := nI 0) hx hb dX8_isPressed_0 (by decide +kernel) ?_
  refine lv_istore_n (lv' := [(3, .int (nI (0))), (0, .ref (loc (300))), (1, .int (nI (f))), (2, .int (nI (t)))]) hx hb dX8_isPressed_1 rfl hl (by decide) rfl (fun ls hl => ?_)
  refine lv_iload_n hx hb dX8_isPressed_2 rfl (lv_at hl 2 rfl) ?_
  refine lv_istore (lv' := [(4, .int (nI (f))), (3, .int (nI (0))), (0, .ref (loc (300))), (1, .int (nI (f))), (2, .int (nI (t)))]) hx hb dX8_isPressed_3 hl (by decide) rfl (fun ls hl => ?_)
  have lp5_3 : ∀ (fuel4 : Nat) (z : Int32) (i : Nat) (ls : Array Slot), t + 1 - i < fuel4 → (f ≤ i) → (i ≤ t + 1) → (z = xb (xcnt b f (i - f) ≠ 0)) → lv_has ls 5 [(4, .int (nI (i))), (3, .int (z)), (0, .ref (loc (300))), (1, .int (nI (f))), (2, .int (nI (t)))] → W p l e rm_X8_isPressed s m ([.ref (loc (300)), .int (nI (f)), .int (nI (t))] : List Value).toArray below meth c s.heap [] 0 0 (MQ below (vp_Si (fun r => r = xb (xcnt b f (t + 1 - f) ≠ 0))) ([.ref (loc (300)), .int (nI (f)), .int (nI (t))] : List Value).toArray s 0 0 (fun _ => False)) (F0 m 5 ls []) := by
    intro fuel4
    induction fuel4 with
    | zero => intro z i ls hm5; exact absurd hm5 (Nat.not_lt_zero _)
    | succ fuel4 ih6 =>
      intro z i ls hm5 h1 h2 h3  hl
      refine lv_iload hx hb dX8_isPressed_5 (lv_at hl 0 rfl) ?_
      refine lv_iload_n hx hb dX8_isPressed_7 rfl (lv_at hl 4 rfl) ?_
      refine x_cgt hx hb (i) (t) (by omega) (by omega) (tgt := 37) dX8_isPressed_8 (by decide) (fun c7 => ?_) (fun c7 => ?_)
      · have _u := trivial
        refine lv_iload_n hx hb dX8_isPressed_37 rfl (lv_at hl 1 rfl) ?_
        exact x_rz hx hb hr hlocks (by rw [h3]; exact xb_nar _) dX8_isPressed_38 (by show _ = _; rw [h3, show i = t + 1 by omega])
      · have _u := trivial
        refine lv_iload_n hx hb dX8_isPressed_11 rfl (lv_at hl 1 rfl) ?_
        refine lv_if_ne (tgt := 25) hx hb dX8_isPressed_12 (by decide) (fun c8 => ?_) (fun c8 => ?_)
        · have _u := trivial
          refine lv_iconst (v := nI 1) hx hb dX8_isPressed_25 (by decide +kernel) ?_
          refine lv_goto (tgt := 30) hx hb dX8_isPressed_26 (by decide) ?_
          refine lv_istore_n (lv' := [(3, .int (nI (1))), (4, .int (nI (i))), (0, .ref (loc (300))), (1, .int (nI (f))), (2, .int (nI (t)))]) hx hb dX8_isPressed_30 rfl hl (by decide) rfl (fun ls hl => ?_)
          refine lv_iinc (v := nI (i + 1)) (lv' := [(4, .int (nI (i + 1))), (3, .int (nI (1))), (0, .ref (loc (300))), (1, .int (nI (f))), (2, .int (nI (t)))]) hx hb dX8_isPressed_31 hl (k := 1) rfl (nI_add _ _) (by decide) rfl (fun ls hl => ?_)
          refine lv_goto (tgt := 5) hx hb dX8_isPressed_34 (by decide) ?_
          exact ih6 (nI 1) (i + 1) ls (by omega) (by omega) (by omega) (yip_1 h1 h3 c8) (lv_sub hl [0, 1, 2, 3, 4] rfl)
        · have _u := trivial
          refine lv_aload_n hx hb dX8_isPressed_15 rfl (lv_at hl 2 rfl) ?_
          refine x_get (C := RX8) (T := TX8) (N := 27) hx hb hts hi_X8_isPressed_X8 hown hK hV f1 rfl 9 (by decide) (hts (.fieldLink RX8 31 "SaddleHouseModel" "bears" "[I") (List.mem_of_getElem? (i := 1) rfl)) (fun _ h9 => h9) rfl dX8_isPressed_16 ?_
          refine lv_iload hx hb dX8_isPressed_19 (lv_at hl 0 rfl) ?_
          refine x_iald hx hb hK hV f2 (i) (by omega) (by decide) dX8_isPressed_21 ?_
          refine lv_if_le (tgt := 29) hx hb dX8_isPressed_22 (by decide) (fun c9 => ?_) (fun c9 => ?_)
          · have _u := trivial
            refine lv_iconst (v := nI 0) hx hb dX8_isPressed_29 (by decide +kernel) ?_
            refine lv_istore_n (lv' := [(3, .int (nI (0))), (4, .int (nI (i))), (0, .ref (loc (300))), (1, .int (nI (f))), (2, .int (nI (t)))]) hx hb dX8_isPressed_30 rfl hl (by decide) rfl (fun ls hl => ?_)
            refine lv_iinc (v := nI (i + 1)) (lv' := [(4, .int (nI (i + 1))), (3, .int (nI (0))), (0, .ref (loc (300))), (1, .int (nI (f))), (2, .int (nI (t)))]) hx hb dX8_isPressed_31 hl (k := 1) rfl (nI_add _ _) (by decide) rfl (fun ls hl => ?_)
            refine lv_goto (tgt := 5) hx hb dX8_isPressed_34 (by decide) ?_
            exact ih6 (nI 0) (i + 1) ls (by omega) (by omega) (by omega) (yip_3 h1 h3 c8 c9) (lv_sub hl [0, 1, 2, 3, 4] rfl)
          · have _u := trivial
            refine lv_iconst (v := nI 1) hx hb dX8_isPressed_25 (by decide +kernel) ?_
            refine lv_goto (tgt := 30) hx hb dX8_isPressed_26 (by decide) ?_
            refine lv_istore_n (lv' := [(3, .int (nI (1))), (4, .int (nI (i))), (0, .ref (loc (300))), (1, .int (nI (f))), (2, .int (nI (t)))]) hx hb dX8_isPressed_30 rfl hl (by decide) rfl (fun ls hl => ?_)
            refine lv_iinc (v := nI (i + 1)) (lv' := [(4, .int (nI (i + 1))), (3, .int (nI (1))), (0, .ref (loc (300))), (1, .int (nI (f))), (2, .int (nI (t)))]) hx hb dX8_isPressed_31 hl (k := 1) rfl (nI_add _ _) (by decide) rfl (fun ls hl => ?_)
            refine lv_goto (tgt := 5) hx hb dX8_isPressed_34 (by decide) ?_
            exact ih6 (nI 1) (i + 1) ls (by omega) (by omega) (by omega) (yip_2 h1 c9) (lv_sub hl [0, 1, 2, 3, 4] rfl)
  exact lp5_3 ((t + 1 - f) + 1) (nI 0) f ls (by omega) (Nat.le_refl _) hf (xb_f (fun q => q (by rw [Nat.sub_self]; rfl))).symm (lv_sub hl [0, 1, 2, 3, 4] rfl)
abbrev rm_X8_bridge : Room := { frames := 1, cells := 0, slots := 0, locals := 24 }
set_option maxHeartbeats 4000000 in
set_option maxRecDepth 100000 in
theorem c_X8_bridge (l : Launch) (D : va_G) (cy : Nat → ClassId) (loc : Nat → Nat) (w : xM) (sz : Nat) (σ : xS) (z0 z1 z2 z3 z4 : Int32) (b : Nat → Int32)  (f1 : w (300) = some (.inr (8, [.ref (loc (301)), .int (nI (σ.2 0)), .ref (loc (302)), .ref (loc (303)), .ref (loc (304)), .int (nI (σ.2 1)), .ref (loc (305)), .ref (loc (306)), .ref (loc (307)), .ref (loc (308)), .int (z0), .int (z1), .int (z2), .int (z3), .int (nI (σ.2 5)), .ref (loc (309)), .ref (loc (310)), .int (z4), .int (nI (σ.2 2)), .ref (loc (311)), .int (nI (σ.2 3)), .ref (loc (312)), .ref (loc (313)), .int (σ.1 10 0), .int (σ.1 10 1), .int (nI (σ.2 4)), .ref (loc (314))]))) (f2 : w (308) = some (eI cy 9 (b))) : Met l yX8_bridge wsX8_bridge rm_X8_bridge (va_Pc [.ref (loc (300))] (xP D cy loc w sz)) (vp_Si (fun r => r = xfv (xbc (xprs b)))) 0 0 (fun _ => False) := by
  refine x_met (cc := cX8_bridge) (maxL := 2) (ret := (some .int)) (C := RX8) (by decide) rfl rfl (Nat.le_of_ble_eq_true rfl) ?_
  intro p e s m below meth c ls hx hb hml hr hts hown hlocks hin hP hl
  obtain ⟨hsz, hV, hK⟩ := hP
  subst hsz
  have hl : lv_has ls 2 [(0, .ref (loc (300)))] := hl
  refine lv_iconst (v := nI 1) hx hb dX8_bridge_0 (by decide +kernel) ?_
  refine lv_istore_n (lv' := [(1, .int (nI (1))), (0, .ref (loc (300)))]) hx hb dX8_bridge_1 rfl hl (by decide) rfl (fun ls hl => ?_)
  have lp2_3 : ∀ (fuel4 : Nat) (i : Nat) (ls : Array Slot), 6 - i < fuel4 → (1 ≤ i) → (i ≤ 6) → (∀ i', 1 ≤ i' → i' < i → ¬ yBq b i') → lv_has ls 2 [(1, .int (nI (i))), (0, .ref (loc (300)))] → W p l e rm_X8_bridge s m ([.ref (loc (300))] : List Value).toArray below meth c s.heap [] 0 0 (MQ below (vp_Si (fun r => r = xfv (xbc (xprs b)))) ([.ref (loc (300))] : List Value).toArray s 0 0 (fun _ => False)) (F0 m 2 ls []) := by
    intro fuel4
    induction fuel4 with
    | zero => intro i ls hm5; exact absurd hm5 (Nat.not_lt_zero _)
    | succ fuel4 ih6 =>
      intro i ls hm5 h1 h6 h2  hl
      refine lv_iload_n hx hb dX8_bridge_2 rfl (lv_at hl 0 rfl) ?_
      refine lv_bipush (v := nI 6) hx hb dX8_bridge_3 (by decide +kernel) ?_
      refine x_cge hx hb (i) (6) (by omega) (by omega) (tgt := 52) dX8_bridge_5 (by decide) (fun c7 => ?_) (fun c7 => ?_)
      · have _u := trivial
        refine lv_iconst (v := -1) hx hb dX8_bridge_52 (by decide +kernel) ?_
        exact x_ri hx hb hr hlocks dX8_bridge_53 (ybr_miss (by omega) h2)
      · have _u := trivial
        refine lv_aload_n hx hb dX8_bridge_8 rfl (lv_at hl 1 rfl) ?_
        refine lv_iload_n hx hb dX8_bridge_9 rfl (lv_at hl 0 rfl) ?_
        refine lv_iconst (v := nI 1) hx hb dX8_bridge_10 (by decide +kernel) ?_
        refine x_isub hx hb (i) (1) (by omega) dX8_bridge_11 ?_
        refine lv_iload_n hx hb dX8_bridge_12 rfl (lv_at hl 0 rfl) ?_
        refine lv_iconst (v := nI 1) hx hb dX8_bridge_13 (by decide +kernel) ?_
        refine x_isub hx hb (i) (1) (by omega) dX8_bridge_14 ?_
        refine x_ci (va_runV (As := [.int (nI (i - 1)), .int (nI (i - 1))]) (rest := []) ⟨hx, hb, hml, hown, hts⟩ (c_X8_isPressed l D cy loc w s.heap.size σ (z0) (z1) (z2) (z3) (z4) b (i - 1) (i - 1) (by omega) (by omega) f1 f2) (cwV 2 hts gX8_bridge_X8_isPressed rfl rfl rfl (by decide +kernel) ⟨Nat.le_of_ble_eq_true rfl, Nat.le_of_ble_eq_true rfl⟩) (x_preV hK hV f1 rfl) rfl rfl hl.1 rfl (lv_room (Nat.le_of_ble_eq_true rfl)) dX8_bridge_15 ⟨Nat.le_of_ble_eq_true rfl, Nat.le_of_ble_eq_true rfl⟩) (fun r8 hr9 => ?_)
        have ez10 : xb (xcnt b (i - 1) (i - 1 + 1 - (i - 1)) ≠ 0) = r8 := Eq.symm (show r8 = xb (xcnt b (i - 1) (i - 1 + 1 - (i - 1)) ≠ 0) from hr9)
        subst ez10
        refine x_beq (tgt := 46) hx hb dX8_bridge_18 (by decide) (fun c11 => ?_) (fun c11 => ?_)
        · have _u := trivial
          refine lv_iinc (v := nI (i + 1)) (lv' := [(1, .int (nI (i + 1))), (0, .ref (loc (300)))]) hx hb dX8_bridge_46 hl (k := 0) rfl (nI_add _ _) (by decide) rfl (fun ls hl => ?_)
          refine lv_goto (tgt := 2) hx hb dX8_bridge_49 (by decide) ?_
          exact ih6 (i + 1) ls (by omega) (by omega) (by omega) (ybr_n h2 (by first | exact fun q => c11 q.1 | exact fun q => q.2.1 c11 | exact fun q => c11 q.2.2)) (lv_sub hl [0, 1] rfl)
        · have _u := trivial
          refine lv_aload_n hx hb dX8_bridge_21 rfl (lv_at hl 1 rfl) ?_
          refine lv_iload_n hx hb dX8_bridge_22 rfl (lv_at hl 0 rfl) ?_
          refine lv_iload_n hx hb dX8_bridge_23 rfl (lv_at hl 0 rfl) ?_
          refine lv_iconst (v := nI 2) hx hb dX8_bridge_24 (by decide +kernel) ?_
          refine x_iadd hx hb (i) (2) dX8_bridge_25 ?_
          refine x_ci (va_runV (As := [.int (nI (i)), .int (nI (i + 2))]) (rest := []) ⟨hx, hb, hml, hown, hts⟩ (c_X8_isPressed l D cy loc w s.heap.size σ (z0) (z1) (z2) (z3) (z4) b (i) (i + 2) (by omega) (by omega) f1 f2) (cwV 2 hts gX8_bridge_X8_isPressed rfl rfl rfl (by decide +kernel) ⟨Nat.le_of_ble_eq_true rfl, Nat.le_of_ble_eq_true rfl⟩) (x_preV hK hV f1 rfl) rfl rfl hl.1 rfl (lv_room (Nat.le_of_ble_eq_true rfl)) dX8_bridge_26 ⟨Nat.le_of_ble_eq_true rfl, Nat.le_of_ble_eq_true rfl⟩) (fun r12 hr13 => ?_)
          have ez14 : xb (xcnt b (i) (i + 2 + 1 - (i)) ≠ 0) = r12 := Eq.symm (show r12 = xb (xcnt b (i) (i + 2 + 1 - (i)) ≠ 0) from hr13)
          subst ez14
          refine x_bne (tgt := 46) hx hb dX8_bridge_29 (by decide) (fun c15 => ?_) (fun c15 => ?_)
          · have _u := trivial
            refine lv_iinc (v := nI (i + 1)) (lv' := [(1, .int (nI (i + 1))), (0, .ref (loc (300)))]) hx hb dX8_bridge_46 hl (k := 0) rfl (nI_add _ _) (by decide) rfl (fun ls hl => ?_)
            refine lv_goto (tgt := 2) hx hb dX8_bridge_49 (by decide) ?_
            exact ih6 (i + 1) ls (by omega) (by omega) (by omega) (ybr_n h2 (by first | exact fun q => c15 q.1 | exact fun q => q.2.1 c15 | exact fun q => c15 q.2.2)) (lv_sub hl [0, 1] rfl)
          · have _u := trivial
            refine lv_aload_n hx hb dX8_bridge_32 rfl (lv_at hl 1 rfl) ?_
            refine lv_iload_n hx hb dX8_bridge_33 rfl (lv_at hl 0 rfl) ?_
            refine lv_iconst (v := nI 3) hx hb dX8_bridge_34 (by decide +kernel) ?_
            refine x_iadd hx hb (i) (3) dX8_bridge_35 ?_
            refine lv_bipush (v := nI 8) hx hb dX8_bridge_36 (by decide +kernel) ?_
            refine x_ci (va_runV (As := [.int (nI (i + 3)), .int (nI (8))]) (rest := []) ⟨hx, hb, hml, hown, hts⟩ (c_X8_isPressed l D cy loc w s.heap.size σ (z0) (z1) (z2) (z3) (z4) b (i + 3) (8) (by omega) (by omega) f1 f2) (cwV 2 hts gX8_bridge_X8_isPressed rfl rfl rfl (by decide +kernel) ⟨Nat.le_of_ble_eq_true rfl, Nat.le_of_ble_eq_true rfl⟩) (x_preV hK hV f1 rfl) rfl rfl hl.1 rfl (lv_room (Nat.le_of_ble_eq_true rfl)) dX8_bridge_38 ⟨Nat.le_of_ble_eq_true rfl, Nat.le_of_ble_eq_true rfl⟩) (fun r16 hr17 => ?_)
            have ez18 : xb (xcnt b (i + 3) (8 + 1 - (i + 3)) ≠ 0) = r16 := Eq.symm (show r16 = xb (xcnt b (i + 3) (8 + 1 - (i + 3)) ≠ 0) from hr17)
            subst ez18
            refine x_beq (tgt := 46) hx hb dX8_bridge_41 (by decide) (fun c19 => ?_) (fun c19 => ?_)
            · have _u := trivial
              refine lv_iinc (v := nI (i + 1)) (lv' := [(1, .int (nI (i + 1))), (0, .ref (loc (300)))]) hx hb dX8_bridge_46 hl (k := 0) rfl (nI_add _ _) (by decide) rfl (fun ls hl => ?_)
              refine lv_goto (tgt := 2) hx hb dX8_bridge_49 (by decide) ?_
              exact ih6 (i + 1) ls (by omega) (by omega) (by omega) (ybr_n h2 (by first | exact fun q => c19 q.1 | exact fun q => q.2.1 c19 | exact fun q => c19 q.2.2)) (lv_sub hl [0, 1] rfl)
            · have _u := trivial
              refine lv_iload_n hx hb dX8_bridge_44 rfl (lv_at hl 0 rfl) ?_
              exact x_ri hx hb hr hlocks dX8_bridge_45 (ybr_hit h1 (by omega) h2 ⟨c11, c15, c19⟩)
  exact lp2_3 (6 + 1) 1 ls (by omega) (Nat.le_refl _) (by decide) (fun i' q1 q2 => absurd q1 (by omega)) (lv_sub hl [0, 1] rfl)
