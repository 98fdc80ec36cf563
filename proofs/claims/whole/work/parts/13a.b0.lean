abbrev rm_X1_isWholeAt : Room := { frames := 0, cells := 0, slots := 0, locals := 0 }
theorem hi_X1_isWholeAt_X1 : ∀ w ∈ wsX10, w ∈ wsX1_isWholeAt := by decide +kernel
set_option maxHeartbeats 4000000 in
set_option maxRecDepth 100000 in
theorem c_X1_isWholeAt (l : Launch) (D : va_G) (cy : Nat → ClassId) (loc : Nat → Nat) (w : xM) (sz : Nat) (t : Nat) (P : Nat → Int32) (tp wd ht : Nat) (qy qx : Nat) (hy : qy + ht ≤ 12) (hx9 : qx + wd ≤ 16) (f1 : w (t) = some (.inr (1, [.ref (loc (tp))]))) (f2 : w (tp) = some (eI cy 192 (P))) : Met l yX1_isWholeAt wsX1_isWholeAt rm_X1_isWholeAt (va_Pc [.ref (loc (t)), .int (nI (16 * qy + qx)), .int (nI (wd)), .int (nI (ht))] (xP D cy loc w sz)) (vp_Si (fun r => r = xb (xfit P wd ht (16 * qy + qx)))) 0 0 (fun _ => False) := by
  refine x_met (cc := cX1_isWholeAt) (maxL := 6) (ret := (some .boolean)) (C := RX1) (by decide) rfl rfl (Nat.le_of_ble_eq_true rfl) ?_
  intro p e s m below meth c ls hx hb hml hr hts hown hlocks hin hP hl
  obtain ⟨hsz, hV, hK⟩ := hP
  subst hsz
  have hl : lv_has ls 6 [(0, .ref (loc (t))), (1, .int (nI (16 * qy + qx))), (2, .int (nI (wd))), (3, .int (nI (ht)))] := hl
  refine lv_iconst (v := nI 0) hx hb dX1_isWholeAt_0 (by decide +kernel) ?_
  refine lv_istore (lv' := [(4, .int (nI (0))), (0, .ref (loc (t))), (1, .int (nI (16 * qy + qx))), (2, .int (nI (wd))), (3, .int (nI (ht)))]) hx hb dX1_isWholeAt_1 hl (by decide) rfl (fun ls hl => ?_)
  have lp3_3 : ∀ (fuel4 : Nat) (y : Nat) (ls : Array Slot), ht - y < fuel4 → (y ≤ ht) → (∀ y', y' < y → ∀ x, x < wd → P (16 * qy + qx + 16 * y' + x) = 0) → lv_has ls 6 [(4, .int (nI (y))), (0, .ref (loc (t))), (1, .int (nI (16 * qy + qx))), (2, .int (nI (wd))), (3, .int (nI (ht)))] → W p l e rm_X1_isWholeAt s m ([.ref (loc (t)), .int (nI (16 * qy + qx)), .int (nI (wd)), .int (nI (ht))] : List Value).toArray below meth c s.heap [] 0 0 (MQ below (vp_Si (fun r => r = xb (xfit P wd ht (16 * qy + qx)))) ([.ref (loc (t)), .int (nI (16 * qy + qx)), .int (nI (wd)), .int (nI (ht))] : List Value).toArray s 0 0 (fun _ => False)) (F0 m 3 ls []) := by
    intro fuel4
    induction fuel4 with
    | zero => intro y ls hm5; exact absurd hm5 (Nat.not_lt_zero _)
    | succ fuel4 ih6 =>
      intro y ls hm5 h1 h2  hl
      refine lv_iload hx hb dX1_isWholeAt_3 (lv_at hl 0 rfl) ?_
      refine lv_iload_n hx hb dX1_isWholeAt_5 rfl (lv_at hl 4 rfl) ?_
      refine x_cge hx hb (y) (ht) (by omega) (by omega) (tgt := 50) dX1_isWholeAt_6 (by decide) (fun c7 => ?_) (fun c7 => ?_)
      · have _u := trivial
        refine lv_iconst (v := nI 1) hx hb dX1_isWholeAt_50 (by decide +kernel) ?_
        exact x_rz hx hb hr hlocks rfl dX1_isWholeAt_51 ((xb_t (fun y2 hy2 x2 hx2 => h2 y2 (by omega) x2 hx2)).symm)
      · have _u := trivial
        refine lv_iconst (v := nI 0) hx hb dX1_isWholeAt_9 (by decide +kernel) ?_
        refine lv_istore (lv' := [(5, .int (nI (0))), (4, .int (nI (y))), (0, .ref (loc (t))), (1, .int (nI (16 * qy + qx))), (2, .int (nI (wd))), (3, .int (nI (ht)))]) hx hb dX1_isWholeAt_10 hl (by decide) rfl (fun ls hl => ?_)
        have lp12_8 : ∀ (fuel9 : Nat) (x : Nat) (ls : Array Slot), wd - x < fuel9 → (x ≤ wd) → (∀ x', x' < x → P (16 * qy + qx + 16 * y + x') = 0) → lv_has ls 6 [(5, .int (nI (x))), (4, .int (nI (y))), (0, .ref (loc (t))), (1, .int (nI (16 * qy + qx))), (2, .int (nI (wd))), (3, .int (nI (ht)))] → W p l e rm_X1_isWholeAt s m ([.ref (loc (t)), .int (nI (16 * qy + qx)), .int (nI (wd)), .int (nI (ht))] : List Value).toArray below meth c s.heap [] 0 0 (MQ below (vp_Si (fun r => r = xb (xfit P wd ht (16 * qy + qx)))) ([.ref (loc (t)), .int (nI (16 * qy + qx)), .int (nI (wd)), .int (nI (ht))] : List Value).toArray s 0 0 (fun _ => False)) (F0 m 12 ls []) := by
          intro fuel9
          induction fuel9 with
          | zero => intro x ls hm10; exact absurd hm10 (Nat.not_lt_zero _)
          | succ fuel9 ih11 =>
            intro x ls hm10 h3 h4  hl
            refine lv_iload hx hb dX1_isWholeAt_12 (lv_at hl 0 rfl) ?_
            refine lv_iload_n hx hb dX1_isWholeAt_14 rfl (lv_at hl 4 rfl) ?_
            refine x_cge hx hb (x) (wd) (by omega) (by omega) (tgt := 44) dX1_isWholeAt_15 (by decide) (fun c12 => ?_) (fun c12 => ?_)
            · have _u := trivial
              refine lv_iinc (v := nI (y + 1)) (lv' := [(4, .int (nI (y + 1))), (5, .int (nI (x))), (0, .ref (loc (t))), (1, .int (nI (16 * qy + qx))), (2, .int (nI (wd))), (3, .int (nI (ht)))]) hx hb dX1_isWholeAt_44 hl (k := 1) rfl (nI_add _ _) (by decide) rfl (fun ls hl => ?_)
              refine lv_goto (tgt := 3) hx hb dX1_isWholeAt_47 (by decide) ?_
              exact ih6 (y + 1) ls (by omega) (by omega) (xfit_y h2 (by omega) h4) (lv_sub hl [0, 2, 3, 4, 5] rfl)
            · have _u := trivial
              refine lv_aload_n hx hb dX1_isWholeAt_18 rfl (lv_at hl 2 rfl) ?_
              refine x_get (C := RX1) (T := TX1) (N := 1) hx hb hts hi_X1_isWholeAt_X1 hown hK hV f1 rfl 0 (by decide) (hts (.fieldLink RX1 9 "SaddleHouse$Hide" "patches" "[I") (by decide +kernel)) (fun _ h9 => h9) rfl dX1_isWholeAt_19 ?_
              refine lv_iload_n hx hb dX1_isWholeAt_22 rfl (lv_at hl 3 rfl) ?_
              refine lv_bipush (v := nI 16) hx hb dX1_isWholeAt_23 (by decide +kernel) ?_
              refine lv_iload hx hb dX1_isWholeAt_25 (lv_at hl 1 rfl) ?_
              refine x_imul hx hb (16) (y) dX1_isWholeAt_27 ?_
              refine x_iadd hx hb (16 * qy + qx) (16 * y) dX1_isWholeAt_28 ?_
              refine lv_iload hx hb dX1_isWholeAt_29 (lv_at hl 0 rfl) ?_
              refine x_iadd hx hb ((16 * qy + qx) + (16 * y)) (x) dX1_isWholeAt_31 ?_
              refine x_iald hx hb hK hV f2 (((16 * qy + qx) + (16 * y)) + x) (by omega) (by decide) dX1_isWholeAt_32 ?_
              refine lv_if_eq (tgt := 38) hx hb dX1_isWholeAt_33 (by decide) (fun c13 => ?_) (fun c13 => ?_)
              · have _u := trivial
                refine lv_iinc (v := nI (x + 1)) (lv' := [(5, .int (nI (x + 1))), (4, .int (nI (y))), (0, .ref (loc (t))), (1, .int (nI (16 * qy + qx))), (2, .int (nI (wd))), (3, .int (nI (ht)))]) hx hb dX1_isWholeAt_38 hl (k := 0) rfl (nI_add _ _) (by decide) rfl (fun ls hl => ?_)
                refine lv_goto (tgt := 12) hx hb dX1_isWholeAt_41 (by decide) ?_
                exact ih11 (x + 1) ls (by omega) (by omega) (xfit_x h4 (by assumption)) (lv_sub hl [0, 1, 2, 3, 4, 5] rfl)
              · have _u := trivial
                refine lv_iconst (v := nI 0) hx hb dX1_isWholeAt_36 (by decide +kernel) ?_
                exact x_rz hx hb hr hlocks rfl dX1_isWholeAt_37 ((xb_f (fun q => absurd (q y (by omega) x (by omega)) (by assumption))).symm)
        exact lp12_8 (wd + 1) 0 ls (by omega) (Nat.zero_le _) (fun x h => absurd h (Nat.not_lt_zero x)) (lv_sub hl [0, 1, 2, 3, 4, 5] rfl)
  exact lp3_3 (ht + 1) 0 ls (by omega) (Nat.zero_le _) (fun y h => absurd h (Nat.not_lt_zero y)) (lv_sub hl [0, 1, 2, 3, 4] rfl)
abbrev rm_X1_firstRoom : Room := { frames := 1, cells := 0, slots := 0, locals := 25 }
set_option maxHeartbeats 4000000 in
set_option maxRecDepth 100000 in
theorem c_X1_firstRoom (l : Launch) (D : va_G) (cy : Nat → ClassId) (loc : Nat → Nat) (w : xM) (sz : Nat) (t : Nat) (P : Nat → Int32) (tp wd ht : Nat) (hw1 : 1 ≤ wd) (hw2 : wd ≤ 16) (hh1 : 1 ≤ ht) (hh2 : ht ≤ 12) (f1 : w (t) = some (.inr (1, [.ref (loc (tp))]))) (f2 : w (tp) = some (eI cy 192 (P))) : Met l yX1_firstRoom wsX1_firstRoom rm_X1_firstRoom (va_Pc [.ref (loc (t)), .int (nI (wd)), .int (nI (ht))] (xP D cy loc w sz)) (vp_Si (fun r => xroom P wd ht r)) 0 0 (fun _ => False) := by
  refine x_met (cc := cX1_firstRoom) (maxL := 5) (ret := (some .int)) (C := RX1) (by decide) rfl rfl (Nat.le_of_ble_eq_true rfl) ?_
  intro p e s m below meth c ls hx hb hml hr hts hown hlocks hin hP hl
  obtain ⟨hsz, hV, hK⟩ := hP
  subst hsz
  have hl : lv_has ls 5 [(0, .ref (loc (t))), (1, .int (nI (wd))), (2, .int (nI (ht)))] := hl
  refine lv_iconst (v := nI 0) hx hb dX1_firstRoom_0 (by decide +kernel) ?_
  refine lv_istore_n (lv' := [(3, .int (nI (0))), (0, .ref (loc (t))), (1, .int (nI (wd))), (2, .int (nI (ht)))]) hx hb dX1_firstRoom_1 rfl hl (by decide) rfl (fun ls hl => ?_)
  have lp2_3 : ∀ (fuel4 : Nat) (y : Nat) (ls : Array Slot), 13 - y < fuel4 → (y ≤ 13) → (∀ y' x', y' + ht ≤ 12 → x' + wd ≤ 16 → y' < y → ¬ xfit P wd ht (16 * y' + x')) → lv_has ls 5 [(3, .int (nI (y))), (0, .ref (loc (t))), (1, .int (nI (wd))), (2, .int (nI (ht)))] → W p l e rm_X1_firstRoom s m ([.ref (loc (t)), .int (nI (wd)), .int (nI (ht))] : List Value).toArray below meth c s.heap [] 0 0 (MQ below (vp_Si (fun r => xroom P wd ht r)) ([.ref (loc (t)), .int (nI (wd)), .int (nI (ht))] : List Value).toArray s 0 0 (fun _ => False)) (F0 m 2 ls []) := by
    intro fuel4
    induction fuel4 with
    | zero => intro y ls hm5; exact absurd hm5 (Nat.not_lt_zero _)
    | succ fuel4 ih6 =>
      intro y ls hm5 h1 h2  hl
      refine lv_iload_n hx hb dX1_firstRoom_2 rfl (lv_at hl 0 rfl) ?_
      refine lv_iload_n hx hb dX1_firstRoom_3 rfl (lv_at hl 3 rfl) ?_
      refine x_iadd hx hb (y) (ht) dX1_firstRoom_4 ?_
      refine lv_bipush (v := nI 12) hx hb dX1_firstRoom_5 (by decide +kernel) ?_
      refine x_cgt hx hb (y + ht) (12) (by omega) (by omega) (tgt := 58) dX1_firstRoom_7 (by decide) (fun c7 => ?_) (fun c7 => ?_)
      · have _u := trivial
        refine lv_iconst (v := -1) hx hb dX1_firstRoom_58 (by decide +kernel) ?_
        exact x_ri hx hb hr hlocks dX1_firstRoom_59 (Or.inr ⟨rfl, fun y2 x2 a b => h2 y2 x2 a b (by omega)⟩)
      · have _u := trivial
        refine lv_iconst (v := nI 0) hx hb dX1_firstRoom_10 (by decide +kernel) ?_
        refine lv_istore (lv' := [(4, .int (nI (0))), (3, .int (nI (y))), (0, .ref (loc (t))), (1, .int (nI (wd))), (2, .int (nI (ht)))]) hx hb dX1_firstRoom_11 hl (by decide) rfl (fun ls hl => ?_)
        have lp13_8 : ∀ (fuel9 : Nat) (x : Nat) (ls : Array Slot), 16 - x < fuel9 → (x ≤ 16) → (∀ x', x' + wd ≤ 16 → x' < x → ¬ xfit P wd ht (16 * y + x')) → lv_has ls 5 [(4, .int (nI (x))), (3, .int (nI (y))), (0, .ref (loc (t))), (1, .int (nI (wd))), (2, .int (nI (ht)))] → W p l e rm_X1_firstRoom s m ([.ref (loc (t)), .int (nI (wd)), .int (nI (ht))] : List Value).toArray below meth c s.heap [] 0 0 (MQ below (vp_Si (fun r => xroom P wd ht r)) ([.ref (loc (t)), .int (nI (wd)), .int (nI (ht))] : List Value).toArray s 0 0 (fun _ => False)) (F0 m 13 ls []) := by
          intro fuel9
          induction fuel9 with
          | zero => intro x ls hm10; exact absurd hm10 (Nat.not_lt_zero _)
          | succ fuel9 ih11 =>
            intro x ls hm10 h3 h4  hl
            refine lv_iload hx hb dX1_firstRoom_13 (lv_at hl 0 rfl) ?_
            refine lv_iload_n hx hb dX1_firstRoom_15 rfl (lv_at hl 3 rfl) ?_
            refine x_iadd hx hb (x) (wd) dX1_firstRoom_16 ?_
            refine lv_bipush (v := nI 16) hx hb dX1_firstRoom_17 (by decide +kernel) ?_
            refine x_cgt hx hb (x + wd) (16) (by omega) (by omega) (tgt := 52) dX1_firstRoom_19 (by decide) (fun c12 => ?_) (fun c12 => ?_)
            · have _u := trivial
              refine lv_iinc (v := nI (y + 1)) (lv' := [(3, .int (nI (y + 1))), (4, .int (nI (x))), (0, .ref (loc (t))), (1, .int (nI (wd))), (2, .int (nI (ht)))]) hx hb dX1_firstRoom_52 hl (k := 1) rfl (nI_add _ _) (by decide) rfl (fun ls hl => ?_)
              refine lv_goto (tgt := 2) hx hb dX1_firstRoom_55 (by decide) ?_
              exact ih6 (y + 1) ls (by omega) (by omega) (xroom_y h2 h4 (by omega)) (lv_sub hl [0, 2, 3, 4] rfl)
            · have _u := trivial
              refine lv_aload_n hx hb dX1_firstRoom_22 rfl (lv_at hl 2 rfl) ?_
              refine lv_bipush (v := nI 16) hx hb dX1_firstRoom_23 (by decide +kernel) ?_
              refine lv_iload_n hx hb dX1_firstRoom_25 rfl (lv_at hl 1 rfl) ?_
              refine x_imul hx hb (16) (y) dX1_firstRoom_26 ?_
              refine lv_iload hx hb dX1_firstRoom_27 (lv_at hl 0 rfl) ?_
              refine x_iadd hx hb (16 * y) (x) dX1_firstRoom_29 ?_
              refine lv_iload_n hx hb dX1_firstRoom_30 rfl (lv_at hl 3 rfl) ?_
              refine lv_iload_n hx hb dX1_firstRoom_31 rfl (lv_at hl 4 rfl) ?_
              refine x_ci (va_runV (As := [.int (nI ((16 * y) + x)), .int (nI (wd)), .int (nI (ht))]) (rest := []) ⟨hx, hb, hml, hown, hts⟩ (c_X1_isWholeAt l D cy loc w s.heap.size t P tp wd ht y x (by omega) (by omega) f1 f2) (cwV 3 hts gX1_firstRoom_X1_isWholeAt rfl rfl rfl (by decide +kernel) ⟨Nat.le_of_ble_eq_true rfl, Nat.le_of_ble_eq_true rfl⟩) (x_preV hK hV f1 rfl) rfl rfl hl.1 rfl (lv_room (Nat.le_of_ble_eq_true rfl)) dX1_firstRoom_32 ⟨Nat.le_of_ble_eq_true rfl, Nat.le_of_ble_eq_true rfl⟩) (fun r13 hr14 => ?_)
              obtain rfl : r13 = xb (xfit P wd ht (16 * y + x)) := hr14
              refine x_beq (tgt := 46) hx hb dX1_firstRoom_35 (by decide) (fun c15 => ?_) (fun c15 => ?_)
              · have _u := trivial
                refine lv_iinc (v := nI (x + 1)) (lv' := [(4, .int (nI (x + 1))), (3, .int (nI (y))), (0, .ref (loc (t))), (1, .int (nI (wd))), (2, .int (nI (ht)))]) hx hb dX1_firstRoom_46 hl (k := 0) rfl (nI_add _ _) (by decide) rfl (fun ls hl => ?_)
                refine lv_goto (tgt := 13) hx hb dX1_firstRoom_49 (by decide) ?_
                exact ih11 (x + 1) ls (by omega) (by omega) (xroom_x h4 (by assumption)) (lv_sub hl [0, 1, 2, 3, 4] rfl)
              · have _u := trivial
                refine lv_bipush (v := nI 16) hx hb dX1_firstRoom_38 (by decide +kernel) ?_
                refine lv_iload_n hx hb dX1_firstRoom_40 rfl (lv_at hl 1 rfl) ?_
                refine x_imul hx hb (16) (y) dX1_firstRoom_41 ?_
                refine lv_iload hx hb dX1_firstRoom_42 (lv_at hl 0 rfl) ?_
                refine x_iadd hx hb (16 * y) (x) dX1_firstRoom_44 ?_
                exact x_ri hx hb hr hlocks dX1_firstRoom_45 (Or.inl ⟨y, x, by omega, by omega, rfl, by assumption, xroom_e (by omega) h2 h4⟩)
        exact lp13_8 (16 + 1) 0 ls (by omega) (by omega) (fun x _ h => absurd h (Nat.not_lt_zero x)) (lv_sub hl [0, 1, 2, 3, 4] rfl)
  exact lp2_3 (13 + 1) 0 ls (by omega) (by omega) (fun y x _ _ h => absurd h (Nat.not_lt_zero y)) (lv_sub hl [0, 1, 2, 3] rfl)
abbrev rm_X1_mark : Room := { frames := 0, cells := 0, slots := 0, locals := 0 }
theorem hi_X1_mark_X1 : ∀ w ∈ wsX10, w ∈ wsX1_mark := by decide +kernel
set_option maxHeartbeats 4000000 in
set_option maxRecDepth 100000 in
theorem c_X1_mark (l : Launch) (D : va_G) (cy : Nat → ClassId) (loc : Nat → Nat) (w : xM) (sz : Nat) (t : Nat) (P : Nat → Int32) (tp wd ht : Nat) (qy qx : Nat) (sg : Int32) (hy : qy + ht ≤ 12) (hx9 : qx + wd ≤ 16) (n1 : t ≠ tp) (f1 : w (t) = some (.inr (1, [.ref (loc (tp))]))) (f2 : w (tp) = some (eI cy 192 (P))) : Met l yX1_mark wsX1_mark rm_X1_mark (va_Pc [.ref (loc (t)), .int (nI (16 * qy + qx)), .int (nI (wd)), .int (nI (ht)), .int (sg)] (xP D cy loc w sz)) (va_Qv (fun u => u.1 = loc ∧ u.2 = xup w tp (eI cy 192 (xmk P qy qx wd ht sg))) (xB D (xA loc w sz)) (xA loc w sz)) 0 0 (xA loc w sz) := by
  refine x_met (cc := cX1_mark) (maxL := 7) (ret := none) (C := RX1) (by decide) rfl rfl (Nat.le_of_ble_eq_true rfl) ?_
  intro p e s m below meth c ls hx hb hml hr hts hown hlocks hin hP hl
  obtain ⟨hsz, hV, hK⟩ := hP
  subst hsz
  have hA : ∀ q : Nat, s.heap.size ≤ q → xA loc w s.heap.size q := fun q h => Or.inr h
  have hS : va_S (xA loc w s.heap.size) s.heap s.heap [] := va_S.rf
  have hl : lv_has ls 7 [(0, .ref (loc (t))), (1, .int (nI (16 * qy + qx))), (2, .int (nI (wd))), (3, .int (nI (ht))), (4, .int (sg))] := hl
  refine lv_iconst (v := nI 0) hx hb dX1_mark_0 (by decide +kernel) ?_
  refine lv_istore (lv' := [(5, .int (nI (0))), (0, .ref (loc (t))), (1, .int (nI (16 * qy + qx))), (2, .int (nI (wd))), (3, .int (nI (ht))), (4, .int (sg))]) hx hb dX1_mark_1 hl (by decide) rfl (fun ls hl => ?_)
  have lp3_3 : ∀ (fuel8 : Nat) (y : Nat) (b1 : Nat → Int32) (ls : Array Slot) (H4 : Heap) (L5 : List Loc), ht - y < fuel8 → (y ≤ ht) → (b1 = xmk P qy qx wd y sg) → xV D (xA loc w s.heap.size) loc ((xup w (tp) (eI cy 192 (b1)))) H4 → va_S (xA loc w s.heap.size) s.heap H4 L5 → lv_has ls 7 [(5, .int (nI (y))), (0, .ref (loc (t))), (1, .int (nI (16 * qy + qx))), (2, .int (nI (wd))), (3, .int (nI (ht))), (4, .int (sg))] → W p l e rm_X1_mark s m ([.ref (loc (t)), .int (nI (16 * qy + qx)), .int (nI (wd)), .int (nI (ht)), .int (sg)] : List Value).toArray below meth c H4 L5 0 0 (MQ below (va_Qv (fun u => u.1 = loc ∧ u.2 = xup w tp (eI cy 192 (xmk P qy qx wd ht sg))) (xB D (xA loc w s.heap.size)) (xA loc w s.heap.size)) ([.ref (loc (t)), .int (nI (16 * qy + qx)), .int (nI (wd)), .int (nI (ht)), .int (sg)] : List Value).toArray s 0 0 (xA loc w s.heap.size)) (F0 m 3 ls []) := by
    intro fuel8
    induction fuel8 with
    | zero => intro y b1 ls H4 L5 hm9; exact absurd hm9 (Nat.not_lt_zero _)
    | succ fuel8 ih10 =>
      intro y b1 ls H4 L5 hm9 h1 h2 hV6 hS7 hl
      have f11 : (xup w (tp) (eI cy 192 (b1))) (t) = some (.inr (1, [.ref (loc (tp))])) := xup_o (f1) (by omega)
      have f12 : (xup w (tp) (eI cy 192 (b1))) (tp) = some (eI cy 192 (b1)) := xup_at _ _ _
      refine lv_iload hx hb dX1_mark_3 (lv_at hl 0 rfl) ?_
      refine lv_iload_n hx hb dX1_mark_5 rfl (lv_at hl 4 rfl) ?_
      refine x_cge hx hb (y) (ht) (by omega) (by omega) (tgt := 47) dX1_mark_6 (by decide) (fun c13 => ?_) (fun c13 => ?_)
      · have _u := trivial
        exact x_rmv hx hb hr hlocks dX1_mark_47 hV6 hS7 (⟨rfl, by rw [h2, show y = ht by omega]⟩)
      · have _u := trivial
        refine lv_iconst (v := nI 0) hx hb dX1_mark_9 (by decide +kernel) ?_
        refine lv_istore (lv' := [(6, .int (nI (0))), (5, .int (nI (y))), (0, .ref (loc (t))), (1, .int (nI (16 * qy + qx))), (2, .int (nI (wd))), (3, .int (nI (ht))), (4, .int (sg))]) hx hb dX1_mark_10 hl (by decide) rfl (fun ls hl => ?_)
        have lp12_14 : ∀ (fuel19 : Nat) (x : Nat) (b2 : Nat → Int32) (ls : Array Slot) (H15 : Heap) (L16 : List Loc), wd - x < fuel19 → (x ≤ wd) → (b2 = xmk2 P qy qx wd y x sg) → xV D (xA loc w s.heap.size) loc ((xup w (tp) (eI cy 192 (b2)))) H15 → va_S (xA loc w s.heap.size) s.heap H15 L16 → lv_has ls 7 [(6, .int (nI (x))), (5, .int (nI (y))), (0, .ref (loc (t))), (1, .int (nI (16 * qy + qx))), (2, .int (nI (wd))), (3, .int (nI (ht))), (4, .int (sg))] → W p l e rm_X1_mark s m ([.ref (loc (t)), .int (nI (16 * qy + qx)), .int (nI (wd)), .int (nI (ht)), .int (sg)] : List Value).toArray below meth c H15 L16 0 0 (MQ below (va_Qv (fun u => u.1 = loc ∧ u.2 = xup w tp (eI cy 192 (xmk P qy qx wd ht sg))) (xB D (xA loc w s.heap.size)) (xA loc w s.heap.size)) ([.ref (loc (t)), .int (nI (16 * qy + qx)), .int (nI (wd)), .int (nI (ht)), .int (sg)] : List Value).toArray s 0 0 (xA loc w s.heap.size)) (F0 m 12 ls []) := by
          intro fuel19
          induction fuel19 with
          | zero => intro x b2 ls H15 L16 hm20; exact absurd hm20 (Nat.not_lt_zero _)
          | succ fuel19 ih21 =>
            intro x b2 ls H15 L16 hm20 h3 h4 hV17 hS18 hl
            have f22 : (xup w (tp) (eI cy 192 (b2))) (t) = some (.inr (1, [.ref (loc (tp))])) := xup_o (f1) (by omega)
            have f23 : (xup w (tp) (eI cy 192 (b2))) (tp) = some (eI cy 192 (b2)) := xup_at _ _ _
            refine lv_iload hx hb dX1_mark_12 (lv_at hl 0 rfl) ?_
            refine lv_iload_n hx hb dX1_mark_14 rfl (lv_at hl 4 rfl) ?_
            refine x_cge hx hb (x) (wd) (by omega) (by omega) (tgt := 41) dX1_mark_15 (by decide) (fun c24 => ?_) (fun c24 => ?_)
            · have _u := trivial
              refine lv_iinc (v := nI (y + 1)) (lv' := [(5, .int (nI (y + 1))), (6, .int (nI (x))), (0, .ref (loc (t))), (1, .int (nI (16 * qy + qx))), (2, .int (nI (wd))), (3, .int (nI (ht))), (4, .int (sg))]) hx hb dX1_mark_41 hl (k := 1) rfl (nI_add _ _) (by decide) rfl (fun ls hl => ?_)
              refine lv_goto (tgt := 3) hx hb dX1_mark_44 (by decide) ?_
              exact ih10 (y + 1) b2 ls _ _ (by omega) (by omega) (xmk_y h4 (by omega) hx9) hV17 hS18 (lv_sub hl [0, 2, 3, 4, 5, 6] rfl)
            · have _u := trivial
              refine lv_aload_n hx hb dX1_mark_18 rfl (lv_at hl 2 rfl) ?_
              refine x_get (C := RX1) (T := TX1) (N := 1) hx hb hts hi_X1_mark_X1 hown hK hV17 f22 rfl 0 (by decide) (hts (.fieldLink RX1 9 "SaddleHouse$Hide" "patches" "[I") (by decide +kernel)) (fun _ h9 => h9) rfl dX1_mark_19 ?_
              refine lv_iload_n hx hb dX1_mark_22 rfl (lv_at hl 3 rfl) ?_
              refine lv_bipush (v := nI 16) hx hb dX1_mark_23 (by decide +kernel) ?_
              refine lv_iload hx hb dX1_mark_25 (lv_at hl 1 rfl) ?_
              refine x_imul hx hb (16) (y) dX1_mark_27 ?_
              refine x_iadd hx hb (16 * qy + qx) (16 * y) dX1_mark_28 ?_
              refine lv_iload hx hb dX1_mark_29 (lv_at hl 0 rfl) ?_
              refine x_iadd hx hb ((16 * qy + qx) + (16 * y)) (x) dX1_mark_31 ?_
              refine lv_iload hx hb dX1_mark_32 (lv_at hl 6 rfl) ?_
              refine x_iast hx hb hK hV17 hS18 f23 (((16 * qy + qx) + (16 * y)) + x) (by omega) (by decide) dX1_mark_34 (fun H25 L26 hV27 hS28 => ?_)
              have hV29 := hV27.eq (xup_xup _ _ _ _)
              have f30 : (xup w (tp) (eI cy 192 (upd b2 (((16 * qy + qx) + (16 * y)) + x) sg))) (t) = some (.inr (1, [.ref (loc (tp))])) := xup_o (f1) (by omega)
              have f31 : (xup w (tp) (eI cy 192 (upd b2 (((16 * qy + qx) + (16 * y)) + x) sg))) (tp) = some (eI cy 192 (upd b2 (((16 * qy + qx) + (16 * y)) + x) sg)) := xup_at _ _ _
              refine lv_iinc (v := nI (x + 1)) (lv' := [(6, .int (nI (x + 1))), (5, .int (nI (y))), (0, .ref (loc (t))), (1, .int (nI (16 * qy + qx))), (2, .int (nI (wd))), (3, .int (nI (ht))), (4, .int (sg))]) hx hb dX1_mark_35 hl (k := 0) rfl (nI_add _ _) (by decide) rfl (fun ls hl => ?_)
              refine lv_goto (tgt := 12) hx hb dX1_mark_38 (by decide) ?_
              exact ih21 (x + 1) (upd b2 (((16 * qy + qx) + (16 * y)) + x) sg) ls _ _ (by omega) (by omega) (by rw [h4]; exact xmk2_s (by omega)) hV29 hS28 (lv_sub hl [0, 1, 2, 3, 4, 5, 6] rfl)
        exact lp12_14 (wd + 1) 0 b1 ls _ _ (by omega) (Nat.zero_le _) (h2.trans (xmk2_0 _ _ _ _ _ _).symm) hV6 hS7 (lv_sub hl [0, 1, 2, 3, 4, 5, 6] rfl)
  exact lp3_3 (ht + 1) 0 P ls _ _ (by omega) (Nat.zero_le _) (xmk_0 _ _ _ _ _).symm (hV.eq (xup_id f2).symm) hS (lv_sub hl [0, 1, 2, 3, 4, 5] rfl)
