abbrev rm_X6_undersideAt : Room := { frames := 0, cells := 0, slots := 0, locals := 0 }
theorem hi_X6_undersideAt_X6 : ∀ w ∈ wsX60, w ∈ wsX6_undersideAt := by decide +kernel
set_option maxHeartbeats 4000000 in
set_option maxRecDepth 100000 in
theorem c_X6_undersideAt (l : Launch) (D : va_G) (cy : Nat → ClassId) (loc : Nat → Nat) (w : xM) (sz : Nat) (t th ts i : Nat) (hs ss : Nat → Int32) (hi : i < 9) (f1 : w (t) = some (.inr (6, [.ref (loc (th)), .ref (loc (ts))]))) (f2 : w (th) = some (eI cy 9 (hs))) (f3 : w (ts) = some (eI cy 9 (ss))) : Met l yX6_undersideAt wsX6_undersideAt rm_X6_undersideAt (va_Pc [.ref (loc (t)), .int (nI (i))] (xP D cy loc w sz)) (vp_Si (fun r => r = hs i - ss i)) 0 0 (fun _ => False) := by
  refine x_met (cc := cX6_undersideAt) (maxL := 2) (ret := (some .int)) (C := RX6) (by decide) rfl rfl (Nat.le_of_ble_eq_true rfl) ?_
  intro p e s m below meth c ls hx hb hml hr hts hown hlocks hin hP hl
  obtain ⟨hsz, hV, hK⟩ := hP
  subst hsz
  have hl : lv_has ls 2 [(0, .ref (loc (t))), (1, .int (nI (i)))] := hl
  refine lv_aload_n hx hb dX6_undersideAt_0 rfl (lv_at hl 0 rfl) ?_
  refine x_get (C := RX6) (T := TX6) (N := 2) hx hb hts hi_X6_undersideAt_X6 hown hK hV f1 rfl 0 (by decide) (hts (.fieldLink RX6 9 "SaddleHouse$Tree" "heights" "[I") (by decide +kernel)) (fun _ h9 => h9) rfl dX6_undersideAt_1 ?_
  refine lv_iload_n hx hb dX6_undersideAt_4 rfl (lv_at hl 1 rfl) ?_
  refine x_iald hx hb hK hV f2 (i) (by omega) (by decide) dX6_undersideAt_5 ?_
  refine lv_aload_n hx hb dX6_undersideAt_6 rfl (lv_at hl 0 rfl) ?_
  refine x_get (C := RX6) (T := TX6) (N := 2) hx hb hts hi_X6_undersideAt_X6 hown hK hV f1 rfl 1 (by decide) (hts (.fieldLink RX6 15 "SaddleHouse$Tree" "shims" "[I") (by decide +kernel)) (fun _ h9 => h9) rfl dX6_undersideAt_7 ?_
  refine lv_iload_n hx hb dX6_undersideAt_10 rfl (lv_at hl 1 rfl) ?_
  refine x_iald hx hb hK hV f3 (i) (by omega) (by decide) dX6_undersideAt_11 ?_
  refine lv_isub hx hb dX6_undersideAt_12 ?_
  exact x_ri hx hb hr hlocks dX6_undersideAt_13 (rfl)
abbrev rm_X7_isWithin : Room := { frames := 0, cells := 0, slots := 0, locals := 0 }
set_option maxHeartbeats 4000000 in
set_option maxRecDepth 100000 in
theorem c_X7_isWithin (l : Launch) (D : va_G) (cy : Nat → ClassId) (loc : Nat → Nat) (w : xM) (sz : Nat) (n a b : Int32)  : Met l yX7_isWithin wsX7_isWithin rm_X7_isWithin (va_Pc [.int (n), .int (a), .int (b)] (xP D cy loc w sz)) (vp_Si (fun r => r = xb (a ≤ n ∧ n ≤ b))) 0 0 (fun _ => False) := by
  refine x_met (cc := cX7_isWithin) (maxL := 3) (ret := (some .boolean)) (C := RX7) (by decide) rfl rfl (Nat.le_of_ble_eq_true rfl) ?_
  intro p e s m below meth c ls hx hb hml hr hts hown hlocks hin hP hl
  obtain ⟨hsz, hV, hK⟩ := hP
  subst hsz
  have hl : lv_has ls 3 [(0, .int (n)), (1, .int (a)), (2, .int (b))] := hl
  refine lv_iload_n hx hb dX7_isWithin_0 rfl (lv_at hl 0 rfl) ?_
  refine lv_iload_n hx hb dX7_isWithin_1 rfl (lv_at hl 1 rfl) ?_
  refine lv_icmp_lt (tgt := 14) hx hb dX7_isWithin_2 (by decide) (fun c1 => ?_) (fun c1 => ?_)
  · have _u := trivial
    refine lv_iconst (v := nI 0) hx hb dX7_isWithin_14 (by decide +kernel) ?_
    exact x_rz hx hb hr hlocks rfl dX7_isWithin_15 (by first | exact (xb_t ⟨Int32.not_lt.mp (by assumption), Int32.not_lt.mp (by assumption)⟩).symm | exact (xb_f (fun q => absurd q.1 (Int32.not_le.mpr (by assumption)))).symm | exact (xb_f (fun q => absurd q.2 (Int32.not_le.mpr (by assumption)))).symm)
  · have _u := trivial
    refine lv_iload_n hx hb dX7_isWithin_5 rfl (lv_at hl 0 rfl) ?_
    refine lv_iload_n hx hb dX7_isWithin_6 rfl (lv_at hl 2 rfl) ?_
    refine lv_icmp_gt (tgt := 14) hx hb dX7_isWithin_7 (by decide) (fun c2 => ?_) (fun c2 => ?_)
    · have _u := trivial
      refine lv_iconst (v := nI 0) hx hb dX7_isWithin_14 (by decide +kernel) ?_
      exact x_rz hx hb hr hlocks rfl dX7_isWithin_15 (by first | exact (xb_t ⟨Int32.not_lt.mp (by assumption), Int32.not_lt.mp (by assumption)⟩).symm | exact (xb_f (fun q => absurd q.1 (Int32.not_le.mpr (by assumption)))).symm | exact (xb_f (fun q => absurd q.2 (Int32.not_le.mpr (by assumption)))).symm)
    · have _u := trivial
      refine lv_iconst (v := nI 1) hx hb dX7_isWithin_10 (by decide +kernel) ?_
      refine lv_goto (tgt := 15) hx hb dX7_isWithin_11 (by decide) ?_
      exact x_rz hx hb hr hlocks rfl dX7_isWithin_15 (by first | exact (xb_t ⟨Int32.not_lt.mp (by assumption), Int32.not_lt.mp (by assumption)⟩).symm | exact (xb_f (fun q => absurd q.1 (Int32.not_le.mpr (by assumption)))).symm | exact (xb_f (fun q => absurd q.2 (Int32.not_le.mpr (by assumption)))).symm)
abbrev rm_X5_pressedFrom : Room := { frames := 0, cells := 0, slots := 0, locals := 0 }
theorem hi_X5_pressedFrom_X5 : ∀ w ∈ wsX50, w ∈ wsX5_pressedFrom := by decide +kernel
set_option maxHeartbeats 4000000 in
set_option maxRecDepth 100000 in
theorem c_X5_pressedFrom (l : Launch) (D : va_G) (cy : Nat → ClassId) (loc : Nat → Nat) (w : xM) (sz : Nat) (b : Nat → Int32) (first last : Nat) (hl9 : last < 9) (hfl : first ≤ last) (f1 : w (8) = some (.inr (5, [.ref (loc (9)), .ref (loc (10))]))) (f2 : w (10) = some (eI cy 9 (b))) : Met l yX5_pressedFrom wsX5_pressedFrom rm_X5_pressedFrom (va_Pc [.ref (loc (8)), .int (nI (first)), .int (nI (last))] (xP D cy loc w sz)) (vp_Si (fun r => r = nI (xcnt b first (last + 1 - first)))) 0 0 (fun _ => False) := by
  refine x_met (cc := cX5_pressedFrom) (maxL := 5) (ret := (some .int)) (C := RX5) (by decide) rfl rfl (Nat.le_of_ble_eq_true rfl) ?_
  intro p e s m below meth c ls hx hb hml hr hts hown hlocks hin hP hl
  obtain ⟨hsz, hV, hK⟩ := hP
  subst hsz
  have hl : lv_has ls 5 [(0, .ref (loc (8))), (1, .int (nI (first))), (2, .int (nI (last)))] := hl
  refine lv_iconst (v := nI 0) hx hb dX5_pressedFrom_0 (by decide +kernel) ?_
  refine lv_istore_n (lv' := [(3, .int (nI (0))), (0, .ref (loc (8))), (1, .int (nI (first))), (2, .int (nI (last)))]) hx hb dX5_pressedFrom_1 rfl hl (by decide) rfl (fun ls hl => ?_)
  refine lv_iload_n hx hb dX5_pressedFrom_2 rfl (lv_at hl 2 rfl) ?_
  refine lv_istore (lv' := [(4, .int (nI (first))), (3, .int (nI (0))), (0, .ref (loc (8))), (1, .int (nI (first))), (2, .int (nI (last)))]) hx hb dX5_pressedFrom_3 hl (by decide) rfl (fun ls hl => ?_)
  have lp5_3 : ∀ (fuel4 : Nat) (k : Nat) (i : Nat) (ls : Array Slot), last + 1 - i < fuel4 → (first ≤ i) → (i ≤ last + 1) → (k = xcnt b first (i - first)) → lv_has ls 5 [(4, .int (nI (i))), (3, .int (nI (k))), (0, .ref (loc (8))), (1, .int (nI (first))), (2, .int (nI (last)))] → W p l e rm_X5_pressedFrom s m ([.ref (loc (8)), .int (nI (first)), .int (nI (last))] : List Value).toArray below meth c s.heap [] 0 0 (MQ below (vp_Si (fun r => r = nI (xcnt b first (last + 1 - first)))) ([.ref (loc (8)), .int (nI (first)), .int (nI (last))] : List Value).toArray s 0 0 (fun _ => False)) (F0 m 5 ls []) := by
    intro fuel4
    induction fuel4 with
    | zero => intro k i ls hm5; exact absurd hm5 (Nat.not_lt_zero _)
    | succ fuel4 ih6 =>
      intro k i ls hm5 h1 h2 hk  hl
      refine lv_iload hx hb dX5_pressedFrom_5 (lv_at hl 0 rfl) ?_
      refine lv_iload_n hx hb dX5_pressedFrom_7 rfl (lv_at hl 4 rfl) ?_
      refine x_cgt hx hb (i) (last) (by omega) (by omega) (tgt := 30) dX5_pressedFrom_8 (by decide) (fun c7 => ?_) (fun c7 => ?_)
      · have _u := trivial
        refine lv_iload_n hx hb dX5_pressedFrom_30 rfl (lv_at hl 1 rfl) ?_
        exact x_ri hx hb hr hlocks dX5_pressedFrom_31 (by show _ = _; have e : i = last + 1 := (by omega); subst e; rw [hk])
      · have _u := trivial
        refine lv_aload_n hx hb dX5_pressedFrom_11 rfl (lv_at hl 2 rfl) ?_
        refine x_get (C := RX5) (T := TX5) (N := 2) hx hb hts hi_X5_pressedFrom_X5 hown hK hV f1 rfl 1 (by decide) (hts (.fieldLink RX5 15 "SaddleHouse$Seat" "borne" "[I") (by decide +kernel)) (fun _ h9 => h9) rfl dX5_pressedFrom_12 ?_
        refine lv_iload hx hb dX5_pressedFrom_15 (lv_at hl 0 rfl) ?_
        refine x_iald hx hb hK hV f2 (i) (by omega) (by decide) dX5_pressedFrom_17 ?_
        refine lv_if_le (tgt := 24) hx hb dX5_pressedFrom_18 (by decide) (fun c8 => ?_) (fun c8 => ?_)
        · have _u := trivial
          refine lv_iinc (v := nI (i + 1)) (lv' := [(4, .int (nI (i + 1))), (3, .int (nI (k))), (0, .ref (loc (8))), (1, .int (nI (first))), (2, .int (nI (last)))]) hx hb dX5_pressedFrom_24 hl (k := 0) rfl (nI_add _ _) (by decide) rfl (fun ls hl => ?_)
          refine lv_goto (tgt := 5) hx hb dX5_pressedFrom_27 (by decide) ?_
          exact ih6 k (i + 1) ls (by omega) (by omega) (by omega) (xcnt_s (by omega) hk (by first | exact Or.inl ⟨by assumption, rfl⟩ | exact Or.inr ⟨by assumption, rfl⟩)) (lv_sub hl [0, 1, 2, 3, 4] rfl)
        · have _u := trivial
          refine lv_iinc (v := nI (k + 1)) (lv' := [(3, .int (nI (k + 1))), (4, .int (nI (i))), (0, .ref (loc (8))), (1, .int (nI (first))), (2, .int (nI (last)))]) hx hb dX5_pressedFrom_21 hl (k := 1) rfl (nI_add _ _) (by decide) rfl (fun ls hl => ?_)
          refine lv_iinc (v := nI (i + 1)) (lv' := [(4, .int (nI (i + 1))), (3, .int (nI (k + 1))), (0, .ref (loc (8))), (1, .int (nI (first))), (2, .int (nI (last)))]) hx hb dX5_pressedFrom_24 hl (k := 1) rfl (nI_add _ _) (by decide) rfl (fun ls hl => ?_)
          refine lv_goto (tgt := 5) hx hb dX5_pressedFrom_27 (by decide) ?_
          exact ih6 (k + 1) (i + 1) ls (by omega) (by omega) (by omega) (xcnt_s (by omega) hk (by first | exact Or.inl ⟨by assumption, rfl⟩ | exact Or.inr ⟨by assumption, rfl⟩)) (lv_sub hl [0, 1, 2, 3, 4] rfl)
  exact lp5_3 ((last + 1 - first) + 1) 0 first ls (by omega) (by omega) (by omega) (by rw [Nat.sub_self]; rfl) (lv_sub hl [0, 1, 2, 3, 4] rfl)
abbrev rm_X5_firstOfMost : Room := { frames := 0, cells := 0, slots := 0, locals := 0 }
theorem hi_X5_firstOfMost_X5 : ∀ w ∈ wsX50, w ∈ wsX5_firstOfMost := by decide +kernel
set_option maxHeartbeats 4000000 in
set_option maxRecDepth 100000 in
theorem c_X5_firstOfMost (l : Launch) (D : va_G) (cy : Nat → ClassId) (loc : Nat → Nat) (w : xM) (sz : Nat) (b : Nat → Int32) (f1 : w (8) = some (.inr (5, [.ref (loc (9)), .ref (loc (10))]))) (f2 : w (10) = some (eI cy 9 (b))) : Met l yX5_firstOfMost wsX5_firstOfMost rm_X5_firstOfMost (va_Pc [.ref (loc (8))] (xP D cy loc w sz)) (vp_Si (fun r => r = nI (xtop b 8))) 0 0 (fun _ => False) := by
  refine x_met (cc := cX5_firstOfMost) (maxL := 3) (ret := (some .int)) (C := RX5) (by decide) rfl rfl (Nat.le_of_ble_eq_true rfl) ?_
  intro p e s m below meth c ls hx hb hml hr hts hown hlocks hin hP hl
  obtain ⟨hsz, hV, hK⟩ := hP
  subst hsz
  have hl : lv_has ls 3 [(0, .ref (loc (8)))] := hl
  refine lv_iconst (v := nI 0) hx hb dX5_firstOfMost_0 (by decide +kernel) ?_
  refine lv_istore_n (lv' := [(1, .int (nI (0))), (0, .ref (loc (8)))]) hx hb dX5_firstOfMost_1 rfl hl (by decide) rfl (fun ls hl => ?_)
  refine lv_iconst (v := nI 1) hx hb dX5_firstOfMost_2 (by decide +kernel) ?_
  refine lv_istore_n (lv' := [(2, .int (nI (1))), (1, .int (nI (0))), (0, .ref (loc (8)))]) hx hb dX5_firstOfMost_3 rfl hl (by decide) rfl (fun ls hl => ?_)
  have lp4_3 : ∀ (fuel4 : Nat) (k : Nat) (i : Nat) (ls : Array Slot), 9 - i < fuel4 → (1 ≤ i) → (i ≤ 9) → (k = xtop b (i - 1)) → lv_has ls 3 [(2, .int (nI (i))), (1, .int (nI (k))), (0, .ref (loc (8)))] → W p l e rm_X5_firstOfMost s m ([.ref (loc (8))] : List Value).toArray below meth c s.heap [] 0 0 (MQ below (vp_Si (fun r => r = nI (xtop b 8))) ([.ref (loc (8))] : List Value).toArray s 0 0 (fun _ => False)) (F0 m 4 ls []) := by
    intro fuel4
    induction fuel4 with
    | zero => intro k i ls hm5; exact absurd hm5 (Nat.not_lt_zero _)
    | succ fuel4 ih6 =>
      intro k i ls hm5 h1 h2 hk  hl
      have hk9 : k < 9 := by have := xtop_le b (i - 1); omega
      refine lv_iload_n hx hb dX5_firstOfMost_4 rfl (lv_at hl 0 rfl) ?_
      refine lv_bipush (v := nI 9) hx hb dX5_firstOfMost_5 (by decide +kernel) ?_
      refine x_cge hx hb (i) (9) (by omega) (by omega) (tgt := 33) dX5_firstOfMost_7 (by decide) (fun c7 => ?_) (fun c7 => ?_)
      · have _u := trivial
        refine lv_iload_n hx hb dX5_firstOfMost_33 rfl (lv_at hl 1 rfl) ?_
        exact x_ri hx hb hr hlocks dX5_firstOfMost_34 (by show _ = _; have e : i = 9 := (by omega); subst e; rw [hk])
      · have _u := trivial
        refine lv_aload_n hx hb dX5_firstOfMost_10 rfl (lv_at hl 2 rfl) ?_
        refine x_get (C := RX5) (T := TX5) (N := 2) hx hb hts hi_X5_firstOfMost_X5 hown hK hV f1 rfl 1 (by decide) (hts (.fieldLink RX5 15 "SaddleHouse$Seat" "borne" "[I") (by decide +kernel)) (fun _ h9 => h9) rfl dX5_firstOfMost_11 ?_
        refine lv_iload_n hx hb dX5_firstOfMost_14 rfl (lv_at hl 0 rfl) ?_
        refine x_iald hx hb hK hV f2 (i) (by omega) (by decide) dX5_firstOfMost_15 ?_
        refine lv_aload_n hx hb dX5_firstOfMost_16 rfl (lv_at hl 2 rfl) ?_
        refine x_get (C := RX5) (T := TX5) (N := 2) hx hb hts hi_X5_firstOfMost_X5 hown hK hV f1 rfl 1 (by decide) (hts (.fieldLink RX5 15 "SaddleHouse$Seat" "borne" "[I") (by decide +kernel)) (fun _ h9 => h9) rfl dX5_firstOfMost_17 ?_
        refine lv_iload_n hx hb dX5_firstOfMost_20 rfl (lv_at hl 1 rfl) ?_
        refine x_iald hx hb hK hV f2 (k) (by omega) (by decide) dX5_firstOfMost_21 ?_
        refine lv_icmp_le (tgt := 27) hx hb dX5_firstOfMost_22 (by decide) (fun c8 => ?_) (fun c8 => ?_)
        · have _u := trivial
          refine lv_iinc (v := nI (i + 1)) (lv' := [(2, .int (nI (i + 1))), (1, .int (nI (k))), (0, .ref (loc (8)))]) hx hb dX5_firstOfMost_27 hl (k := 0) rfl (nI_add _ _) (by decide) rfl (fun ls hl => ?_)
          refine lv_goto (tgt := 4) hx hb dX5_firstOfMost_30 (by decide) ?_
          exact ih6 k (i + 1) ls (by omega) (by omega) (by omega) (xtop_s h1 hk (by first | exact Or.inl ⟨by assumption, rfl⟩ | exact Or.inr ⟨by assumption, rfl⟩)) (lv_sub hl [0, 1, 2] rfl)
        · have _u := trivial
          refine lv_iload_n hx hb dX5_firstOfMost_25 rfl (lv_at hl 0 rfl) ?_
          refine lv_istore_n (lv' := [(1, .int (nI (i))), (2, .int (nI (i))), (0, .ref (loc (8)))]) hx hb dX5_firstOfMost_26 rfl hl (by decide) rfl (fun ls hl => ?_)
          refine lv_iinc (v := nI (i + 1)) (lv' := [(2, .int (nI (i + 1))), (1, .int (nI (i))), (0, .ref (loc (8)))]) hx hb dX5_firstOfMost_27 hl (k := 1) rfl (nI_add _ _) (by decide) rfl (fun ls hl => ?_)
          refine lv_goto (tgt := 4) hx hb dX5_firstOfMost_30 (by decide) ?_
          exact ih6 i (i + 1) ls (by omega) (by omega) (by omega) (xtop_s h1 hk (by first | exact Or.inl ⟨by assumption, rfl⟩ | exact Or.inr ⟨by assumption, rfl⟩)) (lv_sub hl [0, 1, 2] rfl)
  exact lp4_3 (9 + 1) 0 1 ls (by omega) (by omega) (by omega) rfl (lv_sub hl [0, 1, 2] rfl)
