abbrev rm_X6_undersideAt : Room := { frames := 0, cells := 0, slots := 0, locals := 0 }
theorem hi_X6_undersideAt_X6 : ∀ w ∈ wsX60, w ∈ wsX6_undersideAt := by decide +kernel
set_option maxHeartbeats 4000000 in
set_option maxRecDepth 100000 in
theorem c_X6_undersideAt (l : Launch) (D : va_G) (cy : Nat → ClassId) (loc : Nat → Nat) (w : xM) (sz : Nat) (t th ts i : Nat) (hs ss : Nat → Int32) (hi : i < 9) (f1 : w (t) = some (.inr (6, [.ref (loc (th)), .ref (loc (ts))]))) (f2 : w (th) = some (eI cy 9 (hs))) (f3 : w (ts) = some (eI cy 9 (ss))) : Met l yX6_undersideAt wsX6_undersideAt rm_X6_undersideAt (va_Pc [.ref (loc (t)), .int (nI (i))] (xP D cy loc w sz)) (vp_Si (fun r => r = hs i - ss i)) 0 0 (fun _ => False) := by
  refine x_met (cc := cX6_undersideAt) (maxL := 2) (ret := (some .int)) (C := RX6) (by decide) rfl rfl (Nat.le_of_ble_eq_true rfl) ?_
  intro p e s m below meth c ls hx hb hml hr hts hown hlocks hin hP hl
  obtain ⟨hsz, hV, hK⟩ := hP
  subst hsz
  have hl : lv_has ls 2 [(0, .ref (loc (t))), (1, .int (nI (i)))] := hl
  refine lv_aload_n hx hb dX6_undersideAt_0 rfl (lv_at hl 0 rfl) ?_
  refine x_get (C := RX6) (T := TX6) (N := 2) hx hb hts hi_X6_undersideAt_X6 hown hK hV f1 rfl 0 (by decide) (hts (.fieldLink RX6 9 "SaddleHouse$Tree" "heights" "[I") (by decide +kernel)) (fun _ h9 => h9) rfl dX6_undersideAt_1 ?_
  refine lv_iload_n hx hb dX6_undersideAt_4 rfl (lv_at hl 1 rfl) ?_
  refine x_iald hx hb hK hV f2 (i) (by omega) (by decide) dX6_undersideAt_5 ?_
  refine lv_aload_n hx hb dX6_undersideAt_6 rfl (lv_at hl 0 rfl) ?_
  refine x_get (C := RX6) (T := TX6) (N := 2) hx hb hts hi_X6_undersideAt_X6 hown hK hV f1 rfl 1 (by decide) (hts (.fieldLink RX6 15 "SaddleHouse$Tree" "shims" "[I") (by decide +kernel)) (fun _ h9 => h9) rfl dX6_undersideAt_7 ?_
  refine lv_iload_n hx hb dX6_undersideAt_10 rfl (lv_at hl 1 rfl) ?_
  refine x_iald hx hb hK hV f3 (i) (by omega) (by decide) dX6_undersideAt_11 ?_
  refine lv_isub hx hb dX6_undersideAt_12 ?_
  exact x_ri hx hb hr hlocks dX6_undersideAt_13 (rfl)
abbrev rm_X7_isWithin : Room := { frames := 0, cells := 0, slots := 0, locals := 0 }
set_option maxHeartbeats 4000000 in
set_option maxRecDepth 100000 in
theorem c_X7_isWithin (l : Launch) (D : va_G) (cy : Nat → ClassId) (loc : Nat → Nat) (w : xM) (sz : Nat) (n a b : Int32)  : Met l yX7_isWithin wsX7_isWithin rm_X7_isWithin (va_Pc [.int (n), .int (a), .int (b)] (xP D cy loc w sz)) (vp_Si (fun r => r = xb (a ≤ n ∧ n ≤ b))) 0 0 (fun _ => False) := by
  refine x_met (cc := cX7_isWithin) (maxL := 3) (ret := (some .boolean)) (C := RX7) (by decide) rfl rfl (Nat.le_of_ble_eq_true rfl) ?_
  intro p e s m below meth c ls hx hb hml hr hts hown hlocks hin hP hl
  obtain ⟨hsz, hV, hK⟩ := hP
  subst hsz
  have hl : lv_has ls 3 [(0, .int (n)), (1, .int (a)), (2, .int (b))] := hl
  refine lv_iload_n hx hb dX7_isWithin_0 rfl (lv_at hl 0 rfl) ?_
  refine lv_iload_n hx hb dX7_isWithin_1 rfl (lv_at hl 1 rfl) ?_
  refine lv_icmp_lt (tgt := 14) hx hb dX7_isWithin_2 (by decide) (fun c1 => ?_) (fun c1 => ?_)
  · have _u := trivial
    refine lv_iconst (v := nI 0) hx hb dX7_isWithin_14 (by decide +kernel) ?_
    exact x_rz hx hb hr hlocks rfl dX7_isWithin_15 (by first | exact (xb_t ⟨Int32.not_lt.mp (by assumption), Int32.not_lt.mp (by assumption)⟩).symm | exact (xb_f (fun q => absurd q.1 (Int32.not_le.mpr (by assumption)))).symm | exact (xb_f (fun q => absurd q.2 (Int32.not_le.mpr (by assumption)))).symm)
  · have _u := trivial
    refine lv_iload_n hx hb dX7_isWithin_5 rfl (lv_at hl 0 rfl) ?_
    refine lv_iload_n hx hb dX7_isWithin_6 rfl (lv_at hl 2 rfl) ?_
    refine lv_icmp_gt (tgt := 14) hx hb dX7_isWithin_7 (by decide) (fun c2 => ?_) (fun c2 => ?_)
    · have _u := trivial
      refine lv_iconst (v := nI 0) hx hb dX7_isWithin_14 (by decide +kernel) ?_
      exact x_rz hx hb hr hlocks rfl dX7_isWithin_15 (by first | exact (xb_t ⟨Int32.not_lt.mp (by assumption), Int32.not_lt.mp (by assumption)⟩).symm | exact (xb_f (fun q => absurd q.1 (Int32.not_le.mpr (by assumption)))).symm | exact (xb_f (fun q => absurd q.2 (Int32.not_le.mpr (by assumption)))).symm)
    · have _u := trivial
      refine lv_iconst (v := nI 1) hx hb dX7_isWithin_10 (by decide +kernel) ?_
      refine lv_goto (tgt := 15) hx hb dX7_isWithin_11 (by decide) ?_
      exact x_rz hx hb hr hlocks rfl dX7_isWithin_15 (by first | exact (xb_t ⟨Int32.not_lt.mp (by assumption), Int32.not_lt.mp (by assumption)⟩).symm | exact (xb_f (fun q => absurd q.1 (Int32.not_le.mpr (by assumption)))).symm | exact (xb_f (fun q => absurd q.2 (Int32.not_le.mpr (by assumption)))).symm)
abbrev rm_X5_pressedFrom : Room := { frames := 0, cells := 0, slots := 0, locals := 0 }
theorem hi_X5_pressedFrom_X5 : ∀ w ∈ wsX50, w ∈ wsX5_pressedFrom := by decide +kernel
set_option maxHeartbeats 4000000 in
set_option maxRecDepth 100000 in
theorem c_X5_pressedFrom (l : Launch) (D : va_G) (cy : Nat → ClassId) (loc : Nat → Nat) (w : xM) (sz : Nat) (b : Nat → Int32) (first last : Nat) (hl9 : last < 9) (hfl : first ≤ last) (f1 : w (8) = some (.inr (5, [.ref (loc (9)), .ref (loc (10))]))) (f2 : w (10) = some (eI cy 9 (b))) : Met l yX5_pressedFrom wsX5_pressedFrom rm_X5_pressedFrom (va_Pc [.ref (loc (8)), .int (nI (first)), .int (nI (last))] (xP D cy loc w sz)) (vp_Si (fun r => r = nI (xcnt b first (last + 1 - first)))) 0 0 (fun _ => False) := by
  refine x_met (cc := cX5_pressedFrom) (maxL := 5) (ret := (some .int)) (C := RX5) (by decide) rfl rfl (Nat.le_of_ble_eq_true rfl) ?_
  intro p e s m below meth c ls hx hb hml hr hts hown hlocks hin hP hl
  obtain ⟨hsz, hV, hK⟩ := hP
  subst hsz
  have hl : lv_has ls 5 [(0, .ref (loc (8))), (1, .int (nI (first))), (2, .int (nI (last)))] := hl
  refine lv_iconst (v := nI 0) hx hb dX5_pressedFrom_0 (by decide +kernel) ?_
  refine lv_istore_n (lv' := [(3, .int (nI (0))), (0, .ref (loc (8))), (1, .int (nI (first))), (2, .int (nI (last)))]) hx hb dX5_pressedFrom_1 rfl hl (by decide) rfl (fun ls hl => ?_)
  refine lv_iload_n hx hb dX5_pressedFrom_2 rfl (lv_at hl 2 rfl) ?_
  refine lv_istore (lv' := [(4, .int (nI (first))), (3, .int (nI (0))), (0, .ref (loc (8))), (1, .int (nI (first))), (2, .int (nI (last)))]) hx hb dX5_pressedFrom_3 hl (by decide) rfl (fun ls hl => ?_)
  have lp5_3 : ∀ (fuel4 : Nat) (k : Nat) (i : Nat) (ls : Array Slot), last + 1 - i < fuel4 → (first ≤ i) → (i ≤ last + 1) → (k = xcnt b first (i - first)) → lv_has ls 5 [(4, .int (nI (i))), (3, .int (nI (k))), (0, .ref (loc (8))), (1, .int (nI (first))), (2, .int (nI (last)))] → W p l e rm_X5_pressedFrom s m ([.ref (loc (8)), .int (nI (first)), .int (nI (last))] : List Value).toArray below meth c s.heap [] 0 0 (MQ below (vp_Si (fun r => r = nI (xcnt b first (last + 1 - first)))) ([.ref (loc (8)), .int (nI (first)), .int (nI (last))] : List Value).toArray s 0 0 (fun _ => False)) (F0 m 5 ls []) := by
    intro fuel4
    induction fuel4 with
    | zero => intro k i ls hm5; exact absurd hm5 (Nat.not_lt_zero _)
    | succ fuel4 ih6 =>
      intro k i ls hm5 h1 h2 hk  hl
      refine lv_iload hx hb dX5_pressedFrom_5 (lv_at hl 0 rfl) ?_
      refine lv_iload_n hx hb dX5_pressedFrom_7 rfl (lv_at hl 4 rfl) ?_
      refine x_cgt hx hb (i) (last) (by omega) (by omega) (tgt := 30) dX5_pressedFrom_8 (by decide) (fun c7 => ?_) (fun c7 => ?_)
      · have _u := trivial
        refine lv_iload_n hx hb dX5_pressedFrom_30 rfl (lv_at hl 1 rfl) ?_
        exact x_ri hx hb hr hlocks dX5_pressedFrom_31 (by show _ = _; have e : i = last + 1 := (by omega); subst e; rw [hk])
      · have _u := trivial
        refine lv_aload_n hx hb dX5_pressedFrom_11 rfl (lv_at hl 2 rfl) ?_
        refine x_get (C := RX5) (T := TX5) (N := 2) hx hb hts hi_X5_pressedFrom_X5 hown hK hV f1 rfl 1 (by decide) (hts (.fieldLink RX5 15 "SaddleHouse$Seat" "borne" "[I") (by decide +kernel)) (fun _ h9 => h9) rfl dX5_pressedFrom_12 ?_
        refine lv_iload hx hb dX5_pressedFrom_15 (lv_at hl 0 rfl) ?_
        refine x_iald hx hb hK hV f2 (i) (by omega) (by decide) dX5_pressedFrom_17 ?_
        refine lv_if_le (tgt := 24) hx hb dX5_pressedFrom_18 (by decide) (fun c8 => ?_) (fun c8 => ?_)
        · have _u := trivial
          refine lv_iinc (v := nI (i + 1)) (lv' := [(4, .int (nI (i + 1))), (3, .int (nI (k))), (0, .ref (loc (8))), (1, .int (nI (first))), (2, .int (nI (last)))]) hx hb dX5_pressedFrom_24 hl (k := 0) rfl (nI_add _ _) (by decide) rfl (fun ls hl => ?_)
          refine lv_goto (tgt := 5) hx hb dX5_pressedFrom_27 (by decide) ?_
          exact ih6 k (i + 1) ls (by omega) (by omega) (by omega) (xcnt_s (by omega) hk (by first | exact Or.inl ⟨by assumption, rfl⟩ | exact Or.inr ⟨by assumption, rfl⟩)) (lv_sub hl [0, 1, 2, 3, 4] rfl)
        · have _u := trivial
          refine lv_iinc (v := nI (k + 1)) (lv' := [(3, .int (nI (k + 1))), (4, .int (nI (i))), (0, .ref (loc (8))), (1, .int (nI (first))), (2, .int (nI (last)))]) hx hb dX5_pressedFrom_21 hl (k := 1) rfl (nI_add _ _) (by decide) rfl (fun ls hl => ?_)
          refine lv_iinc (v := nI (i + 1)) (lv' := [(4, .int (nI (i + 1))), (3, .int (nI (k + 1))), (0, .ref (loc (8))), (1, .int (nI (first))), (2, .int (nI (last)))]) hx hb dX5_pressedFrom_24 hl (k := 1) rfl (nI_add _ _) (by decide) rfl (fun ls hl => ?_)
          refine lv_goto (tgt := 5) hx hb dX5_pressedFrom_27 (by decide) ?_
          exact ih6 (k + 1) (i + 1) ls (by omega) (by omega) (by omega) (xcnt_s (by omega) hk (by first | exact Or.inl ⟨by assumption, rfl⟩ | exact Or.inr ⟨by assumption, rfl⟩)) (lv_sub hl [0, 1, 2, 3, 4] rfl)
  exact lp5_3 ((last + 1 - first) + 1) 0 first ls (by omega) (by omega) (by omega) (by rw [Nat.sub_self]; rfl) (lv_sub hl [0, 1, 2, 3, 4] rfl)
abbrev rm_X5_firstOfMost : Room := { frames := 0, cells := 0, slots := 0, locals := 0 }
theorem hi_X5_firstOfMost_X5 : ∀ w ∈ wsX50, w ∈ wsX5_firstOfMost := by decide +kernel
set_option maxHeartbeats 4000000 in
set_option maxRecDepth 100000 in
theorem c_X5_firstOfMost (l : Launch) (D : va_G) (cy : Nat → ClassId) (loc : Nat → Nat) (w : xM) (sz : Nat) (b : Nat → Int32) (f1 : w (8) = some (.inr (5, [.ref (loc (9)), .ref (loc (10))]))) (f2 : w (10) = some (eI cy 9 (b))) : Met l yX5_firstOfMost wsX5_firstOfMost rm_X5_firstOfMost (va_Pc [.ref (loc (8))] (xP D cy loc w sz)) (vp_Si (fun r => r = nI (xtop b 8))) 0 0 (fun _ => False) := by
  refine x_met (cc := cX5_firstOfMost) (maxL := 3) (ret := (some .int)) (C := RX5) (by decide) rfl rfl (Nat.le_of_ble_eq_true rfl) ?_
  intro p e s m below meth c ls hx hb hml hr hts hown hlocks hin hP hl
  obtain ⟨hsz, hV, hK⟩ := hP
  subst hsz
  have hl : lv_has ls 3 [(0, .ref (loc (8)))] := hl
  refine lv_iconst (v := nI 0) hx hb dX5_firstOfMost_0 (by decide +kernel) ?_
  refine lv_istore_n (lv' := [(1, .int (nI (0))), (0, .ref (loc (8)))]) hx hb dX5_firstOfMost_1 rfl hl (by decide) rfl (fun ls hl => ?_)
  refine lv_iconst (v := nI 1) hx hb dX5_firstOfMost_2 (by decide +kernel) ?_
  refine lv_istore_n (lv' := [(2, .int (nI (1))), (1, .int (nI (0))), (0, .ref (loc (8)))]) hx hb dX5_firstOfMost_3 rfl hl (by decide) rfl (fun ls hl => ?_)
  have lp4_3 : ∀ (fuel4 : Nat) (k : Nat) (i : Nat) (ls : Array Slot), 9 - i < fuel4 → (1 ≤ i) → (i ≤ 9) → (k = xtop b (i - 1)) → lv_has ls 3 [(2, .int (nI (i))), (1, .int (nI (k))), (0, .ref (loc (8)))] → W p l e rm_X5_firstOfMost s m ([.ref (loc (8))] : List Value).toArray below meth c s.heap [] 0 0 (MQ below (vp_Si (fun r => r = nI (xtop b 8))) ([.ref (loc (8))] : List Value).toArray s 0 0 (fun _ => False)) (F0 m 4 ls []) := by
    intro fuel4
    induction fuel4 with
    | zero => intro k i ls hm5; exact absurd hm5 (Nat.not_lt_zero _)
    | succ fuel4 ih6 =>
      intro k i ls hm5 h1 h2 hk  hl
      have hk9 : k < 9 := by have := xtop_le b (i - 1); omega
      refine lv_iload_n hx hb dX5_firstOfMost_4 rfl (lv_at hl 0 rfl) ?_
      refine lv_bipush (v := nI 9) hx hb dX5_firstOfMost_5 (by decide +kernel) ?_
      refine x_cge hx hb (i) (9) (by omega) (by omega) (tgt := 33) dX5_firstOfMost_7 (by decide) (fun c7 => ?_) (fun c7 => ?_)
      · have _u := trivial
        refine lv_iload_n hx hb dX5_firstOfMost_33 rfl (lv_at hl 1 rfl) ?_
        exact x_ri hx hb hr hlocks dX5_firstOfMost_34 (by show _ = _; have e : i = 9 := (by omega); subst e; rw [hk])
      · have _u := trivial
        refine lv_aload_n hx hb dX5_firstOfMost_10 rfl (lv_at hl 2 rfl) ?_
        refine x_get (C := RX5) (T := TX5) (N := 2) hx hb hts hi_X5_firstOfMost_X5 hown hK hV f1 rfl 1 (by decide) (hts (.fieldLink RX5 15 "SaddleHouse$Seat" "borne" "[I") (by decide +kernel)) (fun _ h9 => h9) rfl dX5_firstOfMost_11 ?_
        refine lv_iload_n hx hb dX5_firstOfMost_14 rfl (lv_at hl 0 rfl) ?_
        refine x_iald hx hb hK hV f2 (i) (by omega) (by decide) dX5_firstOfMost_15 ?_
        refine lv_aload_n hx hb dX5_firstOfMost_16 rfl (lv_at hl 2 rfl) ?_
        refine x_get (C := RX5) (T := TX5) (N := 2) hx hb hts hi_X5_firstOfMost_X5 hown hK hV f1 rfl 1 (by decide) (hts (.fieldLink RX5 15 "SaddleHouse$Seat" "borne" "[I") (by decide +kernel)) (fun _ h9 => h9) rfl dX5_firstOfMost_17 ?_
        refine lv_iload_n hx hb dX5_firstOfMost_20 rfl (lv_at hl 1 rfl) ?_
        refine x_iald hx hb hK hV f2 (k) (by omega) (by decide) dX5_firstOfMost_21 ?_
        refine lv_icmp_le (tgt := 27) hx hb dX5_firstOfMost_22 (by decide) (fun c8 => ?_) (fun c8 => ?_)
        · have _u := trivial
          refine lv_iinc (v := nI (i + 1)) (lv' := [(2, .int (nI (i + 1))), (1, .int (nI (k))), (0, .ref (loc (8)))]) hx hb dX5_firstOfMost_27 hl (k := 0) rfl (nI_add _ _) (by decide) rfl (fun ls hl => ?_)
          refine lv_goto (tgt := 4) hx hb dX5_firstOfMost_30 (by decide) ?_
          exact ih6 k (i + 1) ls (by omega) (by omega) (by omega) (xtop_s h1 hk (by first | exact Or.inl ⟨by assumption, rfl⟩ | exact Or.inr ⟨by assumption, rfl⟩)) (lv_sub hl [0, 1, 2] rfl)
        · have _u := trivial
          refine lv_iload_n hx hb dX5_firstOfMost_25 rfl (lv_at hl 0 rfl) ?_
          refine lv_istore_n (lv' := [(1, .int (nI (i))), (2, .int (nI (i))), (0, .ref (loc (8)))]) hx hb dX5_firstOfMost_26 rfl hl (by decide) rfl (fun ls hl => ?_)
          refine lv_iinc (v := nI (i + 1)) (lv' := [(2, .int (nI (i + 1))), (1, .int (nI (i))), (0, .ref (loc (8)))]) hx hb dX5_firstOfMost_27 hl (k := 1) rfl (nI_add _ _) (by decide) rfl (fun ls hl => ?_)
          refine lv_goto (tgt := 4) hx hb dX5_firstOfMost_30 (by decide) ?_
          exact ih6 i (i + 1) ls (by omega) (by omega) (by omega) (xtop_s h1 hk (by first | exact Or.inl ⟨by assumption, rfl⟩ | exact Or.inr ⟨by assumption, rfl⟩)) (lv_sub hl [0, 1, 2] rfl)
  exact lp4_3 (9 + 1) 0 1 ls (by omega) (by omega) (by omega) rfl (lv_sub hl [0, 1, 2] rfl)
abbrev rm_X5_pressPlace : Room := { frames := 0, cells := 0, slots := 0, locals := 0 }
theorem hi_X5_pressPlace_X5 : ∀ w ∈ wsX50, w ∈ wsX5_pressPlace := by decide +kernel
set_option maxHeartbeats 4000000 in
set_option maxRecDepth 100000 in
theorem c_X5_pressPlace (l : Launch) (D : va_G) (cy : Nat → ClassId) (loc : Nat → Nat) (w : xM) (sz : Nat) (b : Nat → Int32) (m0 : Int32) (f1 : w (8) = some (.inr (5, [.ref (loc (9)), .ref (loc (10))]))) (f2 : w (10) = some (eI cy 9 (b))) : Met l yX5_pressPlace wsX5_pressPlace rm_X5_pressPlace (va_Pc [.ref (loc (8)), .int (m0)] (xP D cy loc w sz)) (vp_Si (fun r => r = xfv (xff (xovr b m0) 9))) 0 0 (fun _ => False) := by
  refine x_met (cc := cX5_pressPlace) (maxL := 3) (ret := (some .int)) (C := RX5) (by decide) rfl rfl (Nat.le_of_ble_eq_true rfl) ?_
  intro p e s m below meth c ls hx hb hml hr hts hown hlocks hin hP hl
  obtain ⟨hsz, hV, hK⟩ := hP
  subst hsz
  have hl : lv_has ls 3 [(0, .ref (loc (8))), (1, .int (m0))] := hl
  refine lv_iconst (v := nI 0) hx hb dX5_pressPlace_0 (by decide +kernel) ?_
  refine lv_istore_n (lv' := [(2, .int (nI (0))), (0, .ref (loc (8))), (1, .int (m0))]) hx hb dX5_pressPlace_1 rfl hl (by decide) rfl (fun ls hl => ?_)
  have lp2_3 : ∀ (fuel4 : Nat) (i : Nat) (ls : Array Slot), 9 - i < fuel4 → (i ≤ 9) → (xff (xovr b m0) i = 0) → lv_has ls 3 [(2, .int (nI (i))), (0, .ref (loc (8))), (1, .int (m0))] → W p l e rm_X5_pressPlace s m ([.ref (loc (8)), .int (m0)] : List Value).toArray below meth c s.heap [] 0 0 (MQ below (vp_Si (fun r => r = xfv (xff (xovr b m0) 9))) ([.ref (loc (8)), .int (m0)] : List Value).toArray s 0 0 (fun _ => False)) (F0 m 2 ls []) := by
    intro fuel4
    induction fuel4 with
    | zero => intro i ls hm5; exact absurd hm5 (Nat.not_lt_zero _)
    | succ fuel4 ih6 =>
      intro i ls hm5 h2 h3  hl
      refine lv_iload_n hx hb dX5_pressPlace_2 rfl (lv_at hl 0 rfl) ?_
      refine lv_bipush (v := nI 9) hx hb dX5_pressPlace_3 (by decide +kernel) ?_
      refine x_cge hx hb (i) (9) (by omega) (by omega) (tgt := 26) dX5_pressPlace_5 (by decide) (fun c7 => ?_) (fun c7 => ?_)
      · have _u := trivial
        refine lv_iconst (v := -1) hx hb dX5_pressPlace_26 (by decide +kernel) ?_
        exact x_ri hx hb hr hlocks dX5_pressPlace_27 (by show _ = _; have e : i = 9 := (by omega); subst e; rw [h3]; rfl)
      · have _u := trivial
        refine lv_aload_n hx hb dX5_pressPlace_8 rfl (lv_at hl 1 rfl) ?_
        refine x_get (C := RX5) (T := TX5) (N := 2) hx hb hts hi_X5_pressPlace_X5 hown hK hV f1 rfl 1 (by decide) (hts (.fieldLink RX5 15 "SaddleHouse$Seat" "borne" "[I") (by decide +kernel)) (fun _ h9 => h9) rfl dX5_pressPlace_9 ?_
        refine lv_iload_n hx hb dX5_pressPlace_12 rfl (lv_at hl 0 rfl) ?_
        refine x_iald hx hb hK hV f2 (i) (by omega) (by decide) dX5_pressPlace_13 ?_
        refine lv_iload_n hx hb dX5_pressPlace_14 rfl (lv_at hl 2 rfl) ?_
        refine lv_icmp_le (tgt := 20) hx hb dX5_pressPlace_15 (by decide) (fun c8 => ?_) (fun c8 => ?_)
        · have _u := trivial
          refine lv_iinc (v := nI (i + 1)) (lv' := [(2, .int (nI (i + 1))), (0, .ref (loc (8))), (1, .int (m0))]) hx hb dX5_pressPlace_20 hl (k := 0) rfl (nI_add _ _) (by decide) rfl (fun ls hl => ?_)
          refine lv_goto (tgt := 2) hx hb dX5_pressPlace_23 (by decide) ?_
          exact ih6 (i + 1) ls (by omega) (by omega) (xff_miss h3 (Int32.not_lt.mpr (by assumption))) (lv_sub hl [0, 1, 2] rfl)
        · have _u := trivial
          refine lv_iload_n hx hb dX5_pressPlace_18 rfl (lv_at hl 0 rfl) ?_
          exact x_ri hx hb hr hlocks dX5_pressPlace_19 (by show _ = _; rw [xff_hit h3 (Int32.not_le.mp (by assumption)) (by omega), xfv_s])
  exact lp2_3 (9 + 1) 0 ls (by omega) (by omega) rfl (lv_sub hl [0, 1, 2] rfl)
abbrev rm_X5_bridgePlace : Room := { frames := 0, cells := 0, slots := 0, locals := 0 }
theorem hi_X5_bridgePlace_X5 : ∀ w ∈ wsX50, w ∈ wsX5_bridgePlace := by decide +kernel
set_option maxHeartbeats 4000000 in
set_option maxRecDepth 100000 in
theorem c_X5_bridgePlace (l : Launch) (D : va_G) (cy : Nat → ClassId) (loc : Nat → Nat) (w : xM) (sz : Nat) (b : Nat → Int32) (f1 : w (8) = some (.inr (5, [.ref (loc (9)), .ref (loc (10))]))) (f2 : w (10) = some (eI cy 9 (b))) : Met l yX5_bridgePlace wsX5_bridgePlace rm_X5_bridgePlace (va_Pc [.ref (loc (8))] (xP D cy loc w sz)) (vp_Si (fun r => r = xfv (xbc (xprs b)))) 0 0 (fun _ => False) := by
  refine x_met (cc := cX5_bridgePlace) (maxL := 3) (ret := (some .int)) (C := RX5) (by decide) rfl rfl (Nat.le_of_ble_eq_true rfl) ?_
  intro p e s m below meth c ls hx hb hml hr hts hown hlocks hin hP hl
  obtain ⟨hsz, hV, hK⟩ := hP
  subst hsz
  have hl : lv_has ls 3 [(0, .ref (loc (8)))] := hl
  refine lv_iconst (v := -1) hx hb dX5_bridgePlace_0 (by decide +kernel) ?_
  refine lv_istore_n (lv' := [(1, .int ((-1))), (0, .ref (loc (8)))]) hx hb dX5_bridgePlace_1 rfl hl (by decide) rfl (fun ls hl => ?_)
  refine lv_iconst (v := nI 0) hx hb dX5_bridgePlace_2 (by decide +kernel) ?_
  refine lv_istore_n (lv' := [(2, .int (nI (0))), (1, .int ((-1))), (0, .ref (loc (8)))]) hx hb dX5_bridgePlace_3 rfl hl (by decide) rfl (fun ls hl => ?_)
  have lp4_3 : ∀ (fuel4 : Nat) (lp : Int32) (i : Nat) (ls : Array Slot), 9 - i < fuel4 → (i ≤ 9) → (xff (xbq (xprs b)) i = 0) → (lp = xfv (xlp (xprs b) i)) → lv_has ls 3 [(2, .int (nI (i))), (1, .int (lp)), (0, .ref (loc (8)))] → W p l e rm_X5_bridgePlace s m ([.ref (loc (8))] : List Value).toArray below meth c s.heap [] 0 0 (MQ below (vp_Si (fun r => r = xfv (xbc (xprs b)))) ([.ref (loc (8))] : List Value).toArray s 0 0 (fun _ => False)) (F0 m 4 ls []) := by
    intro fuel4
    induction fuel4 with
    | zero => intro lp i ls hm5; exact absurd hm5 (Nat.not_lt_zero _)
    | succ fuel4 ih6 =>
      intro lp i ls hm5 h2 h3 h4  hl
      refine lv_iload_n hx hb dX5_bridgePlace_4 rfl (lv_at hl 0 rfl) ?_
      refine lv_bipush (v := nI 9) hx hb dX5_bridgePlace_5 (by decide +kernel) ?_
      refine x_cge hx hb (i) (9) (by omega) (by omega) (tgt := 43) dX5_bridgePlace_7 (by decide) (fun c7 => ?_) (fun c7 => ?_)
      · have _u := trivial
        refine lv_iconst (v := -1) hx hb dX5_bridgePlace_43 (by decide +kernel) ?_
        exact x_ri hx hb hr hlocks dX5_bridgePlace_44 (by show _ = _; have e : i = 9 := (by omega); subst e; rw [xbc, h3]; rfl)
      · have _u := trivial
        refine lv_aload_n hx hb dX5_bridgePlace_10 rfl (lv_at hl 2 rfl) ?_
        refine x_get (C := RX5) (T := TX5) (N := 2) hx hb hts hi_X5_bridgePlace_X5 hown hK hV f1 rfl 1 (by decide) (hts (.fieldLink RX5 15 "SaddleHouse$Seat" "borne" "[I") (by decide +kernel)) (fun _ h9 => h9) rfl dX5_bridgePlace_11 ?_
        refine lv_iload_n hx hb dX5_bridgePlace_14 rfl (lv_at hl 0 rfl) ?_
        refine x_iald hx hb hK hV f2 (i) (by omega) (by decide) dX5_bridgePlace_15 ?_
        refine lv_if_le (tgt := 37) hx hb dX5_bridgePlace_16 (by decide) (fun c8 => ?_) (fun c8 => ?_)
        · have _u := trivial
          refine lv_iinc (v := nI (i + 1)) (lv' := [(2, .int (nI (i + 1))), (1, .int (lp)), (0, .ref (loc (8)))]) hx hb dX5_bridgePlace_37 hl (k := 0) rfl (nI_add _ _) (by decide) rfl (fun ls hl => ?_)
          refine lv_goto (tgt := 4) hx hb dX5_bridgePlace_40 (by decide) ?_
          exact ih6 lp (i + 1) ls (by omega) (by omega) (by first | exact xff_miss h3 (fun q => absurd q.1 (Int32.not_lt.mpr (by assumption))) | exact xff_miss h3 (xlp_not (by omega) h4 (Or.inl (by assumption))) | exact xff_miss h3 (xlp_not (by omega) h4 (Or.inr (by assumption)))) (by rw [xlp]; first | (rw [if_neg (Int32.not_lt.mpr (by assumption))]; exact h4) | rw [if_pos (Int32.not_le.mp (by assumption)), xfv_s]) (lv_sub hl [0, 1, 2] rfl)
        · have _u := trivial
          refine lv_iload_n hx hb dX5_bridgePlace_19 rfl (lv_at hl 1 rfl) ?_
          refine lv_iconst (v := -1) hx hb dX5_bridgePlace_20 (by decide +kernel) ?_
          refine lv_icmp_eq (tgt := 35) hx hb dX5_bridgePlace_21 (by decide) (fun c9 => ?_) (fun c9 => ?_)
          · have _u := trivial
            refine lv_iload_n hx hb dX5_bridgePlace_35 rfl (lv_at hl 0 rfl) ?_
            refine lv_istore_n (lv' := [(1, .int (nI (i))), (2, .int (nI (i))), (0, .ref (loc (8)))]) hx hb dX5_bridgePlace_36 rfl hl (by decide) rfl (fun ls hl => ?_)
            refine lv_iinc (v := nI (i + 1)) (lv' := [(2, .int (nI (i + 1))), (1, .int (nI (i))), (0, .ref (loc (8)))]) hx hb dX5_bridgePlace_37 hl (k := 1) rfl (nI_add _ _) (by decide) rfl (fun ls hl => ?_)
            refine lv_goto (tgt := 4) hx hb dX5_bridgePlace_40 (by decide) ?_
            exact ih6 (nI i) (i + 1) ls (by omega) (by omega) (by first | exact xff_miss h3 (fun q => absurd q.1 (Int32.not_lt.mpr (by assumption))) | exact xff_miss h3 (xlp_not (by omega) h4 (Or.inl (by assumption))) | exact xff_miss h3 (xlp_not (by omega) h4 (Or.inr (by assumption)))) (by rw [xlp]; first | (rw [if_neg (Int32.not_lt.mpr (by assumption))]; exact h4) | rw [if_pos (Int32.not_le.mp (by assumption)), xfv_s]) (lv_sub hl [0, 1, 2] rfl)
          · have _u := trivial
            refine lv_iload_n hx hb dX5_bridgePlace_24 rfl (lv_at hl 0 rfl) ?_
            refine lv_iload_n hx hb dX5_bridgePlace_25 rfl (lv_at hl 1 rfl) ?_
            refine lv_isub hx hb dX5_bridgePlace_26 ?_
            refine lv_iconst (v := nI 3) hx hb dX5_bridgePlace_27 (by decide +kernel) ?_
            refine lv_icmp_le (tgt := 35) hx hb dX5_bridgePlace_28 (by decide) (fun c10 => ?_) (fun c10 => ?_)
            · have _u := trivial
              refine lv_iload_n hx hb dX5_bridgePlace_35 rfl (lv_at hl 0 rfl) ?_
              refine lv_istore_n (lv' := [(1, .int (nI (i))), (2, .int (nI (i))), (0, .ref (loc (8)))]) hx hb dX5_bridgePlace_36 rfl hl (by decide) rfl (fun ls hl => ?_)
              refine lv_iinc (v := nI (i + 1)) (lv' := [(2, .int (nI (i + 1))), (1, .int (nI (i))), (0, .ref (loc (8)))]) hx hb dX5_bridgePlace_37 hl (k := 1) rfl (nI_add _ _) (by decide) rfl (fun ls hl => ?_)
              refine lv_goto (tgt := 4) hx hb dX5_bridgePlace_40 (by decide) ?_
              exact ih6 (nI i) (i + 1) ls (by omega) (by omega) (by first | exact xff_miss h3 (fun q => absurd q.1 (Int32.not_lt.mpr (by assumption))) | exact xff_miss h3 (xlp_not (by omega) h4 (Or.inl (by assumption))) | exact xff_miss h3 (xlp_not (by omega) h4 (Or.inr (by assumption)))) (by rw [xlp]; first | (rw [if_neg (Int32.not_lt.mpr (by assumption))]; exact h4) | rw [if_pos (Int32.not_le.mp (by assumption)), xfv_s]) (lv_sub hl [0, 1, 2] rfl)
            · have _u := trivial
              refine lv_iload_n hx hb dX5_bridgePlace_31 rfl (lv_at hl 1 rfl) ?_
              refine lv_iconst (v := nI 1) hx hb dX5_bridgePlace_32 (by decide +kernel) ?_
              refine lv_iadd hx hb dX5_bridgePlace_33 ?_
              exact x_ri hx hb hr hlocks dX5_bridgePlace_34 (by show _ = _; obtain ⟨z1, z2, z3⟩ := xlp_val (by omega) h4 (by assumption) (Int32.not_le.mp (by assumption)); rw [z3, xbc_hit h3 ⟨Int32.not_le.mp (by assumption), z1, z2⟩ (by omega)])
  exact lp4_3 (9 + 1) (-1) 0 ls (by omega) (by omega) rfl rfl (lv_sub hl [0, 1, 2] rfl)
abbrev rm_X5_rockPlace : Room := { frames := 1, cells := 0, slots := 0, locals := 24 }
set_option maxHeartbeats 4000000 in
set_option maxRecDepth 100000 in
theorem c_X5_rockPlace (l : Launch) (D : va_G) (cy : Nat → ClassId) (loc : Nat → Nat) (w : xM) (sz : Nat) (b : Nat → Int32) (f1 : w (8) = some (.inr (5, [.ref (loc (9)), .ref (loc (10))]))) (f2 : w (10) = some (eI cy 9 (b))) : Met l yX5_rockPlace wsX5_rockPlace rm_X5_rockPlace (va_Pc [.ref (loc (8))] (xP D cy loc w sz)) (vp_Si (fun r => r = xrock b)) 0 0 (fun _ => False) := by
  refine x_met (cc := cX5_rockPlace) (maxL := 1) (ret := (some .int)) (C := RX5) (by decide) rfl rfl (Nat.le_of_ble_eq_true rfl) ?_
  intro p e s m below meth c ls hx hb hml hr hts hown hlocks hin hP hl
  obtain ⟨hsz, hV, hK⟩ := hP
  subst hsz
  have hl : lv_has ls 1 [(0, .ref (loc (8)))] := hl
  have b03 := xcnt_le b 0 3
  have b63 := xcnt_le b 6 3
  refine lv_aload_n hx hb dX5_rockPlace_0 rfl (lv_at hl 0 rfl) ?_
  refine lv_iconst (v := nI 0) hx hb dX5_rockPlace_1 (by decide +kernel) ?_
  refine lv_iconst (v := nI 2) hx hb dX5_rockPlace_2 (by decide +kernel) ?_
  refine x_ci (va_runV (As := [.int (nI (0)), .int (nI (2))]) (rest := []) ⟨hx, hb, hml, hown, hts⟩ (c_X5_pressedFrom l D cy loc w s.heap.size b 0 2 (by decide) (by decide) f1 f2) (cwV 2 hts gX5_rockPlace_X5_pressedFrom rfl rfl rfl (by decide +kernel) ⟨Nat.le_of_ble_eq_true rfl, Nat.le_of_ble_eq_true rfl⟩) (x_preV hK hV f1 rfl) rfl rfl hl.1 rfl (lv_room (Nat.le_of_ble_eq_true rfl)) dX5_rockPlace_3 ⟨Nat.le_of_ble_eq_true rfl, Nat.le_of_ble_eq_true rfl⟩) (fun r3 hr4 => ?_)
  obtain rfl : r3 = nI (xcnt b 0 (2 + 1 - 0)) := hr4
  refine lv_if_ne (tgt := 11) hx hb dX5_rockPlace_6 (by decide) (fun c5 => ?_) (fun c5 => ?_)
  · have _u := trivial
    refine lv_aload_n hx hb dX5_rockPlace_11 rfl (lv_at hl 0 rfl) ?_
    refine lv_bipush (v := nI 6) hx hb dX5_rockPlace_12 (by decide +kernel) ?_
    refine lv_bipush (v := nI 8) hx hb dX5_rockPlace_14 (by decide +kernel) ?_
    refine x_ci (va_runV (As := [.int (nI (6)), .int (nI (8))]) (rest := []) ⟨hx, hb, hml, hown, hts⟩ (c_X5_pressedFrom l D cy loc w s.heap.size b 6 8 (by decide) (by decide) f1 f2) (cwV 2 hts gX5_rockPlace_X5_pressedFrom rfl rfl rfl (by decide +kernel) ⟨Nat.le_of_ble_eq_true rfl, Nat.le_of_ble_eq_true rfl⟩) (x_preV hK hV f1 rfl) rfl rfl hl.1 rfl (lv_room (Nat.le_of_ble_eq_true rfl)) dX5_rockPlace_16 ⟨Nat.le_of_ble_eq_true rfl, Nat.le_of_ble_eq_true rfl⟩) (fun r6 hr7 => ?_)
    obtain rfl : r6 = nI (xcnt b 6 (8 + 1 - 6)) := hr7
    refine lv_if_ne (tgt := 27) hx hb dX5_rockPlace_19 (by decide) (fun c8 => ?_) (fun c8 => ?_)
    · have _u := trivial
      refine lv_iconst (v := -1) hx hb dX5_rockPlace_27 (by decide +kernel) ?_
      exact x_ri hx hb hr hlocks dX5_rockPlace_28 (by show _ = _; rw [xrock]; first | rw [if_pos (nI_z (by omega) (by assumption))] | rw [if_neg (nI_nz (by assumption)), if_pos (nI_z (by omega) (by assumption))] | rw [if_neg (nI_nz (by assumption)), if_neg (nI_nz (by assumption))])
    · have _u := trivial
      refine lv_bipush (v := nI 6) hx hb dX5_rockPlace_22 (by decide +kernel) ?_
      refine lv_goto (tgt := 28) hx hb dX5_rockPlace_24 (by decide) ?_
      exact x_ri hx hb hr hlocks dX5_rockPlace_28 (by show _ = _; rw [xrock]; first | rw [if_pos (nI_z (by omega) (by assumption))] | rw [if_neg (nI_nz (by assumption)), if_pos (nI_z (by omega) (by assumption))] | rw [if_neg (nI_nz (by assumption)), if_neg (nI_nz (by assumption))])
  · have _u := trivial
    refine lv_iconst (v := nI 0) hx hb dX5_rockPlace_9 (by decide +kernel) ?_
    exact x_ri hx hb hr hlocks dX5_rockPlace_10 (by show _ = _; rw [xrock]; first | rw [if_pos (nI_z (by omega) (by assumption))] | rw [if_neg (nI_nz (by assumption)), if_pos (nI_z (by omega) (by assumption))] | rw [if_neg (nI_nz (by assumption)), if_neg (nI_nz (by assumption))])
abbrev rm_X5_firstFault : Room := { frames := 2, cells := 0, slots := 0, locals := 44 }
set_option maxHeartbeats 4000000 in
set_option maxRecDepth 100000 in
theorem c_X5_firstFault (l : Launch) (D : va_G) (cy : Nat → ClassId) (loc : Nat → Nat) (w : xM) (sz : Nat) (b : Nat → Int32) (m0 : Int32) (f1 : w (8) = some (.inr (5, [.ref (loc (9)), .ref (loc (10))]))) (f2 : w (10) = some (eI cy 9 (b))) : Met l yX5_firstFault wsX5_firstFault rm_X5_firstFault (va_Pc [.ref (loc (8)), .int (m0)] (xP D cy loc w sz)) (vp_Si (fun r => r = nI (xfault b m0))) 0 0 (fun _ => False) := by
  refine x_met (cc := cX5_firstFault) (maxL := 2) (ret := (some .int)) (C := RX5) (by decide) rfl rfl (Nat.le_of_ble_eq_true rfl) ?_
  intro p e s m below meth c ls hx hb hml hr hts hown hlocks hin hP hl
  obtain ⟨hsz, hV, hK⟩ := hP
  subst hsz
  have hl : lv_has ls 2 [(0, .ref (loc (8))), (1, .int (m0))] := hl
  refine lv_aload_n hx hb dX5_firstFault_0 rfl (lv_at hl 0 rfl) ?_
  refine lv_iload_n hx hb dX5_firstFault_1 rfl (lv_at hl 1 rfl) ?_
  refine x_ci (va_runV (As := [.int (m0)]) (rest := []) ⟨hx, hb, hml, hown, hts⟩ (c_X5_pressPlace l D cy loc w s.heap.size b m0 f1 f2) (cwV 1 hts gX5_firstFault_X5_pressPlace rfl rfl rfl (by decide +kernel) ⟨Nat.le_of_ble_eq_true rfl, Nat.le_of_ble_eq_true rfl⟩) (x_preV hK hV f1 rfl) rfl rfl hl.1 rfl (lv_room (Nat.le_of_ble_eq_true rfl)) dX5_firstFault_2 ⟨Nat.le_of_ble_eq_true rfl, Nat.le_of_ble_eq_true rfl⟩) (fun r3 hr4 => ?_)
  obtain rfl : r3 = xfv (xff (xovr b m0) 9) := hr4
  refine lv_iconst (v := -1) hx hb dX5_firstFault_5 (by decide +kernel) ?_
  refine lv_icmp_eq (tgt := 11) hx hb dX5_firstFault_6 (by decide) (fun c5 => ?_) (fun c5 => ?_)
  · have _u := trivial
    refine lv_aload_n hx hb dX5_firstFault_11 rfl (lv_at hl 0 rfl) ?_
    refine x_ci (va_runV (As := []) (rest := []) ⟨hx, hb, hml, hown, hts⟩ (c_X5_bridgePlace l D cy loc w s.heap.size b f1 f2) (cwV 0 hts gX5_firstFault_X5_bridgePlace rfl rfl rfl (by decide +kernel) ⟨Nat.le_of_ble_eq_true rfl, Nat.le_of_ble_eq_true rfl⟩) (x_preV hK hV f1 rfl) rfl rfl hl.1 rfl (lv_room (Nat.le_of_ble_eq_true rfl)) dX5_firstFault_12 ⟨Nat.le_of_ble_eq_true rfl, Nat.le_of_ble_eq_true rfl⟩) (fun r6 hr7 => ?_)
    obtain rfl : r6 = xfv (xbc (xprs b)) := hr7
    refine lv_iconst (v := -1) hx hb dX5_firstFault_15 (by decide +kernel) ?_
    refine lv_icmp_eq (tgt := 21) hx hb dX5_firstFault_16 (by decide) (fun c8 => ?_) (fun c8 => ?_)
    · have _u := trivial
      refine lv_aload_n hx hb dX5_firstFault_21 rfl (lv_at hl 0 rfl) ?_
      refine x_ci (va_runV (As := []) (rest := []) ⟨hx, hb, hml, hown, hts⟩ (c_X5_rockPlace l D cy loc w s.heap.size b f1 f2) (cwV 0 hts gX5_firstFault_X5_rockPlace rfl rfl rfl (by decide +kernel) ⟨Nat.le_of_ble_eq_true rfl, Nat.le_of_ble_eq_true rfl⟩) (x_preV hK hV f1 rfl) rfl rfl hl.1 rfl (lv_room (Nat.le_of_ble_eq_true rfl)) dX5_firstFault_22 ⟨Nat.le_of_ble_eq_true rfl, Nat.le_of_ble_eq_true rfl⟩) (fun r9 hr10 => ?_)
      obtain rfl : r9 = xrock b := hr10
      refine lv_iconst (v := -1) hx hb dX5_firstFault_25 (by decide +kernel) ?_
      refine lv_icmp_eq (tgt := 33) hx hb dX5_firstFault_26 (by decide) (fun c11 => ?_) (fun c11 => ?_)
      · have _u := trivial
        refine lv_iconst (v := nI 0) hx hb dX5_firstFault_33 (by decide +kernel) ?_
        exact x_ri hx hb hr hlocks dX5_firstFault_34 (by show _ = _; rw [xfault]; first | rw [if_pos (xfv_nz (by assumption))] | rw [if_neg (xfv_z (Nat.le_trans (xff_le _ 9) (by decide)) (by assumption)), if_pos (xfv_nz (by assumption))] | rw [if_neg (xfv_z (Nat.le_trans (xff_le _ 9) (by decide)) (by assumption)), if_neg (xfv_z (Nat.le_trans (xbc_le _) (by decide)) (by assumption)), if_pos (by assumption)] | rw [if_neg (xfv_z (Nat.le_trans (xff_le _ 9) (by decide)) (by assumption)), if_neg (xfv_z (Nat.le_trans (xbc_le _) (by decide)) (by assumption)), if_neg (fun q => q (by assumption))])
      · have _u := trivial
        refine lv_iconst (v := nI 3) hx hb dX5_firstFault_29 (by decide +kernel) ?_
        refine lv_goto (tgt := 34) hx hb dX5_firstFault_30 (by decide) ?_
        exact x_ri hx hb hr hlocks dX5_firstFault_34 (by show _ = _; rw [xfault]; first | rw [if_pos (xfv_nz (by assumption))] | rw [if_neg (xfv_z (Nat.le_trans (xff_le _ 9) (by decide)) (by assumption)), if_pos (xfv_nz (by assumption))] | rw [if_neg (xfv_z (Nat.le_trans (xff_le _ 9) (by decide)) (by assumption)), if_neg (xfv_z (Nat.le_trans (xbc_le _) (by decide)) (by assumption)), if_pos (by assumption)] | rw [if_neg (xfv_z (Nat.le_trans (xff_le _ 9) (by decide)) (by assumption)), if_neg (xfv_z (Nat.le_trans (xbc_le _) (by decide)) (by assumption)), if_neg (fun q => q (by assumption))])
    · have _u := trivial
      refine lv_iconst (v := nI 2) hx hb dX5_firstFault_19 (by decide +kernel) ?_
      exact x_ri hx hb hr hlocks dX5_firstFault_20 (by show _ = _; rw [xfault]; first | rw [if_pos (xfv_nz (by assumption))] | rw [if_neg (xfv_z (Nat.le_trans (xff_le _ 9) (by decide)) (by assumption)), if_pos (xfv_nz (by assumption))] | rw [if_neg (xfv_z (Nat.le_trans (xff_le _ 9) (by decide)) (by assumption)), if_neg (xfv_z (Nat.le_trans (xbc_le _) (by decide)) (by assumption)), if_pos (by assumption)] | rw [if_neg (xfv_z (Nat.le_trans (xff_le _ 9) (by decide)) (by assumption)), if_neg (xfv_z (Nat.le_trans (xbc_le _) (by decide)) (by assumption)), if_neg (fun q => q (by assumption))])
  · have _u := trivial
    refine lv_iconst (v := nI 1) hx hb dX5_firstFault_9 (by decide +kernel) ?_
    exact x_ri hx hb hr hlocks dX5_firstFault_10 (by show _ = _; rw [xfault]; first | rw [if_pos (xfv_nz (by assumption))] | rw [if_neg (xfv_z (Nat.le_trans (xff_le _ 9) (by decide)) (by assumption)), if_pos (xfv_nz (by assumption))] | rw [if_neg (xfv_z (Nat.le_trans (xff_le _ 9) (by decide)) (by assumption)), if_neg (xfv_z (Nat.le_trans (xbc_le _) (by decide)) (by assumption)), if_pos (by assumption)] | rw [if_neg (xfv_z (Nat.le_trans (xff_le _ 9) (by decide)) (by assumption)), if_neg (xfv_z (Nat.le_trans (xbc_le _) (by decide)) (by assumption)), if_neg (fun q => q (by assumption))])
abbrev rm_X5_faultPlace : Room := { frames := 3, cells := 0, slots := 0, locals := 65 }
set_option maxHeartbeats 4000000 in
set_option maxRecDepth 100000 in
theorem c_X5_faultPlace (l : Launch) (D : va_G) (cy : Nat → ClassId) (loc : Nat → Nat) (w : xM) (sz : Nat) (b : Nat → Int32) (m0 : Int32) (f1 : w (8) = some (.inr (5, [.ref (loc (9)), .ref (loc (10))]))) (f2 : w (10) = some (eI cy 9 (b))) : Met l yX5_faultPlace wsX5_faultPlace rm_X5_faultPlace (va_Pc [.ref (loc (8)), .int (m0)] (xP D cy loc w sz)) (vp_Si (fun r => r = xplace b m0)) 0 0 (fun _ => False) := by
  refine x_met (cc := cX5_faultPlace) (maxL := 2) (ret := (some .int)) (C := RX5) (by decide) rfl rfl (Nat.le_of_ble_eq_true rfl) ?_
  intro p e s m below meth c ls hx hb hml hr hts hown hlocks hin hP hl
  obtain ⟨hsz, hV, hK⟩ := hP
  subst hsz
  have hl : lv_has ls 2 [(0, .ref (loc (8))), (1, .int (m0))] := hl
  refine lv_aload_n hx hb dX5_faultPlace_0 rfl (lv_at hl 0 rfl) ?_
  refine lv_iload_n hx hb dX5_faultPlace_1 rfl (lv_at hl 1 rfl) ?_
  refine x_ci (va_runV (As := [.int (m0)]) (rest := []) ⟨hx, hb, hml, hown, hts⟩ (c_X5_firstFault l D cy loc w s.heap.size b m0 f1 f2) (cwV 1 hts gX5_faultPlace_X5_firstFault rfl rfl rfl (by decide +kernel) ⟨Nat.le_of_ble_eq_true rfl, Nat.le_of_ble_eq_true rfl⟩) (x_preV hK hV f1 rfl) rfl rfl hl.1 rfl (lv_room (Nat.le_of_ble_eq_true rfl)) dX5_faultPlace_2 ⟨Nat.le_of_ble_eq_true rfl, Nat.le_of_ble_eq_true rfl⟩) (fun r3 hr4 => ?_)
  obtain rfl : r3 = nI (xfault b m0) := hr4
  have hs5 : nI (xfault b m0) = nI 0 ∨ nI (xfault b m0) = nI 1 ∨ nI (xfault b m0) = nI 2 ∨ nI (xfault b m0) = nI 3 := xfault_4 b m0
  rcases hs5 with hs5 | hs5 | hs5 | hs5
  · refine x_top (congrArg Value.int hs5) ?_
    refine lv_tableOut (tgt := 48) hx hb dX5_faultPlace_5 (by decide) (by decide) ?_
    refine lv_iconst (v := -1) hx hb dX5_faultPlace_48 (by decide +kernel) ?_
    exact x_ri hx hb hr hlocks dX5_faultPlace_49 (by show _ = _; exact xplace_of b m0 (by assumption) (by decide) rfl)
  · refine x_top (congrArg Value.int hs5) ?_
    refine lv_tableIn (tgt := 32) hx hb dX5_faultPlace_5 (by decide) (by decide) rfl (by decide) ?_
    refine lv_aload_n hx hb dX5_faultPlace_32 rfl (lv_at hl 0 rfl) ?_
    refine lv_iload_n hx hb dX5_faultPlace_33 rfl (lv_at hl 1 rfl) ?_
    refine x_ci (va_runV (As := [.int (m0)]) (rest := []) ⟨hx, hb, hml, hown, hts⟩ (c_X5_pressPlace l D cy loc w s.heap.size b m0 f1 f2) (cwV 1 hts gX5_faultPlace_X5_pressPlace rfl rfl rfl (by decide +kernel) ⟨Nat.le_of_ble_eq_true rfl, Nat.le_of_ble_eq_true rfl⟩) (x_preV hK hV f1 rfl) rfl rfl hl.1 rfl (lv_room (Nat.le_of_ble_eq_true rfl)) dX5_faultPlace_34 ⟨Nat.le_of_ble_eq_true rfl, Nat.le_of_ble_eq_true rfl⟩) (fun r6 hr7 => ?_)
    obtain rfl : r6 = xfv (xff (xovr b m0) 9) := hr7
    exact x_ri hx hb hr hlocks dX5_faultPlace_37 (by show _ = _; exact xplace_of b m0 (by assumption) (by decide) rfl)
  · refine x_top (congrArg Value.int hs5) ?_
    refine lv_tableIn (tgt := 38) hx hb dX5_faultPlace_5 (by decide) (by decide) rfl (by decide) ?_
    refine lv_aload_n hx hb dX5_faultPlace_38 rfl (lv_at hl 0 rfl) ?_
    refine x_ci (va_runV (As := []) (rest := []) ⟨hx, hb, hml, hown, hts⟩ (c_X5_bridgePlace l D cy loc w s.heap.size b f1 f2) (cwV 0 hts gX5_faultPlace_X5_bridgePlace rfl rfl rfl (by decide +kernel) ⟨Nat.le_of_ble_eq_true rfl, Nat.le_of_ble_eq_true rfl⟩) (x_preV hK hV f1 rfl) rfl rfl hl.1 rfl (lv_room (Nat.le_of_ble_eq_true rfl)) dX5_faultPlace_39 ⟨Nat.le_of_ble_eq_true rfl, Nat.le_of_ble_eq_true rfl⟩) (fun r8 hr9 => ?_)
    obtain rfl : r8 = xfv (xbc (xprs b)) := hr9
    exact x_ri hx hb hr hlocks dX5_faultPlace_42 (by show _ = _; exact xplace_of b m0 (by assumption) (by decide) rfl)
  · refine x_top (congrArg Value.int hs5) ?_
    refine lv_tableIn (tgt := 43) hx hb dX5_faultPlace_5 (by decide) (by decide) rfl (by decide) ?_
    refine lv_aload_n hx hb dX5_faultPlace_43 rfl (lv_at hl 0 rfl) ?_
    refine x_ci (va_runV (As := []) (rest := []) ⟨hx, hb, hml, hown, hts⟩ (c_X5_rockPlace l D cy loc w s.heap.size b f1 f2) (cwV 0 hts gX5_faultPlace_X5_rockPlace rfl rfl rfl (by decide +kernel) ⟨Nat.le_of_ble_eq_true rfl, Nat.le_of_ble_eq_true rfl⟩) (x_preV hK hV f1 rfl) rfl rfl hl.1 rfl (lv_room (Nat.le_of_ble_eq_true rfl)) dX5_faultPlace_44 ⟨Nat.le_of_ble_eq_true rfl, Nat.le_of_ble_eq_true rfl⟩) (fun r10 hr11 => ?_)
    obtain rfl : r10 = xrock b := hr11
    exact x_ri hx hb hr hlocks dX5_faultPlace_47 (by show _ = _; exact xplace_of b m0 (by assumption) (by decide) rfl)
abbrev rm_X5_most : Room := { frames := 1, cells := 0, slots := 0, locals := 22 }
theorem hi_X5_most_X5 : ∀ w ∈ wsX50, w ∈ wsX5_most := by decide +kernel
set_option maxHeartbeats 4000000 in
set_option maxRecDepth 100000 in
theorem c_X5_most (l : Launch) (D : va_G) (cy : Nat → ClassId) (loc : Nat → Nat) (w : xM) (sz : Nat) (b : Nat → Int32) (f1 : w (8) = some (.inr (5, [.ref (loc (9)), .ref (loc (10))]))) (f2 : w (10) = some (eI cy 9 (b))) : Met l yX5_most wsX5_most rm_X5_most (va_Pc [.ref (loc (8))] (xP D cy loc w sz)) (vp_Si (fun r => r = b (xtop b 8))) 0 0 (fun _ => False) := by
  refine x_met (cc := cX5_most) (maxL := 1) (ret := (some .int)) (C := RX5) (by decide) rfl rfl (Nat.le_of_ble_eq_true rfl) ?_
  intro p e s m below meth c ls hx hb hml hr hts hown hlocks hin hP hl
  obtain ⟨hsz, hV, hK⟩ := hP
  subst hsz
  have hl : lv_has ls 1 [(0, .ref (loc (8)))] := hl
  have ht8 := xtop_le b 8
  refine lv_aload_n hx hb dX5_most_0 rfl (lv_at hl 0 rfl) ?_
  refine x_get (C := RX5) (T := TX5) (N := 2) hx hb hts hi_X5_most_X5 hown hK hV f1 rfl 1 (by decide) (hts (.fieldLink RX5 15 "SaddleHouse$Seat" "borne" "[I") (by decide +kernel)) (fun _ h9 => h9) rfl dX5_most_1 ?_
  refine lv_aload_n hx hb dX5_most_4 rfl (lv_at hl 0 rfl) ?_
  refine x_ci (va_runV (As := []) (rest := [.ref (loc (10))]) ⟨hx, hb, hml, hown, hts⟩ (c_X5_firstOfMost l D cy loc w s.heap.size b f1 f2) (cwV 0 hts gX5_most_X5_firstOfMost rfl rfl rfl (by decide +kernel) ⟨Nat.le_of_ble_eq_true rfl, Nat.le_of_ble_eq_true rfl⟩) (x_preV hK hV f1 rfl) rfl rfl hl.1 rfl (lv_room (Nat.le_of_ble_eq_true rfl)) dX5_most_5 ⟨Nat.le_of_ble_eq_true rfl, Nat.le_of_ble_eq_true rfl⟩) (fun r3 hr4 => ?_)
  obtain rfl : r3 = nI (xtop b 8) := hr4
  refine x_iald hx hb hK hV f2 (xtop b 8) (by omega) (by decide) dX5_most_8 ?_
  exact x_ri hx hb hr hlocks dX5_most_9 (rfl)
abbrev rm_X5_pressedCount : Room := { frames := 1, cells := 0, slots := 0, locals := 24 }
set_option maxHeartbeats 4000000 in
set_option maxRecDepth 100000 in
theorem c_X5_pressedCount (l : Launch) (D : va_G) (cy : Nat → ClassId) (loc : Nat → Nat) (w : xM) (sz : Nat) (b : Nat → Int32) (f1 : w (8) = some (.inr (5, [.ref (loc (9)), .ref (loc (10))]))) (f2 : w (10) = some (eI cy 9 (b))) : Met l yX5_pressedCount wsX5_pressedCount rm_X5_pressedCount (va_Pc [.ref (loc (8))] (xP D cy loc w sz)) (vp_Si (fun r => r = nI (xcnt b 0 9))) 0 0 (fun _ => False) := by
  refine x_met (cc := cX5_pressedCount) (maxL := 1) (ret := (some .int)) (C := RX5) (by decide) rfl rfl (Nat.le_of_ble_eq_true rfl) ?_
  intro p e s m below meth c ls hx hb hml hr hts hown hlocks hin hP hl
  obtain ⟨hsz, hV, hK⟩ := hP
  subst hsz
  have hl : lv_has ls 1 [(0, .ref (loc (8)))] := hl
  refine lv_aload_n hx hb dX5_pressedCount_0 rfl (lv_at hl 0 rfl) ?_
  refine lv_iconst (v := nI 0) hx hb dX5_pressedCount_1 (by decide +kernel) ?_
  refine lv_bipush (v := nI 8) hx hb dX5_pressedCount_2 (by decide +kernel) ?_
  refine x_ci (va_runV (As := [.int (nI (0)), .int (nI (8))]) (rest := []) ⟨hx, hb, hml, hown, hts⟩ (c_X5_pressedFrom l D cy loc w s.heap.size b 0 8 (by decide) (by decide) f1 f2) (cwV 2 hts gX5_pressedCount_X5_pressedFrom rfl rfl rfl (by decide +kernel) ⟨Nat.le_of_ble_eq_true rfl, Nat.le_of_ble_eq_true rfl⟩) (x_preV hK hV f1 rfl) rfl rfl hl.1 rfl (lv_room (Nat.le_of_ble_eq_true rfl)) dX5_pressedCount_4 ⟨Nat.le_of_ble_eq_true rfl, Nat.le_of_ble_eq_true rfl⟩) (fun r3 hr4 => ?_)
  obtain rfl : r3 = nI (xcnt b 0 (8 + 1 - 0)) := hr4
  exact x_ri hx hb hr hlocks dX5_pressedCount_7 (rfl)
abbrev rm_X5_borneAt : Room := { frames := 1, cells := 0, slots := 0, locals := 21 }
theorem hi_X5_borneAt_X5 : ∀ w ∈ wsX50, w ∈ wsX5_borneAt := by decide +kernel
set_option maxHeartbeats 4000000 in
set_option maxRecDepth 100000 in
theorem c_X5_borneAt (l : Launch) (D : va_G) (cy : Nat → ClassId) (loc : Nat → Nat) (w : xM) (sz : Nat) (g : Nat → Int32) (G : Nat → Nat) (hg : ∀ i, i < 9 → g i = nI (G i)) (hG1 : ∀ i, i < 9 → G i ≤ 1000) (T : Nat) (hT : T ≤ 3000) (f1 : w (8) = some (.inr (5, [.ref (loc (9)), .ref (loc (10))]))) (f2 : w (9) = some (eI cy 9 (g))) : Met l yX5_borneAt wsX5_borneAt rm_X5_borneAt (va_Pc [.ref (loc (8)), .int (nI (T))] (xP D cy loc w sz)) (vp_Si (fun r => r = nI (xsm G T 9))) 0 0 (fun _ => False) := by
  refine x_met (cc := cX5_borneAt) (maxL := 4) (ret := (some .int)) (C := RX5) (by decide) rfl rfl (Nat.le_of_ble_eq_true rfl) ?_
  intro p e s m below meth c ls hx hb hml hr hts hown hlocks hin hP hl
  obtain ⟨hsz, hV, hK⟩ := hP
  subst hsz
  have hl : lv_has ls 4 [(0, .ref (loc (8))), (1, .int (nI (T)))] := hl
  refine lv_iconst (v := nI 0) hx hb dX5_borneAt_0 (by decide +kernel) ?_
  refine lv_istore_n (lv' := [(2, .int (nI (0))), (0, .ref (loc (8))), (1, .int (nI (T)))]) hx hb dX5_borneAt_1 rfl hl (by decide) rfl (fun ls hl => ?_)
  refine lv_iconst (v := nI 0) hx hb dX5_borneAt_2 (by decide +kernel) ?_
  refine lv_istore_n (lv' := [(3, .int (nI (0))), (2, .int (nI (0))), (0, .ref (loc (8))), (1, .int (nI (T)))]) hx hb dX5_borneAt_3 rfl hl (by decide) rfl (fun ls hl => ?_)
  have lp4_3 : ∀ (fuel4 : Nat) (k : Nat) (i : Nat) (ls : Array Slot), 9 - i < fuel4 → (i ≤ 9) → (k = xsm G T i) → lv_has ls 4 [(3, .int (nI (i))), (2, .int (nI (k))), (0, .ref (loc (8))), (1, .int (nI (T)))] → W p l e rm_X5_borneAt s m ([.ref (loc (8)), .int (nI (T))] : List Value).toArray below meth c s.heap [] 0 0 (MQ below (vp_Si (fun r => r = nI (xsm G T 9))) ([.ref (loc (8)), .int (nI (T))] : List Value).toArray s 0 0 (fun _ => False)) (F0 m 4 ls []) := by
    intro fuel4
    induction fuel4 with
    | zero => intro k i ls hm5; exact absurd hm5 (Nat.not_lt_zero _)
    | succ fuel4 ih6 =>
      intro k i ls hm5 h2 hk  hl
      refine lv_iload_n hx hb dX5_borneAt_4 rfl (lv_at hl 0 rfl) ?_
      refine lv_bipush (v := nI 9) hx hb dX5_borneAt_5 (by decide +kernel) ?_
      refine x_cge hx hb (i) (9) (by omega) (by omega) (tgt := 31) dX5_borneAt_7 (by decide) (fun c7 => ?_) (fun c7 => ?_)
      · have _u := trivial
        refine lv_iload_n hx hb dX5_borneAt_31 rfl (lv_at hl 1 rfl) ?_
        exact x_ri hx hb hr hlocks dX5_borneAt_32 (by show _ = _; have e : i = 9 := (by omega); subst e; rw [hk])
      · have _u := trivial
        refine lv_iload_n hx hb dX5_borneAt_10 rfl (lv_at hl 1 rfl) ?_
        refine lv_iconst (v := nI 0) hx hb dX5_borneAt_11 (by decide +kernel) ?_
        refine lv_iload_n hx hb dX5_borneAt_12 rfl (lv_at hl 3 rfl) ?_
        refine lv_aload_n hx hb dX5_borneAt_13 rfl (lv_at hl 2 rfl) ?_
        refine x_get (C := RX5) (T := TX5) (N := 2) hx hb hts hi_X5_borneAt_X5 hown hK hV f1 rfl 0 (by decide) (hts (.fieldLink RX5 9 "SaddleHouse$Seat" "gaps" "[I") (by decide +kernel)) (fun _ h9 => h9) rfl dX5_borneAt_14 ?_
        refine lv_iload_n hx hb dX5_borneAt_17 rfl (lv_at hl 0 rfl) ?_
        refine x_iald hx hb hK hV f2 (i) (by omega) (by decide) dX5_borneAt_18 ?_
        refine x_top (congrArg Value.int (show _ = nI (G (i)) from hg i (by omega))) ?_
        refine lv_isub hx hb dX5_borneAt_19 ?_
        refine va_mmax hx hb (by rw [hml]; exact hl.1.symm) hown (hts (.methodLink RX5 26 Lib.Math.max.name) (by decide +kernel)) (hts (.static Lib.Math.max.name) (by decide +kernel)) (hts (.initialized "java/lang/Math") (by decide +kernel)) (hts (.code Lib.Math.max.name Lib.Math.max.code 2 (some .int)) (by decide +kernel)) (Nat.le_of_ble_eq_true rfl) (Nat.le_of_ble_eq_true rfl) (Nat.zero_le _) (Nat.zero_le _) dX5_borneAt_20 ?_
        refine x_top (congrArg Value.int (show _ = nI (T - G i) from x_max0 (by omega) (by have := hG1 i (by omega); omega))) ?_
        refine x_iadd hx hb (k) (T - G i) dX5_borneAt_23 ?_
        refine lv_istore_n (lv' := [(2, .int (nI (k + (T - G i)))), (3, .int (nI (i))), (0, .ref (loc (8))), (1, .int (nI (T)))]) hx hb dX5_borneAt_24 rfl hl (by decide) rfl (fun ls hl => ?_)
        refine lv_iinc (v := nI (i + 1)) (lv' := [(3, .int (nI (i + 1))), (2, .int (nI (k + (T - G i)))), (0, .ref (loc (8))), (1, .int (nI (T)))]) hx hb dX5_borneAt_25 hl (k := 1) rfl (nI_add _ _) (by decide) rfl (fun ls hl => ?_)
        refine lv_goto (tgt := 4) hx hb dX5_borneAt_28 (by decide) ?_
        exact ih6 (k + (T - G i)) (i + 1) ls (by omega) (by omega) (by rw [xsm, hk]) (lv_sub hl [0, 1, 2, 3] rfl)
  exact lp4_3 (9 + 1) 0 0 ls (by omega) (by omega) rfl (lv_sub hl [0, 1, 2, 3] rfl)
abbrev rm_X5_depthFor : Room := { frames := 2, cells := 0, slots := 0, locals := 44 }
set_option maxHeartbeats 4000000 in
set_option maxRecDepth 100000 in
theorem c_X5_depthFor (l : Launch) (D : va_G) (cy : Nat → ClassId) (loc : Nat → Nat) (w : xM) (sz : Nat) (g : Nat → Int32) (G : Nat → Nat) (hg : ∀ i, i < 9 → g i = nI (G i)) (hG1 : ∀ i, i < 9 → G i ≤ 1000) (hG0 : ∃ i, i < 9 ∧ G i = 0) (load : Nat) (hl1 : 1 ≤ load) (hl2 : load ≤ 2000) (f1 : w (8) = some (.inr (5, [.ref (loc (9)), .ref (loc (10))]))) (f2 : w (9) = some (eI cy 9 (g))) : Met l yX5_depthFor wsX5_depthFor rm_X5_depthFor (va_Pc [.ref (loc (8)), .int (nI (load))] (xP D cy loc w sz)) (vp_Si (fun r => r = nI (xdepth G load))) 0 0 (fun _ => False) := by
  refine x_met (cc := cX5_depthFor) (maxL := 4) (ret := (some .int)) (C := RX5) (by decide) rfl rfl (Nat.le_of_ble_eq_true rfl) ?_
  intro p e s m below meth c ls hx hb hml hr hts hown hlocks hin hP hl
  obtain ⟨hsz, hV, hK⟩ := hP
  subst hsz
  have hl : lv_has ls 4 [(0, .ref (loc (8))), (1, .int (nI (load)))] := hl
  obtain ⟨i0, hi0, hz0⟩ := hG0
  refine lv_iconst (v := nI 0) hx hb dX5_depthFor_0 (by decide +kernel) ?_
  refine lv_istore_n (lv' := [(2, .int (nI (0))), (0, .ref (loc (8))), (1, .int (nI (load)))]) hx hb dX5_depthFor_1 rfl hl (by decide) rfl (fun ls hl => ?_)
  refine lv_sipush (v := nI 1024) hx hb dX5_depthFor_2 (by decide +kernel) ?_
  refine lv_istore_n (lv' := [(3, .int (nI (1024))), (2, .int (nI (0))), (0, .ref (loc (8))), (1, .int (nI (load)))]) hx hb dX5_depthFor_5 rfl hl (by decide) rfl (fun ls hl => ?_)
  have lp6_3 : ∀ (fuel4 : Nat) (tl : Nat) (st : Nat) (ls : Array Slot), st < fuel4 → (st = 1024 ∨ st = 512 ∨ st = 256 ∨ st = 128 ∨ st = 64 ∨ st = 32 ∨ st = 16 ∨ st = 8 ∨ st = 4 ∨ st = 2 ∨ st = 1 ∨ st = 0) → (tl + 2 * st ≤ 2048) → (xsm G tl 9 < load) → (st = 0 → load ≤ xsm G (tl + 1) 9) → (load ≤ xsm G (tl + 2 * st) 9 ∨ st = 0) → lv_has ls 4 [(3, .int (nI (st))), (2, .int (nI (tl))), (0, .ref (loc (8))), (1, .int (nI (load)))] → W p l e rm_X5_depthFor s m ([.ref (loc (8)), .int (nI (load))] : List Value).toArray below meth c s.heap [] 0 0 (MQ below (vp_Si (fun r => r = nI (xdepth G load))) ([.ref (loc (8)), .int (nI (load))] : List Value).toArray s 0 0 (fun _ => False)) (F0 m 6 ls []) := by
    intro fuel4
    induction fuel4 with
    | zero => intro tl st ls hm5; exact absurd hm5 (Nat.not_lt_zero _)
    | succ fuel4 ih6 =>
      intro tl st ls hm5 h1 h2 h3 h4 h5  hl
      refine lv_iload_n hx hb dX5_depthFor_6 rfl (lv_at hl 0 rfl) ?_
      refine lv_if_le (tgt := 32) hx hb dX5_depthFor_7 (by decide) (fun c7 => ?_) (fun c7 => ?_)
      · have _u := trivial
        have c7 : st = 0 := nI_le0 (by omega) c7
        refine lv_iload_n hx hb dX5_depthFor_32 rfl (lv_at hl 1 rfl) ?_
        refine lv_iconst (v := nI 1) hx hb dX5_depthFor_33 (by decide +kernel) ?_
        refine x_iadd hx hb (tl) (1) dX5_depthFor_34 ?_
        exact x_ri hx hb hr hlocks dX5_depthFor_35 (by show _ = _; rw [xdepth_of h3 (h4 (by assumption)) (by omega)])
      · have _u := trivial
        have c7 : st ≠ 0 := fun q => c7 (by rw [q]; decide)
        refine lv_aload_n hx hb dX5_depthFor_10 rfl (lv_at hl 2 rfl) ?_
        refine lv_iload_n hx hb dX5_depthFor_11 rfl (lv_at hl 1 rfl) ?_
        refine lv_iload_n hx hb dX5_depthFor_12 rfl (lv_at hl 0 rfl) ?_
        refine x_iadd hx hb (tl) (st) dX5_depthFor_13 ?_
        refine x_ci (va_runV (As := [.int (nI (tl + st))]) (rest := []) ⟨hx, hb, hml, hown, hts⟩ (c_X5_borneAt l D cy loc w s.heap.size g G hg hG1 (tl + st) (by omega) f1 f2) (cwV 1 hts gX5_depthFor_X5_borneAt rfl rfl rfl (by decide +kernel) ⟨Nat.le_of_ble_eq_true rfl, Nat.le_of_ble_eq_true rfl⟩) (x_preV hK hV f1 rfl) rfl rfl hl.1 rfl (lv_room (Nat.le_of_ble_eq_true rfl)) dX5_depthFor_14 ⟨Nat.le_of_ble_eq_true rfl, Nat.le_of_ble_eq_true rfl⟩) (fun r8 hr9 => ?_)
        obtain rfl : r8 = nI (xsm G (tl + st) 9) := hr9
        refine lv_iload_n hx hb dX5_depthFor_17 rfl (lv_at hl 3 rfl) ?_
        refine x_cge hx hb (xsm G (tl + st) 9) (load) (by have := xsm_le (G := G) (tl + st) 9; omega) (by have := xsm_le (G := G) (tl + st) 9; omega) (tgt := 25) dX5_depthFor_18 (by decide) (fun c10 => ?_) (fun c10 => ?_)
        · have _u := trivial
          refine lv_iload_n hx hb dX5_depthFor_25 rfl (lv_at hl 0 rfl) ?_
          refine lv_iconst (v := nI 2) hx hb dX5_depthFor_26 (by decide +kernel) ?_
          refine x_idiv hx hb (st) (2) (by omega) (by omega) (by omega) dX5_depthFor_27 ?_
          refine lv_istore_n (lv' := [(3, .int (nI (st / 2))), (2, .int (nI (tl))), (0, .ref (loc (8))), (1, .int (nI (load)))]) hx hb dX5_depthFor_28 rfl hl (by decide) rfl (fun ls hl => ?_)
          refine lv_goto (tgt := 6) hx hb dX5_depthFor_29 (by decide) ?_
          exact ih6 tl (st / 2) ls (by omega) (by omega) (by omega) (by assumption) (xdp_h4 h1 h5 (by assumption) (by first | exact Or.inl ⟨by assumption, rfl⟩ | exact Or.inr ⟨by assumption, rfl⟩)) (xdp_h5 h1 h5 (by assumption) (by first | exact Or.inl ⟨by assumption, rfl⟩ | exact Or.inr ⟨by assumption, rfl⟩)) (lv_sub hl [0, 1, 2, 3] rfl)
        · have _u := trivial
          refine lv_iload_n hx hb dX5_depthFor_21 rfl (lv_at hl 1 rfl) ?_
          refine lv_iload_n hx hb dX5_depthFor_22 rfl (lv_at hl 0 rfl) ?_
          refine x_iadd hx hb (tl) (st) dX5_depthFor_23 ?_
          refine lv_istore_n (lv' := [(2, .int (nI (tl + st))), (3, .int (nI (st))), (0, .ref (loc (8))), (1, .int (nI (load)))]) hx hb dX5_depthFor_24 rfl hl (by decide) rfl (fun ls hl => ?_)
          refine lv_iload_n hx hb dX5_depthFor_25 rfl (lv_at hl 1 rfl) ?_
          refine lv_iconst (v := nI 2) hx hb dX5_depthFor_26 (by decide +kernel) ?_
          refine x_idiv hx hb (st) (2) (by omega) (by omega) (by omega) dX5_depthFor_27 ?_
          refine lv_istore_n (lv' := [(3, .int (nI (st / 2))), (2, .int (nI (tl + st))), (0, .ref (loc (8))), (1, .int (nI (load)))]) hx hb dX5_depthFor_28 rfl hl (by decide) rfl (fun ls hl => ?_)
          refine lv_goto (tgt := 6) hx hb dX5_depthFor_29 (by decide) ?_
          exact ih6 (tl + st) (st / 2) ls (by omega) (by omega) (by omega) (by assumption) (xdp_h4 h1 h5 (by assumption) (by first | exact Or.inl ⟨by assumption, rfl⟩ | exact Or.inr ⟨by assumption, rfl⟩)) (xdp_h5 h1 h5 (by assumption) (by first | exact Or.inl ⟨by assumption, rfl⟩ | exact Or.inr ⟨by assumption, rfl⟩)) (lv_sub hl [0, 1, 2, 3] rfl)
  exact lp6_3 (1024 + 1) 0 1024 ls (by omega) (Or.inl rfl) (by omega) (by rw [xsm_0]; omega) (fun h => absurd h (by decide)) (Or.inl (Nat.le_trans (by omega) (xsm_ge hz0 9 hi0))) (lv_sub hl [0, 1, 2, 3] rfl)
