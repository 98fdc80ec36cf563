abbrev rm_X5_pressPlace : Room := { frames := 0, cells := 0, slots := 0, locals := 0 }
theorem hi_X5_pressPlace_X5 : ∀ w ∈ wsX50, w ∈ wsX5_pressPlace := by decide +kernel
set_option maxHeartbeats 4000000 in
set_option maxRecDepth 100000 in
theorem c_X5_pressPlace (l : Launch) (D : va_G) (cy : Nat → ClassId) (loc : Nat → Nat) (w : xM) (sz : Nat) (b : Nat → Int32) (m0 : Int32) (f1 : w (8) = some (.inr (5, [.ref (loc (9)), .ref (loc (10))]))) (f2 : w (10) = some (eI cy 9 (b))) : Met l yX5_pressPlace wsX5_pressPlace rm_X5_pressPlace (va_Pc [.ref (loc (8)), .int (m0)] (xP D cy loc w sz)) (vp_Si (fun r => r = xfv (xff (xovr b m0) 9))) 0 0 (fun _ => False) := by
  refine x_met (cc := cX5_pressPlace) (maxL := 3) (ret := (some .int)) (C := RX5) (by decide) rfl rfl (Nat.le_of_ble_eq_true rfl) ?_
  intro p e s m below meth c ls hx hb hml hr hts hown hlocks hin hP hl
  obtain ⟨hsz, hV, hK⟩ := hP
  subst hsz
  have hl : lv_has ls 3 [(0, .ref (loc (8))), (1, .int (m0))] := hl
  refine lv_iconst (v := nI 0) hx hb dX5_pressPlace_0 (by decide +kernel) ?_
  refine lv_istore_n (lv' := [(2, .int (nI (0))), (0, .ref (loc (8))), (1, .int (m0))]) hx hb dX5_pressPlace_1 rfl hl (by decide) rfl (fun ls hl => ?_)
  have lp2_3 : ∀ (fuel4 : Nat) (i : Nat) (ls : Array Slot), 9 - i < fuel4 → (i ≤ 9) → (xff (xovr b m0) i = 0) → lv_has ls 3 [(2, .int (nI (i))), (0, .ref (loc (8))), (1, .int (m0))] → W p l e rm_X5_pressPlace s m ([.ref (loc (8)), .int (m0)] : List Value).toArray below meth c s.heap [] 0 0 (MQ below (vp_Si (fun r => r = xfv (xff (xovr b m0) 9))) ([.ref (loc (8)), .int (m0)] : List Value).toArray s 0 0 (fun _ => False)) (F0 m 2 ls []) := by
    intro fuel4
    induction fuel4 with
    | zero => intro i ls hm5; exact absurd hm5 (Nat.not_lt_zero _)
    | succ fuel4 ih6 =>
      intro i ls hm5 h2 h3  hl
      refine lv_iload_n hx hb dX5_pressPlace_2 rfl (lv_at hl 0 rfl) ?_
      refine lv_bipush (v := nI 9) hx hb dX5_pressPlace_3 (by decide +kernel) ?_
      refine x_cge hx hb (i) (9) (by omega) (by omega) (tgt := 26) dX5_pressPlace_5 (by decide) (fun c7 => ?_) (fun c7 => ?_)
      · have _u := trivial
        refine lv_iconst (v := -1) hx hb dX5_pressPlace_26 (by decide +kernel) ?_
        exact x_ri hx hb hr hlocks dX5_pressPlace_27 (by show _ = _; have e : i = 9 := (by omega); subst e; rw [h3]; rfl)
      · have _u := trivial
        refine lv_aload_n hx hb dX5_pressPlace_8 rfl (lv_at hl 1 rfl) ?_
        refine x_get (C := RX5) (T := TX5) (N := 2) hx hb hts hi_X5_pressPlace_X5 hown hK hV f1 rfl 1 (by decide) (hts (.fieldLink RX5 15 "SaddleHouse$Seat" "borne" "[I") (by decide +kernel)) (fun _ h9 => h9) rfl dX5_pressPlace_9 ?_
        refine lv_iload_n hx hb dX5_pressPlace_12 rfl (lv_at hl 0 rfl) ?_
        refine x_iald hx hb hK hV f2 (i) (by omega) (by decide) dX5_pressPlace_13 ?_
        refine lv_iload_n hx hb dX5_pressPlace_14 rfl (lv_at hl 2 rfl) ?_
        refine lv_icmp_le (tgt := 20) hx hb dX5_pressPlace_15 (by decide) (fun c8 => ?_) (fun c8 => ?_)
        · have _u := trivial
          refine lv_iinc (v := nI (i + 1)) (lv' := [(2, .int (nI (i + 1))), (0, .ref (loc (8))), (1, .int (m0))]) hx hb dX5_pressPlace_20 hl (k := 0) rfl (nI_add _ _) (by decide) rfl (fun ls hl => ?_)
          refine lv_goto (tgt := 2) hx hb dX5_pressPlace_23 (by decide) ?_
          exact ih6 (i + 1) ls (by omega) (by omega) (xff_miss h3 (Int32.not_lt.mpr (by assumption))) (lv_sub hl [0, 1, 2] rfl)
        · have _u := trivial
          refine lv_iload_n hx hb dX5_pressPlace_18 rfl (lv_at hl 0 rfl) ?_
          exact x_ri hx hb hr hlocks dX5_pressPlace_19 (by show _ = _; rw [xff_hit h3 (Int32.not_le.mp (by assumption)) (by omega), xfv_s])
  exact lp2_3 (9 + 1) 0 ls (by omega) (by omega) rfl (lv_sub hl [0, 1, 2] rfl)
abbrev rm_X5_bridgePlace : Room := { frames := 0, cells := 0, slots := 0, locals := 0 }
theorem hi_X5_bridgePlace_X5 : ∀ w ∈ wsX50, w ∈ wsX5_bridgePlace := by decide +kernel
set_option maxHeartbeats 4000000 in
set_option maxRecDepth 100000 in
theorem c_X5_bridgePlace (l : Launch) (D : va_G) (cy : Nat → ClassId) (loc : Nat → Nat) (w : xM) (sz : Nat) (b : Nat → Int32) (f1 : w (8) = some (.inr (5, [.ref (loc (9)), .ref (loc (10))]))) (f2 : w (10) = some (eI cy 9 (b))) : Met l yX5_bridgePlace wsX5_bridgePlace rm_X5_bridgePlace (va_Pc [.ref (loc (8))] (xP D cy loc w sz)) (vp_Si (fun r => r = xfv (xbc (xprs b)))) 0 0 (fun _ => False) := by
  refine x_met (cc := cX5_bridgePlace) (maxL := 3) (ret := (some .int)) (C := RX5) (by decide) rfl rfl (Nat.le_of_ble_eq_true rfl) ?_
  intro p e s m below meth c ls hx hb hml hr hts hown hlocks hin hP hl
  obtain ⟨hsz, hV, hK⟩ := hP
  subst hsz
  have hl : lv_has ls 3 [(0, .ref (loc (8)))] := hl
  refine lv_iconst (v := -1) hx hb dX5_bridgePlace_0 (by decide +kernel) ?_
  refine lv_istore_n (lv' := [(1, .int ((-1))), (0, .ref (loc (8)))]) hx hb dX5_bridgePlace_1 rfl hl (by decide) rfl (fun ls hl => ?_)
  refine lv_iconst (v := nI 0) hx hb dX5_bridgePlace_2 (by decide +kernel) ?_
  refine lv_istore_n (lv' := [(2, .int (nI (0))), (1, .int ((-1))), (0, .ref (loc (8)))]) hx hb dX5_bridgePlace_3 rfl hl (by decide) rfl (fun ls hl => ?_)
  have lp4_3 : ∀ (fuel4 : Nat) (lp : Int32) (i : Nat) (ls : Array Slot), 9 - i < fuel4 → (i ≤ 9) → (xff (xbq (xprs b)) i = 0) → (lp = xfv (xlp (xprs b) i)) → lv_has ls 3 [(2, .int (nI (i))), (1, .int (lp)), (0, .ref (loc (8)))] → W p l e rm_X5_bridgePlace s m ([.ref (loc (8))] : List Value).toArray below meth c s.heap [] 0 0 (MQ below (vp_Si (fun r => r = xfv (xbc (xprs b)))) ([.ref (loc (8))] : List Value).toArray s 0 0 (fun _ => False)) (F0 m 4 ls []) := by
    intro fuel4
    induction fuel4 with
    | zero => intro lp i ls hm5; exact absurd hm5 (Nat.not_lt_zero _)
    | succ fuel4 ih6 =>
      intro lp i ls hm5 h2 h3 h4  hl
      refine lv_iload_n hx hb dX5_bridgePlace_4 rfl (lv_at hl 0 rfl) ?_
      refine lv_bipush (v := nI 9) hx hb dX5_bridgePlace_5 (by decide +kernel) ?_
      refine x_cge hx hb (i) (9) (by omega) (by omega) (tgt := 43) dX5_bridgePlace_7 (by decide) (fun c7 => ?_) (fun c7 => ?_)
      · have _u := trivial
        refine lv_iconst (v := -1) hx hb dX5_bridgePlace_43 (by decide +kernel) ?_
        exact x_ri hx hb hr hlocks dX5_bridgePlace_44 (by show _ = _; have e : i = 9 := (by omega); subst e; rw [xbc, h3]; rfl)
      · have _u := trivial
        refine lv_aload_n hx hb dX5_bridgePlace_10 rfl (lv_at hl 2 rfl) ?_
        refine x_get (C := RX5) (T := TX5) (N := 2) hx hb hts hi_X5_bridgePlace_X5 hown hK hV f1 rfl 1 (by decide) (hts (.fieldLink RX5 15 "SaddleHouse$Seat" "borne" "[I") (by decide +kernel)) (fun _ h9 => h9) rfl dX5_bridgePlace_11 ?_
        refine lv_iload_n hx hb dX5_bridgePlace_14 rfl (lv_at hl 0 rfl) ?_
        refine x_iald hx hb hK hV f2 (i) (by omega) (by decide) dX5_bridgePlace_15 ?_
        refine lv_if_le (tgt := 37) hx hb dX5_bridgePlace_16 (by decide) (fun c8 => ?_) (fun c8 => ?_)
        · have _u := trivial
          refine lv_iinc (v := nI (i + 1)) (lv' := [(2, .int (nI (i + 1))), (1, .int (lp)), (0, .ref (loc (8)))]) hx hb dX5_bridgePlace_37 hl (k := 0) rfl (nI_add _ _) (by decide) rfl (fun ls hl => ?_)
          refine lv_goto (tgt := 4) hx hb dX5_bridgePlace_40 (by decide) ?_
          exact ih6 lp (i + 1) ls (by omega) (by omega) (by first | exact xff_miss h3 (fun q => absurd q.1 (Int32.not_lt.mpr (by assumption))) | exact xff_miss h3 (xlp_not (by omega) h4 (Or.inl (by assumption))) | exact xff_miss h3 (xlp_not (by omega) h4 (Or.inr (by assumption)))) (by rw [xlp]; first | (rw [if_neg (Int32.not_lt.mpr (by assumption))]; exact h4) | rw [if_pos (Int32.not_le.mp (by assumption)), xfv_s]) (lv_sub hl [0, 1, 2] rfl)
        · have _u := trivial
          refine lv_iload_n hx hb dX5_bridgePlace_19 rfl (lv_at hl 1 rfl) ?_
          refine lv_iconst (v := -1) hx hb dX5_bridgePlace_20 (by decide +kernel) ?_
          refine lv_icmp_eq (tgt := 35) hx hb dX5_bridgePlace_21 (by decide) (fun c9 => ?_) (fun c9 => ?_)
          · have _u := trivial
            refine lv_iload_n hx hb dX5_bridgePlace_35 rfl (lv_at hl 0 rfl) ?_
            refine lv_istore_n (lv' := [(1, .int (nI (i))), (2, .int (nI (i))), (0, .ref (loc (8)))]) hx hb dX5_bridgePlace_36 rfl hl (by decide) rfl (fun ls hl => ?_)
            refine lv_iinc (v := nI (i + 1)) (lv' := [(2, .int (nI (i + 1))), (1, .int (nI (i))), (0, .ref (loc (8)))]) hx hb dX5_bridgePlace_37 hl (k := 1) rfl (nI_add _ _) (by decide) rfl (fun ls hl => ?_)
            refine lv_goto (tgt := 4) hx hb dX5_bridgePlace_40 (by decide) ?_
            exact ih6 (nI i) (i + 1) ls (by omega) (by omega) (by first | exact xff_miss h3 (fun q => absurd q.1 (Int32.not_lt.mpr (by assumption))) | exact xff_miss h3 (xlp_not (by omega) h4 (Or.inl (by assumption))) | exact xff_miss h3 (xlp_not (by omega) h4 (Or.inr (by assumption)))) (by rw [xlp]; first | (rw [if_neg (Int32.not_lt.mpr (by assumption))]; exact h4) | rw [if_pos (Int32.not_le.mp (by assumption)), xfv_s]) (lv_sub hl [0, 1, 2] rfl)
          · have _u := trivial
            refine lv_iload_n hx hb dX5_bridgePlace_24 rfl (lv_at hl 0 rfl) ?_
            refine lv_iload_n hx hb dX5_bridgePlace_25 rfl (lv_at hl 1 rfl) ?_
            refine lv_isub hx hb dX5_bridgePlace_26 ?_
            refine lv_iconst (v := nI 3) hx hb dX5_bridgePlace_27 (by decide +kernel) ?_
            refine lv_icmp_le (tgt := 35) hx hb dX5_bridgePlace_28 (by decide) (fun c10 => ?_) (fun c10 => ?_)
            · have _u := trivial
              refine lv_iload_n hx hb dX5_bridgePlace_35 rfl (lv_at hl 0 rfl) ?_
              refine lv_istore_n (lv' := [(1, .int (nI (i))), (2, .int (nI (i))), (0, .ref (loc (8)))]) hx hb dX5_bridgePlace_36 rfl hl (by decide) rfl (fun ls hl => ?_)
              refine lv_iinc (v := nI (i + 1)) (lv' := [(2, .int (nI (i + 1))), (1, .int (nI (i))), (0, .ref (loc (8)))]) hx hb dX5_bridgePlace_37 hl (k := 1) rfl (nI_add _ _) (by decide) rfl (fun ls hl => ?_)
              refine lv_goto (tgt := 4) hx hb dX5_bridgePlace_40 (by decide) ?_
              exact ih6 (nI i) (i + 1) ls (by omega) (by omega) (by first | exact xff_miss h3 (fun q => absurd q.1 (Int32.not_lt.mpr (by assumption))) | exact xff_miss h3 (xlp_not (by omega) h4 (Or.inl (by assumption))) | exact xff_miss h3 (xlp_not (by omega) h4 (Or.inr (by assumption)))) (by rw [xlp]; first | (rw [if_neg (Int32.not_lt.mpr (by assumption))]; exact h4) | rw [if_pos (Int32.not_le.mp (by assumption)), xfv_s]) (lv_sub hl [0, 1, 2] rfl)
            · have _u := trivial
              refine lv_iload_n hx hb dX5_bridgePlace_31 rfl (lv_at hl 1 rfl) ?_
              refine lv_iconst (v := nI 1) hx hb dX5_bridgePlace_32 (by decide +kernel) ?_
              refine lv_iadd hx hb dX5_bridgePlace_33 ?_
              exact x_ri hx hb hr hlocks dX5_bridgePlace_34 (by show _ = _; obtain ⟨z1, z2, z3⟩ := xlp_val (by omega) h4 (by assumption) (Int32.not_le.mp (by assumption)); rw [z3, xbc_hit h3 ⟨Int32.not_le.mp (by assumption), z1, z2⟩ (by omega)])
  exact lp4_3 (9 + 1) (-1) 0 ls (by omega) (by omega) rfl rfl (lv_sub hl [0, 1, 2] rfl)
