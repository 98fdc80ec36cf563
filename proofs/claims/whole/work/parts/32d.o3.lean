abbrev rm_X8_servesAll : Room := { frames := 0, cells := 0, slots := 0, locals := 0 }
theorem hi_X8_servesAll_X8 : ∀ w ∈ wsX80, w ∈ wsX8_servesAll := fun w h => List.mem_cons_of_mem _ (List.mem_append_right _ h)
set_option maxHeartbeats 4000000 in
set_option maxRecDepth 100000 in
theorem c_X8_servesAll (l : Launch) (D : va_G) (cy : Nat → ClassId) (loc : Nat → Nat) (w : xM) (sz : Nat) (σ : xS) (x0 x1 x2 x3 : Int32) (f : Nat → Int32) (ct : Nat) (hct : ct ≤ 48) (bits : Int32) (f1 : w (300) = some (.inr (8, [.ref (loc (301)), .int (nI (σ.2 0)), .ref (loc (302)), .ref (loc (303)), .ref (loc (304)), .int (nI (σ.2 1)), .ref (loc (305)), .ref (loc (306)), .ref (loc (307)), .ref (loc (308)), .int (x0), .int (x1), .int (x2), .int (x3), .int (nI (σ.2 5)), .ref (loc (309)), .ref (loc (310)), .int (nI (ct)), .int (nI (σ.2 2)), .ref (loc (311)), .int (nI (σ.2 3)), .ref (loc (312)), .ref (loc (313)), .int (σ.1 10 0), .int (σ.1 10 1), .int (nI (σ.2 4)), .ref (loc (314))]))) (f2 : w (310) = some (eI cy 48 (f))) : Met l yX8_servesAll wsX8_servesAll rm_X8_servesAll (va_Pc [.ref (loc (300)), .int (bits)] (xP D cy loc w sz)) (vp_Si (fun r => r = xb (xsv f ct bits))) 0 0 (fun _ => False) := by
  refine x_met (cc := cX8_servesAll) (maxL := 4) (ret := (some .boolean)) (C := RX8) (by decide) rfl rfl (Nat.le_of_ble_eq_true rfl) ?_
  intro p e s m below meth c ls hx hb hml hr hts hown hlocks hin hP hl
  obtain ⟨hsz, hV, hK⟩ := hP
  subst hsz
  have hl : lv_has ls 4 [(0, .ref (loc (300))), (1, .int (bits))] := hl
  refine lv_iconst (v := nI 1) hx hb dX8_servesAll_0 (by decide +kernel) ?_
  refine lv_istore_n (lv' := [(2, .int (nI (1))), (0, .ref (loc (300))), (1, .int (bits))]) hx hb dX8_servesAll_1 rfl hl (by decide) rfl (fun ls hl => ?_)
  refine lv_iconst (v := nI 0) hx hb dX8_servesAll_2 (by decide +kernel) ?_
  refine lv_istore_n (lv' := [(3, .int (nI (0))), (2, .int (nI (1))), (0, .ref (loc (300))), (1, .int (bits))]) hx hb dX8_servesAll_3 rfl hl (by decide) rfl (fun ls hl => ?_)
  have lp4_3 : ∀ (fuel4 : Nat) (z : Int32) (i : Nat) (ls : Array Slot), ct - i < fuel4 → (i ≤ ct) → (z = xb (xsv f i bits)) → lv_has ls 4 [(3, .int (nI (i))), (2, .int (z)), (0, .ref (loc (300))), (1, .int (bits))] → W p l e rm_X8_servesAll s m ([.ref (loc (300)), .int (bits)] : List Value).toArray below meth c s.heap [] 0 0 (MQ below (vp_Si (fun r => r = xb (xsv f ct bits))) ([.ref (loc (300)), .int (bits)] : List Value).toArray s 0 0 (fun _ => False)) (F0 m 4 ls []) := by
    intro fuel4
    induction fuel4 with
    | zero => intro z i ls hm5; exact absurd hm5 (Nat.not_lt_zero _)
    | succ fuel4 ih6 =>
      intro z i ls hm5 h1 h2  hl
      refine lv_iload_n hx hb dX8_servesAll_4 rfl (lv_at hl 0 rfl) ?_
      refine lv_aload_n hx hb dX8_servesAll_5 rfl (lv_at hl 2 rfl) ?_
      refine x_get (C := RX8) (T := TX8) (N := 27) hx hb hts hi_X8_servesAll_X8 hown hK hV f1 rfl 17 (by decide) (hts (.fieldLink RX8 137 "SaddleHouseModel" "asked" "I") (List.mem_of_getElem? (i := 1) rfl)) (fun _ h9 => h9) rfl dX8_servesAll_6 ?_
      refine x_cge hx hb (i) (ct) (by omega) (by omega) (tgt := 39) dX8_servesAll_9 (by decide) (fun c7 => ?_) (fun c7 => ?_)
      · have _u := trivial
        refine lv_iload_n hx hb dX8_servesAll_39 rfl (lv_at hl 1 rfl) ?_
        exact x_rz hx hb hr hlocks (by rw [h2]; exact xb_nar _) dX8_servesAll_40 (by show _ = _; rw [h2, show i = ct by omega])
      · have _u := trivial
        refine lv_iload_n hx hb dX8_servesAll_12 rfl (lv_at hl 1 rfl) ?_
        refine lv_if_eq (tgt := 31) hx hb dX8_servesAll_13 (by decide) (fun c8 => ?_) (fun c8 => ?_)
        · have _u := trivial
          refine lv_iconst (v := nI 0) hx hb dX8_servesAll_31 (by decide +kernel) ?_
          refine lv_istore_n (lv' := [(2, .int (nI (0))), (3, .int (nI (i))), (0, .ref (loc (300))), (1, .int (bits))]) hx hb dX8_servesAll_32 rfl hl (by decide) rfl (fun ls hl => ?_)
          refine lv_iinc (v := nI (i + 1)) (lv' := [(3, .int (nI (i + 1))), (2, .int (nI (0))), (0, .ref (loc (300))), (1, .int (bits))]) hx hb dX8_servesAll_33 hl (k := 1) rfl (nI_add _ _) (by decide) rfl (fun ls hl => ?_)
          refine lv_goto (tgt := 4) hx hb dX8_servesAll_36 (by decide) ?_
          exact ih6 (nI 0) (i + 1) ls (by omega) (by omega) (ysv_a h2 c8) (lv_sub hl [0, 1, 2, 3] rfl)
        · have _u := trivial
          refine lv_aload_n hx hb dX8_servesAll_16 rfl (lv_at hl 2 rfl) ?_
          refine x_get (C := RX8) (T := TX8) (N := 27) hx hb hts hi_X8_servesAll_X8 hown hK hV f1 rfl 16 (by decide) (hts (.fieldLink RX8 37 "SaddleHouseModel" "fitting" "[I") (List.mem_of_getElem? (i := 2) rfl)) (fun _ h9 => h9) rfl dX8_servesAll_17 ?_
          refine lv_iload_n hx hb dX8_servesAll_20 rfl (lv_at hl 0 rfl) ?_
          refine x_iald hx hb hK hV f2 (i) (by omega) (by decide) dX8_servesAll_21 ?_
          refine lv_iload_n hx hb dX8_servesAll_22 rfl (lv_at hl 3 rfl) ?_
          refine lv_iand hx hb dX8_servesAll_23 ?_
          refine lv_if_eq (tgt := 31) hx hb dX8_servesAll_24 (by decide) (fun c9 => ?_) (fun c9 => ?_)
          · have _u := trivial
            refine lv_iconst (v := nI 0) hx hb dX8_servesAll_31 (by decide +kernel) ?_
            refine lv_istore_n (lv' := [(2, .int (nI (0))), (3, .int (nI (i))), (0, .ref (loc (300))), (1, .int (bits))]) hx hb dX8_servesAll_32 rfl hl (by decide) rfl (fun ls hl => ?_)
            refine lv_iinc (v := nI (i + 1)) (lv' := [(3, .int (nI (i + 1))), (2, .int (nI (0))), (0, .ref (loc (300))), (1, .int (bits))]) hx hb dX8_servesAll_33 hl (k := 1) rfl (nI_add _ _) (by decide) rfl (fun ls hl => ?_)
            refine lv_goto (tgt := 4) hx hb dX8_servesAll_36 (by decide) ?_
            exact ih6 (nI 0) (i + 1) ls (by omega) (by omega) (ysv_b c9) (lv_sub hl [0, 1, 2, 3] rfl)
          · have _u := trivial
            refine lv_iconst (v := nI 1) hx hb dX8_servesAll_27 (by decide +kernel) ?_
            refine lv_goto (tgt := 32) hx hb dX8_servesAll_28 (by decide) ?_
            refine lv_istore_n (lv' := [(2, .int (nI (1))), (3, .int (nI (i))), (0, .ref (loc (300))), (1, .int (bits))]) hx hb dX8_servesAll_32 rfl hl (by decide) rfl (fun ls hl => ?_)
            refine lv_iinc (v := nI (i + 1)) (lv' := [(3, .int (nI (i + 1))), (2, .int (nI (1))), (0, .ref (loc (300))), (1, .int (bits))]) hx hb dX8_servesAll_33 hl (k := 1) rfl (nI_add _ _) (by decide) rfl (fun ls hl => ?_)
            refine lv_goto (tgt := 4) hx hb dX8_servesAll_36 (by decide) ?_
            exact ih6 (nI 1) (i + 1) ls (by omega) (by omega) (ysv_1 h2 c8 c9) (lv_sub hl [0, 1, 2, 3] rfl)
  exact lp4_3 (ct + 1) (nI 1) 0 ls (by omega) (Nat.zero_le _) (xb_t (fun i h => absurd h (Nat.not_lt_zero i))).symm (lv_sub hl [0, 1, 2, 3] rfl)
abbrev rm_X8_many : Room := { frames := 0, cells := 0, slots := 0, locals := 0 }
set_option maxHeartbeats 4000000 in
set_option maxRecDepth 100000 in
theorem c_X8_many (l : Launch) (D : va_G) (cy : Nat → ClassId) (loc : Nat → Nat) (w : xM) (sz : Nat) (n : Nat) (hn : n < 256)  : Met l yX8_many wsX8_many rm_X8_many (va_Pc [.int (nI (n))] (xP D cy loc w sz)) (vp_Si (fun r => r = nI (xpc n))) 0 0 (fun _ => False) := by
  refine x_met (cc := cX8_many) (maxL := 3) (ret := (some .int)) (C := RX8) (by decide) rfl rfl (Nat.le_of_ble_eq_true rfl) ?_
  intro p e s m below meth c ls hx hb hml hr hts hown hlocks hin hP hl
  obtain ⟨hsz, hV, hK⟩ := hP
  subst hsz
  have hl : lv_has ls 3 [(0, .int (nI (n)))] := hl
  refine lv_iconst (v := nI 0) hx hb dX8_many_0 (by decide +kernel) ?_
  refine lv_istore_n (lv' := [(1, .int (nI (0))), (0, .int (nI (n)))]) hx hb dX8_many_1 rfl hl (by decide) rfl (fun ls hl => ?_)
  refine lv_iconst (v := nI 0) hx hb dX8_many_2 (by decide +kernel) ?_
  refine lv_istore_n (lv' := [(2, .int (nI (0))), (1, .int (nI (0))), (0, .int (nI (n)))]) hx hb dX8_many_3 rfl hl (by decide) rfl (fun ls hl => ?_)
  have lp4_1 : ∀ (fuel2 : Nat) (q : Nat) (i : Nat) (ls : Array Slot), 8 - i < fuel2 → (i ≤ 8) → (q = ypn n i) → lv_has ls 3 [(2, .int (nI (i))), (1, .int (nI (q))), (0, .int (nI (n)))] → W p l e rm_X8_many s m ([.int (nI (n))] : List Value).toArray below meth c s.heap [] 0 0 (MQ below (vp_Si (fun r => r = nI (xpc n))) ([.int (nI (n))] : List Value).toArray s 0 0 (fun _ => False)) (F0 m 4 ls []) := by
    intro fuel2
    induction fuel2 with
    | zero => intro q i ls hm3; exact absurd hm3 (Nat.not_lt_zero _)
    | succ fuel2 ih4 =>
      intro q i ls hm3 h1 h2  hl
      refine lv_iload_n hx hb dX8_many_4 rfl (lv_at hl 0 rfl) ?_
      refine lv_bipush (v := nI 8) hx hb dX8_many_5 (by decide +kernel) ?_
      refine x_cge hx hb (i) (8) (by omega) (by omega) (tgt := 24) dX8_many_7 (by decide) (fun c5 => ?_) (fun c5 => ?_)
      · have _u := trivial
        refine lv_iload_n hx hb dX8_many_24 rfl (lv_at hl 1 rfl) ?_
        exact x_ri hx hb hr hlocks dX8_many_25 (by show _ = _; rw [h2, show i = 8 by omega, ypn_8])
      · have _u := trivial
        refine lv_iload_n hx hb dX8_many_10 rfl (lv_at hl 1 rfl) ?_
        refine lv_iload_n hx hb dX8_many_11 rfl (lv_at hl 2 rfl) ?_
        refine lv_iload_n hx hb dX8_many_12 rfl (lv_at hl 0 rfl) ?_
        refine lv_ishr hx hb dX8_many_13 ?_
        refine lv_iconst (v := nI 1) hx hb dX8_many_14 (by decide +kernel) ?_
        refine lv_iand hx hb dX8_many_15 ?_
        refine x_top (congrArg Value.int (show _ = nI (n / 2 ^ i % 2) from yshr_all n hn i (by omega))) ?_
        refine x_iadd hx hb (q) (n / 2 ^ i % 2) dX8_many_16 ?_
        refine lv_istore_n (lv' := [(1, .int (nI (q + (n / 2 ^ i % 2)))), (2, .int (nI (i))), (0, .int (nI (n)))]) hx hb dX8_many_17 rfl hl (by decide) rfl (fun ls hl => ?_)
        refine lv_iinc (v := nI (i + 1)) (lv' := [(2, .int (nI (i + 1))), (1, .int (nI (q + (n / 2 ^ i % 2)))), (0, .int (nI (n)))]) hx hb dX8_many_18 hl (k := 1) rfl (nI_add _ _) (by decide) rfl (fun ls hl => ?_)
        refine lv_goto (tgt := 4) hx hb dX8_many_21 (by decide) ?_
        exact ih4 (q + (n / 2 ^ i % 2)) (i + 1) ls (by omega) (by omega) (by rw [h2]; rfl) (lv_sub hl [0, 1, 2] rfl)
  exact lp4_1 (8 + 1) 0 0 ls (by omega) (Nat.zero_le _) rfl (lv_sub hl [0, 1, 2] rfl)
