abbrev rm_X2_isAboveLatest : Room := { frames := 0, cells := 0, slots := 0, locals := 0 }
theorem hi_X2_isAboveLatest_X2 : ∀ w ∈ wsX20, w ∈ wsX2_isAboveLatest := by decide +kernel
theorem hi_X2_isAboveLatest_X3 : ∀ w ∈ wsX30, w ∈ wsX2_isAboveLatest := by decide +kernel
set_option maxHeartbeats 4000000 in
set_option maxRecDepth 100000 in
theorem c_X2_isAboveLatest (l : Launch) (D : va_G) (cy : Nat → ClassId) (loc : Nat → Nat) (w : xM) (sz : Nat) (t tm tb ta mc : Nat) (dy : Nat → Int32) (q : Nat → Option Nat) (hmc : mc ≤ 6) (hq : ∀ j, j < mc → q j = some (loc (tb + j))) (hm : ∀ j, j < mc → w (tb + j) = some (.inr (3, [.int (dy j), .ref (loc (ta + j))]))) (d : Int32) (f1 : w (t) = some (.inr (2, [.ref (loc (tm)), .int (nI (mc))]))) (f2 : w (tm) = some (eQ cy 4 6 (q))) : Met l yX2_isAboveLatest wsX2_isAboveLatest rm_X2_isAboveLatest (va_Pc [.ref (loc (t)), .int (d)] (xP D cy loc w sz)) (vp_Si (fun r => r = xb (mc = 0 ∨ dy (mc - 1) < d))) 0 0 (fun _ => False) := by
  refine x_met (cc := cX2_isAboveLatest) (maxL := 2) (ret := (some .boolean)) (C := RX2) (by decide) rfl rfl (Nat.le_of_ble_eq_true rfl) ?_
  intro p e s m below meth c ls hx hb hml hr hts hown hlocks hin hP hl
  obtain ⟨hsz, hV, hK⟩ := hP
  subst hsz
  have hl : lv_has ls 2 [(0, .ref (loc (t))), (1, .int (d))] := hl
  refine lv_aload_n hx hb dX2_isAboveLatest_0 rfl (lv_at hl 0 rfl) ?_
  refine x_get (C := RX2) (T := TX2) (N := 2) hx hb hts hi_X2_isAboveLatest_X2 hown hK hV f1 rfl 1 (by decide) (hts (.fieldLink RX2 17 "SaddleHouse$Horse" "measureCount" "I") (by decide +kernel)) (fun _ h9 => h9) rfl dX2_isAboveLatest_1 ?_
  refine lv_if_eq (tgt := 25) hx hb dX2_isAboveLatest_4 (by decide) (fun c3 => ?_) (fun c3 => ?_)
  · have _u := trivial
    have hz : mc = 0 := (nI_eq (by omega) (by decide)).mp c3
    refine lv_iconst (v := nI 1) hx hb dX2_isAboveLatest_25 (by decide +kernel) ?_
    refine lv_goto (tgt := 30) hx hb dX2_isAboveLatest_26 (by decide) ?_
    exact x_rz hx hb hr hlocks rfl dX2_isAboveLatest_30 (by show _ = _; first | exact (xb_t (Or.inl hz)).symm | exact (xb_t (Or.inr (Int32.not_le.mp (by assumption)))).symm | exact (xb_f (fun z => z.elim hz (fun z => absurd z (Int32.not_lt.mpr (by assumption))))).symm)
  · have _u := trivial
    have hz : mc ≠ 0 := nI_nz c3
    refine lv_iload_n hx hb dX2_isAboveLatest_7 rfl (lv_at hl 1 rfl) ?_
    refine lv_aload_n hx hb dX2_isAboveLatest_8 rfl (lv_at hl 0 rfl) ?_
    refine x_get (C := RX2) (T := TX2) (N := 2) hx hb hts hi_X2_isAboveLatest_X2 hown hK hV f1 rfl 0 (by decide) (hts (.fieldLink RX2 11 "SaddleHouse$Horse" "measures" "[LSaddleHouse$Measure;") (by decide +kernel)) (fun _ h9 => h9) rfl dX2_isAboveLatest_9 ?_
    refine lv_aload_n hx hb dX2_isAboveLatest_12 rfl (lv_at hl 0 rfl) ?_
    refine x_get (C := RX2) (T := TX2) (N := 2) hx hb hts hi_X2_isAboveLatest_X2 hown hK hV f1 rfl 1 (by decide) (hts (.fieldLink RX2 17 "SaddleHouse$Horse" "measureCount" "I") (by decide +kernel)) (fun _ h9 => h9) rfl dX2_isAboveLatest_13 ?_
    refine lv_iconst (v := nI 1) hx hb dX2_isAboveLatest_16 (by decide +kernel) ?_
    refine x_isub hx hb (mc) (1) (by omega) dX2_isAboveLatest_17 ?_
    refine x_aald hx hb hK hV f2 rfl (mc - 1) (by omega) (by decide) dX2_isAboveLatest_18 ?_
    refine x_topr (hq (mc - 1) (by omega)) ?_
    have f4 : w (tb + (mc - 1)) = some (.inr (3, [.int (dy ((mc - 1))), .ref (loc (ta + (mc - 1)))])) := (hm ((mc - 1)) (by omega))
    refine x_getN (C := RX3) (T := TX3) (N := 2) (ref := "SaddleHouse$Measure") (host := RX7) hx hb hts hi_X2_isAboveLatest_X3 hown hK hV f4 rfl 0 (by decide) (by decide +kernel) (fun _ h9 => h9) rfl dX2_isAboveLatest_19 ?_
    refine lv_icmp_le (tgt := 29) hx hb dX2_isAboveLatest_22 (by decide) (fun c5 => ?_) (fun c5 => ?_)
    · have _u := trivial
      refine lv_iconst (v := nI 0) hx hb dX2_isAboveLatest_29 (by decide +kernel) ?_
      exact x_rz hx hb hr hlocks rfl dX2_isAboveLatest_30 (by show _ = _; first | exact (xb_t (Or.inl hz)).symm | exact (xb_t (Or.inr (Int32.not_le.mp (by assumption)))).symm | exact (xb_f (fun z => z.elim hz (fun z => absurd z (Int32.not_lt.mpr (by assumption))))).symm)
    · have _u := trivial
      refine lv_iconst (v := nI 1) hx hb dX2_isAboveLatest_25 (by decide +kernel) ?_
      refine lv_goto (tgt := 30) hx hb dX2_isAboveLatest_26 (by decide) ?_
      exact x_rz hx hb hr hlocks rfl dX2_isAboveLatest_30 (by show _ = _; first | exact (xb_t (Or.inl hz)).symm | exact (xb_t (Or.inr (Int32.not_le.mp (by assumption)))).symm | exact (xb_f (fun z => z.elim hz (fun z => absurd z (Int32.not_lt.mpr (by assumption))))).symm)
abbrev rm_X2_backOn : Room := { frames := 0, cells := 0, slots := 0, locals := 0 }
theorem hi_X2_backOn_X2 : ∀ w ∈ wsX20, w ∈ wsX2_backOn := by decide +kernel
theorem hi_X2_backOn_X3 : ∀ w ∈ wsX30, w ∈ wsX2_backOn := by decide +kernel
set_option maxHeartbeats 4000000 in
set_option maxRecDepth 100000 in
theorem c_X2_backOn (l : Launch) (D : va_G) (cy : Nat → ClassId) (loc : Nat → Nat) (w : xM) (sz : Nat) (t tm tb ta mc : Nat) (dy : Nat → Int32) (q : Nat → Option Nat) (hmc : mc ≤ 6) (hq : ∀ j, j < mc → q j = some (loc (tb + j))) (hm : ∀ j, j < mc → w (tb + j) = some (.inr (3, [.int (dy j), .ref (loc (ta + j))]))) (d : Int32) (f1 : w (t) = some (.inr (2, [.ref (loc (tm)), .int (nI (mc))]))) (f2 : w (tm) = some (eQ cy 4 6 (q))) : Met l yX2_backOn wsX2_backOn rm_X2_backOn (va_Pc [.ref (loc (t)), .int (d)] (xP D cy loc w sz)) (va_Sq (fun r => r = xlo (fun j => loc (tb + j)) dy d mc)) 0 0 (fun _ => False) := by
  refine x_met (cc := cX2_backOn) (maxL := 4) (ret := (some (.object "SaddleHouse$Measure"))) (C := RX2) (by decide) rfl rfl (Nat.le_of_ble_eq_true rfl) ?_
  intro p e s m below meth c ls hx hb hml hr hts hown hlocks hin hP hl
  obtain ⟨hsz, hV, hK⟩ := hP
  subst hsz
  have hl : lv_has ls 4 [(0, .ref (loc (t))), (1, .int (d))] := hl
  refine lv_null hx hb dX2_backOn_0 ?_
  refine lv_astore_nN (lv' := [(2, .null), (0, .ref (loc (t))), (1, .int (d))]) hx hb dX2_backOn_1 rfl hl (by decide) rfl (fun ls hl => ?_)
  refine lv_iconst (v := nI 0) hx hb dX2_backOn_2 (by decide +kernel) ?_
  refine lv_istore_n (lv' := [(3, .int (nI (0))), (2, .null), (0, .ref (loc (t))), (1, .int (d))]) hx hb dX2_backOn_3 rfl hl (by decide) rfl (fun ls hl => ?_)
  have lp4_3 : ∀ (fuel4 : Nat) (o : Option Nat) (i : Nat) (ls : Array Slot), mc - i < fuel4 → (i ≤ mc) → (o = xlo (fun j => loc (tb + j)) dy d i) → lv_has ls 4 [(3, .int (nI (i))), (2, va_rf (o)), (0, .ref (loc (t))), (1, .int (d))] → W p l e rm_X2_backOn s m ([.ref (loc (t)), .int (d)] : List Value).toArray below meth c s.heap [] 0 0 (MQ below (va_Sq (fun r => r = xlo (fun j => loc (tb + j)) dy d mc)) ([.ref (loc (t)), .int (d)] : List Value).toArray s 0 0 (fun _ => False)) (F0 m 4 ls []) := by
    intro fuel4
    induction fuel4 with
    | zero => intro o i ls hm5; exact absurd hm5 (Nat.not_lt_zero _)
    | succ fuel4 ih6 =>
      intro o i ls hm5 h1 h2  hl
      refine lv_iload_n hx hb dX2_backOn_4 rfl (lv_at hl 0 rfl) ?_
      refine lv_aload_n hx hb dX2_backOn_5 rfl (lv_at hl 2 rfl) ?_
      refine x_get (C := RX2) (T := TX2) (N := 2) hx hb hts hi_X2_backOn_X2 hown hK hV f1 rfl 1 (by decide) (hts (.fieldLink RX2 17 "SaddleHouse$Horse" "measureCount" "I") (by decide +kernel)) (fun _ h9 => h9) rfl dX2_backOn_6 ?_
      refine x_cge hx hb (i) (mc) (by omega) (by omega) (tgt := 38) dX2_backOn_9 (by decide) (fun c7 => ?_) (fun c7 => ?_)
      · have _u := trivial
        refine x_aload_nq hx hb dX2_backOn_38 rfl (lv_at hl 1 rfl) ?_
        exact x_rq hx hb hr hlocks dX2_backOn_39 (by show _ = _; rw [h2, show i = mc by omega])
      · have _u := trivial
        refine lv_aload_n hx hb dX2_backOn_12 rfl (lv_at hl 2 rfl) ?_
        refine x_get (C := RX2) (T := TX2) (N := 2) hx hb hts hi_X2_backOn_X2 hown hK hV f1 rfl 0 (by decide) (hts (.fieldLink RX2 11 "SaddleHouse$Horse" "measures" "[LSaddleHouse$Measure;") (by decide +kernel)) (fun _ h9 => h9) rfl dX2_backOn_13 ?_
        refine lv_iload_n hx hb dX2_backOn_16 rfl (lv_at hl 0 rfl) ?_
        refine x_aald hx hb hK hV f2 rfl (i) (by omega) (by decide) dX2_backOn_17 ?_
        refine x_topr (hq (i) (by omega)) ?_
        have f8 : w (tb + i) = some (.inr (3, [.int (dy (i)), .ref (loc (ta + i))])) := (hm (i) (by omega))
        refine x_getN (C := RX3) (T := TX3) (N := 2) (ref := "SaddleHouse$Measure") (host := RX7) hx hb hts hi_X2_backOn_X3 hown hK hV f8 rfl 0 (by decide) (by decide +kernel) (fun _ h9 => h9) rfl dX2_backOn_18 ?_
        refine lv_iload_n hx hb dX2_backOn_21 rfl (lv_at hl 3 rfl) ?_
        refine lv_icmp_gt (tgt := 32) hx hb dX2_backOn_22 (by decide) (fun c9 => ?_) (fun c9 => ?_)
        · have _u := trivial
          refine lv_iinc (v := nI (i + 1)) (lv' := [(3, .int (nI (i + 1))), (2, va_rf (o)), (0, .ref (loc (t))), (1, .int (d))]) hx hb dX2_backOn_32 hl (k := 0) rfl (nI_add _ _) (by decide) (by cases (o) <;> rfl) (fun ls hl => ?_)
          refine lv_goto (tgt := 4) hx hb dX2_backOn_35 (by decide) ?_
          exact ih6 o (i + 1) ls (by omega) (by omega) (by rw [xlo]; first | rw [if_pos (by assumption)] | (rw [if_neg (Int32.not_le.mpr (by assumption))]; exact h2) | (rw [if_neg (by assumption)]; exact h2) | rw [if_pos (Int32.not_lt.mp (by assumption))]) (lv_sub hl [0, 1, 2, 3] rfl)
        · have _u := trivial
          refine lv_aload_n hx hb dX2_backOn_25 rfl (lv_at hl 2 rfl) ?_
          refine x_get (C := RX2) (T := TX2) (N := 2) hx hb hts hi_X2_backOn_X2 hown hK hV f1 rfl 0 (by decide) (hts (.fieldLink RX2 11 "SaddleHouse$Horse" "measures" "[LSaddleHouse$Measure;") (by decide +kernel)) (fun _ h9 => h9) rfl dX2_backOn_26 ?_
          refine lv_iload_n hx hb dX2_backOn_29 rfl (lv_at hl 0 rfl) ?_
          refine x_aald hx hb hK hV f2 rfl (i) (by omega) (by decide) dX2_backOn_30 ?_
          refine x_topr (hq (i) (by omega)) ?_
          refine lv_astore_n (lv' := [(2, .ref (loc (tb + i))), (3, .int (nI (i))), (0, .ref (loc (t))), (1, .int (d))]) hx hb dX2_backOn_31 rfl hl (by decide) rfl (fun ls hl => ?_)
          refine lv_iinc (v := nI (i + 1)) (lv' := [(3, .int (nI (i + 1))), (2, .ref (loc (tb + i))), (0, .ref (loc (t))), (1, .int (d))]) hx hb dX2_backOn_32 hl (k := 1) rfl (nI_add _ _) (by decide) rfl (fun ls hl => ?_)
          refine lv_goto (tgt := 4) hx hb dX2_backOn_35 (by decide) ?_
          exact ih6 (some (loc (tb + i))) (i + 1) ls (by omega) (by omega) (by rw [xlo]; first | rw [if_pos (by assumption)] | (rw [if_neg (Int32.not_le.mpr (by assumption))]; exact h2) | (rw [if_neg (by assumption)]; exact h2) | rw [if_pos (Int32.not_lt.mp (by assumption))]) (lv_sub hl [0, 1, 2, 3] rfl)
  exact lp4_3 (mc + 1) none 0 ls (by omega) (Nat.zero_le _) rfl (lv_sub hl [0, 1, 2, 3] rfl)
abbrev rm_X2_add : Room := { frames := 0, cells := 0, slots := 0, locals := 0 }
theorem hi_X2_add_X2 : ∀ w ∈ wsX20, w ∈ wsX2_add := by decide +kernel
set_option maxHeartbeats 4000000 in
set_option maxRecDepth 100000 in
theorem c_X2_add (l : Launch) (D : va_G) (cy : Nat → ClassId) (loc : Nat → Nat) (w : xM) (sz : Nat) (t tm mc tv : Nat) (q : Nat → Option Nat) (vv : Value) (va : Nat) (hmc : mc < 6) (dd : Int32) (n1 : t ≠ tm) (n2 : tv ≠ tm) (n3 : tv ≠ t) (f1 : w (t) = some (.inr (2, [.ref (loc (tm)), .int (nI (mc))]))) (f2 : w (tv) = some (.inr (3, [.int (dd), .ref (loc (va))]))) (f3 : w (tm) = some (eQ cy 4 6 (q))) : Met l yX2_add wsX2_add rm_X2_add (va_Pc [.ref (loc (t)), .ref (loc (tv))] (xP D cy loc w sz)) (va_Qv (fun u => u.1 = loc ∧ u.2 = xup (xup w tm (eQ cy 4 6 (va_up q mc (some (loc tv))))) t (.inr (2, [.ref (loc tm), .int (nI (mc + 1))]))) (xB D (xA loc w sz)) (xA loc w sz)) 0 0 (xA loc w sz) := by
  refine x_met (cc := cX2_add) (maxL := 2) (ret := none) (C := RX2) (by decide) rfl rfl (Nat.le_of_ble_eq_true rfl) ?_
  intro p e s m below meth c ls hx hb hml hr hts hown hlocks hin hP hl
  obtain ⟨hsz, hV, hK⟩ := hP
  subst hsz
  have hA : ∀ q : Nat, s.heap.size ≤ q → xA loc w s.heap.size q := fun q h => Or.inr h
  have hS : va_S (xA loc w s.heap.size) s.heap s.heap [] := va_S.rf
  have hl : lv_has ls 2 [(0, .ref (loc (t))), (1, .ref (loc (tv)))] := hl
  refine lv_aload_n hx hb dX2_add_0 rfl (lv_at hl 0 rfl) ?_
  refine x_get (C := RX2) (T := TX2) (N := 2) hx hb hts hi_X2_add_X2 hown hK hV f1 rfl 0 (by decide) (hts (.fieldLink RX2 11 "SaddleHouse$Horse" "measures" "[LSaddleHouse$Measure;") (by decide +kernel)) (fun _ h9 => h9) rfl dX2_add_1 ?_
  refine lv_aload_n hx hb dX2_add_4 rfl (lv_at hl 0 rfl) ?_
  refine x_get (C := RX2) (T := TX2) (N := 2) hx hb hts hi_X2_add_X2 hown hK hV f1 rfl 1 (by decide) (hts (.fieldLink RX2 17 "SaddleHouse$Horse" "measureCount" "I") (by decide +kernel)) (fun _ h9 => h9) rfl dX2_add_5 ?_
  refine lv_aload_n hx hb dX2_add_8 rfl (lv_at hl 1 rfl) ?_
  refine x_aast hx hb hK hV hS f3 rfl f2 rfl (mc) (by omega) (by decide) dX2_add_9 (fun H4 L5 hV6 hS7 => ?_)
  have f8 : (xup w (tm) (eQ cy 4 6 (va_up q mc (some (loc (tv)))))) (t) = some (.inr (2, [.ref (loc (tm)), .int (nI (mc))])) := xup_o (f1) (by omega)
  have f9 : (xup w (tm) (eQ cy 4 6 (va_up q mc (some (loc (tv)))))) (tv) = some (.inr (3, [.int (dd), .ref (loc (va))])) := xup_o (f2) (by omega)
  have f10 : (xup w (tm) (eQ cy 4 6 (va_up q mc (some (loc (tv)))))) (tm) = some (eQ cy 4 6 (va_up q mc (some (loc (tv))))) := xup_at _ _ _
  refine lv_aload_n hx hb dX2_add_10 rfl (lv_at hl 0 rfl) ?_
  refine lv_dup hx hb dX2_add_11 rfl ?_
  refine x_get (C := RX2) (T := TX2) (N := 2) hx hb hts hi_X2_add_X2 hown hK hV6 f8 rfl 1 (by decide) (hts (.fieldLink RX2 17 "SaddleHouse$Horse" "measureCount" "I") (by decide +kernel)) (fun _ h9 => h9) rfl dX2_add_12 ?_
  refine lv_iconst (v := nI 1) hx hb dX2_add_15 (by decide +kernel) ?_
  refine x_iadd hx hb (mc) (1) dX2_add_16 ?_
  refine x_putf (C := RX2) (T := TX2) (N := 2) (v := .int (nI (mc + 1))) (ty := .int) hx hb hts hi_X2_add_X2 tyX2 tyX2_ok nmX2 hown hK hV6 hS7 f8 rfl 1 (by decide) (hts (.fieldLink RX2 17 "SaddleHouse$Horse" "measureCount" "I") (by decide +kernel)) (fun _ h9 => h9) rfl (by decide +kernel) rfl rfl (Nat.le_of_ble_eq_true rfl) dX2_add_17 (fun H11 L12 hV13 hS14 => ?_)
  have f15 : (xup (xup w (tm) (eQ cy 4 6 (va_up q mc (some (loc (tv)))))) (t) (.inr (2, [.ref (loc (tm)), .int (nI (mc + 1))]))) (t) = some (.inr (2, [.ref (loc (tm)), .int (nI (mc + 1))])) := xup_at _ _ _
  have f16 : (xup (xup w (tm) (eQ cy 4 6 (va_up q mc (some (loc (tv)))))) (t) (.inr (2, [.ref (loc (tm)), .int (nI (mc + 1))]))) (tv) = some (.inr (3, [.int (dd), .ref (loc (va))])) := xup_o (xup_o (f2) (by omega)) (by omega)
  have f17 : (xup (xup w (tm) (eQ cy 4 6 (va_up q mc (some (loc (tv)))))) (t) (.inr (2, [.ref (loc (tm)), .int (nI (mc + 1))]))) (tm) = some (eQ cy 4 6 (va_up q mc (some (loc (tv))))) := xup_o (xup_at _ _ _) (by omega)
  exact x_rmv hx hb hr hlocks dX2_add_20 hV13 hS14 (⟨rfl, rfl⟩)
abbrev rm_X2_mixInto : Room := { frames := 2, cells := 0, slots := 0, locals := 49 }
theorem hi_X2_mixInto_X2 : ∀ w ∈ wsX20, w ∈ wsX2_mixInto := by decide +kernel
theorem hi_X2_mixInto_X3 : ∀ w ∈ wsX30, w ∈ wsX2_mixInto := by decide +kernel
set_option maxHeartbeats 4000000 in
set_option maxRecDepth 100000 in
theorem c_X2_mixInto (l : Launch) (D : va_G) (cy : Nat → ClassId) (loc : Nat → Nat) (w : xM) (sz : Nat) (t tm tb ta mc : Nat) (dy : Nat → Int32) (q : Nat → Option Nat) (hmc : mc ≤ 6) (hq : ∀ j, j < mc → q j = some (loc (tb + j))) (hm : ∀ j, j < mc → w (tb + j) = some (.inr (3, [.int (dy j), .ref (loc (ta + j))]))) (hs : Nat → Nat → Int32) (hh : ∀ j, j < mc → w (ta + j) = some (eI cy 9 (hs j))) (h : Int64) (f1 : w (t) = some (.inr (2, [.ref (loc (tm)), .int (nI (mc))]))) (f2 : w (tm) = some (eQ cy 4 6 (q))) : Met l yX2_mixInto wsX2_mixInto rm_X2_mixInto (va_Pc [.ref (loc (t)), .long (h)] (xP D cy loc w sz)) (vp_Sl (fun r => r = xhx dy hs mc (31 * h + (nI mc).toInt64))) 0 0 (fun _ => False) := by
  refine x_met (cc := cX2_mixInto) (maxL := 6) (ret := (some .long)) (C := RX2) (by decide) rfl rfl (Nat.le_of_ble_eq_true rfl) ?_
  intro p e s m below meth c ls hx hb hml hr hts hown hlocks hin hP hl
  obtain ⟨hsz, hV, hK⟩ := hP
  subst hsz
  have hl : lv_has ls 6 [(0, .ref (loc (t))), (1, .long (h))] := hl
  refine lv_lload_n hx hb dX2_mixInto_0 rfl (lv_at hl 1 rfl) ?_
  refine lv_aload_n hx hb dX2_mixInto_1 rfl (lv_at hl 0 rfl) ?_
  refine x_get (C := RX2) (T := TX2) (N := 2) hx hb hts hi_X2_mixInto_X2 hown hK hV f1 rfl 1 (by decide) (hts (.fieldLink RX2 17 "SaddleHouse$Horse" "measureCount" "I") (by decide +kernel)) (fun _ h9 => h9) rfl dX2_mixInto_2 ?_
  refine lv_i2l (v := (nI mc).toInt64) hx hb dX2_mixInto_5 rfl ?_
  refine x_cl (va_runSN (host := RX7) (As := [.long (h), .long ((nI mc).toInt64)]) (rest := []) ⟨hx, hb, hml, hown, hts⟩ (c_X7_mix l D cy loc w s.heap.size h ((nI mc).toInt64)) ⟨va_cnB 2 hts gX2_mixInto_X7_mix_n24 rfl rfl rfl (hK.2.1 (.methodLinkNest RX2 24 yX7_mix RX7) (by decide +kernel)) (hts (.initialized RX7) (by decide +kernel)) (by decide +kernel) ⟨Nat.le_of_ble_eq_true rfl, Nat.le_of_ble_eq_true rfl⟩, hts (.static yX7_mix) (by decide +kernel), trivial⟩ (x_preS hK hV) rfl rfl hl.1 rfl (lv_room (Nat.le_of_ble_eq_true rfl)) dX2_mixInto_6 ⟨Nat.le_of_ble_eq_true rfl, Nat.le_of_ble_eq_true rfl⟩) (fun r3 hr4 => ?_)
  obtain rfl : r3 = 31 * h + ((nI mc).toInt64) := hr4
  refine lv_lstore_n (lv' := [(3, .long (31 * h + ((nI mc).toInt64))), (0, .ref (loc (t))), (1, .long (h))]) hx hb dX2_mixInto_9 rfl hl (by decide) rfl (fun ls hl => ?_)
  refine lv_iconst (v := nI 0) hx hb dX2_mixInto_10 (by decide +kernel) ?_
  refine lv_istore (lv' := [(5, .int (nI (0))), (3, .long (31 * h + ((nI mc).toInt64))), (0, .ref (loc (t))), (1, .long (h))]) hx hb dX2_mixInto_11 hl (by decide) rfl (fun ls hl => ?_)
  have lp13_5 : ∀ (fuel6 : Nat) (z : Int64) (i : Nat) (ls : Array Slot), mc - i < fuel6 → (i ≤ mc) → (z = xhx dy hs i (31 * h + (nI mc).toInt64)) → lv_has ls 6 [(5, .int (nI (i))), (3, .long (z)), (0, .ref (loc (t))), (1, .long (h))] → W p l e rm_X2_mixInto s m ([.ref (loc (t)), .long (h)] : List Value).toArray below meth c s.heap [] 0 0 (MQ below (vp_Sl (fun r => r = xhx dy hs mc (31 * h + (nI mc).toInt64))) ([.ref (loc (t)), .long (h)] : List Value).toArray s 0 0 (fun _ => False)) (F0 m 13 ls []) := by
    intro fuel6
    induction fuel6 with
    | zero => intro z i ls hm7; exact absurd hm7 (Nat.not_lt_zero _)
    | succ fuel6 ih8 =>
      intro z i ls hm7 h1 h2  hl
      refine lv_iload hx hb dX2_mixInto_13 (lv_at hl 0 rfl) ?_
      refine lv_aload_n hx hb dX2_mixInto_15 rfl (lv_at hl 2 rfl) ?_
      refine x_get (C := RX2) (T := TX2) (N := 2) hx hb hts hi_X2_mixInto_X2 hown hK hV f1 rfl 1 (by decide) (hts (.fieldLink RX2 17 "SaddleHouse$Horse" "measureCount" "I") (by decide +kernel)) (fun _ h9 => h9) rfl dX2_mixInto_16 ?_
      refine x_cge hx hb (i) (mc) (by omega) (by omega) (tgt := 59) dX2_mixInto_19 (by decide) (fun c9 => ?_) (fun c9 => ?_)
      · have _u := trivial
        refine lv_lload_n hx hb dX2_mixInto_59 rfl (lv_at hl 1 rfl) ?_
        exact x_rl hx hb hr hlocks dX2_mixInto_60 (by show _ = _; rw [h2, show i = mc by omega])
      · have _u := trivial
        refine lv_lload_n hx hb dX2_mixInto_22 rfl (lv_at hl 1 rfl) ?_
        refine lv_aload_n hx hb dX2_mixInto_23 rfl (lv_at hl 2 rfl) ?_
        refine x_get (C := RX2) (T := TX2) (N := 2) hx hb hts hi_X2_mixInto_X2 hown hK hV f1 rfl 0 (by decide) (hts (.fieldLink RX2 11 "SaddleHouse$Horse" "measures" "[LSaddleHouse$Measure;") (by decide +kernel)) (fun _ h9 => h9) rfl dX2_mixInto_24 ?_
        refine lv_iload hx hb dX2_mixInto_27 (lv_at hl 0 rfl) ?_
        refine x_aald hx hb hK hV f2 rfl (i) (by omega) (by decide) dX2_mixInto_29 ?_
        refine x_topr (hq (i) (by omega)) ?_
        have f10 : w (tb + i) = some (.inr (3, [.int (dy (i)), .ref (loc (ta + i))])) := (hm (i) (by omega))
        have f11 : w (ta + i) = some (eI cy 9 (hs (i))) := (hh (i) (by omega))
        refine x_getN (C := RX3) (T := TX3) (N := 2) (ref := "SaddleHouse$Measure") (host := RX7) hx hb hts hi_X2_mixInto_X3 hown hK hV f10 rfl 0 (by decide) (by decide +kernel) (fun _ h9 => h9) rfl dX2_mixInto_30 ?_
        refine lv_i2l (v := (dy (i)).toInt64) hx hb dX2_mixInto_33 rfl ?_
        refine x_cl (va_runSN (host := RX7) (As := [.long (z), .long ((dy (i)).toInt64)]) (rest := []) ⟨hx, hb, hml, hown, hts⟩ (c_X7_mix l D cy loc w s.heap.size z ((dy (i)).toInt64)) ⟨va_cnB 2 hts gX2_mixInto_X7_mix_n24 rfl rfl rfl (hK.2.1 (.methodLinkNest RX2 24 yX7_mix RX7) (by decide +kernel)) (hts (.initialized RX7) (by decide +kernel)) (by decide +kernel) ⟨Nat.le_of_ble_eq_true rfl, Nat.le_of_ble_eq_true rfl⟩, hts (.static yX7_mix) (by decide +kernel), trivial⟩ (x_preS hK hV) rfl rfl hl.1 rfl (lv_room (Nat.le_of_ble_eq_true rfl)) dX2_mixInto_34 ⟨Nat.le_of_ble_eq_true rfl, Nat.le_of_ble_eq_true rfl⟩) (fun r12 hr13 => ?_)
        obtain rfl : r12 = 31 * z + ((dy (i)).toInt64) := hr13
        refine lv_aload_n hx hb dX2_mixInto_37 rfl (lv_at hl 2 rfl) ?_
        refine x_get (C := RX2) (T := TX2) (N := 2) hx hb hts hi_X2_mixInto_X2 hown hK hV f1 rfl 0 (by decide) (hts (.fieldLink RX2 11 "SaddleHouse$Horse" "measures" "[LSaddleHouse$Measure;") (by decide +kernel)) (fun _ h9 => h9) rfl dX2_mixInto_38 ?_
        refine lv_iload hx hb dX2_mixInto_41 (lv_at hl 0 rfl) ?_
        refine x_aald hx hb hK hV f2 rfl (i) (by omega) (by decide) dX2_mixInto_43 ?_
        refine x_topr (hq (i) (by omega)) ?_
        refine x_getN (C := RX3) (T := TX3) (N := 2) (ref := "SaddleHouse$Measure") (host := RX7) hx hb hts hi_X2_mixInto_X3 hown hK hV f10 rfl 1 (by decide) (by decide +kernel) (fun _ h9 => h9) rfl dX2_mixInto_44 ?_
        refine lv_bipush (v := nI 9) hx hb dX2_mixInto_47 (by decide +kernel) ?_
        refine x_cl (va_runSN (host := RX7) (As := [.long (31 * z + ((dy (i)).toInt64)), .ref (loc (ta + i)), .int (nI (9))]) (rest := []) ⟨hx, hb, hml, hown, hts⟩ (c_X7_mixAll l D cy loc w s.heap.size (31 * z + ((dy (i)).toInt64)) (ta + i) 9 9 (hs i) (by decide) (by decide) f11) ⟨va_cnB 3 hts gX2_mixInto_X7_mixAll_n32 rfl rfl rfl (hK.2.1 (.methodLinkNest RX2 32 yX7_mixAll RX7) (by decide +kernel)) (hts (.initialized RX7) (by decide +kernel)) (by decide +kernel) ⟨Nat.le_of_ble_eq_true rfl, Nat.le_of_ble_eq_true rfl⟩, hts (.static yX7_mixAll) (by decide +kernel), trivial⟩ (x_preS hK hV) rfl rfl hl.1 rfl (lv_room (Nat.le_of_ble_eq_true rfl)) dX2_mixInto_49 ⟨Nat.le_of_ble_eq_true rfl, Nat.le_of_ble_eq_true rfl⟩) (fun r14 hr15 => ?_)
        obtain rfl : r14 = xmx (hs i) 9 (31 * z + (dy i).toInt64) := hr15
        refine lv_lstore_n (lv' := [(3, .long (xmx (hs i) 9 (31 * z + (dy i).toInt64))), (5, .int (nI (i))), (0, .ref (loc (t))), (1, .long (h))]) hx hb dX2_mixInto_52 rfl hl (by decide) rfl (fun ls hl => ?_)
        refine lv_iinc (v := nI (i + 1)) (lv' := [(5, .int (nI (i + 1))), (3, .long (xmx (hs i) 9 (31 * z + (dy i).toInt64))), (0, .ref (loc (t))), (1, .long (h))]) hx hb dX2_mixInto_53 hl (k := 1) rfl (nI_add _ _) (by decide) rfl (fun ls hl => ?_)
        refine lv_goto (tgt := 13) hx hb dX2_mixInto_56 (by decide) ?_
        exact ih8 (xmx (hs i) 9 (31 * z + (dy i).toInt64)) (i + 1) ls (by omega) (by omega) (by rw [xhx, h2]) (lv_sub hl [0, 1, 2, 3] rfl)
  exact lp13_5 (mc + 1) (31 * h + ((nI mc).toInt64)) 0 ls (by omega) (Nat.zero_le _) rfl (lv_sub hl [0, 1, 2, 3] rfl)
