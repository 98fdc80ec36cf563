abbrev rm_X3_nextMeasured : Room := { frames := 0, cells := 0, slots := 0, locals := 0 }
set_option maxHeartbeats 4000000 in
set_option maxRecDepth 100000 in
theorem c_X3_nextMeasured (l : Launch) (D : va_G) (cy : Nat → ClassId) (loc : Nat → Nat) (w : xM) (sz : Nat) (ta a : Nat) (f : Nat → Int32) (ha : a ≤ 8) (h8 : f 8 ≠ -1) (f1 : w (ta) = some (eI cy 9 (f))) : Met l yX3_nextMeasured wsX3_nextMeasured rm_X3_nextMeasured (va_Pc [.ref (loc (ta)), .int (nI (a))] (xP D cy loc w sz)) (vp_Si (fun r => r = nI (xnx f a 9))) 0 0 (fun _ => False) := by
  refine x_met (cc := cX3_nextMeasured) (maxL := 3) (ret := (some .int)) (C := RX3) (by decide) rfl rfl (Nat.le_of_ble_eq_true rfl) ?_
  intro p e s m below meth c ls hx hb hml hr hts hown hlocks hin hP hl
  obtain ⟨hsz, hV, hK⟩ := hP
  subst hsz
  have hl : lv_has ls 3 [(0, .ref (loc (ta))), (1, .int (nI (a)))] := hl
  refine lv_iload_n hx hb dX3_nextMeasured_0 rfl (lv_at hl 1 rfl) ?_
  refine lv_istore_n (lv' := [(2, .int (nI (a))), (0, .ref (loc (ta))), (1, .int (nI (a)))]) hx hb dX3_nextMeasured_1 rfl hl (by decide) rfl (fun ls hl => ?_)
  have lp2_2 : ∀ (fuel3 : Nat) (i : Nat) (ls : Array Slot), 9 - i < fuel3 → (i ≤ 9) → (a ≤ i) → (xnx f a 9 = xnx f i (9 - (i - a))) → lv_has ls 3 [(2, .int (nI (i))), (0, .ref (loc (ta))), (1, .int (nI (a)))] → W p l e rm_X3_nextMeasured s m ([.ref (loc (ta)), .int (nI (a))] : List Value).toArray below meth c s.heap [] 0 0 (MQ below (vp_Si (fun r => r = nI (xnx f a 9))) ([.ref (loc (ta)), .int (nI (a))] : List Value).toArray s 0 0 (fun _ => False)) (F0 m 2 ls []) := by
    intro fuel3
    induction fuel3 with
    | zero => intro i ls hm4; exact absurd hm4 (Nat.not_lt_zero _)
    | succ fuel3 ih5 =>
      intro i ls hm4 h1 h2 h3  hl
      refine lv_iload_n hx hb dX3_nextMeasured_2 rfl (lv_at hl 0 rfl) ?_
      refine lv_bipush (v := nI 9) hx hb dX3_nextMeasured_3 (by decide +kernel) ?_
      refine x_cge hx hb (i) (9) (by omega) (by omega) (tgt := 23) dX3_nextMeasured_5 (by decide) (fun c6 => ?_) (fun c6 => ?_)
      · have _u := trivial
        refine lv_bipush (v := nI 8) hx hb dX3_nextMeasured_23 (by decide +kernel) ?_
        exact x_ri hx hb hr hlocks dX3_nextMeasured_25 (absurd (xnx_n (by omega) ha (by omega) h3) h8)
      · have _u := trivial
        refine lv_aload_n hx hb dX3_nextMeasured_8 rfl (lv_at hl 1 rfl) ?_
        refine lv_iload_n hx hb dX3_nextMeasured_9 rfl (lv_at hl 0 rfl) ?_
        refine x_iald hx hb hK hV f1 (i) (by omega) (by decide) dX3_nextMeasured_10 ?_
        refine lv_iconst (v := -1) hx hb dX3_nextMeasured_11 (by decide +kernel) ?_
        refine lv_icmp_eq (tgt := 17) hx hb dX3_nextMeasured_12 (by decide) (fun c7 => ?_) (fun c7 => ?_)
        · have _u := trivial
          refine lv_iinc (v := nI (i + 1)) (lv' := [(2, .int (nI (i + 1))), (0, .ref (loc (ta))), (1, .int (nI (a)))]) hx hb dX3_nextMeasured_17 hl (k := 0) rfl (nI_add _ _) (by decide) rfl (fun ls hl => ?_)
          refine lv_goto (tgt := 2) hx hb dX3_nextMeasured_20 (by decide) ?_
          exact ih5 (i + 1) ls (by omega) (by omega) (by omega) (xnx_s (by omega) (by omega) h3 (by assumption)) (lv_sub hl [0, 1, 2] rfl)
        · have _u := trivial
          refine lv_iload_n hx hb dX3_nextMeasured_15 rfl (lv_at hl 0 rfl) ?_
          exact x_ri hx hb hr hlocks dX3_nextMeasured_16 (by show _ = _; rw [h3, xnx_h (by omega) (by assumption)])
  exact lp2_2 ((9 - a) + 1) a ls (by omega) (by omega) (Nat.le_refl _) (by rw [Nat.sub_self]) (lv_sub hl [0, 1, 2] rfl)
