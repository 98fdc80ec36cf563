abbrev rm_X8_in : Room := { frames := 0, cells := 0, slots := 0, locals := 0 }
set_option maxHeartbeats 4000000 in
set_option maxRecDepth 100000 in
theorem c_X8_in (l : Launch) (D : va_G) (cy : Nat → ClassId) (loc : Nat → Nat) (w : xM) (sz : Nat) (a b h : Int64)  : Met l yX8_in wsX8_in rm_X8_in (va_Pc [.long (a), .long (b), .long (h)] (xP D cy loc w sz)) (vp_Si (fun r => r = xb (b ≤ a ∧ a ≤ h))) 0 0 (fun _ => False) := by
  refine x_met (cc := cX8_in) (maxL := 6) (ret := (some .boolean)) (C := RX8) (by decide) rfl rfl (Nat.le_of_ble_eq_true rfl) ?_
  intro p e s m below meth c ls hx hb hml hr hts hown hlocks hin hP hl
  obtain ⟨hsz, hV, hK⟩ := hP
  subst hsz
  have hl : lv_has ls 6 [(0, .long (a)), (2, .long (b)), (4, .long (h))] := hl
  refine lv_lload_n hx hb dX8_in_0 rfl (lv_at hl 0 rfl) ?_
  refine lv_lload_n hx hb dX8_in_1 rfl (lv_at hl 1 rfl) ?_
  refine x_lcmp hx hb dX8_in_2 ?_
  refine lv_if_lt (tgt := 17) hx hb dX8_in_3 (by decide) (fun c1 => ?_) (fun c1 => ?_)
  · have _u := trivial
    refine lv_iconst (v := nI 0) hx hb dX8_in_17 (by decide +kernel) ?_
    exact x_rz hx hb hr hlocks rfl dX8_in_18 ((xb_f (fun q => Int64.not_lt.mpr q.1 (xcmp_lt c1))).symm)
  · have _u := trivial
    have z_c1 : ¬ xcmp a b < 0 := by first | exact c1 | exact Int32.not_lt.mpr c1
    refine lv_lload_n hx hb dX8_in_6 rfl (lv_at hl 0 rfl) ?_
    refine lv_lload hx hb dX8_in_7 (lv_at hl 2 rfl) ?_
    refine x_lcmp hx hb dX8_in_9 ?_
    refine lv_if_gt (tgt := 17) hx hb dX8_in_10 (by decide) (fun c2 => ?_) (fun c2 => ?_)
    · have _u := trivial
      refine lv_iconst (v := nI 0) hx hb dX8_in_17 (by decide +kernel) ?_
      exact x_rz hx hb hr hlocks rfl dX8_in_18 ((xb_f (fun q => Int64.not_lt.mpr q.2 (xcmp_gt c2))).symm)
    · have _u := trivial
      have z_c2 : ¬ 0 < xcmp a h := by first | exact c2 | exact Int32.not_lt.mpr c2
      refine lv_iconst (v := nI 1) hx hb dX8_in_13 (by decide +kernel) ?_
      refine lv_goto (tgt := 18) hx hb dX8_in_14 (by decide) ?_
      exact x_rz hx hb hr hlocks rfl dX8_in_18 ((xb_t ⟨xcmp_ge z_c1, xcmp_le z_c2⟩).symm)
