abbrev rm_X8_isLater : Room := { frames := 2, cells := 0, slots := 0, locals := 45 }
theorem hi_X8_isLater_X8 : ∀ w ∈ wsX80, w ∈ wsX8_isLater := fun w h => List.mem_cons_of_mem _ (List.mem_append_right _ h)
set_option maxHeartbeats 4000000 in
set_option maxRecDepth 100000 in
theorem c_X8_isLater (l : Launch) (D : va_G) (cy : Nat → ClassId) (loc : Nat → Nat) (w : xM) (sz : Nat) (σ : xS) (hN : xN8 σ) (hR : yR cy loc σ w) (d : Int32) (ks : Nat) (hks : ks < σ.2 4)   : Met l yX8_isLater wsX8_isLater rm_X8_isLater (va_Pc [.ref (loc (300)), .int (nI (ks)), .int (d)] (xP D cy loc w sz)) (vp_Si (fun r => r = xb ((nI 0 ≤ d ∧ d ≤ nI 10000) ∧ σ.1 9 (5 * ks + 2) < d))) 0 0 (fun _ => False) := by
  refine x_met (cc := cX8_isLater) (maxL := 3) (ret := (some .boolean)) (C := RX8) (by decide) rfl rfl (Nat.le_of_ble_eq_true rfl) ?_
  intro p e s m below meth c ls hx hb hml hr hts hown hlocks hin hP hl
  obtain ⟨hsz, hV, hK⟩ := hP
  subst hsz
  have hl : lv_has ls 3 [(0, .ref (loc (300))), (1, .int (nI (ks))), (2, .int (d))] := hl
  have hNN := hN
  have hRR := hR
  obtain ⟨g0, b0, q0, v0, hw⟩ := hR
  obtain ⟨hN0, hN1, hN2, hN3, hN4, hN5, hN6⟩ := hN
  have f1 : w (300) = some (.inr (8, [.ref (loc (301)), .int (nI (σ.2 0)), .ref (loc (302)), .ref (loc (303)), .ref (loc (304)), .int (nI (σ.2 1)), .ref (loc (305)), .ref (loc (306)), .ref (loc (307)), .ref (loc (308)), .int (v0 0), .int (v0 1), .int (v0 2), .int (v0 3), .int (nI (σ.2 5)), .ref (loc (309)), .ref (loc (310)), .int (v0 4), .int (nI (σ.2 2)), .ref (loc (311)), .int (nI (σ.2 3)), .ref (loc (312)), .ref (loc (313)), .int (σ.1 10 0), .int (σ.1 10 1), .int (nI (σ.2 4)), .ref (loc (314))])) := (hw 0 (by decide)).trans rfl
  have f2 : w (314) = some (eI cy 60 (σ.1 9)) := (hw 14 (by decide)).trans rfl
  refine lv_iload_n hx hb dX8_isLater_0 rfl (lv_at hl 2 rfl) ?_
  refine x_ci (va_runS (As := [.int (d)]) (rest := []) ⟨hx, hb, hml, hown, hts⟩ (c_X8_isDay l D cy loc w s.heap.size d) (cwS 1 hts gX8_isLater_X8_isDay rfl rfl rfl (by decide +kernel) ⟨Nat.le_of_ble_eq_true rfl, Nat.le_of_ble_eq_true rfl⟩) (x_preS hK hV) rfl rfl hl.1 rfl (lv_room (Nat.le_of_ble_eq_true rfl)) dX8_isLater_1 ⟨Nat.le_of_ble_eq_true rfl, Nat.le_of_ble_eq_true rfl⟩) (fun r3 hr4 => ?_)
  have ez5 : xb (nI 0 ≤ d ∧ d ≤ nI 10000) = r3 := Eq.symm (show r3 = xb (nI 0 ≤ d ∧ d ≤ nI 10000) from hr4)
  subst ez5
  refine x_beq (tgt := 25) hx hb dX8_isLater_4 (by decide) (fun c6 => ?_) (fun c6 => ?_)
  · have _u := trivial
    refine lv_iconst (v := nI 0) hx hb dX8_isLater_25 (by decide +kernel) ?_
    exact x_rz hx hb hr hlocks rfl dX8_isLater_26 ((xb_f (fun q => c6 q.1)).symm)
  · have _u := trivial
    refine lv_iload_n hx hb dX8_isLater_7 rfl (lv_at hl 2 rfl) ?_
    refine lv_aload_n hx hb dX8_isLater_8 rfl (lv_at hl 0 rfl) ?_
    refine x_get (C := RX8) (T := TX8) (N := 27) hx hb hts hi_X8_isLater_X8 hown hK hV f1 rfl 26 (by decide) (hts (.fieldLink RX8 49 "SaddleHouseModel" "saddle" "[I") (List.mem_of_getElem? (i := 1) rfl)) (fun _ h9 => h9) rfl dX8_isLater_9 ?_
    refine lv_iconst (v := nI 5) hx hb dX8_isLater_12 (by decide +kernel) ?_
    refine lv_iload_n hx hb dX8_isLater_13 rfl (lv_at hl 1 rfl) ?_
    refine x_imul hx hb (5) (ks) dX8_isLater_14 ?_
    refine lv_iconst (v := nI 2) hx hb dX8_isLater_15 (by decide +kernel) ?_
    refine x_iadd hx hb (5 * ks) (2) dX8_isLater_16 ?_
    refine x_iald hx hb hK hV f2 ((5 * ks) + 2) (by omega) (by decide) dX8_isLater_17 ?_
    refine lv_icmp_le (tgt := 25) hx hb dX8_isLater_18 (by decide) (fun c7 => ?_) (fun c7 => ?_)
    · have _u := trivial
      refine lv_iconst (v := nI 0) hx hb dX8_isLater_25 (by decide +kernel) ?_
      exact x_rz hx hb hr hlocks rfl dX8_isLater_26 ((xb_f (fun q => absurd q.2 (Int32.not_lt.mpr c7))).symm)
    · have _u := trivial
      refine lv_iconst (v := nI 1) hx hb dX8_isLater_21 (by decide +kernel) ?_
      refine lv_goto (tgt := 26) hx hb dX8_isLater_22 (by decide) ?_
      exact x_rz hx hb hr hlocks rfl dX8_isLater_26 ((xb_t ⟨c6, Int32.not_le.mp c7⟩).symm)
