abbrev rm_X5_borneAt : Room := { frames := 1, cells := 0, slots := 0, locals := 21 }
theorem hi_X5_borneAt_X5 : ∀ w ∈ wsX50, w ∈ wsX5_borneAt := by decide +kernel
set_option maxHeartbeats 4000000 in
set_option maxRecDepth 100000 in
theorem c_X5_borneAt (l : Launch) (D : va_G) (cy : Nat → ClassId) (loc : Nat → Nat) (w : xM) (sz : Nat) (g : Nat → Int32) (G : Nat → Nat) (hg : ∀ i, i < 9 → g i = nI (G i)) (hG1 : ∀ i, i < 9 → G i ≤ 1000) (T : Nat) (hT : T ≤ 3000) (f1 : w (8) = some (.inr (5, [.ref (loc (9)), .ref (loc (10))]))) (f2 : w (9) = some (eI cy 9 (g))) : Met l yX5_borneAt wsX5_borneAt rm_X5_borneAt (va_Pc [.ref (loc (8)), .int (nI (T))] (xP D cy loc w sz)) (vp_Si (fun r => r = nI (xsm G T 9))) 0 0 (fun _ => False) := by
  refine x_met (cc := cX5_borneAt) (maxL := 4) (ret := (some .int)) (C := RX5) (by decide) rfl rfl (Nat.le_of_ble_eq_true rfl) ?_
  intro p e s m below meth c ls hx hb hml hr hts hown hlocks hin hP hl
  obtain ⟨hsz, hV, hK⟩ := hP
  subst hsz
  have hl : lv_has ls 4 [(0, .ref (loc (8))), (1, .int (nI (T)))] := hl
  refine lv_iconst (v := nI 0) hx hb dX5_borneAt_0 (by decide +kernel) ?_
  refine lv_istore_n (lv' := [(2, .int (nI (0))), (0, .ref (loc (8))), (1, .int (nI (T)))]) hx hb dX5_borneAt_1 rfl hl (by decide) rfl (fun ls hl => ?_)
  refine lv_iconst (v := nI 0) hx hb dX5_borneAt_2 (by decide +kernel) ?_
  refine lv_istore_n (lv' := [(3, .int (nI (0))), (2, .int (nI (0))), (0, .ref (loc (8))), (1, .int (nI (T)))]) hx hb dX5_borneAt_3 rfl hl (by decide) rfl (fun ls hl => ?_)
  have lp4_3 : ∀ (fuel4 : Nat) (k : Nat) (i : Nat) (ls : Array Slot), 9 - i < fuel4 → (i ≤ 9) → (k = xsm G T i) → lv_has ls 4 [(3, .int (nI (i))), (2, .int (nI (k))), (0, .ref (loc (8))), (1, .int (nI (T)))] → W p l e rm_X5_borneAt s m ([.ref (loc (8)), .int (nI (T))] : List Value).toArray below meth c s.heap [] 0 0 (MQ below (vp_Si (fun r => r = nI (xsm G T 9))) ([.ref (loc (8)), .int (nI (T))] : List Value).toArray s 0 0 (fun _ => False)) (F0 m 4 ls []) := by
    intro fuel4
    induction fuel4 with
    | zero => intro k i ls hm5; exact absurd hm5 (Nat.not_lt_zero _)
    | succ fuel4 ih6 =>
      intro k i ls hm5 h2 hk  hl
      refine lv_iload_n hx hb dX5_borneAt_4 rfl (lv_at hl 0 rfl) ?_
      refine lv_bipush (v := nI 9) hx hb dX5_borneAt_5 (by decide +kernel) ?_
      refine x_cge hx hb (i) (9) (by omega) (by omega) (tgt := 31) dX5_borneAt_7 (by decide) (fun c7 => ?_) (fun c7 => ?_)
      · have _u := trivial
        refine lv_iload_n hx hb dX5_borneAt_31 rfl (lv_at hl 1 rfl) ?_
        exact x_ri hx hb hr hlocks dX5_borneAt_32 (by show _ = _; have e : i = 9 := (by omega); subst e; rw [hk])
      · have _u := trivial
        refine lv_iload_n hx hb dX5_borneAt_10 rfl (lv_at hl 1 rfl) ?_
        refine lv_iconst (v := nI 0) hx hb dX5_borneAt_11 (by decide +kernel) ?_
        refine lv_iload_n hx hb dX5_borneAt_12 rfl (lv_at hl 3 rfl) ?_
        refine lv_aload_n hx hb dX5_borneAt_13 rfl (lv_at hl 2 rfl) ?_
        refine x_get (C := RX5) (T := TX5) (N := 2) hx hb hts hi_X5_borneAt_X5 hown hK hV f1 rfl 0 (by decide) (hts (.fieldLink RX5 9 "SaddleHouse$Seat" "gaps" "[I") (by decide +kernel)) (fun _ h9 => h9) rfl dX5_borneAt_14 ?_
        refine lv_iload_n hx hb dX5_borneAt_17 rfl (lv_at hl 0 rfl) ?_
        refine x_iald hx hb hK hV f2 (i) (by omega) (by decide) dX5_borneAt_18 ?_
        refine x_top (congrArg Value.int (show _ = nI (G (i)) from hg i (by omega))) ?_
        refine lv_isub hx hb dX5_borneAt_19 ?_
        refine va_mmax hx hb (by rw [hml]; exact hl.1.symm) hown (hts (.methodLink RX5 26 Lib.Math.max.name) (by decide +kernel)) (hts (.static Lib.Math.max.name) (by decide +kernel)) (hts (.initialized "java/lang/Math") (by decide +kernel)) (hts (.code Lib.Math.max.name Lib.Math.max.code 2 (some .int)) (by decide +kernel)) (Nat.le_of_ble_eq_true rfl) (Nat.le_of_ble_eq_true rfl) (Nat.zero_le _) (Nat.zero_le _) dX5_borneAt_20 ?_
        refine x_top (congrArg Value.int (show _ = nI (T - G i) from x_max0 (by omega) (by have := hG1 i (by omega); omega))) ?_
        refine x_iadd hx hb (k) (T - G i) dX5_borneAt_23 ?_
        refine lv_istore_n (lv' := [(2, .int (nI (k + (T - G i)))), (3, .int (nI (i))), (0, .ref (loc (8))), (1, .int (nI (T)))]) hx hb dX5_borneAt_24 rfl hl (by decide) rfl (fun ls hl => ?_)
        refine lv_iinc (v := nI (i + 1)) (lv' := [(3, .int (nI (i + 1))), (2, .int (nI (k + (T - G i)))), (0, .ref (loc (8))), (1, .int (nI (T)))]) hx hb dX5_borneAt_25 hl (k := 1) rfl (nI_add _ _) (by decide) rfl (fun ls hl => ?_)
        refine lv_goto (tgt := 4) hx hb dX5_borneAt_28 (by decide) ?_
        exact ih6 (k + (T - G i)) (i + 1) ls (by omega) (by omega) (by rw [xsm, hk]) (lv_sub hl [0, 1, 2, 3] rfl)
  exact lp4_3 (9 + 1) 0 0 ls (by omega) (by omega) rfl (lv_sub hl [0, 1, 2, 3] rfl)
abbrev rm_X5_depthFor : Room := { frames := 2, cells := 0, slots := 0, locals := 44 }
set_option maxHeartbeats 4000000 in
set_option maxRecDepth 100000 in
theorem c_X5_depthFor (l : Launch) (D : va_G) (cy : Nat → ClassId) (loc : Nat → Nat) (w : xM) (sz : Nat) (g : Nat → Int32) (G : Nat → Nat) (hg : ∀ i, i < 9 → g i = nI (G i)) (hG1 : ∀ i, i < 9 → G i ≤ 1000) (hG0 : ∃ i, i < 9 ∧ G i = 0) (load : Nat) (hl1 : 1 ≤ load) (hl2 : load ≤ 2000) (f1 : w (8) = some (.inr (5, [.ref (loc (9)), .ref (loc (10))]))) (f2 : w (9) = some (eI cy 9 (g))) : Met l yX5_depthFor wsX5_depthFor rm_X5_depthFor (va_Pc [.ref (loc (8)), .int (nI (load))] (xP D cy loc w sz)) (vp_Si (fun r => r = nI (xdepth G load))) 0 0 (fun _ => False) := by
  refine x_met (cc := cX5_depthFor) (maxL := 4) (ret := (some .int)) (C := RX5) (by decide) rfl rfl (Nat.le_of_ble_eq_true rfl) ?_
  intro p e s m below meth c ls hx hb hml hr hts hown hlocks hin hP hl
  obtain ⟨hsz, hV, hK⟩ := hP
  subst hsz
  have hl : lv_has ls 4 [(0, .ref (loc (8))), (1, .int (nI (load)))] := hl
  obtain ⟨i0, hi0, hz0⟩ := hG0
  refine lv_iconst (v := nI 0) hx hb dX5_depthFor_0 (by decide +kernel) ?_
  refine lv_istore_n (lv' := [(2, .int (nI (0))), (0, .ref (loc (8))), (1, .int (nI (load)))]) hx hb dX5_depthFor_1 rfl hl (by decide) rfl (fun ls hl => ?_)
  refine lv_sipush (v := nI 1024) hx hb dX5_depthFor_2 (by decide +kernel) ?_
  refine lv_istore_n (lv' := [(3, .int (nI (1024))), (2, .int (nI (0))), (0, .ref (loc (8))), (1, .int (nI (load)))]) hx hb dX5_depthFor_5 rfl hl (by decide) rfl (fun ls hl => ?_)
  have lp6_3 : ∀ (fuel4 : Nat) (tl : Nat) (st : Nat) (ls : Array Slot), st < fuel4 → (st = 1024 ∨ st = 512 ∨ st = 256 ∨ st = 128 ∨ st = 64 ∨ st = 32 ∨ st = 16 ∨ st = 8 ∨ st = 4 ∨ st = 2 ∨ st = 1 ∨ st = 0) → (tl + 2 * st ≤ 2048) → (xsm G tl 9 < load) → (st = 0 → load ≤ xsm G (tl + 1) 9) → (load ≤ xsm G (tl + 2 * st) 9 ∨ st = 0) → lv_has ls 4 [(3, .int (nI (st))), (2, .int (nI (tl))), (0, .ref (loc (8))), (1, .int (nI (load)))] → W p l e rm_X5_depthFor s m ([.ref (loc (8)), .int (nI (load))] : List Value).toArray below meth c s.heap [] 0 0 (MQ below (vp_Si (fun r => r = nI (xdepth G load))) ([.ref (loc (8)), .int (nI (load))] : List Value).toArray s 0 0 (fun _ => False)) (F0 m 6 ls []) := by
    intro fuel4
    induction fuel4 with
    | zero => intro tl st ls hm5; exact absurd hm5 (Nat.not_lt_zero _)
    | succ fuel4 ih6 =>
      intro tl st ls hm5 h1 h2 h3 h4 h5  hl
      refine lv_iload_n hx hb dX5_depthFor_6 rfl (lv_at hl 0 rfl) ?_
      refine lv_if_le (tgt := 32) hx hb dX5_depthFor_7 (by decide) (fun c7 => ?_) (fun c7 => ?_)
      · have _u := trivial
        have c7 : st = 0 := nI_le0 (by omega) c7
        refine lv_iload_n hx hb dX5_depthFor_32 rfl (lv_at hl 1 rfl) ?_
        refine lv_iconst (v := nI 1) hx hb dX5_depthFor_33 (by decide +kernel) ?_
        refine x_iadd hx hb (tl) (1) dX5_depthFor_34 ?_
        exact x_ri hx hb hr hlocks dX5_depthFor_35 (by show _ = _; rw [xdepth_of h3 (h4 (by assumption)) (by omega)])
      · have _u := trivial
        have c7 : st ≠ 0 := fun q => c7 (by rw [q]; decide)
        refine lv_aload_n hx hb dX5_depthFor_10 rfl (lv_at hl 2 rfl) ?_
        refine lv_iload_n hx hb dX5_depthFor_11 rfl (lv_at hl 1 rfl) ?_
        refine lv_iload_n hx hb dX5_depthFor_12 rfl (lv_at hl 0 rfl) ?_
        refine x_iadd hx hb (tl) (st) dX5_depthFor_13 ?_
        refine x_ci (va_runV (As := [.int (nI (tl + st))]) (rest := []) ⟨hx, hb, hml, hown, hts⟩ (c_X5_borneAt l D cy loc w s.heap.size g G hg hG1 (tl + st) (by omega) f1 f2) (cwV 1 hts gX5_depthFor_X5_borneAt rfl rfl rfl (by decide +kernel) ⟨Nat.le_of_ble_eq_true rfl, Nat.le_of_ble_eq_true rfl⟩) (x_preV hK hV f1 rfl) rfl rfl hl.1 rfl (lv_room (Nat.le_of_ble_eq_true rfl)) dX5_depthFor_14 ⟨Nat.le_of_ble_eq_true rfl, Nat.le_of_ble_eq_true rfl⟩) (fun r8 hr9 => ?_)
        obtain rfl : r8 = nI (xsm G (tl + st) 9) := hr9
        refine lv_iload_n hx hb dX5_depthFor_17 rfl (lv_at hl 3 rfl) ?_
        refine x_cge hx hb (xsm G (tl + st) 9) (load) (by have := xsm_le (G := G) (tl + st) 9; omega) (by have := xsm_le (G := G) (tl + st) 9; omega) (tgt := 25) dX5_depthFor_18 (by decide) (fun c10 => ?_) (fun c10 => ?_)
        · have _u := trivial
          refine lv_iload_n hx hb dX5_depthFor_25 rfl (lv_at hl 0 rfl) ?_
          refine lv_iconst (v := nI 2) hx hb dX5_depthFor_26 (by decide +kernel) ?_
          refine x_idiv hx hb (st) (2) (by omega) (by omega) (by omega) dX5_depthFor_27 ?_
          refine lv_istore_n (lv' := [(3, .int (nI (st / 2))), (2, .int (nI (tl))), (0, .ref (loc (8))), (1, .int (nI (load)))]) hx hb dX5_depthFor_28 rfl hl (by decide) rfl (fun ls hl => ?_)
          refine lv_goto (tgt := 6) hx hb dX5_depthFor_29 (by decide) ?_
          exact ih6 tl (st / 2) ls (by omega) (by omega) (by omega) (by assumption) (xdp_h4 h1 h5 (by assumption) (by first | exact Or.inl ⟨by assumption, rfl⟩ | exact Or.inr ⟨by assumption, rfl⟩)) (xdp_h5 h1 h5 (by assumption) (by first | exact Or.inl ⟨by assumption, rfl⟩ | exact Or.inr ⟨by assumption, rfl⟩)) (lv_sub hl [0, 1, 2, 3] rfl)
        · have _u := trivial
          refine lv_iload_n hx hb dX5_depthFor_21 rfl (lv_at hl 1 rfl) ?_
          refine lv_iload_n hx hb dX5_depthFor_22 rfl (lv_at hl 0 rfl) ?_
          refine x_iadd hx hb (tl) (st) dX5_depthFor_23 ?_
          refine lv_istore_n (lv' := [(2, .int (nI (tl + st))), (3, .int (nI (st))), (0, .ref (loc (8))), (1, .int (nI (load)))]) hx hb dX5_depthFor_24 rfl hl (by decide) rfl (fun ls hl => ?_)
          refine lv_iload_n hx hb dX5_depthFor_25 rfl (lv_at hl 1 rfl) ?_
          refine lv_iconst (v := nI 2) hx hb dX5_depthFor_26 (by decide +kernel) ?_
          refine x_idiv hx hb (st) (2) (by omega) (by omega) (by omega) dX5_depthFor_27 ?_
          refine lv_istore_n (lv' := [(3, .int (nI (st / 2))), (2, .int (nI (tl + st))), (0, .ref (loc (8))), (1, .int (nI (load)))]) hx hb dX5_depthFor_28 rfl hl (by decide) rfl (fun ls hl => ?_)
          refine lv_goto (tgt := 6) hx hb dX5_depthFor_29 (by decide) ?_
          exact ih6 (tl + st) (st / 2) ls (by omega) (by omega) (by omega) (by assumption) (xdp_h4 h1 h5 (by assumption) (by first | exact Or.inl ⟨by assumption, rfl⟩ | exact Or.inr ⟨by assumption, rfl⟩)) (xdp_h5 h1 h5 (by assumption) (by first | exact Or.inl ⟨by assumption, rfl⟩ | exact Or.inr ⟨by assumption, rfl⟩)) (lv_sub hl [0, 1, 2, 3] rfl)
  exact lp6_3 (1024 + 1) 0 1024 ls (by omega) (Or.inl rfl) (by omega) (by rw [xsm_0]; omega) (fun h => absurd h (by decide)) (Or.inl (Nat.le_trans (by omega) (xsm_ge hz0 9 hi0))) (lv_sub hl [0, 1, 2, 3] rfl)
