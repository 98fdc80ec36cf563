abbrev rm_X2_init : Room := { frames := 1, cells := 1, slots := 6, locals := 20 }
theorem hi_X2_init_X2 : ∀ w ∈ wsX20, w ∈ wsX2_init := by decide +kernel
-- a horse
set_option maxHeartbeats 4000000 in
set_option maxRecDepth 100000 in
theorem c_X2_init (l : Launch) (D : va_G) (cy : Nat → ClassId) (loc : Nat → Nat) (w : xM) (sz : Nat) (t tm : Nat) (n1 : t ≠ tm) (f1 : w (t) = some (.inr (2, [.null, .int (0)]))) (nn2 : w (tm) = none) : Met l yX2_init wsX2_init rm_X2_init (va_Pc [.ref (loc (t))] (xP D cy loc w sz)) (va_Qv (fun u => (∀ b, b ≠ tm → u.1 b = loc b) ∧ u.2 = xup (xup w tm (eQ cy 4 6 (fun _ => none))) t (.inr (2, [.ref (u.1 tm), .int (nI 0)]))) (xB D (xA loc w sz)) (xA loc w sz)) 1 6 (xA loc w sz) := by
  refine x_met (cc := cX2_init) (maxL := 1) (ret := none) (C := RX2) (by decide) rfl rfl (Nat.le_of_ble_eq_true rfl) ?_
  intro p e s m below meth c ls hx hb hml hr hts hown hlocks hin hP hl
  obtain ⟨hsz, hV, hK⟩ := hP
  subst hsz
  have hA : ∀ q : Nat, s.heap.size ≤ q → xA loc w s.heap.size q := fun q h => Or.inr h
  have hS : va_S (xA loc w s.heap.size) s.heap s.heap [] := va_S.rf
  have hl : lv_has ls 1 [(0, .ref (loc (t)))] := hl
  refine lv_aload_n hx hb dX2_init_0 rfl (lv_at hl 0 rfl) ?_
  refine W.objInit hx hb hown (hts (.methodLink RX2 3 objectInit) (by decide +kernel)) (hts (.instanceMethod objectInit) (by decide +kernel)) (hts (.code objectInit ⟨#[0xb1]⟩ 1 none) (by decide +kernel)) rfl (by rw [hml]; exact hl.1) rfl dX2_init_1 (Nat.le_of_ble_eq_true rfl) (Nat.le_of_ble_eq_true rfl) ?_
  refine W.eq (g2 := F0 m 4 ls []) rfl ?_
  refine lv_aload_n hx hb dX2_init_4 rfl (lv_at hl 0 rfl) ?_
  refine lv_bipush (v := nI 6) hx hb dX2_init_5 (by decide +kernel) ?_
  refine x_newq (tm) (nn2) hx hb (C := RX3) (t0 := 4) hown (hts (.classLink RX2 9 RX3) (by decide +kernel)) (by decide +kernel) rfl hK hV hS hA (6) (by decide) (Nat.le_of_ble_eq_true rfl) (Nat.le_of_ble_eq_true rfl) dX2_init_7 (fun q6 H3 hV4 hS5 => ?_)
  obtain ⟨loc7, hq8, hlo9, hV10⟩ : ∃ z : Nat → Nat, z (tm) = q6 ∧ (∀ b, b ≠ tm → loc b = z b) ∧ xV D (xA loc w s.heap.size) z (xup w (tm) (eQ cy 4 6 (fun _ => none))) H3 := ⟨_, va_up_self _ _ _, fun b hb => (va_up_ne _ _ hb).symm, hV4⟩
  subst hq8
  have e11 : loc (t) = loc7 (t) := hlo9 _ (by omega)
  refine W.eq (g2 := F0 m 10 ls [.ref (loc7 (tm)), .ref (loc7 (t))]) (by rw [e11]) ?_
  have hl : lv_has ls 1 [(0, .ref (loc7 (t)))] := Eq.mp (congrArg (lv_has ls 1) (show ([(0, .ref (loc (t)))] : List (Nat × Value)) = [(0, .ref (loc7 (t)))] from by rw [e11])) hl
  have f12 : (xup w (tm) (eQ cy 4 6 (fun _ => none))) (t) = some (.inr (2, [.null, .int (0)])) := xup_o (f1) (by omega)
  have f13 : (xup w (tm) (eQ cy 4 6 (fun _ => none))) (tm) = some (eQ cy 4 6 (fun _ => none)) := xup_at _ _ _
  refine x_putF (C := RX2) (T := TX2) (N := 2) (v := .ref (loc7 (tm))) (ty := .array (.object "SaddleHouse$Measure")) hx hb hts hi_X2_init_X2 tyX2 tyX2_ok nmX2 hown hK hV10 hS5 f12 rfl 0 (by decide) (hts (.fieldLink RX2 11 "SaddleHouse$Horse" "measures" "[LSaddleHouse$Measure;") (by decide +kernel)) (fun _ h9 => h9) rfl hin rfl (by decide +kernel) rfl rfl (Nat.le_of_ble_eq_true rfl) dX2_init_10 (fun H14 L15 hV16 hS17 => ?_)
  have f18 : (xup (xup w (tm) (eQ cy 4 6 (fun _ => none))) (t) (.inr (2, [.ref (loc7 (tm)), .int (0)]))) (t) = some (.inr (2, [.ref (loc7 (tm)), .int (0)])) := xup_at _ _ _
  have f19 : (xup (xup w (tm) (eQ cy 4 6 (fun _ => none))) (t) (.inr (2, [.ref (loc7 (tm)), .int (0)]))) (tm) = some (eQ cy 4 6 (fun _ => none)) := xup_o (f13) (by omega)
  refine lv_aload_n hx hb dX2_init_13 rfl (lv_at hl 0 rfl) ?_
  refine lv_iconst (v := nI 0) hx hb dX2_init_14 (by decide +kernel) ?_
  refine x_putf (C := RX2) (T := TX2) (N := 2) (v := .int (nI (0))) (ty := .int) hx hb hts hi_X2_init_X2 tyX2 tyX2_ok nmX2 hown hK hV16 hS17 f18 rfl 1 (by decide) (hts (.fieldLink RX2 17 "SaddleHouse$Horse" "measureCount" "I") (by decide +kernel)) (fun _ h9 => h9) rfl (by decide +kernel) rfl rfl (Nat.le_of_ble_eq_true rfl) dX2_init_15 (fun H20 L21 hV22 hS23 => ?_)
  have hV24 := hV22.eq (xup_xup _ _ _ _)
  have f25 : (xup (xup w (tm) (eQ cy 4 6 (fun _ => none))) (t) (.inr (2, [.ref (loc7 (tm)), .int (nI (0))]))) (t) = some (.inr (2, [.ref (loc7 (tm)), .int (nI (0))])) := xup_at _ _ _
  have f26 : (xup (xup w (tm) (eQ cy 4 6 (fun _ => none))) (t) (.inr (2, [.ref (loc7 (tm)), .int (nI (0))]))) (tm) = some (eQ cy 4 6 (fun _ => none)) := xup_o (f13) (by omega)
  refine W.widen (k := 1) (n := 6) (by omega) (by omega) ?_
  exact x_rmv hx hb hr hlocks dX2_init_18 hV24 hS23 (⟨fun b9 n0 => (hlo9 b9 n0).symm, rfl⟩)
abbrev rm_X1_init : Room := { frames := 1, cells := 1, slots := 192, locals := 20 }
theorem hi_X1_init_X1 : ∀ w ∈ wsX10, w ∈ wsX1_init := by decide +kernel
set_option maxHeartbeats 4000000 in
set_option maxRecDepth 100000 in
theorem c_X1_init (l : Launch) (D : va_G) (cy : Nat → ClassId) (loc : Nat → Nat) (w : xM) (sz : Nat) (t tp : Nat) (n1 : t ≠ tp) (f1 : w (t) = some (.inr (1, [.null]))) (nn2 : w (tp) = none) : Met l yX1_init wsX1_init rm_X1_init (va_Pc [.ref (loc (t))] (xP D cy loc w sz)) (va_Qv (fun u => (∀ b, b ≠ tp → u.1 b = loc b) ∧ u.2 = xup (xup w tp (eI cy 192 (fun _ => 0))) t (.inr (1, [.ref (u.1 tp)]))) (xB D (xA loc w sz)) (xA loc w sz)) 1 192 (xA loc w sz) := by
  refine x_met (cc := cX1_init) (maxL := 1) (ret := none) (C := RX1) (by decide) rfl rfl (Nat.le_of_ble_eq_true rfl) ?_
  intro p e s m below meth c ls hx hb hml hr hts hown hlocks hin hP hl
  obtain ⟨hsz, hV, hK⟩ := hP
  subst hsz
  have hA : ∀ q : Nat, s.heap.size ≤ q → xA loc w s.heap.size q := fun q h => Or.inr h
  have hS : va_S (xA loc w s.heap.size) s.heap s.heap [] := va_S.rf
  have hl : lv_has ls 1 [(0, .ref (loc (t)))] := hl
  refine lv_aload_n hx hb dX1_init_0 rfl (lv_at hl 0 rfl) ?_
  refine W.objInit hx hb hown (hts (.methodLink RX1 3 objectInit) (by decide +kernel)) (hts (.instanceMethod objectInit) (by decide +kernel)) (hts (.code objectInit ⟨#[0xb1]⟩ 1 none) (by decide +kernel)) rfl (by rw [hml]; exact hl.1) rfl dX1_init_1 (Nat.le_of_ble_eq_true rfl) (Nat.le_of_ble_eq_true rfl) ?_
  refine W.eq (g2 := F0 m 4 ls []) rfl ?_
  refine lv_aload_n hx hb dX1_init_4 rfl (lv_at hl 0 rfl) ?_
  refine lv_sipush (v := nI 192) hx hb dX1_init_5 (by decide +kernel) ?_
  refine x_newa (tp) (nn2) hx hb (hts (.arrayClass .int) (by decide +kernel)) hK hV hS hA (192) (by decide) (Nat.le_of_ble_eq_true rfl) (Nat.le_of_ble_eq_true rfl) dX1_init_8 (fun q6 H3 hV4 hS5 => ?_)
  obtain ⟨loc7, hq8, hlo9, hV10⟩ : ∃ z : Nat → Nat, z (tp) = q6 ∧ (∀ b, b ≠ tp → loc b = z b) ∧ xV D (xA loc w s.heap.size) z (xup w (tp) (eI cy 192 (fun _ => 0))) H3 := ⟨_, va_up_self _ _ _, fun b hb => (va_up_ne _ _ hb).symm, hV4⟩
  subst hq8
  have e11 : loc (t) = loc7 (t) := hlo9 _ (by omega)
  refine W.eq (g2 := F0 m 10 ls [.ref (loc7 (tp)), .ref (loc7 (t))]) (by rw [e11]) ?_
  have hl : lv_has ls 1 [(0, .ref (loc7 (t)))] := Eq.mp (congrArg (lv_has ls 1) (show ([(0, .ref (loc (t)))] : List (Nat × Value)) = [(0, .ref (loc7 (t)))] from by rw [e11])) hl
  have f12 : (xup w (tp) (eI cy 192 (fun _ => 0))) (t) = some (.inr (1, [.null])) := xup_o (f1) (by omega)
  have f13 : (xup w (tp) (eI cy 192 (fun _ => 0))) (tp) = some (eI cy 192 (fun _ => 0)) := xup_at _ _ _
  refine x_putF (C := RX1) (T := TX1) (N := 1) (v := .ref (loc7 (tp))) (ty := .array .int) hx hb hts hi_X1_init_X1 tyX1 tyX1_ok nmX1 hown hK hV10 hS5 f12 rfl 0 (by decide) (hts (.fieldLink RX1 9 "SaddleHouse$Hide" "patches" "[I") (by decide +kernel)) (fun _ h9 => h9) rfl hin rfl (by decide +kernel) rfl rfl (Nat.le_of_ble_eq_true rfl) dX1_init_10 (fun H14 L15 hV16 hS17 => ?_)
  have f18 : (xup (xup w (tp) (eI cy 192 (fun _ => 0))) (t) (.inr (1, [.ref (loc7 (tp))]))) (t) = some (.inr (1, [.ref (loc7 (tp))])) := xup_at _ _ _
  have f19 : (xup (xup w (tp) (eI cy 192 (fun _ => 0))) (t) (.inr (1, [.ref (loc7 (tp))]))) (tp) = some (eI cy 192 (fun _ => 0)) := xup_o (f13) (by omega)
  refine W.widen (k := 1) (n := 192) (by omega) (by omega) ?_
  exact x_rmv hx hb hr hlocks dX1_init_13 hV16 hS17 (⟨fun b9 n0 => (hlo9 b9 n0).symm, rfl⟩)
abbrev rm_X0_init : Room := { frames := 1, cells := 0, slots := 0, locals := 20 }
theorem hi_X0_init_X0 : ∀ w ∈ wsX00, w ∈ wsX0_init := by decide +kernel
set_option maxHeartbeats 4000000 in
set_option maxRecDepth 100000 in
theorem c_X0_init (l : Launch) (D : va_G) (cy : Nat → ClassId) (loc : Nat → Nat) (w : xM) (sz : Nat) (t : Nat) (n : Int32) (f1 : w (t) = some (.inr (0, [.int (0), .int (0)]))) : Met l yX0_init wsX0_init rm_X0_init (va_Pc [.ref (loc (t)), .int (n)] (xP D cy loc w sz)) (va_Qv (fun u => u.1 = loc ∧ u.2 = xup w t (.inr (0, [.int n, .int (nI 0)]))) (xB D (xA loc w sz)) (xA loc w sz)) 0 0 (xA loc w sz) := by
  refine x_met (cc := cX0_init) (maxL := 2) (ret := none) (C := RX0) (by decide) rfl rfl (Nat.le_of_ble_eq_true rfl) ?_
  intro p e s m below meth c ls hx hb hml hr hts hown hlocks hin hP hl
  obtain ⟨hsz, hV, hK⟩ := hP
  subst hsz
  have hA : ∀ q : Nat, s.heap.size ≤ q → xA loc w s.heap.size q := fun q h => Or.inr h
  have hS : va_S (xA loc w s.heap.size) s.heap s.heap [] := va_S.rf
  have hl : lv_has ls 2 [(0, .ref (loc (t))), (1, .int (n))] := hl
  refine lv_aload_n hx hb dX0_init_0 rfl (lv_at hl 0 rfl) ?_
  refine W.objInit hx hb hown (hts (.methodLink RX0 3 objectInit) (by decide +kernel)) (hts (.instanceMethod objectInit) (by decide +kernel)) (hts (.code objectInit ⟨#[0xb1]⟩ 1 none) (by decide +kernel)) rfl (by rw [hml]; exact hl.1) rfl dX0_init_1 (Nat.le_of_ble_eq_true rfl) (Nat.le_of_ble_eq_true rfl) ?_
  refine W.eq (g2 := F0 m 4 ls []) rfl ?_
  refine lv_aload_n hx hb dX0_init_4 rfl (lv_at hl 0 rfl) ?_
  refine lv_iconst (v := nI 0) hx hb dX0_init_5 (by decide +kernel) ?_
  refine x_putf (C := RX0) (T := TX0) (N := 2) (v := .int (nI (0))) (ty := .int) hx hb hts hi_X0_init_X0 tyX0 tyX0_ok nmX0 hown hK hV hS f1 rfl 1 (by decide) (hts (.fieldLink RX0 9 "SaddleHouse$Bench" "freeHour" "I") (by decide +kernel)) (fun _ h9 => h9) rfl (by decide +kernel) rfl rfl (Nat.le_of_ble_eq_true rfl) dX0_init_6 (fun H2 L3 hV4 hS5 => ?_)
  have f6 : (xup w (t) (.inr (0, [.int (0), .int (nI (0))]))) (t) = some (.inr (0, [.int (0), .int (nI (0))])) := xup_at _ _ _
  refine lv_aload_n hx hb dX0_init_9 rfl (lv_at hl 0 rfl) ?_
  refine lv_iload_n hx hb dX0_init_10 rfl (lv_at hl 1 rfl) ?_
  refine x_putF (C := RX0) (T := TX0) (N := 2) (v := .int (n)) (ty := .int) hx hb hts hi_X0_init_X0 tyX0 tyX0_ok nmX0 hown hK hV4 hS5 f6 rfl 0 (by decide) (hts (.fieldLink RX0 15 "SaddleHouse$Bench" "hours" "I") (by decide +kernel)) (fun _ h9 => h9) rfl hin rfl (by decide +kernel) rfl rfl (Nat.le_of_ble_eq_true rfl) dX0_init_11 (fun H7 L8 hV9 hS10 => ?_)
  have hV11 := hV9.eq (xup_xup _ _ _ _)
  have f12 : (xup w (t) (.inr (0, [.int (n), .int (nI (0))]))) (t) = some (.inr (0, [.int (n), .int (nI (0))])) := xup_at _ _ _
  exact x_rmv hx hb hr hlocks dX0_init_14 hV11 hS10 (⟨rfl, rfl⟩)
abbrev rm_X4_init : Room := { frames := 1, cells := 0, slots := 0, locals := 20 }
theorem hi_X4_init_X4 : ∀ w ∈ wsX40, w ∈ wsX4_init := by decide +kernel
set_option maxHeartbeats 4000000 in
set_option maxRecDepth 100000 in
theorem c_X4_init (l : Launch) (D : va_G) (cy : Nat → ClassId) (loc : Nat → Nat) (w : xM) (sz : Nat) (t : Nat) (s0 s1 s2 s3 s4 : Int32) (f1 : w (t) = some (.inr (4, [.int (0), .int (0), .int (0), .int (0), .int (0)]))) : Met l yX4_init wsX4_init rm_X4_init (va_Pc [.ref (loc (t)), .int (s0), .int (s1), .int (s2), .int (s3), .int (s4)] (xP D cy loc w sz)) (va_Qv (fun u => u.1 = loc ∧ u.2 = xup w t (.inr (4, [.int s0, .int s1, .int s2, .int s3, .int s4]))) (xB D (xA loc w sz)) (xA loc w sz)) 0 0 (xA loc w sz) := by
  refine x_met (cc := cX4_init) (maxL := 6) (ret := none) (C := RX4) (by decide) rfl rfl (Nat.le_of_ble_eq_true rfl) ?_
  intro p e s m below meth c ls hx hb hml hr hts hown hlocks hin hP hl
  obtain ⟨hsz, hV, hK⟩ := hP
  subst hsz
  have hA : ∀ q : Nat, s.heap.size ≤ q → xA loc w s.heap.size q := fun q h => Or.inr h
  have hS : va_S (xA loc w s.heap.size) s.heap s.heap [] := va_S.rf
  have hl : lv_has ls 6 [(0, .ref (loc (t))), (1, .int (s0)), (2, .int (s1)), (3, .int (s2)), (4, .int (s3)), (5, .int (s4))] := hl
  refine lv_aload_n hx hb dX4_init_0 rfl (lv_at hl 0 rfl) ?_
  refine W.objInit hx hb hown (hts (.methodLink RX4 1 objectInit) (by decide +kernel)) (hts (.instanceMethod objectInit) (by decide +kernel)) (hts (.code objectInit ⟨#[0xb1]⟩ 1 none) (by decide +kernel)) rfl (by rw [hml]; exact hl.1) rfl dX4_init_1 (Nat.le_of_ble_eq_true rfl) (Nat.le_of_ble_eq_true rfl) ?_
  refine W.eq (g2 := F0 m 4 ls []) rfl ?_
  refine lv_aload_n hx hb dX4_init_4 rfl (lv_at hl 0 rfl) ?_
  refine lv_iload_n hx hb dX4_init_5 rfl (lv_at hl 1 rfl) ?_
  refine x_putF (C := RX4) (T := TX4) (N := 5) (v := .int (s0)) (ty := .int) hx hb hts hi_X4_init_X4 tyX4 tyX4_ok nmX4 hown hK hV hS f1 rfl 0 (by decide) (hts (.fieldLink RX4 7 "SaddleHouse$Saddle" "tree" "I") (by decide +kernel)) (fun _ h9 => h9) rfl hin rfl (by decide +kernel) rfl rfl (Nat.le_of_ble_eq_true rfl) dX4_init_6 (fun H2 L3 hV4 hS5 => ?_)
  have f6 : (xup w (t) (.inr (4, [.int (s0), .int (0), .int (0), .int (0), .int (0)]))) (t) = some (.inr (4, [.int (s0), .int (0), .int (0), .int (0), .int (0)])) := xup_at _ _ _
  refine lv_aload_n hx hb dX4_init_9 rfl (lv_at hl 0 rfl) ?_
  refine lv_iload_n hx hb dX4_init_10 rfl (lv_at hl 2 rfl) ?_
  refine x_putF (C := RX4) (T := TX4) (N := 5) (v := .int (s1)) (ty := .int) hx hb hts hi_X4_init_X4 tyX4 tyX4_ok nmX4 hown hK hV4 hS5 f6 rfl 1 (by decide) (hts (.fieldLink RX4 13 "SaddleHouse$Saddle" "horse" "I") (by decide +kernel)) (fun _ h9 => h9) rfl hin rfl (by decide +kernel) rfl rfl (Nat.le_of_ble_eq_true rfl) dX4_init_11 (fun H7 L8 hV9 hS10 => ?_)
  have hV11 := hV9.eq (xup_xup _ _ _ _)
  have f12 : (xup w (t) (.inr (4, [.int (s0), .int (s1), .int (0), .int (0), .int (0)]))) (t) = some (.inr (4, [.int (s0), .int (s1), .int (0), .int (0), .int (0)])) := xup_at _ _ _
  refine lv_aload_n hx hb dX4_init_14 rfl (lv_at hl 0 rfl) ?_
  refine lv_iload_n hx hb dX4_init_15 rfl (lv_at hl 3 rfl) ?_
  refine x_putF (C := RX4) (T := TX4) (N := 5) (v := .int (s2)) (ty := .int) hx hb hts hi_X4_init_X4 tyX4 tyX4_ok nmX4 hown hK hV11 hS10 f12 rfl 2 (by decide) (hts (.fieldLink RX4 16 "SaddleHouse$Saddle" "day" "I") (by decide +kernel)) (fun _ h9 => h9) rfl hin rfl (by decide +kernel) rfl rfl (Nat.le_of_ble_eq_true rfl) dX4_init_16 (fun H13 L14 hV15 hS16 => ?_)
  have hV17 := hV15.eq (xup_xup _ _ _ _)
  have f18 : (xup w (t) (.inr (4, [.int (s0), .int (s1), .int (s2), .int (0), .int (0)]))) (t) = some (.inr (4, [.int (s0), .int (s1), .int (s2), .int (0), .int (0)])) := xup_at _ _ _
  refine lv_aload_n hx hb dX4_init_19 rfl (lv_at hl 0 rfl) ?_
  refine lv_iload hx hb dX4_init_20 (lv_at hl 4 rfl) ?_
  refine x_putF (C := RX4) (T := TX4) (N := 5) (v := .int (s3)) (ty := .int) hx hb hts hi_X4_init_X4 tyX4 tyX4_ok nmX4 hown hK hV17 hS16 f18 rfl 3 (by decide) (hts (.fieldLink RX4 19 "SaddleHouse$Saddle" "guarantee" "I") (by decide +kernel)) (fun _ h9 => h9) rfl hin rfl (by decide +kernel) rfl rfl (Nat.le_of_ble_eq_true rfl) dX4_init_22 (fun H19 L20 hV21 hS22 => ?_)
  have hV23 := hV21.eq (xup_xup _ _ _ _)
  have f24 : (xup w (t) (.inr (4, [.int (s0), .int (s1), .int (s2), .int (s3), .int (0)]))) (t) = some (.inr (4, [.int (s0), .int (s1), .int (s2), .int (s3), .int (0)])) := xup_at _ _ _
  refine lv_aload_n hx hb dX4_init_25 rfl (lv_at hl 0 rfl) ?_
  refine lv_iload hx hb dX4_init_26 (lv_at hl 5 rfl) ?_
  refine x_putF (C := RX4) (T := TX4) (N := 5) (v := .int (s4)) (ty := .int) hx hb hts hi_X4_init_X4 tyX4 tyX4_ok nmX4 hown hK hV23 hS22 f24 rfl 4 (by decide) (hts (.fieldLink RX4 22 "SaddleHouse$Saddle" "change" "I") (by decide +kernel)) (fun _ h9 => h9) rfl hin rfl (by decide +kernel) rfl rfl (Nat.le_of_ble_eq_true rfl) dX4_init_28 (fun H25 L26 hV27 hS28 => ?_)
  have hV29 := hV27.eq (xup_xup _ _ _ _)
  have f30 : (xup w (t) (.inr (4, [.int (s0), .int (s1), .int (s2), .int (s3), .int (s4)]))) (t) = some (.inr (4, [.int (s0), .int (s1), .int (s2), .int (s3), .int (s4)])) := xup_at _ _ _
  exact x_rmv hx hb hr hlocks dX4_init_31 hV29 hS28 (⟨rfl, rfl⟩)
abbrev rm_X5_init : Room := { frames := 1, cells := 2, slots := 18, locals := 20 }
theorem hi_X5_init_X5 : ∀ w ∈ wsX50, w ∈ wsX5_init := by decide +kernel
set_option maxHeartbeats 4000000 in
set_option maxRecDepth 100000 in
theorem c_X5_init (l : Launch) (D : va_G) (cy : Nat → ClassId) (loc : Nat → Nat) (w : xM) (sz : Nat) (t ta tb : Nat) (n1 : t ≠ ta) (n2 : t ≠ tb) (n3 : ta ≠ tb) (f1 : w (t) = some (.inr (5, [.null, .null]))) (nn2 : w (ta) = none) (nn3 : w (tb) = none) : Met l yX5_init wsX5_init rm_X5_init (va_Pc [.ref (loc (t))] (xP D cy loc w sz)) (va_Qv (fun u => (∀ b, b ≠ ta → b ≠ tb → u.1 b = loc b) ∧ u.2 = xup (xup (xup w ta (eI cy 9 (fun _ => 0))) tb (eI cy 9 (fun _ => 0))) t (.inr (5, [.ref (u.1 ta), .ref (u.1 tb)]))) (xB D (xA loc w sz)) (xA loc w sz)) 2 18 (xA loc w sz) := by
  refine x_met (cc := cX5_init) (maxL := 1) (ret := none) (C := RX5) (by decide) rfl rfl (Nat.le_of_ble_eq_true rfl) ?_
  intro p e s m below meth c ls hx hb hml hr hts hown hlocks hin hP hl
  obtain ⟨hsz, hV, hK⟩ := hP
  subst hsz
  have hA : ∀ q : Nat, s.heap.size ≤ q → xA loc w s.heap.size q := fun q h => Or.inr h
  have hS : va_S (xA loc w s.heap.size) s.heap s.heap [] := va_S.rf
  have hl : lv_has ls 1 [(0, .ref (loc (t)))] := hl
  refine lv_aload_n hx hb dX5_init_0 rfl (lv_at hl 0 rfl) ?_
  refine W.objInit hx hb hown (hts (.methodLink RX5 3 objectInit) (by decide +kernel)) (hts (.instanceMethod objectInit) (by decide +kernel)) (hts (.code objectInit ⟨#[0xb1]⟩ 1 none) (by decide +kernel)) rfl (by rw [hml]; exact hl.1) rfl dX5_init_1 (Nat.le_of_ble_eq_true rfl) (Nat.le_of_ble_eq_true rfl) ?_
  refine W.eq (g2 := F0 m 4 ls []) rfl ?_
  refine lv_aload_n hx hb dX5_init_4 rfl (lv_at hl 0 rfl) ?_
  refine lv_bipush (v := nI 9) hx hb dX5_init_5 (by decide +kernel) ?_
  refine x_newa (ta) (nn2) hx hb (hts (.arrayClass .int) (by decide +kernel)) hK hV hS hA (9) (by decide) (Nat.le_of_ble_eq_true rfl) (Nat.le_of_ble_eq_true rfl) dX5_init_7 (fun q7 H4 hV5 hS6 => ?_)
  obtain ⟨loc8, hq9, hlo10, hV11⟩ : ∃ z : Nat → Nat, z (ta) = q7 ∧ (∀ b, b ≠ ta → loc b = z b) ∧ xV D (xA loc w s.heap.size) z (xup w (ta) (eI cy 9 (fun _ => 0))) H4 := ⟨_, va_up_self _ _ _, fun b hb => (va_up_ne _ _ hb).symm, hV5⟩
  subst hq9
  have e12 : loc (t) = loc8 (t) := hlo10 _ (by omega)
  refine W.eq (g2 := F0 m 9 ls [.ref (loc8 (ta)), .ref (loc8 (t))]) (by rw [e12]) ?_
  have hl : lv_has ls 1 [(0, .ref (loc8 (t)))] := Eq.mp (congrArg (lv_has ls 1) (show ([(0, .ref (loc (t)))] : List (Nat × Value)) = [(0, .ref (loc8 (t)))] from by rw [e12])) hl
  have f13 : (xup w (ta) (eI cy 9 (fun _ => 0))) (t) = some (.inr (5, [.null, .null])) := xup_o (f1) (by omega)
  have nn14 : (xup w (ta) (eI cy 9 (fun _ => 0))) (tb) = none := xup_o ((nn3)) (by omega)
  have f15 : (xup w (ta) (eI cy 9 (fun _ => 0))) (ta) = some (eI cy 9 (fun _ => 0)) := xup_at _ _ _
  refine x_putF (C := RX5) (T := TX5) (N := 2) (v := .ref (loc8 (ta))) (ty := .array .int) hx hb hts hi_X5_init_X5 tyX5 tyX5_ok nmX5 hown hK hV11 hS6 f13 rfl 0 (by decide) (hts (.fieldLink RX5 9 "SaddleHouse$Seat" "gaps" "[I") (by decide +kernel)) (fun _ h9 => h9) rfl hin rfl (by decide +kernel) rfl rfl (Nat.le_of_ble_eq_true rfl) dX5_init_9 (fun H16 L17 hV18 hS19 => ?_)
  have f20 : (xup (xup w (ta) (eI cy 9 (fun _ => 0))) (t) (.inr (5, [.ref (loc8 (ta)), .null]))) (t) = some (.inr (5, [.ref (loc8 (ta)), .null])) := xup_at _ _ _
  have f21 : (xup (xup w (ta) (eI cy 9 (fun _ => 0))) (t) (.inr (5, [.ref (loc8 (ta)), .null]))) (ta) = some (eI cy 9 (fun _ => 0)) := xup_o (f15) (by omega)
  refine lv_aload_n hx hb dX5_init_12 rfl (lv_at hl 0 rfl) ?_
  refine lv_bipush (v := nI 9) hx hb dX5_init_13 (by decide +kernel) ?_
  refine x_newa (tb) (xup_o (nn14) (by omega)) hx hb (hts (.arrayClass .int) (by decide +kernel)) hK hV18 hS19 hA (9) (by decide) (Nat.le_of_ble_eq_true rfl) (Nat.le_of_ble_eq_true rfl) dX5_init_15 (fun q25 H22 hV23 hS24 => ?_)
  obtain ⟨loc26, hq27, hlo28, hV29⟩ : ∃ z : Nat → Nat, z (tb) = q25 ∧ (∀ b, b ≠ tb → loc8 b = z b) ∧ xV D (xA loc w s.heap.size) z (xup (xup (xup w (ta) (eI cy 9 (fun _ => 0))) (t) (.inr (5, [.ref (loc8 (ta)), .null]))) (tb) (eI cy 9 (fun _ => 0))) H22 := ⟨_, va_up_self _ _ _, fun b hb => (va_up_ne _ _ hb).symm, hV23⟩
  subst hq27
  have e30 : loc8 (t) = loc26 (t) := hlo28 _ (by omega)
  have e31 : loc8 (ta) = loc26 (ta) := hlo28 _ (by omega)
  refine W.eq (g2 := F0 m 17 ls [.ref (loc26 (tb)), .ref (loc26 (t))]) (by rw [e30]) ?_
  have hl : lv_has ls 1 [(0, .ref (loc26 (t)))] := Eq.mp (congrArg (lv_has ls 1) (show ([(0, .ref (loc8 (t)))] : List (Nat × Value)) = [(0, .ref (loc26 (t)))] from by rw [e30])) hl
  have f32 : (xup (xup (xup w (ta) (eI cy 9 (fun _ => 0))) (t) (.inr (5, [.ref (loc8 (ta)), .null]))) (tb) (eI cy 9 (fun _ => 0))) (t) = some (.inr (5, [.ref (loc26 (ta)), .null])) := (xup_o (f20) (by omega)).trans (congrArg some (show (.inr (5, [.ref (loc8 (ta)), .null]) : va_E) = .inr (5, [.ref (loc26 (ta)), .null]) from by rw [e31]))
  have f33 : (xup (xup (xup w (ta) (eI cy 9 (fun _ => 0))) (t) (.inr (5, [.ref (loc8 (ta)), .null]))) (tb) (eI cy 9 (fun _ => 0))) (ta) = some (eI cy 9 (fun _ => 0)) := xup_o (f21) (by omega)
  have f34 : (xup (xup (xup w (ta) (eI cy 9 (fun _ => 0))) (t) (.inr (5, [.ref (loc8 (ta)), .null]))) (tb) (eI cy 9 (fun _ => 0))) (tb) = some (eI cy 9 (fun _ => 0)) := xup_at _ _ _
  refine x_putF (C := RX5) (T := TX5) (N := 2) (v := .ref (loc26 (tb))) (ty := .array .int) hx hb hts hi_X5_init_X5 tyX5 tyX5_ok nmX5 hown hK hV29 hS24 f32 rfl 1 (by decide) (hts (.fieldLink RX5 15 "SaddleHouse$Seat" "borne" "[I") (by decide +kernel)) (fun _ h9 => h9) rfl hin rfl (by decide +kernel) rfl rfl (Nat.le_of_ble_eq_true rfl) dX5_init_17 (fun H35 L36 hV37 hS38 => ?_)
  have f39 : (xup (xup (xup (xup w (ta) (eI cy 9 (fun _ => 0))) (t) (.inr (5, [.ref (loc8 (ta)), .null]))) (tb) (eI cy 9 (fun _ => 0))) (t) (.inr (5, [.ref (loc26 (ta)), .ref (loc26 (tb))]))) (t) = some (.inr (5, [.ref (loc26 (ta)), .ref (loc26 (tb))])) := xup_at _ _ _
  have f40 : (xup (xup (xup (xup w (ta) (eI cy 9 (fun _ => 0))) (t) (.inr (5, [.ref (loc8 (ta)), .null]))) (tb) (eI cy 9 (fun _ => 0))) (t) (.inr (5, [.ref (loc26 (ta)), .ref (loc26 (tb))]))) (ta) = some (eI cy 9 (fun _ => 0)) := xup_o (f33) (by omega)
  have f41 : (xup (xup (xup (xup w (ta) (eI cy 9 (fun _ => 0))) (t) (.inr (5, [.ref (loc8 (ta)), .null]))) (tb) (eI cy 9 (fun _ => 0))) (t) (.inr (5, [.ref (loc26 (ta)), .ref (loc26 (tb))]))) (tb) = some (eI cy 9 (fun _ => 0)) := xup_o (f34) (by omega)
  refine W.widen (k := 2) (n := 18) (by omega) (by omega) ?_
  exact x_rmv hx hb hr hlocks dX5_init_20 hV37 hS38 (⟨fun b9 n0 n1 => ((hlo28 b9 n1).symm).trans ((hlo10 b9 n0).symm), by show xup _ _ _ = _; rw [xup_comm _ _ _ n2, xup_xup]; rfl⟩)
abbrev rm_X3_init : Room := { frames := 2, cells := 1, slots := 9, locals := 46 }
theorem hi_X3_init_X3 : ∀ w ∈ wsX30, w ∈ wsX3_init := by decide +kernel
set_option maxHeartbeats 4000000 in
set_option maxRecDepth 100000 in
theorem c_X3_init (l : Launch) (D : va_G) (cy : Nat → ClassId) (loc : Nat → Nat) (w : xM) (sz : Nat) (t th tr : Nat) (d : Int32) (f : Nat → Int32) (h0 : ¬ f 0 = -1) (h8 : ¬ f 8 = -1) (n1 : t ≠ th) (n2 : tr ≠ th) (n3 : tr ≠ t) (f1 : w (t) = some (.inr (3, [.int (0), .null]))) (f2 : w (tr) = some (eI cy 9 (f))) (nn3 : w (th) = none) : Met l yX3_init wsX3_init rm_X3_init (va_Pc [.ref (loc (t)), .int (d), .ref (loc (tr))] (xP D cy loc w sz)) (va_Qv (fun u => (∀ b, b ≠ th → u.1 b = loc b) ∧ ∃ g : Nat → Int32, u.2 = xup (xup w th (eI cy 9 g)) t (.inr (3, [.int d, .ref (u.1 th)])) ∧ (∀ j, j < 9 → g j = xhv f j) ∧ ∀ j, 9 ≤ j → g j = 0) (xB D (xA loc w sz)) (xA loc w sz)) 1 9 (xA loc w sz) := by
  refine x_met (cc := cX3_init) (maxL := 5) (ret := none) (C := RX3) (by decide) rfl rfl (Nat.le_of_ble_eq_true rfl) ?_
  intro p e s m below meth c ls hx hb hml hr hts hown hlocks hin hP hl
  obtain ⟨hsz, hV, hK⟩ := hP
  subst hsz
  have hA : ∀ q : Nat, s.heap.size ≤ q → xA loc w s.heap.size q := fun q h => Or.inr h
  have hS : va_S (xA loc w s.heap.size) s.heap s.heap [] := va_S.rf
  have hl : lv_has ls 5 [(0, .ref (loc (t))), (1, .int (d)), (2, .ref (loc (tr)))] := hl
  refine lv_aload_n hx hb dX3_init_0 rfl (lv_at hl 0 rfl) ?_
  refine W.objInit hx hb hown (hts (.methodLink RX3 3 objectInit) (by decide +kernel)) (hts (.instanceMethod objectInit) (by decide +kernel)) (hts (.code objectInit ⟨#[0xb1]⟩ 1 none) (by decide +kernel)) rfl (by rw [hml]; exact hl.1) rfl dX3_init_1 (Nat.le_of_ble_eq_true rfl) (Nat.le_of_ble_eq_true rfl) ?_
  refine W.eq (g2 := F0 m 4 ls []) rfl ?_
  refine lv_aload_n hx hb dX3_init_4 rfl (lv_at hl 0 rfl) ?_
  refine lv_bipush (v := nI 9) hx hb dX3_init_5 (by decide +kernel) ?_
  refine x_newa (th) (nn3) hx hb (hts (.arrayClass .int) (by decide +kernel)) hK hV hS hA (9) (by decide) (Nat.le_of_ble_eq_true rfl) (Nat.le_of_ble_eq_true rfl) dX3_init_7 (fun q7 H4 hV5 hS6 => ?_)
  obtain ⟨loc8, hq9, hlo10, hV11⟩ : ∃ z : Nat → Nat, z (th) = q7 ∧ (∀ b, b ≠ th → loc b = z b) ∧ xV D (xA loc w s.heap.size) z (xup w (th) (eI cy 9 (fun _ => 0))) H4 := ⟨_, va_up_self _ _ _, fun b hb => (va_up_ne _ _ hb).symm, hV5⟩
  subst hq9
  have e12 : loc (t) = loc8 (t) := hlo10 _ (by omega)
  have e13 : loc (tr) = loc8 (tr) := hlo10 _ (by omega)
  refine W.eq (g2 := F0 m 9 ls [.ref (loc8 (th)), .ref (loc8 (t))]) (by rw [e12]) ?_
  have hl : lv_has ls 5 [(0, .ref (loc8 (t))), (1, .int (d)), (2, .ref (loc8 (tr)))] := Eq.mp (congrArg (lv_has ls 5) (show ([(0, .ref (loc (t))), (1, .int (d)), (2, .ref (loc (tr)))] : List (Nat × Value)) = [(0, .ref (loc8 (t))), (1, .int (d)), (2, .ref (loc8 (tr)))] from by rw [e12, e13])) hl
  have f14 : (xup w (th) (eI cy 9 (fun _ => 0))) (t) = some (.inr (3, [.int (0), .null])) := xup_o (f1) (by omega)
  have f15 : (xup w (th) (eI cy 9 (fun _ => 0))) (tr) = some (eI cy 9 (f)) := xup_o (f2) (by omega)
  have f16 : (xup w (th) (eI cy 9 (fun _ => 0))) (th) = some (eI cy 9 (fun _ => 0)) := xup_at _ _ _
  refine x_putF (C := RX3) (T := TX3) (N := 2) (v := .ref (loc8 (th))) (ty := .array .int) hx hb hts hi_X3_init_X3 tyX3 tyX3_ok nmX3 hown hK hV11 hS6 f14 rfl 1 (by decide) (hts (.fieldLink RX3 9 "SaddleHouse$Measure" "heights" "[I") (by decide +kernel)) (fun _ h9 => h9) rfl hin rfl (by decide +kernel) rfl rfl (Nat.le_of_ble_eq_true rfl) dX3_init_9 (fun H17 L18 hV19 hS20 => ?_)
  have f21 : (xup (xup w (th) (eI cy 9 (fun _ => 0))) (t) (.inr (3, [.int (0), .ref (loc8 (th))]))) (t) = some (.inr (3, [.int (0), .ref (loc8 (th))])) := xup_at _ _ _
  have f22 : (xup (xup w (th) (eI cy 9 (fun _ => 0))) (t) (.inr (3, [.int (0), .ref (loc8 (th))]))) (tr) = some (eI cy 9 (f)) := xup_o (f15) (by omega)
  have f23 : (xup (xup w (th) (eI cy 9 (fun _ => 0))) (t) (.inr (3, [.int (0), .ref (loc8 (th))]))) (th) = some (eI cy 9 (fun _ => 0)) := xup_o (f16) (by omega)
  refine lv_aload_n hx hb dX3_init_12 rfl (lv_at hl 0 rfl) ?_
  refine lv_iload_n hx hb dX3_init_13 rfl (lv_at hl 1 rfl) ?_
  refine x_putF (C := RX3) (T := TX3) (N := 2) (v := .int (d)) (ty := .int) hx hb hts hi_X3_init_X3 tyX3 tyX3_ok nmX3 hown hK hV19 hS20 f21 rfl 0 (by decide) (hts (.fieldLink RX3 15 "SaddleHouse$Measure" "day" "I") (by decide +kernel)) (fun _ h9 => h9) rfl hin rfl (by decide +kernel) rfl rfl (Nat.le_of_ble_eq_true rfl) dX3_init_14 (fun H24 L25 hV26 hS27 => ?_)
  have hV28 := hV26.eq (xup_xup _ _ _ _)
  have f29 : (xup (xup w (th) (eI cy 9 (fun _ => 0))) (t) (.inr (3, [.int (d), .ref (loc8 (th))]))) (t) = some (.inr (3, [.int (d), .ref (loc8 (th))])) := xup_at _ _ _
  have f30 : (xup (xup w (th) (eI cy 9 (fun _ => 0))) (t) (.inr (3, [.int (d), .ref (loc8 (th))]))) (tr) = some (eI cy 9 (f)) := xup_o (f15) (by omega)
  have f31 : (xup (xup w (th) (eI cy 9 (fun _ => 0))) (t) (.inr (3, [.int (d), .ref (loc8 (th))]))) (th) = some (eI cy 9 (fun _ => 0)) := xup_o (f16) (by omega)
  refine lv_iconst (v := nI 0) hx hb dX3_init_17 (by decide +kernel) ?_
  refine lv_istore_n (lv' := [(3, .int (nI (0))), (0, .ref (loc8 (t))), (1, .int (d)), (2, .ref (loc8 (tr)))]) hx hb dX3_init_18 rfl hl (by decide) rfl (fun ls hl => ?_)
  refine lv_iconst (v := nI 0) hx hb dX3_init_19 (by decide +kernel) ?_
  refine lv_istore (lv' := [(4, .int (nI (0))), (3, .int (nI (0))), (0, .ref (loc8 (t))), (1, .int (d)), (2, .ref (loc8 (tr)))]) hx hb dX3_init_20 hl (by decide) rfl (fun ls hl => ?_)
  have lp22_32 : ∀ (fuel37 : Nat) (a : Nat) (i : Nat) (g1 : Nat → Int32) (ls : Array Slot) (H33 : Heap) (L34 : List Loc), 9 - i < fuel37 → (i ≤ 9) → (∀ j, j < i → g1 j = xhv f j) → (a = xah f (i - 1)) → (∀ j, 9 ≤ j → g1 j = 0) → xV D (xA loc w s.heap.size) loc8 ((xup (xup (xup w (th) (eI cy 9 (fun _ => 0))) (t) (.inr (3, [.int (d), .ref (loc8 (th))]))) (th) (eI cy 9 (g1)))) H33 → va_S (xA loc w s.heap.size) s.heap H33 L34 → lv_has ls 5 [(4, .int (nI (i))), (3, .int (nI (a))), (0, .ref (loc8 (t))), (1, .int (d)), (2, .ref (loc8 (tr)))] → W p l e rm_X3_init s m ([.ref (loc (t)), .int (d), .ref (loc (tr))] : List Value).toArray below meth c H33 L34 (0 + 1) (0 + 9) (MQ below (va_Qv (fun u => (∀ b, b ≠ th → u.1 b = loc b) ∧ ∃ g : Nat → Int32, u.2 = xup (xup w th (eI cy 9 g)) t (.inr (3, [.int d, .ref (u.1 th)])) ∧ (∀ j, j < 9 → g j = xhv f j) ∧ ∀ j, 9 ≤ j → g j = 0) (xB D (xA loc w s.heap.size)) (xA loc w s.heap.size)) ([.ref (loc (t)), .int (d), .ref (loc (tr))] : List Value).toArray s 1 9 (xA loc w s.heap.size)) (F0 m 22 ls []) := by
    intro fuel37
    induction fuel37 with
    | zero => intro a i g1 ls H33 L34 hm38; exact absurd hm38 (Nat.not_lt_zero _)
    | succ fuel37 ih39 =>
      intro a i g1 ls H33 L34 hm38 h1 h2 h3 h4 hV35 hS36 hl
      have f40 : (xup (xup (xup w (th) (eI cy 9 (fun _ => 0))) (t) (.inr (3, [.int (d), .ref (loc8 (th))]))) (th) (eI cy 9 (g1))) (t) = some (.inr (3, [.int (d), .ref (loc8 (th))])) := xup_o (xup_at _ _ _) (by omega)
      have f41 : (xup (xup (xup w (th) (eI cy 9 (fun _ => 0))) (t) (.inr (3, [.int (d), .ref (loc8 (th))]))) (th) (eI cy 9 (g1))) (tr) = some (eI cy 9 (f)) := xup_o (xup_o (f15) (by omega)) (by omega)
      have f42 : (xup (xup (xup w (th) (eI cy 9 (fun _ => 0))) (t) (.inr (3, [.int (d), .ref (loc8 (th))]))) (th) (eI cy 9 (g1))) (th) = some (eI cy 9 (g1)) := xup_at _ _ _
      have hai : a ≤ i := by have := xah_le f (i - 1); omega
      refine lv_iload hx hb dX3_init_22 (lv_at hl 0 rfl) ?_
      refine lv_bipush (v := nI 9) hx hb dX3_init_24 (by decide +kernel) ?_
      refine x_cge hx hb (i) (9) (by omega) (by omega) (tgt := 66) dX3_init_26 (by decide) (fun c43 => ?_) (fun c43 => ?_)
      · have _u := trivial
        refine W.widen (k := 1) (n := 9) (by omega) (by omega) ?_
        exact x_rmv hx hb hr hlocks dX3_init_66 hV35 hS36 (⟨fun b9 n0 => (hlo10 b9 n0).symm, g1, by show xup _ _ _ = _; rw [x_norm1 (fun q => n1 q.symm)], fun j hj => h2 j (by omega), h4⟩)
      · have _u := trivial
        refine lv_aload_n hx hb dX3_init_29 rfl (lv_at hl 4 rfl) ?_
        refine lv_iload hx hb dX3_init_30 (lv_at hl 0 rfl) ?_
        refine x_iald hx hb hK hV35 f41 (i) (by omega) (by decide) dX3_init_32 ?_
        refine lv_iconst (v := -1) hx hb dX3_init_33 (by decide +kernel) ?_
        refine lv_icmp_eq (tgt := 40) hx hb dX3_init_34 (by decide) (fun c44 => ?_) (fun c44 => ?_)
        · have _u := trivial
          have za : a = xah f i := xah_g h0 h3 c44
          refine lv_aload_n hx hb dX3_init_40 rfl (lv_at hl 2 rfl) ?_
          refine x_get (C := RX3) (T := TX3) (N := 2) hx hb hts hi_X3_init_X3 hown hK hV35 f40 rfl 1 (by decide) (hts (.fieldLink RX3 9 "SaddleHouse$Measure" "heights" "[I") (by decide +kernel)) (fun _ h9 => h9) rfl dX3_init_41 ?_
          refine lv_iload hx hb dX3_init_44 (lv_at hl 0 rfl) ?_
          refine lv_aload_n hx hb dX3_init_46 rfl (lv_at hl 4 rfl) ?_
          refine lv_iload_n hx hb dX3_init_47 rfl (lv_at hl 1 rfl) ?_
          refine lv_iload hx hb dX3_init_48 (lv_at hl 0 rfl) ?_
          refine lv_aload_n hx hb dX3_init_50 rfl (lv_at hl 4 rfl) ?_
          refine lv_iload hx hb dX3_init_51 (lv_at hl 0 rfl) ?_
          refine x_ci (va_runS (As := [.ref (loc8 (tr)), .int (nI (i))]) (rest := [.int (nI (i)), .int (nI (a)), .ref (loc8 (tr)), .int (nI (i)), .ref (loc8 (th))]) ⟨hx, hb, hml, hown, hts⟩ (c_X3_nextMeasured l D cy loc8 (xup (xup (xup w (th) (eI cy 9 (fun _ => 0))) (t) (.inr (3, [.int (d), .ref (loc8 (th))]))) (th) (eI cy 9 (g1))) H33.size tr i f (by omega) h8 f41) (cwS 2 hts gX3_init_X3_nextMeasured rfl rfl rfl (by decide +kernel) ⟨Nat.le_of_ble_eq_true rfl, Nat.le_of_ble_eq_true rfl⟩) (x_preS hK hV35) rfl rfl hl.1 rfl (lv_room (Nat.le_of_ble_eq_true rfl)) dX3_init_53 ⟨Nat.le_of_ble_eq_true rfl, Nat.le_of_ble_eq_true rfl⟩) (fun r45 hr46 => ?_)
          obtain rfl : r45 = nI (xnx f i 9) := hr46
          refine x_ci (va_runS (As := [.ref (loc8 (tr)), .int (nI (a)), .int (nI (i)), .int (nI (xnx f i 9))]) (rest := [.int (nI (i)), .ref (loc8 (th))]) ⟨hx, hb, hml, hown, hts⟩ (c_X3_heightBetween l D cy loc8 (xup (xup (xup w (th) (eI cy 9 (fun _ => 0))) (t) (.inr (3, [.int (d), .ref (loc8 (th))]))) (th) (eI cy 9 (g1))) H33.size tr a i (xnx f i 9) f (by have := xah_le f i; omega) (xnx_ge f 9 i) (xnx_st f 8 h8 9 i (by omega) (by omega)) f41) (cwS 4 hts gX3_init_X3_heightBetween rfl rfl rfl (by decide +kernel) ⟨Nat.le_of_ble_eq_true rfl, Nat.le_of_ble_eq_true rfl⟩) (x_preS hK hV35) rfl rfl hl.1 rfl (lv_room (Nat.le_of_ble_eq_true rfl)) dX3_init_56 ⟨Nat.le_of_ble_eq_true rfl, Nat.le_of_ble_eq_true rfl⟩) (fun r47 hr48 => ?_)
          obtain rfl : r47 = xhb f a i (xnx f i 9) := hr48
          refine x_iast hx hb hK hV35 hS36 f42 (i) (by omega) (by decide) dX3_init_59 (fun H49 L50 hV51 hS52 => ?_)
          have hV53 := hV51.eq (xup_xup _ _ _ _)
          have f54 : (xup (xup (xup w (th) (eI cy 9 (fun _ => 0))) (t) (.inr (3, [.int (d), .ref (loc8 (th))]))) (th) (eI cy 9 (upd g1 i (xhb f a i (xnx f i 9))))) (t) = some (.inr (3, [.int (d), .ref (loc8 (th))])) := xup_o (xup_at _ _ _) (by omega)
          have f55 : (xup (xup (xup w (th) (eI cy 9 (fun _ => 0))) (t) (.inr (3, [.int (d), .ref (loc8 (th))]))) (th) (eI cy 9 (upd g1 i (xhb f a i (xnx f i 9))))) (tr) = some (eI cy 9 (f)) := xup_o (xup_o (f15) (by omega)) (by omega)
          have f56 : (xup (xup (xup w (th) (eI cy 9 (fun _ => 0))) (t) (.inr (3, [.int (d), .ref (loc8 (th))]))) (th) (eI cy 9 (upd g1 i (xhb f a i (xnx f i 9))))) (th) = some (eI cy 9 (upd g1 i (xhb f a i (xnx f i 9)))) := xup_at _ _ _
          refine lv_iinc (v := nI (i + 1)) (lv' := [(4, .int (nI (i + 1))), (3, .int (nI (a))), (0, .ref (loc8 (t))), (1, .int (d)), (2, .ref (loc8 (tr)))]) hx hb dX3_init_60 hl (k := 0) rfl (nI_add _ _) (by decide) rfl (fun ls hl => ?_)
          refine lv_goto (tgt := 22) hx hb dX3_init_63 (by decide) ?_
          exact ih39 a (i + 1) (upd g1 i (xhb f a i (xnx f i 9))) ls _ _ (by omega) (by omega) (upd_lt h2 (by rw [xhv, ← za])) za (upd_hi h4 (by omega)) hV53 hS52 (lv_sub hl [0, 1, 2, 3, 4] rfl)
        · have _u := trivial
          have za : i = xah f i := xah_n c44
          refine lv_iload hx hb dX3_init_37 (lv_at hl 0 rfl) ?_
          refine lv_istore_n (lv' := [(3, .int (nI (i))), (4, .int (nI (i))), (0, .ref (loc8 (t))), (1, .int (d)), (2, .ref (loc8 (tr)))]) hx hb dX3_init_39 rfl hl (by decide) rfl (fun ls hl => ?_)
          refine lv_aload_n hx hb dX3_init_40 rfl (lv_at hl 2 rfl) ?_
          refine x_get (C := RX3) (T := TX3) (N := 2) hx hb hts hi_X3_init_X3 hown hK hV35 f40 rfl 1 (by decide) (hts (.fieldLink RX3 9 "SaddleHouse$Measure" "heights" "[I") (by decide +kernel)) (fun _ h9 => h9) rfl dX3_init_41 ?_
          refine lv_iload hx hb dX3_init_44 (lv_at hl 1 rfl) ?_
          refine lv_aload_n hx hb dX3_init_46 rfl (lv_at hl 4 rfl) ?_
          refine lv_iload_n hx hb dX3_init_47 rfl (lv_at hl 0 rfl) ?_
          refine lv_iload hx hb dX3_init_48 (lv_at hl 1 rfl) ?_
          refine lv_aload_n hx hb dX3_init_50 rfl (lv_at hl 4 rfl) ?_
          refine lv_iload hx hb dX3_init_51 (lv_at hl 1 rfl) ?_
          refine x_ci (va_runS (As := [.ref (loc8 (tr)), .int (nI (i))]) (rest := [.int (nI (i)), .int (nI (i)), .ref (loc8 (tr)), .int (nI (i)), .ref (loc8 (th))]) ⟨hx, hb, hml, hown, hts⟩ (c_X3_nextMeasured l D cy loc8 (xup (xup (xup w (th) (eI cy 9 (fun _ => 0))) (t) (.inr (3, [.int (d), .ref (loc8 (th))]))) (th) (eI cy 9 (g1))) H33.size tr i f (by omega) h8 f41) (cwS 2 hts gX3_init_X3_nextMeasured rfl rfl rfl (by decide +kernel) ⟨Nat.le_of_ble_eq_true rfl, Nat.le_of_ble_eq_true rfl⟩) (x_preS hK hV35) rfl rfl hl.1 rfl (lv_room (Nat.le_of_ble_eq_true rfl)) dX3_init_53 ⟨Nat.le_of_ble_eq_true rfl, Nat.le_of_ble_eq_true rfl⟩) (fun r57 hr58 => ?_)
          obtain rfl : r57 = nI (xnx f i 9) := hr58
          refine x_ci (va_runS (As := [.ref (loc8 (tr)), .int (nI (i)), .int (nI (i)), .int (nI (xnx f i 9))]) (rest := [.int (nI (i)), .ref (loc8 (th))]) ⟨hx, hb, hml, hown, hts⟩ (c_X3_heightBetween l D cy loc8 (xup (xup (xup w (th) (eI cy 9 (fun _ => 0))) (t) (.inr (3, [.int (d), .ref (loc8 (th))]))) (th) (eI cy 9 (g1))) H33.size tr i i (xnx f i 9) f (by have := xah_le f i; omega) (xnx_ge f 9 i) (xnx_st f 8 h8 9 i (by omega) (by omega)) f41) (cwS 4 hts gX3_init_X3_heightBetween rfl rfl rfl (by decide +kernel) ⟨Nat.le_of_ble_eq_true rfl, Nat.le_of_ble_eq_true rfl⟩) (x_preS hK hV35) rfl rfl hl.1 rfl (lv_room (Nat.le_of_ble_eq_true rfl)) dX3_init_56 ⟨Nat.le_of_ble_eq_true rfl, Nat.le_of_ble_eq_true rfl⟩) (fun r59 hr60 => ?_)
          obtain rfl : r59 = xhb f i i (xnx f i 9) := hr60
          refine x_iast hx hb hK hV35 hS36 f42 (i) (by omega) (by decide) dX3_init_59 (fun H61 L62 hV63 hS64 => ?_)
          have hV65 := hV63.eq (xup_xup _ _ _ _)
          have f66 : (xup (xup (xup w (th) (eI cy 9 (fun _ => 0))) (t) (.inr (3, [.int (d), .ref (loc8 (th))]))) (th) (eI cy 9 (upd g1 i (xhb f i i (xnx f i 9))))) (t) = some (.inr (3, [.int (d), .ref (loc8 (th))])) := xup_o (xup_at _ _ _) (by omega)
          have f67 : (xup (xup (xup w (th) (eI cy 9 (fun _ => 0))) (t) (.inr (3, [.int (d), .ref (loc8 (th))]))) (th) (eI cy 9 (upd g1 i (xhb f i i (xnx f i 9))))) (tr) = some (eI cy 9 (f)) := xup_o (xup_o (f15) (by omega)) (by omega)
          have f68 : (xup (xup (xup w (th) (eI cy 9 (fun _ => 0))) (t) (.inr (3, [.int (d), .ref (loc8 (th))]))) (th) (eI cy 9 (upd g1 i (xhb f i i (xnx f i 9))))) (th) = some (eI cy 9 (upd g1 i (xhb f i i (xnx f i 9)))) := xup_at _ _ _
          refine lv_iinc (v := nI (i + 1)) (lv' := [(4, .int (nI (i + 1))), (3, .int (nI (i))), (0, .ref (loc8 (t))), (1, .int (d)), (2, .ref (loc8 (tr)))]) hx hb dX3_init_60 hl (k := 1) rfl (nI_add _ _) (by decide) rfl (fun ls hl => ?_)
          refine lv_goto (tgt := 22) hx hb dX3_init_63 (by decide) ?_
          exact ih39 i (i + 1) (upd g1 i (xhb f i i (xnx f i 9))) ls _ _ (by omega) (by omega) (upd_lt h2 (by rw [xhv, ← za])) za (upd_hi h4 (by omega)) hV65 hS64 (lv_sub hl [0, 1, 2, 3, 4] rfl)
  exact lp22_32 (9 + 1) 0 0 (fun _ => 0) ls _ _ (by omega) (Nat.zero_le _) (fun j h => absurd h (Nat.not_lt_zero j)) rfl (fun _ _ => rfl) (hV28.eq (xup_id f31).symm) hS27 (lv_sub hl [0, 1, 2, 3, 4] rfl)
abbrev rm_X6_init : Room := { frames := 1, cells := 2, slots := 18, locals := 20 }
theorem hi_X6_init_X6 : ∀ w ∈ wsX60, w ∈ wsX6_init := by decide +kernel
set_option maxHeartbeats 4000000 in
set_option maxRecDepth 100000 in
theorem c_X6_init (l : Launch) (D : va_G) (cy : Nat → ClassId) (loc : Nat → Nat) (w : xM) (sz : Nat) (t th ts tr : Nat) (f : Nat → Int32) (n1 : t ≠ th) (n2 : t ≠ ts) (n3 : th ≠ ts) (n4 : tr ≠ t) (n5 : tr ≠ th) (n6 : tr ≠ ts) (f1 : w (t) = some (.inr (6, [.null, .null]))) (f2 : w (tr) = some (eI cy 9 (f))) (nn3 : w (th) = none) (nn4 : w (ts) = none) : Met l yX6_init wsX6_init rm_X6_init (va_Pc [.ref (loc (t)), .ref (loc (tr))] (xP D cy loc w sz)) (va_Qv (fun u => (∀ b, b ≠ th → b ≠ ts → u.1 b = loc b) ∧ u.2 = xup (xup (xup w th (eI cy 9 (xsl0 9 f))) ts (eI cy 9 (fun _ => 0))) t (.inr (6, [.ref (u.1 th), .ref (u.1 ts)]))) (xB D (xA loc w sz)) (xA loc w sz)) 2 18 (xA loc w sz) := by
  refine x_met (cc := cX6_init) (maxL := 3) (ret := none) (C := RX6) (by decide) rfl rfl (Nat.le_of_ble_eq_true rfl) ?_
  intro p e s m below meth c ls hx hb hml hr hts hown hlocks hin hP hl
  obtain ⟨hsz, hV, hK⟩ := hP
  subst hsz
  have hA : ∀ q : Nat, s.heap.size ≤ q → xA loc w s.heap.size q := fun q h => Or.inr h
  have hS : va_S (xA loc w s.heap.size) s.heap s.heap [] := va_S.rf
  have hl : lv_has ls 3 [(0, .ref (loc (t))), (1, .ref (loc (tr)))] := hl
  refine lv_aload_n hx hb dX6_init_0 rfl (lv_at hl 0 rfl) ?_
  refine W.objInit hx hb hown (hts (.methodLink RX6 3 objectInit) (by decide +kernel)) (hts (.instanceMethod objectInit) (by decide +kernel)) (hts (.code objectInit ⟨#[0xb1]⟩ 1 none) (by decide +kernel)) rfl (by rw [hml]; exact hl.1) rfl dX6_init_1 (Nat.le_of_ble_eq_true rfl) (Nat.le_of_ble_eq_true rfl) ?_
  refine W.eq (g2 := F0 m 4 ls []) rfl ?_
  refine lv_aload_n hx hb dX6_init_4 rfl (lv_at hl 0 rfl) ?_
  refine lv_bipush (v := nI 9) hx hb dX6_init_5 (by decide +kernel) ?_
  refine x_newa (th) (nn3) hx hb (hts (.arrayClass .int) (by decide +kernel)) hK hV hS hA (9) (by decide) (Nat.le_of_ble_eq_true rfl) (Nat.le_of_ble_eq_true rfl) dX6_init_7 (fun q8 H5 hV6 hS7 => ?_)
  obtain ⟨loc9, hq10, hlo11, hV12⟩ : ∃ z : Nat → Nat, z (th) = q8 ∧ (∀ b, b ≠ th → loc b = z b) ∧ xV D (xA loc w s.heap.size) z (xup w (th) (eI cy 9 (fun _ => 0))) H5 := ⟨_, va_up_self _ _ _, fun b hb => (va_up_ne _ _ hb).symm, hV6⟩
  subst hq10
  have e13 : loc (t) = loc9 (t) := hlo11 _ (by omega)
  have e14 : loc (tr) = loc9 (tr) := hlo11 _ (by omega)
  refine W.eq (g2 := F0 m 9 ls [.ref (loc9 (th)), .ref (loc9 (t))]) (by rw [e13]) ?_
  have hl : lv_has ls 3 [(0, .ref (loc9 (t))), (1, .ref (loc9 (tr)))] := Eq.mp (congrArg (lv_has ls 3) (show ([(0, .ref (loc (t))), (1, .ref (loc (tr)))] : List (Nat × Value)) = [(0, .ref (loc9 (t))), (1, .ref (loc9 (tr)))] from by rw [e13, e14])) hl
  have f15 : (xup w (th) (eI cy 9 (fun _ => 0))) (t) = some (.inr (6, [.null, .null])) := xup_o (f1) (by omega)
  have f16 : (xup w (th) (eI cy 9 (fun _ => 0))) (tr) = some (eI cy 9 (f)) := xup_o (f2) (by omega)
  have nn17 : (xup w (th) (eI cy 9 (fun _ => 0))) (ts) = none := xup_o ((nn4)) (by omega)
  have f18 : (xup w (th) (eI cy 9 (fun _ => 0))) (th) = some (eI cy 9 (fun _ => 0)) := xup_at _ _ _
  refine x_putF (C := RX6) (T := TX6) (N := 2) (v := .ref (loc9 (th))) (ty := .array .int) hx hb hts hi_X6_init_X6 tyX6 tyX6_ok nmX6 hown hK hV12 hS7 f15 rfl 0 (by decide) (hts (.fieldLink RX6 9 "SaddleHouse$Tree" "heights" "[I") (by decide +kernel)) (fun _ h9 => h9) rfl hin rfl (by decide +kernel) rfl rfl (Nat.le_of_ble_eq_true rfl) dX6_init_9 (fun H19 L20 hV21 hS22 => ?_)
  have f23 : (xup (xup w (th) (eI cy 9 (fun _ => 0))) (t) (.inr (6, [.ref (loc9 (th)), .null]))) (t) = some (.inr (6, [.ref (loc9 (th)), .null])) := xup_at _ _ _
  have f24 : (xup (xup w (th) (eI cy 9 (fun _ => 0))) (t) (.inr (6, [.ref (loc9 (th)), .null]))) (tr) = some (eI cy 9 (f)) := xup_o (f16) (by omega)
  have f25 : (xup (xup w (th) (eI cy 9 (fun _ => 0))) (t) (.inr (6, [.ref (loc9 (th)), .null]))) (th) = some (eI cy 9 (fun _ => 0)) := xup_o (f18) (by omega)
  refine lv_aload_n hx hb dX6_init_12 rfl (lv_at hl 0 rfl) ?_
  refine lv_bipush (v := nI 9) hx hb dX6_init_13 (by decide +kernel) ?_
  refine x_newa (ts) (xup_o (nn17) (by omega)) hx hb (hts (.arrayClass .int) (by decide +kernel)) hK hV21 hS22 hA (9) (by decide) (Nat.le_of_ble_eq_true rfl) (Nat.le_of_ble_eq_true rfl) dX6_init_15 (fun q29 H26 hV27 hS28 => ?_)
  obtain ⟨loc30, hq31, hlo32, hV33⟩ : ∃ z : Nat → Nat, z (ts) = q29 ∧ (∀ b, b ≠ ts → loc9 b = z b) ∧ xV D (xA loc w s.heap.size) z (xup (xup (xup w (th) (eI cy 9 (fun _ => 0))) (t) (.inr (6, [.ref (loc9 (th)), .null]))) (ts) (eI cy 9 (fun _ => 0))) H26 := ⟨_, va_up_self _ _ _, fun b hb => (va_up_ne _ _ hb).symm, hV27⟩
  subst hq31
  have e34 : loc9 (t) = loc30 (t) := hlo32 _ (by omega)
  have e35 : loc9 (tr) = loc30 (tr) := hlo32 _ (by omega)
  have e36 : loc9 (th) = loc30 (th) := hlo32 _ (by omega)
  refine W.eq (g2 := F0 m 17 ls [.ref (loc30 (ts)), .ref (loc30 (t))]) (by rw [e34]) ?_
  have hl : lv_has ls 3 [(0, .ref (loc30 (t))), (1, .ref (loc30 (tr)))] := Eq.mp (congrArg (lv_has ls 3) (show ([(0, .ref (loc9 (t))), (1, .ref (loc9 (tr)))] : List (Nat × Value)) = [(0, .ref (loc30 (t))), (1, .ref (loc30 (tr)))] from by rw [e34, e35])) hl
  have f37 : (xup (xup (xup w (th) (eI cy 9 (fun _ => 0))) (t) (.inr (6, [.ref (loc9 (th)), .null]))) (ts) (eI cy 9 (fun _ => 0))) (t) = some (.inr (6, [.ref (loc30 (th)), .null])) := (xup_o (f23) (by omega)).trans (congrArg some (show (.inr (6, [.ref (loc9 (th)), .null]) : va_E) = .inr (6, [.ref (loc30 (th)), .null]) from by rw [e36]))
  have f38 : (xup (xup (xup w (th) (eI cy 9 (fun _ => 0))) (t) (.inr (6, [.ref (loc9 (th)), .null]))) (ts) (eI cy 9 (fun _ => 0))) (tr) = some (eI cy 9 (f)) := xup_o (f24) (by omega)
  have f39 : (xup (xup (xup w (th) (eI cy 9 (fun _ => 0))) (t) (.inr (6, [.ref (loc9 (th)), .null]))) (ts) (eI cy 9 (fun _ => 0))) (th) = some (eI cy 9 (fun _ => 0)) := xup_o (f25) (by omega)
  have f40 : (xup (xup (xup w (th) (eI cy 9 (fun _ => 0))) (t) (.inr (6, [.ref (loc9 (th)), .null]))) (ts) (eI cy 9 (fun _ => 0))) (ts) = some (eI cy 9 (fun _ => 0)) := xup_at _ _ _
  refine x_putF (C := RX6) (T := TX6) (N := 2) (v := .ref (loc30 (ts))) (ty := .array .int) hx hb hts hi_X6_init_X6 tyX6 tyX6_ok nmX6 hown hK hV33 hS28 f37 rfl 1 (by decide) (hts (.fieldLink RX6 15 "SaddleHouse$Tree" "shims" "[I") (by decide +kernel)) (fun _ h9 => h9) rfl hin rfl (by decide +kernel) rfl rfl (Nat.le_of_ble_eq_true rfl) dX6_init_17 (fun H41 L42 hV43 hS44 => ?_)
  have f45 : (xup (xup (xup (xup w (th) (eI cy 9 (fun _ => 0))) (t) (.inr (6, [.ref (loc9 (th)), .null]))) (ts) (eI cy 9 (fun _ => 0))) (t) (.inr (6, [.ref (loc30 (th)), .ref (loc30 (ts))]))) (t) = some (.inr (6, [.ref (loc30 (th)), .ref (loc30 (ts))])) := xup_at _ _ _
  have f46 : (xup (xup (xup (xup w (th) (eI cy 9 (fun _ => 0))) (t) (.inr (6, [.ref (loc9 (th)), .null]))) (ts) (eI cy 9 (fun _ => 0))) (t) (.inr (6, [.ref (loc30 (th)), .ref (loc30 (ts))]))) (tr) = some (eI cy 9 (f)) := xup_o (f38) (by omega)
  have f47 : (xup (xup (xup (xup w (th) (eI cy 9 (fun _ => 0))) (t) (.inr (6, [.ref (loc9 (th)), .null]))) (ts) (eI cy 9 (fun _ => 0))) (t) (.inr (6, [.ref (loc30 (th)), .ref (loc30 (ts))]))) (th) = some (eI cy 9 (fun _ => 0)) := xup_o (f39) (by omega)
  have f48 : (xup (xup (xup (xup w (th) (eI cy 9 (fun _ => 0))) (t) (.inr (6, [.ref (loc9 (th)), .null]))) (ts) (eI cy 9 (fun _ => 0))) (t) (.inr (6, [.ref (loc30 (th)), .ref (loc30 (ts))]))) (ts) = some (eI cy 9 (fun _ => 0)) := xup_o (f40) (by omega)
  refine lv_iconst (v := nI 0) hx hb dX6_init_20 (by decide +kernel) ?_
  refine lv_istore_n (lv' := [(2, .int (nI (0))), (0, .ref (loc30 (t))), (1, .ref (loc30 (tr)))]) hx hb dX6_init_21 rfl hl (by decide) rfl (fun ls hl => ?_)
  have lp22_49 : ∀ (fuel54 : Nat) (i : Nat) (g1 : Nat → Int32) (ls : Array Slot) (H50 : Heap) (L51 : List Loc), 9 - i < fuel54 → (i ≤ 9) → (g1 = xsl0 i f) → xV D (xA loc w s.heap.size) loc30 ((xup (xup (xup (xup (xup w (th) (eI cy 9 (fun _ => 0))) (t) (.inr (6, [.ref (loc9 (th)), .null]))) (ts) (eI cy 9 (fun _ => 0))) (t) (.inr (6, [.ref (loc30 (th)), .ref (loc30 (ts))]))) (th) (eI cy 9 (g1)))) H50 → va_S (xA loc w s.heap.size) s.heap H50 L51 → lv_has ls 3 [(2, .int (nI (i))), (0, .ref (loc30 (t))), (1, .ref (loc30 (tr)))] → W p l e rm_X6_init s m ([.ref (loc (t)), .ref (loc (tr))] : List Value).toArray below meth c H50 L51 ((0 + 1) + 1) ((0 + 9) + 9) (MQ below (va_Qv (fun u => (∀ b, b ≠ th → b ≠ ts → u.1 b = loc b) ∧ u.2 = xup (xup (xup w th (eI cy 9 (xsl0 9 f))) ts (eI cy 9 (fun _ => 0))) t (.inr (6, [.ref (u.1 th), .ref (u.1 ts)]))) (xB D (xA loc w s.heap.size)) (xA loc w s.heap.size)) ([.ref (loc (t)), .ref (loc (tr))] : List Value).toArray s 2 18 (xA loc w s.heap.size)) (F0 m 22 ls []) := by
    intro fuel54
    induction fuel54 with
    | zero => intro i g1 ls H50 L51 hm55; exact absurd hm55 (Nat.not_lt_zero _)
    | succ fuel54 ih56 =>
      intro i g1 ls H50 L51 hm55 h1 h2 hV52 hS53 hl
      have f57 : (xup (xup (xup (xup (xup w (th) (eI cy 9 (fun _ => 0))) (t) (.inr (6, [.ref (loc9 (th)), .null]))) (ts) (eI cy 9 (fun _ => 0))) (t) (.inr (6, [.ref (loc30 (th)), .ref (loc30 (ts))]))) (th) (eI cy 9 (g1))) (t) = some (.inr (6, [.ref (loc30 (th)), .ref (loc30 (ts))])) := xup_o (xup_at _ _ _) (by omega)
      have f58 : (xup (xup (xup (xup (xup w (th) (eI cy 9 (fun _ => 0))) (t) (.inr (6, [.ref (loc9 (th)), .null]))) (ts) (eI cy 9 (fun _ => 0))) (t) (.inr (6, [.ref (loc30 (th)), .ref (loc30 (ts))]))) (th) (eI cy 9 (g1))) (tr) = some (eI cy 9 (f)) := xup_o (xup_o (f38) (by omega)) (by omega)
      have f59 : (xup (xup (xup (xup (xup w (th) (eI cy 9 (fun _ => 0))) (t) (.inr (6, [.ref (loc9 (th)), .null]))) (ts) (eI cy 9 (fun _ => 0))) (t) (.inr (6, [.ref (loc30 (th)), .ref (loc30 (ts))]))) (th) (eI cy 9 (g1))) (th) = some (eI cy 9 (g1)) := xup_at _ _ _
      have f60 : (xup (xup (xup (xup (xup w (th) (eI cy 9 (fun _ => 0))) (t) (.inr (6, [.ref (loc9 (th)), .null]))) (ts) (eI cy 9 (fun _ => 0))) (t) (.inr (6, [.ref (loc30 (th)), .ref (loc30 (ts))]))) (th) (eI cy 9 (g1))) (ts) = some (eI cy 9 (fun _ => 0)) := xup_o (xup_o (f40) (by omega)) (by omega)
      refine lv_iload_n hx hb dX6_init_22 rfl (lv_at hl 0 rfl) ?_
      refine lv_bipush (v := nI 9) hx hb dX6_init_23 (by decide +kernel) ?_
      refine x_cge hx hb (i) (9) (by omega) (by omega) (tgt := 43) dX6_init_25 (by decide) (fun c61 => ?_) (fun c61 => ?_)
      · have _u := trivial
        refine W.widen (k := 2) (n := 18) (by omega) (by omega) ?_
        exact x_rmv hx hb hr hlocks dX6_init_43 hV52 hS53 (⟨fun b9 m0 m1 => (hlo32 b9 m1).symm.trans (hlo11 b9 m0).symm, by show xup _ _ _ = _; rw [h2, show i = 9 by omega, xup_comm _ _ _ n2, xup_xup, x_norm2 (fun q => n1 q.symm) n3]⟩)
      · have _u := trivial
        refine lv_aload_n hx hb dX6_init_28 rfl (lv_at hl 1 rfl) ?_
        refine x_get (C := RX6) (T := TX6) (N := 2) hx hb hts hi_X6_init_X6 hown hK hV52 f57 rfl 0 (by decide) (hts (.fieldLink RX6 9 "SaddleHouse$Tree" "heights" "[I") (by decide +kernel)) (fun _ h9 => h9) rfl dX6_init_29 ?_
        refine lv_iload_n hx hb dX6_init_32 rfl (lv_at hl 0 rfl) ?_
        refine lv_aload_n hx hb dX6_init_33 rfl (lv_at hl 2 rfl) ?_
        refine lv_iload_n hx hb dX6_init_34 rfl (lv_at hl 0 rfl) ?_
        refine x_iald hx hb hK hV52 f58 (i) (by omega) (by decide) dX6_init_35 ?_
        refine x_iast hx hb hK hV52 hS53 f59 (i) (by omega) (by decide) dX6_init_36 (fun H62 L63 hV64 hS65 => ?_)
        have hV66 := hV64.eq (xup_xup _ _ _ _)
        have f67 : (xup (xup (xup (xup (xup w (th) (eI cy 9 (fun _ => 0))) (t) (.inr (6, [.ref (loc9 (th)), .null]))) (ts) (eI cy 9 (fun _ => 0))) (t) (.inr (6, [.ref (loc30 (th)), .ref (loc30 (ts))]))) (th) (eI cy 9 (upd g1 i (f i)))) (t) = some (.inr (6, [.ref (loc30 (th)), .ref (loc30 (ts))])) := xup_o (xup_at _ _ _) (by omega)
        have f68 : (xup (xup (xup (xup (xup w (th) (eI cy 9 (fun _ => 0))) (t) (.inr (6, [.ref (loc9 (th)), .null]))) (ts) (eI cy 9 (fun _ => 0))) (t) (.inr (6, [.ref (loc30 (th)), .ref (loc30 (ts))]))) (th) (eI cy 9 (upd g1 i (f i)))) (tr) = some (eI cy 9 (f)) := xup_o (xup_o (f38) (by omega)) (by omega)
        have f69 : (xup (xup (xup (xup (xup w (th) (eI cy 9 (fun _ => 0))) (t) (.inr (6, [.ref (loc9 (th)), .null]))) (ts) (eI cy 9 (fun _ => 0))) (t) (.inr (6, [.ref (loc30 (th)), .ref (loc30 (ts))]))) (th) (eI cy 9 (upd g1 i (f i)))) (th) = some (eI cy 9 (upd g1 i (f i))) := xup_at _ _ _
        have f70 : (xup (xup (xup (xup (xup w (th) (eI cy 9 (fun _ => 0))) (t) (.inr (6, [.ref (loc9 (th)), .null]))) (ts) (eI cy 9 (fun _ => 0))) (t) (.inr (6, [.ref (loc30 (th)), .ref (loc30 (ts))]))) (th) (eI cy 9 (upd g1 i (f i)))) (ts) = some (eI cy 9 (fun _ => 0)) := xup_o (xup_o (f40) (by omega)) (by omega)
        refine lv_iinc (v := nI (i + 1)) (lv' := [(2, .int (nI (i + 1))), (0, .ref (loc30 (t))), (1, .ref (loc30 (tr)))]) hx hb dX6_init_37 hl (k := 0) rfl (nI_add _ _) (by decide) rfl (fun ls hl => ?_)
        refine lv_goto (tgt := 22) hx hb dX6_init_40 (by decide) ?_
        exact ih56 (i + 1) (upd g1 i (f i)) ls _ _ (by omega) (by omega) (by rw [h2]; exact xsl0_s f i) hV66 hS65 (lv_sub hl [0, 1, 2] rfl)
  exact lp22_49 (9 + 1) 0 (fun _ => 0) ls _ _ (by omega) (Nat.zero_le _) (xsl0_0 f).symm (hV43.eq (xup_id f47).symm) hS44 (lv_sub hl [0, 1, 2] rfl)
