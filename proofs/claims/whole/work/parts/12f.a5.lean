abbrev rm_X5_settle : Room := { frames := 3, cells := 0, slots := 0, locals := 67 }
theorem hi_X5_settle_X5 : ∀ w ∈ wsX50, w ∈ wsX5_settle := by decide +kernel
set_option maxHeartbeats 4000000 in
set_option maxRecDepth 100000 in
theorem c_X5_settle (l : Launch) (D : va_G) (cy : Nat → ClassId) (loc : Nat → Nat) (w : xM) (sz : Nat) (t th ts b bh : Nat) (g0 b0 hs ss bs : Nat → Int32) (dd : Int32) (n1 : th ≠ 9 ∧ th ≠ 10) (n2 : ts ≠ 9 ∧ ts ≠ 10) (n3 : bh ≠ 9 ∧ bh ≠ 10) (n4 : t ≠ 9 ∧ t ≠ 10) (n5 : b ≠ 9 ∧ b ≠ 10) (G : Nat → Nat) (hG : ∀ i, i < 9 → hs i - ss i - bs i - xmn (fun j => hs j - ss j - bs j) 8 = nI (G i)) (hG1 : ∀ i, i < 9 → G i ≤ 1000) (hG0 : ∃ i, i < 9 ∧ G i = 0) (load : Nat) (hl1 : 1 ≤ load) (hl2 : load ≤ 2000) (f1 : w (8) = some (.inr (5, [.ref (loc (9)), .ref (loc (10))]))) (f2 : w (t) = some (.inr (6, [.ref (loc (th)), .ref (loc (ts))]))) (f3 : w (b) = some (.inr (3, [.int (dd), .ref (loc (bh))]))) (f4 : w (9) = some (eI cy 9 (g0))) (f5 : w (10) = some (eI cy 9 (b0))) (f6 : w (th) = some (eI cy 9 (hs))) (f7 : w (ts) = some (eI cy 9 (ss))) (f8 : w (bh) = some (eI cy 9 (bs))) : Met l yX5_settle wsX5_settle rm_X5_settle (va_Pc [.ref (loc (8)), .ref (loc (t)), .ref (loc (b)), .int (nI (load))] (xP D cy loc w sz)) (va_Qv (fun u => u.1 = loc ∧ ∃ g b : Nat → Int32, u.2 = xup (xup w 9 (eI cy 9 g)) 10 (eI cy 9 b) ∧ ∀ j, j < 9 → b j = xbr G load j) (xB D (xA loc w sz)) (xA loc w sz)) 0 0 (xA loc w sz) := by
  refine x_met (cc := cX5_settle) (maxL := 6) (ret := none) (C := RX5) (by decide) rfl rfl (Nat.le_of_ble_eq_true rfl) ?_
  intro p e s m below meth c ls hx hb hml hr hts hown hlocks hin hP hl
  obtain ⟨hsz, hV, hK⟩ := hP
  subst hsz
  have hA : ∀ q : Nat, s.heap.size ≤ q → xA loc w s.heap.size q := fun q h => Or.inr h
  have hS : va_S (xA loc w s.heap.size) s.heap s.heap [] := va_S.rf
  have hl : lv_has ls 6 [(0, .ref (loc (8))), (1, .ref (loc (t))), (2, .ref (loc (b))), (3, .int (nI (load)))] := hl
  obtain ⟨hd1, hd2⟩ := xdepth_ok hG0 hl2
  refine lv_aload_n hx hb dX5_settle_0 rfl (lv_at hl 0 rfl) ?_
  refine lv_aload_n hx hb dX5_settle_1 rfl (lv_at hl 1 rfl) ?_
  refine lv_aload_n hx hb dX5_settle_2 rfl (lv_at hl 2 rfl) ?_
  refine x_mv (va_runV (As := [.ref (loc (t)), .ref (loc (b))]) (rest := []) ⟨hx, hb, hml, hown, hts⟩ (c_X5_takeGaps l D cy loc w s.heap.size t th ts b bh g0 hs ss bs dd n1.1 n2.1 n3.1 n4.1 n5.1 f1 f2 f3 f4 f6 f7 f8) (cwV 2 hts gX5_settle_X5_takeGaps rfl rfl rfl (by decide +kernel) ⟨Nat.le_of_ble_eq_true rfl, Nat.le_of_ble_eq_true rfl⟩) (x_preV hK hV f1 rfl) rfl rfl hl.1 rfl (lv_room (Nat.le_of_ble_eq_true rfl)) dX5_settle_3 ⟨Nat.le_of_ble_eq_true rfl, Nat.le_of_ble_eq_true rfl⟩) hV hS hA (fun loc16 w15 H11 L12 hr10 hV13 hS14 => ?_)
  obtain ⟨e17, g1, e18, hg1⟩ := hr10
  have e17 : loc = loc16 := Eq.symm e17
  subst e17
  have e18 := Eq.symm e18
  subst e18
  have f19 : (xup w (9) (eI cy 9 (g1))) (8) = some (.inr (5, [.ref (loc (9)), .ref (loc (10))])) := xup_o (f1) (by omega)
  have f20 : (xup w (9) (eI cy 9 (g1))) (t) = some (.inr (6, [.ref (loc (th)), .ref (loc (ts))])) := xup_o (f2) (by omega)
  have f21 : (xup w (9) (eI cy 9 (g1))) (b) = some (.inr (3, [.int (dd), .ref (loc (bh))])) := xup_o (f3) (by omega)
  have f22 : (xup w (9) (eI cy 9 (g1))) (9) = some (eI cy 9 (g1)) := xup_at _ _ _
  have f23 : (xup w (9) (eI cy 9 (g1))) (10) = some (eI cy 9 (b0)) := xup_o (f5) (by omega)
  have f24 : (xup w (9) (eI cy 9 (g1))) (th) = some (eI cy 9 (hs)) := xup_o (f6) (by omega)
  have f25 : (xup w (9) (eI cy 9 (g1))) (ts) = some (eI cy 9 (ss)) := xup_o (f7) (by omega)
  have f26 : (xup w (9) (eI cy 9 (g1))) (bh) = some (eI cy 9 (bs)) := xup_o (f8) (by omega)
  refine lv_aload_n hx hb dX5_settle_6 rfl (lv_at hl 0 rfl) ?_
  refine lv_iload_n hx hb dX5_settle_7 rfl (lv_at hl 3 rfl) ?_
  refine x_ci (va_runV (As := [.int (nI (load))]) (rest := []) ⟨hx, hb, hml, hown, hts⟩ (c_X5_depthFor l D cy loc (xup w (9) (eI cy 9 (g1))) H11.size g1 G (fun i hi => (hg1 i hi).trans (hG i hi)) hG1 hG0 load hl1 hl2 f19 f22) (cwV 1 hts gX5_settle_X5_depthFor rfl rfl rfl (by decide +kernel) ⟨Nat.le_of_ble_eq_true rfl, Nat.le_of_ble_eq_true rfl⟩) (x_preV hK hV13 f19 rfl) rfl rfl hl.1 rfl (lv_room (Nat.le_of_ble_eq_true rfl)) dX5_settle_8 ⟨Nat.le_of_ble_eq_true rfl, Nat.le_of_ble_eq_true rfl⟩) (fun r27 hr28 => ?_)
  obtain rfl : r27 = nI (xdepth G load) := hr28
  refine lv_istore (lv' := [(4, .int (nI (xdepth G load))), (0, .ref (loc (8))), (1, .ref (loc (t))), (2, .ref (loc (b))), (3, .int (nI (load)))]) hx hb dX5_settle_11 hl (by decide) rfl (fun ls hl => ?_)
  refine lv_iconst (v := nI 0) hx hb dX5_settle_13 (by decide +kernel) ?_
  refine lv_istore (lv' := [(5, .int (nI (0))), (4, .int (nI (xdepth G load))), (0, .ref (loc (8))), (1, .ref (loc (t))), (2, .ref (loc (b))), (3, .int (nI (load)))]) hx hb dX5_settle_14 hl (by decide) rfl (fun ls hl => ?_)
  have lp16_29 : ∀ (fuel34 : Nat) (i : Nat) (b1 : Nat → Int32) (ls : Array Slot) (H30 : Heap) (L31 : List Loc), 9 - i < fuel34 → (i ≤ 9) → (∀ j, j < i → b1 j = (fun j => nI (xdepth G load - G j)) j) → xV D (xA loc w s.heap.size) loc ((xup (xup w (9) (eI cy 9 (g1))) (10) (eI cy 9 (b1)))) H30 → va_S (xA loc w s.heap.size) s.heap H30 L31 → lv_has ls 6 [(5, .int (nI (i))), (4, .int (nI (xdepth G load))), (0, .ref (loc (8))), (1, .ref (loc (t))), (2, .ref (loc (b))), (3, .int (nI (load)))] → W p l e rm_X5_settle s m ([.ref (loc (8)), .ref (loc (t)), .ref (loc (b)), .int (nI (load))] : List Value).toArray below meth c H30 L31 (0 + 0) (0 + 0) (MQ below (va_Qv (fun u => u.1 = loc ∧ ∃ g b : Nat → Int32, u.2 = xup (xup w 9 (eI cy 9 g)) 10 (eI cy 9 b) ∧ ∀ j, j < 9 → b j = xbr G load j) (xB D (xA loc w s.heap.size)) (xA loc w s.heap.size)) ([.ref (loc (8)), .ref (loc (t)), .ref (loc (b)), .int (nI (load))] : List Value).toArray s 0 0 (xA loc w s.heap.size)) (F0 m 16 ls []) := by
    intro fuel34
    induction fuel34 with
    | zero => intro i b1 ls H30 L31 hm35; exact absurd hm35 (Nat.not_lt_zero _)
    | succ fuel34 ih36 =>
      intro i b1 ls H30 L31 hm35 h1 h2 hV32 hS33 hl
      have f37 : (xup (xup w (9) (eI cy 9 (g1))) (10) (eI cy 9 (b1))) (8) = some (.inr (5, [.ref (loc (9)), .ref (loc (10))])) := xup_o (xup_o (f1) (by omega)) (by omega)
      have f38 : (xup (xup w (9) (eI cy 9 (g1))) (10) (eI cy 9 (b1))) (t) = some (.inr (6, [.ref (loc (th)), .ref (loc (ts))])) := xup_o (xup_o (f2) (by omega)) (by omega)
      have f39 : (xup (xup w (9) (eI cy 9 (g1))) (10) (eI cy 9 (b1))) (b) = some (.inr (3, [.int (dd), .ref (loc (bh))])) := xup_o (xup_o (f3) (by omega)) (by omega)
      have f40 : (xup (xup w (9) (eI cy 9 (g1))) (10) (eI cy 9 (b1))) (9) = some (eI cy 9 (g1)) := xup_o (xup_at _ _ _) (by omega)
      have f41 : (xup (xup w (9) (eI cy 9 (g1))) (10) (eI cy 9 (b1))) (10) = some (eI cy 9 (b1)) := xup_at _ _ _
      have f42 : (xup (xup w (9) (eI cy 9 (g1))) (10) (eI cy 9 (b1))) (th) = some (eI cy 9 (hs)) := xup_o (xup_o (f6) (by omega)) (by omega)
      have f43 : (xup (xup w (9) (eI cy 9 (g1))) (10) (eI cy 9 (b1))) (ts) = some (eI cy 9 (ss)) := xup_o (xup_o (f7) (by omega)) (by omega)
      have f44 : (xup (xup w (9) (eI cy 9 (g1))) (10) (eI cy 9 (b1))) (bh) = some (eI cy 9 (bs)) := xup_o (xup_o (f8) (by omega)) (by omega)
      refine lv_iload hx hb dX5_settle_16 (lv_at hl 0 rfl) ?_
      refine lv_bipush (v := nI 9) hx hb dX5_settle_18 (by decide +kernel) ?_
      refine x_cge hx hb (i) (9) (by omega) (by omega) (tgt := 50) dX5_settle_20 (by decide) (fun c45 => ?_) (fun c45 => ?_)
      · have _u := trivial
        refine lv_aload_n hx hb dX5_settle_50 rfl (lv_at hl 2 rfl) ?_
        refine lv_iload hx hb dX5_settle_51 (lv_at hl 1 rfl) ?_
        refine x_ci (va_runV (As := [.int (nI (xdepth G load))]) (rest := []) ⟨hx, hb, hml, hown, hts⟩ (c_X5_borneAt l D cy loc (xup (xup w (9) (eI cy 9 (g1))) (10) (eI cy 9 (b1))) H30.size g1 G (fun i hi => (hg1 i hi).trans (hG i hi)) hG1 (xdepth G load) (by omega) f37 f40) (cwV 1 hts gX5_settle_X5_borneAt rfl rfl rfl (by decide +kernel) ⟨Nat.le_of_ble_eq_true rfl, Nat.le_of_ble_eq_true rfl⟩) (x_preV hK hV32 f37 rfl) rfl rfl hl.1 rfl (lv_room (Nat.le_of_ble_eq_true rfl)) dX5_settle_53 ⟨Nat.le_of_ble_eq_true rfl, Nat.le_of_ble_eq_true rfl⟩) (fun r46 hr47 => ?_)
        obtain rfl : r46 = nI (xsm G (xdepth G load) 9) := hr47
        refine lv_iload_n hx hb dX5_settle_56 rfl (lv_at hl 5 rfl) ?_
        refine x_isub hx hb (xsm G (xdepth G load) 9) (load) (by omega) dX5_settle_57 ?_
        refine lv_istore (lv' := [(5, .int (nI ((xsm G (xdepth G load) 9) - load))), (4, .int (nI (xdepth G load))), (0, .ref (loc (8))), (1, .ref (loc (t))), (2, .ref (loc (b))), (3, .int (nI (load)))]) hx hb dX5_settle_58 hl (by decide) rfl (fun ls hl => ?_)
        have lp60_48 : ∀ (fuel53 : Nat) (ov : Nat) (b2 : Nat → Int32) (ls : Array Slot) (H49 : Heap) (L50 : List Loc), ov < fuel53 → (ov ≤ 30000) → (∀ j, j < 9 → xdec ov b2 j = xbr G load j) → xV D (xA loc w s.heap.size) loc ((xup (xup w (9) (eI cy 9 (g1))) (10) (eI cy 9 (b2)))) H49 → va_S (xA loc w s.heap.size) s.heap H49 L50 → lv_has ls 6 [(5, .int (nI (ov))), (4, .int (nI (xdepth G load))), (0, .ref (loc (8))), (1, .ref (loc (t))), (2, .ref (loc (b))), (3, .int (nI (load)))] → W p l e rm_X5_settle s m ([.ref (loc (8)), .ref (loc (t)), .ref (loc (b)), .int (nI (load))] : List Value).toArray below meth c H49 L50 (0 + 0) (0 + 0) (MQ below (va_Qv (fun u => u.1 = loc ∧ ∃ g b : Nat → Int32, u.2 = xup (xup w 9 (eI cy 9 g)) 10 (eI cy 9 b) ∧ ∀ j, j < 9 → b j = xbr G load j) (xB D (xA loc w s.heap.size)) (xA loc w s.heap.size)) ([.ref (loc (8)), .ref (loc (t)), .ref (loc (b)), .int (nI (load))] : List Value).toArray s 0 0 (xA loc w s.heap.size)) (F0 m 60 ls []) := by
          intro fuel53
          induction fuel53 with
          | zero => intro ov b2 ls H49 L50 hm54; exact absurd hm54 (Nat.not_lt_zero _)
          | succ fuel53 ih55 =>
            intro ov b2 ls H49 L50 hm54 h3 h4 hV51 hS52 hl
            have f56 : (xup (xup w (9) (eI cy 9 (g1))) (10) (eI cy 9 (b2))) (8) = some (.inr (5, [.ref (loc (9)), .ref (loc (10))])) := xup_o (xup_o (f1) (by omega)) (by omega)
            have f57 : (xup (xup w (9) (eI cy 9 (g1))) (10) (eI cy 9 (b2))) (t) = some (.inr (6, [.ref (loc (th)), .ref (loc (ts))])) := xup_o (xup_o (f2) (by omega)) (by omega)
            have f58 : (xup (xup w (9) (eI cy 9 (g1))) (10) (eI cy 9 (b2))) (b) = some (.inr (3, [.int (dd), .ref (loc (bh))])) := xup_o (xup_o (f3) (by omega)) (by omega)
            have f59 : (xup (xup w (9) (eI cy 9 (g1))) (10) (eI cy 9 (b2))) (9) = some (eI cy 9 (g1)) := xup_o (xup_at _ _ _) (by omega)
            have f60 : (xup (xup w (9) (eI cy 9 (g1))) (10) (eI cy 9 (b2))) (10) = some (eI cy 9 (b2)) := xup_at _ _ _
            have f61 : (xup (xup w (9) (eI cy 9 (g1))) (10) (eI cy 9 (b2))) (th) = some (eI cy 9 (hs)) := xup_o (xup_o (f6) (by omega)) (by omega)
            have f62 : (xup (xup w (9) (eI cy 9 (g1))) (10) (eI cy 9 (b2))) (ts) = some (eI cy 9 (ss)) := xup_o (xup_o (f7) (by omega)) (by omega)
            have f63 : (xup (xup w (9) (eI cy 9 (g1))) (10) (eI cy 9 (b2))) (bh) = some (eI cy 9 (bs)) := xup_o (xup_o (f8) (by omega)) (by omega)
            refine lv_iload hx hb dX5_settle_60 (lv_at hl 0 rfl) ?_
            refine lv_if_le (tgt := 84) hx hb dX5_settle_62 (by decide) (fun c64 => ?_) (fun c64 => ?_)
            · have _u := trivial
              have c64 : ov = 0 := nI_le0 (by omega) c64
              refine W.widen (k := 0) (n := 0) (by omega) (by omega) ?_
              exact x_rmv hx hb hr hlocks dX5_settle_84 hV51 hS52 (⟨rfl, g1, b2, rfl, fun j hj => by have h9 := h4 j hj; rw [c64, xdec] at h9; exact h9⟩)
            · have _u := trivial
              have c64 : 1 ≤ ov := nI_gt0 c64
              refine lv_aload_n hx hb dX5_settle_65 rfl (lv_at hl 2 rfl) ?_
              refine x_get (C := RX5) (T := TX5) (N := 2) hx hb hts hi_X5_settle_X5 hown hK hV51 f56 rfl 1 (by decide) (hts (.fieldLink RX5 15 "SaddleHouse$Seat" "borne" "[I") (by decide +kernel)) (fun _ h9 => h9) rfl dX5_settle_66 ?_
              refine lv_aload_n hx hb dX5_settle_69 rfl (lv_at hl 2 rfl) ?_
              refine x_ci (va_runV (As := []) (rest := [.ref (loc (10))]) ⟨hx, hb, hml, hown, hts⟩ (c_X5_firstOfMost l D cy loc (xup (xup w (9) (eI cy 9 (g1))) (10) (eI cy 9 (b2))) H49.size b2 f56 f60) (cwV 0 hts gX5_settle_X5_firstOfMost rfl rfl rfl (by decide +kernel) ⟨Nat.le_of_ble_eq_true rfl, Nat.le_of_ble_eq_true rfl⟩) (x_preV hK hV51 f56 rfl) rfl rfl hl.1 rfl (lv_room (Nat.le_of_ble_eq_true rfl)) dX5_settle_70 ⟨Nat.le_of_ble_eq_true rfl, Nat.le_of_ble_eq_true rfl⟩) (fun r65 hr66 => ?_)
              obtain rfl : r65 = nI (xtop b2 8) := hr66
              refine lv_dup2_11 hx hb dX5_settle_73 rfl rfl ?_
              refine x_iald hx hb hK hV51 f60 (xtop b2 8) (by have := xtop_le b2 8; omega) (by decide) dX5_settle_74 ?_
              refine lv_iconst (v := nI 1) hx hb dX5_settle_75 (by decide +kernel) ?_
              refine lv_isub hx hb dX5_settle_76 ?_
              refine x_iast hx hb hK hV51 hS52 f60 (xtop b2 8) (by have := xtop_le b2 8; omega) (by decide) dX5_settle_77 (fun H67 L68 hV69 hS70 => ?_)
              have hV71 := hV69.eq (xup_xup _ _ _ _)
              have f72 : (xup (xup w (9) (eI cy 9 (g1))) (10) (eI cy 9 (upd b2 (xtop b2 8) ((b2 (xtop b2 8)) - (nI 1))))) (8) = some (.inr (5, [.ref (loc (9)), .ref (loc (10))])) := xup_o (xup_o (f1) (by omega)) (by omega)
              have f73 : (xup (xup w (9) (eI cy 9 (g1))) (10) (eI cy 9 (upd b2 (xtop b2 8) ((b2 (xtop b2 8)) - (nI 1))))) (t) = some (.inr (6, [.ref (loc (th)), .ref (loc (ts))])) := xup_o (xup_o (f2) (by omega)) (by omega)
              have f74 : (xup (xup w (9) (eI cy 9 (g1))) (10) (eI cy 9 (upd b2 (xtop b2 8) ((b2 (xtop b2 8)) - (nI 1))))) (b) = some (.inr (3, [.int (dd), .ref (loc (bh))])) := xup_o (xup_o (f3) (by omega)) (by omega)
              have f75 : (xup (xup w (9) (eI cy 9 (g1))) (10) (eI cy 9 (upd b2 (xtop b2 8) ((b2 (xtop b2 8)) - (nI 1))))) (9) = some (eI cy 9 (g1)) := xup_o (xup_at _ _ _) (by omega)
              have f76 : (xup (xup w (9) (eI cy 9 (g1))) (10) (eI cy 9 (upd b2 (xtop b2 8) ((b2 (xtop b2 8)) - (nI 1))))) (10) = some (eI cy 9 (upd b2 (xtop b2 8) ((b2 (xtop b2 8)) - (nI 1)))) := xup_at _ _ _
              have f77 : (xup (xup w (9) (eI cy 9 (g1))) (10) (eI cy 9 (upd b2 (xtop b2 8) ((b2 (xtop b2 8)) - (nI 1))))) (th) = some (eI cy 9 (hs)) := xup_o (xup_o (f6) (by omega)) (by omega)
              have f78 : (xup (xup w (9) (eI cy 9 (g1))) (10) (eI cy 9 (upd b2 (xtop b2 8) ((b2 (xtop b2 8)) - (nI 1))))) (ts) = some (eI cy 9 (ss)) := xup_o (xup_o (f7) (by omega)) (by omega)
              have f79 : (xup (xup w (9) (eI cy 9 (g1))) (10) (eI cy 9 (upd b2 (xtop b2 8) ((b2 (xtop b2 8)) - (nI 1))))) (bh) = some (eI cy 9 (bs)) := xup_o (xup_o (f8) (by omega)) (by omega)
              refine lv_iinc (v := nI ((ov) - 1)) (lv' := [(5, .int (nI ((ov) - 1))), (4, .int (nI (xdepth G load))), (0, .ref (loc (8))), (1, .ref (loc (t))), (2, .ref (loc (b))), (3, .int (nI (load)))]) hx hb dX5_settle_78 hl (k := 0) rfl (x_dec (by omega)) (by decide) rfl (fun ls hl => ?_)
              refine lv_goto (tgt := 60) hx hb dX5_settle_81 (by decide) ?_
              exact ih55 ((ov) - 1) (upd b2 (xtop b2 8) ((b2 (xtop b2 8)) - (nI 1))) ls _ _ (by omega) (by omega) (xdec_n (by omega) h4) hV71 hS70 (lv_sub hl [0, 1, 2, 3, 4, 5] rfl)
        exact lp60_48 ((xsm G (xdepth G load) 9 - load) + 1) ((xsm G (xdepth G load) 9) - load) b1 ls _ _ (by omega) (by have := xsm_le (G := G) (xdepth G load) 9; omega) (fun j hj => xdec_cong _ (fun i hi => h2 i (by omega)) j hj) hV32 hS33 (lv_sub hl [0, 1, 2, 3, 4, 5] rfl)
      · have _u := trivial
        refine lv_aload_n hx hb dX5_settle_23 rfl (lv_at hl 2 rfl) ?_
        refine x_get (C := RX5) (T := TX5) (N := 2) hx hb hts hi_X5_settle_X5 hown hK hV32 f37 rfl 1 (by decide) (hts (.fieldLink RX5 15 "SaddleHouse$Seat" "borne" "[I") (by decide +kernel)) (fun _ h9 => h9) rfl dX5_settle_24 ?_
        refine lv_iload hx hb dX5_settle_27 (lv_at hl 0 rfl) ?_
        refine lv_iconst (v := nI 0) hx hb dX5_settle_29 (by decide +kernel) ?_
        refine lv_iload hx hb dX5_settle_30 (lv_at hl 1 rfl) ?_
        refine lv_aload_n hx hb dX5_settle_32 rfl (lv_at hl 2 rfl) ?_
        refine x_get (C := RX5) (T := TX5) (N := 2) hx hb hts hi_X5_settle_X5 hown hK hV32 f37 rfl 0 (by decide) (hts (.fieldLink RX5 9 "SaddleHouse$Seat" "gaps" "[I") (by decide +kernel)) (fun _ h9 => h9) rfl dX5_settle_33 ?_
        refine lv_iload hx hb dX5_settle_36 (lv_at hl 0 rfl) ?_
        refine x_iald hx hb hK hV32 f40 (i) (by omega) (by decide) dX5_settle_38 ?_
        refine x_top (congrArg Value.int (show _ = nI (G (i)) from (hg1 i (by omega)).trans (hG i (by omega)))) ?_
        refine lv_isub hx hb dX5_settle_39 ?_
        refine va_mmax hx hb (by rw [hml]; exact hl.1.symm) hown (hts (.methodLink RX5 26 Lib.Math.max.name) (by decide +kernel)) (hts (.static Lib.Math.max.name) (by decide +kernel)) (hts (.initialized "java/lang/Math") (by decide +kernel)) (hts (.code Lib.Math.max.name Lib.Math.max.code 2 (some .int)) (by decide +kernel)) (Nat.le_of_ble_eq_true rfl) (Nat.le_of_ble_eq_true rfl) (Nat.zero_le _) (Nat.zero_le _) dX5_settle_40 ?_
        refine x_top (congrArg Value.int (show _ = nI (xdepth G load - G i) from x_max0 (by omega) (by have := hG1 i (by omega); omega))) ?_
        refine x_iast hx hb hK hV32 hS33 f41 (i) (by omega) (by decide) dX5_settle_43 (fun H80 L81 hV82 hS83 => ?_)
        have hV84 := hV82.eq (xup_xup _ _ _ _)
        have f85 : (xup (xup w (9) (eI cy 9 (g1))) (10) (eI cy 9 (upd b1 i (nI (xdepth G load - G i))))) (8) = some (.inr (5, [.ref (loc (9)), .ref (loc (10))])) := xup_o (xup_o (f1) (by omega)) (by omega)
        have f86 : (xup (xup w (9) (eI cy 9 (g1))) (10) (eI cy 9 (upd b1 i (nI (xdepth G load - G i))))) (t) = some (.inr (6, [.ref (loc (th)), .ref (loc (ts))])) := xup_o (xup_o (f2) (by omega)) (by omega)
        have f87 : (xup (xup w (9) (eI cy 9 (g1))) (10) (eI cy 9 (upd b1 i (nI (xdepth G load - G i))))) (b) = some (.inr (3, [.int (dd), .ref (loc (bh))])) := xup_o (xup_o (f3) (by omega)) (by omega)
        have f88 : (xup (xup w (9) (eI cy 9 (g1))) (10) (eI cy 9 (upd b1 i (nI (xdepth G load - G i))))) (9) = some (eI cy 9 (g1)) := xup_o (xup_at _ _ _) (by omega)
        have f89 : (xup (xup w (9) (eI cy 9 (g1))) (10) (eI cy 9 (upd b1 i (nI (xdepth G load - G i))))) (10) = some (eI cy 9 (upd b1 i (nI (xdepth G load - G i)))) := xup_at _ _ _
        have f90 : (xup (xup w (9) (eI cy 9 (g1))) (10) (eI cy 9 (upd b1 i (nI (xdepth G load - G i))))) (th) = some (eI cy 9 (hs)) := xup_o (xup_o (f6) (by omega)) (by omega)
        have f91 : (xup (xup w (9) (eI cy 9 (g1))) (10) (eI cy 9 (upd b1 i (nI (xdepth G load - G i))))) (ts) = some (eI cy 9 (ss)) := xup_o (xup_o (f7) (by omega)) (by omega)
        have f92 : (xup (xup w (9) (eI cy 9 (g1))) (10) (eI cy 9 (upd b1 i (nI (xdepth G load - G i))))) (bh) = some (eI cy 9 (bs)) := xup_o (xup_o (f8) (by omega)) (by omega)
        refine lv_iinc (v := nI (i + 1)) (lv' := [(5, .int (nI (i + 1))), (4, .int (nI (xdepth G load))), (0, .ref (loc (8))), (1, .ref (loc (t))), (2, .ref (loc (b))), (3, .int (nI (load)))]) hx hb dX5_settle_44 hl (k := 0) rfl (nI_add _ _) (by decide) rfl (fun ls hl => ?_)
        refine lv_goto (tgt := 16) hx hb dX5_settle_47 (by decide) ?_
        exact ih36 (i + 1) (upd b1 i (nI (xdepth G load - G i))) ls _ _ (by omega) (by omega) (upd_lt h2 rfl) hV84 hS83 (lv_sub hl [0, 1, 2, 3, 4, 5] rfl)
  exact lp16_29 (9 + 1) 0 b0 ls _ _ (by omega) (Nat.zero_le _) (fun j h => absurd h (Nat.not_lt_zero j)) (hV13.eq (xup_id f23).symm) hS14 (lv_sub hl [0, 1, 2, 3, 4, 5] rfl)
