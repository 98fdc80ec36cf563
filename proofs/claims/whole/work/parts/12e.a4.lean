abbrev rm_X5_takeGaps : Room := { frames := 1, cells := 0, slots := 0, locals := 21 }
theorem hi_X5_takeGaps_X3 : ∀ w ∈ wsX30, w ∈ wsX5_takeGaps := by decide +kernel
theorem hi_X5_takeGaps_X5 : ∀ w ∈ wsX50, w ∈ wsX5_takeGaps := by decide +kernel
set_option maxHeartbeats 4000000 in
set_option maxRecDepth 100000 in
theorem c_X5_takeGaps (l : Launch) (D : va_G) (cy : Nat → ClassId) (loc : Nat → Nat) (w : xM) (sz : Nat) (t th ts b bh : Nat) (g0 hs ss bs : Nat → Int32) (dd : Int32) (n1 : th ≠ 9) (n2 : ts ≠ 9) (n3 : bh ≠ 9) (n4 : t ≠ 9) (n5 : b ≠ 9) (f1 : w (8) = some (.inr (5, [.ref (loc (9)), .ref (loc (10))]))) (f2 : w (t) = some (.inr (6, [.ref (loc (th)), .ref (loc (ts))]))) (f3 : w (b) = some (.inr (3, [.int (dd), .ref (loc (bh))]))) (f4 : w (9) = some (eI cy 9 (g0))) (f5 : w (th) = some (eI cy 9 (hs))) (f6 : w (ts) = some (eI cy 9 (ss))) (f7 : w (bh) = some (eI cy 9 (bs))) : Met l yX5_takeGaps wsX5_takeGaps rm_X5_takeGaps (va_Pc [.ref (loc (8)), .ref (loc (t)), .ref (loc (b))] (xP D cy loc w sz)) (va_Qv (fun u => u.1 = loc ∧ ∃ g : Nat → Int32, u.2 = xup w 9 (eI cy 9 g) ∧ ∀ j, j < 9 → g j = hs j - ss j - bs j - xmn (fun j => hs j - ss j - bs j) 8) (xB D (xA loc w sz)) (xA loc w sz)) 0 0 (xA loc w sz) := by
  refine x_met (cc := cX5_takeGaps) (maxL := 5) (ret := none) (C := RX5) (by decide) rfl rfl (Nat.le_of_ble_eq_true rfl) ?_
  intro p e s m below meth c ls hx hb hml hr hts hown hlocks hin hP hl
  obtain ⟨hsz, hV, hK⟩ := hP
  subst hsz
  have hA : ∀ q : Nat, s.heap.size ≤ q → xA loc w s.heap.size q := fun q h => Or.inr h
  have hS : va_S (xA loc w s.heap.size) s.heap s.heap [] := va_S.rf
  have hl : lv_has ls 5 [(0, .ref (loc (8))), (1, .ref (loc (t))), (2, .ref (loc (b)))] := hl
  refine lv_iconst (v := nI 0) hx hb dX5_takeGaps_0 (by decide +kernel) ?_
  refine lv_istore_n (lv' := [(3, .int (nI (0))), (0, .ref (loc (8))), (1, .ref (loc (t))), (2, .ref (loc (b)))]) hx hb dX5_takeGaps_1 rfl hl (by decide) rfl (fun ls hl => ?_)
  have lp2_8 : ∀ (fuel13 : Nat) (i : Nat) (g : Nat → Int32) (ls : Array Slot) (H9 : Heap) (L10 : List Loc), 9 - i < fuel13 → (i ≤ 9) → (∀ j, j < i → g j = hs j - ss j - bs j) → xV D (xA loc w s.heap.size) loc ((xup w (9) (eI cy 9 (g)))) H9 → va_S (xA loc w s.heap.size) s.heap H9 L10 → lv_has ls 5 [(3, .int (nI (i))), (0, .ref (loc (8))), (1, .ref (loc (t))), (2, .ref (loc (b)))] → W p l e rm_X5_takeGaps s m ([.ref (loc (8)), .ref (loc (t)), .ref (loc (b))] : List Value).toArray below meth c H9 L10 0 0 (MQ below (va_Qv (fun u => u.1 = loc ∧ ∃ g : Nat → Int32, u.2 = xup w 9 (eI cy 9 g) ∧ ∀ j, j < 9 → g j = hs j - ss j - bs j - xmn (fun j => hs j - ss j - bs j) 8) (xB D (xA loc w s.heap.size)) (xA loc w s.heap.size)) ([.ref (loc (8)), .ref (loc (t)), .ref (loc (b))] : List Value).toArray s 0 0 (xA loc w s.heap.size)) (F0 m 2 ls []) := by
    intro fuel13
    induction fuel13 with
    | zero => intro i g ls H9 L10 hm14; exact absurd hm14 (Nat.not_lt_zero _)
    | succ fuel13 ih15 =>
      intro i g ls H9 L10 hm14 h1 h2 hV11 hS12 hl
      have f16 : (xup w (9) (eI cy 9 (g))) (8) = some (.inr (5, [.ref (loc (9)), .ref (loc (10))])) := xup_o (f1) (by omega)
      have f17 : (xup w (9) (eI cy 9 (g))) (t) = some (.inr (6, [.ref (loc (th)), .ref (loc (ts))])) := xup_o (f2) (by omega)
      have f18 : (xup w (9) (eI cy 9 (g))) (b) = some (.inr (3, [.int (dd), .ref (loc (bh))])) := xup_o (f3) (by omega)
      have f19 : (xup w (9) (eI cy 9 (g))) (9) = some (eI cy 9 (g)) := xup_at _ _ _
      have f20 : (xup w (9) (eI cy 9 (g))) (th) = some (eI cy 9 (hs)) := xup_o (f5) (by omega)
      have f21 : (xup w (9) (eI cy 9 (g))) (ts) = some (eI cy 9 (ss)) := xup_o (f6) (by omega)
      have f22 : (xup w (9) (eI cy 9 (g))) (bh) = some (eI cy 9 (bs)) := xup_o (f7) (by omega)
      refine lv_iload_n hx hb dX5_takeGaps_2 rfl (lv_at hl 0 rfl) ?_
      refine lv_bipush (v := nI 9) hx hb dX5_takeGaps_3 (by decide +kernel) ?_
      refine x_cge hx hb (i) (9) (by omega) (by omega) (tgt := 32) dX5_takeGaps_5 (by decide) (fun c23 => ?_) (fun c23 => ?_)
      · have _u := trivial
        refine lv_aload_n hx hb dX5_takeGaps_32 rfl (lv_at hl 1 rfl) ?_
        refine x_get (C := RX5) (T := TX5) (N := 2) hx hb hts hi_X5_takeGaps_X5 hown hK hV11 f16 rfl 0 (by decide) (hts (.fieldLink RX5 9 "SaddleHouse$Seat" "gaps" "[I") (by decide +kernel)) (fun _ h9 => h9) rfl dX5_takeGaps_33 ?_
        refine lv_iconst (v := nI 0) hx hb dX5_takeGaps_36 (by decide +kernel) ?_
        refine x_iald hx hb hK hV11 f19 (0) (by omega) (by decide) dX5_takeGaps_37 ?_
        refine lv_istore_n (lv' := [(3, .int (g 0)), (0, .ref (loc (8))), (1, .ref (loc (t))), (2, .ref (loc (b)))]) hx hb dX5_takeGaps_38 rfl hl (by decide) rfl (fun ls hl => ?_)
        refine lv_iconst (v := nI 1) hx hb dX5_takeGaps_39 (by decide +kernel) ?_
        refine lv_istore (lv' := [(4, .int (nI (1))), (3, .int (g 0)), (0, .ref (loc (8))), (1, .ref (loc (t))), (2, .ref (loc (b)))]) hx hb dX5_takeGaps_40 hl (by decide) rfl (fun ls hl => ?_)
        have lp42_24 : ∀ (fuel25 : Nat) (m0 : Int32) (i2 : Nat) (ls : Array Slot), 9 - i2 < fuel25 → (1 ≤ i2) → (i2 ≤ 9) → (m0 = xmn g (i2 - 1)) → lv_has ls 5 [(4, .int (nI (i2))), (3, .int (m0)), (0, .ref (loc (8))), (1, .ref (loc (t))), (2, .ref (loc (b)))] → W p l e rm_X5_takeGaps s m ([.ref (loc (8)), .ref (loc (t)), .ref (loc (b))] : List Value).toArray below meth c H9 L10 0 0 (MQ below (va_Qv (fun u => u.1 = loc ∧ ∃ g : Nat → Int32, u.2 = xup w 9 (eI cy 9 g) ∧ ∀ j, j < 9 → g j = hs j - ss j - bs j - xmn (fun j => hs j - ss j - bs j) 8) (xB D (xA loc w s.heap.size)) (xA loc w s.heap.size)) ([.ref (loc (8)), .ref (loc (t)), .ref (loc (b))] : List Value).toArray s 0 0 (xA loc w s.heap.size)) (F0 m 42 ls []) := by
          intro fuel25
          induction fuel25 with
          | zero => intro m0 i2 ls hm26; exact absurd hm26 (Nat.not_lt_zero _)
          | succ fuel25 ih27 =>
            intro m0 i2 ls hm26 h3 h4 h5  hl
            refine lv_iload hx hb dX5_takeGaps_42 (lv_at hl 0 rfl) ?_
            refine lv_bipush (v := nI 9) hx hb dX5_takeGaps_44 (by decide +kernel) ?_
            refine x_cge hx hb (i2) (9) (by omega) (by omega) (tgt := 67) dX5_takeGaps_46 (by decide) (fun c28 => ?_) (fun c28 => ?_)
            · have _u := trivial
              refine lv_iconst (v := nI 0) hx hb dX5_takeGaps_67 (by decide +kernel) ?_
              refine lv_istore (lv' := [(4, .int (nI (0))), (3, .int (m0)), (0, .ref (loc (8))), (1, .ref (loc (t))), (2, .ref (loc (b)))]) hx hb dX5_takeGaps_68 hl (by decide) rfl (fun ls hl => ?_)
              have lp70_29 : ∀ (fuel34 : Nat) (i3 : Nat) (g2 : Nat → Int32) (ls : Array Slot) (H30 : Heap) (L31 : List Loc), 9 - i3 < fuel34 → (i3 ≤ 9) → (∀ j, j < 9 → g2 j = if j < i3 then g j - m0 else g j) → xV D (xA loc w s.heap.size) loc ((xup w (9) (eI cy 9 (g2)))) H30 → va_S (xA loc w s.heap.size) s.heap H30 L31 → lv_has ls 5 [(4, .int (nI (i3))), (3, .int (m0)), (0, .ref (loc (8))), (1, .ref (loc (t))), (2, .ref (loc (b)))] → W p l e rm_X5_takeGaps s m ([.ref (loc (8)), .ref (loc (t)), .ref (loc (b))] : List Value).toArray below meth c H30 L31 0 0 (MQ below (va_Qv (fun u => u.1 = loc ∧ ∃ g : Nat → Int32, u.2 = xup w 9 (eI cy 9 g) ∧ ∀ j, j < 9 → g j = hs j - ss j - bs j - xmn (fun j => hs j - ss j - bs j) 8) (xB D (xA loc w s.heap.size)) (xA loc w s.heap.size)) ([.ref (loc (8)), .ref (loc (t)), .ref (loc (b))] : List Value).toArray s 0 0 (xA loc w s.heap.size)) (F0 m 70 ls []) := by
                intro fuel34
                induction fuel34 with
                | zero => intro i3 g2 ls H30 L31 hm35; exact absurd hm35 (Nat.not_lt_zero _)
                | succ fuel34 ih36 =>
                  intro i3 g2 ls H30 L31 hm35 h6 h7 hV32 hS33 hl
                  have f37 : (xup w (9) (eI cy 9 (g2))) (8) = some (.inr (5, [.ref (loc (9)), .ref (loc (10))])) := xup_o (f1) (by omega)
                  have f38 : (xup w (9) (eI cy 9 (g2))) (t) = some (.inr (6, [.ref (loc (th)), .ref (loc (ts))])) := xup_o (f2) (by omega)
                  have f39 : (xup w (9) (eI cy 9 (g2))) (b) = some (.inr (3, [.int (dd), .ref (loc (bh))])) := xup_o (f3) (by omega)
                  have f40 : (xup w (9) (eI cy 9 (g2))) (9) = some (eI cy 9 (g2)) := xup_at _ _ _
                  have f41 : (xup w (9) (eI cy 9 (g2))) (th) = some (eI cy 9 (hs)) := xup_o (f5) (by omega)
                  have f42 : (xup w (9) (eI cy 9 (g2))) (ts) = some (eI cy 9 (ss)) := xup_o (f6) (by omega)
                  have f43 : (xup w (9) (eI cy 9 (g2))) (bh) = some (eI cy 9 (bs)) := xup_o (f7) (by omega)
                  refine lv_iload hx hb dX5_takeGaps_70 (lv_at hl 0 rfl) ?_
                  refine lv_bipush (v := nI 9) hx hb dX5_takeGaps_72 (by decide +kernel) ?_
                  refine x_cge hx hb (i3) (9) (by omega) (by omega) (tgt := 94) dX5_takeGaps_74 (by decide) (fun c44 => ?_) (fun c44 => ?_)
                  · have _u := trivial
                    exact x_rmv hx hb hr hlocks dX5_takeGaps_94 hV32 hS33 (⟨rfl, g2, rfl, fun j hj => by rw [h7 j hj, if_pos (by omega), h2 j (by omega), h5, show i2 - 1 = 8 by omega, xmn_cong 8 (fun i hi => h2 i (by omega))]⟩)
                  · have _u := trivial
                    refine lv_aload_n hx hb dX5_takeGaps_77 rfl (lv_at hl 2 rfl) ?_
                    refine x_get (C := RX5) (T := TX5) (N := 2) hx hb hts hi_X5_takeGaps_X5 hown hK hV32 f37 rfl 0 (by decide) (hts (.fieldLink RX5 9 "SaddleHouse$Seat" "gaps" "[I") (by decide +kernel)) (fun _ h9 => h9) rfl dX5_takeGaps_78 ?_
                    refine lv_iload hx hb dX5_takeGaps_81 (lv_at hl 0 rfl) ?_
                    refine lv_dup2_11 hx hb dX5_takeGaps_83 rfl rfl ?_
                    refine x_iald hx hb hK hV32 f40 (i3) (by omega) (by decide) dX5_takeGaps_84 ?_
                    refine lv_iload_n hx hb dX5_takeGaps_85 rfl (lv_at hl 1 rfl) ?_
                    refine lv_isub hx hb dX5_takeGaps_86 ?_
                    refine x_iast hx hb hK hV32 hS33 f40 (i3) (by omega) (by decide) dX5_takeGaps_87 (fun H45 L46 hV47 hS48 => ?_)
                    have hV49 := hV47.eq (xup_xup _ _ _ _)
                    have f50 : (xup w (9) (eI cy 9 (upd g2 i3 ((g2 i3) - m0)))) (8) = some (.inr (5, [.ref (loc (9)), .ref (loc (10))])) := xup_o (f1) (by omega)
                    have f51 : (xup w (9) (eI cy 9 (upd g2 i3 ((g2 i3) - m0)))) (t) = some (.inr (6, [.ref (loc (th)), .ref (loc (ts))])) := xup_o (f2) (by omega)
                    have f52 : (xup w (9) (eI cy 9 (upd g2 i3 ((g2 i3) - m0)))) (b) = some (.inr (3, [.int (dd), .ref (loc (bh))])) := xup_o (f3) (by omega)
                    have f53 : (xup w (9) (eI cy 9 (upd g2 i3 ((g2 i3) - m0)))) (9) = some (eI cy 9 (upd g2 i3 ((g2 i3) - m0))) := xup_at _ _ _
                    have f54 : (xup w (9) (eI cy 9 (upd g2 i3 ((g2 i3) - m0)))) (th) = some (eI cy 9 (hs)) := xup_o (f5) (by omega)
                    have f55 : (xup w (9) (eI cy 9 (upd g2 i3 ((g2 i3) - m0)))) (ts) = some (eI cy 9 (ss)) := xup_o (f6) (by omega)
                    have f56 : (xup w (9) (eI cy 9 (upd g2 i3 ((g2 i3) - m0)))) (bh) = some (eI cy 9 (bs)) := xup_o (f7) (by omega)
                    refine lv_iinc (v := nI (i3 + 1)) (lv' := [(4, .int (nI (i3 + 1))), (3, .int (m0)), (0, .ref (loc (8))), (1, .ref (loc (t))), (2, .ref (loc (b)))]) hx hb dX5_takeGaps_88 hl (k := 0) rfl (nI_add _ _) (by decide) rfl (fun ls hl => ?_)
                    refine lv_goto (tgt := 70) hx hb dX5_takeGaps_91 (by decide) ?_
                    exact ih36 (i3 + 1) (upd g2 i3 ((g2 i3) - m0)) ls _ _ (by omega) (by omega) (upd_sub h7 (by omega)) hV49 hS48 (lv_sub hl [0, 1, 2, 3, 4] rfl)
              exact lp70_29 (9 + 1) 0 g ls _ _ (by omega) (Nat.zero_le _) (fun j h => by rw [if_neg (Nat.not_lt_zero j)]) hV11 hS12 (lv_sub hl [0, 1, 2, 3, 4] rfl)
            · have _u := trivial
              refine lv_iload_n hx hb dX5_takeGaps_49 rfl (lv_at hl 1 rfl) ?_
              refine lv_aload_n hx hb dX5_takeGaps_50 rfl (lv_at hl 2 rfl) ?_
              refine x_get (C := RX5) (T := TX5) (N := 2) hx hb hts hi_X5_takeGaps_X5 hown hK hV11 f16 rfl 0 (by decide) (hts (.fieldLink RX5 9 "SaddleHouse$Seat" "gaps" "[I") (by decide +kernel)) (fun _ h9 => h9) rfl dX5_takeGaps_51 ?_
              refine lv_iload hx hb dX5_takeGaps_54 (lv_at hl 0 rfl) ?_
              refine x_iald hx hb hK hV11 f19 (i2) (by omega) (by decide) dX5_takeGaps_56 ?_
              refine va_mmin hx hb (by rw [hml]; exact hl.1.symm) hown (hts (.methodLink RX5 49 Lib.Math.min.name) (by decide +kernel)) (hts (.static Lib.Math.min.name) (by decide +kernel)) (hts (.initialized "java/lang/Math") (by decide +kernel)) (hts (.code Lib.Math.min.name Lib.Math.min.code 2 (some .int)) (by decide +kernel)) (Nat.le_of_ble_eq_true rfl) (Nat.le_of_ble_eq_true rfl) (Nat.zero_le _) (Nat.zero_le _) dX5_takeGaps_57 ?_
              refine lv_istore_n (lv' := [(3, .int ((if (g i2) < m0 then (g i2) else m0))), (4, .int (nI (i2))), (0, .ref (loc (8))), (1, .ref (loc (t))), (2, .ref (loc (b)))]) hx hb dX5_takeGaps_60 rfl hl (by decide) rfl (fun ls hl => ?_)
              refine lv_iinc (v := nI (i2 + 1)) (lv' := [(4, .int (nI (i2 + 1))), (3, .int ((if (g i2) < m0 then (g i2) else m0))), (0, .ref (loc (8))), (1, .ref (loc (t))), (2, .ref (loc (b)))]) hx hb dX5_takeGaps_61 hl (k := 1) rfl (nI_add _ _) (by decide) rfl (fun ls hl => ?_)
              refine lv_goto (tgt := 42) hx hb dX5_takeGaps_64 (by decide) ?_
              exact ih27 (if (g i2) < m0 then (g i2) else m0) (i2 + 1) ls (by omega) (by omega) (by omega) (xmn_s h3 h5) (lv_sub hl [0, 1, 2, 3, 4] rfl)
        exact lp42_24 (9 + 1) (g 0) 1 ls (by omega) (by omega) (by omega) rfl (lv_sub hl [0, 1, 2, 3, 4] rfl)
      · have _u := trivial
        refine lv_aload_n hx hb dX5_takeGaps_8 rfl (lv_at hl 1 rfl) ?_
        refine x_get (C := RX5) (T := TX5) (N := 2) hx hb hts hi_X5_takeGaps_X5 hown hK hV11 f16 rfl 0 (by decide) (hts (.fieldLink RX5 9 "SaddleHouse$Seat" "gaps" "[I") (by decide +kernel)) (fun _ h9 => h9) rfl dX5_takeGaps_9 ?_
        refine lv_iload_n hx hb dX5_takeGaps_12 rfl (lv_at hl 0 rfl) ?_
        refine lv_aload_n hx hb dX5_takeGaps_13 rfl (lv_at hl 2 rfl) ?_
        refine lv_iload_n hx hb dX5_takeGaps_14 rfl (lv_at hl 0 rfl) ?_
        refine x_ci (va_runVN (host := RX7) (As := [.int (nI (i))]) (rest := [.int (nI (i)), .ref (loc (9))]) ⟨hx, hb, hml, hown, hts⟩ (c_X6_undersideAt l D cy loc (xup w (9) (eI cy 9 (g))) H9.size t th ts i hs ss (by omega) f17 f20 f21) ⟨va_cnB 1 hts gX5_takeGaps_X6_undersideAt_n39 rfl rfl rfl (hK.2.1 (.methodLinkNest RX5 39 yX6_undersideAt RX7) (by decide +kernel)) (hts (.initialized RX6) (by decide +kernel)) (by decide +kernel) ⟨Nat.le_of_ble_eq_true rfl, Nat.le_of_ble_eq_true rfl⟩, hts (.instanceMethod yX6_undersideAt) (by decide +kernel), hts (.selects RX6 yX6_undersideAt yX6_undersideAt) (by decide +kernel)⟩ (x_preV hK hV11 f17 rfl) rfl rfl hl.1 rfl (lv_room (Nat.le_of_ble_eq_true rfl)) dX5_takeGaps_15 ⟨Nat.le_of_ble_eq_true rfl, Nat.le_of_ble_eq_true rfl⟩) (fun r57 hr58 => ?_)
        obtain rfl : r57 = hs i - ss i := hr58
        refine lv_aload_n hx hb dX5_takeGaps_18 rfl (lv_at hl 3 rfl) ?_
        refine x_getN (C := RX3) (T := TX3) (N := 2) (ref := "SaddleHouse$Measure") (host := RX7) hx hb hts hi_X5_takeGaps_X3 hown hK hV11 f18 rfl 1 (by decide) (by decide +kernel) (fun _ h9 => h9) rfl dX5_takeGaps_19 ?_
        refine lv_iload_n hx hb dX5_takeGaps_22 rfl (lv_at hl 0 rfl) ?_
        refine x_iald hx hb hK hV11 f22 (i) (by omega) (by decide) dX5_takeGaps_23 ?_
        refine lv_isub hx hb dX5_takeGaps_24 ?_
        refine x_iast hx hb hK hV11 hS12 f19 (i) (by omega) (by decide) dX5_takeGaps_25 (fun H59 L60 hV61 hS62 => ?_)
        have hV63 := hV61.eq (xup_xup _ _ _ _)
        have f64 : (xup w (9) (eI cy 9 (upd g i ((hs i - ss i) - (bs i))))) (8) = some (.inr (5, [.ref (loc (9)), .ref (loc (10))])) := xup_o (f1) (by omega)
        have f65 : (xup w (9) (eI cy 9 (upd g i ((hs i - ss i) - (bs i))))) (t) = some (.inr (6, [.ref (loc (th)), .ref (loc (ts))])) := xup_o (f2) (by omega)
        have f66 : (xup w (9) (eI cy 9 (upd g i ((hs i - ss i) - (bs i))))) (b) = some (.inr (3, [.int (dd), .ref (loc (bh))])) := xup_o (f3) (by omega)
        have f67 : (xup w (9) (eI cy 9 (upd g i ((hs i - ss i) - (bs i))))) (9) = some (eI cy 9 (upd g i ((hs i - ss i) - (bs i)))) := xup_at _ _ _
        have f68 : (xup w (9) (eI cy 9 (upd g i ((hs i - ss i) - (bs i))))) (th) = some (eI cy 9 (hs)) := xup_o (f5) (by omega)
        have f69 : (xup w (9) (eI cy 9 (upd g i ((hs i - ss i) - (bs i))))) (ts) = some (eI cy 9 (ss)) := xup_o (f6) (by omega)
        have f70 : (xup w (9) (eI cy 9 (upd g i ((hs i - ss i) - (bs i))))) (bh) = some (eI cy 9 (bs)) := xup_o (f7) (by omega)
        refine lv_iinc (v := nI (i + 1)) (lv' := [(3, .int (nI (i + 1))), (0, .ref (loc (8))), (1, .ref (loc (t))), (2, .ref (loc (b)))]) hx hb dX5_takeGaps_26 hl (k := 0) rfl (nI_add _ _) (by decide) rfl (fun ls hl => ?_)
        refine lv_goto (tgt := 2) hx hb dX5_takeGaps_29 (by decide) ?_
        exact ih15 (i + 1) (upd g i ((hs i - ss i) - (bs i))) ls _ _ (by omega) (by omega) (upd_lt h2 rfl) hV63 hS62 (lv_sub hl [0, 1, 2, 3] rfl)
  exact lp2_8 (9 + 1) 0 g0 ls _ _ (by omega) (Nat.zero_le _) (fun j h => absurd h (Nat.not_lt_zero j)) (hV.eq (xup_id f4).symm) hS (lv_sub hl [0, 1, 2, 3] rfl)
