abbrev rm_X8_settle : Room := { frames := 1, cells := 0, slots := 0, locals := 22 }
theorem hi_X8_settle_X8 : ∀ w ∈ wsX80, w ∈ wsX8_settle := fun w h => List.mem_cons_of_mem _ (List.mem_append_right _ h)
set_option maxHeartbeats 4000000 in
set_option maxRecDepth 100000 in
theorem c_X8_settle (l : Launch) (D : va_G) (cy : Nat → ClassId) (loc : Nat → Nat) (w : xM) (sz : Nat) (σ : xS) (hN : xN8 σ) (hR : yR cy loc σ w) (hB : xBd σ) (kt k j load : Nat) (hk : kt < σ.2 1) (hkk : k < σ.2 0) (hj : j < σ.2 (10 + k)) (hl1 : 1 ≤ load) (hl2 : load ≤ 2000)   : Met l yX8_settle wsX8_settle rm_X8_settle (va_Pc [.ref (loc (300)), .int (nI (kt)), .int (nI (9 * (6 * k + j))), .int (nI (load))] (xP D cy loc w sz)) (va_Qv (fun u => u.1 = loc ∧ ∃ g b : Nat → Int32, u.2 = xup (xup w 307 (eI cy 9 g)) 308 (eI cy 9 b) ∧ ∀ i, i < 9 → b i = xbe σ kt (6 * k + j) load i) (xB D (xA loc w sz)) (xA loc w sz)) 0 0 (xA loc w sz) := by
  refine x_met (cc := cX8_settle) (maxL := 9) (ret := none) (C := RX8) (by decide) rfl rfl (Nat.le_of_ble_eq_true rfl) ?_
  intro p e s m below meth c ls hx hb hml hr hts hown hlocks hin hP hl
  obtain ⟨hsz, hV, hK⟩ := hP
  subst hsz
  have hA : ∀ q : Nat, s.heap.size ≤ q → xA loc w s.heap.size q := fun q h => Or.inr h
  have hS : va_S (xA loc w s.heap.size) s.heap s.heap [] := va_S.rf
  have hl : lv_has ls 9 [(0, .ref (loc (300))), (1, .int (nI (kt))), (2, .int (nI (9 * (6 * k + j)))), (3, .int (nI (load)))] := hl
  have hNN := hN
  have hRR := hR
  obtain ⟨g0, b0, q0, v0, hw⟩ := hR
  obtain ⟨hN0, hN1, hN2, hN3, hN4, hN5, hN6⟩ := hN
  have h6k := hN6 k
  obtain ⟨hG1, hG0⟩ := (xGs_all hB kt (6 * k + j)).2
  have f1 : w (300) = some (.inr (8, [.ref (loc (301)), .int (nI (σ.2 0)), .ref (loc (302)), .ref (loc (303)), .ref (loc (304)), .int (nI (σ.2 1)), .ref (loc (305)), .ref (loc (306)), .ref (loc (307)), .ref (loc (308)), .int (v0 0), .int (v0 1), .int (v0 2), .int (v0 3), .int (nI (σ.2 5)), .ref (loc (309)), .ref (loc (310)), .int (v0 4), .int (nI (σ.2 2)), .ref (loc (311)), .int (nI (σ.2 3)), .ref (loc (312)), .ref (loc (313)), .int (σ.1 10 0), .int (σ.1 10 1), .int (nI (σ.2 4)), .ref (loc (314))])) := (hw 0 (by decide)).trans rfl
  have f2 : w (304) = some (eI cy 432 (σ.1 2)) := (hw 4 (by decide)).trans rfl
  have f3 : w (305) = some (eI cy 72 (σ.1 3)) := (hw 5 (by decide)).trans rfl
  have f4 : w (306) = some (eI cy 72 (σ.1 4)) := (hw 6 (by decide)).trans rfl
  have f5 : w (307) = some (eI cy 9 (g0)) := (hw 7 (by decide)).trans rfl
  have f6 : w (308) = some (eI cy 9 (b0)) := (hw 8 (by decide)).trans rfl
  refine lv_sipush (v := nI 9999) hx hb dX8_settle_0 (by decide +kernel) ?_
  refine lv_istore (lv' := [(4, .int (nI (9999))), (0, .ref (loc (300))), (1, .int (nI (kt))), (2, .int (nI (9 * (6 * k + j)))), (3, .int (nI (load)))]) hx hb dX8_settle_3 hl (by decide) rfl (fun ls hl => ?_)
  refine lv_iconst (v := nI 0) hx hb dX8_settle_5 (by decide +kernel) ?_
  refine lv_istore (lv' := [(5, .int (nI (0))), (4, .int (nI (9999))), (0, .ref (loc (300))), (1, .int (nI (kt))), (2, .int (nI (9 * (6 * k + j)))), (3, .int (nI (load)))]) hx hb dX8_settle_6 hl (by decide) rfl (fun ls hl => ?_)
  have lp8_7 : ∀ (fuel12 : Nat) (lst : Int32) (i : Nat) (g1 : Nat → Int32) (ls : Array Slot) (H8 : Heap) (L9 : List Loc), 9 - i < fuel12 → (i ≤ 9) → (∀ m, m < i → g1 m = xg σ kt (6 * k + j) m) → (lst = xml (xg σ kt (6 * k + j)) i) → xV D (xA loc w s.heap.size) loc ((xup w (307) (eI cy 9 (g1)))) H8 → va_S (xA loc w s.heap.size) s.heap H8 L9 → lv_has ls 9 [(5, .int (nI (i))), (4, .int (lst)), (0, .ref (loc (300))), (1, .int (nI (kt))), (2, .int (nI (9 * (6 * k + j)))), (3, .int (nI (load)))] → W p l e rm_X8_settle s m ([.ref (loc (300)), .int (nI (kt)), .int (nI (9 * (6 * k + j))), .int (nI (load))] : List Value).toArray below meth c H8 L9 0 0 (MQ below (va_Qv (fun u => u.1 = loc ∧ ∃ g b : Nat → Int32, u.2 = xup (xup w 307 (eI cy 9 g)) 308 (eI cy 9 b) ∧ ∀ i, i < 9 → b i = xbe σ kt (6 * k + j) load i) (xB D (xA loc w s.heap.size)) (xA loc w s.heap.size)) ([.ref (loc (300)), .int (nI (kt)), .int (nI (9 * (6 * k + j))), .int (nI (load))] : List Value).toArray s 0 0 (xA loc w s.heap.size)) (F0 m 8 ls []) := by
    intro fuel12
    induction fuel12 with
    | zero => intro lst i g1 ls H8 L9 hm13; exact absurd hm13 (Nat.not_lt_zero _)
    | succ fuel12 ih14 =>
      intro lst i g1 ls H8 L9 hm13 h1 h2 h3 hV10 hS11 hl
      have f15 : (xup w (307) (eI cy 9 (g1))) (300) = some (.inr (8, [.ref (loc (301)), .int (nI (σ.2 0)), .ref (loc (302)), .ref (loc (303)), .ref (loc (304)), .int (nI (σ.2 1)), .ref (loc (305)), .ref (loc (306)), .ref (loc (307)), .ref (loc (308)), .int (v0 0), .int (v0 1), .int (v0 2), .int (v0 3), .int (nI (σ.2 5)), .ref (loc (309)), .ref (loc (310)), .int (v0 4), .int (nI (σ.2 2)), .ref (loc (311)), .int (nI (σ.2 3)), .ref (loc (312)), .ref (loc (313)), .int (σ.1 10 0), .int (σ.1 10 1), .int (nI (σ.2 4)), .ref (loc (314))])) := xup_o (f1) (by omega)
      have f16 : (xup w (307) (eI cy 9 (g1))) (304) = some (eI cy 432 (σ.1 2)) := xup_o (f2) (by omega)
      have f17 : (xup w (307) (eI cy 9 (g1))) (305) = some (eI cy 72 (σ.1 3)) := xup_o (f3) (by omega)
      have f18 : (xup w (307) (eI cy 9 (g1))) (306) = some (eI cy 72 (σ.1 4)) := xup_o (f4) (by omega)
      have f19 : (xup w (307) (eI cy 9 (g1))) (307) = some (eI cy 9 (g1)) := xup_at _ _ _
      have f20 : (xup w (307) (eI cy 9 (g1))) (308) = some (eI cy 9 (b0)) := xup_o (f6) (by omega)
      refine lv_iload hx hb dX8_settle_8 (lv_at hl 0 rfl) ?_
      refine lv_bipush (v := nI 9) hx hb dX8_settle_10 (by decide +kernel) ?_
      refine x_cge hx hb (i) (9) (by omega) (by omega) (tgt := 71) dX8_settle_12 (by decide) (fun c21 => ?_) (fun c21 => ?_)
      · have _u := trivial
        have hgap : ∀ m, m < 9 → g1 m - lst = nI (xGs σ kt (6 * k + j) m) := fun m hm => by rw [h2 m (by omega), h3, show i = 9 by omega]; exact xg_nI hB kt (6 * k + j) hm
        refine lv_iconst (v := -1) hx hb dX8_settle_71 (by decide +kernel) ?_
        refine lv_istore (lv' := [(5, .int ((-1))), (4, .int (lst)), (0, .ref (loc (300))), (1, .int (nI (kt))), (2, .int (nI (9 * (6 * k + j)))), (3, .int (nI (load)))]) hx hb dX8_settle_72 hl (by decide) rfl (fun ls hl => ?_)
        refine lv_iconst (v := -1) hx hb dX8_settle_74 (by decide +kernel) ?_
        refine lv_istore (lv' := [(6, .int ((-1))), (5, .int ((-1))), (4, .int (lst)), (0, .ref (loc (300))), (1, .int (nI (kt))), (2, .int (nI (9 * (6 * k + j)))), (3, .int (nI (load)))]) hx hb dX8_settle_75 hl (by decide) rfl (fun ls hl => ?_)
        have lp77_22 : ∀ (fuel27 : Nat) (dp : Int32) (al : Int32) (T1 : Nat) (b1 : Nat → Int32) (ls : Array Slot) (H23 : Heap) (L24 : List Loc), 2002 - T1 < fuel27 → (dp = xfv T1) → (al = if T1 = 0 then -1 else nI (xsm (xGs σ kt (6 * k + j)) (T1 - 1) 9)) → (T1 ≤ 2001) → (∀ T', T' + 1 < T1 → xsm (xGs σ kt (6 * k + j)) T' 9 < load) → (T1 = 0 ∨ ∀ m, m < 9 → b1 m = nI (T1 - 1 - xGs σ kt (6 * k + j) m)) → xV D (xA loc w s.heap.size) loc ((xup (xup w (307) (eI cy 9 (g1))) (308) (eI cy 9 (b1)))) H23 → va_S (xA loc w s.heap.size) s.heap H23 L24 → lv_has ls 9 [(6, .int (al)), (5, .int (dp)), (4, .int (lst)), (0, .ref (loc (300))), (1, .int (nI (kt))), (2, .int (nI (9 * (6 * k + j)))), (3, .int (nI (load)))] → W p l e rm_X8_settle s m ([.ref (loc (300)), .int (nI (kt)), .int (nI (9 * (6 * k + j))), .int (nI (load))] : List Value).toArray below meth c H23 L24 0 0 (MQ below (va_Qv (fun u => u.1 = loc ∧ ∃ g b : Nat → Int32, u.2 = xup (xup w 307 (eI cy 9 g)) 308 (eI cy 9 b) ∧ ∀ i, i < 9 → b i = xbe σ kt (6 * k + j) load i) (xB D (xA loc w s.heap.size)) (xA loc w s.heap.size)) ([.ref (loc (300)), .int (nI (kt)), .int (nI (9 * (6 * k + j))), .int (nI (load))] : List Value).toArray s 0 0 (xA loc w s.heap.size)) (F0 m 77 ls []) := by
          intro fuel27
          induction fuel27 with
          | zero => intro dp al T1 b1 ls H23 L24 hm28; exact absurd hm28 (Nat.not_lt_zero _)
          | succ fuel27 ih29 =>
            intro dp al T1 b1 ls H23 L24 hm28 h4 h5 h6 h7 h8 hV25 hS26 hl
            have f30 : (xup (xup w (307) (eI cy 9 (g1))) (308) (eI cy 9 (b1))) (300) = some (.inr (8, [.ref (loc (301)), .int (nI (σ.2 0)), .ref (loc (302)), .ref (loc (303)), .ref (loc (304)), .int (nI (σ.2 1)), .ref (loc (305)), .ref (loc (306)), .ref (loc (307)), .ref (loc (308)), .int (v0 0), .int (v0 1), .int (v0 2), .int (v0 3), .int (nI (σ.2 5)), .ref (loc (309)), .ref (loc (310)), .int (v0 4), .int (nI (σ.2 2)), .ref (loc (311)), .int (nI (σ.2 3)), .ref (loc (312)), .ref (loc (313)), .int (σ.1 10 0), .int (σ.1 10 1), .int (nI (σ.2 4)), .ref (loc (314))])) := xup_o (xup_o (f1) (by omega)) (by omega)
            have f31 : (xup (xup w (307) (eI cy 9 (g1))) (308) (eI cy 9 (b1))) (304) = some (eI cy 432 (σ.1 2)) := xup_o (xup_o (f2) (by omega)) (by omega)
            have f32 : (xup (xup w (307) (eI cy 9 (g1))) (308) (eI cy 9 (b1))) (305) = some (eI cy 72 (σ.1 3)) := xup_o (xup_o (f3) (by omega)) (by omega)
            have f33 : (xup (xup w (307) (eI cy 9 (g1))) (308) (eI cy 9 (b1))) (306) = some (eI cy 72 (σ.1 4)) := xup_o (xup_o (f4) (by omega)) (by omega)
            have f34 : (xup (xup w (307) (eI cy 9 (g1))) (308) (eI cy 9 (b1))) (307) = some (eI cy 9 (g1)) := xup_o (xup_at _ _ _) (by omega)
            have f35 : (xup (xup w (307) (eI cy 9 (g1))) (308) (eI cy 9 (b1))) (308) = some (eI cy 9 (b1)) := xup_at _ _ _
            refine lv_iload hx hb dX8_settle_77 (lv_at hl 0 rfl) ?_
            refine lv_iload_n hx hb dX8_settle_79 rfl (lv_at hl 6 rfl) ?_
            refine lv_icmp_ge (tgt := 159) hx hb dX8_settle_80 (by decide) (fun c36 => ?_) (fun c36 => ?_)
            · have _u := trivial
              obtain ⟨hz, hd, hs, hal⟩ := yd_end h5 h6 hl2 h7 (by first | exact c36 | exact Int32.not_lt.mp c36)
              have hq2 := xsm_b (xGs σ kt (6 * k + j)) (show T1 - 1 ≤ 3000 by omega)
              have h8r : ∀ m, m < 9 → b1 m = nI (T1 - 1 - xGs σ kt (6 * k + j) m) := h8.resolve_left hz
              have e37 : al = nI (xsm (xGs σ kt (6 * k + j)) (T1 - 1) 9) := hal
              have hl : lv_has ls 9 [(6, .int (nI (xsm (xGs σ kt (6 * k + j)) (T1 - 1) 9))), (5, .int (dp)), (4, .int (lst)), (0, .ref (loc (300))), (1, .int (nI (kt))), (2, .int (nI (9 * (6 * k + j)))), (3, .int (nI (load)))] := Eq.mp (congrArg (lv_has ls 9) (show ([(6, .int (al)), (5, .int (dp)), (4, .int (lst)), (0, .ref (loc (300))), (1, .int (nI (kt))), (2, .int (nI (9 * (6 * k + j)))), (3, .int (nI (load)))] : List (Nat × Value)) = [(6, .int (nI (xsm (xGs σ kt (6 * k + j)) (T1 - 1) 9))), (5, .int (dp)), (4, .int (lst)), (0, .ref (loc (300))), (1, .int (nI (kt))), (2, .int (nI (9 * (6 * k + j)))), (3, .int (nI (load)))] from by rw [e37])) hl
              have lp159_38 : ∀ (fuel43 : Nat) (A : Nat) (b4 : Nat → Int32) (ls : Array Slot) (H39 : Heap) (L40 : List Loc), A < fuel43 → (load ≤ A) → (A < 2 ^ 31) → (∀ m, m < 9 → xdec (A - load) b4 m = xbe σ kt (6 * k + j) load m) → xV D (xA loc w s.heap.size) loc ((xup (xup w (307) (eI cy 9 (g1))) (308) (eI cy 9 (b4)))) H39 → va_S (xA loc w s.heap.size) s.heap H39 L40 → lv_has ls 9 [(6, .int (nI (A))), (5, .int (dp)), (4, .int (lst)), (0, .ref (loc (300))), (1, .int (nI (kt))), (2, .int (nI (9 * (6 * k + j)))), (3, .int (nI (load)))] → W p l e rm_X8_settle s m ([.ref (loc (300)), .int (nI (kt)), .int (nI (9 * (6 * k + j))), .int (nI (load))] : List Value).toArray below meth c H39 L40 0 0 (MQ below (va_Qv (fun u => u.1 = loc ∧ ∃ g b : Nat → Int32, u.2 = xup (xup w 307 (eI cy 9 g)) 308 (eI cy 9 b) ∧ ∀ i, i < 9 → b i = xbe σ kt (6 * k + j) load i) (xB D (xA loc w s.heap.size)) (xA loc w s.heap.size)) ([.ref (loc (300)), .int (nI (kt)), .int (nI (9 * (6 * k + j))), .int (nI (load))] : List Value).toArray s 0 0 (xA loc w s.heap.size)) (F0 m 159 ls []) := by
                intro fuel43
                induction fuel43 with
                | zero => intro A b4 ls H39 L40 hm44; exact absurd hm44 (Nat.not_lt_zero _)
                | succ fuel43 ih45 =>
                  intro A b4 ls H39 L40 hm44 h12 h13 h14 hV41 hS42 hl
                  have f46 : (xup (xup w (307) (eI cy 9 (g1))) (308) (eI cy 9 (b4))) (300) = some (.inr (8, [.ref (loc (301)), .int (nI (σ.2 0)), .ref (loc (302)), .ref (loc (303)), .ref (loc (304)), .int (nI (σ.2 1)), .ref (loc (305)), .ref (loc (306)), .ref (loc (307)), .ref (loc (308)), .int (v0 0), .int (v0 1), .int (v0 2), .int (v0 3), .int (nI (σ.2 5)), .ref (loc (309)), .ref (loc (310)), .int (v0 4), .int (nI (σ.2 2)), .ref (loc (311)), .int (nI (σ.2 3)), .ref (loc (312)), .ref (loc (313)), .int (σ.1 10 0), .int (σ.1 10 1), .int (nI (σ.2 4)), .ref (loc (314))])) := xup_o (xup_o (f1) (by omega)) (by omega)
                  have f47 : (xup (xup w (307) (eI cy 9 (g1))) (308) (eI cy 9 (b4))) (304) = some (eI cy 432 (σ.1 2)) := xup_o (xup_o (f2) (by omega)) (by omega)
                  have f48 : (xup (xup w (307) (eI cy 9 (g1))) (308) (eI cy 9 (b4))) (305) = some (eI cy 72 (σ.1 3)) := xup_o (xup_o (f3) (by omega)) (by omega)
                  have f49 : (xup (xup w (307) (eI cy 9 (g1))) (308) (eI cy 9 (b4))) (306) = some (eI cy 72 (σ.1 4)) := xup_o (xup_o (f4) (by omega)) (by omega)
                  have f50 : (xup (xup w (307) (eI cy 9 (g1))) (308) (eI cy 9 (b4))) (307) = some (eI cy 9 (g1)) := xup_o (xup_at _ _ _) (by omega)
                  have f51 : (xup (xup w (307) (eI cy 9 (g1))) (308) (eI cy 9 (b4))) (308) = some (eI cy 9 (b4)) := xup_at _ _ _
                  refine lv_iload hx hb dX8_settle_159 (lv_at hl 0 rfl) ?_
                  refine lv_iload_n hx hb dX8_settle_161 rfl (lv_at hl 6 rfl) ?_
                  refine x_cle hx hb (A) (load) (by omega) (by omega) (tgt := 227) dX8_settle_162 (by decide) (fun c52 => ?_) (fun c52 => ?_)
                  · have _u := trivial
                    exact x_rmv hx hb hr hlocks dX8_settle_227 hV41 hS42 (⟨rfl, g1, b4, rfl, fun m hm => by have h17 := h14 m hm; rw [show A - load = 0 by omega, xdec] at h17; exact h17⟩)
                  · have _u := trivial
                    refine lv_iconst (v := nI 0) hx hb dX8_settle_165 (by decide +kernel) ?_
                    refine lv_istore (lv' := [(7, .int (nI (0))), (6, .int (nI (A))), (5, .int (dp)), (4, .int (lst)), (0, .ref (loc (300))), (1, .int (nI (kt))), (2, .int (nI (9 * (6 * k + j)))), (3, .int (nI (load)))]) hx hb dX8_settle_166 hl (by decide) rfl (fun ls hl => ?_)
                    refine lv_iconst (v := nI 1) hx hb dX8_settle_168 (by decide +kernel) ?_
                    refine lv_istore (lv' := [(8, .int (nI (1))), (7, .int (nI (0))), (6, .int (nI (A))), (5, .int (dp)), (4, .int (lst)), (0, .ref (loc (300))), (1, .int (nI (kt))), (2, .int (nI (9 * (6 * k + j)))), (3, .int (nI (load)))]) hx hb dX8_settle_169 hl (by decide) rfl (fun ls hl => ?_)
                    have lp171_53 : ∀ (fuel54 : Nat) (tp : Nat) (i5 : Nat) (ls : Array Slot), 9 - i5 < fuel54 → (1 ≤ i5) → (i5 ≤ 9) → (tp = xtop b4 (i5 - 1)) → lv_has ls 9 [(8, .int (nI (i5))), (7, .int (nI (tp))), (6, .int (nI (A))), (5, .int (dp)), (4, .int (lst)), (0, .ref (loc (300))), (1, .int (nI (kt))), (2, .int (nI (9 * (6 * k + j)))), (3, .int (nI (load)))] → W p l e rm_X8_settle s m ([.ref (loc (300)), .int (nI (kt)), .int (nI (9 * (6 * k + j))), .int (nI (load))] : List Value).toArray below meth c H39 L40 0 0 (MQ below (va_Qv (fun u => u.1 = loc ∧ ∃ g b : Nat → Int32, u.2 = xup (xup w 307 (eI cy 9 g)) 308 (eI cy 9 b) ∧ ∀ i, i < 9 → b i = xbe σ kt (6 * k + j) load i) (xB D (xA loc w s.heap.size)) (xA loc w s.heap.size)) ([.ref (loc (300)), .int (nI (kt)), .int (nI (9 * (6 * k + j))), .int (nI (load))] : List Value).toArray s 0 0 (xA loc w s.heap.size)) (F0 m 171 ls []) := by
                      intro fuel54
                      induction fuel54 with
                      | zero => intro tp i5 ls hm55; exact absurd hm55 (Nat.not_lt_zero _)
                      | succ fuel54 ih56 =>
                        intro tp i5 ls hm55 h15 h16 hkt  hl
                        have hk9 : tp < 9 := by have := xtop_le b4 (i5 - 1); omega
                        refine lv_iload hx hb dX8_settle_171 (lv_at hl 0 rfl) ?_
                        refine lv_bipush (v := nI 9) hx hb dX8_settle_173 (by decide +kernel) ?_
                        refine x_cge hx hb (i5) (9) (by omega) (by omega) (tgt := 210) dX8_settle_175 (by decide) (fun c57 => ?_) (fun c57 => ?_)
                        · have _u := trivial
                          have htp : tp = xtop b4 8 := by rw [hkt, show i5 - 1 = 8 by omega]
                          refine lv_aload_n hx hb dX8_settle_210 rfl (lv_at hl 5 rfl) ?_
                          refine x_get (C := RX8) (T := TX8) (N := 27) hx hb hts hi_X8_settle_X8 hown hK hV41 f46 rfl 9 (by decide) (hts (.fieldLink RX8 31 "SaddleHouseModel" "bears" "[I") (List.mem_of_getElem? (i := 3) rfl)) (fun _ h9 => h9) rfl dX8_settle_211 ?_
                          refine lv_iload hx hb dX8_settle_214 (lv_at hl 1 rfl) ?_
                          refine lv_dup2_11 hx hb dX8_settle_216 rfl rfl ?_
                          refine x_iald hx hb hK hV41 f51 (tp) (by omega) (by decide) dX8_settle_217 ?_
                          refine lv_iconst (v := nI 1) hx hb dX8_settle_218 (by decide +kernel) ?_
                          refine lv_isub hx hb dX8_settle_219 ?_
                          refine x_iast hx hb hK hV41 hS42 f51 (tp) (by omega) (by decide) dX8_settle_220 (fun H58 L59 hV60 hS61 => ?_)
                          have hV62 := hV60.eq (xup_xup _ _ _ _)
                          have f63 : (xup (xup w (307) (eI cy 9 (g1))) (308) (eI cy 9 (upd b4 tp ((b4 tp) - (nI 1))))) (300) = some (.inr (8, [.ref (loc (301)), .int (nI (σ.2 0)), .ref (loc (302)), .ref (loc (303)), .ref (loc (304)), .int (nI (σ.2 1)), .ref (loc (305)), .ref (loc (306)), .ref (loc (307)), .ref (loc (308)), .int (v0 0), .int (v0 1), .int (v0 2), .int (v0 3), .int (nI (σ.2 5)), .ref (loc (309)), .ref (loc (310)), .int (v0 4), .int (nI (σ.2 2)), .ref (loc (311)), .int (nI (σ.2 3)), .ref (loc (312)), .ref (loc (313)), .int (σ.1 10 0), .int (σ.1 10 1), .int (nI (σ.2 4)), .ref (loc (314))])) := xup_o (xup_o (f1) (by omega)) (by omega)
                          have f64 : (xup (xup w (307) (eI cy 9 (g1))) (308) (eI cy 9 (upd b4 tp ((b4 tp) - (nI 1))))) (304) = some (eI cy 432 (σ.1 2)) := xup_o (xup_o (f2) (by omega)) (by omega)
                          have f65 : (xup (xup w (307) (eI cy 9 (g1))) (308) (eI cy 9 (upd b4 tp ((b4 tp) - (nI 1))))) (305) = some (eI cy 72 (σ.1 3)) := xup_o (xup_o (f3) (by omega)) (by omega)
                          have f66 : (xup (xup w (307) (eI cy 9 (g1))) (308) (eI cy 9 (upd b4 tp ((b4 tp) - (nI 1))))) (306) = some (eI cy 72 (σ.1 4)) := xup_o (xup_o (f4) (by omega)) (by omega)
                          have f67 : (xup (xup w (307) (eI cy 9 (g1))) (308) (eI cy 9 (upd b4 tp ((b4 tp) - (nI 1))))) (307) = some (eI cy 9 (g1)) := xup_o (xup_at _ _ _) (by omega)
                          have f68 : (xup (xup w (307) (eI cy 9 (g1))) (308) (eI cy 9 (upd b4 tp ((b4 tp) - (nI 1))))) (308) = some (eI cy 9 (upd b4 tp ((b4 tp) - (nI 1)))) := xup_at _ _ _
                          refine lv_iinc (v := nI ((A) - 1)) (lv' := [(6, .int (nI ((A) - 1))), (8, .int (nI (i5))), (7, .int (nI (tp))), (5, .int (dp)), (4, .int (lst)), (0, .ref (loc (300))), (1, .int (nI (kt))), (2, .int (nI (9 * (6 * k + j)))), (3, .int (nI (load)))]) hx hb dX8_settle_221 hl (k := 2) rfl (x_dec (by omega)) (by decide) rfl (fun ls hl => ?_)
                          refine lv_goto (tgt := 159) hx hb dX8_settle_224 (by decide) ?_
                          exact ih45 ((A) - 1) (upd b4 tp ((b4 tp) - (nI 1))) ls _ _ (by omega) (by omega) (by omega) (by rw [show A - 1 - load = A - load - 1 by omega, htp]; exact xdec_n (by omega) h14) hV62 hS61 (lv_sub hl [0, 3, 4, 5, 6, 7, 8] rfl)
                        · have _u := trivial
                          refine lv_aload_n hx hb dX8_settle_178 rfl (lv_at hl 5 rfl) ?_
                          refine x_get (C := RX8) (T := TX8) (N := 27) hx hb hts hi_X8_settle_X8 hown hK hV41 f46 rfl 9 (by decide) (hts (.fieldLink RX8 31 "SaddleHouseModel" "bears" "[I") (List.mem_of_getElem? (i := 3) rfl)) (fun _ h9 => h9) rfl dX8_settle_179 ?_
                          refine lv_iload hx hb dX8_settle_182 (lv_at hl 0 rfl) ?_
                          refine x_iald hx hb hK hV41 f51 (i5) (by omega) (by decide) dX8_settle_184 ?_
                          refine lv_aload_n hx hb dX8_settle_185 rfl (lv_at hl 5 rfl) ?_
                          refine x_get (C := RX8) (T := TX8) (N := 27) hx hb hts hi_X8_settle_X8 hown hK hV41 f46 rfl 9 (by decide) (hts (.fieldLink RX8 31 "SaddleHouseModel" "bears" "[I") (List.mem_of_getElem? (i := 3) rfl)) (fun _ h9 => h9) rfl dX8_settle_186 ?_
                          refine lv_iload hx hb dX8_settle_189 (lv_at hl 1 rfl) ?_
                          refine x_iald hx hb hK hV41 f51 (tp) (by omega) (by decide) dX8_settle_191 ?_
                          refine lv_icmp_le (tgt := 200) hx hb dX8_settle_192 (by decide) (fun c69 => ?_) (fun c69 => ?_)
                          · have _u := trivial
                            refine lv_iload hx hb dX8_settle_200 (lv_at hl 1 rfl) ?_
                            refine lv_istore (lv' := [(7, .int (nI (tp))), (8, .int (nI (i5))), (6, .int (nI (A))), (5, .int (dp)), (4, .int (lst)), (0, .ref (loc (300))), (1, .int (nI (kt))), (2, .int (nI (9 * (6 * k + j)))), (3, .int (nI (load)))]) hx hb dX8_settle_202 hl (by decide) rfl (fun ls hl => ?_)
                            refine lv_iinc (v := nI (i5 + 1)) (lv' := [(8, .int (nI (i5 + 1))), (7, .int (nI (tp))), (6, .int (nI (A))), (5, .int (dp)), (4, .int (lst)), (0, .ref (loc (300))), (1, .int (nI (kt))), (2, .int (nI (9 * (6 * k + j)))), (3, .int (nI (load)))]) hx hb dX8_settle_204 hl (k := 1) rfl (nI_add _ _) (by decide) rfl (fun ls hl => ?_)
                            refine lv_goto (tgt := 171) hx hb dX8_settle_207 (by decide) ?_
                            exact ih56 tp (i5 + 1) ls (by omega) (by omega) (by omega) (xtop_s h15 hkt (by first | exact Or.inl ⟨by assumption, rfl⟩ | exact Or.inr ⟨by assumption, rfl⟩)) (lv_sub hl [0, 1, 2, 3, 4, 5, 6, 7, 8] rfl)
                          · have _u := trivial
                            refine lv_iload hx hb dX8_settle_195 (lv_at hl 0 rfl) ?_
                            refine lv_goto (tgt := 202) hx hb dX8_settle_197 (by decide) ?_
                            refine lv_istore (lv' := [(7, .int (nI (i5))), (8, .int (nI (i5))), (6, .int (nI (A))), (5, .int (dp)), (4, .int (lst)), (0, .ref (loc (300))), (1, .int (nI (kt))), (2, .int (nI (9 * (6 * k + j)))), (3, .int (nI (load)))]) hx hb dX8_settle_202 hl (by decide) rfl (fun ls hl => ?_)
                            refine lv_iinc (v := nI (i5 + 1)) (lv' := [(8, .int (nI (i5 + 1))), (7, .int (nI (i5))), (6, .int (nI (A))), (5, .int (dp)), (4, .int (lst)), (0, .ref (loc (300))), (1, .int (nI (kt))), (2, .int (nI (9 * (6 * k + j)))), (3, .int (nI (load)))]) hx hb dX8_settle_204 hl (k := 1) rfl (nI_add _ _) (by decide) rfl (fun ls hl => ?_)
                            refine lv_goto (tgt := 171) hx hb dX8_settle_207 (by decide) ?_
                            exact ih56 i5 (i5 + 1) ls (by omega) (by omega) (by omega) (xtop_s h15 hkt (by first | exact Or.inl ⟨by assumption, rfl⟩ | exact Or.inr ⟨by assumption, rfl⟩)) (lv_sub hl [0, 1, 2, 3, 4, 5, 6, 7, 8] rfl)
                    exact lp171_53 (9 + 1) 0 1 ls (by omega) (by omega) (by omega) rfl (lv_sub hl [0, 1, 2, 3, 4, 5, 6, 7, 8] rfl)
              exact lp159_38 ((xsm (xGs σ kt (6 * k + j)) (T1 - 1) 9) + 1) (xsm (xGs σ kt (6 * k + j)) (T1 - 1) 9) b1 ls _ _ (by omega) hs hq2 (fun m hm => by show _ = xbr _ load m; rw [xbr, hd]; exact xdec_cong _ (fun i hi => h8r i hi) m hm) hV25 hS26 (lv_sub hl [0, 1, 2, 3, 4, 5, 6] rfl)
            · have _u := trivial
              obtain ⟨hmo, hT2⟩ := yd_more h5 h6 hl2 hG0 h7 (by first | exact c36 | exact Int32.not_le.mp c36)
              refine lv_iinc (v := dp + (1)) (lv' := [(5, .int (dp + (1))), (6, .int (al)), (4, .int (lst)), (0, .ref (loc (300))), (1, .int (nI (kt))), (2, .int (nI (9 * (6 * k + j)))), (3, .int (nI (load)))]) hx hb dX8_settle_83 hl (k := 1) rfl rfl (by decide) rfl (fun ls hl => ?_)
              have e70 : dp + (1) = nI T1 := (by rw [h4]; exact xfv_inc (by omega))
              have hl : lv_has ls 9 [(5, .int (nI (T1))), (6, .int (al)), (4, .int (lst)), (0, .ref (loc (300))), (1, .int (nI (kt))), (2, .int (nI (9 * (6 * k + j)))), (3, .int (nI (load)))] := Eq.mp (congrArg (lv_has ls 9) (show ([(5, .int (dp + (1))), (6, .int (al)), (4, .int (lst)), (0, .ref (loc (300))), (1, .int (nI (kt))), (2, .int (nI (9 * (6 * k + j)))), (3, .int (nI (load)))] : List (Nat × Value)) = [(5, .int (nI (T1))), (6, .int (al)), (4, .int (lst)), (0, .ref (loc (300))), (1, .int (nI (kt))), (2, .int (nI (9 * (6 * k + j)))), (3, .int (nI (load)))] from by rw [e70])) hl
              refine lv_iconst (v := nI 0) hx hb dX8_settle_86 (by decide +kernel) ?_
              refine lv_istore (lv' := [(6, .int (nI (0))), (5, .int (nI (T1))), (4, .int (lst)), (0, .ref (loc (300))), (1, .int (nI (kt))), (2, .int (nI (9 * (6 * k + j)))), (3, .int (nI (load)))]) hx hb dX8_settle_87 hl (by decide) rfl (fun ls hl => ?_)
              refine lv_iconst (v := nI 0) hx hb dX8_settle_89 (by decide +kernel) ?_
              refine lv_istore (lv' := [(7, .int (nI (0))), (6, .int (nI (0))), (5, .int (nI (T1))), (4, .int (lst)), (0, .ref (loc (300))), (1, .int (nI (kt))), (2, .int (nI (9 * (6 * k + j)))), (3, .int (nI (load)))]) hx hb dX8_settle_90 hl (by decide) rfl (fun ls hl => ?_)
              have lp92_71 : ∀ (fuel76 : Nat) (sm : Nat) (i2 : Nat) (b3 : Nat → Int32) (ls : Array Slot) (H72 : Heap) (L73 : List Loc), 9 - i2 < fuel76 → (i2 ≤ 9) → (sm = xsm (xGs σ kt (6 * k + j)) T1 i2) → (∀ m, m < i2 → b3 m = nI (T1 - xGs σ kt (6 * k + j) m)) → xV D (xA loc w s.heap.size) loc ((xup (xup w (307) (eI cy 9 (g1))) (308) (eI cy 9 (b3)))) H72 → va_S (xA loc w s.heap.size) s.heap H72 L73 → lv_has ls 9 [(7, .int (nI (i2))), (6, .int (nI (sm))), (5, .int (nI (T1))), (4, .int (lst)), (0, .ref (loc (300))), (1, .int (nI (kt))), (2, .int (nI (9 * (6 * k + j)))), (3, .int (nI (load)))] → W p l e rm_X8_settle s m ([.ref (loc (300)), .int (nI (kt)), .int (nI (9 * (6 * k + j))), .int (nI (load))] : List Value).toArray below meth c H72 L73 0 0 (MQ below (va_Qv (fun u => u.1 = loc ∧ ∃ g b : Nat → Int32, u.2 = xup (xup w 307 (eI cy 9 g)) 308 (eI cy 9 b) ∧ ∀ i, i < 9 → b i = xbe σ kt (6 * k + j) load i) (xB D (xA loc w s.heap.size)) (xA loc w s.heap.size)) ([.ref (loc (300)), .int (nI (kt)), .int (nI (9 * (6 * k + j))), .int (nI (load))] : List Value).toArray s 0 0 (xA loc w s.heap.size)) (F0 m 92 ls []) := by
                intro fuel76
                induction fuel76 with
                | zero => intro sm i2 b3 ls H72 L73 hm77; exact absurd hm77 (Nat.not_lt_zero _)
                | succ fuel76 ih78 =>
                  intro sm i2 b3 ls H72 L73 hm77 h10 hsm h9 hV74 hS75 hl
                  have f79 : (xup (xup w (307) (eI cy 9 (g1))) (308) (eI cy 9 (b3))) (300) = some (.inr (8, [.ref (loc (301)), .int (nI (σ.2 0)), .ref (loc (302)), .ref (loc (303)), .ref (loc (304)), .int (nI (σ.2 1)), .ref (loc (305)), .ref (loc (306)), .ref (loc (307)), .ref (loc (308)), .int (v0 0), .int (v0 1), .int (v0 2), .int (v0 3), .int (nI (σ.2 5)), .ref (loc (309)), .ref (loc (310)), .int (v0 4), .int (nI (σ.2 2)), .ref (loc (311)), .int (nI (σ.2 3)), .ref (loc (312)), .ref (loc (313)), .int (σ.1 10 0), .int (σ.1 10 1), .int (nI (σ.2 4)), .ref (loc (314))])) := xup_o (xup_o (f1) (by omega)) (by omega)
                  have f80 : (xup (xup w (307) (eI cy 9 (g1))) (308) (eI cy 9 (b3))) (304) = some (eI cy 432 (σ.1 2)) := xup_o (xup_o (f2) (by omega)) (by omega)
                  have f81 : (xup (xup w (307) (eI cy 9 (g1))) (308) (eI cy 9 (b3))) (305) = some (eI cy 72 (σ.1 3)) := xup_o (xup_o (f3) (by omega)) (by omega)
                  have f82 : (xup (xup w (307) (eI cy 9 (g1))) (308) (eI cy 9 (b3))) (306) = some (eI cy 72 (σ.1 4)) := xup_o (xup_o (f4) (by omega)) (by omega)
                  have f83 : (xup (xup w (307) (eI cy 9 (g1))) (308) (eI cy 9 (b3))) (307) = some (eI cy 9 (g1)) := xup_o (xup_at _ _ _) (by omega)
                  have f84 : (xup (xup w (307) (eI cy 9 (g1))) (308) (eI cy 9 (b3))) (308) = some (eI cy 9 (b3)) := xup_at _ _ _
                  refine lv_iload hx hb dX8_settle_92 (lv_at hl 0 rfl) ?_
                  refine lv_bipush (v := nI 9) hx hb dX8_settle_94 (by decide +kernel) ?_
                  refine x_cge hx hb (i2) (9) (by omega) (by omega) (tgt := 156) dX8_settle_96 (by decide) (fun c85 => ?_) (fun c85 => ?_)
                  · have _u := trivial
                    refine lv_goto (tgt := 77) hx hb dX8_settle_156 (by decide) ?_
                    exact ih29 (nI T1) (nI sm) (T1 + 1) b3 ls _ _ (by omega) (xfv_s T1).symm (by rw [if_neg (by omega), Nat.add_sub_cancel, hsm, show i2 = 9 by omega]) (by omega) hmo (Or.inr (fun m hm => by rw [Nat.add_sub_cancel]; exact h9 m (by omega))) hV74 hS75 (lv_sub hl [1, 2, 3, 4, 5, 6, 7] rfl)
                  · have _u := trivial
                    refine lv_aload_n hx hb dX8_settle_99 rfl (lv_at hl 4 rfl) ?_
                    refine x_get (C := RX8) (T := TX8) (N := 27) hx hb hts hi_X8_settle_X8 hown hK hV74 f79 rfl 9 (by decide) (hts (.fieldLink RX8 31 "SaddleHouseModel" "bears" "[I") (List.mem_of_getElem? (i := 3) rfl)) (fun _ h9 => h9) rfl dX8_settle_100 ?_
                    refine lv_iload hx hb dX8_settle_103 (lv_at hl 0 rfl) ?_
                    refine lv_iload hx hb dX8_settle_105 (lv_at hl 2 rfl) ?_
                    refine lv_aload_n hx hb dX8_settle_107 rfl (lv_at hl 4 rfl) ?_
                    refine x_get (C := RX8) (T := TX8) (N := 27) hx hb hts hi_X8_settle_X8 hown hK hV74 f79 rfl 8 (by decide) (hts (.fieldLink RX8 28 "SaddleHouseModel" "gap" "[I") (List.mem_of_getElem? (i := 1) rfl)) (fun _ h9 => h9) rfl dX8_settle_108 ?_
                    refine lv_iload hx hb dX8_settle_111 (lv_at hl 0 rfl) ?_
                    refine x_iald hx hb hK hV74 f83 (i2) (by omega) (by decide) dX8_settle_113 ?_
                    refine lv_iload hx hb dX8_settle_114 (lv_at hl 3 rfl) ?_
                    refine lv_isub hx hb dX8_settle_116 ?_
                    refine x_top (congrArg Value.int (show _ = nI (xGs σ kt (6 * k + j) i2) from hgap i2 (by omega))) ?_
                    refine x_cle hx hb (T1) (xGs σ kt (6 * k + j) i2) (by have := hG1 i2 (by omega); omega) (by have := hG1 i2 (by omega); omega) (tgt := 136) dX8_settle_117 (by decide) (fun c86 => ?_) (fun c86 => ?_)
                    · have _u := trivial
                      refine lv_iconst (v := nI 0) hx hb dX8_settle_136 (by decide +kernel) ?_
                      refine x_iast hx hb hK hV74 hS75 f84 (i2) (by omega) (by decide) dX8_settle_137 (fun H87 L88 hV89 hS90 => ?_)
                      have hV91 := hV89.eq (xup_xup _ _ _ _)
                      have f92 : (xup (xup w (307) (eI cy 9 (g1))) (308) (eI cy 9 (upd b3 i2 (nI 0)))) (300) = some (.inr (8, [.ref (loc (301)), .int (nI (σ.2 0)), .ref (loc (302)), .ref (loc (303)), .ref (loc (304)), .int (nI (σ.2 1)), .ref (loc (305)), .ref (loc (306)), .ref (loc (307)), .ref (loc (308)), .int (v0 0), .int (v0 1), .int (v0 2), .int (v0 3), .int (nI (σ.2 5)), .ref (loc (309)), .ref (loc (310)), .int (v0 4), .int (nI (σ.2 2)), .ref (loc (311)), .int (nI (σ.2 3)), .ref (loc (312)), .ref (loc (313)), .int (σ.1 10 0), .int (σ.1 10 1), .int (nI (σ.2 4)), .ref (loc (314))])) := xup_o (xup_o (f1) (by omega)) (by omega)
                      have f93 : (xup (xup w (307) (eI cy 9 (g1))) (308) (eI cy 9 (upd b3 i2 (nI 0)))) (304) = some (eI cy 432 (σ.1 2)) := xup_o (xup_o (f2) (by omega)) (by omega)
                      have f94 : (xup (xup w (307) (eI cy 9 (g1))) (308) (eI cy 9 (upd b3 i2 (nI 0)))) (305) = some (eI cy 72 (σ.1 3)) := xup_o (xup_o (f3) (by omega)) (by omega)
                      have f95 : (xup (xup w (307) (eI cy 9 (g1))) (308) (eI cy 9 (upd b3 i2 (nI 0)))) (306) = some (eI cy 72 (σ.1 4)) := xup_o (xup_o (f4) (by omega)) (by omega)
                      have f96 : (xup (xup w (307) (eI cy 9 (g1))) (308) (eI cy 9 (upd b3 i2 (nI 0)))) (307) = some (eI cy 9 (g1)) := xup_o (xup_at _ _ _) (by omega)
                      have f97 : (xup (xup w (307) (eI cy 9 (g1))) (308) (eI cy 9 (upd b3 i2 (nI 0)))) (308) = some (eI cy 9 (upd b3 i2 (nI 0))) := xup_at _ _ _
                      refine lv_iload hx hb dX8_settle_138 (lv_at hl 1 rfl) ?_
                      refine lv_aload_n hx hb dX8_settle_140 rfl (lv_at hl 4 rfl) ?_
                      refine x_get (C := RX8) (T := TX8) (N := 27) hx hb hts hi_X8_settle_X8 hown hK hV91 f92 rfl 9 (by decide) (hts (.fieldLink RX8 31 "SaddleHouseModel" "bears" "[I") (List.mem_of_getElem? (i := 3) rfl)) (fun _ h9 => h9) rfl dX8_settle_141 ?_
                      refine lv_iload hx hb dX8_settle_144 (lv_at hl 0 rfl) ?_
                      refine x_iald hx hb hK hV91 f97 (i2) (by omega) (by decide) dX8_settle_146 ?_
                      refine x_top (congrArg Value.int (show _ = nI 0 from if_pos rfl)) ?_
                      refine x_iadd hx hb (sm) (0) dX8_settle_147 ?_
                      refine lv_istore (lv' := [(6, .int (nI (sm + 0))), (7, .int (nI (i2))), (5, .int (nI (T1))), (4, .int (lst)), (0, .ref (loc (300))), (1, .int (nI (kt))), (2, .int (nI (9 * (6 * k + j)))), (3, .int (nI (load)))]) hx hb dX8_settle_148 hl (by decide) rfl (fun ls hl => ?_)
                      refine lv_iinc (v := nI (i2 + 1)) (lv' := [(7, .int (nI (i2 + 1))), (6, .int (nI (sm + 0))), (5, .int (nI (T1))), (4, .int (lst)), (0, .ref (loc (300))), (1, .int (nI (kt))), (2, .int (nI (9 * (6 * k + j)))), (3, .int (nI (load)))]) hx hb dX8_settle_150 hl (k := 1) rfl (nI_add _ _) (by decide) rfl (fun ls hl => ?_)
                      refine lv_goto (tgt := 92) hx hb dX8_settle_153 (by decide) ?_
                      exact ih78 (sm + 0) (i2 + 1) (upd b3 i2 (nI 0)) ls _ _ (by omega) (by omega) (by have q9 := hsm; rw [xsm]; omega) (upd_lt h9 (congrArg nI (by omega))) hV91 hS90 (lv_sub hl [0, 1, 2, 3, 4, 5, 6, 7] rfl)
                    · have _u := trivial
                      refine lv_iload hx hb dX8_settle_120 (lv_at hl 2 rfl) ?_
                      refine lv_aload_n hx hb dX8_settle_122 rfl (lv_at hl 4 rfl) ?_
                      refine x_get (C := RX8) (T := TX8) (N := 27) hx hb hts hi_X8_settle_X8 hown hK hV74 f79 rfl 8 (by decide) (hts (.fieldLink RX8 28 "SaddleHouseModel" "gap" "[I") (List.mem_of_getElem? (i := 1) rfl)) (fun _ h9 => h9) rfl dX8_settle_123 ?_
                      refine lv_iload hx hb dX8_settle_126 (lv_at hl 0 rfl) ?_
                      refine x_iald hx hb hK hV74 f83 (i2) (by omega) (by decide) dX8_settle_128 ?_
                      refine lv_isub hx hb dX8_settle_129 ?_
                      refine lv_iload hx hb dX8_settle_130 (lv_at hl 3 rfl) ?_
                      refine lv_iadd hx hb dX8_settle_132 ?_
                      refine x_top (congrArg Value.int (show _ = nI (T1 - xGs σ kt (6 * k + j) i2) from yd_bear (by omega) (hG1 i2 (by omega)) (nI_lt (by omega) (by omega)) (hgap i2 (by omega)))) ?_
                      refine lv_goto (tgt := 137) hx hb dX8_settle_133 (by decide) ?_
                      refine x_iast hx hb hK hV74 hS75 f84 (i2) (by omega) (by decide) dX8_settle_137 (fun H98 L99 hV100 hS101 => ?_)
                      have hV102 := hV100.eq (xup_xup _ _ _ _)
                      have f103 : (xup (xup w (307) (eI cy 9 (g1))) (308) (eI cy 9 (upd b3 i2 (nI (T1 - xGs σ kt (6 * k + j) i2))))) (300) = some (.inr (8, [.ref (loc (301)), .int (nI (σ.2 0)), .ref (loc (302)), .ref (loc (303)), .ref (loc (304)), .int (nI (σ.2 1)), .ref (loc (305)), .ref (loc (306)), .ref (loc (307)), .ref (loc (308)), .int (v0 0), .int (v0 1), .int (v0 2), .int (v0 3), .int (nI (σ.2 5)), .ref (loc (309)), .ref (loc (310)), .int (v0 4), .int (nI (σ.2 2)), .ref (loc (311)), .int (nI (σ.2 3)), .ref (loc (312)), .ref (loc (313)), .int (σ.1 10 0), .int (σ.1 10 1), .int (nI (σ.2 4)), .ref (loc (314))])) := xup_o (xup_o (f1) (by omega)) (by omega)
                      have f104 : (xup (xup w (307) (eI cy 9 (g1))) (308) (eI cy 9 (upd b3 i2 (nI (T1 - xGs σ kt (6 * k + j) i2))))) (304) = some (eI cy 432 (σ.1 2)) := xup_o (xup_o (f2) (by omega)) (by omega)
                      have f105 : (xup (xup w (307) (eI cy 9 (g1))) (308) (eI cy 9 (upd b3 i2 (nI (T1 - xGs σ kt (6 * k + j) i2))))) (305) = some (eI cy 72 (σ.1 3)) := xup_o (xup_o (f3) (by omega)) (by omega)
                      have f106 : (xup (xup w (307) (eI cy 9 (g1))) (308) (eI cy 9 (upd b3 i2 (nI (T1 - xGs σ kt (6 * k + j) i2))))) (306) = some (eI cy 72 (σ.1 4)) := xup_o (xup_o (f4) (by omega)) (by omega)
                      have f107 : (xup (xup w (307) (eI cy 9 (g1))) (308) (eI cy 9 (upd b3 i2 (nI (T1 - xGs σ kt (6 * k + j) i2))))) (307) = some (eI cy 9 (g1)) := xup_o (xup_at _ _ _) (by omega)
                      have f108 : (xup (xup w (307) (eI cy 9 (g1))) (308) (eI cy 9 (upd b3 i2 (nI (T1 - xGs σ kt (6 * k + j) i2))))) (308) = some (eI cy 9 (upd b3 i2 (nI (T1 - xGs σ kt (6 * k + j) i2)))) := xup_at _ _ _
                      refine lv_iload hx hb dX8_settle_138 (lv_at hl 1 rfl) ?_
                      refine lv_aload_n hx hb dX8_settle_140 rfl (lv_at hl 4 rfl) ?_
                      refine x_get (C := RX8) (T := TX8) (N := 27) hx hb hts hi_X8_settle_X8 hown hK hV102 f103 rfl 9 (by decide) (hts (.fieldLink RX8 31 "SaddleHouseModel" "bears" "[I") (List.mem_of_getElem? (i := 3) rfl)) (fun _ h9 => h9) rfl dX8_settle_141 ?_
                      refine lv_iload hx hb dX8_settle_144 (lv_at hl 0 rfl) ?_
                      refine x_iald hx hb hK hV102 f108 (i2) (by omega) (by decide) dX8_settle_146 ?_
                      refine x_top (congrArg Value.int (show _ = nI (T1 - xGs σ kt (6 * k + j) i2) from if_pos rfl)) ?_
                      refine x_iadd hx hb (sm) (T1 - xGs σ kt (6 * k + j) i2) dX8_settle_147 ?_
                      refine lv_istore (lv' := [(6, .int (nI (sm + (T1 - xGs σ kt (6 * k + j) i2)))), (7, .int (nI (i2))), (5, .int (nI (T1))), (4, .int (lst)), (0, .ref (loc (300))), (1, .int (nI (kt))), (2, .int (nI (9 * (6 * k + j)))), (3, .int (nI (load)))]) hx hb dX8_settle_148 hl (by decide) rfl (fun ls hl => ?_)
                      refine lv_iinc (v := nI (i2 + 1)) (lv' := [(7, .int (nI (i2 + 1))), (6, .int (nI (sm + (T1 - xGs σ kt (6 * k + j) i2)))), (5, .int (nI (T1))), (4, .int (lst)), (0, .ref (loc (300))), (1, .int (nI (kt))), (2, .int (nI (9 * (6 * k + j)))), (3, .int (nI (load)))]) hx hb dX8_settle_150 hl (k := 1) rfl (nI_add _ _) (by decide) rfl (fun ls hl => ?_)
                      refine lv_goto (tgt := 92) hx hb dX8_settle_153 (by decide) ?_
                      exact ih78 (sm + (T1 - xGs σ kt (6 * k + j) i2)) (i2 + 1) (upd b3 i2 (nI (T1 - xGs σ kt (6 * k + j) i2))) ls _ _ (by omega) (by omega) (by have q9 := hsm; rw [xsm]; omega) (upd_lt h9 (congrArg nI (by omega))) hV102 hS101 (lv_sub hl [0, 1, 2, 3, 4, 5, 6, 7] rfl)
              exact lp92_71 (9 + 1) 0 0 b1 ls _ _ (by omega) (Nat.zero_le _) rfl (fun m h => absurd h (Nat.not_lt_zero m)) hV25 hS26 (lv_sub hl [0, 1, 2, 3, 4, 5, 6, 7] rfl)
        exact lp77_22 (2002 + 1) (-1) (-1) 0 b0 ls _ _ (by omega) rfl (if_pos rfl).symm (Nat.zero_le _) (fun T' h => absurd h (Nat.not_lt_zero _)) (Or.inl rfl) (hV10.eq (xup_id f20).symm) hS11 (lv_sub hl [0, 1, 2, 3, 4, 5, 6] rfl)
      · have _u := trivial
        refine lv_aload_n hx hb dX8_settle_15 rfl (lv_at hl 2 rfl) ?_
        refine x_get (C := RX8) (T := TX8) (N := 27) hx hb hts hi_X8_settle_X8 hown hK hV10 f15 rfl 8 (by decide) (hts (.fieldLink RX8 28 "SaddleHouseModel" "gap" "[I") (List.mem_of_getElem? (i := 1) rfl)) (fun _ h9 => h9) rfl dX8_settle_16 ?_
        refine lv_iload hx hb dX8_settle_19 (lv_at hl 0 rfl) ?_
        refine lv_aload_n hx hb dX8_settle_21 rfl (lv_at hl 2 rfl) ?_
        refine lv_iload_n hx hb dX8_settle_22 rfl (lv_at hl 3 rfl) ?_
        refine lv_iload hx hb dX8_settle_23 (lv_at hl 0 rfl) ?_
        refine x_ci (va_runV (As := [.int (nI (kt)), .int (nI (i))]) (rest := [.int (nI (i)), .ref (loc (307))]) ⟨hx, hb, hml, hown, hts⟩ (c_X8_underOf l D cy loc (xup w (307) (eI cy 9 (g1))) H8.size σ hNN (yR_307 hRR) kt i (by omega) (by omega)) (cwV 2 hts gX8_settle_X8_underOf rfl rfl rfl (by decide +kernel) ⟨Nat.le_of_ble_eq_true rfl, Nat.le_of_ble_eq_true rfl⟩) (x_preV hK hV10 f15 rfl) rfl rfl hl.1 rfl (lv_room (Nat.le_of_ble_eq_true rfl)) dX8_settle_25 ⟨Nat.le_of_ble_eq_true rfl, Nat.le_of_ble_eq_true rfl⟩) (fun r109 hr110 => ?_)
        have ez111 : σ.1 3 (9 * kt + i) - σ.1 4 (9 * kt + i) = r109 := Eq.symm (show r109 = σ.1 3 (9 * kt + i) - σ.1 4 (9 * kt + i) from hr110)
        subst ez111
        refine lv_aload_n hx hb dX8_settle_28 rfl (lv_at hl 2 rfl) ?_
        refine x_get (C := RX8) (T := TX8) (N := 27) hx hb hts hi_X8_settle_X8 hown hK hV10 f15 rfl 4 (by decide) (hts (.fieldLink RX8 19 "SaddleHouseModel" "heights" "[I") (List.mem_of_getElem? (i := 2) rfl)) (fun _ h9 => h9) rfl dX8_settle_29 ?_
        refine lv_iload_n hx hb dX8_settle_32 rfl (lv_at hl 4 rfl) ?_
        refine lv_iload hx hb dX8_settle_33 (lv_at hl 0 rfl) ?_
        refine x_iadd hx hb (9 * (6 * k + j)) (i) dX8_settle_35 ?_
        refine x_iald hx hb hK hV10 f16 ((9 * (6 * k + j)) + i) (by omega) (by decide) dX8_settle_36 ?_
        refine lv_isub hx hb dX8_settle_37 ?_
        refine x_iast hx hb hK hV10 hS11 f19 (i) (by omega) (by decide) dX8_settle_38 (fun H112 L113 hV114 hS115 => ?_)
        have hV116 := hV114.eq (xup_xup _ _ _ _)
        have f117 : (xup w (307) (eI cy 9 (upd g1 i ((σ.1 3 (9 * kt + i) - σ.1 4 (9 * kt + i)) - ((σ.1 2) ((9 * (6 * k + j)) + i)))))) (300) = some (.inr (8, [.ref (loc (301)), .int (nI (σ.2 0)), .ref (loc (302)), .ref (loc (303)), .ref (loc (304)), .int (nI (σ.2 1)), .ref (loc (305)), .ref (loc (306)), .ref (loc (307)), .ref (loc (308)), .int (v0 0), .int (v0 1), .int (v0 2), .int (v0 3), .int (nI (σ.2 5)), .ref (loc (309)), .ref (loc (310)), .int (v0 4), .int (nI (σ.2 2)), .ref (loc (311)), .int (nI (σ.2 3)), .ref (loc (312)), .ref (loc (313)), .int (σ.1 10 0), .int (σ.1 10 1), .int (nI (σ.2 4)), .ref (loc (314))])) := xup_o (f1) (by omega)
        have f118 : (xup w (307) (eI cy 9 (upd g1 i ((σ.1 3 (9 * kt + i) - σ.1 4 (9 * kt + i)) - ((σ.1 2) ((9 * (6 * k + j)) + i)))))) (304) = some (eI cy 432 (σ.1 2)) := xup_o (f2) (by omega)
        have f119 : (xup w (307) (eI cy 9 (upd g1 i ((σ.1 3 (9 * kt + i) - σ.1 4 (9 * kt + i)) - ((σ.1 2) ((9 * (6 * k + j)) + i)))))) (305) = some (eI cy 72 (σ.1 3)) := xup_o (f3) (by omega)
        have f120 : (xup w (307) (eI cy 9 (upd g1 i ((σ.1 3 (9 * kt + i) - σ.1 4 (9 * kt + i)) - ((σ.1 2) ((9 * (6 * k + j)) + i)))))) (306) = some (eI cy 72 (σ.1 4)) := xup_o (f4) (by omega)
        have f121 : (xup w (307) (eI cy 9 (upd g1 i ((σ.1 3 (9 * kt + i) - σ.1 4 (9 * kt + i)) - ((σ.1 2) ((9 * (6 * k + j)) + i)))))) (307) = some (eI cy 9 (upd g1 i ((σ.1 3 (9 * kt + i) - σ.1 4 (9 * kt + i)) - ((σ.1 2) ((9 * (6 * k + j)) + i))))) := xup_at _ _ _
        have f122 : (xup w (307) (eI cy 9 (upd g1 i ((σ.1 3 (9 * kt + i) - σ.1 4 (9 * kt + i)) - ((σ.1 2) ((9 * (6 * k + j)) + i)))))) (308) = some (eI cy 9 (b0)) := xup_o (f6) (by omega)
        refine lv_aload_n hx hb dX8_settle_39 rfl (lv_at hl 2 rfl) ?_
        refine x_get (C := RX8) (T := TX8) (N := 27) hx hb hts hi_X8_settle_X8 hown hK hV116 f117 rfl 8 (by decide) (hts (.fieldLink RX8 28 "SaddleHouseModel" "gap" "[I") (List.mem_of_getElem? (i := 1) rfl)) (fun _ h9 => h9) rfl dX8_settle_40 ?_
        refine lv_iload hx hb dX8_settle_43 (lv_at hl 0 rfl) ?_
        refine x_iald hx hb hK hV116 f121 (i) (by omega) (by decide) dX8_settle_45 ?_
        refine x_top (congrArg Value.int (show _ = xg σ kt (6 * k + j) i from if_pos rfl)) ?_
        refine lv_iload hx hb dX8_settle_46 (lv_at hl 1 rfl) ?_
        refine lv_icmp_ge (tgt := 61) hx hb dX8_settle_48 (by decide) (fun c123 => ?_) (fun c123 => ?_)
        · have _u := trivial
          refine lv_iload hx hb dX8_settle_61 (lv_at hl 1 rfl) ?_
          refine lv_istore (lv' := [(4, .int (lst)), (5, .int (nI (i))), (0, .ref (loc (300))), (1, .int (nI (kt))), (2, .int (nI (9 * (6 * k + j)))), (3, .int (nI (load)))]) hx hb dX8_settle_63 hl (by decide) rfl (fun ls hl => ?_)
          refine lv_iinc (v := nI (i + 1)) (lv' := [(5, .int (nI (i + 1))), (4, .int (lst)), (0, .ref (loc (300))), (1, .int (nI (kt))), (2, .int (nI (9 * (6 * k + j)))), (3, .int (nI (load)))]) hx hb dX8_settle_65 hl (k := 1) rfl (nI_add _ _) (by decide) rfl (fun ls hl => ?_)
          refine lv_goto (tgt := 8) hx hb dX8_settle_68 (by decide) ?_
          exact ih14 lst (i + 1) (upd g1 i ((σ.1 3 (9 * kt + i) - σ.1 4 (9 * kt + i)) - ((σ.1 2) ((9 * (6 * k + j)) + i)))) ls _ _ (by omega) (by omega) (upd_lt h2 rfl) (xml_n h3 (by first | exact Int32.not_lt.mpr c123 | exact c123)) hV116 hS115 (lv_sub hl [0, 1, 2, 3, 4, 5] rfl)
        · have _u := trivial
          refine lv_aload_n hx hb dX8_settle_51 rfl (lv_at hl 2 rfl) ?_
          refine x_get (C := RX8) (T := TX8) (N := 27) hx hb hts hi_X8_settle_X8 hown hK hV116 f117 rfl 8 (by decide) (hts (.fieldLink RX8 28 "SaddleHouseModel" "gap" "[I") (List.mem_of_getElem? (i := 1) rfl)) (fun _ h9 => h9) rfl dX8_settle_52 ?_
          refine lv_iload hx hb dX8_settle_55 (lv_at hl 0 rfl) ?_
          refine x_iald hx hb hK hV116 f121 (i) (by omega) (by decide) dX8_settle_57 ?_
          refine x_top (congrArg Value.int (show _ = xg σ kt (6 * k + j) i from if_pos rfl)) ?_
          refine lv_goto (tgt := 63) hx hb dX8_settle_58 (by decide) ?_
          refine lv_istore (lv' := [(4, .int (xg σ kt (6 * k + j) i)), (5, .int (nI (i))), (0, .ref (loc (300))), (1, .int (nI (kt))), (2, .int (nI (9 * (6 * k + j)))), (3, .int (nI (load)))]) hx hb dX8_settle_63 hl (by decide) rfl (fun ls hl => ?_)
          refine lv_iinc (v := nI (i + 1)) (lv' := [(5, .int (nI (i + 1))), (4, .int (xg σ kt (6 * k + j) i)), (0, .ref (loc (300))), (1, .int (nI (kt))), (2, .int (nI (9 * (6 * k + j)))), (3, .int (nI (load)))]) hx hb dX8_settle_65 hl (k := 1) rfl (nI_add _ _) (by decide) rfl (fun ls hl => ?_)
          refine lv_goto (tgt := 8) hx hb dX8_settle_68 (by decide) ?_
          exact ih14 (xg σ kt (6 * k + j) i) (i + 1) (upd g1 i ((σ.1 3 (9 * kt + i) - σ.1 4 (9 * kt + i)) - ((σ.1 2) ((9 * (6 * k + j)) + i)))) ls _ _ (by omega) (by omega) (upd_lt h2 rfl) (xml_y h3 (by first | exact Int32.not_le.mp c123 | exact c123)) hV116 hS115 (lv_sub hl [0, 1, 2, 3, 4, 5] rfl)
  exact lp8_7 (9 + 1) (nI 9999) 0 g0 ls _ _ (by omega) (Nat.zero_le _) (fun m h => absurd h (Nat.not_lt_zero m)) rfl (hV.eq (xup_id f5).symm) hS (lv_sub hl [0, 1, 2, 3, 4, 5] rfl)
