abbrev rm_X7_fittingBits : Room := { frames := 5, cells := 0, slots := 0, locals := 116 }
theorem hi_X7_fittingBits_X7 : ∀ w ∈ wsX70, w ∈ wsX7_fittingBits := fun w h => List.mem_cons_of_mem _ (List.mem_append_left _ (List.mem_append_left _ (List.mem_append_left _ (List.mem_append_right _ h))))
set_option maxHeartbeats 4000000 in
set_option maxRecDepth 100000 in
theorem c_X7_fittingBits (l : Launch) (D : va_G) (cy : Nat → ClassId) (loc : Nat → Nat) (w : xM) (sz : Nat) (σ : xS) (hN : xN8 σ) (hR : xR cy loc σ w) (hB : xBd σ) (k j load : Nat) (hk : k < σ.2 0) (hj : j < σ.2 (10 + k)) (hl1 : 1 ≤ load) (hl2 : load ≤ 2000) (m0 : Int32)  : Met l yX7_fittingBits wsX7_fittingBits rm_X7_fittingBits (va_Pc [.ref (loc (0)), .ref (loc (40 + 6 * k + j)), .int (nI (load)), .int (m0)] (xP D cy loc w sz)) (va_Qi (fun r u => r = xfb σ (6 * k + j) load m0 (σ.2 1) ∧ u.1 = loc ∧ ∃ g b : Nat → Int32, u.2 = xup (xup w 9 (eI cy 9 g)) 10 (eI cy 9 b)) (xB D (xA loc w sz)) (xA loc w sz)) 0 0 (xA loc w sz) := by
  refine x_met (cc := cX7_fittingBits) (maxL := 6) (ret := (some .int)) (C := RX7) (by decide) rfl rfl (Nat.le_of_ble_eq_true rfl) ?_
  intro p e s m below meth c ls hx hb hml hr hts hown hlocks hin hP hl
  obtain ⟨hsz, hV, hK⟩ := hP
  subst hsz
  have hA : ∀ q : Nat, s.heap.size ≤ q → xA loc w s.heap.size q := fun q h => Or.inr h
  have hS : va_S (xA loc w s.heap.size) s.heap s.heap [] := va_S.rf
  have hl : lv_has ls 6 [(0, .ref (loc (0))), (1, .ref (loc (40 + 6 * k + j))), (2, .int (nI (load))), (3, .int (m0))] := hl
  have hNN := hN
  have hRR := hR
  obtain ⟨g0, b0, q0, hw⟩ := hR
  obtain ⟨hN0, hN1, hN2, hN3, hN4, hN5, hN6⟩ := hN
  have h6_k := hN6 k
  have f1 : w (0) = some (.inr (7, [.ref (loc (1)), .ref (loc (2)), .ref (loc (3)), .ref (loc (4)), .ref (loc (5)), .ref (loc (6)), .ref (loc (7)), .int (nI (σ.2 0)), .int (nI (σ.2 1)), .int (nI (σ.2 2)), .int (nI (σ.2 3)), .int (nI (σ.2 4)), .int (nI (σ.2 5)), .int (nI (σ.2 6)), .int (σ.1 10 1), .int (σ.1 10 0), .ref (loc (8)), .ref (loc (11))])) := (hw 0 (by decide)).trans rfl
  have f2 : w (3) = some (eQ cy 6 8 (xq (fun k => loc (150 + k)) (σ.2 1))) := (hw 3 (by decide)).trans rfl
  have f3 : w (8) = some (.inr (5, [.ref (loc (9)), .ref (loc (10))])) := (hw 8 (by decide)).trans rfl
  have f4 : w (9) = some (eI cy 9 (g0)) := (hw 9 (by decide)).trans rfl
  have f5 : w (10) = some (eI cy 9 (b0)) := (hw 10 (by decide)).trans rfl
  have f6 : w (40 + 6 * k + j) = some (.inr (3, [.int (σ.1 1 (6 * k + j)), .ref (loc (100 + 6 * k + j))])) := (hw (40 + 6 * k + j) (by omega)).trans (xC_40 (by omega) (by omega) (by omega) (by omega))
  have f7 : w (100 + 6 * k + j) = some (eI cy 9 (xsl 9 (σ.1 2) (9 * (6 * k + j)))) := (hw (100 + 6 * k + j) (by omega)).trans (xC_100 (by omega) (by omega) (by omega) (by omega))
  refine lv_iconst (v := nI 0) hx hb dX7_fittingBits_0 (by decide +kernel) ?_
  refine lv_istore (lv' := [(4, .int (nI (0))), (0, .ref (loc (0))), (1, .ref (loc (40 + 6 * k + j))), (2, .int (nI (load))), (3, .int (m0))]) hx hb dX7_fittingBits_1 hl (by decide) rfl (fun ls hl => ?_)
  refine lv_iconst (v := nI 0) hx hb dX7_fittingBits_3 (by decide +kernel) ?_
  refine lv_istore (lv' := [(5, .int (nI (0))), (4, .int (nI (0))), (0, .ref (loc (0))), (1, .ref (loc (40 + 6 * k + j))), (2, .int (nI (load))), (3, .int (m0))]) hx hb dX7_fittingBits_4 hl (by decide) rfl (fun ls hl => ?_)
  have lp6_8 : ∀ (fuel13 : Nat) (z : Int32) (i : Nat) (g1 : Nat → Int32) (b1 : Nat → Int32) (ls : Array Slot) (H9 : Heap) (L10 : List Loc), σ.2 1 - i < fuel13 → (i ≤ σ.2 1) → (z = xfb σ (6 * k + j) load m0 i) → xV D (xA loc w s.heap.size) loc ((xup (xup w (9) (eI cy 9 (g1))) (10) (eI cy 9 (b1)))) H9 → va_S (xA loc w s.heap.size) s.heap H9 L10 → lv_has ls 6 [(5, .int (nI (i))), (4, .int (z)), (0, .ref (loc (0))), (1, .ref (loc (40 + 6 * k + j))), (2, .int (nI (load))), (3, .int (m0))] → W p l e rm_X7_fittingBits s m ([.ref (loc (0)), .ref (loc (40 + 6 * k + j)), .int (nI (load)), .int (m0)] : List Value).toArray below meth c H9 L10 0 0 (MQ below (va_Qi (fun r u => r = xfb σ (6 * k + j) load m0 (σ.2 1) ∧ u.1 = loc ∧ ∃ g b : Nat → Int32, u.2 = xup (xup w 9 (eI cy 9 g)) 10 (eI cy 9 b)) (xB D (xA loc w s.heap.size)) (xA loc w s.heap.size)) ([.ref (loc (0)), .ref (loc (40 + 6 * k + j)), .int (nI (load)), .int (m0)] : List Value).toArray s 0 0 (xA loc w s.heap.size)) (F0 m 6 ls []) := by
    intro fuel13
    induction fuel13 with
    | zero => intro z i g1 b1 ls H9 L10 hm14; exact absurd hm14 (Nat.not_lt_zero _)
    | succ fuel13 ih15 =>
      intro z i g1 b1 ls H9 L10 hm14 h1 h2 hV11 hS12 hl
      have f16 : (xup (xup w (9) (eI cy 9 (g1))) (10) (eI cy 9 (b1))) (0) = some (.inr (7, [.ref (loc (1)), .ref (loc (2)), .ref (loc (3)), .ref (loc (4)), .ref (loc (5)), .ref (loc (6)), .ref (loc (7)), .int (nI (σ.2 0)), .int (nI (σ.2 1)), .int (nI (σ.2 2)), .int (nI (σ.2 3)), .int (nI (σ.2 4)), .int (nI (σ.2 5)), .int (nI (σ.2 6)), .int (σ.1 10 1), .int (σ.1 10 0), .ref (loc (8)), .ref (loc (11))])) := xup_o (xup_o (f1) (by omega)) (by omega)
      have f17 : (xup (xup w (9) (eI cy 9 (g1))) (10) (eI cy 9 (b1))) (8) = some (.inr (5, [.ref (loc (9)), .ref (loc (10))])) := xup_o (xup_o (f3) (by omega)) (by omega)
      have f18 : (xup (xup w (9) (eI cy 9 (g1))) (10) (eI cy 9 (b1))) (40 + 6 * k + j) = some (.inr (3, [.int (σ.1 1 (6 * k + j)), .ref (loc (100 + 6 * k + j))])) := xup_o (xup_o (f6) (by omega)) (by omega)
      have f19 : (xup (xup w (9) (eI cy 9 (g1))) (10) (eI cy 9 (b1))) (9) = some (eI cy 9 (g1)) := xup_o (xup_at _ _ _) (by omega)
      have f20 : (xup (xup w (9) (eI cy 9 (g1))) (10) (eI cy 9 (b1))) (10) = some (eI cy 9 (b1)) := xup_at _ _ _
      have f21 : (xup (xup w (9) (eI cy 9 (g1))) (10) (eI cy 9 (b1))) (100 + 6 * k + j) = some (eI cy 9 (xsl 9 (σ.1 2) (9 * (6 * k + j)))) := xup_o (xup_o (f7) (by omega)) (by omega)
      have f22 : (xup (xup w (9) (eI cy 9 (g1))) (10) (eI cy 9 (b1))) (3) = some (eQ cy 6 8 (xq (fun k => loc (150 + k)) (σ.2 1))) := xup_o (xup_o (f2) (by omega)) (by omega)
      refine lv_iload hx hb dX7_fittingBits_6 (lv_at hl 0 rfl) ?_
      refine lv_aload_n hx hb dX7_fittingBits_8 rfl (lv_at hl 2 rfl) ?_
      refine x_get (C := RX7) (T := TX7) (N := 18) hx hb hts hi_X7_fittingBits_X7 hown hK hV11 f16 rfl 8 (by decide) (hts (.fieldLink RX7 50 "SaddleHouse" "treeCount" "I") (List.mem_of_getElem? (i := 1) rfl)) (fun _ h9 => h9) rfl dX7_fittingBits_9 ?_
      refine x_cge hx hb (i) (σ.2 1) (by omega) (by omega) (tgt := 42) dX7_fittingBits_12 (by decide) (fun c23 => ?_) (fun c23 => ?_)
      · have _u := trivial
        refine lv_iload hx hb dX7_fittingBits_42 (lv_at hl 1 rfl) ?_
        exact x_rmi hx hb hr hlocks dX7_fittingBits_44 hV11 hS12 (⟨by rw [h2, show i = σ.2 1 by omega], rfl, g1, b1, rfl⟩)
      · have _u := trivial
        refine lv_aload_n hx hb dX7_fittingBits_15 rfl (lv_at hl 2 rfl) ?_
        refine lv_iload hx hb dX7_fittingBits_16 (lv_at hl 0 rfl) ?_
        refine lv_aload_n hx hb dX7_fittingBits_18 rfl (lv_at hl 3 rfl) ?_
        refine lv_iload_n hx hb dX7_fittingBits_19 rfl (lv_at hl 4 rfl) ?_
        refine lv_iload_n hx hb dX7_fittingBits_20 rfl (lv_at hl 5 rfl) ?_
        refine x_mi (va_runV (As := [.int (nI (i)), .ref (loc (40 + 6 * k + j)), .int (nI (load)), .int (m0)]) (rest := []) ⟨hx, hb, hml, hown, hts⟩ (c_X7_fitsOn l D cy loc (xup (xup w (9) (eI cy 9 (g1))) (10) (eI cy 9 (b1))) H9.size σ hNN (xR_10 (xR_9 hRR)) hB k j load hk hj hl1 hl2 i (by omega) m0) (cwV 4 hts gX7_fittingBits_X7_fitsOn rfl rfl rfl (by decide +kernel) ⟨Nat.le_of_ble_eq_true rfl, Nat.le_of_ble_eq_true rfl⟩) (x_preV hK hV11 f16 rfl) rfl rfl hl.1 rfl (lv_room (Nat.le_of_ble_eq_true rfl)) dX7_fittingBits_21 ⟨Nat.le_of_ble_eq_true rfl, Nat.le_of_ble_eq_true rfl⟩) hV11 hS12 hA (fun r24 loc31 w30 H26 L27 hr25 hV28 hS29 => ?_)
        obtain ⟨e32, e33, g2, b2, e34, hb2⟩ := hr25
        have e32 : xb (xfault (xbe σ i (6 * k + j) load) m0 = 0) = r24 := Eq.symm e32
        subst e32
        have e33 : loc = loc31 := Eq.symm e33
        subst e33
        have e34 := Eq.symm e34
        subst e34
        have hV35 : xV D (xA loc w s.heap.size) loc (xup (xup w (9) (eI cy 9 (g2))) (10) (eI cy 9 (b2))) H26 := hV28.eq (x_two (by decide))
        have f36 : (xup (xup w (9) (eI cy 9 (g2))) (10) (eI cy 9 (b2))) (0) = some (.inr (7, [.ref (loc (1)), .ref (loc (2)), .ref (loc (3)), .ref (loc (4)), .ref (loc (5)), .ref (loc (6)), .ref (loc (7)), .int (nI (σ.2 0)), .int (nI (σ.2 1)), .int (nI (σ.2 2)), .int (nI (σ.2 3)), .int (nI (σ.2 4)), .int (nI (σ.2 5)), .int (nI (σ.2 6)), .int (σ.1 10 1), .int (σ.1 10 0), .ref (loc (8)), .ref (loc (11))])) := xup_o (xup_o (f1) (by omega)) (by omega)
        have f37 : (xup (xup w (9) (eI cy 9 (g2))) (10) (eI cy 9 (b2))) (8) = some (.inr (5, [.ref (loc (9)), .ref (loc (10))])) := xup_o (xup_o (f3) (by omega)) (by omega)
        have f38 : (xup (xup w (9) (eI cy 9 (g2))) (10) (eI cy 9 (b2))) (40 + 6 * k + j) = some (.inr (3, [.int (σ.1 1 (6 * k + j)), .ref (loc (100 + 6 * k + j))])) := xup_o (xup_o (f6) (by omega)) (by omega)
        have f39 : (xup (xup w (9) (eI cy 9 (g2))) (10) (eI cy 9 (b2))) (9) = some (eI cy 9 (g2)) := xup_o (xup_at _ _ _) (by omega)
        have f40 : (xup (xup w (9) (eI cy 9 (g2))) (10) (eI cy 9 (b2))) (10) = some (eI cy 9 (b2)) := xup_at _ _ _
        have f41 : (xup (xup w (9) (eI cy 9 (g2))) (10) (eI cy 9 (b2))) (100 + 6 * k + j) = some (eI cy 9 (xsl 9 (σ.1 2) (9 * (6 * k + j)))) := xup_o (xup_o (f7) (by omega)) (by omega)
        have f42 : (xup (xup w (9) (eI cy 9 (g2))) (10) (eI cy 9 (b2))) (3) = some (eQ cy 6 8 (xq (fun k => loc (150 + k)) (σ.2 1))) := xup_o (xup_o (f2) (by omega)) (by omega)
        refine x_beq (tgt := 36) hx hb dX7_fittingBits_24 (by decide) (fun c43 => ?_) (fun c43 => ?_)
        · have _u := trivial
          refine lv_iinc (v := nI (i + 1)) (lv' := [(5, .int (nI (i + 1))), (4, .int (z)), (0, .ref (loc (0))), (1, .ref (loc (40 + 6 * k + j))), (2, .int (nI (load))), (3, .int (m0))]) hx hb dX7_fittingBits_36 hl (k := 0) rfl (nI_add _ _) (by decide) rfl (fun ls hl => ?_)
          refine lv_goto (tgt := 6) hx hb dX7_fittingBits_39 (by decide) ?_
          exact ih15 z (i + 1) g2 b2 ls _ _ (by omega) (by omega) (xfb_n h2 c43) hV35 hS29 (lv_sub hl [0, 1, 2, 3, 4, 5] rfl)
        · have _u := trivial
          refine lv_iload hx hb dX7_fittingBits_27 (lv_at hl 1 rfl) ?_
          refine lv_iconst (v := nI 1) hx hb dX7_fittingBits_29 (by decide +kernel) ?_
          refine lv_iload hx hb dX7_fittingBits_30 (lv_at hl 0 rfl) ?_
          refine lv_ishl hx hb dX7_fittingBits_32 ?_
          refine lv_ior hx hb dX7_fittingBits_33 ?_
          refine lv_istore (lv' := [(4, .int (z ||| ((nI 1) <<< ((nI i) &&& 31)))), (5, .int (nI (i))), (0, .ref (loc (0))), (1, .ref (loc (40 + 6 * k + j))), (2, .int (nI (load))), (3, .int (m0))]) hx hb dX7_fittingBits_34 hl (by decide) rfl (fun ls hl => ?_)
          refine lv_iinc (v := nI (i + 1)) (lv' := [(5, .int (nI (i + 1))), (4, .int (z ||| ((nI 1) <<< ((nI i) &&& 31)))), (0, .ref (loc (0))), (1, .ref (loc (40 + 6 * k + j))), (2, .int (nI (load))), (3, .int (m0))]) hx hb dX7_fittingBits_36 hl (k := 1) rfl (nI_add _ _) (by decide) rfl (fun ls hl => ?_)
          refine lv_goto (tgt := 6) hx hb dX7_fittingBits_39 (by decide) ?_
          exact ih15 (z ||| ((nI 1) <<< ((nI i) &&& 31))) (i + 1) g2 b2 ls _ _ (by omega) (by omega) (xfb_y h2 c43) hV35 hS29 (lv_sub hl [0, 1, 2, 3, 4, 5] rfl)
  exact lp6_8 ((σ.2 1) + 1) (nI 0) 0 g0 b0 ls _ _ (by omega) (Nat.zero_le _) rfl ((hV.eq (xup_id f4).symm).eq (xup_id (xup_o f5 (by omega))).symm) hS (lv_sub hl [0, 1, 2, 3, 4, 5] rfl)
