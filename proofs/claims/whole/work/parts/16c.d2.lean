abbrev rm_X7_listFitting : Room := { frames := 6, cells := 0, slots := 0, locals := 141 }
theorem hi_X7_listFitting_X7 : ∀ w ∈ wsX70, w ∈ wsX7_listFitting := fun w h => List.mem_cons_of_mem _ (List.mem_append_left _ (List.mem_append_left _ (List.mem_append_left _ (List.mem_append_left _ (List.mem_append_right _ h)))))
set_option maxHeartbeats 4000000 in
set_option maxRecDepth 100000 in
theorem c_X7_listFitting (l : Launch) (D : va_G) (cy : Nat → ClassId) (loc : Nat → Nat) (w : xM) (sz : Nat) (σ : xS) (hN : xN8 σ) (hR : xR cy loc σ w) (hB : xBd σ) (load : Nat) (hl1 : 1 ≤ load) (hl2 : load ≤ 2000) (m0 : Int32)  : Met l yX7_listFitting wsX7_listFitting rm_X7_listFitting (va_Pc [.ref (loc (0)), .int (nI (load)), .int (m0)] (xP D cy loc w sz)) (va_Qi (fun r u => ∃ (ct : Nat) (g b f : Nat → Int32), r = nI ct ∧ ct ≤ 48 ∧ xAg ct f (xl2 σ load m0 (σ.2 0)) ∧ u.1 = loc ∧ u.2 = xup (xup (xup w 9 (eI cy 9 g)) 10 (eI cy 9 b)) 11 (eI cy 48 f)) (xB D (xA loc w sz)) (xA loc w sz)) 0 0 (xA loc w sz) := by
  refine x_met (cc := cX7_listFitting) (maxL := 7) (ret := (some .int)) (C := RX7) (by decide) rfl rfl (Nat.le_of_ble_eq_true rfl) ?_
  intro p e s m below meth c ls hx hb hml hr hts hown hlocks hin hP hl
  obtain ⟨hsz, hV, hK⟩ := hP
  subst hsz
  have hA : ∀ q : Nat, s.heap.size ≤ q → xA loc w s.heap.size q := fun q h => Or.inr h
  have hS : va_S (xA loc w s.heap.size) s.heap s.heap [] := va_S.rf
  have hl : lv_has ls 7 [(0, .ref (loc (0))), (1, .int (nI (load))), (2, .int (m0))] := hl
  have hNN := hN
  have hRR := hR
  obtain ⟨g0, b0, q0, hw⟩ := hR
  obtain ⟨hN0, hN1, hN2, hN3, hN4, hN5, hN6⟩ := hN
  have f1 : w (0) = some (.inr (7, [.ref (loc (1)), .ref (loc (2)), .ref (loc (3)), .ref (loc (4)), .ref (loc (5)), .ref (loc (6)), .ref (loc (7)), .int (nI (σ.2 0)), .int (nI (σ.2 1)), .int (nI (σ.2 2)), .int (nI (σ.2 3)), .int (nI (σ.2 4)), .int (nI (σ.2 5)), .int (nI (σ.2 6)), .int (σ.1 10 1), .int (σ.1 10 0), .ref (loc (8)), .ref (loc (11))])) := (hw 0 (by decide)).trans rfl
  have f2 : w (2) = some (eQ cy 3 8 (xq (fun k => loc (20 + k)) (σ.2 0))) := (hw 2 (by decide)).trans rfl
  have f3 : w (7) = some (eI cy 6 (σ.1 5)) := (hw 7 (by decide)).trans rfl
  have f4 : w (9) = some (eI cy 9 (g0)) := (hw 9 (by decide)).trans rfl
  have f5 : w (10) = some (eI cy 9 (b0)) := (hw 10 (by decide)).trans rfl
  have f6 : w (11) = some (eI cy 48 (q0)) := (hw 11 (by decide)).trans rfl
  refine lv_iconst (v := nI 0) hx hb dX7_listFitting_0 (by decide +kernel) ?_
  refine lv_istore_n (lv' := [(3, .int (nI (0))), (0, .ref (loc (0))), (1, .int (nI (load))), (2, .int (m0))]) hx hb dX7_listFitting_1 rfl hl (by decide) rfl (fun ls hl => ?_)
  refine lv_iconst (v := nI 0) hx hb dX7_listFitting_2 (by decide +kernel) ?_
  refine lv_istore (lv' := [(4, .int (nI (0))), (3, .int (nI (0))), (0, .ref (loc (0))), (1, .int (nI (load))), (2, .int (m0))]) hx hb dX7_listFitting_3 hl (by decide) rfl (fun ls hl => ?_)
  have lp5_7 : ∀ (fuel12 : Nat) (ct : Nat) (k : Nat) (g1 : Nat → Int32) (b1 : Nat → Int32) (v1 : Nat → Int32) (ls : Array Slot) (H8 : Heap) (L9 : List Loc), σ.2 0 - k < fuel12 → (k ≤ σ.2 0) → (ct ≤ 6 * k) → (xAg ct v1 (xl2 σ load m0 k)) → xV D (xA loc w s.heap.size) loc ((xup (xup (xup w (9) (eI cy 9 (g1))) (10) (eI cy 9 (b1))) (11) (eI cy 48 (v1)))) H8 → va_S (xA loc w s.heap.size) s.heap H8 L9 → lv_has ls 7 [(4, .int (nI (k))), (3, .int (nI (ct))), (0, .ref (loc (0))), (1, .int (nI (load))), (2, .int (m0))] → W p l e rm_X7_listFitting s m ([.ref (loc (0)), .int (nI (load)), .int (m0)] : List Value).toArray below meth c H8 L9 0 0 (MQ below (va_Qi (fun r u => ∃ (ct : Nat) (g b f : Nat → Int32), r = nI ct ∧ ct ≤ 48 ∧ xAg ct f (xl2 σ load m0 (σ.2 0)) ∧ u.1 = loc ∧ u.2 = xup (xup (xup w 9 (eI cy 9 g)) 10 (eI cy 9 b)) 11 (eI cy 48 f)) (xB D (xA loc w s.heap.size)) (xA loc w s.heap.size)) ([.ref (loc (0)), .int (nI (load)), .int (m0)] : List Value).toArray s 0 0 (xA loc w s.heap.size)) (F0 m 5 ls []) := by
    intro fuel12
    induction fuel12 with
    | zero => intro ct k g1 b1 v1 ls H8 L9 hm13; exact absurd hm13 (Nat.not_lt_zero _)
    | succ fuel12 ih14 =>
      intro ct k g1 b1 v1 ls H8 L9 hm13 h1 h2 h3 hV10 hS11 hl
      have f15 : (xup (xup (xup w (9) (eI cy 9 (g1))) (10) (eI cy 9 (b1))) (11) (eI cy 48 (v1))) (0) = some (.inr (7, [.ref (loc (1)), .ref (loc (2)), .ref (loc (3)), .ref (loc (4)), .ref (loc (5)), .ref (loc (6)), .ref (loc (7)), .int (nI (σ.2 0)), .int (nI (σ.2 1)), .int (nI (σ.2 2)), .int (nI (σ.2 3)), .int (nI (σ.2 4)), .int (nI (σ.2 5)), .int (nI (σ.2 6)), .int (σ.1 10 1), .int (σ.1 10 0), .ref (loc (8)), .ref (loc (11))])) := xup_o (xup_o (xup_o (f1) (by omega)) (by omega)) (by omega)
      have f16 : (xup (xup (xup w (9) (eI cy 9 (g1))) (10) (eI cy 9 (b1))) (11) (eI cy 48 (v1))) (7) = some (eI cy 6 (σ.1 5)) := xup_o (xup_o (xup_o (f3) (by omega)) (by omega)) (by omega)
      have f17 : (xup (xup (xup w (9) (eI cy 9 (g1))) (10) (eI cy 9 (b1))) (11) (eI cy 48 (v1))) (9) = some (eI cy 9 (g1)) := xup_o (xup_o (xup_at _ _ _) (by omega)) (by omega)
      have f18 : (xup (xup (xup w (9) (eI cy 9 (g1))) (10) (eI cy 9 (b1))) (11) (eI cy 48 (v1))) (10) = some (eI cy 9 (b1)) := xup_o (xup_at _ _ _) (by omega)
      have f19 : (xup (xup (xup w (9) (eI cy 9 (g1))) (10) (eI cy 9 (b1))) (11) (eI cy 48 (v1))) (11) = some (eI cy 48 (v1)) := xup_at _ _ _
      have f20 : (xup (xup (xup w (9) (eI cy 9 (g1))) (10) (eI cy 9 (b1))) (11) (eI cy 48 (v1))) (2) = some (eQ cy 3 8 (xq (fun k => loc (20 + k)) (σ.2 0))) := xup_o (xup_o (xup_o (f2) (by omega)) (by omega)) (by omega)
      refine lv_iload hx hb dX7_listFitting_5 (lv_at hl 0 rfl) ?_
      refine lv_aload_n hx hb dX7_listFitting_7 rfl (lv_at hl 2 rfl) ?_
      refine x_get (C := RX7) (T := TX7) (N := 18) hx hb hts hi_X7_listFitting_X7 hown hK hV10 f15 rfl 7 (by decide) (hts (.fieldLink RX7 46 "SaddleHouse" "horseCount" "I") (List.mem_of_getElem? (i := 1) rfl)) (fun _ h9 => h9) rfl dX7_listFitting_8 ?_
      refine x_cge hx hb (k) (σ.2 0) (by omega) (by omega) (tgt := 79) dX7_listFitting_11 (by decide) (fun c21 => ?_) (fun c21 => ?_)
      · have _u := trivial
        refine lv_iload_n hx hb dX7_listFitting_79 rfl (lv_at hl 1 rfl) ?_
        exact x_rmi hx hb hr hlocks dX7_listFitting_80 hV10 hS11 (⟨ct, g1, b1, v1, rfl, by omega, by rw [← show k = σ.2 0 by omega]; exact h3, rfl, rfl⟩)
      · have _u := trivial
        refine lv_iconst (v := nI 0) hx hb dX7_listFitting_14 (by decide +kernel) ?_
        refine lv_istore (lv' := [(5, .int (nI (0))), (4, .int (nI (k))), (3, .int (nI (ct))), (0, .ref (loc (0))), (1, .int (nI (load))), (2, .int (m0))]) hx hb dX7_listFitting_15 hl (by decide) rfl (fun ls hl => ?_)
        have lp17_22 : ∀ (fuel27 : Nat) (c2 : Nat) (d : Nat) (g2 : Nat → Int32) (b2 : Nat → Int32) (v2 : Nat → Int32) (ls : Array Slot) (H23 : Heap) (L24 : List Loc), σ.2 5 - d < fuel27 → (d ≤ σ.2 5) → (c2 ≤ 6 * k + d) → (xAg c2 v2 (xl1 σ load m0 k d (xl2 σ load m0 k))) → xV D (xA loc w s.heap.size) loc ((xup (xup (xup w (9) (eI cy 9 (g2))) (10) (eI cy 9 (b2))) (11) (eI cy 48 (v2)))) H23 → va_S (xA loc w s.heap.size) s.heap H23 L24 → lv_has ls 7 [(5, .int (nI (d))), (4, .int (nI (k))), (3, .int (nI (c2))), (0, .ref (loc (0))), (1, .int (nI (load))), (2, .int (m0))] → W p l e rm_X7_listFitting s m ([.ref (loc (0)), .int (nI (load)), .int (m0)] : List Value).toArray below meth c H23 L24 0 0 (MQ below (va_Qi (fun r u => ∃ (ct : Nat) (g b f : Nat → Int32), r = nI ct ∧ ct ≤ 48 ∧ xAg ct f (xl2 σ load m0 (σ.2 0)) ∧ u.1 = loc ∧ u.2 = xup (xup (xup w 9 (eI cy 9 g)) 10 (eI cy 9 b)) 11 (eI cy 48 f)) (xB D (xA loc w s.heap.size)) (xA loc w s.heap.size)) ([.ref (loc (0)), .int (nI (load)), .int (m0)] : List Value).toArray s 0 0 (xA loc w s.heap.size)) (F0 m 17 ls []) := by
          intro fuel27
          induction fuel27 with
          | zero => intro c2 d g2 b2 v2 ls H23 L24 hm28; exact absurd hm28 (Nat.not_lt_zero _)
          | succ fuel27 ih29 =>
            intro c2 d g2 b2 v2 ls H23 L24 hm28 h4 h5 h6 hV25 hS26 hl
            have f30 : (xup (xup (xup w (9) (eI cy 9 (g2))) (10) (eI cy 9 (b2))) (11) (eI cy 48 (v2))) (0) = some (.inr (7, [.ref (loc (1)), .ref (loc (2)), .ref (loc (3)), .ref (loc (4)), .ref (loc (5)), .ref (loc (6)), .ref (loc (7)), .int (nI (σ.2 0)), .int (nI (σ.2 1)), .int (nI (σ.2 2)), .int (nI (σ.2 3)), .int (nI (σ.2 4)), .int (nI (σ.2 5)), .int (nI (σ.2 6)), .int (σ.1 10 1), .int (σ.1 10 0), .ref (loc (8)), .ref (loc (11))])) := xup_o (xup_o (xup_o (f1) (by omega)) (by omega)) (by omega)
            have f31 : (xup (xup (xup w (9) (eI cy 9 (g2))) (10) (eI cy 9 (b2))) (11) (eI cy 48 (v2))) (7) = some (eI cy 6 (σ.1 5)) := xup_o (xup_o (xup_o (f3) (by omega)) (by omega)) (by omega)
            have f32 : (xup (xup (xup w (9) (eI cy 9 (g2))) (10) (eI cy 9 (b2))) (11) (eI cy 48 (v2))) (9) = some (eI cy 9 (g2)) := xup_o (xup_o (xup_at _ _ _) (by omega)) (by omega)
            have f33 : (xup (xup (xup w (9) (eI cy 9 (g2))) (10) (eI cy 9 (b2))) (11) (eI cy 48 (v2))) (10) = some (eI cy 9 (b2)) := xup_o (xup_at _ _ _) (by omega)
            have f34 : (xup (xup (xup w (9) (eI cy 9 (g2))) (10) (eI cy 9 (b2))) (11) (eI cy 48 (v2))) (11) = some (eI cy 48 (v2)) := xup_at _ _ _
            have f35 : (xup (xup (xup w (9) (eI cy 9 (g2))) (10) (eI cy 9 (b2))) (11) (eI cy 48 (v2))) (2) = some (eQ cy 3 8 (xq (fun k => loc (20 + k)) (σ.2 0))) := xup_o (xup_o (xup_o (f2) (by omega)) (by omega)) (by omega)
            refine lv_iload hx hb dX7_listFitting_17 (lv_at hl 0 rfl) ?_
            refine lv_aload_n hx hb dX7_listFitting_19 rfl (lv_at hl 3 rfl) ?_
            refine x_get (C := RX7) (T := TX7) (N := 18) hx hb hts hi_X7_listFitting_X7 hown hK hV25 f30 rfl 12 (by decide) (hts (.fieldLink RX7 62 "SaddleHouse" "dayCount" "I") (List.mem_of_getElem? (i := 2) rfl)) (fun _ h9 => h9) rfl dX7_listFitting_20 ?_
            refine x_cge hx hb (d) (σ.2 5) (by omega) (by omega) (tgt := 73) dX7_listFitting_23 (by decide) (fun c36 => ?_) (fun c36 => ?_)
            · have _u := trivial
              refine lv_iinc (v := nI (k + 1)) (lv' := [(4, .int (nI (k + 1))), (5, .int (nI (d))), (3, .int (nI (c2))), (0, .ref (loc (0))), (1, .int (nI (load))), (2, .int (m0))]) hx hb dX7_listFitting_73 hl (k := 1) rfl (nI_add _ _) (by decide) rfl (fun ls hl => ?_)
              refine lv_goto (tgt := 5) hx hb dX7_listFitting_76 (by decide) ?_
              exact ih14 c2 (k + 1) g2 b2 v2 ls _ _ (by omega) (by omega) (by omega) (by rw [xl2, ← show d = σ.2 5 by omega]; exact h6) hV25 hS26 (lv_sub hl [0, 2, 3, 4, 5] rfl)
            · have _u := trivial
              refine lv_aload_n hx hb dX7_listFitting_26 rfl (lv_at hl 3 rfl) ?_
              refine x_get (C := RX7) (T := TX7) (N := 18) hx hb hts hi_X7_listFitting_X7 hown hK hV25 f30 rfl 1 (by decide) (hts (.fieldLink RX7 15 "SaddleHouse" "horses" "[LSaddleHouse$Horse;") (List.mem_of_getElem? (i := 3) rfl)) (fun _ h9 => h9) rfl dX7_listFitting_27 ?_
              refine lv_iload hx hb dX7_listFitting_30 (lv_at hl 1 rfl) ?_
              refine x_aald hx hb hK hV25 f35 rfl (k) (by omega) (by decide) dX7_listFitting_32 ?_
              refine x_topr (xq_at (by omega)) ?_
              have f37 : (xup (xup (xup w (9) (eI cy 9 (g2))) (10) (eI cy 9 (b2))) (11) (eI cy 48 (v2))) (20 + k) = some (.inr (2, [.ref (loc (30 + k)), .int (nI (σ.2 (10 + k)))])) := xup_o (xup_o (xup_o (((hw (20 + k) (by omega)).trans (xC_20 (by omega) (by omega)))) (by omega)) (by omega)) (by omega)
              have f38 : (xup (xup (xup w (9) (eI cy 9 (g2))) (10) (eI cy 9 (b2))) (11) (eI cy 48 (v2))) (30 + k) = some (eQ cy 4 6 (xq (fun j => loc (40 + 6 * k + j)) (σ.2 (10 + k)))) := xup_o (xup_o (xup_o (((hw (30 + k) (by omega)).trans (xC_30 (by omega) (by omega)))) (by omega)) (by omega)) (by omega)
              refine lv_aload_n hx hb dX7_listFitting_33 rfl (lv_at hl 3 rfl) ?_
              refine x_get (C := RX7) (T := TX7) (N := 18) hx hb hts hi_X7_listFitting_X7 hown hK hV25 f30 rfl 6 (by decide) (hts (.fieldLink RX7 43 "SaddleHouse" "days" "[I") (List.mem_of_getElem? (i := 4) rfl)) (fun _ h9 => h9) rfl dX7_listFitting_34 ?_
              refine lv_iload hx hb dX7_listFitting_37 (lv_at hl 0 rfl) ?_
              refine x_iald hx hb hK hV25 f31 (d) (by omega) (by decide) dX7_listFitting_39 ?_
              refine x_cq (va_runVN (host := RX7) (As := [.int ((σ.1 5) d)]) (rest := []) ⟨hx, hb, hml, hown, hts⟩ (c_X2_backOn l D cy loc (xup (xup (xup w (9) (eI cy 9 (g2))) (10) (eI cy 9 (b2))) (11) (eI cy 48 (v2))) H23.size (20 + k) (30 + k) (40 + 6 * k) (100 + 6 * k) (σ.2 (10 + k)) (fun j => σ.1 1 (6 * k + j)) (xq (fun j => loc (40 + 6 * k + j)) (σ.2 (10 + k))) (hN6 k) (fun j h_j => xq_at h_j) (fun j h_j => by have h6 := hN6 k; exact xup_o (xup_o (xup_o ((hw (40 + 6 * k + j) (by omega)).trans (xC_40 (by omega) (by omega) h_j (by have := hN6 k; omega))) (by omega)) (by omega)) (by omega)) (σ.1 5 d) f37 f38) ⟨va_cnB 1 hts gX7_listFitting_X2_backOn_n115 rfl rfl rfl (hK.2.1 (.methodLinkNest RX7 115 yX2_backOn RX7) (by decide +kernel)) (hts (.initialized RX2) (List.mem_of_getElem? (i := 7) rfl)) (by decide +kernel) ⟨Nat.le_of_ble_eq_true rfl, Nat.le_of_ble_eq_true rfl⟩, hts (.instanceMethod yX2_backOn) (List.mem_of_getElem? (i := 6) rfl), hts (.selects RX2 yX2_backOn yX2_backOn) (List.mem_of_getElem? (i := 8) rfl)⟩ (x_preV hK hV25 f37 rfl) rfl rfl hl.1 rfl (lv_room (Nat.le_of_ble_eq_true rfl)) dX7_listFitting_40 ⟨Nat.le_of_ble_eq_true rfl, Nat.le_of_ble_eq_true rfl⟩) (fun r39 hr40 => ?_)
              rcases xlo_or (fun j => loc (40 + 6 * k + j)) (fun j => σ.1 1 (6 * k + j)) (σ.1 5 d) (σ.2 (10 + k)) with ⟨j, h_j, p_j, eq41⟩ | ⟨p_j, eq41⟩
              · refine x_topr (Eq.trans (show _ = _ from hr40) eq41) ?_
                have h6_j := hN6 k
                have f42 : (xup (xup (xup w (9) (eI cy 9 (g2))) (10) (eI cy 9 (b2))) (11) (eI cy 48 (v2))) (40 + 6 * k + j) = some (.inr (3, [.int (σ.1 1 (6 * k + j)), .ref (loc (100 + 6 * k + j))])) := xup_o (xup_o (xup_o (((hw (40 + 6 * k + j) (by omega)).trans (xC_40 (by omega) (by omega) (by omega) (by omega)))) (by omega)) (by omega)) (by omega)
                have f43 : (xup (xup (xup w (9) (eI cy 9 (g2))) (10) (eI cy 9 (b2))) (11) (eI cy 48 (v2))) (100 + 6 * k + j) = some (eI cy 9 (xsl 9 (σ.1 2) (9 * (6 * k + j)))) := xup_o (xup_o (xup_o (((hw (100 + 6 * k + j) (by omega)).trans (xC_100 (by omega) (by omega) (by omega) (by omega)))) (by omega)) (by omega)) (by omega)
                have q_j : xbd σ k (σ.1 5 d) = j + 1 := p_j
                refine lv_astore (lv' := [(6, .ref (loc (40 + 6 * k + j))), (5, .int (nI (d))), (4, .int (nI (k))), (3, .int (nI (c2))), (0, .ref (loc (0))), (1, .int (nI (load))), (2, .int (m0))]) hx hb dX7_listFitting_43 hl (by decide) rfl (fun ls hl => ?_)
                refine lv_aload hx hb dX7_listFitting_45 (lv_at hl 0 rfl) ?_
                refine lv_ifnull hx hb dX7_listFitting_47 ?_
                refine lv_aload_n hx hb dX7_listFitting_50 rfl (lv_at hl 4 rfl) ?_
                refine x_get (C := RX7) (T := TX7) (N := 18) hx hb hts hi_X7_listFitting_X7 hown hK hV25 f30 rfl 17 (by decide) (hts (.fieldLink RX7 81 "SaddleHouse" "fitting" "[I") (List.mem_of_getElem? (i := 5) rfl)) (fun _ h9 => h9) rfl dX7_listFitting_51 ?_
                refine lv_iload_n hx hb dX7_listFitting_54 rfl (lv_at hl 3 rfl) ?_
                refine lv_aload_n hx hb dX7_listFitting_55 rfl (lv_at hl 4 rfl) ?_
                refine lv_aload hx hb dX7_listFitting_56 (lv_at hl 0 rfl) ?_
                refine lv_iload_n hx hb dX7_listFitting_58 rfl (lv_at hl 5 rfl) ?_
                refine lv_iload_n hx hb dX7_listFitting_59 rfl (lv_at hl 6 rfl) ?_
                refine x_mi (va_runV (As := [.ref (loc (40 + 6 * k + j)), .int (nI (load)), .int (m0)]) (rest := [.int (nI (c2)), .ref (loc (11))]) ⟨hx, hb, hml, hown, hts⟩ (c_X7_fittingBits l D cy loc (xup (xup (xup w (9) (eI cy 9 (g2))) (10) (eI cy 9 (b2))) (11) (eI cy 48 (v2))) H23.size σ hNN (xR_11 (xR_10 (xR_9 hRR))) hB k j load (by omega) h_j hl1 hl2 m0) (cwV 3 hts gX7_listFitting_X7_fittingBits rfl rfl rfl (by decide +kernel) ⟨Nat.le_of_ble_eq_true rfl, Nat.le_of_ble_eq_true rfl⟩) (x_preV hK hV25 f30 rfl) rfl rfl hl.1 rfl (lv_room (Nat.le_of_ble_eq_true rfl)) dX7_listFitting_60 ⟨Nat.le_of_ble_eq_true rfl, Nat.le_of_ble_eq_true rfl⟩) hV25 hS26 hA (fun r44 loc51 w50 H46 L47 hr45 hV48 hS49 => ?_)
                obtain ⟨e52, e53, g3, b3, e54⟩ := hr45
                have e52 : xfb σ (6 * k + j) load m0 (σ.2 1) = r44 := Eq.symm e52
                subst e52
                have e53 : loc = loc51 := Eq.symm e53
                subst e53
                have e54 := Eq.symm e54
                subst e54
                have hV55 : xV D (xA loc w s.heap.size) loc (xup (xup (xup w (9) (eI cy 9 (g3))) (10) (eI cy 9 (b3))) (11) (eI cy 48 (v2))) H46 := hV48.eq (x_three (by decide) (by decide) (by decide))
                have f56 : (xup (xup (xup w (9) (eI cy 9 (g3))) (10) (eI cy 9 (b3))) (11) (eI cy 48 (v2))) (0) = some (.inr (7, [.ref (loc (1)), .ref (loc (2)), .ref (loc (3)), .ref (loc (4)), .ref (loc (5)), .ref (loc (6)), .ref (loc (7)), .int (nI (σ.2 0)), .int (nI (σ.2 1)), .int (nI (σ.2 2)), .int (nI (σ.2 3)), .int (nI (σ.2 4)), .int (nI (σ.2 5)), .int (nI (σ.2 6)), .int (σ.1 10 1), .int (σ.1 10 0), .ref (loc (8)), .ref (loc (11))])) := xup_o (xup_o (xup_o (f1) (by omega)) (by omega)) (by omega)
                have f57 : (xup (xup (xup w (9) (eI cy 9 (g3))) (10) (eI cy 9 (b3))) (11) (eI cy 48 (v2))) (20 + k) = some (.inr (2, [.ref (loc (30 + k)), .int (nI (σ.2 (10 + k)))])) := xup_o (xup_o (xup_o (((hw (20 + k) (by omega)).trans (xC_20 (by omega) (by omega)))) (by omega)) (by omega)) (by omega)
                have f58 : (xup (xup (xup w (9) (eI cy 9 (g3))) (10) (eI cy 9 (b3))) (11) (eI cy 48 (v2))) (40 + 6 * k + j) = some (.inr (3, [.int (σ.1 1 (6 * k + j)), .ref (loc (100 + 6 * k + j))])) := xup_o (xup_o (xup_o (((hw (40 + 6 * k + j) (by omega)).trans (xC_40 (by omega) (by omega) (by omega) (by omega)))) (by omega)) (by omega)) (by omega)
                have f59 : (xup (xup (xup w (9) (eI cy 9 (g3))) (10) (eI cy 9 (b3))) (11) (eI cy 48 (v2))) (7) = some (eI cy 6 (σ.1 5)) := xup_o (xup_o (xup_o (f3) (by omega)) (by omega)) (by omega)
                have f60 : (xup (xup (xup w (9) (eI cy 9 (g3))) (10) (eI cy 9 (b3))) (11) (eI cy 48 (v2))) (9) = some (eI cy 9 (g3)) := xup_o (xup_o (xup_at _ _ _) (by omega)) (by omega)
                have f61 : (xup (xup (xup w (9) (eI cy 9 (g3))) (10) (eI cy 9 (b3))) (11) (eI cy 48 (v2))) (10) = some (eI cy 9 (b3)) := xup_o (xup_at _ _ _) (by omega)
                have f62 : (xup (xup (xup w (9) (eI cy 9 (g3))) (10) (eI cy 9 (b3))) (11) (eI cy 48 (v2))) (11) = some (eI cy 48 (v2)) := xup_at _ _ _
                have f63 : (xup (xup (xup w (9) (eI cy 9 (g3))) (10) (eI cy 9 (b3))) (11) (eI cy 48 (v2))) (100 + 6 * k + j) = some (eI cy 9 (xsl 9 (σ.1 2) (9 * (6 * k + j)))) := xup_o (xup_o (xup_o (((hw (100 + 6 * k + j) (by omega)).trans (xC_100 (by omega) (by omega) (by omega) (by omega)))) (by omega)) (by omega)) (by omega)
                have f64 : (xup (xup (xup w (9) (eI cy 9 (g3))) (10) (eI cy 9 (b3))) (11) (eI cy 48 (v2))) (2) = some (eQ cy 3 8 (xq (fun k => loc (20 + k)) (σ.2 0))) := xup_o (xup_o (xup_o (f2) (by omega)) (by omega)) (by omega)
                have f65 : (xup (xup (xup w (9) (eI cy 9 (g3))) (10) (eI cy 9 (b3))) (11) (eI cy 48 (v2))) (30 + k) = some (eQ cy 4 6 (xq (fun j => loc (40 + 6 * k + j)) (σ.2 (10 + k)))) := xup_o (xup_o (xup_o (((hw (30 + k) (by omega)).trans (xC_30 (by omega) (by omega)))) (by omega)) (by omega)) (by omega)
                refine x_iast hx hb hK hV55 hS49 f62 (c2) (by omega) (by decide) dX7_listFitting_63 (fun H66 L67 hV68 hS69 => ?_)
                have hV70 := hV68.eq (xup_xup _ _ _ _)
                have f71 : (xup (xup (xup w (9) (eI cy 9 (g3))) (10) (eI cy 9 (b3))) (11) (eI cy 48 (upd v2 c2 (xfb σ (6 * k + j) load m0 (σ.2 1))))) (0) = some (.inr (7, [.ref (loc (1)), .ref (loc (2)), .ref (loc (3)), .ref (loc (4)), .ref (loc (5)), .ref (loc (6)), .ref (loc (7)), .int (nI (σ.2 0)), .int (nI (σ.2 1)), .int (nI (σ.2 2)), .int (nI (σ.2 3)), .int (nI (σ.2 4)), .int (nI (σ.2 5)), .int (nI (σ.2 6)), .int (σ.1 10 1), .int (σ.1 10 0), .ref (loc (8)), .ref (loc (11))])) := xup_o (xup_o (xup_o (f1) (by omega)) (by omega)) (by omega)
                have f72 : (xup (xup (xup w (9) (eI cy 9 (g3))) (10) (eI cy 9 (b3))) (11) (eI cy 48 (upd v2 c2 (xfb σ (6 * k + j) load m0 (σ.2 1))))) (20 + k) = some (.inr (2, [.ref (loc (30 + k)), .int (nI (σ.2 (10 + k)))])) := xup_o (xup_o (xup_o (((hw (20 + k) (by omega)).trans (xC_20 (by omega) (by omega)))) (by omega)) (by omega)) (by omega)
                have f73 : (xup (xup (xup w (9) (eI cy 9 (g3))) (10) (eI cy 9 (b3))) (11) (eI cy 48 (upd v2 c2 (xfb σ (6 * k + j) load m0 (σ.2 1))))) (40 + 6 * k + j) = some (.inr (3, [.int (σ.1 1 (6 * k + j)), .ref (loc (100 + 6 * k + j))])) := xup_o (xup_o (xup_o (((hw (40 + 6 * k + j) (by omega)).trans (xC_40 (by omega) (by omega) (by omega) (by omega)))) (by omega)) (by omega)) (by omega)
                have f74 : (xup (xup (xup w (9) (eI cy 9 (g3))) (10) (eI cy 9 (b3))) (11) (eI cy 48 (upd v2 c2 (xfb σ (6 * k + j) load m0 (σ.2 1))))) (7) = some (eI cy 6 (σ.1 5)) := xup_o (xup_o (xup_o (f3) (by omega)) (by omega)) (by omega)
                have f75 : (xup (xup (xup w (9) (eI cy 9 (g3))) (10) (eI cy 9 (b3))) (11) (eI cy 48 (upd v2 c2 (xfb σ (6 * k + j) load m0 (σ.2 1))))) (9) = some (eI cy 9 (g3)) := xup_o (xup_o (xup_at _ _ _) (by omega)) (by omega)
                have f76 : (xup (xup (xup w (9) (eI cy 9 (g3))) (10) (eI cy 9 (b3))) (11) (eI cy 48 (upd v2 c2 (xfb σ (6 * k + j) load m0 (σ.2 1))))) (10) = some (eI cy 9 (b3)) := xup_o (xup_at _ _ _) (by omega)
                have f77 : (xup (xup (xup w (9) (eI cy 9 (g3))) (10) (eI cy 9 (b3))) (11) (eI cy 48 (upd v2 c2 (xfb σ (6 * k + j) load m0 (σ.2 1))))) (11) = some (eI cy 48 (upd v2 c2 (xfb σ (6 * k + j) load m0 (σ.2 1)))) := xup_at _ _ _
                have f78 : (xup (xup (xup w (9) (eI cy 9 (g3))) (10) (eI cy 9 (b3))) (11) (eI cy 48 (upd v2 c2 (xfb σ (6 * k + j) load m0 (σ.2 1))))) (100 + 6 * k + j) = some (eI cy 9 (xsl 9 (σ.1 2) (9 * (6 * k + j)))) := xup_o (xup_o (xup_o (((hw (100 + 6 * k + j) (by omega)).trans (xC_100 (by omega) (by omega) (by omega) (by omega)))) (by omega)) (by omega)) (by omega)
                have f79 : (xup (xup (xup w (9) (eI cy 9 (g3))) (10) (eI cy 9 (b3))) (11) (eI cy 48 (upd v2 c2 (xfb σ (6 * k + j) load m0 (σ.2 1))))) (2) = some (eQ cy 3 8 (xq (fun k => loc (20 + k)) (σ.2 0))) := xup_o (xup_o (xup_o (f2) (by omega)) (by omega)) (by omega)
                have f80 : (xup (xup (xup w (9) (eI cy 9 (g3))) (10) (eI cy 9 (b3))) (11) (eI cy 48 (upd v2 c2 (xfb σ (6 * k + j) load m0 (σ.2 1))))) (30 + k) = some (eQ cy 4 6 (xq (fun j => loc (40 + 6 * k + j)) (σ.2 (10 + k)))) := xup_o (xup_o (xup_o (((hw (30 + k) (by omega)).trans (xC_30 (by omega) (by omega)))) (by omega)) (by omega)) (by omega)
                refine lv_iinc (v := nI (c2 + 1)) (lv' := [(3, .int (nI (c2 + 1))), (6, .ref (loc (40 + 6 * k + j))), (5, .int (nI (d))), (4, .int (nI (k))), (0, .ref (loc (0))), (1, .int (nI (load))), (2, .int (m0))]) hx hb dX7_listFitting_64 hl (k := 3) rfl (nI_add _ _) (by decide) rfl (fun ls hl => ?_)
                refine lv_iinc (v := nI (d + 1)) (lv' := [(5, .int (nI (d + 1))), (3, .int (nI (c2 + 1))), (6, .ref (loc (40 + 6 * k + j))), (4, .int (nI (k))), (0, .ref (loc (0))), (1, .int (nI (load))), (2, .int (m0))]) hx hb dX7_listFitting_67 hl (k := 2) rfl (nI_add _ _) (by decide) rfl (fun ls hl => ?_)
                refine lv_goto (tgt := 17) hx hb dX7_listFitting_70 (by decide) ?_
                exact ih29 (c2 + 1) (d + 1) g3 b3 (upd v2 c2 (xfb σ (6 * k + j) load m0 (σ.2 1))) ls _ _ (by omega) (by omega) (by omega) (xl1_y h6 q_j) hV70 hS69 (lv_sub hl [0, 3, 1, 4, 5, 6] rfl)
              · refine x_topn (Eq.trans (show _ = _ from hr40) eq41) ?_
                have q_j : xbd σ k (σ.1 5 d) = 0 := p_j
                refine lv_astoreN (lv' := [(6, .null), (5, .int (nI (d))), (4, .int (nI (k))), (3, .int (nI (c2))), (0, .ref (loc (0))), (1, .int (nI (load))), (2, .int (m0))]) hx hb dX7_listFitting_43 hl (by decide) rfl (fun ls hl => ?_)
                refine lv_aloadN hx hb dX7_listFitting_45 (lv_at hl 0 rfl) ?_
                refine lv_ifnullN (tgt := 67) hx hb dX7_listFitting_47 (by decide) ?_
                refine lv_iinc (v := nI (d + 1)) (lv' := [(5, .int (nI (d + 1))), (6, .null), (4, .int (nI (k))), (3, .int (nI (c2))), (0, .ref (loc (0))), (1, .int (nI (load))), (2, .int (m0))]) hx hb dX7_listFitting_67 hl (k := 1) rfl (nI_add _ _) (by decide) rfl (fun ls hl => ?_)
                refine lv_goto (tgt := 17) hx hb dX7_listFitting_70 (by decide) ?_
                exact ih29 c2 (d + 1) g2 b2 v2 ls _ _ (by omega) (by omega) (by omega) (xl1_n h6 q_j) hV25 hS26 (lv_sub hl [0, 2, 3, 4, 5, 6] rfl)
        exact lp17_22 ((σ.2 5) + 1) ct 0 g1 b1 v1 ls _ _ (by omega) (Nat.zero_le _) h2 h3 hV10 hS11 (lv_sub hl [0, 1, 2, 3, 4, 5] rfl)
  exact lp5_7 ((σ.2 0) + 1) 0 0 g0 b0 q0 ls _ _ (by omega) (Nat.zero_le _) (Nat.zero_le _) ⟨rfl, fun i h => absurd h (Nat.not_lt_zero i)⟩ (((hV.eq (xup_id f4).symm).eq (xup_id (xup_o f5 (by omega))).symm).eq (xup_id (xup_o (xup_o f6 (by omega)) (by omega))).symm) hS (lv_sub hl [0, 1, 2, 3, 4] rfl)
