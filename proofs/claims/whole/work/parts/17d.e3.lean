abbrev rm_X7_changeSince : Room := { frames := 1, cells := 0, slots := 0, locals := 23 }
theorem hi_X7_changeSince_X3 : ∀ w ∈ wsX30, w ∈ wsX7_changeSince := fun w h => List.mem_cons_of_mem _ (List.mem_append_left _ (List.mem_append_right _ h))
theorem hi_X7_changeSince_X4 : ∀ w ∈ wsX40, w ∈ wsX7_changeSince := fun w h => List.mem_cons_of_mem _ (List.mem_append_left _ (List.mem_append_left _ (List.mem_append_right _ h)))
theorem hi_X7_changeSince_X7 : ∀ w ∈ wsX70, w ∈ wsX7_changeSince := fun w h => List.mem_cons_of_mem _ (List.mem_append_left _ (List.mem_append_left _ (List.mem_append_left _ (List.mem_append_right _ h))))
set_option maxHeartbeats 4000000 in
set_option maxRecDepth 100000 in
theorem c_X7_changeSince (l : Launch) (D : va_G) (cy : Nat → ClassId) (loc : Nat → Nat) (w : xM) (sz : Nat) (σ : xS) (hN : xN8 σ) (hR : xR cy loc σ w) (ks kh : Nat) (hks : ks < σ.2 4) (hkh : kh < σ.2 0) (ekh : σ.1 9 (5 * ks + 1) = nI kh) (d : Int32)  : Met l yX7_changeSince wsX7_changeSince rm_X7_changeSince (va_Pc [.ref (loc (0)), .ref (loc (210 + ks)), .int (d)] (xP D cy loc w sz)) (vp_Si (fun r => r = xch σ kh (σ.1 9 (5 * ks + 2)) d)) 0 0 (fun _ => False) := by
  refine x_met (cc := cX7_changeSince) (maxL := 7) (ret := (some .int)) (C := RX7) (by decide) rfl rfl (Nat.le_of_ble_eq_true rfl) ?_
  intro p e s m below meth c ls hx hb hml hr hts hown hlocks hin hP hl
  obtain ⟨hsz, hV, hK⟩ := hP
  subst hsz
  have hl : lv_has ls 7 [(0, .ref (loc (0))), (1, .ref (loc (210 + ks))), (2, .int (d))] := hl
  have hNN := hN
  have hRR := hR
  obtain ⟨g0, b0, q0, hw⟩ := hR
  obtain ⟨hN0, hN1, hN2, hN3, hN4, hN5, hN6⟩ := hN
  have h_kh := hkh
  have f1 : w (0) = some (.inr (7, [.ref (loc (1)), .ref (loc (2)), .ref (loc (3)), .ref (loc (4)), .ref (loc (5)), .ref (loc (6)), .ref (loc (7)), .int (nI (σ.2 0)), .int (nI (σ.2 1)), .int (nI (σ.2 2)), .int (nI (σ.2 3)), .int (nI (σ.2 4)), .int (nI (σ.2 5)), .int (nI (σ.2 6)), .int (σ.1 10 1), .int (σ.1 10 0), .ref (loc (8)), .ref (loc (11))])) := (hw 0 (by decide)).trans rfl
  have f2 : w (2) = some (eQ cy 3 8 (xq (fun k => loc (20 + k)) (σ.2 0))) := (hw 2 (by decide)).trans rfl
  have f3 : w (210 + ks) = some (.inr (4, [.int (σ.1 9 (5 * ks)), .int (σ.1 9 (5 * ks + 1)), .int (σ.1 9 (5 * ks + 2)), .int (σ.1 9 (5 * ks + 3)), .int (σ.1 9 (5 * ks + 4))])) := (hw (210 + ks) (by omega)).trans (xC_210 (by omega) (by omega))
  refine lv_aload_n hx hb dX7_changeSince_0 rfl (lv_at hl 0 rfl) ?_
  refine x_get (C := RX7) (T := TX7) (N := 18) hx hb hts hi_X7_changeSince_X7 hown hK hV f1 rfl 1 (by decide) (hts (.fieldLink RX7 15 "SaddleHouse" "horses" "[LSaddleHouse$Horse;") (List.mem_of_getElem? (i := 1) rfl)) (fun _ h9 => h9) rfl dX7_changeSince_1 ?_
  refine lv_aload_n hx hb dX7_changeSince_4 rfl (lv_at hl 1 rfl) ?_
  refine x_getN (C := RX4) (T := TX4) (N := 5) (ref := "SaddleHouse$Saddle") (host := RX7) hx hb hts hi_X7_changeSince_X4 hown hK hV f3 rfl 1 (by decide) (by decide +kernel) (fun _ h9 => h9) rfl dX7_changeSince_5 ?_
  refine x_top (congrArg Value.int (show _ = nI kh from ekh)) ?_
  refine x_aald hx hb hK hV f2 rfl (kh) (by omega) (by decide) dX7_changeSince_8 ?_
  refine x_topr (xq_at hkh) ?_
  have f4 : w (20 + kh) = some (.inr (2, [.ref (loc (30 + kh)), .int (nI (σ.2 (10 + kh)))])) := ((hw (20 + kh) (by omega)).trans (xC_20 (by omega) (by omega)))
  have f5 : w (30 + kh) = some (eQ cy 4 6 (xq (fun j => loc (40 + 6 * kh + j)) (σ.2 (10 + kh)))) := ((hw (30 + kh) (by omega)).trans (xC_30 (by omega) (by omega)))
  refine lv_aload_n hx hb dX7_changeSince_9 rfl (lv_at hl 1 rfl) ?_
  refine x_getN (C := RX4) (T := TX4) (N := 5) (ref := "SaddleHouse$Saddle") (host := RX7) hx hb hts hi_X7_changeSince_X4 hown hK hV f3 rfl 2 (by decide) (by decide +kernel) (fun _ h9 => h9) rfl dX7_changeSince_10 ?_
  refine x_cq (va_runVN (host := RX7) (As := [.int (σ.1 9 (5 * ks + 2))]) (rest := []) ⟨hx, hb, hml, hown, hts⟩ (c_X2_backOn l D cy loc w s.heap.size (20 + kh) (30 + kh) (40 + 6 * kh) (100 + 6 * kh) (σ.2 (10 + kh)) (fun j => σ.1 1 (6 * kh + j)) (xq (fun j => loc (40 + 6 * kh + j)) (σ.2 (10 + kh))) (hN6 kh) (fun j h_j => xq_at h_j) (fun j h_j => by have h6 := hN6 kh; exact (hw (40 + 6 * kh + j) (by omega)).trans (xC_40 (by omega) (by omega) h_j (by have := hN6 kh; omega))) (σ.1 9 (5 * ks + 2)) f4 f5) ⟨va_cnB 1 hts gX7_changeSince_X2_backOn_n115 rfl rfl rfl (hK.2.1 (.methodLinkNest RX7 115 yX2_backOn RX7) (by decide +kernel)) (hts (.initialized RX2) (List.mem_of_getElem? (i := 10) rfl)) (by decide +kernel) ⟨Nat.le_of_ble_eq_true rfl, Nat.le_of_ble_eq_true rfl⟩, hts (.instanceMethod yX2_backOn) (List.mem_of_getElem? (i := 9) rfl), hts (.selects RX2 yX2_backOn yX2_backOn) (List.mem_of_getElem? (i := 11) rfl)⟩ (x_preV hK hV f4 rfl) rfl rfl hl.1 rfl (lv_room (Nat.le_of_ble_eq_true rfl)) dX7_changeSince_13 ⟨Nat.le_of_ble_eq_true rfl, Nat.le_of_ble_eq_true rfl⟩) (fun r6 hr7 => ?_)
  rcases xlo_or (fun j => loc (40 + 6 * kh + j)) (fun j => σ.1 1 (6 * kh + j)) (σ.1 9 (5 * ks + 2)) (σ.2 (10 + kh)) with ⟨j1, h_j1, p_j1, eq8⟩ | ⟨p_j1, eq8⟩
  · refine x_topr (Eq.trans (show _ = _ from hr7) eq8) ?_
    have h6_j1 := hN6 kh
    have f9 : w (40 + 6 * kh + j1) = some (.inr (3, [.int (σ.1 1 (6 * kh + j1)), .ref (loc (100 + 6 * kh + j1))])) := ((hw (40 + 6 * kh + j1) (by omega)).trans (xC_40 (by omega) (by omega) (by omega) (by omega)))
    have f10 : w (100 + 6 * kh + j1) = some (eI cy 9 (xsl 9 (σ.1 2) (9 * (6 * kh + j1)))) := ((hw (100 + 6 * kh + j1) (by omega)).trans (xC_100 (by omega) (by omega) (by omega) (by omega)))
    have q_j1 : xbd σ kh (σ.1 9 (5 * ks + 2)) = j1 + 1 := p_j1
    refine lv_astore_n (lv' := [(3, .ref (loc (40 + 6 * kh + j1))), (0, .ref (loc (0))), (1, .ref (loc (210 + ks))), (2, .int (d))]) hx hb dX7_changeSince_16 rfl hl (by decide) rfl (fun ls hl => ?_)
    refine lv_aload_n hx hb dX7_changeSince_17 rfl (lv_at hl 1 rfl) ?_
    refine x_get (C := RX7) (T := TX7) (N := 18) hx hb hts hi_X7_changeSince_X7 hown hK hV f1 rfl 1 (by decide) (hts (.fieldLink RX7 15 "SaddleHouse" "horses" "[LSaddleHouse$Horse;") (List.mem_of_getElem? (i := 1) rfl)) (fun _ h9 => h9) rfl dX7_changeSince_18 ?_
    refine lv_aload_n hx hb dX7_changeSince_21 rfl (lv_at hl 2 rfl) ?_
    refine x_getN (C := RX4) (T := TX4) (N := 5) (ref := "SaddleHouse$Saddle") (host := RX7) hx hb hts hi_X7_changeSince_X4 hown hK hV f3 rfl 1 (by decide) (by decide +kernel) (fun _ h9 => h9) rfl dX7_changeSince_22 ?_
    refine x_top (congrArg Value.int (show _ = nI kh from ekh)) ?_
    refine x_aald hx hb hK hV f2 rfl (kh) (by omega) (by decide) dX7_changeSince_25 ?_
    refine x_topr (xq_at hkh) ?_
    refine lv_iload_n hx hb dX7_changeSince_26 rfl (lv_at hl 3 rfl) ?_
    refine x_cq (va_runVN (host := RX7) (As := [.int (d)]) (rest := []) ⟨hx, hb, hml, hown, hts⟩ (c_X2_backOn l D cy loc w s.heap.size (20 + kh) (30 + kh) (40 + 6 * kh) (100 + 6 * kh) (σ.2 (10 + kh)) (fun j => σ.1 1 (6 * kh + j)) (xq (fun j => loc (40 + 6 * kh + j)) (σ.2 (10 + kh))) (hN6 kh) (fun j h_j => xq_at h_j) (fun j h_j => by have h6 := hN6 kh; exact (hw (40 + 6 * kh + j) (by omega)).trans (xC_40 (by omega) (by omega) h_j (by have := hN6 kh; omega))) d f4 f5) ⟨va_cnB 1 hts gX7_changeSince_X2_backOn_n115 rfl rfl rfl (hK.2.1 (.methodLinkNest RX7 115 yX2_backOn RX7) (by decide +kernel)) (hts (.initialized RX2) (List.mem_of_getElem? (i := 10) rfl)) (by decide +kernel) ⟨Nat.le_of_ble_eq_true rfl, Nat.le_of_ble_eq_true rfl⟩, hts (.instanceMethod yX2_backOn) (List.mem_of_getElem? (i := 9) rfl), hts (.selects RX2 yX2_backOn yX2_backOn) (List.mem_of_getElem? (i := 11) rfl)⟩ (x_preV hK hV f4 rfl) rfl rfl hl.1 rfl (lv_room (Nat.le_of_ble_eq_true rfl)) dX7_changeSince_27 ⟨Nat.le_of_ble_eq_true rfl, Nat.le_of_ble_eq_true rfl⟩) (fun r11 hr12 => ?_)
    rcases xlo_or (fun j => loc (40 + 6 * kh + j)) (fun j => σ.1 1 (6 * kh + j)) d (σ.2 (10 + kh)) with ⟨j2, h_j2, p_j2, eq13⟩ | ⟨p_j2, eq13⟩
    · refine x_topr (Eq.trans (show _ = _ from hr12) eq13) ?_
      have h6_j2 := hN6 kh
      have f14 : w (40 + 6 * kh + j2) = some (.inr (3, [.int (σ.1 1 (6 * kh + j2)), .ref (loc (100 + 6 * kh + j2))])) := ((hw (40 + 6 * kh + j2) (by omega)).trans (xC_40 (by omega) (by omega) (by omega) (by omega)))
      have f15 : w (100 + 6 * kh + j2) = some (eI cy 9 (xsl 9 (σ.1 2) (9 * (6 * kh + j2)))) := ((hw (100 + 6 * kh + j2) (by omega)).trans (xC_100 (by omega) (by omega) (by omega) (by omega)))
      have q_j2 : xbd σ kh d = j2 + 1 := p_j2
      refine lv_astore (lv' := [(4, .ref (loc (40 + 6 * kh + j2))), (3, .ref (loc (40 + 6 * kh + j1))), (0, .ref (loc (0))), (1, .ref (loc (210 + ks))), (2, .int (d))]) hx hb dX7_changeSince_30 hl (by decide) rfl (fun ls hl => ?_)
      refine lv_aload_n hx hb dX7_changeSince_32 rfl (lv_at hl 1 rfl) ?_
      refine lv_ifnull hx hb dX7_changeSince_33 ?_
      refine lv_aload hx hb dX7_changeSince_36 (lv_at hl 0 rfl) ?_
      refine lv_ifnonnull (tgt := 43) hx hb dX7_changeSince_38 (by decide) ?_
      refine lv_iconst (v := nI 0) hx hb dX7_changeSince_43 (by decide +kernel) ?_
      refine lv_istore (lv' := [(5, .int (nI (0))), (4, .ref (loc (40 + 6 * kh + j2))), (3, .ref (loc (40 + 6 * kh + j1))), (0, .ref (loc (0))), (1, .ref (loc (210 + ks))), (2, .int (d))]) hx hb dX7_changeSince_44 hl (by decide) rfl (fun ls hl => ?_)
      refine lv_iconst (v := nI 0) hx hb dX7_changeSince_46 (by decide +kernel) ?_
      refine lv_istore (lv' := [(6, .int (nI (0))), (5, .int (nI (0))), (4, .ref (loc (40 + 6 * kh + j2))), (3, .ref (loc (40 + 6 * kh + j1))), (0, .ref (loc (0))), (1, .ref (loc (210 + ks))), (2, .int (d))]) hx hb dX7_changeSince_47 hl (by decide) rfl (fun ls hl => ?_)
      have lp49_16 : ∀ (fuel17 : Nat) (mm : Int32) (i : Nat) (ls : Array Slot), 9 - i < fuel17 → (i ≤ 9) → (mm = xmd (fun i => σ.1 2 (9 * (6 * kh + j2) + i)) (fun i => σ.1 2 (9 * (6 * kh + j1) + i)) i) → lv_has ls 7 [(6, .int (nI (i))), (5, .int (mm)), (4, .ref (loc (40 + 6 * kh + j2))), (3, .ref (loc (40 + 6 * kh + j1))), (0, .ref (loc (0))), (1, .ref (loc (210 + ks))), (2, .int (d))] → W p l e rm_X7_changeSince s m ([.ref (loc (0)), .ref (loc (210 + ks)), .int (d)] : List Value).toArray below meth c s.heap [] 0 0 (MQ below (vp_Si (fun r => r = xch σ kh (σ.1 9 (5 * ks + 2)) d)) ([.ref (loc (0)), .ref (loc (210 + ks)), .int (d)] : List Value).toArray s 0 0 (fun _ => False)) (F0 m 49 ls []) := by
        intro fuel17
        induction fuel17 with
        | zero => intro mm i ls hm18; exact absurd hm18 (Nat.not_lt_zero _)
        | succ fuel17 ih19 =>
          intro mm i ls hm18 h1 h2  hl
          refine lv_iload hx hb dX7_changeSince_49 (lv_at hl 0 rfl) ?_
          refine lv_bipush (v := nI 9) hx hb dX7_changeSince_51 (by decide +kernel) ?_
          refine x_cge hx hb (i) (9) (by omega) (by omega) (tgt := 88) dX7_changeSince_53 (by decide) (fun c20 => ?_) (fun c20 => ?_)
          · have _u := trivial
            refine lv_iload hx hb dX7_changeSince_88 (lv_at hl 1 rfl) ?_
            exact x_ri hx hb hr hlocks dX7_changeSince_90 (by show _ = _; rw [h2, show i = 9 by omega]; simp only [xch, q_j1, q_j2, if_true, if_false, ite_true, ite_false, not_true_eq_false, not_false_eq_true, and_true, true_and, and_false, false_and, or_true, true_or, or_false, false_or, and_self, or_self, Nat.add_sub_cancel, Nat.add_eq_zero_iff, Nat.one_ne_zero])
          · have _u := trivial
            refine lv_iload hx hb dX7_changeSince_56 (lv_at hl 1 rfl) ?_
            refine lv_aload hx hb dX7_changeSince_58 (lv_at hl 2 rfl) ?_
            refine x_getN (C := RX3) (T := TX3) (N := 2) (ref := "SaddleHouse$Measure") (host := RX7) hx hb hts hi_X7_changeSince_X3 hown hK hV f14 rfl 1 (by decide) (by decide +kernel) (fun _ h9 => h9) rfl dX7_changeSince_60 ?_
            refine lv_iload hx hb dX7_changeSince_63 (lv_at hl 0 rfl) ?_
            refine x_iald hx hb hK hV f15 (i) (by omega) (by decide) dX7_changeSince_65 ?_
            refine lv_aload_n hx hb dX7_changeSince_66 rfl (lv_at hl 3 rfl) ?_
            refine x_getN (C := RX3) (T := TX3) (N := 2) (ref := "SaddleHouse$Measure") (host := RX7) hx hb hts hi_X7_changeSince_X3 hown hK hV f9 rfl 1 (by decide) (by decide +kernel) (fun _ h9 => h9) rfl dX7_changeSince_67 ?_
            refine lv_iload hx hb dX7_changeSince_70 (lv_at hl 0 rfl) ?_
            refine x_iald hx hb hK hV f10 (i) (by omega) (by decide) dX7_changeSince_72 ?_
            refine lv_isub hx hb dX7_changeSince_73 ?_
            refine va_mabs hx hb (by rw [hml]; exact hl.1.symm) hown (hts (.methodLink RX7 253 Lib.Math.abs.name) (List.mem_of_getElem? (i := 2) rfl)) (hts (.static Lib.Math.abs.name) (List.mem_of_getElem? (i := 3) rfl)) (hts (.initialized "java/lang/Math") (List.mem_of_getElem? (i := 4) rfl)) (hts (.code Lib.Math.abs.name Lib.Math.abs.code 1 (some .int)) (List.mem_of_getElem? (i := 5) rfl)) (Nat.le_of_ble_eq_true rfl) (Nat.le_of_ble_eq_true rfl) (Nat.zero_le _) (Nat.zero_le _) dX7_changeSince_74 ?_
            refine va_mmax hx hb (by rw [hml]; exact hl.1.symm) hown (hts (.methodLink RX7 258 Lib.Math.max.name) (List.mem_of_getElem? (i := 6) rfl)) (hts (.static Lib.Math.max.name) (List.mem_of_getElem? (i := 7) rfl)) (hts (.initialized "java/lang/Math") (List.mem_of_getElem? (i := 4) rfl)) (hts (.code Lib.Math.max.name Lib.Math.max.code 2 (some .int)) (List.mem_of_getElem? (i := 8) rfl)) (Nat.le_of_ble_eq_true rfl) (Nat.le_of_ble_eq_true rfl) (Nat.zero_le _) (Nat.zero_le _) dX7_changeSince_77 ?_
            refine lv_istore (lv' := [(5, .int ((if mm < (if 0 ≤ (((xsl 9 (σ.1 2) (9 * (6 * kh + j2))) i) - ((xsl 9 (σ.1 2) (9 * (6 * kh + j1))) i)) then (((xsl 9 (σ.1 2) (9 * (6 * kh + j2))) i) - ((xsl 9 (σ.1 2) (9 * (6 * kh + j1))) i)) else 0 - (((xsl 9 (σ.1 2) (9 * (6 * kh + j2))) i) - ((xsl 9 (σ.1 2) (9 * (6 * kh + j1))) i))) then (if 0 ≤ (((xsl 9 (σ.1 2) (9 * (6 * kh + j2))) i) - ((xsl 9 (σ.1 2) (9 * (6 * kh + j1))) i)) then (((xsl 9 (σ.1 2) (9 * (6 * kh + j2))) i) - ((xsl 9 (σ.1 2) (9 * (6 * kh + j1))) i)) else 0 - (((xsl 9 (σ.1 2) (9 * (6 * kh + j2))) i) - ((xsl 9 (σ.1 2) (9 * (6 * kh + j1))) i))) else mm))), (6, .int (nI (i))), (4, .ref (loc (40 + 6 * kh + j2))), (3, .ref (loc (40 + 6 * kh + j1))), (0, .ref (loc (0))), (1, .ref (loc (210 + ks))), (2, .int (d))]) hx hb dX7_changeSince_80 hl (by decide) rfl (fun ls hl => ?_)
            refine lv_iinc (v := nI (i + 1)) (lv' := [(6, .int (nI (i + 1))), (5, .int ((if mm < (if 0 ≤ (((xsl 9 (σ.1 2) (9 * (6 * kh + j2))) i) - ((xsl 9 (σ.1 2) (9 * (6 * kh + j1))) i)) then (((xsl 9 (σ.1 2) (9 * (6 * kh + j2))) i) - ((xsl 9 (σ.1 2) (9 * (6 * kh + j1))) i)) else 0 - (((xsl 9 (σ.1 2) (9 * (6 * kh + j2))) i) - ((xsl 9 (σ.1 2) (9 * (6 * kh + j1))) i))) then (if 0 ≤ (((xsl 9 (σ.1 2) (9 * (6 * kh + j2))) i) - ((xsl 9 (σ.1 2) (9 * (6 * kh + j1))) i)) then (((xsl 9 (σ.1 2) (9 * (6 * kh + j2))) i) - ((xsl 9 (σ.1 2) (9 * (6 * kh + j1))) i)) else 0 - (((xsl 9 (σ.1 2) (9 * (6 * kh + j2))) i) - ((xsl 9 (σ.1 2) (9 * (6 * kh + j1))) i))) else mm))), (4, .ref (loc (40 + 6 * kh + j2))), (3, .ref (loc (40 + 6 * kh + j1))), (0, .ref (loc (0))), (1, .ref (loc (210 + ks))), (2, .int (d))]) hx hb dX7_changeSince_82 hl (k := 1) rfl (nI_add _ _) (by decide) rfl (fun ls hl => ?_)
            refine lv_goto (tgt := 49) hx hb dX7_changeSince_85 (by decide) ?_
            exact ih19 (if mm < (if 0 ≤ (((xsl 9 (σ.1 2) (9 * (6 * kh + j2))) i) - ((xsl 9 (σ.1 2) (9 * (6 * kh + j1))) i)) then (((xsl 9 (σ.1 2) (9 * (6 * kh + j2))) i) - ((xsl 9 (σ.1 2) (9 * (6 * kh + j1))) i)) else 0 - (((xsl 9 (σ.1 2) (9 * (6 * kh + j2))) i) - ((xsl 9 (σ.1 2) (9 * (6 * kh + j1))) i))) then (if 0 ≤ (((xsl 9 (σ.1 2) (9 * (6 * kh + j2))) i) - ((xsl 9 (σ.1 2) (9 * (6 * kh + j1))) i)) then (((xsl 9 (σ.1 2) (9 * (6 * kh + j2))) i) - ((xsl 9 (σ.1 2) (9 * (6 * kh + j1))) i)) else 0 - (((xsl 9 (σ.1 2) (9 * (6 * kh + j2))) i) - ((xsl 9 (σ.1 2) (9 * (6 * kh + j1))) i))) else mm) (i + 1) ls (by omega) (by omega) (by simp only [xsl_at (show i < 9 by omega)]; rw [xmd, ← h2]; rfl) (lv_sub hl [0, 1, 2, 3, 4, 5, 6] rfl)
      exact lp49_16 (9 + 1) (nI 0) 0 ls (by omega) (Nat.zero_le _) rfl (lv_sub hl [0, 1, 2, 3, 4, 5, 6] rfl)
    · refine x_topn (Eq.trans (show _ = _ from hr12) eq13) ?_
      have q_j2 : xbd σ kh d = 0 := p_j2
      refine lv_astoreN (lv' := [(4, .null), (3, .ref (loc (40 + 6 * kh + j1))), (0, .ref (loc (0))), (1, .ref (loc (210 + ks))), (2, .int (d))]) hx hb dX7_changeSince_30 hl (by decide) rfl (fun ls hl => ?_)
      refine lv_aload_n hx hb dX7_changeSince_32 rfl (lv_at hl 1 rfl) ?_
      refine lv_ifnull hx hb dX7_changeSince_33 ?_
      refine lv_aloadN hx hb dX7_changeSince_36 (lv_at hl 0 rfl) ?_
      refine lv_ifnonnullN hx hb dX7_changeSince_38 ?_
      refine lv_iconst (v := nI 0) hx hb dX7_changeSince_41 (by decide +kernel) ?_
      exact x_ri hx hb hr hlocks dX7_changeSince_42 (by show _ = _; simp only [xch, q_j1, q_j2, if_true, if_false, ite_true, ite_false, not_true_eq_false, not_false_eq_true, and_true, true_and, and_false, false_and, or_true, true_or, or_false, false_or, and_self, or_self])
  · refine x_topn (Eq.trans (show _ = _ from hr7) eq8) ?_
    have q_j1 : xbd σ kh (σ.1 9 (5 * ks + 2)) = 0 := p_j1
    refine lv_astore_nN (lv' := [(3, .null), (0, .ref (loc (0))), (1, .ref (loc (210 + ks))), (2, .int (d))]) hx hb dX7_changeSince_16 rfl hl (by decide) rfl (fun ls hl => ?_)
    refine lv_aload_n hx hb dX7_changeSince_17 rfl (lv_at hl 1 rfl) ?_
    refine x_get (C := RX7) (T := TX7) (N := 18) hx hb hts hi_X7_changeSince_X7 hown hK hV f1 rfl 1 (by decide) (hts (.fieldLink RX7 15 "SaddleHouse" "horses" "[LSaddleHouse$Horse;") (List.mem_of_getElem? (i := 1) rfl)) (fun _ h9 => h9) rfl dX7_changeSince_18 ?_
    refine lv_aload_n hx hb dX7_changeSince_21 rfl (lv_at hl 2 rfl) ?_
    refine x_getN (C := RX4) (T := TX4) (N := 5) (ref := "SaddleHouse$Saddle") (host := RX7) hx hb hts hi_X7_changeSince_X4 hown hK hV f3 rfl 1 (by decide) (by decide +kernel) (fun _ h9 => h9) rfl dX7_changeSince_22 ?_
    refine x_top (congrArg Value.int (show _ = nI kh from ekh)) ?_
    refine x_aald hx hb hK hV f2 rfl (kh) (by omega) (by decide) dX7_changeSince_25 ?_
    refine x_topr (xq_at hkh) ?_
    refine lv_iload_n hx hb dX7_changeSince_26 rfl (lv_at hl 3 rfl) ?_
    refine x_cq (va_runVN (host := RX7) (As := [.int (d)]) (rest := []) ⟨hx, hb, hml, hown, hts⟩ (c_X2_backOn l D cy loc w s.heap.size (20 + kh) (30 + kh) (40 + 6 * kh) (100 + 6 * kh) (σ.2 (10 + kh)) (fun j => σ.1 1 (6 * kh + j)) (xq (fun j => loc (40 + 6 * kh + j)) (σ.2 (10 + kh))) (hN6 kh) (fun j h_j => xq_at h_j) (fun j h_j => by have h6 := hN6 kh; exact (hw (40 + 6 * kh + j) (by omega)).trans (xC_40 (by omega) (by omega) h_j (by have := hN6 kh; omega))) d f4 f5) ⟨va_cnB 1 hts gX7_changeSince_X2_backOn_n115 rfl rfl rfl (hK.2.1 (.methodLinkNest RX7 115 yX2_backOn RX7) (by decide +kernel)) (hts (.initialized RX2) (List.mem_of_getElem? (i := 10) rfl)) (by decide +kernel) ⟨Nat.le_of_ble_eq_true rfl, Nat.le_of_ble_eq_true rfl⟩, hts (.instanceMethod yX2_backOn) (List.mem_of_getElem? (i := 9) rfl), hts (.selects RX2 yX2_backOn yX2_backOn) (List.mem_of_getElem? (i := 11) rfl)⟩ (x_preV hK hV f4 rfl) rfl rfl hl.1 rfl (lv_room (Nat.le_of_ble_eq_true rfl)) dX7_changeSince_27 ⟨Nat.le_of_ble_eq_true rfl, Nat.le_of_ble_eq_true rfl⟩) (fun r21 hr22 => ?_)
    rcases xlo_or (fun j => loc (40 + 6 * kh + j)) (fun j => σ.1 1 (6 * kh + j)) d (σ.2 (10 + kh)) with ⟨j2, h_j2, p_j2, eq23⟩ | ⟨p_j2, eq23⟩
    · refine x_topr (Eq.trans (show _ = _ from hr22) eq23) ?_
      have h6_j2 := hN6 kh
      have f24 : w (40 + 6 * kh + j2) = some (.inr (3, [.int (σ.1 1 (6 * kh + j2)), .ref (loc (100 + 6 * kh + j2))])) := ((hw (40 + 6 * kh + j2) (by omega)).trans (xC_40 (by omega) (by omega) (by omega) (by omega)))
      have f25 : w (100 + 6 * kh + j2) = some (eI cy 9 (xsl 9 (σ.1 2) (9 * (6 * kh + j2)))) := ((hw (100 + 6 * kh + j2) (by omega)).trans (xC_100 (by omega) (by omega) (by omega) (by omega)))
      have q_j2 : xbd σ kh d = j2 + 1 := p_j2
      refine lv_astore (lv' := [(4, .ref (loc (40 + 6 * kh + j2))), (3, .null), (0, .ref (loc (0))), (1, .ref (loc (210 + ks))), (2, .int (d))]) hx hb dX7_changeSince_30 hl (by decide) rfl (fun ls hl => ?_)
      refine lv_aload_nN hx hb dX7_changeSince_32 rfl (lv_at hl 1 rfl) ?_
      refine lv_ifnullN (tgt := 41) hx hb dX7_changeSince_33 (by decide) ?_
      refine lv_iconst (v := nI 0) hx hb dX7_changeSince_41 (by decide +kernel) ?_
      exact x_ri hx hb hr hlocks dX7_changeSince_42 (by show _ = _; simp only [xch, q_j1, q_j2, if_true, if_false, ite_true, ite_false, not_true_eq_false, not_false_eq_true, and_true, true_and, and_false, false_and, or_true, true_or, or_false, false_or, and_self, or_self])
    · refine x_topn (Eq.trans (show _ = _ from hr22) eq23) ?_
      have q_j2 : xbd σ kh d = 0 := p_j2
      refine lv_astoreN (lv' := [(4, .null), (3, .null), (0, .ref (loc (0))), (1, .ref (loc (210 + ks))), (2, .int (d))]) hx hb dX7_changeSince_30 hl (by decide) rfl (fun ls hl => ?_)
      refine lv_aload_nN hx hb dX7_changeSince_32 rfl (lv_at hl 1 rfl) ?_
      refine lv_ifnullN (tgt := 41) hx hb dX7_changeSince_33 (by decide) ?_
      refine lv_iconst (v := nI 0) hx hb dX7_changeSince_41 (by decide +kernel) ?_
      exact x_ri hx hb hr hlocks dX7_changeSince_42 (by show _ = _; simp only [xch, q_j1, q_j2, if_true, if_false, ite_true, ite_false, not_true_eq_false, not_false_eq_true, and_true, true_and, and_false, false_and, or_true, true_or, or_false, false_or, and_self, or_self])
abbrev rm_X7_changed : Room := { frames := 2, cells := 0, slots := 0, locals := 49 }
theorem hi_X7_changed_X4 : ∀ w ∈ wsX40, w ∈ wsX7_changed := fun w h => List.mem_cons_of_mem _ (List.mem_append_left _ (List.mem_append_left _ (List.mem_append_left _ (List.mem_append_right _ h))))
set_option maxHeartbeats 4000000 in
set_option maxRecDepth 100000 in
theorem c_X7_changed (l : Launch) (D : va_G) (cy : Nat → ClassId) (loc : Nat → Nat) (w : xM) (sz : Nat) (σ : xS) (hN : xN8 σ) (hR : xR cy loc σ w) (hS : xSd σ) (n d : Int32)  : Met l yX7_changed wsX7_changed rm_X7_changed (va_Pc [.ref (loc (0)), .int (n), .int (d)] (xP D cy loc w sz)) (vp_Si (fun r => r = sp_changed σ n d)) 0 0 (fun _ => False) := by
  refine x_met (cc := cX7_changed) (maxL := 4) (ret := (some .int)) (C := RX7) (by decide) rfl rfl (Nat.le_of_ble_eq_true rfl) ?_
  intro p e s m below meth c ls hx hb hml hr hts hown hlocks hin hP hl
  obtain ⟨hsz, hV, hK⟩ := hP
  subst hsz
  have hl : lv_has ls 4 [(0, .ref (loc (0))), (1, .int (n)), (2, .int (d))] := hl
  have hNN := hN
  have hRR := hR
  obtain ⟨g0, b0, q0, hw⟩ := hR
  obtain ⟨hN0, hN1, hN2, hN3, hN4, hN5, hN6⟩ := hN
  have f1 : w (0) = some (.inr (7, [.ref (loc (1)), .ref (loc (2)), .ref (loc (3)), .ref (loc (4)), .ref (loc (5)), .ref (loc (6)), .ref (loc (7)), .int (nI (σ.2 0)), .int (nI (σ.2 1)), .int (nI (σ.2 2)), .int (nI (σ.2 3)), .int (nI (σ.2 4)), .int (nI (σ.2 5)), .int (nI (σ.2 6)), .int (σ.1 10 1), .int (σ.1 10 0), .ref (loc (8)), .ref (loc (11))])) := (hw 0 (by decide)).trans rfl
  refine lv_aload_n hx hb dX7_changed_0 rfl (lv_at hl 0 rfl) ?_
  refine lv_iload_n hx hb dX7_changed_1 rfl (lv_at hl 1 rfl) ?_
  refine x_cq (va_runV (As := [.int (n)]) (rest := []) ⟨hx, hb, hml, hown, hts⟩ (c_X7_saddleAt l D cy loc w s.heap.size σ ⟨hN0, hN1, hN2, hN3, hN4, hN5, hN6⟩ hRR n) (cwV 1 hts gX7_changed_X7_saddleAt rfl rfl rfl (by decide +kernel) ⟨Nat.le_of_ble_eq_true rfl, Nat.le_of_ble_eq_true rfl⟩) (x_preV hK hV f1 rfl) rfl rfl hl.1 rfl (lv_room (Nat.le_of_ble_eq_true rfl)) dX7_changed_2 ⟨Nat.le_of_ble_eq_true rfl, Nat.le_of_ble_eq_true rfl⟩) (fun r2 hr3 => ?_)
  rcases xat_or (fun k => loc (210 + k)) n (show σ.2 4 < 2 ^ 31 by omega) with ⟨sx, h_sx, e_sx, p_sx, eq4⟩ | ⟨p_sx, eq4⟩
  · refine x_topr (Eq.trans (show _ = _ from hr3) eq4) ?_
    subst e_sx
    have f5 : w (210 + sx) = some (.inr (4, [.int (σ.1 9 (5 * sx)), .int (σ.1 9 (5 * sx + 1)), .int (σ.1 9 (5 * sx + 2)), .int (σ.1 9 (5 * sx + 3)), .int (σ.1 9 (5 * sx + 4))])) := ((hw (210 + sx) (by omega)).trans (xC_210 (by omega) (by omega)))
    obtain ⟨kh, hkh, ekh, j0, hj0, hle⟩ := hS sx h_sx
    have k_sx : (nI sx).toNatClampNeg = sx := nI_clamp (by omega)
    have hxs : xsh σ (nI sx) = kh := by rw [xsh, k_sx, ekh, nI_clamp (by omega)]
    refine lv_astore_n (lv' := [(3, .ref (loc (210 + sx))), (0, .ref (loc (0))), (1, .int (nI (sx))), (2, .int (d))]) hx hb dX7_changed_5 rfl hl (by decide) rfl (fun ls hl => ?_)
    refine lv_aload_n hx hb dX7_changed_6 rfl (lv_at hl 0 rfl) ?_
    refine lv_ifnonnull (tgt := 13) hx hb dX7_changed_7 (by decide) ?_
    refine lv_iload_n hx hb dX7_changed_13 rfl (lv_at hl 3 rfl) ?_
    refine x_ci (va_runS (As := [.int (d)]) (rest := []) ⟨hx, hb, hml, hown, hts⟩ (c_X7_isDay l D cy loc w s.heap.size d) (cwS 1 hts gX7_changed_X7_isDay rfl rfl rfl (by decide +kernel) ⟨Nat.le_of_ble_eq_true rfl, Nat.le_of_ble_eq_true rfl⟩) (x_preS hK hV) rfl rfl hl.1 rfl (lv_room (Nat.le_of_ble_eq_true rfl)) dX7_changed_14 ⟨Nat.le_of_ble_eq_true rfl, Nat.le_of_ble_eq_true rfl⟩) (fun r6 hr7 => ?_)
    have ez8 : xb (nI 0 ≤ d ∧ d ≤ nI 10000) = r6 := Eq.symm (show r6 = xb (nI 0 ≤ d ∧ d ≤ nI 10000) from hr7)
    subst ez8
    refine x_beq (tgt := 28) hx hb dX7_changed_17 (by decide) (fun c9 => ?_) (fun c9 => ?_)
    · have _u := trivial
      refine lv_bipush (v := -102) hx hb dX7_changed_28 (by decide +kernel) ?_
      exact x_ri hx hb hr hlocks dX7_changed_30 (by show _ = _; simp only [sp_changed, p_sx, k_sx, hxs, c9, if_true, if_false, ite_true, ite_false, not_true_eq_false, not_false_eq_true, and_true, true_and, and_false, false_and, or_true, true_or, or_false, false_or, and_self, or_self])
    · have _u := trivial
      refine lv_iload_n hx hb dX7_changed_20 rfl (lv_at hl 3 rfl) ?_
      refine lv_aload_n hx hb dX7_changed_21 rfl (lv_at hl 0 rfl) ?_
      refine x_getN (C := RX4) (T := TX4) (N := 5) (ref := "SaddleHouse$Saddle") (host := RX7) hx hb hts hi_X7_changed_X4 hown hK hV f5 rfl 2 (by decide) (by decide +kernel) (fun _ h9 => h9) rfl dX7_changed_22 ?_
      refine lv_icmp_gt (tgt := 31) hx hb dX7_changed_25 (by decide) (fun c10 => ?_) (fun c10 => ?_)
      · have _u := trivial
        have z_c10 : ¬ d ≤ σ.1 9 (5 * sx + 2) := Int32.not_le.mpr c10
        refine lv_aload_n hx hb dX7_changed_31 rfl (lv_at hl 1 rfl) ?_
        refine lv_aload_n hx hb dX7_changed_32 rfl (lv_at hl 0 rfl) ?_
        refine lv_iload_n hx hb dX7_changed_33 rfl (lv_at hl 3 rfl) ?_
        refine x_ci (va_runV (As := [.ref (loc (210 + sx)), .int (d)]) (rest := []) ⟨hx, hb, hml, hown, hts⟩ (c_X7_changeSince l D cy loc w s.heap.size σ hNN hRR sx kh h_sx hkh ekh d) (cwV 2 hts gX7_changed_X7_changeSince rfl rfl rfl (by decide +kernel) ⟨Nat.le_of_ble_eq_true rfl, Nat.le_of_ble_eq_true rfl⟩) (x_preV hK hV f1 rfl) rfl rfl hl.1 rfl (lv_room (Nat.le_of_ble_eq_true rfl)) dX7_changed_34 ⟨Nat.le_of_ble_eq_true rfl, Nat.le_of_ble_eq_true rfl⟩) (fun r11 hr12 => ?_)
        have ez13 : xch σ kh (σ.1 9 (5 * sx + 2)) d = r11 := Eq.symm (show r11 = xch σ kh (σ.1 9 (5 * sx + 2)) d from hr12)
        subst ez13
        exact x_ri hx hb hr hlocks dX7_changed_37 (by show _ = _; simp only [sp_changed, p_sx, k_sx, hxs, c9, c10, z_c10, if_true, if_false, ite_true, ite_false, not_true_eq_false, not_false_eq_true, and_true, true_and, and_false, false_and, or_true, true_or, or_false, false_or, and_self, or_self])
      · have _u := trivial
        have z_c10 : d ≤ σ.1 9 (5 * sx + 2) := Int32.not_lt.mp c10
        refine lv_bipush (v := -102) hx hb dX7_changed_28 (by decide +kernel) ?_
        exact x_ri hx hb hr hlocks dX7_changed_30 (by show _ = _; simp only [sp_changed, p_sx, k_sx, hxs, c9, c10, z_c10, if_true, if_false, ite_true, ite_false, not_true_eq_false, not_false_eq_true, and_true, true_and, and_false, false_and, or_true, true_or, or_false, false_or, and_self, or_self])
  · refine x_topn (Eq.trans (show _ = _ from hr3) eq4) ?_
    refine lv_astore_nN (lv' := [(3, .null), (0, .ref (loc (0))), (1, .int (n)), (2, .int (d))]) hx hb dX7_changed_5 rfl hl (by decide) rfl (fun ls hl => ?_)
    refine lv_aload_nN hx hb dX7_changed_6 rfl (lv_at hl 0 rfl) ?_
    refine lv_ifnonnullN hx hb dX7_changed_7 ?_
    refine lv_bipush (v := -101) hx hb dX7_changed_10 (by decide +kernel) ?_
    exact x_ri hx hb hr hlocks dX7_changed_12 (by show _ = _; simp only [sp_changed, p_sx, if_true, if_false, ite_true, ite_false, not_true_eq_false, not_false_eq_true, and_true, true_and, and_false, false_and, or_true, true_or, or_false, false_or, and_self, or_self])
abbrev rm_X7_free : Room := { frames := 2, cells := 0, slots := 0, locals := 49 }
theorem hi_X7_free_X4 : ∀ w ∈ wsX40, w ∈ wsX7_free := fun w h => List.mem_cons_of_mem _ (List.mem_append_left _ (List.mem_append_left _ (List.mem_append_left _ (List.mem_append_right _ h))))
set_option maxHeartbeats 4000000 in
set_option maxRecDepth 100000 in
theorem c_X7_free (l : Launch) (D : va_G) (cy : Nat → ClassId) (loc : Nat → Nat) (w : xM) (sz : Nat) (σ : xS) (hN : xN8 σ) (hR : xR cy loc σ w) (hS : xSd σ) (n d : Int32)  : Met l yX7_free wsX7_free rm_X7_free (va_Pc [.ref (loc (0)), .int (n), .int (d)] (xP D cy loc w sz)) (vp_Si (fun r => r = sp_free σ n d)) 0 0 (fun _ => False) := by
  refine x_met (cc := cX7_free) (maxL := 5) (ret := (some .int)) (C := RX7) (by decide) rfl rfl (Nat.le_of_ble_eq_true rfl) ?_
  intro p e s m below meth c ls hx hb hml hr hts hown hlocks hin hP hl
  obtain ⟨hsz, hV, hK⟩ := hP
  subst hsz
  have hl : lv_has ls 5 [(0, .ref (loc (0))), (1, .int (n)), (2, .int (d))] := hl
  have hNN := hN
  have hRR := hR
  obtain ⟨g0, b0, q0, hw⟩ := hR
  obtain ⟨hN0, hN1, hN2, hN3, hN4, hN5, hN6⟩ := hN
  have f1 : w (0) = some (.inr (7, [.ref (loc (1)), .ref (loc (2)), .ref (loc (3)), .ref (loc (4)), .ref (loc (5)), .ref (loc (6)), .ref (loc (7)), .int (nI (σ.2 0)), .int (nI (σ.2 1)), .int (nI (σ.2 2)), .int (nI (σ.2 3)), .int (nI (σ.2 4)), .int (nI (σ.2 5)), .int (nI (σ.2 6)), .int (σ.1 10 1), .int (σ.1 10 0), .ref (loc (8)), .ref (loc (11))])) := (hw 0 (by decide)).trans rfl
  refine lv_aload_n hx hb dX7_free_0 rfl (lv_at hl 0 rfl) ?_
  refine lv_iload_n hx hb dX7_free_1 rfl (lv_at hl 1 rfl) ?_
  refine x_cq (va_runV (As := [.int (n)]) (rest := []) ⟨hx, hb, hml, hown, hts⟩ (c_X7_saddleAt l D cy loc w s.heap.size σ ⟨hN0, hN1, hN2, hN3, hN4, hN5, hN6⟩ hRR n) (cwV 1 hts gX7_free_X7_saddleAt rfl rfl rfl (by decide +kernel) ⟨Nat.le_of_ble_eq_true rfl, Nat.le_of_ble_eq_true rfl⟩) (x_preV hK hV f1 rfl) rfl rfl hl.1 rfl (lv_room (Nat.le_of_ble_eq_true rfl)) dX7_free_2 ⟨Nat.le_of_ble_eq_true rfl, Nat.le_of_ble_eq_true rfl⟩) (fun r2 hr3 => ?_)
  rcases xat_or (fun k => loc (210 + k)) n (show σ.2 4 < 2 ^ 31 by omega) with ⟨sx, h_sx, e_sx, p_sx, eq4⟩ | ⟨p_sx, eq4⟩
  · refine x_topr (Eq.trans (show _ = _ from hr3) eq4) ?_
    subst e_sx
    have f5 : w (210 + sx) = some (.inr (4, [.int (σ.1 9 (5 * sx)), .int (σ.1 9 (5 * sx + 1)), .int (σ.1 9 (5 * sx + 2)), .int (σ.1 9 (5 * sx + 3)), .int (σ.1 9 (5 * sx + 4))])) := ((hw (210 + sx) (by omega)).trans (xC_210 (by omega) (by omega)))
    obtain ⟨kh, hkh, ekh, j0, hj0, hle⟩ := hS sx h_sx
    have k_sx : (nI sx).toNatClampNeg = sx := nI_clamp (by omega)
    have hxs : xsh σ (nI sx) = kh := by rw [xsh, k_sx, ekh, nI_clamp (by omega)]
    refine lv_astore_n (lv' := [(3, .ref (loc (210 + sx))), (0, .ref (loc (0))), (1, .int (nI (sx))), (2, .int (d))]) hx hb dX7_free_5 rfl hl (by decide) rfl (fun ls hl => ?_)
    refine lv_aload_n hx hb dX7_free_6 rfl (lv_at hl 0 rfl) ?_
    refine lv_ifnonnull (tgt := 13) hx hb dX7_free_7 (by decide) ?_
    refine lv_iload_n hx hb dX7_free_13 rfl (lv_at hl 3 rfl) ?_
    refine x_ci (va_runS (As := [.int (d)]) (rest := []) ⟨hx, hb, hml, hown, hts⟩ (c_X7_isDay l D cy loc w s.heap.size d) (cwS 1 hts gX7_free_X7_isDay rfl rfl rfl (by decide +kernel) ⟨Nat.le_of_ble_eq_true rfl, Nat.le_of_ble_eq_true rfl⟩) (x_preS hK hV) rfl rfl hl.1 rfl (lv_room (Nat.le_of_ble_eq_true rfl)) dX7_free_14 ⟨Nat.le_of_ble_eq_true rfl, Nat.le_of_ble_eq_true rfl⟩) (fun r6 hr7 => ?_)
    have ez8 : xb (nI 0 ≤ d ∧ d ≤ nI 10000) = r6 := Eq.symm (show r6 = xb (nI 0 ≤ d ∧ d ≤ nI 10000) from hr7)
    subst ez8
    refine x_beq (tgt := 28) hx hb dX7_free_17 (by decide) (fun c9 => ?_) (fun c9 => ?_)
    · have _u := trivial
      refine lv_bipush (v := -102) hx hb dX7_free_28 (by decide +kernel) ?_
      exact x_ri hx hb hr hlocks dX7_free_30 (by show _ = _; simp only [sp_free, p_sx, k_sx, hxs, c9, if_true, if_false, ite_true, ite_false, not_true_eq_false, not_false_eq_true, and_true, true_and, and_false, false_and, or_true, true_or, or_false, false_or, and_self, or_self])
    · have _u := trivial
      refine lv_iload_n hx hb dX7_free_20 rfl (lv_at hl 3 rfl) ?_
      refine lv_aload_n hx hb dX7_free_21 rfl (lv_at hl 0 rfl) ?_
      refine x_getN (C := RX4) (T := TX4) (N := 5) (ref := "SaddleHouse$Saddle") (host := RX7) hx hb hts hi_X7_free_X4 hown hK hV f5 rfl 2 (by decide) (by decide +kernel) (fun _ h9 => h9) rfl dX7_free_22 ?_
      refine lv_icmp_gt (tgt := 31) hx hb dX7_free_25 (by decide) (fun c10 => ?_) (fun c10 => ?_)
      · have _u := trivial
        have z_c10 : ¬ d ≤ σ.1 9 (5 * sx + 2) := Int32.not_le.mpr c10
        refine lv_iload_n hx hb dX7_free_31 rfl (lv_at hl 3 rfl) ?_
        refine lv_aload_n hx hb dX7_free_32 rfl (lv_at hl 0 rfl) ?_
        refine x_getN (C := RX4) (T := TX4) (N := 5) (ref := "SaddleHouse$Saddle") (host := RX7) hx hb hts hi_X7_free_X4 hown hK hV f5 rfl 2 (by decide) (by decide +kernel) (fun _ h9 => h9) rfl dX7_free_33 ?_
        refine lv_isub hx hb dX7_free_36 ?_
        refine lv_aload_n hx hb dX7_free_37 rfl (lv_at hl 0 rfl) ?_
        refine x_getN (C := RX4) (T := TX4) (N := 5) (ref := "SaddleHouse$Saddle") (host := RX7) hx hb hts hi_X7_free_X4 hown hK hV f5 rfl 3 (by decide) (by decide +kernel) (fun _ h9 => h9) rfl dX7_free_38 ?_
        refine lv_icmp_gt (tgt := 48) hx hb dX7_free_41 (by decide) (fun c11 => ?_) (fun c11 => ?_)
        · have _u := trivial
          have y1 : ¬ d - σ.1 9 (5 * sx + 2) ≤ σ.1 9 (5 * sx + 3) := Int32.not_le.mpr c11
          refine lv_iconst (v := nI 0) hx hb dX7_free_48 (by decide +kernel) ?_
          refine lv_istore (lv' := [(4, .int (nI (0))), (3, .ref (loc (210 + sx))), (0, .ref (loc (0))), (1, .int (nI (sx))), (2, .int (d))]) hx hb dX7_free_49 hl (by decide) rfl (fun ls hl => ?_)
          refine lv_iload hx hb dX7_free_51 (lv_at hl 0 rfl) ?_
          refine lv_if_eq (tgt := 73) hx hb dX7_free_53 (by decide) (fun _ => ?_) (fun h => absurd (show nI 0 = 0 from rfl) h)
          refine lv_iconst (v := nI 0) hx hb dX7_free_73 (by decide +kernel) ?_
          exact x_ri hx hb hr hlocks dX7_free_74 (by show _ = _; simp only [sp_free, p_sx, k_sx, hxs, z_c10, c9, if_true, if_false, ite_true, ite_false, not_true_eq_false, not_false_eq_true, and_true, true_and, and_false, false_and, or_true, true_or, or_false, false_or, and_self, or_self]; exact (xb_f (fun q => y1 q.1)).symm)
        · have _u := trivial
          have y1 : d - σ.1 9 (5 * sx + 2) ≤ σ.1 9 (5 * sx + 3) := Int32.not_lt.mp c11
          refine lv_iconst (v := nI 1) hx hb dX7_free_44 (by decide +kernel) ?_
          refine lv_goto (tgt := 49) hx hb dX7_free_45 (by decide) ?_
          refine lv_istore (lv' := [(4, .int (nI (1))), (3, .ref (loc (210 + sx))), (0, .ref (loc (0))), (1, .int (nI (sx))), (2, .int (d))]) hx hb dX7_free_49 hl (by decide) rfl (fun ls hl => ?_)
          refine lv_iload hx hb dX7_free_51 (lv_at hl 0 rfl) ?_
          refine lv_if_eq (tgt := 73) hx hb dX7_free_53 (by decide) (fun h => absurd h (by decide)) (fun _ => ?_)
          refine lv_aload_n hx hb dX7_free_56 rfl (lv_at hl 2 rfl) ?_
          refine lv_aload_n hx hb dX7_free_57 rfl (lv_at hl 1 rfl) ?_
          refine lv_iload_n hx hb dX7_free_58 rfl (lv_at hl 4 rfl) ?_
          refine x_ci (va_runV (As := [.ref (loc (210 + sx)), .int (d)]) (rest := []) ⟨hx, hb, hml, hown, hts⟩ (c_X7_changeSince l D cy loc w s.heap.size σ hNN hRR sx kh h_sx hkh ekh d) (cwV 2 hts gX7_free_X7_changeSince rfl rfl rfl (by decide +kernel) ⟨Nat.le_of_ble_eq_true rfl, Nat.le_of_ble_eq_true rfl⟩) (x_preV hK hV f1 rfl) rfl rfl hl.1 rfl (lv_room (Nat.le_of_ble_eq_true rfl)) dX7_free_59 ⟨Nat.le_of_ble_eq_true rfl, Nat.le_of_ble_eq_true rfl⟩) (fun r14 hr15 => ?_)
          have ez16 : xch σ kh (σ.1 9 (5 * sx + 2)) d = r14 := Eq.symm (show r14 = xch σ kh (σ.1 9 (5 * sx + 2)) d from hr15)
          subst ez16
          refine lv_aload_n hx hb dX7_free_62 rfl (lv_at hl 1 rfl) ?_
          refine x_getN (C := RX4) (T := TX4) (N := 5) (ref := "SaddleHouse$Saddle") (host := RX7) hx hb hts hi_X7_free_X4 hown hK hV f5 rfl 4 (by decide) (by decide +kernel) (fun _ h9 => h9) rfl dX7_free_63 ?_
          refine lv_icmp_lt (tgt := 73) hx hb dX7_free_66 (by decide) (fun c17 => ?_) (fun c17 => ?_)
          · have _u := trivial
            have y2 : ¬ σ.1 9 (5 * sx + 4) ≤ xch σ kh (σ.1 9 (5 * sx + 2)) d := Int32.not_le.mpr c17
            refine lv_iconst (v := nI 0) hx hb dX7_free_73 (by decide +kernel) ?_
            exact x_ri hx hb hr hlocks dX7_free_74 (by show _ = _; simp only [sp_free, p_sx, k_sx, hxs, z_c10, c9, if_true, if_false, ite_true, ite_false, not_true_eq_false, not_false_eq_true, and_true, true_and, and_false, false_and, or_true, true_or, or_false, false_or, and_self, or_self]; exact (xb_f (fun q => y2 q.2)).symm)
          · have _u := trivial
            have y2 : σ.1 9 (5 * sx + 4) ≤ xch σ kh (σ.1 9 (5 * sx + 2)) d := Int32.not_lt.mp c17
            refine lv_iconst (v := nI 1) hx hb dX7_free_69 (by decide +kernel) ?_
            refine lv_goto (tgt := 74) hx hb dX7_free_70 (by decide) ?_
            exact x_ri hx hb hr hlocks dX7_free_74 (by show _ = _; simp only [sp_free, p_sx, k_sx, hxs, z_c10, c9, if_true, if_false, ite_true, ite_false, not_true_eq_false, not_false_eq_true, and_true, true_and, and_false, false_and, or_true, true_or, or_false, false_or, and_self, or_self]; exact (xb_t ⟨y1, y2⟩).symm)
      · have _u := trivial
        have z_c10 : d ≤ σ.1 9 (5 * sx + 2) := Int32.not_lt.mp c10
        refine lv_bipush (v := -102) hx hb dX7_free_28 (by decide +kernel) ?_
        exact x_ri hx hb hr hlocks dX7_free_30 (by show _ = _; simp only [sp_free, p_sx, k_sx, hxs, c9, c10, z_c10, if_true, if_false, ite_true, ite_false, not_true_eq_false, not_false_eq_true, and_true, true_and, and_false, false_and, or_true, true_or, or_false, false_or, and_self, or_self])
  · refine x_topn (Eq.trans (show _ = _ from hr3) eq4) ?_
    refine lv_astore_nN (lv' := [(3, .null), (0, .ref (loc (0))), (1, .int (n)), (2, .int (d))]) hx hb dX7_free_5 rfl hl (by decide) rfl (fun ls hl => ?_)
    refine lv_aload_nN hx hb dX7_free_6 rfl (lv_at hl 0 rfl) ?_
    refine lv_ifnonnullN hx hb dX7_free_7 ?_
    refine lv_bipush (v := -101) hx hb dX7_free_10 (by decide +kernel) ?_
    exact x_ri hx hb hr hlocks dX7_free_12 (by show _ = _; simp only [sp_free, p_sx, if_true, if_false, ite_true, ite_false, not_true_eq_false, not_false_eq_true, and_true, true_and, and_false, false_and, or_true, true_or, or_false, false_or, and_self, or_self])
