abbrev rm_X8_count : Room := { frames := 0, cells := 0, slots := 0, locals := 0 }
theorem hi_X8_count_X8 : ∀ w ∈ wsX80, w ∈ wsX8_count := fun w h => List.mem_cons_of_mem _ (List.mem_append_right _ h)
set_option maxHeartbeats 4000000 in
set_option maxRecDepth 100000 in
theorem c_X8_count (l : Launch) (D : va_G) (cy : Nat → ClassId) (loc : Nat → Nat) (w : xM) (sz : Nat) (σ : xS) (hN : xN8 σ) (hR : yR cy loc σ w) (n : Int32) (hC : σ.2 6 = y2c (σ.1 6) 768)   : Met l yX8_count wsX8_count rm_X8_count (va_Pc [.ref (loc (300)), .int (n)] (xP D cy loc w sz)) (vp_Si (fun r => r = sp_count σ n)) 0 0 (fun _ => False) := by
  refine x_met (cc := cX8_count) (maxL := 4) (ret := (some .int)) (C := RX8) (by decide) rfl rfl (Nat.le_of_ble_eq_true rfl) ?_
  intro p e s m below meth c ls hx hb hml hr hts hown hlocks hin hP hl
  obtain ⟨hsz, hV, hK⟩ := hP
  subst hsz
  have hl : lv_has ls 4 [(0, .ref (loc (300))), (1, .int (n))] := hl
  have hNN := hN
  have hRR := hR
  obtain ⟨g0, b0, q0, v0, hw⟩ := hR
  obtain ⟨hN0, hN1, hN2, hN3, hN4, hN5, hN6⟩ := hN
  have f1 : w (300) = some (.inr (8, [.ref (loc (301)), .int (nI (σ.2 0)), .ref (loc (302)), .ref (loc (303)), .ref (loc (304)), .int (nI (σ.2 1)), .ref (loc (305)), .ref (loc (306)), .ref (loc (307)), .ref (loc (308)), .int (v0 0), .int (v0 1), .int (v0 2), .int (v0 3), .int (nI (σ.2 5)), .ref (loc (309)), .ref (loc (310)), .int (v0 4), .int (nI (σ.2 2)), .ref (loc (311)), .int (nI (σ.2 3)), .ref (loc (312)), .ref (loc (313)), .int (σ.1 10 0), .int (σ.1 10 1), .int (nI (σ.2 4)), .ref (loc (314))])) := (hw 0 (by decide)).trans rfl
  have f2 : w (311) = some (eI cy 768 (σ.1 6)) := (hw 11 (by decide)).trans rfl
  refine lv_iload_n hx hb dX8_count_0 rfl (lv_at hl 1 rfl) ?_
  have hs3 : n = nI 0 ∨ n = nI 1 ∨ n = nI 2 ∨ n = nI 3 ∨ n = nI 4 ∨ n = nI 5 ∨ n = nI 6 ∨ n = nI 7 ∨ ¬ (nI 0 ≤ n ∧ n ≤ nI 7) := x_c8 n
  rcases hs3 with hs3 | hs3 | hs3 | hs3 | hs3 | hs3 | hs3 | hs3 | hs3
  · refine x_top (congrArg Value.int hs3) ?_
    refine lv_tableIn (tgt := 48) hx hb dX8_count_1 (by decide) (by decide) rfl (by decide) ?_
    subst hs3
    refine lv_aload_n hx hb dX8_count_48 rfl (lv_at hl 0 rfl) ?_
    refine x_get (C := RX8) (T := TX8) (N := 27) hx hb hts hi_X8_count_X8 hown hK hV f1 rfl 1 (by decide) (hts (.fieldLink RX8 64 "SaddleHouseModel" "horses" "I") (List.mem_of_getElem? (i := 1) rfl)) (fun _ h9 => h9) rfl dX8_count_49 ?_
    exact x_ri hx hb hr hlocks dX8_count_52 (by show _ = _; rw [sp_count]; rfl)
  · refine x_top (congrArg Value.int hs3) ?_
    refine lv_tableIn (tgt := 53) hx hb dX8_count_1 (by decide) (by decide) rfl (by decide) ?_
    subst hs3
    refine lv_aload_n hx hb dX8_count_53 rfl (lv_at hl 0 rfl) ?_
    refine x_get (C := RX8) (T := TX8) (N := 27) hx hb hts hi_X8_count_X8 hown hK hV f1 rfl 5 (by decide) (hts (.fieldLink RX8 88 "SaddleHouseModel" "trees" "I") (List.mem_of_getElem? (i := 2) rfl)) (fun _ h9 => h9) rfl dX8_count_54 ?_
    exact x_ri hx hb hr hlocks dX8_count_57 (by show _ = _; rw [sp_count]; rfl)
  · refine x_top (congrArg Value.int hs3) ?_
    refine lv_tableIn (tgt := 58) hx hb dX8_count_1 (by decide) (by decide) rfl (by decide) ?_
    subst hs3
    refine lv_aload_n hx hb dX8_count_58 rfl (lv_at hl 0 rfl) ?_
    refine x_get (C := RX8) (T := TX8) (N := 27) hx hb hts hi_X8_count_X8 hown hK hV f1 rfl 18 (by decide) (hts (.fieldLink RX8 151 "SaddleHouseModel" "hides" "I") (List.mem_of_getElem? (i := 3) rfl)) (fun _ h9 => h9) rfl dX8_count_59 ?_
    exact x_ri hx hb hr hlocks dX8_count_62 (by show _ = _; rw [sp_count]; rfl)
  · refine x_top (congrArg Value.int hs3) ?_
    refine lv_tableIn (tgt := 63) hx hb dX8_count_1 (by decide) (by decide) rfl (by decide) ?_
    subst hs3
    refine lv_aload_n hx hb dX8_count_63 rfl (lv_at hl 0 rfl) ?_
    refine x_get (C := RX8) (T := TX8) (N := 27) hx hb hts hi_X8_count_X8 hown hK hV f1 rfl 20 (by decide) (hts (.fieldLink RX8 178 "SaddleHouseModel" "benches" "I") (List.mem_of_getElem? (i := 4) rfl)) (fun _ h9 => h9) rfl dX8_count_64 ?_
    exact x_ri hx hb hr hlocks dX8_count_67 (by show _ = _; rw [sp_count]; rfl)
  · refine x_top (congrArg Value.int hs3) ?_
    refine lv_tableIn (tgt := 68) hx hb dX8_count_1 (by decide) (by decide) rfl (by decide) ?_
    subst hs3
    refine lv_aload_n hx hb dX8_count_68 rfl (lv_at hl 0 rfl) ?_
    refine x_get (C := RX8) (T := TX8) (N := 27) hx hb hts hi_X8_count_X8 hown hK hV f1 rfl 25 (by decide) (hts (.fieldLink RX8 187 "SaddleHouseModel" "saddles" "I") (List.mem_of_getElem? (i := 5) rfl)) (fun _ h9 => h9) rfl dX8_count_69 ?_
    exact x_ri hx hb hr hlocks dX8_count_72 (by show _ = _; rw [sp_count]; rfl)
  · refine x_top (congrArg Value.int hs3) ?_
    refine lv_tableIn (tgt := 73) hx hb dX8_count_1 (by decide) (by decide) rfl (by decide) ?_
    subst hs3
    refine lv_aload_n hx hb dX8_count_73 rfl (lv_at hl 0 rfl) ?_
    refine x_get (C := RX8) (T := TX8) (N := 27) hx hb hts hi_X8_count_X8 hown hK hV f1 rfl 14 (by decide) (hts (.fieldLink RX8 134 "SaddleHouseModel" "days" "I") (List.mem_of_getElem? (i := 6) rfl)) (fun _ h9 => h9) rfl dX8_count_74 ?_
    exact x_ri hx hb hr hlocks dX8_count_77 (by show _ = _; rw [sp_count]; rfl)
  · refine x_top (congrArg Value.int hs3) ?_
    refine lv_tableIn (tgt := 78) hx hb dX8_count_1 (by decide) (by decide) rfl (by decide) ?_
    subst hs3
    refine lv_iconst (v := nI 0) hx hb dX8_count_78 (by decide +kernel) ?_
    refine lv_istore_n (lv' := [(2, .int (nI (0))), (0, .ref (loc (300))), (1, .int (nI (6)))]) hx hb dX8_count_79 rfl hl (by decide) rfl (fun ls hl => ?_)
    refine lv_iconst (v := nI 0) hx hb dX8_count_80 (by decide +kernel) ?_
    refine lv_istore_n (lv' := [(3, .int (nI (0))), (2, .int (nI (0))), (0, .ref (loc (300))), (1, .int (nI (6)))]) hx hb dX8_count_81 rfl hl (by decide) rfl (fun ls hl => ?_)
    have lp82_4 : ∀ (fuel5 : Nat) (ct : Nat) (i : Nat) (ls : Array Slot), 768 - i < fuel5 → (i ≤ 768) → (ct = y2c (σ.1 6) i) → lv_has ls 4 [(3, .int (nI (i))), (2, .int (nI (ct))), (0, .ref (loc (300))), (1, .int (nI (6)))] → W p l e rm_X8_count s m ([.ref (loc (300)), .int ((nI 6))] : List Value).toArray below meth c s.heap [] 0 0 (MQ below (vp_Si (fun r => r = sp_count σ (nI 6))) ([.ref (loc (300)), .int ((nI 6))] : List Value).toArray s 0 0 (fun _ => False)) (F0 m 82 ls []) := by
      intro fuel5
      induction fuel5 with
      | zero => intro ct i ls hm6; exact absurd hm6 (Nat.not_lt_zero _)
      | succ fuel5 ih7 =>
        intro ct i ls hm6 h1 h2  hl
        have h9 := y2c_le (σ.1 6) i
        refine lv_iload_n hx hb dX8_count_82 rfl (lv_at hl 0 rfl) ?_
        refine lv_sipush (v := nI 768) hx hb dX8_count_83 (by decide +kernel) ?_
        refine x_cge hx hb (i) (768) (by omega) (by omega) (tgt := 113) dX8_count_86 (by decide) (fun c8 => ?_) (fun c8 => ?_)
        · have _u := trivial
          refine lv_iload_n hx hb dX8_count_113 rfl (lv_at hl 1 rfl) ?_
          exact x_ri hx hb hr hlocks dX8_count_114 (by show _ = _; rw [h2, show i = 768 by omega, ← hC, sp_count]; rfl)
        · have _u := trivial
          refine lv_iload_n hx hb dX8_count_89 rfl (lv_at hl 1 rfl) ?_
          refine lv_aload_n hx hb dX8_count_90 rfl (lv_at hl 2 rfl) ?_
          refine x_get (C := RX8) (T := TX8) (N := 27) hx hb hts hi_X8_count_X8 hown hK hV f1 rfl 19 (by decide) (hts (.fieldLink RX8 40 "SaddleHouseModel" "patches" "[I") (List.mem_of_getElem? (i := 7) rfl)) (fun _ h9 => h9) rfl dX8_count_91 ?_
          refine lv_iload_n hx hb dX8_count_94 rfl (lv_at hl 0 rfl) ?_
          refine x_iald hx hb hK hV f2 (i) (by omega) (by decide) dX8_count_95 ?_
          refine lv_iconst (v := nI 2) hx hb dX8_count_96 (by decide +kernel) ?_
          refine lv_icmp_ne (tgt := 104) hx hb dX8_count_97 (by decide) (fun c9 => ?_) (fun c9 => ?_)
          · have _u := trivial
            refine lv_iconst (v := nI 0) hx hb dX8_count_104 (by decide +kernel) ?_
            refine x_iadd hx hb (ct) (0) dX8_count_105 ?_
            refine lv_istore_n (lv' := [(2, .int (nI (ct + 0))), (3, .int (nI (i))), (0, .ref (loc (300))), (1, .int (nI (6)))]) hx hb dX8_count_106 rfl hl (by decide) rfl (fun ls hl => ?_)
            refine lv_iinc (v := nI (i + 1)) (lv' := [(3, .int (nI (i + 1))), (2, .int (nI (ct + 0))), (0, .ref (loc (300))), (1, .int (nI (6)))]) hx hb dX8_count_107 hl (k := 1) rfl (nI_add _ _) (by decide) rfl (fun ls hl => ?_)
            refine lv_goto (tgt := 82) hx hb dX8_count_110 (by decide) ?_
            exact ih7 (ct + 0) (i + 1) ls (by omega) (by omega) (y2c_n h2 c9) (lv_sub hl [0, 1, 2, 3] rfl)
          · have _u := trivial
            refine lv_iconst (v := nI 1) hx hb dX8_count_100 (by decide +kernel) ?_
            refine lv_goto (tgt := 105) hx hb dX8_count_101 (by decide) ?_
            refine x_iadd hx hb (ct) (1) dX8_count_105 ?_
            refine lv_istore_n (lv' := [(2, .int (nI (ct + 1))), (3, .int (nI (i))), (0, .ref (loc (300))), (1, .int (nI (6)))]) hx hb dX8_count_106 rfl hl (by decide) rfl (fun ls hl => ?_)
            refine lv_iinc (v := nI (i + 1)) (lv' := [(3, .int (nI (i + 1))), (2, .int (nI (ct + 1))), (0, .ref (loc (300))), (1, .int (nI (6)))]) hx hb dX8_count_107 hl (k := 1) rfl (nI_add _ _) (by decide) rfl (fun ls hl => ?_)
            refine lv_goto (tgt := 82) hx hb dX8_count_110 (by decide) ?_
            exact ih7 (ct + 1) (i + 1) ls (by omega) (by omega) (y2c_y h2 c9) (lv_sub hl [0, 1, 2, 3] rfl)
    exact lp82_4 (768 + 1) 0 0 ls (by omega) (Nat.zero_le _) rfl (lv_sub hl [0, 1, 2, 3] rfl)
  · refine x_top (congrArg Value.int hs3) ?_
    refine lv_tableIn (tgt := 115) hx hb dX8_count_1 (by decide) (by decide) rfl (by decide) ?_
    subst hs3
    refine lv_aload_n hx hb dX8_count_115 rfl (lv_at hl 0 rfl) ?_
    refine x_get (C := RX8) (T := TX8) (N := 27) hx hb hts hi_X8_count_X8 hown hK hV f1 rfl 24 (by decide) (hts (.fieldLink RX8 184 "SaddleHouseModel" "allHours" "I") (List.mem_of_getElem? (i := 8) rfl)) (fun _ h9 => h9) rfl dX8_count_116 ?_
    exact x_ri hx hb hr hlocks dX8_count_119 (by show _ = _; rw [sp_count]; rfl)
  · have _u := trivial
    refine lv_tableOut (tgt := 120) hx hb dX8_count_1 (x_out hs3 (by decide)) (by decide) ?_
    refine lv_bipush (v := -102) hx hb dX8_count_120 (by decide +kernel) ?_
    exact x_ri hx hb hr hlocks dX8_count_122 (by show _ = _; rw [sp_count, if_neg (x_c8n hs3 (by decide)), if_neg (x_c8n hs3 (by decide)), if_neg (x_c8n hs3 (by decide)), if_neg (x_c8n hs3 (by decide)), if_neg (x_c8n hs3 (by decide)), if_neg (x_c8n hs3 (by decide)), if_neg (x_c8n hs3 (by decide)), if_neg (x_c8n hs3 (by decide))])
