abbrev rm_X8_room : Room := { frames := 0, cells := 0, slots := 0, locals := 0 }
theorem hi_X8_room_X8 : ∀ w ∈ wsX80, w ∈ wsX8_room := fun w h => List.mem_cons_of_mem _ (List.mem_append_right _ h)
set_option maxHeartbeats 4000000 in
set_option maxRecDepth 100000 in
theorem c_X8_room (l : Launch) (D : va_G) (cy : Nat → ClassId) (loc : Nat → Nat) (w : xM) (sz : Nat) (σ : xS) (z0 z1 z2 z3 z4 : Int32) (P : Nat → Int32) (kh wd ht : Nat) (hk4 : kh < 4) (hw1 : 1 ≤ wd) (hw2 : wd ≤ 16) (hh1 : 1 ≤ ht) (hh2 : ht ≤ 12) (f1 : w (300) = some (.inr (8, [.ref (loc (301)), .int (nI (σ.2 0)), .ref (loc (302)), .ref (loc (303)), .ref (loc (304)), .int (nI (σ.2 1)), .ref (loc (305)), .ref (loc (306)), .ref (loc (307)), .ref (loc (308)), .int (z0), .int (z1), .int (z2), .int (z3), .int (nI (σ.2 5)), .ref (loc (309)), .ref (loc (310)), .int (z4), .int (nI (σ.2 2)), .ref (loc (311)), .int (nI (σ.2 3)), .ref (loc (312)), .ref (loc (313)), .int (σ.1 10 0), .int (σ.1 10 1), .int (nI (σ.2 4)), .ref (loc (314))]))) (f2 : w (311) = some (eI cy 768 (P))) : Met l yX8_room wsX8_room rm_X8_room (va_Pc [.ref (loc (300)), .int (nI (kh)), .int (nI (wd)), .int (nI (ht))] (xP D cy loc w sz)) (vp_Si (fun r => xroom (xsl 192 P (192 * kh)) wd ht r)) 0 0 (fun _ => False) := by
  refine x_met (cc := cX8_room) (maxL := 8) (ret := (some .int)) (C := RX8) (by decide) rfl rfl (Nat.le_of_ble_eq_true rfl) ?_
  intro p e s m below meth c ls hx hb hml hr hts hown hlocks hin hP hl
  obtain ⟨hsz, hV, hK⟩ := hP
  subst hsz
  have hl : lv_has ls 8 [(0, .ref (loc (300))), (1, .int (nI (kh))), (2, .int (nI (wd))), (3, .int (nI (ht)))] := hl
  obtain ⟨A, hA⟩ : ∃ A, A = wd * ht := ⟨_, rfl⟩
  have hA9 : A ≤ 192 := by rw [hA]; exact Nat.mul_le_mul hw2 hh2
  refine lv_iconst (v := nI 0) hx hb dX8_room_0 (by decide +kernel) ?_
  refine lv_istore (lv' := [(4, .int (nI (0))), (0, .ref (loc (300))), (1, .int (nI (kh))), (2, .int (nI (wd))), (3, .int (nI (ht)))]) hx hb dX8_room_1 hl (by decide) rfl (fun ls hl => ?_)
  have lp3_3 : ∀ (fuel4 : Nat) (y : Nat) (ls : Array Slot), 13 - y < fuel4 → (y ≤ 13) → (∀ y' x', y' + ht ≤ 12 → x' + wd ≤ 16 → y' < y → ¬ xfit (xsl 192 P (192 * kh)) wd ht (16 * y' + x')) → lv_has ls 8 [(4, .int (nI (y))), (0, .ref (loc (300))), (1, .int (nI (kh))), (2, .int (nI (wd))), (3, .int (nI (ht)))] → W p l e rm_X8_room s m ([.ref (loc (300)), .int (nI (kh)), .int (nI (wd)), .int (nI (ht))] : List Value).toArray below meth c s.heap [] 0 0 (MQ below (vp_Si (fun r => xroom (xsl 192 P (192 * kh)) wd ht r)) ([.ref (loc (300)), .int (nI (kh)), .int (nI (wd)), .int (nI (ht))] : List Value).toArray s 0 0 (fun _ => False)) (F0 m 3 ls []) := by
    intro fuel4
    induction fuel4 with
    | zero => intro y ls hm5; exact absurd hm5 (Nat.not_lt_zero _)
    | succ fuel4 ih6 =>
      intro y ls hm5 h1 h2  hl
      refine lv_iload hx hb dX8_room_3 (lv_at hl 0 rfl) ?_
      refine lv_iload_n hx hb dX8_room_5 rfl (lv_at hl 4 rfl) ?_
      refine x_iadd hx hb (y) (ht) dX8_room_6 ?_
      refine lv_bipush (v := nI 12) hx hb dX8_room_7 (by decide +kernel) ?_
      refine x_cgt hx hb (y + ht) (12) (by omega) (by omega) (tgt := 114) dX8_room_9 (by decide) (fun c7 => ?_) (fun c7 => ?_)
      · have _u := trivial
        refine lv_iconst (v := -1) hx hb dX8_room_114 (by decide +kernel) ?_
        exact x_ri hx hb hr hlocks dX8_room_115 (Or.inr ⟨rfl, fun y2 x2 a b => h2 y2 x2 a b (by omega)⟩)
      · have _u := trivial
        refine lv_iconst (v := nI 0) hx hb dX8_room_12 (by decide +kernel) ?_
        refine lv_istore (lv' := [(5, .int (nI (0))), (4, .int (nI (y))), (0, .ref (loc (300))), (1, .int (nI (kh))), (2, .int (nI (wd))), (3, .int (nI (ht)))]) hx hb dX8_room_13 hl (by decide) rfl (fun ls hl => ?_)
        have lp15_8 : ∀ (fuel9 : Nat) (x : Nat) (ls : Array Slot), 16 - x < fuel9 → (x ≤ 16) → (∀ x', x' + wd ≤ 16 → x' < x → ¬ xfit (xsl 192 P (192 * kh)) wd ht (16 * y + x')) → lv_has ls 8 [(5, .int (nI (x))), (4, .int (nI (y))), (0, .ref (loc (300))), (1, .int (nI (kh))), (2, .int (nI (wd))), (3, .int (nI (ht)))] → W p l e rm_X8_room s m ([.ref (loc (300)), .int (nI (kh)), .int (nI (wd)), .int (nI (ht))] : List Value).toArray below meth c s.heap [] 0 0 (MQ below (vp_Si (fun r => xroom (xsl 192 P (192 * kh)) wd ht r)) ([.ref (loc (300)), .int (nI (kh)), .int (nI (wd)), .int (nI (ht))] : List Value).toArray s 0 0 (fun _ => False)) (F0 m 15 ls []) := by
          intro fuel9
          induction fuel9 with
          | zero => intro x ls hm10; exact absurd hm10 (Nat.not_lt_zero _)
          | succ fuel9 ih11 =>
            intro x ls hm10 h3 h4  hl
            refine lv_iload hx hb dX8_room_15 (lv_at hl 0 rfl) ?_
            refine lv_iload_n hx hb dX8_room_17 rfl (lv_at hl 4 rfl) ?_
            refine x_iadd hx hb (x) (wd) dX8_room_18 ?_
            refine lv_bipush (v := nI 16) hx hb dX8_room_19 (by decide +kernel) ?_
            refine x_cgt hx hb (x + wd) (16) (by omega) (by omega) (tgt := 108) dX8_room_21 (by decide) (fun c12 => ?_) (fun c12 => ?_)
            · have _u := trivial
              refine lv_iinc (v := nI (y + 1)) (lv' := [(4, .int (nI (y + 1))), (5, .int (nI (x))), (0, .ref (loc (300))), (1, .int (nI (kh))), (2, .int (nI (wd))), (3, .int (nI (ht)))]) hx hb dX8_room_108 hl (k := 1) rfl (nI_add _ _) (by decide) rfl (fun ls hl => ?_)
              refine lv_goto (tgt := 3) hx hb dX8_room_111 (by decide) ?_
              exact ih6 (y + 1) ls (by omega) (by omega) (xroom_y h2 h4 (by omega)) (lv_sub hl [0, 2, 3, 4, 5] rfl)
            · have _u := trivial
              refine lv_iconst (v := nI 1) hx hb dX8_room_24 (by decide +kernel) ?_
              refine lv_istore (lv' := [(6, .int (nI (1))), (5, .int (nI (x))), (4, .int (nI (y))), (0, .ref (loc (300))), (1, .int (nI (kh))), (2, .int (nI (wd))), (3, .int (nI (ht)))]) hx hb dX8_room_25 hl (by decide) rfl (fun ls hl => ?_)
              refine lv_iconst (v := nI 0) hx hb dX8_room_27 (by decide +kernel) ?_
              refine lv_istore (lv' := [(7, .int (nI (0))), (6, .int (nI (1))), (5, .int (nI (x))), (4, .int (nI (y))), (0, .ref (loc (300))), (1, .int (nI (kh))), (2, .int (nI (wd))), (3, .int (nI (ht)))]) hx hb dX8_room_28 hl (by decide) rfl (fun ls hl => ?_)
              have lp30_13 : ∀ (fuel14 : Nat) (z : Int32) (k : Nat) (ls : Array Slot), A - k < fuel14 → (k ≤ A) → (z = xb (yPf P kh wd y x k)) → lv_has ls 8 [(7, .int (nI (k))), (6, .int (z)), (5, .int (nI (x))), (4, .int (nI (y))), (0, .ref (loc (300))), (1, .int (nI (kh))), (2, .int (nI (wd))), (3, .int (nI (ht)))] → W p l e rm_X8_room s m ([.ref (loc (300)), .int (nI (kh)), .int (nI (wd)), .int (nI (ht))] : List Value).toArray below meth c s.heap [] 0 0 (MQ below (vp_Si (fun r => xroom (xsl 192 P (192 * kh)) wd ht r)) ([.ref (loc (300)), .int (nI (kh)), .int (nI (wd)), .int (nI (ht))] : List Value).toArray s 0 0 (fun _ => False)) (F0 m 30 ls []) := by
                intro fuel14
                induction fuel14 with
                | zero => intro z k ls hm15; exact absurd hm15 (Nat.not_lt_zero _)
                | succ fuel14 ih16 =>
                  intro z k ls hm15 h5 h6  hl
                  refine lv_iload hx hb dX8_room_30 (lv_at hl 0 rfl) ?_
                  refine lv_iload_n hx hb dX8_room_32 rfl (lv_at hl 6 rfl) ?_
                  refine lv_iload_n hx hb dX8_room_33 rfl (lv_at hl 7 rfl) ?_
                  refine lv_imul hx hb dX8_room_34 ?_
                  refine x_top (congrArg Value.int (show _ = nI A from (pk_mul _ _).trans (by rw [hA]))) ?_
                  refine x_cge hx hb (k) (A) (by omega) (by omega) (tgt := 88) dX8_room_35 (by decide) (fun c17 => ?_) (fun c17 => ?_)
                  · have _u := trivial
                    refine lv_iload hx hb dX8_room_88 (lv_at hl 1 rfl) ?_
                    refine lv_if_eq (tgt := 102) hx hb dX8_room_90 (by decide) (fun c18 => ?_) (fun c18 => ?_)
                    · have _u := trivial
                      refine lv_iinc (v := nI (x + 1)) (lv' := [(5, .int (nI (x + 1))), (7, .int (nI (k))), (6, .int (z)), (4, .int (nI (y))), (0, .ref (loc (300))), (1, .int (nI (kh))), (2, .int (nI (wd))), (3, .int (nI (ht)))]) hx hb dX8_room_102 hl (k := 2) rfl (nI_add _ _) (by decide) rfl (fun ls hl => ?_)
                      refine lv_goto (tgt := 15) hx hb dX8_room_105 (by decide) ?_
                      exact ih11 (x + 1) ls (by omega) (by omega) (xroom_x h4 (yrm_n h6 c18 (by omega) hw1 (by omega) (by omega))) (lv_sub hl [0, 3, 4, 5, 6, 7] rfl)
                    · have _u := trivial
                      refine lv_bipush (v := nI 16) hx hb dX8_room_93 (by decide +kernel) ?_
                      refine lv_iload hx hb dX8_room_95 (lv_at hl 3 rfl) ?_
                      refine x_imul hx hb (16) (y) dX8_room_97 ?_
                      refine lv_iload hx hb dX8_room_98 (lv_at hl 2 rfl) ?_
                      refine x_iadd hx hb (16 * y) (x) dX8_room_100 ?_
                      exact x_ri hx hb hr hlocks dX8_room_101 (Or.inl ⟨y, x, by omega, by omega, rfl, yft_y hw1 (by omega) (by omega) (by rw [← hA, show A = k by omega]; exact yrm_t h6 c18), xroom_e (by omega) h2 h4⟩)
                  · have _u := trivial
                    have hdv : k / wd < ht := Nat.div_lt_of_lt_mul (by omega)
                    have hmd : k % wd < wd := Nat.mod_lt k hw1
                    refine lv_iload hx hb dX8_room_38 (lv_at hl 1 rfl) ?_
                    refine lv_if_eq (tgt := 88) hx hb dX8_room_40 (by decide) (fun c19 => ?_) (fun c19 => ?_)
                    · have _u := trivial
                      refine lv_iload hx hb dX8_room_88 (lv_at hl 1 rfl) ?_
                      refine lv_if_eq (tgt := 102) hx hb dX8_room_90 (by decide) (fun c20 => ?_) (fun c20 => ?_)
                      · have _u := trivial
                        refine lv_iinc (v := nI (x + 1)) (lv' := [(5, .int (nI (x + 1))), (7, .int (nI (k))), (6, .int (z)), (4, .int (nI (y))), (0, .ref (loc (300))), (1, .int (nI (kh))), (2, .int (nI (wd))), (3, .int (nI (ht)))]) hx hb dX8_room_102 hl (k := 2) rfl (nI_add _ _) (by decide) rfl (fun ls hl => ?_)
                        refine lv_goto (tgt := 15) hx hb dX8_room_105 (by decide) ?_
                        exact ih11 (x + 1) ls (by omega) (by omega) (xroom_x h4 (yrm_n h6 c20 (by omega) hw1 (by omega) (by omega))) (lv_sub hl [0, 3, 4, 5, 6, 7] rfl)
                      · have _u := trivial
                        exact absurd c19 c20
                    · have _u := trivial
                      refine lv_aload_n hx hb dX8_room_43 rfl (lv_at hl 4 rfl) ?_
                      refine x_get (C := RX8) (T := TX8) (N := 27) hx hb hts hi_X8_room_X8 hown hK hV f1 rfl 19 (by decide) (hts (.fieldLink RX8 40 "SaddleHouseModel" "patches" "[I") (List.mem_of_getElem? (i := 1) rfl)) (fun _ h9 => h9) rfl dX8_room_44 ?_
                      refine lv_sipush (v := nI 192) hx hb dX8_room_47 (by decide +kernel) ?_
                      refine lv_iload_n hx hb dX8_room_50 rfl (lv_at hl 5 rfl) ?_
                      refine x_imul hx hb (192) (kh) dX8_room_51 ?_
                      refine lv_bipush (v := nI 16) hx hb dX8_room_52 (by decide +kernel) ?_
                      refine lv_iload hx hb dX8_room_54 (lv_at hl 3 rfl) ?_
                      refine lv_iload hx hb dX8_room_56 (lv_at hl 0 rfl) ?_
                      refine lv_iload_n hx hb dX8_room_58 rfl (lv_at hl 6 rfl) ?_
                      refine x_idiv hx hb (k) (wd) (by omega) (by omega) (by omega) dX8_room_59 ?_
                      refine x_iadd hx hb (y) (k / wd) dX8_room_60 ?_
                      refine x_imul hx hb (16) (y + (k / wd)) dX8_room_61 ?_
                      refine x_iadd hx hb (192 * kh) (16 * (y + (k / wd))) dX8_room_62 ?_
                      refine lv_iload hx hb dX8_room_63 (lv_at hl 2 rfl) ?_
                      refine x_iadd hx hb ((192 * kh) + (16 * (y + (k / wd)))) (x) dX8_room_65 ?_
                      refine lv_iload hx hb dX8_room_66 (lv_at hl 0 rfl) ?_
                      refine lv_iload_n hx hb dX8_room_68 rfl (lv_at hl 6 rfl) ?_
                      refine lv_irem hx hb dX8_room_69 (nI_ne0 (by omega) (by omega)) ?_
                      refine x_top (congrArg Value.int (show _ = nI (k % wd) from pk_rem (by omega) (by omega) (by omega))) ?_
                      refine x_iadd hx hb (((192 * kh) + (16 * (y + (k / wd)))) + x) (k % wd) dX8_room_70 ?_
                      refine x_iald hx hb hK hV f2 ((((192 * kh) + (16 * (y + (k / wd)))) + x) + (k % wd)) (by omega) (by decide) dX8_room_71 ?_
                      refine lv_if_ne (tgt := 79) hx hb dX8_room_72 (by decide) (fun c21 => ?_) (fun c21 => ?_)
                      · have _u := trivial
                        refine lv_iconst (v := nI 0) hx hb dX8_room_79 (by decide +kernel) ?_
                        refine lv_istore (lv' := [(6, .int (nI (0))), (7, .int (nI (k))), (5, .int (nI (x))), (4, .int (nI (y))), (0, .ref (loc (300))), (1, .int (nI (kh))), (2, .int (nI (wd))), (3, .int (nI (ht)))]) hx hb dX8_room_80 hl (by decide) rfl (fun ls hl => ?_)
                        refine lv_iinc (v := nI (k + 1)) (lv' := [(7, .int (nI (k + 1))), (6, .int (nI (0))), (5, .int (nI (x))), (4, .int (nI (y))), (0, .ref (loc (300))), (1, .int (nI (kh))), (2, .int (nI (wd))), (3, .int (nI (ht)))]) hx hb dX8_room_82 hl (k := 1) rfl (nI_add _ _) (by decide) rfl (fun ls hl => ?_)
                        refine lv_goto (tgt := 30) hx hb dX8_room_85 (by decide) ?_
                        exact ih16 (nI 0) (k + 1) ls (by omega) (by omega) (yrm_0 c21) (lv_sub hl [0, 1, 2, 3, 4, 5, 6, 7] rfl)
                      · have _u := trivial
                        refine lv_iconst (v := nI 1) hx hb dX8_room_75 (by decide +kernel) ?_
                        refine lv_goto (tgt := 80) hx hb dX8_room_76 (by decide) ?_
                        refine lv_istore (lv' := [(6, .int (nI (1))), (7, .int (nI (k))), (5, .int (nI (x))), (4, .int (nI (y))), (0, .ref (loc (300))), (1, .int (nI (kh))), (2, .int (nI (wd))), (3, .int (nI (ht)))]) hx hb dX8_room_80 hl (by decide) rfl (fun ls hl => ?_)
                        refine lv_iinc (v := nI (k + 1)) (lv' := [(7, .int (nI (k + 1))), (6, .int (nI (1))), (5, .int (nI (x))), (4, .int (nI (y))), (0, .ref (loc (300))), (1, .int (nI (kh))), (2, .int (nI (wd))), (3, .int (nI (ht)))]) hx hb dX8_room_82 hl (k := 1) rfl (nI_add _ _) (by decide) rfl (fun ls hl => ?_)
                        refine lv_goto (tgt := 30) hx hb dX8_room_85 (by decide) ?_
                        exact ih16 (nI 1) (k + 1) ls (by omega) (by omega) (yrm_1 h6 c19 c21) (lv_sub hl [0, 1, 2, 3, 4, 5, 6, 7] rfl)
              exact lp30_13 (A + 1) (nI 1) 0 ls (by omega) (Nat.zero_le _) (xb_t (fun i h => absurd h (Nat.not_lt_zero i))).symm (lv_sub hl [0, 1, 2, 3, 4, 5, 6, 7] rfl)
        exact lp15_8 (16 + 1) 0 ls (by omega) (by omega) (fun x _ h => absurd h (Nat.not_lt_zero x)) (lv_sub hl [0, 1, 2, 3, 4, 5] rfl)
  exact lp3_3 (13 + 1) 0 ls (by omega) (by omega) (fun y x _ _ h => absurd h (Nat.not_lt_zero y)) (lv_sub hl [0, 1, 2, 3, 4] rfl)
abbrev rm_X8_fill : Room := { frames := 0, cells := 0, slots := 0, locals := 0 }
theorem hi_X8_fill_X8 : ∀ w ∈ wsX80, w ∈ wsX8_fill := fun w h => List.mem_cons_of_mem _ (List.mem_append_right _ h)
set_option maxHeartbeats 4000000 in
set_option maxRecDepth 100000 in
theorem c_X8_fill (l : Launch) (D : va_G) (cy : Nat → ClassId) (loc : Nat → Nat) (w : xM) (sz : Nat) (σ : xS) (z0 z1 z2 z3 z4 : Int32) (P : Nat → Int32) (kh qy qx wd ht : Nat) (sg : Int32) (hk4 : kh < 4) (hw1 : 1 ≤ wd) (hw2 : wd ≤ 16) (hh2 : ht ≤ 12) (hy : qy + ht ≤ 12) (hx9 : qx + wd ≤ 16) (f1 : w (300) = some (.inr (8, [.ref (loc (301)), .int (nI (σ.2 0)), .ref (loc (302)), .ref (loc (303)), .ref (loc (304)), .int (nI (σ.2 1)), .ref (loc (305)), .ref (loc (306)), .ref (loc (307)), .ref (loc (308)), .int (z0), .int (z1), .int (z2), .int (z3), .int (nI (σ.2 5)), .ref (loc (309)), .ref (loc (310)), .int (z4), .int (nI (σ.2 2)), .ref (loc (311)), .int (nI (σ.2 3)), .ref (loc (312)), .ref (loc (313)), .int (σ.1 10 0), .int (σ.1 10 1), .int (nI (σ.2 4)), .ref (loc (314))]))) (f2 : w (311) = some (eI cy 768 (P))) : Met l yX8_fill wsX8_fill rm_X8_fill (va_Pc [.ref (loc (300)), .int (nI (kh)), .int (nI (16 * qy + qx)), .int (nI (wd)), .int (nI (ht)), .int (sg)] (xP D cy loc w sz)) (va_Qv (fun u => u.1 = loc ∧ u.2 = xup w 311 (eI cy 768 (xmh P kh qy qx wd ht sg))) (xB D (xA loc w sz)) (xA loc w sz)) 0 0 (xA loc w sz) := by
  refine x_met (cc := cX8_fill) (maxL := 7) (ret := none) (C := RX8) (by decide) rfl rfl (Nat.le_of_ble_eq_true rfl) ?_
  intro p e s m below meth c ls hx hb hml hr hts hown hlocks hin hP hl
  obtain ⟨hsz, hV, hK⟩ := hP
  subst hsz
  have hA : ∀ q : Nat, s.heap.size ≤ q → xA loc w s.heap.size q := fun q h => Or.inr h
  have hS : va_S (xA loc w s.heap.size) s.heap s.heap [] := va_S.rf
  have hl : lv_has ls 7 [(0, .ref (loc (300))), (1, .int (nI (kh))), (2, .int (nI (16 * qy + qx))), (3, .int (nI (wd))), (4, .int (nI (ht))), (5, .int (sg))] := hl
  obtain ⟨A, hA⟩ : ∃ A, A = wd * ht := ⟨_, rfl⟩
  have hA9 : A ≤ 192 := by rw [hA]; exact Nat.mul_le_mul hw2 hh2
  refine lv_iconst (v := nI 0) hx hb dX8_fill_0 (by decide +kernel) ?_
  refine lv_istore (lv' := [(6, .int (nI (0))), (0, .ref (loc (300))), (1, .int (nI (kh))), (2, .int (nI (16 * qy + qx))), (3, .int (nI (wd))), (4, .int (nI (ht))), (5, .int (sg))]) hx hb dX8_fill_1 hl (by decide) rfl (fun ls hl => ?_)
  have lp3_3 : ∀ (fuel8 : Nat) (k : Nat) (fz : Nat → Int32) (ls : Array Slot) (H4 : Heap) (L5 : List Loc), A - k < fuel8 → (k ≤ A) → (∀ i, i < k → fz (192 * kh + (16 * qy + qx) + 16 * (i / wd) + i % wd) = sg) → (∀ i, (∀ j, j < k → i ≠ 192 * kh + (16 * qy + qx) + 16 * (j / wd) + j % wd) → fz i = P i) → xV D (xA loc w s.heap.size) loc ((xup w (311) (eI cy 768 (fz)))) H4 → va_S (xA loc w s.heap.size) s.heap H4 L5 → lv_has ls 7 [(6, .int (nI (k))), (0, .ref (loc (300))), (1, .int (nI (kh))), (2, .int (nI (16 * qy + qx))), (3, .int (nI (wd))), (4, .int (nI (ht))), (5, .int (sg))] → W p l e rm_X8_fill s m ([.ref (loc (300)), .int (nI (kh)), .int (nI (16 * qy + qx)), .int (nI (wd)), .int (nI (ht)), .int (sg)] : List Value).toArray below meth c H4 L5 0 0 (MQ below (va_Qv (fun u => u.1 = loc ∧ u.2 = xup w 311 (eI cy 768 (xmh P kh qy qx wd ht sg))) (xB D (xA loc w s.heap.size)) (xA loc w s.heap.size)) ([.ref (loc (300)), .int (nI (kh)), .int (nI (16 * qy + qx)), .int (nI (wd)), .int (nI (ht)), .int (sg)] : List Value).toArray s 0 0 (xA loc w s.heap.size)) (F0 m 3 ls []) := by
    intro fuel8
    induction fuel8 with
    | zero => intro k fz ls H4 L5 hm9; exact absurd hm9 (Nat.not_lt_zero _)
    | succ fuel8 ih10 =>
      intro k fz ls H4 L5 hm9 h1 h2 h3 hV6 hS7 hl
      have f11 : (xup w (311) (eI cy 768 (fz))) (300) = some (.inr (8, [.ref (loc (301)), .int (nI (σ.2 0)), .ref (loc (302)), .ref (loc (303)), .ref (loc (304)), .int (nI (σ.2 1)), .ref (loc (305)), .ref (loc (306)), .ref (loc (307)), .ref (loc (308)), .int (z0), .int (z1), .int (z2), .int (z3), .int (nI (σ.2 5)), .ref (loc (309)), .ref (loc (310)), .int (z4), .int (nI (σ.2 2)), .ref (loc (311)), .int (nI (σ.2 3)), .ref (loc (312)), .ref (loc (313)), .int (σ.1 10 0), .int (σ.1 10 1), .int (nI (σ.2 4)), .ref (loc (314))])) := xup_o (f1) (by omega)
      have f12 : (xup w (311) (eI cy 768 (fz))) (311) = some (eI cy 768 (fz)) := xup_at _ _ _
      refine lv_iload hx hb dX8_fill_3 (lv_at hl 0 rfl) ?_
      refine lv_iload_n hx hb dX8_fill_5 rfl (lv_at hl 4 rfl) ?_
      refine lv_iload hx hb dX8_fill_6 (lv_at hl 5 rfl) ?_
      refine lv_imul hx hb dX8_fill_8 ?_
      refine x_top (congrArg Value.int (show _ = nI A from (pk_mul _ _).trans (by rw [hA]))) ?_
      refine x_cge hx hb (k) (A) (by omega) (by omega) (tgt := 45) dX8_fill_9 (by decide) (fun c13 => ?_) (fun c13 => ?_)
      · have _u := trivial
        exact x_rmv hx hb hr hlocks dX8_fill_45 hV6 hS7 (⟨rfl, by rw [yfi_e hw1 hy hx9 (by omega) h2 h3]⟩)
      · have _u := trivial
        have hdv : k / wd < ht := Nat.div_lt_of_lt_mul (by omega)
        have hmd : k % wd < wd := Nat.mod_lt k hw1
        refine lv_aload_n hx hb dX8_fill_12 rfl (lv_at hl 1 rfl) ?_
        refine x_get (C := RX8) (T := TX8) (N := 27) hx hb hts hi_X8_fill_X8 hown hK hV6 f11 rfl 19 (by decide) (hts (.fieldLink RX8 40 "SaddleHouseModel" "patches" "[I") (List.mem_of_getElem? (i := 1) rfl)) (fun _ h9 => h9) rfl dX8_fill_13 ?_
        refine lv_sipush (v := nI 192) hx hb dX8_fill_16 (by decide +kernel) ?_
        refine lv_iload_n hx hb dX8_fill_19 rfl (lv_at hl 2 rfl) ?_
        refine x_imul hx hb (192) (kh) dX8_fill_20 ?_
        refine lv_iload_n hx hb dX8_fill_21 rfl (lv_at hl 3 rfl) ?_
        refine x_iadd hx hb (192 * kh) (16 * qy + qx) dX8_fill_22 ?_
        refine lv_bipush (v := nI 16) hx hb dX8_fill_23 (by decide +kernel) ?_
        refine lv_iload hx hb dX8_fill_25 (lv_at hl 0 rfl) ?_
        refine lv_iload_n hx hb dX8_fill_27 rfl (lv_at hl 4 rfl) ?_
        refine x_idiv hx hb (k) (wd) (by omega) (by omega) (by omega) dX8_fill_28 ?_
        refine x_imul hx hb (16) (k / wd) dX8_fill_29 ?_
        refine x_iadd hx hb ((192 * kh) + (16 * qy + qx)) (16 * (k / wd)) dX8_fill_30 ?_
        refine lv_iload hx hb dX8_fill_31 (lv_at hl 0 rfl) ?_
        refine lv_iload_n hx hb dX8_fill_33 rfl (lv_at hl 4 rfl) ?_
        refine lv_irem hx hb dX8_fill_34 (nI_ne0 (by omega) (by omega)) ?_
        refine x_top (congrArg Value.int (show _ = nI (k % wd) from pk_rem (by omega) (by omega) (by omega))) ?_
        refine x_iadd hx hb (((192 * kh) + (16 * qy + qx)) + (16 * (k / wd))) (k % wd) dX8_fill_35 ?_
        refine lv_iload hx hb dX8_fill_36 (lv_at hl 6 rfl) ?_
        refine x_iast hx hb hK hV6 hS7 f12 ((((192 * kh) + (16 * qy + qx)) + (16 * (k / wd))) + (k % wd)) (by omega) (by decide) dX8_fill_38 (fun H14 L15 hV16 hS17 => ?_)
        have hV18 := hV16.eq (xup_xup _ _ _ _)
        have f19 : (xup w (311) (eI cy 768 (upd fz ((((192 * kh) + (16 * qy + qx)) + (16 * (k / wd))) + (k % wd)) sg))) (300) = some (.inr (8, [.ref (loc (301)), .int (nI (σ.2 0)), .ref (loc (302)), .ref (loc (303)), .ref (loc (304)), .int (nI (σ.2 1)), .ref (loc (305)), .ref (loc (306)), .ref (loc (307)), .ref (loc (308)), .int (z0), .int (z1), .int (z2), .int (z3), .int (nI (σ.2 5)), .ref (loc (309)), .ref (loc (310)), .int (z4), .int (nI (σ.2 2)), .ref (loc (311)), .int (nI (σ.2 3)), .ref (loc (312)), .ref (loc (313)), .int (σ.1 10 0), .int (σ.1 10 1), .int (nI (σ.2 4)), .ref (loc (314))])) := xup_o (f1) (by omega)
        have f20 : (xup w (311) (eI cy 768 (upd fz ((((192 * kh) + (16 * qy + qx)) + (16 * (k / wd))) + (k % wd)) sg))) (311) = some (eI cy 768 (upd fz ((((192 * kh) + (16 * qy + qx)) + (16 * (k / wd))) + (k % wd)) sg)) := xup_at _ _ _
        refine lv_iinc (v := nI (k + 1)) (lv' := [(6, .int (nI (k + 1))), (0, .ref (loc (300))), (1, .int (nI (kh))), (2, .int (nI (16 * qy + qx))), (3, .int (nI (wd))), (4, .int (nI (ht))), (5, .int (sg))]) hx hb dX8_fill_39 hl (k := 0) rfl (nI_add _ _) (by decide) rfl (fun ls hl => ?_)
        refine lv_goto (tgt := 3) hx hb dX8_fill_42 (by decide) ?_
        exact ih10 (k + 1) (upd fz ((((192 * kh) + (16 * qy + qx)) + (16 * (k / wd))) + (k % wd)) sg) ls _ _ (by omega) (by omega) (yfi_1 (X := fun j => 192 * kh + (16 * qy + qx) + 16 * (j / wd) + j % wd) h2) (yfi_2 (X := fun j => 192 * kh + (16 * qy + qx) + 16 * (j / wd) + j % wd) h3) hV18 hS17 (lv_sub hl [0, 1, 2, 3, 4, 5, 6] rfl)
  exact lp3_3 (A + 1) 0 P ls _ _ (by omega) (Nat.zero_le _) (fun i h => absurd h (Nat.not_lt_zero i)) (fun i _ => rfl) (hV.eq (xup_id f2).symm) hS (lv_sub hl [0, 1, 2, 3, 4, 5, 6] rfl)
