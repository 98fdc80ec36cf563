abbrev rm_X7_digest : Room := { frames := 3, cells := 0, slots := 0, locals := 74 }
theorem hi_X7_digest_X0 : ∀ w ∈ wsX00, w ∈ wsX7_digest := fun w h => List.mem_cons_of_mem _ (List.mem_append_left _ (List.mem_append_left _ (List.mem_append_left _ (List.mem_append_right _ h))))
theorem hi_X7_digest_X1 : ∀ w ∈ wsX10, w ∈ wsX7_digest := fun w h => List.mem_cons_of_mem _ (List.mem_append_left _ (List.mem_append_left _ (List.mem_append_left _ (List.mem_append_left _ (List.mem_append_right _ h)))))
theorem hi_X7_digest_X6 : ∀ w ∈ wsX60, w ∈ wsX7_digest := fun w h => List.mem_cons_of_mem _ (List.mem_append_left _ (List.mem_append_left _ (List.mem_append_left _ (List.mem_append_left _ (List.mem_append_left _ (List.mem_append_right _ h))))))
theorem hi_X7_digest_X7 : ∀ w ∈ wsX70, w ∈ wsX7_digest := fun w h => List.mem_cons_of_mem _ (List.mem_append_left _ (List.mem_append_left _ (List.mem_append_left _ (List.mem_append_left _ (List.mem_append_left _ (List.mem_append_left _ (List.mem_append_right _ h)))))))
set_option maxHeartbeats 4000000 in
set_option maxRecDepth 100000 in
theorem c_X7_digest (l : Launch) (D : va_G) (cy : Nat → ClassId) (loc : Nat → Nat) (w : xM) (sz : Nat) (σ : xS) (hN : xN8 σ) (hR : xR cy loc σ w)   : Met l yX7_digest wsX7_digest rm_X7_digest (va_Pc [.ref (loc (0))] (xP D cy loc w sz)) (vp_Sl (fun r => r = sp_digest σ)) 0 0 (fun _ => False) := by
  refine x_met (cc := cX7_digest) (maxL := 4) (ret := (some .long)) (C := RX7) (by decide) rfl rfl (Nat.le_of_ble_eq_true rfl) ?_
  intro p e s m below meth c ls hx hb hml hr hts hown hlocks hin hP hl
  obtain ⟨hsz, hV, hK⟩ := hP
  subst hsz
  have hl : lv_has ls 4 [(0, .ref (loc (0)))] := hl
  have hNN := hN
  have hRR := hR
  obtain ⟨g0, b0, q0, hw⟩ := hR
  obtain ⟨hN0, hN1, hN2, hN3, hN4, hN5, hN6⟩ := hN
  have f1 : w (0) = some (.inr (7, [.ref (loc (1)), .ref (loc (2)), .ref (loc (3)), .ref (loc (4)), .ref (loc (5)), .ref (loc (6)), .ref (loc (7)), .int (nI (σ.2 0)), .int (nI (σ.2 1)), .int (nI (σ.2 2)), .int (nI (σ.2 3)), .int (nI (σ.2 4)), .int (nI (σ.2 5)), .int (nI (σ.2 6)), .int (σ.1 10 1), .int (σ.1 10 0), .ref (loc (8)), .ref (loc (11))])) := (hw 0 (by decide)).trans rfl
  have f2 : w (2) = some (eQ cy 3 8 (xq (fun k => loc (20 + k)) (σ.2 0))) := (hw 2 (by decide)).trans rfl
  have f3 : w (3) = some (eQ cy 6 8 (xq (fun k => loc (150 + k)) (σ.2 1))) := (hw 3 (by decide)).trans rfl
  have f4 : w (4) = some (eQ cy 2 4 (xq (fun k => loc (180 + k)) (σ.2 2))) := (hw 4 (by decide)).trans rfl
  have f5 : w (5) = some (eQ cy 1 3 (xq (fun k => loc (200 + k)) (σ.2 3))) := (hw 5 (by decide)).trans rfl
  have f6 : w (6) = some (eQ cy 5 12 (xq (fun k => loc (210 + k)) (σ.2 4))) := (hw 6 (by decide)).trans rfl
  have f7 : w (7) = some (eI cy 6 (σ.1 5)) := (hw 7 (by decide)).trans rfl
  refine lv_ldc2 (v := 131) hx hb hown (hts (.constantLong RX7 227 (131)) (List.mem_of_getElem? (i := 1) rfl)) dX7_digest_0 ?_
  refine lv_lstore_n (lv' := [(1, .long (131)), (0, .ref (loc (0)))]) hx hb dX7_digest_3 rfl hl (by decide) rfl (fun ls hl => ?_)
  refine lv_iconst (v := nI 0) hx hb dX7_digest_4 (by decide +kernel) ?_
  refine lv_istore_n (lv' := [(3, .int (nI (0))), (1, .long (131)), (0, .ref (loc (0)))]) hx hb dX7_digest_5 rfl hl (by decide) rfl (fun ls hl => ?_)
  have lp6_8 : ∀ (fuel9 : Nat) (za : Int64) (ka : Nat) (ls : Array Slot), σ.2 0 - ka < fuel9 → (ka ≤ σ.2 0) → (za = xd1 σ ka (131)) → lv_has ls 4 [(3, .int (nI (ka))), (1, .long (za)), (0, .ref (loc (0)))] → W p l e rm_X7_digest s m ([.ref (loc (0))] : List Value).toArray below meth c s.heap [] 0 0 (MQ below (vp_Sl (fun r => r = sp_digest σ)) ([.ref (loc (0))] : List Value).toArray s 0 0 (fun _ => False)) (F0 m 6 ls []) := by
    intro fuel9
    induction fuel9 with
    | zero => intro za ka ls hm10; exact absurd hm10 (Nat.not_lt_zero _)
    | succ fuel9 ih11 =>
      intro za ka ls hm10 haa hba  hl
      refine lv_iload_n hx hb dX7_digest_6 rfl (lv_at hl 0 rfl) ?_
      refine lv_aload_n hx hb dX7_digest_7 rfl (lv_at hl 2 rfl) ?_
      refine x_get (C := RX7) (T := TX7) (N := 18) hx hb hts hi_X7_digest_X7 hown hK hV f1 rfl 7 (by decide) (hts (.fieldLink RX7 46 "SaddleHouse" "horseCount" "I") (List.mem_of_getElem? (i := 2) rfl)) (fun _ h9 => h9) rfl dX7_digest_8 ?_
      refine x_cge hx hb (ka) (σ.2 0) (by omega) (by omega) (tgt := 31) dX7_digest_11 (by decide) (fun c12 => ?_) (fun c12 => ?_)
      · have _u := trivial
        refine lv_iconst (v := nI 0) hx hb dX7_digest_31 (by decide +kernel) ?_
        refine lv_istore_n (lv' := [(3, .int (nI (0))), (1, .long (za)), (0, .ref (loc (0)))]) hx hb dX7_digest_32 rfl hl (by decide) rfl (fun ls hl => ?_)
        have lp33_13 : ∀ (fuel14 : Nat) (zb : Int64) (kb : Nat) (ls : Array Slot), σ.2 1 - kb < fuel14 → (kb ≤ σ.2 1) → (zb = xd2 σ kb (xd1 σ (σ.2 0) 131)) → lv_has ls 4 [(3, .int (nI (kb))), (1, .long (zb)), (0, .ref (loc (0)))] → W p l e rm_X7_digest s m ([.ref (loc (0))] : List Value).toArray below meth c s.heap [] 0 0 (MQ below (vp_Sl (fun r => r = sp_digest σ)) ([.ref (loc (0))] : List Value).toArray s 0 0 (fun _ => False)) (F0 m 33 ls []) := by
          intro fuel14
          induction fuel14 with
          | zero => intro zb kb ls hm15; exact absurd hm15 (Nat.not_lt_zero _)
          | succ fuel14 ih16 =>
            intro zb kb ls hm15 hab hbb  hl
            refine lv_iload_n hx hb dX7_digest_33 rfl (lv_at hl 0 rfl) ?_
            refine lv_aload_n hx hb dX7_digest_34 rfl (lv_at hl 2 rfl) ?_
            refine x_get (C := RX7) (T := TX7) (N := 18) hx hb hts hi_X7_digest_X7 hown hK hV f1 rfl 8 (by decide) (hts (.fieldLink RX7 50 "SaddleHouse" "treeCount" "I") (List.mem_of_getElem? (i := 4) rfl)) (fun _ h9 => h9) rfl dX7_digest_35 ?_
            refine x_cge hx hb (kb) (σ.2 1) (by omega) (by omega) (tgt := 77) dX7_digest_38 (by decide) (fun c17 => ?_) (fun c17 => ?_)
            · have _u := trivial
              refine lv_iconst (v := nI 0) hx hb dX7_digest_77 (by decide +kernel) ?_
              refine lv_istore_n (lv' := [(3, .int (nI (0))), (1, .long (zb)), (0, .ref (loc (0)))]) hx hb dX7_digest_78 rfl hl (by decide) rfl (fun ls hl => ?_)
              have lp79_18 : ∀ (fuel19 : Nat) (zc : Int64) (kc : Nat) (ls : Array Slot), σ.2 2 - kc < fuel19 → (kc ≤ σ.2 2) → (zc = xd3 σ kc (xd2 σ (σ.2 1) (xd1 σ (σ.2 0) 131))) → lv_has ls 4 [(3, .int (nI (kc))), (1, .long (zc)), (0, .ref (loc (0)))] → W p l e rm_X7_digest s m ([.ref (loc (0))] : List Value).toArray below meth c s.heap [] 0 0 (MQ below (vp_Sl (fun r => r = sp_digest σ)) ([.ref (loc (0))] : List Value).toArray s 0 0 (fun _ => False)) (F0 m 79 ls []) := by
                intro fuel19
                induction fuel19 with
                | zero => intro zc kc ls hm20; exact absurd hm20 (Nat.not_lt_zero _)
                | succ fuel19 ih21 =>
                  intro zc kc ls hm20 hac hbc  hl
                  refine lv_iload_n hx hb dX7_digest_79 rfl (lv_at hl 0 rfl) ?_
                  refine lv_aload_n hx hb dX7_digest_80 rfl (lv_at hl 2 rfl) ?_
                  refine x_get (C := RX7) (T := TX7) (N := 18) hx hb hts hi_X7_digest_X7 hown hK hV f1 rfl 9 (by decide) (hts (.fieldLink RX7 53 "SaddleHouse" "hideCount" "I") (List.mem_of_getElem? (i := 6) rfl)) (fun _ h9 => h9) rfl dX7_digest_81 ?_
                  refine x_cge hx hb (kc) (σ.2 2) (by omega) (by omega) (tgt := 110) dX7_digest_84 (by decide) (fun c22 => ?_) (fun c22 => ?_)
                  · have _u := trivial
                    refine lv_iconst (v := nI 0) hx hb dX7_digest_110 (by decide +kernel) ?_
                    refine lv_istore_n (lv' := [(3, .int (nI (0))), (1, .long (zc)), (0, .ref (loc (0)))]) hx hb dX7_digest_111 rfl hl (by decide) rfl (fun ls hl => ?_)
                    have lp112_23 : ∀ (fuel24 : Nat) (zd : Int64) (kd : Nat) (ls : Array Slot), σ.2 3 - kd < fuel24 → (kd ≤ σ.2 3) → (zd = xd4 σ kd (xd3 σ (σ.2 2) (xd2 σ (σ.2 1) (xd1 σ (σ.2 0) 131)))) → lv_has ls 4 [(3, .int (nI (kd))), (1, .long (zd)), (0, .ref (loc (0)))] → W p l e rm_X7_digest s m ([.ref (loc (0))] : List Value).toArray below meth c s.heap [] 0 0 (MQ below (vp_Sl (fun r => r = sp_digest σ)) ([.ref (loc (0))] : List Value).toArray s 0 0 (fun _ => False)) (F0 m 112 ls []) := by
                      intro fuel24
                      induction fuel24 with
                      | zero => intro zd kd ls hm25; exact absurd hm25 (Nat.not_lt_zero _)
                      | succ fuel24 ih26 =>
                        intro zd kd ls hm25 had hbd  hl
                        refine lv_iload_n hx hb dX7_digest_112 rfl (lv_at hl 0 rfl) ?_
                        refine lv_aload_n hx hb dX7_digest_113 rfl (lv_at hl 2 rfl) ?_
                        refine x_get (C := RX7) (T := TX7) (N := 18) hx hb hts hi_X7_digest_X7 hown hK hV f1 rfl 10 (by decide) (hts (.fieldLink RX7 56 "SaddleHouse" "benchCount" "I") (List.mem_of_getElem? (i := 8) rfl)) (fun _ h9 => h9) rfl dX7_digest_114 ?_
                        refine x_cge hx hb (kd) (σ.2 3) (by omega) (by omega) (tgt := 154) dX7_digest_117 (by decide) (fun c27 => ?_) (fun c27 => ?_)
                        · have _u := trivial
                          refine lv_iconst (v := nI 0) hx hb dX7_digest_154 (by decide +kernel) ?_
                          refine lv_istore_n (lv' := [(3, .int (nI (0))), (1, .long (zd)), (0, .ref (loc (0)))]) hx hb dX7_digest_155 rfl hl (by decide) rfl (fun ls hl => ?_)
                          have lp156_28 : ∀ (fuel29 : Nat) (zf : Int64) (kf : Nat) (ls : Array Slot), σ.2 4 - kf < fuel29 → (kf ≤ σ.2 4) → (zf = xd5 σ kf (xd4 σ (σ.2 3) (xd3 σ (σ.2 2) (xd2 σ (σ.2 1) (xd1 σ (σ.2 0) 131))))) → lv_has ls 4 [(3, .int (nI (kf))), (1, .long (zf)), (0, .ref (loc (0)))] → W p l e rm_X7_digest s m ([.ref (loc (0))] : List Value).toArray below meth c s.heap [] 0 0 (MQ below (vp_Sl (fun r => r = sp_digest σ)) ([.ref (loc (0))] : List Value).toArray s 0 0 (fun _ => False)) (F0 m 156 ls []) := by
                            intro fuel29
                            induction fuel29 with
                            | zero => intro zf kf ls hm30; exact absurd hm30 (Nat.not_lt_zero _)
                            | succ fuel29 ih31 =>
                              intro zf kf ls hm30 haf hbf  hl
                              refine lv_iload_n hx hb dX7_digest_156 rfl (lv_at hl 0 rfl) ?_
                              refine lv_aload_n hx hb dX7_digest_157 rfl (lv_at hl 2 rfl) ?_
                              refine x_get (C := RX7) (T := TX7) (N := 18) hx hb hts hi_X7_digest_X7 hown hK hV f1 rfl 11 (by decide) (hts (.fieldLink RX7 59 "SaddleHouse" "saddleCount" "I") (List.mem_of_getElem? (i := 10) rfl)) (fun _ h9 => h9) rfl dX7_digest_158 ?_
                              refine x_cge hx hb (kf) (σ.2 4) (by omega) (by omega) (tgt := 181) dX7_digest_161 (by decide) (fun c32 => ?_) (fun c32 => ?_)
                              · have _u := trivial
                                refine lv_lload_n hx hb dX7_digest_181 rfl (lv_at hl 1 rfl) ?_
                                refine lv_aload_n hx hb dX7_digest_182 rfl (lv_at hl 2 rfl) ?_
                                refine x_get (C := RX7) (T := TX7) (N := 18) hx hb hts hi_X7_digest_X7 hown hK hV f1 rfl 6 (by decide) (hts (.fieldLink RX7 43 "SaddleHouse" "days" "[I") (List.mem_of_getElem? (i := 12) rfl)) (fun _ h9 => h9) rfl dX7_digest_183 ?_
                                refine lv_aload_n hx hb dX7_digest_186 rfl (lv_at hl 2 rfl) ?_
                                refine x_get (C := RX7) (T := TX7) (N := 18) hx hb hts hi_X7_digest_X7 hown hK hV f1 rfl 12 (by decide) (hts (.fieldLink RX7 62 "SaddleHouse" "dayCount" "I") (List.mem_of_getElem? (i := 13) rfl)) (fun _ h9 => h9) rfl dX7_digest_187 ?_
                                refine x_cl (va_runS (As := [.long (zf), .ref (loc (7)), .int (nI (σ.2 5))]) (rest := []) ⟨hx, hb, hml, hown, hts⟩ (c_X7_mixAll l D cy loc w s.heap.size zf (7) 6 (σ.2 5) (σ.1 5) hN5 (by decide) f7) (cwS 3 hts gX7_digest_X7_mixAll rfl rfl rfl (by decide +kernel) ⟨Nat.le_of_ble_eq_true rfl, Nat.le_of_ble_eq_true rfl⟩) (x_preS hK hV) rfl rfl hl.1 rfl (lv_room (Nat.le_of_ble_eq_true rfl)) dX7_digest_190 ⟨Nat.le_of_ble_eq_true rfl, Nat.le_of_ble_eq_true rfl⟩) (fun r33 hr34 => ?_)
                                have ez35 : xmx (σ.1 5) (σ.2 5) zf = r33 := Eq.symm (show r33 = xmx (σ.1 5) (σ.2 5) zf from hr34)
                                subst ez35
                                exact x_rl hx hb hr hlocks dX7_digest_193 (by show _ = _; rw [sp_digest, hbf, show kf = σ.2 4 by omega])
                              · have _u := trivial
                                refine lv_aload_n hx hb dX7_digest_164 rfl (lv_at hl 2 rfl) ?_
                                refine x_get (C := RX7) (T := TX7) (N := 18) hx hb hts hi_X7_digest_X7 hown hK hV f1 rfl 5 (by decide) (hts (.fieldLink RX7 39 "SaddleHouse" "saddles" "[LSaddleHouse$Saddle;") (List.mem_of_getElem? (i := 11) rfl)) (fun _ h9 => h9) rfl dX7_digest_165 ?_
                                refine lv_iload_n hx hb dX7_digest_168 rfl (lv_at hl 0 rfl) ?_
                                refine x_aald hx hb hK hV f6 rfl (kf) (by omega) (by decide) dX7_digest_169 ?_
                                refine x_topr (xq_at (by omega)) ?_
                                have f36 : w (210 + kf) = some (.inr (4, [.int (σ.1 9 (5 * kf)), .int (σ.1 9 (5 * kf + 1)), .int (σ.1 9 (5 * kf + 2)), .int (σ.1 9 (5 * kf + 3)), .int (σ.1 9 (5 * kf + 4))])) := ((hw (210 + kf) (by omega)).trans (xC_210 (by omega) (by omega)))
                                refine lv_lload_n hx hb dX7_digest_170 rfl (lv_at hl 1 rfl) ?_
                                refine x_cl (va_runVN (host := RX7) (As := [.long (zf)]) (rest := []) ⟨hx, hb, hml, hown, hts⟩ (c_X4_mixInto l D cy loc w s.heap.size (210 + kf) (σ.1 9 (5 * kf)) (σ.1 9 (5 * kf + 1)) (σ.1 9 (5 * kf + 2)) (σ.1 9 (5 * kf + 3)) (σ.1 9 (5 * kf + 4)) zf f36) ⟨va_cnB 1 hts gX7_digest_X4_mixInto_n245 rfl rfl rfl (hK.2.1 (.methodLinkNest RX7 245 yX4_mixInto RX7) (by decide +kernel)) (hts (.initialized RX4) (List.mem_of_getElem? (i := 29) rfl)) (by decide +kernel) ⟨Nat.le_of_ble_eq_true rfl, Nat.le_of_ble_eq_true rfl⟩, hts (.instanceMethod yX4_mixInto) (List.mem_of_getElem? (i := 28) rfl), hts (.selects RX4 yX4_mixInto yX4_mixInto) (List.mem_of_getElem? (i := 30) rfl)⟩ (x_preV hK hV f36 rfl) rfl rfl hl.1 rfl (lv_room (Nat.le_of_ble_eq_true rfl)) dX7_digest_171 ⟨Nat.le_of_ble_eq_true rfl, Nat.le_of_ble_eq_true rfl⟩) (fun r37 hr38 => ?_)
                                have ez39 : xmxs (σ.1 9 (5 * kf)) (σ.1 9 (5 * kf + 1)) (σ.1 9 (5 * kf + 2)) (σ.1 9 (5 * kf + 3)) (σ.1 9 (5 * kf + 4)) zf = r37 := Eq.symm (show r37 = xmxs (σ.1 9 (5 * kf)) (σ.1 9 (5 * kf + 1)) (σ.1 9 (5 * kf + 2)) (σ.1 9 (5 * kf + 3)) (σ.1 9 (5 * kf + 4)) zf from hr38)
                                subst ez39
                                refine lv_lstore_n (lv' := [(1, .long (xmxs (σ.1 9 (5 * kf)) (σ.1 9 (5 * kf + 1)) (σ.1 9 (5 * kf + 2)) (σ.1 9 (5 * kf + 3)) (σ.1 9 (5 * kf + 4)) zf)), (3, .int (nI (kf))), (0, .ref (loc (0)))]) hx hb dX7_digest_174 rfl hl (by decide) rfl (fun ls hl => ?_)
                                refine lv_iinc (v := nI (kf + 1)) (lv' := [(3, .int (nI (kf + 1))), (1, .long (xmxs (σ.1 9 (5 * kf)) (σ.1 9 (5 * kf + 1)) (σ.1 9 (5 * kf + 2)) (σ.1 9 (5 * kf + 3)) (σ.1 9 (5 * kf + 4)) zf)), (0, .ref (loc (0)))]) hx hb dX7_digest_175 hl (k := 1) rfl (nI_add _ _) (by decide) rfl (fun ls hl => ?_)
                                refine lv_goto (tgt := 156) hx hb dX7_digest_178 (by decide) ?_
                                exact ih31 (xmxs (σ.1 9 (5 * kf)) (σ.1 9 (5 * kf + 1)) (σ.1 9 (5 * kf + 2)) (σ.1 9 (5 * kf + 3)) (σ.1 9 (5 * kf + 4)) zf) (kf + 1) ls (by omega) (by omega) (by rw [xd5, ← hbf]) (lv_sub hl [0, 1, 2] rfl)
                          exact lp156_28 ((σ.2 4) + 1) zd 0 ls (by omega) (Nat.zero_le _) (by rw [hbd, show kd = σ.2 3 by omega]; rfl) (lv_sub hl [0, 1, 2] rfl)
                        · have _u := trivial
                          refine lv_lload_n hx hb dX7_digest_120 rfl (lv_at hl 1 rfl) ?_
                          refine lv_aload_n hx hb dX7_digest_121 rfl (lv_at hl 2 rfl) ?_
                          refine x_get (C := RX7) (T := TX7) (N := 18) hx hb hts hi_X7_digest_X7 hown hK hV f1 rfl 4 (by decide) (hts (.fieldLink RX7 33 "SaddleHouse" "benches" "[LSaddleHouse$Bench;") (List.mem_of_getElem? (i := 9) rfl)) (fun _ h9 => h9) rfl dX7_digest_122 ?_
                          refine lv_iload_n hx hb dX7_digest_125 rfl (lv_at hl 0 rfl) ?_
                          refine x_aald hx hb hK hV f5 rfl (kd) (by omega) (by decide) dX7_digest_126 ?_
                          refine x_topr (xq_at (by omega)) ?_
                          have f40 : w (200 + kd) = some (.inr (0, [.int (σ.1 7 kd), .int (σ.1 8 kd)])) := ((hw (200 + kd) (by omega)).trans (xC_200 (by omega) (by omega)))
                          refine x_getN (C := RX0) (T := TX0) (N := 2) (ref := "SaddleHouse$Bench") (host := RX7) hx hb hts hi_X7_digest_X0 hown hK hV f40 rfl 0 (by decide) (by decide +kernel) (fun _ h9 => h9) rfl dX7_digest_127 ?_
                          refine lv_i2l (v := (σ.1 7 kd).toInt64) hx hb dX7_digest_130 rfl ?_
                          refine x_cl (va_runS (As := [.long (zd), .long ((σ.1 7 kd).toInt64)]) (rest := []) ⟨hx, hb, hml, hown, hts⟩ (c_X7_mix l D cy loc w s.heap.size zd ((σ.1 7 kd).toInt64)) (cwS 2 hts gX7_digest_X7_mix rfl rfl rfl (by decide +kernel) ⟨Nat.le_of_ble_eq_true rfl, Nat.le_of_ble_eq_true rfl⟩) (x_preS hK hV) rfl rfl hl.1 rfl (lv_room (Nat.le_of_ble_eq_true rfl)) dX7_digest_131 ⟨Nat.le_of_ble_eq_true rfl, Nat.le_of_ble_eq_true rfl⟩) (fun r41 hr42 => ?_)
                          have ez43 : 31 * zd + ((σ.1 7 kd).toInt64) = r41 := Eq.symm (show r41 = 31 * zd + ((σ.1 7 kd).toInt64) from hr42)
                          subst ez43
                          refine lv_aload_n hx hb dX7_digest_134 rfl (lv_at hl 2 rfl) ?_
                          refine x_get (C := RX7) (T := TX7) (N := 18) hx hb hts hi_X7_digest_X7 hown hK hV f1 rfl 4 (by decide) (hts (.fieldLink RX7 33 "SaddleHouse" "benches" "[LSaddleHouse$Bench;") (List.mem_of_getElem? (i := 9) rfl)) (fun _ h9 => h9) rfl dX7_digest_135 ?_
                          refine lv_iload_n hx hb dX7_digest_138 rfl (lv_at hl 0 rfl) ?_
                          refine x_aald hx hb hK hV f5 rfl (kd) (by omega) (by decide) dX7_digest_139 ?_
                          refine x_topr (xq_at (by omega)) ?_
                          refine x_getN (C := RX0) (T := TX0) (N := 2) (ref := "SaddleHouse$Bench") (host := RX7) hx hb hts hi_X7_digest_X0 hown hK hV f40 rfl 1 (by decide) (by decide +kernel) (fun _ h9 => h9) rfl dX7_digest_140 ?_
                          refine lv_i2l (v := (σ.1 8 kd).toInt64) hx hb dX7_digest_143 rfl ?_
                          refine x_cl (va_runS (As := [.long (31 * zd + ((σ.1 7 kd).toInt64)), .long ((σ.1 8 kd).toInt64)]) (rest := []) ⟨hx, hb, hml, hown, hts⟩ (c_X7_mix l D cy loc w s.heap.size (31 * zd + ((σ.1 7 kd).toInt64)) ((σ.1 8 kd).toInt64)) (cwS 2 hts gX7_digest_X7_mix rfl rfl rfl (by decide +kernel) ⟨Nat.le_of_ble_eq_true rfl, Nat.le_of_ble_eq_true rfl⟩) (x_preS hK hV) rfl rfl hl.1 rfl (lv_room (Nat.le_of_ble_eq_true rfl)) dX7_digest_144 ⟨Nat.le_of_ble_eq_true rfl, Nat.le_of_ble_eq_true rfl⟩) (fun r44 hr45 => ?_)
                          have ez46 : 31 * (31 * zd + ((σ.1 7 kd).toInt64)) + ((σ.1 8 kd).toInt64) = r44 := Eq.symm (show r44 = 31 * (31 * zd + ((σ.1 7 kd).toInt64)) + ((σ.1 8 kd).toInt64) from hr45)
                          subst ez46
                          refine lv_lstore_n (lv' := [(1, .long (31 * (31 * zd + ((σ.1 7 kd).toInt64)) + ((σ.1 8 kd).toInt64))), (3, .int (nI (kd))), (0, .ref (loc (0)))]) hx hb dX7_digest_147 rfl hl (by decide) rfl (fun ls hl => ?_)
                          refine lv_iinc (v := nI (kd + 1)) (lv' := [(3, .int (nI (kd + 1))), (1, .long (31 * (31 * zd + ((σ.1 7 kd).toInt64)) + ((σ.1 8 kd).toInt64))), (0, .ref (loc (0)))]) hx hb dX7_digest_148 hl (k := 1) rfl (nI_add _ _) (by decide) rfl (fun ls hl => ?_)
                          refine lv_goto (tgt := 112) hx hb dX7_digest_151 (by decide) ?_
                          exact ih26 (31 * (31 * zd + ((σ.1 7 kd).toInt64)) + ((σ.1 8 kd).toInt64)) (kd + 1) ls (by omega) (by omega) (by rw [xd4, ← hbd]) (lv_sub hl [0, 1, 2] rfl)
                    exact lp112_23 ((σ.2 3) + 1) zc 0 ls (by omega) (Nat.zero_le _) (by rw [hbc, show kc = σ.2 2 by omega]; rfl) (lv_sub hl [0, 1, 2] rfl)
                  · have _u := trivial
                    refine lv_lload_n hx hb dX7_digest_87 rfl (lv_at hl 1 rfl) ?_
                    refine lv_aload_n hx hb dX7_digest_88 rfl (lv_at hl 2 rfl) ?_
                    refine x_get (C := RX7) (T := TX7) (N := 18) hx hb hts hi_X7_digest_X7 hown hK hV f1 rfl 3 (by decide) (hts (.fieldLink RX7 27 "SaddleHouse" "hides" "[LSaddleHouse$Hide;") (List.mem_of_getElem? (i := 7) rfl)) (fun _ h9 => h9) rfl dX7_digest_89 ?_
                    refine lv_iload_n hx hb dX7_digest_92 rfl (lv_at hl 0 rfl) ?_
                    refine x_aald hx hb hK hV f4 rfl (kc) (by omega) (by decide) dX7_digest_93 ?_
                    refine x_topr (xq_at (by omega)) ?_
                    have f47 : w (180 + kc) = some (.inr (1, [.ref (loc (190 + kc))])) := ((hw (180 + kc) (by omega)).trans (xC_180 (by omega) (by omega)))
                    have f48 : w (190 + kc) = some (eI cy 192 (xsl 192 (σ.1 6) (192 * kc))) := ((hw (190 + kc) (by omega)).trans (xC_190 (by omega) (by omega)))
                    refine x_getN (C := RX1) (T := TX1) (N := 1) (ref := "SaddleHouse$Hide") (host := RX7) hx hb hts hi_X7_digest_X1 hown hK hV f47 rfl 0 (by decide) (by decide +kernel) (fun _ h9 => h9) rfl dX7_digest_94 ?_
                    refine lv_sipush (v := nI 192) hx hb dX7_digest_97 (by decide +kernel) ?_
                    refine x_cl (va_runS (As := [.long (zc), .ref (loc (190 + kc)), .int (nI (192))]) (rest := []) ⟨hx, hb, hml, hown, hts⟩ (c_X7_mixAll l D cy loc w s.heap.size zc (190 + kc) 192 192 (xsl 192 (σ.1 6) (192 * kc)) (by decide) (by decide) f48) (cwS 3 hts gX7_digest_X7_mixAll rfl rfl rfl (by decide +kernel) ⟨Nat.le_of_ble_eq_true rfl, Nat.le_of_ble_eq_true rfl⟩) (x_preS hK hV) rfl rfl hl.1 rfl (lv_room (Nat.le_of_ble_eq_true rfl)) dX7_digest_100 ⟨Nat.le_of_ble_eq_true rfl, Nat.le_of_ble_eq_true rfl⟩) (fun r49 hr50 => ?_)
                    have ez51 : xmx (xsl 192 (σ.1 6) (192 * kc)) 192 zc = r49 := Eq.symm (show r49 = xmx (xsl 192 (σ.1 6) (192 * kc)) 192 zc from hr50)
                    subst ez51
                    refine lv_lstore_n (lv' := [(1, .long (xmx (xsl 192 (σ.1 6) (192 * kc)) 192 zc)), (3, .int (nI (kc))), (0, .ref (loc (0)))]) hx hb dX7_digest_103 rfl hl (by decide) rfl (fun ls hl => ?_)
                    refine lv_iinc (v := nI (kc + 1)) (lv' := [(3, .int (nI (kc + 1))), (1, .long (xmx (xsl 192 (σ.1 6) (192 * kc)) 192 zc)), (0, .ref (loc (0)))]) hx hb dX7_digest_104 hl (k := 1) rfl (nI_add _ _) (by decide) rfl (fun ls hl => ?_)
                    refine lv_goto (tgt := 79) hx hb dX7_digest_107 (by decide) ?_
                    exact ih21 (xmx (xsl 192 (σ.1 6) (192 * kc)) 192 zc) (kc + 1) ls (by omega) (by omega) (by rw [xd3, ← hbc]; exact xmx_cong (fun i hi => xsl_at hi) _ 192 (Nat.le_refl 192)) (lv_sub hl [0, 1, 2] rfl)
              exact lp79_18 ((σ.2 2) + 1) zb 0 ls (by omega) (Nat.zero_le _) (by rw [hbb, show kb = σ.2 1 by omega]; rfl) (lv_sub hl [0, 1, 2] rfl)
            · have _u := trivial
              refine lv_lload_n hx hb dX7_digest_41 rfl (lv_at hl 1 rfl) ?_
              refine lv_aload_n hx hb dX7_digest_42 rfl (lv_at hl 2 rfl) ?_
              refine x_get (C := RX7) (T := TX7) (N := 18) hx hb hts hi_X7_digest_X7 hown hK hV f1 rfl 2 (by decide) (hts (.fieldLink RX7 21 "SaddleHouse" "trees" "[LSaddleHouse$Tree;") (List.mem_of_getElem? (i := 5) rfl)) (fun _ h9 => h9) rfl dX7_digest_43 ?_
              refine lv_iload_n hx hb dX7_digest_46 rfl (lv_at hl 0 rfl) ?_
              refine x_aald hx hb hK hV f3 rfl (kb) (by omega) (by decide) dX7_digest_47 ?_
              refine x_topr (xq_at (by omega)) ?_
              have f52 : w (150 + kb) = some (.inr (6, [.ref (loc (160 + kb)), .ref (loc (170 + kb))])) := ((hw (150 + kb) (by omega)).trans (xC_150 (by omega) (by omega)))
              have f53 : w (160 + kb) = some (eI cy 9 (xsl 9 (σ.1 3) (9 * kb))) := ((hw (160 + kb) (by omega)).trans (xC_160 (by omega) (by omega)))
              have f54 : w (170 + kb) = some (eI cy 9 (xsl 9 (σ.1 4) (9 * kb))) := ((hw (170 + kb) (by omega)).trans (xC_170 (by omega) (by omega)))
              refine x_getN (C := RX6) (T := TX6) (N := 2) (ref := "SaddleHouse$Tree") (host := RX7) hx hb hts hi_X7_digest_X6 hown hK hV f52 rfl 0 (by decide) (by decide +kernel) (fun _ h9 => h9) rfl dX7_digest_48 ?_
              refine lv_bipush (v := nI 9) hx hb dX7_digest_51 (by decide +kernel) ?_
              refine x_cl (va_runS (As := [.long (zb), .ref (loc (160 + kb)), .int (nI (9))]) (rest := []) ⟨hx, hb, hml, hown, hts⟩ (c_X7_mixAll l D cy loc w s.heap.size zb (160 + kb) 9 9 (xsl 9 (σ.1 3) (9 * kb)) (by decide) (by decide) f53) (cwS 3 hts gX7_digest_X7_mixAll rfl rfl rfl (by decide +kernel) ⟨Nat.le_of_ble_eq_true rfl, Nat.le_of_ble_eq_true rfl⟩) (x_preS hK hV) rfl rfl hl.1 rfl (lv_room (Nat.le_of_ble_eq_true rfl)) dX7_digest_53 ⟨Nat.le_of_ble_eq_true rfl, Nat.le_of_ble_eq_true rfl⟩) (fun r55 hr56 => ?_)
              have ez57 : xmx (xsl 9 (σ.1 3) (9 * kb)) 9 zb = r55 := Eq.symm (show r55 = xmx (xsl 9 (σ.1 3) (9 * kb)) 9 zb from hr56)
              subst ez57
              refine lv_aload_n hx hb dX7_digest_56 rfl (lv_at hl 2 rfl) ?_
              refine x_get (C := RX7) (T := TX7) (N := 18) hx hb hts hi_X7_digest_X7 hown hK hV f1 rfl 2 (by decide) (hts (.fieldLink RX7 21 "SaddleHouse" "trees" "[LSaddleHouse$Tree;") (List.mem_of_getElem? (i := 5) rfl)) (fun _ h9 => h9) rfl dX7_digest_57 ?_
              refine lv_iload_n hx hb dX7_digest_60 rfl (lv_at hl 0 rfl) ?_
              refine x_aald hx hb hK hV f3 rfl (kb) (by omega) (by decide) dX7_digest_61 ?_
              refine x_topr (xq_at (by omega)) ?_
              refine x_getN (C := RX6) (T := TX6) (N := 2) (ref := "SaddleHouse$Tree") (host := RX7) hx hb hts hi_X7_digest_X6 hown hK hV f52 rfl 1 (by decide) (by decide +kernel) (fun _ h9 => h9) rfl dX7_digest_62 ?_
              refine lv_bipush (v := nI 9) hx hb dX7_digest_65 (by decide +kernel) ?_
              refine x_cl (va_runS (As := [.long (xmx (xsl 9 (σ.1 3) (9 * kb)) 9 zb), .ref (loc (170 + kb)), .int (nI (9))]) (rest := []) ⟨hx, hb, hml, hown, hts⟩ (c_X7_mixAll l D cy loc w s.heap.size (xmx (xsl 9 (σ.1 3) (9 * kb)) 9 zb) (170 + kb) 9 9 (xsl 9 (σ.1 4) (9 * kb)) (by decide) (by decide) f54) (cwS 3 hts gX7_digest_X7_mixAll rfl rfl rfl (by decide +kernel) ⟨Nat.le_of_ble_eq_true rfl, Nat.le_of_ble_eq_true rfl⟩) (x_preS hK hV) rfl rfl hl.1 rfl (lv_room (Nat.le_of_ble_eq_true rfl)) dX7_digest_67 ⟨Nat.le_of_ble_eq_true rfl, Nat.le_of_ble_eq_true rfl⟩) (fun r58 hr59 => ?_)
              have ez60 : xmx (xsl 9 (σ.1 4) (9 * kb)) 9 (xmx (xsl 9 (σ.1 3) (9 * kb)) 9 zb) = r58 := Eq.symm (show r58 = xmx (xsl 9 (σ.1 4) (9 * kb)) 9 (xmx (xsl 9 (σ.1 3) (9 * kb)) 9 zb) from hr59)
              subst ez60
              refine lv_lstore_n (lv' := [(1, .long (xmx (xsl 9 (σ.1 4) (9 * kb)) 9 (xmx (xsl 9 (σ.1 3) (9 * kb)) 9 zb))), (3, .int (nI (kb))), (0, .ref (loc (0)))]) hx hb dX7_digest_70 rfl hl (by decide) rfl (fun ls hl => ?_)
              refine lv_iinc (v := nI (kb + 1)) (lv' := [(3, .int (nI (kb + 1))), (1, .long (xmx (xsl 9 (σ.1 4) (9 * kb)) 9 (xmx (xsl 9 (σ.1 3) (9 * kb)) 9 zb))), (0, .ref (loc (0)))]) hx hb dX7_digest_71 hl (k := 1) rfl (nI_add _ _) (by decide) rfl (fun ls hl => ?_)
              refine lv_goto (tgt := 33) hx hb dX7_digest_74 (by decide) ?_
              exact ih16 (xmx (xsl 9 (σ.1 4) (9 * kb)) 9 (xmx (xsl 9 (σ.1 3) (9 * kb)) 9 zb)) (kb + 1) ls (by omega) (by omega) (by rw [xd2, ← hbb]; exact (xmx_cong (fun i hi => xsl_at hi) _ 9 (Nat.le_refl 9)).trans (congrArg (xmx _ 9) (xmx_cong (fun i hi => xsl_at hi) _ 9 (Nat.le_refl 9)))) (lv_sub hl [0, 1, 2] rfl)
        exact lp33_13 ((σ.2 1) + 1) za 0 ls (by omega) (Nat.zero_le _) (by rw [hba, show ka = σ.2 0 by omega]; rfl) (lv_sub hl [0, 1, 2] rfl)
      · have _u := trivial
        refine lv_aload_n hx hb dX7_digest_14 rfl (lv_at hl 2 rfl) ?_
        refine x_get (C := RX7) (T := TX7) (N := 18) hx hb hts hi_X7_digest_X7 hown hK hV f1 rfl 1 (by decide) (hts (.fieldLink RX7 15 "SaddleHouse" "horses" "[LSaddleHouse$Horse;") (List.mem_of_getElem? (i := 3) rfl)) (fun _ h9 => h9) rfl dX7_digest_15 ?_
        refine lv_iload_n hx hb dX7_digest_18 rfl (lv_at hl 0 rfl) ?_
        refine x_aald hx hb hK hV f2 rfl (ka) (by omega) (by decide) dX7_digest_19 ?_
        refine x_topr (xq_at (by omega)) ?_
        have f61 : w (20 + ka) = some (.inr (2, [.ref (loc (30 + ka)), .int (nI (σ.2 (10 + ka)))])) := ((hw (20 + ka) (by omega)).trans (xC_20 (by omega) (by omega)))
        have f62 : w (30 + ka) = some (eQ cy 4 6 (xq (fun j => loc (40 + 6 * ka + j)) (σ.2 (10 + ka)))) := ((hw (30 + ka) (by omega)).trans (xC_30 (by omega) (by omega)))
        refine lv_lload_n hx hb dX7_digest_20 rfl (lv_at hl 1 rfl) ?_
        refine x_cl (va_runVN (host := RX7) (As := [.long (za)]) (rest := []) ⟨hx, hb, hml, hown, hts⟩ (c_X2_mixInto l D cy loc w s.heap.size (20 + ka) (30 + ka) (40 + 6 * ka) (100 + 6 * ka) (σ.2 (10 + ka)) (fun j => σ.1 1 (6 * ka + j)) (xq (fun j => loc (40 + 6 * ka + j)) (σ.2 (10 + ka))) (hN6 ka) (fun j h_j => xq_at h_j) (fun j h_j => by have h6 := hN6 ka; exact (hw (40 + 6 * ka + j) (by omega)).trans (xC_40 (by omega) (by omega) h_j (by omega))) (fun j => xsl 9 (σ.1 2) (9 * (6 * ka + j))) (fun j h_j => by have h6 := hN6 ka; exact (hw (100 + 6 * ka + j) (by omega)).trans (xC_100 (by omega) (by omega) h_j (by omega))) za f61 f62) ⟨va_cnB 1 hts gX7_digest_X2_mixInto_n229 rfl rfl rfl (hK.2.1 (.methodLinkNest RX7 229 yX2_mixInto RX7) (by decide +kernel)) (hts (.initialized RX2) (List.mem_of_getElem? (i := 15) rfl)) (by decide +kernel) ⟨Nat.le_of_ble_eq_true rfl, Nat.le_of_ble_eq_true rfl⟩, hts (.instanceMethod yX2_mixInto) (List.mem_of_getElem? (i := 14) rfl), hts (.selects RX2 yX2_mixInto yX2_mixInto) (List.mem_of_getElem? (i := 16) rfl)⟩ (x_preV hK hV f61 rfl) rfl rfl hl.1 rfl (lv_room (Nat.le_of_ble_eq_true rfl)) dX7_digest_21 ⟨Nat.le_of_ble_eq_true rfl, Nat.le_of_ble_eq_true rfl⟩) (fun r63 hr64 => ?_)
        have ez65 : xhx (fun j => σ.1 1 (6 * ka + j)) (fun j => xsl 9 (σ.1 2) (9 * (6 * ka + j))) (σ.2 (10 + ka)) (31 * za + (nI (σ.2 (10 + ka))).toInt64) = r63 := Eq.symm (show r63 = xhx (fun j => σ.1 1 (6 * ka + j)) (fun j => xsl 9 (σ.1 2) (9 * (6 * ka + j))) (σ.2 (10 + ka)) (31 * za + (nI (σ.2 (10 + ka))).toInt64) from hr64)
        subst ez65
        refine lv_lstore_n (lv' := [(1, .long (xhx (fun j => σ.1 1 (6 * ka + j)) (fun j => xsl 9 (σ.1 2) (9 * (6 * ka + j))) (σ.2 (10 + ka)) (31 * za + (nI (σ.2 (10 + ka))).toInt64))), (3, .int (nI (ka))), (0, .ref (loc (0)))]) hx hb dX7_digest_24 rfl hl (by decide) rfl (fun ls hl => ?_)
        refine lv_iinc (v := nI (ka + 1)) (lv' := [(3, .int (nI (ka + 1))), (1, .long (xhx (fun j => σ.1 1 (6 * ka + j)) (fun j => xsl 9 (σ.1 2) (9 * (6 * ka + j))) (σ.2 (10 + ka)) (31 * za + (nI (σ.2 (10 + ka))).toInt64))), (0, .ref (loc (0)))]) hx hb dX7_digest_25 hl (k := 1) rfl (nI_add _ _) (by decide) rfl (fun ls hl => ?_)
        refine lv_goto (tgt := 6) hx hb dX7_digest_28 (by decide) ?_
        exact ih11 (xhx (fun j => σ.1 1 (6 * ka + j)) (fun j => xsl 9 (σ.1 2) (9 * (6 * ka + j))) (σ.2 (10 + ka)) (31 * za + (nI (σ.2 (10 + ka))).toInt64)) (ka + 1) ls (by omega) (by omega) (by rw [xd1, ← hba]; exact xhx_cong (fun j hj i hi => xsl_at hi) _ _ (Nat.le_refl _)) (lv_sub hl [0, 1, 2] rfl)
  exact lp6_8 ((σ.2 0) + 1) 131 0 ls (by omega) (Nat.zero_le _) rfl (lv_sub hl [0, 1, 2] rfl)
