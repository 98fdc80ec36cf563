theorem ymx_t {f : Nat → Int32} {i : Nat} {z h : Int64} {v : Int32} (e : z = xmx f i h) (hv : v = f i) : 31 * z + v.toInt64 = xmx f (i + 1) h := by rw [xmx, e, hv]
abbrev rm_X8_digest : Room := { frames := 0, cells := 0, slots := 0, locals := 0 }
theorem hi_X8_digest_X8 : ∀ w ∈ wsX80, w ∈ wsX8_digest := fun w h => List.mem_cons_of_mem _ (List.mem_append_right _ h)
set_option maxHeartbeats 4000000 in
set_option maxRecDepth 100000 in
theorem c_X8_digest (l : Launch) (D : va_G) (cy : Nat → ClassId) (loc : Nat → Nat) (w : xM) (sz : Nat) (σ : xS) (hN : xN8 σ) (hR : yR cy loc σ w)   : Met l yX8_digest wsX8_digest rm_X8_digest (va_Pc [.ref (loc (300))] (xP D cy loc w sz)) (vp_Sl (fun r => r = sp_digest σ)) 0 0 (fun _ => False) := by
  refine x_met (cc := cX8_digest) (maxL := 6) (ret := (some .long)) (C := RX8) (by decide) rfl rfl (Nat.le_of_ble_eq_true rfl) ?_
  intro p e s m below meth c ls hx hb hml hr hts hown hlocks hin hP hl
  obtain ⟨hsz, hV, hK⟩ := hP
  subst hsz
  have hl : lv_has ls 6 [(0, .ref (loc (300)))] := hl
  have hNN := hN
  have hRR := hR
  obtain ⟨g0, b0, q0, v0, hw⟩ := hR
  obtain ⟨hN0, hN1, hN2, hN3, hN4, hN5, hN6⟩ := hN
  have f1 : w (300) = some (.inr (8, [.ref (loc (301)), .int (nI (σ.2 0)), .ref (loc (302)), .ref (loc (303)), .ref (loc (304)), .int (nI (σ.2 1)), .ref (loc (305)), .ref (loc (306)), .ref (loc (307)), .ref (loc (308)), .int (v0 0), .int (v0 1), .int (v0 2), .int (v0 3), .int (nI (σ.2 5)), .ref (loc (309)), .ref (loc (310)), .int (v0 4), .int (nI (σ.2 2)), .ref (loc (311)), .int (nI (σ.2 3)), .ref (loc (312)), .ref (loc (313)), .int (σ.1 10 0), .int (σ.1 10 1), .int (nI (σ.2 4)), .ref (loc (314))])) := (hw 0 (by decide)).trans rfl
  have f2 : w (302) = some (eI cy 8 (fun k => nI (σ.2 (10 + k)))) := (hw 2 (by decide)).trans rfl
  have f3 : w (303) = some (eI cy 48 (σ.1 1)) := (hw 3 (by decide)).trans rfl
  have f4 : w (304) = some (eI cy 432 (σ.1 2)) := (hw 4 (by decide)).trans rfl
  have f5 : w (305) = some (eI cy 72 (σ.1 3)) := (hw 5 (by decide)).trans rfl
  have f6 : w (306) = some (eI cy 72 (σ.1 4)) := (hw 6 (by decide)).trans rfl
  have f7 : w (309) = some (eI cy 6 (σ.1 5)) := (hw 9 (by decide)).trans rfl
  have f8 : w (311) = some (eI cy 768 (σ.1 6)) := (hw 11 (by decide)).trans rfl
  have f9 : w (312) = some (eI cy 3 (σ.1 7)) := (hw 12 (by decide)).trans rfl
  have f10 : w (313) = some (eI cy 3 (σ.1 8)) := (hw 13 (by decide)).trans rfl
  have f11 : w (314) = some (eI cy 60 (σ.1 9)) := (hw 14 (by decide)).trans rfl
  refine lv_ldc2 (v := 131) hx hb hown (hts (.constantLong RX8 196 (131)) (List.mem_of_getElem? (i := 1) rfl)) dX8_digest_0 ?_
  refine lv_lstore_n (lv' := [(1, .long (131)), (0, .ref (loc (300)))]) hx hb dX8_digest_3 rfl hl (by decide) rfl (fun ls hl => ?_)
  refine lv_iconst (v := nI 0) hx hb dX8_digest_4 (by decide +kernel) ?_
  refine lv_istore_n (lv' := [(3, .int (nI (0))), (1, .long (131)), (0, .ref (loc (300)))]) hx hb dX8_digest_5 rfl hl (by decide) rfl (fun ls hl => ?_)
  have lp6_12 : ∀ (fuel13 : Nat) (za : Int64) (ka : Nat) (ls : Array Slot), σ.2 0 - ka < fuel13 → (ka ≤ σ.2 0) → (za = xd1 σ ka 131) → lv_has ls 6 [(3, .int (nI (ka))), (1, .long (za)), (0, .ref (loc (300)))] → W p l e rm_X8_digest s m ([.ref (loc (300))] : List Value).toArray below meth c s.heap [] 0 0 (MQ below (vp_Sl (fun r => r = sp_digest σ)) ([.ref (loc (300))] : List Value).toArray s 0 0 (fun _ => False)) (F0 m 6 ls []) := by
    intro fuel13
    induction fuel13 with
    | zero => intro za ka ls hm14; exact absurd hm14 (Nat.not_lt_zero _)
    | succ fuel13 ih15 =>
      intro za ka ls hm14 haa hba  hl
      refine lv_iload_n hx hb dX8_digest_6 rfl (lv_at hl 0 rfl) ?_
      refine lv_aload_n hx hb dX8_digest_7 rfl (lv_at hl 2 rfl) ?_
      refine x_get (C := RX8) (T := TX8) (N := 27) hx hb hts hi_X8_digest_X8 hown hK hV f1 rfl 1 (by decide) (hts (.fieldLink RX8 64 "SaddleHouseModel" "horses" "I") (List.mem_of_getElem? (i := 2) rfl)) (fun _ h9 => h9) rfl dX8_digest_8 ?_
      refine x_cge hx hb (ka) (σ.2 0) (by omega) (by omega) (tgt := 116) dX8_digest_11 (by decide) (fun c16 => ?_) (fun c16 => ?_)
      · have _u := trivial
        refine lv_iconst (v := nI 0) hx hb dX8_digest_116 (by decide +kernel) ?_
        refine lv_istore_n (lv' := [(3, .int (nI (0))), (1, .long (za)), (0, .ref (loc (300)))]) hx hb dX8_digest_117 rfl hl (by decide) rfl (fun ls hl => ?_)
        have lp118_17 : ∀ (fuel18 : Nat) (zb : Int64) (kb : Nat) (ls : Array Slot), σ.2 1 - kb < fuel18 → (kb ≤ σ.2 1) → (zb = xd2 σ kb (xd1 σ (σ.2 0) 131)) → lv_has ls 6 [(3, .int (nI (kb))), (1, .long (zb)), (0, .ref (loc (300)))] → W p l e rm_X8_digest s m ([.ref (loc (300))] : List Value).toArray below meth c s.heap [] 0 0 (MQ below (vp_Sl (fun r => r = sp_digest σ)) ([.ref (loc (300))] : List Value).toArray s 0 0 (fun _ => False)) (F0 m 118 ls []) := by
          intro fuel18
          induction fuel18 with
          | zero => intro zb kb ls hm19; exact absurd hm19 (Nat.not_lt_zero _)
          | succ fuel18 ih20 =>
            intro zb kb ls hm19 hab hbb  hl
            refine lv_iload_n hx hb dX8_digest_118 rfl (lv_at hl 0 rfl) ?_
            refine lv_aload_n hx hb dX8_digest_119 rfl (lv_at hl 2 rfl) ?_
            refine x_get (C := RX8) (T := TX8) (N := 27) hx hb hts hi_X8_digest_X8 hown hK hV f1 rfl 5 (by decide) (hts (.fieldLink RX8 88 "SaddleHouseModel" "trees" "I") (List.mem_of_getElem? (i := 7) rfl)) (fun _ h9 => h9) rfl dX8_digest_120 ?_
            refine x_cge hx hb (kb) (σ.2 1) (by omega) (by omega) (tgt := 204) dX8_digest_123 (by decide) (fun c21 => ?_) (fun c21 => ?_)
            · have _u := trivial
              refine lv_iconst (v := nI 0) hx hb dX8_digest_204 (by decide +kernel) ?_
              refine lv_istore_n (lv' := [(3, .int (nI (0))), (1, .long (zb)), (0, .ref (loc (300)))]) hx hb dX8_digest_205 rfl hl (by decide) rfl (fun ls hl => ?_)
              have lp206_22 : ∀ (fuel23 : Nat) (zc : Int64) (kc : Nat) (ls : Array Slot), 192 * σ.2 2 - kc < fuel23 → (kc ≤ 192 * σ.2 2) → (zc = xmx (σ.1 6) kc (xd2 σ (σ.2 1) (xd1 σ (σ.2 0) 131))) → lv_has ls 6 [(3, .int (nI (kc))), (1, .long (zc)), (0, .ref (loc (300)))] → W p l e rm_X8_digest s m ([.ref (loc (300))] : List Value).toArray below meth c s.heap [] 0 0 (MQ below (vp_Sl (fun r => r = sp_digest σ)) ([.ref (loc (300))] : List Value).toArray s 0 0 (fun _ => False)) (F0 m 206 ls []) := by
                intro fuel23
                induction fuel23 with
                | zero => intro zc kc ls hm24; exact absurd hm24 (Nat.not_lt_zero _)
                | succ fuel23 ih25 =>
                  intro zc kc ls hm24 hac hbc  hl
                  refine lv_iload_n hx hb dX8_digest_206 rfl (lv_at hl 0 rfl) ?_
                  refine lv_sipush (v := nI 192) hx hb dX8_digest_207 (by decide +kernel) ?_
                  refine lv_aload_n hx hb dX8_digest_210 rfl (lv_at hl 2 rfl) ?_
                  refine x_get (C := RX8) (T := TX8) (N := 27) hx hb hts hi_X8_digest_X8 hown hK hV f1 rfl 18 (by decide) (hts (.fieldLink RX8 151 "SaddleHouseModel" "hides" "I") (List.mem_of_getElem? (i := 10) rfl)) (fun _ h9 => h9) rfl dX8_digest_211 ?_
                  refine x_imul hx hb (192) (σ.2 2) dX8_digest_214 ?_
                  refine x_cge hx hb (kc) (192 * (σ.2 2)) (by omega) (by omega) (tgt := 238) dX8_digest_215 (by decide) (fun c26 => ?_) (fun c26 => ?_)
                  · have _u := trivial
                    refine lv_iconst (v := nI 0) hx hb dX8_digest_238 (by decide +kernel) ?_
                    refine lv_istore_n (lv' := [(3, .int (nI (0))), (1, .long (zc)), (0, .ref (loc (300)))]) hx hb dX8_digest_239 rfl hl (by decide) rfl (fun ls hl => ?_)
                    have lp240_27 : ∀ (fuel28 : Nat) (zd : Int64) (kd : Nat) (ls : Array Slot), σ.2 3 - kd < fuel28 → (kd ≤ σ.2 3) → (zd = xd4 σ kd (xd3 σ (σ.2 2) (xd2 σ (σ.2 1) (xd1 σ (σ.2 0) 131)))) → lv_has ls 6 [(3, .int (nI (kd))), (1, .long (zd)), (0, .ref (loc (300)))] → W p l e rm_X8_digest s m ([.ref (loc (300))] : List Value).toArray below meth c s.heap [] 0 0 (MQ below (vp_Sl (fun r => r = sp_digest σ)) ([.ref (loc (300))] : List Value).toArray s 0 0 (fun _ => False)) (F0 m 240 ls []) := by
                      intro fuel28
                      induction fuel28 with
                      | zero => intro zd kd ls hm29; exact absurd hm29 (Nat.not_lt_zero _)
                      | succ fuel28 ih30 =>
                        intro zd kd ls hm29 had hbd  hl
                        refine lv_iload_n hx hb dX8_digest_240 rfl (lv_at hl 0 rfl) ?_
                        refine lv_aload_n hx hb dX8_digest_241 rfl (lv_at hl 2 rfl) ?_
                        refine x_get (C := RX8) (T := TX8) (N := 27) hx hb hts hi_X8_digest_X8 hown hK hV f1 rfl 20 (by decide) (hts (.fieldLink RX8 178 "SaddleHouseModel" "benches" "I") (List.mem_of_getElem? (i := 12) rfl)) (fun _ h9 => h9) rfl dX8_digest_242 ?_
                        refine x_cge hx hb (kd) (σ.2 3) (by omega) (by omega) (tgt := 282) dX8_digest_245 (by decide) (fun c31 => ?_) (fun c31 => ?_)
                        · have _u := trivial
                          refine lv_iconst (v := nI 0) hx hb dX8_digest_282 (by decide +kernel) ?_
                          refine lv_istore_n (lv' := [(3, .int (nI (0))), (1, .long (zd)), (0, .ref (loc (300)))]) hx hb dX8_digest_283 rfl hl (by decide) rfl (fun ls hl => ?_)
                          have lp284_32 : ∀ (fuel33 : Nat) (zf : Int64) (kf : Nat) (ls : Array Slot), 5 * σ.2 4 - kf < fuel33 → (kf ≤ 5 * σ.2 4) → (zf = xmx (σ.1 9) kf (xd4 σ (σ.2 3) (xd3 σ (σ.2 2) (xd2 σ (σ.2 1) (xd1 σ (σ.2 0) 131))))) → lv_has ls 6 [(3, .int (nI (kf))), (1, .long (zf)), (0, .ref (loc (300)))] → W p l e rm_X8_digest s m ([.ref (loc (300))] : List Value).toArray below meth c s.heap [] 0 0 (MQ below (vp_Sl (fun r => r = sp_digest σ)) ([.ref (loc (300))] : List Value).toArray s 0 0 (fun _ => False)) (F0 m 284 ls []) := by
                            intro fuel33
                            induction fuel33 with
                            | zero => intro zf kf ls hm34; exact absurd hm34 (Nat.not_lt_zero _)
                            | succ fuel33 ih35 =>
                              intro zf kf ls hm34 haf hbf  hl
                              refine lv_iload_n hx hb dX8_digest_284 rfl (lv_at hl 0 rfl) ?_
                              refine lv_iconst (v := nI 5) hx hb dX8_digest_285 (by decide +kernel) ?_
                              refine lv_aload_n hx hb dX8_digest_286 rfl (lv_at hl 2 rfl) ?_
                              refine x_get (C := RX8) (T := TX8) (N := 27) hx hb hts hi_X8_digest_X8 hown hK hV f1 rfl 25 (by decide) (hts (.fieldLink RX8 187 "SaddleHouseModel" "saddles" "I") (List.mem_of_getElem? (i := 15) rfl)) (fun _ h9 => h9) rfl dX8_digest_287 ?_
                              refine x_imul hx hb (5) (σ.2 4) dX8_digest_290 ?_
                              refine x_cge hx hb (kf) (5 * (σ.2 4)) (by omega) (by omega) (tgt := 314) dX8_digest_291 (by decide) (fun c36 => ?_) (fun c36 => ?_)
                              · have _u := trivial
                                refine lv_iconst (v := nI 0) hx hb dX8_digest_314 (by decide +kernel) ?_
                                refine lv_istore_n (lv' := [(3, .int (nI (0))), (1, .long (zf)), (0, .ref (loc (300)))]) hx hb dX8_digest_315 rfl hl (by decide) rfl (fun ls hl => ?_)
                                have lp316_37 : ∀ (fuel38 : Nat) (zj : Int64) (kj : Nat) (ls : Array Slot), σ.2 5 - kj < fuel38 → (kj ≤ σ.2 5) → (zj = xmx (σ.1 5) kj (xd5 σ (σ.2 4) (xd4 σ (σ.2 3) (xd3 σ (σ.2 2) (xd2 σ (σ.2 1) (xd1 σ (σ.2 0) 131)))))) → lv_has ls 6 [(3, .int (nI (kj))), (1, .long (zj)), (0, .ref (loc (300)))] → W p l e rm_X8_digest s m ([.ref (loc (300))] : List Value).toArray below meth c s.heap [] 0 0 (MQ below (vp_Sl (fun r => r = sp_digest σ)) ([.ref (loc (300))] : List Value).toArray s 0 0 (fun _ => False)) (F0 m 316 ls []) := by
                                  intro fuel38
                                  induction fuel38 with
                                  | zero => intro zj kj ls hm39; exact absurd hm39 (Nat.not_lt_zero _)
                                  | succ fuel38 ih40 =>
                                    intro zj kj ls hm39 haj hbj  hl
                                    refine lv_iload_n hx hb dX8_digest_316 rfl (lv_at hl 0 rfl) ?_
                                    refine lv_aload_n hx hb dX8_digest_317 rfl (lv_at hl 2 rfl) ?_
                                    refine x_get (C := RX8) (T := TX8) (N := 27) hx hb hts hi_X8_digest_X8 hown hK hV f1 rfl 14 (by decide) (hts (.fieldLink RX8 134 "SaddleHouseModel" "days" "I") (List.mem_of_getElem? (i := 17) rfl)) (fun _ h9 => h9) rfl dX8_digest_318 ?_
                                    refine x_cge hx hb (kj) (σ.2 5) (by omega) (by omega) (tgt := 344) dX8_digest_321 (by decide) (fun c41 => ?_) (fun c41 => ?_)
                                    · have _u := trivial
                                      refine lv_lload_n hx hb dX8_digest_344 rfl (lv_at hl 1 rfl) ?_
                                      exact x_rl hx hb hr hlocks dX8_digest_345 (by show _ = _; rw [sp_digest, hbj, show kj = σ.2 5 by omega])
                                    · have _u := trivial
                                      refine lv_ldc2 (v := 31) hx hb hown (hts (.constantLong RX8 198 (31)) (List.mem_of_getElem? (i := 3) rfl)) dX8_digest_324 ?_
                                      refine lv_lload_n hx hb dX8_digest_327 rfl (lv_at hl 1 rfl) ?_
                                      refine lv_lmul hx hb dX8_digest_328 ?_
                                      refine lv_aload_n hx hb dX8_digest_329 rfl (lv_at hl 2 rfl) ?_
                                      refine x_get (C := RX8) (T := TX8) (N := 27) hx hb hts hi_X8_digest_X8 hown hK hV f1 rfl 15 (by decide) (hts (.fieldLink RX8 34 "SaddleHouseModel" "told" "[I") (List.mem_of_getElem? (i := 18) rfl)) (fun _ h9 => h9) rfl dX8_digest_330 ?_
                                      refine lv_iload_n hx hb dX8_digest_333 rfl (lv_at hl 0 rfl) ?_
                                      refine x_iald hx hb hK hV f7 (kj) (by omega) (by decide) dX8_digest_334 ?_
                                      refine lv_i2l (v := ((σ.1 5) kj).toInt64) hx hb dX8_digest_335 rfl ?_
                                      refine lv_ladd hx hb dX8_digest_336 ?_
                                      refine lv_lstore_n (lv' := [(1, .long ((31 * zj) + (((σ.1 5) kj).toInt64))), (3, .int (nI (kj))), (0, .ref (loc (300)))]) hx hb dX8_digest_337 rfl hl (by decide) rfl (fun ls hl => ?_)
                                      refine lv_iinc (v := nI (kj + 1)) (lv' := [(3, .int (nI (kj + 1))), (1, .long ((31 * zj) + (((σ.1 5) kj).toInt64))), (0, .ref (loc (300)))]) hx hb dX8_digest_338 hl (k := 1) rfl (nI_add _ _) (by decide) rfl (fun ls hl => ?_)
                                      refine lv_goto (tgt := 316) hx hb dX8_digest_341 (by decide) ?_
                                      exact ih40 ((31 * zj) + (((σ.1 5) kj).toInt64)) (kj + 1) ls (by omega) (by omega) (ymx_t hbj rfl) (lv_sub hl [0, 1, 2] rfl)
                                exact lp316_37 ((σ.2 5) + 1) zf 0 ls (by omega) (Nat.zero_le _) (by rw [hbf, show kf = 5 * σ.2 4 by omega, yd_5]; rfl) (lv_sub hl [0, 1, 2] rfl)
                              · have _u := trivial
                                refine lv_ldc2 (v := 31) hx hb hown (hts (.constantLong RX8 198 (31)) (List.mem_of_getElem? (i := 3) rfl)) dX8_digest_294 ?_
                                refine lv_lload_n hx hb dX8_digest_297 rfl (lv_at hl 1 rfl) ?_
                                refine lv_lmul hx hb dX8_digest_298 ?_
                                refine lv_aload_n hx hb dX8_digest_299 rfl (lv_at hl 2 rfl) ?_
                                refine x_get (C := RX8) (T := TX8) (N := 27) hx hb hts hi_X8_digest_X8 hown hK hV f1 rfl 26 (by decide) (hts (.fieldLink RX8 49 "SaddleHouseModel" "saddle" "[I") (List.mem_of_getElem? (i := 16) rfl)) (fun _ h9 => h9) rfl dX8_digest_300 ?_
                                refine lv_iload_n hx hb dX8_digest_303 rfl (lv_at hl 0 rfl) ?_
                                refine x_iald hx hb hK hV f11 (kf) (by omega) (by decide) dX8_digest_304 ?_
                                refine lv_i2l (v := ((σ.1 9) kf).toInt64) hx hb dX8_digest_305 rfl ?_
                                refine lv_ladd hx hb dX8_digest_306 ?_
                                refine lv_lstore_n (lv' := [(1, .long ((31 * zf) + (((σ.1 9) kf).toInt64))), (3, .int (nI (kf))), (0, .ref (loc (300)))]) hx hb dX8_digest_307 rfl hl (by decide) rfl (fun ls hl => ?_)
                                refine lv_iinc (v := nI (kf + 1)) (lv' := [(3, .int (nI (kf + 1))), (1, .long ((31 * zf) + (((σ.1 9) kf).toInt64))), (0, .ref (loc (300)))]) hx hb dX8_digest_308 hl (k := 1) rfl (nI_add _ _) (by decide) rfl (fun ls hl => ?_)
                                refine lv_goto (tgt := 284) hx hb dX8_digest_311 (by decide) ?_
                                exact ih35 ((31 * zf) + (((σ.1 9) kf).toInt64)) (kf + 1) ls (by omega) (by omega) (ymx_t hbf rfl) (lv_sub hl [0, 1, 2] rfl)
                          exact lp284_32 ((5 * σ.2 4) + 1) zd 0 ls (by omega) (Nat.zero_le _) (by rw [hbd, show kd = σ.2 3 by omega]; rfl) (lv_sub hl [0, 1, 2] rfl)
                        · have _u := trivial
                          refine lv_ldc2 (v := 31) hx hb hown (hts (.constantLong RX8 198 (31)) (List.mem_of_getElem? (i := 3) rfl)) dX8_digest_248 ?_
                          refine lv_lload_n hx hb dX8_digest_251 rfl (lv_at hl 1 rfl) ?_
                          refine lv_lmul hx hb dX8_digest_252 ?_
                          refine lv_aload_n hx hb dX8_digest_253 rfl (lv_at hl 2 rfl) ?_
                          refine x_get (C := RX8) (T := TX8) (N := 27) hx hb hts hi_X8_digest_X8 hown hK hV f1 rfl 21 (by decide) (hts (.fieldLink RX8 43 "SaddleHouseModel" "hours" "[I") (List.mem_of_getElem? (i := 13) rfl)) (fun _ h9 => h9) rfl dX8_digest_254 ?_
                          refine lv_iload_n hx hb dX8_digest_257 rfl (lv_at hl 0 rfl) ?_
                          refine x_iald hx hb hK hV f9 (kd) (by omega) (by decide) dX8_digest_258 ?_
                          refine lv_i2l (v := ((σ.1 7) kd).toInt64) hx hb dX8_digest_259 rfl ?_
                          refine lv_ladd hx hb dX8_digest_260 ?_
                          refine lv_lstore_n (lv' := [(1, .long ((31 * zd) + (((σ.1 7) kd).toInt64))), (3, .int (nI (kd))), (0, .ref (loc (300)))]) hx hb dX8_digest_261 rfl hl (by decide) rfl (fun ls hl => ?_)
                          refine lv_ldc2 (v := 31) hx hb hown (hts (.constantLong RX8 198 (31)) (List.mem_of_getElem? (i := 3) rfl)) dX8_digest_262 ?_
                          refine lv_lload_n hx hb dX8_digest_265 rfl (lv_at hl 0 rfl) ?_
                          refine lv_lmul hx hb dX8_digest_266 ?_
                          refine lv_aload_n hx hb dX8_digest_267 rfl (lv_at hl 2 rfl) ?_
                          refine x_get (C := RX8) (T := TX8) (N := 27) hx hb hts hi_X8_digest_X8 hown hK hV f1 rfl 22 (by decide) (hts (.fieldLink RX8 46 "SaddleHouseModel" "free" "[I") (List.mem_of_getElem? (i := 14) rfl)) (fun _ h9 => h9) rfl dX8_digest_268 ?_
                          refine lv_iload_n hx hb dX8_digest_271 rfl (lv_at hl 1 rfl) ?_
                          refine x_iald hx hb hK hV f10 (kd) (by omega) (by decide) dX8_digest_272 ?_
                          refine lv_i2l (v := ((σ.1 8) kd).toInt64) hx hb dX8_digest_273 rfl ?_
                          refine lv_ladd hx hb dX8_digest_274 ?_
                          refine lv_lstore_n (lv' := [(1, .long ((31 * ((31 * zd) + (((σ.1 7) kd).toInt64))) + (((σ.1 8) kd).toInt64))), (3, .int (nI (kd))), (0, .ref (loc (300)))]) hx hb dX8_digest_275 rfl hl (by decide) rfl (fun ls hl => ?_)
                          refine lv_iinc (v := nI (kd + 1)) (lv' := [(3, .int (nI (kd + 1))), (1, .long ((31 * ((31 * zd) + (((σ.1 7) kd).toInt64))) + (((σ.1 8) kd).toInt64))), (0, .ref (loc (300)))]) hx hb dX8_digest_276 hl (k := 1) rfl (nI_add _ _) (by decide) rfl (fun ls hl => ?_)
                          refine lv_goto (tgt := 240) hx hb dX8_digest_279 (by decide) ?_
                          exact ih30 ((31 * ((31 * zd) + (((σ.1 7) kd).toInt64))) + (((σ.1 8) kd).toInt64)) (kd + 1) ls (by omega) (by omega) (by rw [xd4, ← hbd]) (lv_sub hl [0, 1, 2] rfl)
                    exact lp240_27 ((σ.2 3) + 1) zc 0 ls (by omega) (Nat.zero_le _) (by rw [hbc, show kc = 192 * σ.2 2 by omega, yd_3]; rfl) (lv_sub hl [0, 1, 2] rfl)
                  · have _u := trivial
                    refine lv_ldc2 (v := 31) hx hb hown (hts (.constantLong RX8 198 (31)) (List.mem_of_getElem? (i := 3) rfl)) dX8_digest_218 ?_
                    refine lv_lload_n hx hb dX8_digest_221 rfl (lv_at hl 1 rfl) ?_
                    refine lv_lmul hx hb dX8_digest_222 ?_
                    refine lv_aload_n hx hb dX8_digest_223 rfl (lv_at hl 2 rfl) ?_
                    refine x_get (C := RX8) (T := TX8) (N := 27) hx hb hts hi_X8_digest_X8 hown hK hV f1 rfl 19 (by decide) (hts (.fieldLink RX8 40 "SaddleHouseModel" "patches" "[I") (List.mem_of_getElem? (i := 11) rfl)) (fun _ h9 => h9) rfl dX8_digest_224 ?_
                    refine lv_iload_n hx hb dX8_digest_227 rfl (lv_at hl 0 rfl) ?_
                    refine x_iald hx hb hK hV f8 (kc) (by omega) (by decide) dX8_digest_228 ?_
                    refine lv_i2l (v := ((σ.1 6) kc).toInt64) hx hb dX8_digest_229 rfl ?_
                    refine lv_ladd hx hb dX8_digest_230 ?_
                    refine lv_lstore_n (lv' := [(1, .long ((31 * zc) + (((σ.1 6) kc).toInt64))), (3, .int (nI (kc))), (0, .ref (loc (300)))]) hx hb dX8_digest_231 rfl hl (by decide) rfl (fun ls hl => ?_)
                    refine lv_iinc (v := nI (kc + 1)) (lv' := [(3, .int (nI (kc + 1))), (1, .long ((31 * zc) + (((σ.1 6) kc).toInt64))), (0, .ref (loc (300)))]) hx hb dX8_digest_232 hl (k := 1) rfl (nI_add _ _) (by decide) rfl (fun ls hl => ?_)
                    refine lv_goto (tgt := 206) hx hb dX8_digest_235 (by decide) ?_
                    exact ih25 ((31 * zc) + (((σ.1 6) kc).toInt64)) (kc + 1) ls (by omega) (by omega) (ymx_t hbc rfl) (lv_sub hl [0, 1, 2] rfl)
              exact lp206_22 ((192 * σ.2 2) + 1) zb 0 ls (by omega) (Nat.zero_le _) (by rw [hbb, show kb = σ.2 1 by omega]; rfl) (lv_sub hl [0, 1, 2] rfl)
            · have _u := trivial
              refine lv_iconst (v := nI 0) hx hb dX8_digest_126 (by decide +kernel) ?_
              refine lv_istore (lv' := [(4, .int (nI (0))), (3, .int (nI (kb))), (1, .long (zb)), (0, .ref (loc (300)))]) hx hb dX8_digest_127 hl (by decide) rfl (fun ls hl => ?_)
              have lp129_42 : ∀ (fuel43 : Nat) (zh : Int64) (kh : Nat) (ls : Array Slot), 9 - kh < fuel43 → (kh ≤ 9) → (zh = xmx (fun i => σ.1 3 (9 * kb + i)) kh (xd2 σ kb (xd1 σ (σ.2 0) 131))) → lv_has ls 6 [(4, .int (nI (kh))), (3, .int (nI (kb))), (1, .long (zh)), (0, .ref (loc (300)))] → W p l e rm_X8_digest s m ([.ref (loc (300))] : List Value).toArray below meth c s.heap [] 0 0 (MQ below (vp_Sl (fun r => r = sp_digest σ)) ([.ref (loc (300))] : List Value).toArray s 0 0 (fun _ => False)) (F0 m 129 ls []) := by
                intro fuel43
                induction fuel43 with
                | zero => intro zh kh ls hm44; exact absurd hm44 (Nat.not_lt_zero _)
                | succ fuel43 ih45 =>
                  intro zh kh ls hm44 hah hbh  hl
                  refine lv_iload hx hb dX8_digest_129 (lv_at hl 0 rfl) ?_
                  refine lv_bipush (v := nI 9) hx hb dX8_digest_131 (by decide +kernel) ?_
                  refine x_cge hx hb (kh) (9) (by omega) (by omega) (tgt := 162) dX8_digest_133 (by decide) (fun c46 => ?_) (fun c46 => ?_)
                  · have _u := trivial
                    refine lv_iconst (v := nI 0) hx hb dX8_digest_162 (by decide +kernel) ?_
                    refine lv_istore (lv' := [(4, .int (nI (0))), (3, .int (nI (kb))), (1, .long (zh)), (0, .ref (loc (300)))]) hx hb dX8_digest_163 hl (by decide) rfl (fun ls hl => ?_)
                    have lp165_47 : ∀ (fuel48 : Nat) (zi : Int64) (ki : Nat) (ls : Array Slot), 9 - ki < fuel48 → (ki ≤ 9) → (zi = xmx (fun i => σ.1 4 (9 * kb + i)) ki (xmx (fun i => σ.1 3 (9 * kb + i)) 9 (xd2 σ kb (xd1 σ (σ.2 0) 131)))) → lv_has ls 6 [(4, .int (nI (ki))), (3, .int (nI (kb))), (1, .long (zi)), (0, .ref (loc (300)))] → W p l e rm_X8_digest s m ([.ref (loc (300))] : List Value).toArray below meth c s.heap [] 0 0 (MQ below (vp_Sl (fun r => r = sp_digest σ)) ([.ref (loc (300))] : List Value).toArray s 0 0 (fun _ => False)) (F0 m 165 ls []) := by
                      intro fuel48
                      induction fuel48 with
                      | zero => intro zi ki ls hm49; exact absurd hm49 (Nat.not_lt_zero _)
                      | succ fuel48 ih50 =>
                        intro zi ki ls hm49 hai hbi  hl
                        refine lv_iload hx hb dX8_digest_165 (lv_at hl 0 rfl) ?_
                        refine lv_bipush (v := nI 9) hx hb dX8_digest_167 (by decide +kernel) ?_
                        refine x_cge hx hb (ki) (9) (by omega) (by omega) (tgt := 198) dX8_digest_169 (by decide) (fun c51 => ?_) (fun c51 => ?_)
                        · have _u := trivial
                          refine lv_iinc (v := nI (kb + 1)) (lv' := [(3, .int (nI (kb + 1))), (4, .int (nI (ki))), (1, .long (zi)), (0, .ref (loc (300)))]) hx hb dX8_digest_198 hl (k := 1) rfl (nI_add _ _) (by decide) rfl (fun ls hl => ?_)
                          refine lv_goto (tgt := 118) hx hb dX8_digest_201 (by decide) ?_
                          exact ih20 zi (kb + 1) ls (by omega) (by omega) (by rw [hbi, show ki = 9 by omega]; rfl) (lv_sub hl [0, 2, 3] rfl)
                        · have _u := trivial
                          refine lv_ldc2 (v := 31) hx hb hown (hts (.constantLong RX8 198 (31)) (List.mem_of_getElem? (i := 3) rfl)) dX8_digest_172 ?_
                          refine lv_lload_n hx hb dX8_digest_175 rfl (lv_at hl 2 rfl) ?_
                          refine lv_lmul hx hb dX8_digest_176 ?_
                          refine lv_aload_n hx hb dX8_digest_177 rfl (lv_at hl 3 rfl) ?_
                          refine x_get (C := RX8) (T := TX8) (N := 27) hx hb hts hi_X8_digest_X8 hown hK hV f1 rfl 7 (by decide) (hts (.fieldLink RX8 25 "SaddleHouseModel" "shims" "[I") (List.mem_of_getElem? (i := 9) rfl)) (fun _ h9 => h9) rfl dX8_digest_178 ?_
                          refine lv_bipush (v := nI 9) hx hb dX8_digest_181 (by decide +kernel) ?_
                          refine lv_iload_n hx hb dX8_digest_183 rfl (lv_at hl 1 rfl) ?_
                          refine x_imul hx hb (9) (kb) dX8_digest_184 ?_
                          refine lv_iload hx hb dX8_digest_185 (lv_at hl 0 rfl) ?_
                          refine x_iadd hx hb (9 * kb) (ki) dX8_digest_187 ?_
                          refine x_iald hx hb hK hV f6 ((9 * kb) + ki) (by omega) (by decide) dX8_digest_188 ?_
                          refine lv_i2l (v := ((σ.1 4) ((9 * kb) + ki)).toInt64) hx hb dX8_digest_189 rfl ?_
                          refine lv_ladd hx hb dX8_digest_190 ?_
                          refine lv_lstore_n (lv' := [(1, .long ((31 * zi) + (((σ.1 4) ((9 * kb) + ki)).toInt64))), (4, .int (nI (ki))), (3, .int (nI (kb))), (0, .ref (loc (300)))]) hx hb dX8_digest_191 rfl hl (by decide) rfl (fun ls hl => ?_)
                          refine lv_iinc (v := nI (ki + 1)) (lv' := [(4, .int (nI (ki + 1))), (1, .long ((31 * zi) + (((σ.1 4) ((9 * kb) + ki)).toInt64))), (3, .int (nI (kb))), (0, .ref (loc (300)))]) hx hb dX8_digest_192 hl (k := 1) rfl (nI_add _ _) (by decide) rfl (fun ls hl => ?_)
                          refine lv_goto (tgt := 165) hx hb dX8_digest_195 (by decide) ?_
                          exact ih50 ((31 * zi) + (((σ.1 4) ((9 * kb) + ki)).toInt64)) (ki + 1) ls (by omega) (by omega) (ymx_t hbi rfl) (lv_sub hl [0, 2, 1, 3] rfl)
                    exact lp165_47 (9 + 1) zh 0 ls (by omega) (Nat.zero_le _) (by rw [hbh, show kh = 9 by omega]; rfl) (lv_sub hl [0, 1, 2, 3] rfl)
                  · have _u := trivial
                    refine lv_ldc2 (v := 31) hx hb hown (hts (.constantLong RX8 198 (31)) (List.mem_of_getElem? (i := 3) rfl)) dX8_digest_136 ?_
                    refine lv_lload_n hx hb dX8_digest_139 rfl (lv_at hl 2 rfl) ?_
                    refine lv_lmul hx hb dX8_digest_140 ?_
                    refine lv_aload_n hx hb dX8_digest_141 rfl (lv_at hl 3 rfl) ?_
                    refine x_get (C := RX8) (T := TX8) (N := 27) hx hb hts hi_X8_digest_X8 hown hK hV f1 rfl 6 (by decide) (hts (.fieldLink RX8 22 "SaddleHouseModel" "body" "[I") (List.mem_of_getElem? (i := 8) rfl)) (fun _ h9 => h9) rfl dX8_digest_142 ?_
                    refine lv_bipush (v := nI 9) hx hb dX8_digest_145 (by decide +kernel) ?_
                    refine lv_iload_n hx hb dX8_digest_147 rfl (lv_at hl 1 rfl) ?_
                    refine x_imul hx hb (9) (kb) dX8_digest_148 ?_
                    refine lv_iload hx hb dX8_digest_149 (lv_at hl 0 rfl) ?_
                    refine x_iadd hx hb (9 * kb) (kh) dX8_digest_151 ?_
                    refine x_iald hx hb hK hV f5 ((9 * kb) + kh) (by omega) (by decide) dX8_digest_152 ?_
                    refine lv_i2l (v := ((σ.1 3) ((9 * kb) + kh)).toInt64) hx hb dX8_digest_153 rfl ?_
                    refine lv_ladd hx hb dX8_digest_154 ?_
                    refine lv_lstore_n (lv' := [(1, .long ((31 * zh) + (((σ.1 3) ((9 * kb) + kh)).toInt64))), (4, .int (nI (kh))), (3, .int (nI (kb))), (0, .ref (loc (300)))]) hx hb dX8_digest_155 rfl hl (by decide) rfl (fun ls hl => ?_)
                    refine lv_iinc (v := nI (kh + 1)) (lv' := [(4, .int (nI (kh + 1))), (1, .long ((31 * zh) + (((σ.1 3) ((9 * kb) + kh)).toInt64))), (3, .int (nI (kb))), (0, .ref (loc (300)))]) hx hb dX8_digest_156 hl (k := 1) rfl (nI_add _ _) (by decide) rfl (fun ls hl => ?_)
                    refine lv_goto (tgt := 129) hx hb dX8_digest_159 (by decide) ?_
                    exact ih45 ((31 * zh) + (((σ.1 3) ((9 * kb) + kh)).toInt64)) (kh + 1) ls (by omega) (by omega) (ymx_t hbh rfl) (lv_sub hl [0, 2, 1, 3] rfl)
              exact lp129_42 (9 + 1) zb 0 ls (by omega) (Nat.zero_le _) (by rw [hbb]; rfl) (lv_sub hl [0, 1, 2, 3] rfl)
        exact lp118_17 ((σ.2 1) + 1) za 0 ls (by omega) (Nat.zero_le _) (by rw [hba, show ka = σ.2 0 by omega]; rfl) (lv_sub hl [0, 1, 2] rfl)
      · have _u := trivial
        refine lv_ldc2 (v := 31) hx hb hown (hts (.constantLong RX8 198 (31)) (List.mem_of_getElem? (i := 3) rfl)) dX8_digest_14 ?_
        refine lv_lload_n hx hb dX8_digest_17 rfl (lv_at hl 1 rfl) ?_
        refine lv_lmul hx hb dX8_digest_18 ?_
        refine lv_aload_n hx hb dX8_digest_19 rfl (lv_at hl 2 rfl) ?_
        refine x_get (C := RX8) (T := TX8) (N := 27) hx hb hts hi_X8_digest_X8 hown hK hV f1 rfl 2 (by decide) (hts (.fieldLink RX8 13 "SaddleHouseModel" "measures" "[I") (List.mem_of_getElem? (i := 4) rfl)) (fun _ h9 => h9) rfl dX8_digest_20 ?_
        refine lv_iload_n hx hb dX8_digest_23 rfl (lv_at hl 0 rfl) ?_
        refine x_iald hx hb hK hV f2 (ka) (by omega) (by decide) dX8_digest_24 ?_
        refine x_top (congrArg Value.int (show _ = nI (σ.2 (10 + ka)) from rfl)) ?_
        refine lv_i2l (v := (nI (σ.2 (10 + ka))).toInt64) hx hb dX8_digest_25 rfl ?_
        refine lv_ladd hx hb dX8_digest_26 ?_
        refine lv_lstore_n (lv' := [(1, .long ((31 * za) + ((nI (σ.2 (10 + ka))).toInt64))), (3, .int (nI (ka))), (0, .ref (loc (300)))]) hx hb dX8_digest_27 rfl hl (by decide) rfl (fun ls hl => ?_)
        refine lv_iconst (v := nI 0) hx hb dX8_digest_28 (by decide +kernel) ?_
        refine lv_istore (lv' := [(4, .int (nI (0))), (1, .long ((31 * za) + ((nI (σ.2 (10 + ka))).toInt64))), (3, .int (nI (ka))), (0, .ref (loc (300)))]) hx hb dX8_digest_29 hl (by decide) rfl (fun ls hl => ?_)
        have lp31_52 : ∀ (fuel53 : Nat) (ze : Int64) (ke : Nat) (ls : Array Slot), σ.2 (10 + ka) - ke < fuel53 → (ke ≤ σ.2 (10 + ka)) → (ze = (xhx (fun j => σ.1 1 (6 * ka + j)) (fun j i => σ.1 2 (9 * (6 * ka + j) + i)) ke (31 * xd1 σ ka 131 + (nI (σ.2 (10 + ka))).toInt64))) → lv_has ls 6 [(4, .int (nI (ke))), (1, .long (ze)), (3, .int (nI (ka))), (0, .ref (loc (300)))] → W p l e rm_X8_digest s m ([.ref (loc (300))] : List Value).toArray below meth c s.heap [] 0 0 (MQ below (vp_Sl (fun r => r = sp_digest σ)) ([.ref (loc (300))] : List Value).toArray s 0 0 (fun _ => False)) (F0 m 31 ls []) := by
          intro fuel53
          induction fuel53 with
          | zero => intro ze ke ls hm54; exact absurd hm54 (Nat.not_lt_zero _)
          | succ fuel53 ih55 =>
            intro ze ke ls hm54 hae hbe  hl
            have h6k := hN6 ka
            refine lv_iload hx hb dX8_digest_31 (lv_at hl 0 rfl) ?_
            refine lv_aload_n hx hb dX8_digest_33 rfl (lv_at hl 3 rfl) ?_
            refine x_get (C := RX8) (T := TX8) (N := 27) hx hb hts hi_X8_digest_X8 hown hK hV f1 rfl 2 (by decide) (hts (.fieldLink RX8 13 "SaddleHouseModel" "measures" "[I") (List.mem_of_getElem? (i := 4) rfl)) (fun _ h9 => h9) rfl dX8_digest_34 ?_
            refine lv_iload_n hx hb dX8_digest_37 rfl (lv_at hl 2 rfl) ?_
            refine x_iald hx hb hK hV f2 (ka) (by omega) (by decide) dX8_digest_38 ?_
            refine x_top (congrArg Value.int (show _ = nI (σ.2 (10 + ka)) from rfl)) ?_
            refine x_cge hx hb (ke) (σ.2 (10 + ka)) (by omega) (by omega) (tgt := 110) dX8_digest_39 (by decide) (fun c56 => ?_) (fun c56 => ?_)
            · have _u := trivial
              refine lv_iinc (v := nI (ka + 1)) (lv' := [(3, .int (nI (ka + 1))), (4, .int (nI (ke))), (1, .long (ze)), (0, .ref (loc (300)))]) hx hb dX8_digest_110 hl (k := 2) rfl (nI_add _ _) (by decide) rfl (fun ls hl => ?_)
              refine lv_goto (tgt := 6) hx hb dX8_digest_113 (by decide) ?_
              exact ih15 ze (ka + 1) ls (by omega) (by omega) (by rw [hbe, show ke = σ.2 (10 + ka) by omega]; rfl) (lv_sub hl [0, 2, 3] rfl)
            · have _u := trivial
              refine lv_ldc2 (v := 31) hx hb hown (hts (.constantLong RX8 198 (31)) (List.mem_of_getElem? (i := 3) rfl)) dX8_digest_42 ?_
              refine lv_lload_n hx hb dX8_digest_45 rfl (lv_at hl 1 rfl) ?_
              refine lv_lmul hx hb dX8_digest_46 ?_
              refine lv_aload_n hx hb dX8_digest_47 rfl (lv_at hl 3 rfl) ?_
              refine x_get (C := RX8) (T := TX8) (N := 27) hx hb hts hi_X8_digest_X8 hown hK hV f1 rfl 3 (by decide) (hts (.fieldLink RX8 16 "SaddleHouseModel" "dayOf" "[I") (List.mem_of_getElem? (i := 5) rfl)) (fun _ h9 => h9) rfl dX8_digest_48 ?_
              refine lv_bipush (v := nI 6) hx hb dX8_digest_51 (by decide +kernel) ?_
              refine lv_iload_n hx hb dX8_digest_53 rfl (lv_at hl 2 rfl) ?_
              refine x_imul hx hb (6) (ka) dX8_digest_54 ?_
              refine lv_iload hx hb dX8_digest_55 (lv_at hl 0 rfl) ?_
              refine x_iadd hx hb (6 * ka) (ke) dX8_digest_57 ?_
              refine x_iald hx hb hK hV f3 ((6 * ka) + ke) (by omega) (by decide) dX8_digest_58 ?_
              refine lv_i2l (v := ((σ.1 1) ((6 * ka) + ke)).toInt64) hx hb dX8_digest_59 rfl ?_
              refine lv_ladd hx hb dX8_digest_60 ?_
              refine lv_lstore_n (lv' := [(1, .long ((31 * ze) + (((σ.1 1) ((6 * ka) + ke)).toInt64))), (4, .int (nI (ke))), (3, .int (nI (ka))), (0, .ref (loc (300)))]) hx hb dX8_digest_61 rfl hl (by decide) rfl (fun ls hl => ?_)
              refine lv_iconst (v := nI 0) hx hb dX8_digest_62 (by decide +kernel) ?_
              refine lv_istore (lv' := [(5, .int (nI (0))), (1, .long ((31 * ze) + (((σ.1 1) ((6 * ka) + ke)).toInt64))), (4, .int (nI (ke))), (3, .int (nI (ka))), (0, .ref (loc (300)))]) hx hb dX8_digest_63 hl (by decide) rfl (fun ls hl => ?_)
              have lp65_57 : ∀ (fuel58 : Nat) (zg : Int64) (kg : Nat) (ls : Array Slot), 9 - kg < fuel58 → (kg ≤ 9) → (zg = xmx (fun i => σ.1 2 (9 * (6 * ka + ke) + i)) kg (31 * (xhx (fun j => σ.1 1 (6 * ka + j)) (fun j i => σ.1 2 (9 * (6 * ka + j) + i)) ke (31 * xd1 σ ka 131 + (nI (σ.2 (10 + ka))).toInt64)) + (σ.1 1 (6 * ka + ke)).toInt64)) → lv_has ls 6 [(5, .int (nI (kg))), (1, .long (zg)), (4, .int (nI (ke))), (3, .int (nI (ka))), (0, .ref (loc (300)))] → W p l e rm_X8_digest s m ([.ref (loc (300))] : List Value).toArray below meth c s.heap [] 0 0 (MQ below (vp_Sl (fun r => r = sp_digest σ)) ([.ref (loc (300))] : List Value).toArray s 0 0 (fun _ => False)) (F0 m 65 ls []) := by
                intro fuel58
                induction fuel58 with
                | zero => intro zg kg ls hm59; exact absurd hm59 (Nat.not_lt_zero _)
                | succ fuel58 ih60 =>
                  intro zg kg ls hm59 hag hbg  hl
                  refine lv_iload hx hb dX8_digest_65 (lv_at hl 0 rfl) ?_
                  refine lv_bipush (v := nI 9) hx hb dX8_digest_67 (by decide +kernel) ?_
                  refine x_cge hx hb (kg) (9) (by omega) (by omega) (tgt := 104) dX8_digest_69 (by decide) (fun c61 => ?_) (fun c61 => ?_)
                  · have _u := trivial
                    refine lv_iinc (v := nI (ke + 1)) (lv' := [(4, .int (nI (ke + 1))), (5, .int (nI (kg))), (1, .long (zg)), (3, .int (nI (ka))), (0, .ref (loc (300)))]) hx hb dX8_digest_104 hl (k := 2) rfl (nI_add _ _) (by decide) rfl (fun ls hl => ?_)
                    refine lv_goto (tgt := 31) hx hb dX8_digest_107 (by decide) ?_
                    exact ih55 zg (ke + 1) ls (by omega) (by omega) (by rw [hbg, show kg = 9 by omega]; rfl) (lv_sub hl [0, 2, 3, 4] rfl)
                  · have _u := trivial
                    refine lv_ldc2 (v := 31) hx hb hown (hts (.constantLong RX8 198 (31)) (List.mem_of_getElem? (i := 3) rfl)) dX8_digest_72 ?_
                    refine lv_lload_n hx hb dX8_digest_75 rfl (lv_at hl 1 rfl) ?_
                    refine lv_lmul hx hb dX8_digest_76 ?_
                    refine lv_aload_n hx hb dX8_digest_77 rfl (lv_at hl 4 rfl) ?_
                    refine x_get (C := RX8) (T := TX8) (N := 27) hx hb hts hi_X8_digest_X8 hown hK hV f1 rfl 4 (by decide) (hts (.fieldLink RX8 19 "SaddleHouseModel" "heights" "[I") (List.mem_of_getElem? (i := 6) rfl)) (fun _ h9 => h9) rfl dX8_digest_78 ?_
                    refine lv_bipush (v := nI 9) hx hb dX8_digest_81 (by decide +kernel) ?_
                    refine lv_bipush (v := nI 6) hx hb dX8_digest_83 (by decide +kernel) ?_
                    refine lv_iload_n hx hb dX8_digest_85 rfl (lv_at hl 3 rfl) ?_
                    refine x_imul hx hb (6) (ka) dX8_digest_86 ?_
                    refine lv_iload hx hb dX8_digest_87 (lv_at hl 2 rfl) ?_
                    refine x_iadd hx hb (6 * ka) (ke) dX8_digest_89 ?_
                    refine x_imul hx hb (9) ((6 * ka) + ke) dX8_digest_90 ?_
                    refine lv_iload hx hb dX8_digest_91 (lv_at hl 0 rfl) ?_
                    refine x_iadd hx hb (9 * ((6 * ka) + ke)) (kg) dX8_digest_93 ?_
                    refine x_iald hx hb hK hV f4 ((9 * ((6 * ka) + ke)) + kg) (by omega) (by decide) dX8_digest_94 ?_
                    refine lv_i2l (v := ((σ.1 2) ((9 * ((6 * ka) + ke)) + kg)).toInt64) hx hb dX8_digest_95 rfl ?_
                    refine lv_ladd hx hb dX8_digest_96 ?_
                    refine lv_lstore_n (lv' := [(1, .long ((31 * zg) + (((σ.1 2) ((9 * ((6 * ka) + ke)) + kg)).toInt64))), (5, .int (nI (kg))), (4, .int (nI (ke))), (3, .int (nI (ka))), (0, .ref (loc (300)))]) hx hb dX8_digest_97 rfl hl (by decide) rfl (fun ls hl => ?_)
                    refine lv_iinc (v := nI (kg + 1)) (lv' := [(5, .int (nI (kg + 1))), (1, .long ((31 * zg) + (((σ.1 2) ((9 * ((6 * ka) + ke)) + kg)).toInt64))), (4, .int (nI (ke))), (3, .int (nI (ka))), (0, .ref (loc (300)))]) hx hb dX8_digest_98 hl (k := 1) rfl (nI_add _ _) (by decide) rfl (fun ls hl => ?_)
                    refine lv_goto (tgt := 65) hx hb dX8_digest_101 (by decide) ?_
                    exact ih60 ((31 * zg) + (((σ.1 2) ((9 * ((6 * ka) + ke)) + kg)).toInt64)) (kg + 1) ls (by omega) (by omega) (ymx_t hbg rfl) (lv_sub hl [0, 1, 2, 3, 4] rfl)
              exact lp65_57 (9 + 1) ((31 * ze) + (((σ.1 1) ((6 * ka) + ke)).toInt64)) 0 ls (by omega) (Nat.zero_le _) (by rw [hbe]; rfl) (lv_sub hl [0, 1, 2, 3, 4] rfl)
        exact lp31_52 ((σ.2 (10 + ka)) + 1) ((31 * za) + ((nI (σ.2 (10 + ka))).toInt64)) 0 ls (by omega) (Nat.zero_le _) (by rw [hba]; rfl) (lv_sub hl [0, 1, 2, 3] rfl)
  exact lp6_12 ((σ.2 0) + 1) 131 0 ls (by omega) (Nat.zero_le _) rfl (lv_sub hl [0, 1, 2] rfl)
