/-! the law's loop -/
set_option maxHeartbeats 4000000 in
set_option maxRecDepth 100000 in
theorem law_loop {p : Program} {e : Env} {s : State} {m : MethodId} {below : List Frame} {meth : Method} {c : Code} (l : Launch) {b L : Nat} {xs : Nat → Int32} (hL : L ≤ 3584) (C0 : lw_At p s m meth c b L xs) {D : va_G} {cy : Nat → ClassId} (hK : xK D cy s) : ∀ (fuel i : Nat) (loc : Nat → Nat) (w : xM) (σ : xS) (H : Heap) (locs : List Loc) (cells slots : Nat) (ls : Array Slot), 4000 - i < fuel → i ≤ 3584 → lwI D cy s loc w σ H locs → cells + 3 * (4000 - i) ≤ 600000 → slots + 193 * (4000 - i) ≤ 7302250 → lv_has ls 4 [(1, .ref (loc 0)), (2, .ref (loc 300)), (3, .int (nI i)), (0, .ref b)] → W p l e room_1 s m #[Value.ref b] below meth c H locs cells slots (lw_Z below #[Value.ref b] s) (F0 m 18 ls []) := by
  intro fuel
  induction fuel with
  | zero => intro i loc w σ H locs cells slots ls hm; exact absurd hm (Nat.not_lt_zero _)
  | succ fuel ih =>
    intro i loc w σ H locs cells slots ls hm hi hI hc hs hl
    obtain ⟨hx, hb, hr, hml, hown, hts, hX, hbl, hlocks, hgv⟩ := id C0
    have hbA : ¬ (fun q : Nat => s.heap.size ≤ q) b := Nat.not_le.mpr hbl
    have hS := hI.2.2.2.2
    refine lv_iload_n hx hb dL_law_18 rfl (lv_at hl 2 rfl) ?_
    refine lv_aload_n hx hb dL_law_19 rfl (lv_at hl 3 rfl) ?_
    refine va_slen hx hb hX hbl hbA hS dL_law_20 ?_
    refine x_top (congrArg Value.int (show Int32.ofNat L = nI L from rfl)) ?_
    refine lv_bipush (v := nI 7) hx hb dL_law_21 (by decide +kernel) ?_
    refine lv_isub hx hb dL_law_23 ?_
    refine lv_icmp_gt (tgt := 1096) hx hb dL_law_24 (by decide) (fun hq => ?_) (fun hq => ?_)
    · refine lv_iconst (v := 1) hx hb dL_law_1096 (by decide +kernel) ?_
      refine va_forget (fun q h => hS.2.2 q h) ?_
      refine W.widen (k := 600000) (n := 7302250) (by omega) (by omega) ?_
      exact lw_ret hx hb hr hlocks dL_law_1097
    · have hi7 : i + 7 ≤ L := lw_le hL hi (by first | exact hq | exact Int32.not_lt.mpr hq)
      have nxt : ∀ (loc' : Nat → Nat) (w' : xM) (σ' : xS) (H' : Heap) (locs' : List Loc), lwI D cy s loc' w' σ' H' locs' → loc' 0 = loc 0 → loc' 300 = loc 300 → W p l e room_1 s m #[Value.ref b] below meth c H' locs' (cells + 3) (slots + 193) (lw_Z below #[Value.ref b] s) (F0 m 1090 ls []) := by
        intro loc' w' σ' H' locs' hI' e0 e3
        refine lv_iinc (v := nI (i + 7)) (lv' := [(3, .int (nI (i + 7))), (1, .ref (loc 0)), (2, .ref (loc 300)), (0, .ref b)]) hx hb dL_law_1090 hl (k := 2) rfl (nI_add _ _) (by decide) rfl (fun ls hl => ?_)
        refine lv_goto (tgt := 18) hx hb dL_law_1093 (by decide) ?_
        exact ih (i + 7) loc' w' σ' H' locs' (cells + 3) (slots + 193) ls (by omega) (by omega) hI' (by omega) (by omega) (by rw [e0, e3]; exact lv_sub hl [1, 2, 0, 3] rfl)
      refine lv_aload_n hx hb dL_law_27 rfl (lv_at hl 3 rfl) ?_
      refine lv_iload_n hx hb dL_law_28 rfl (lv_at hl 2 rfl) ?_
      refine va_sld (i := nI i) hx hb hX hbl hbA hS (vp_in_nI (by omega) (by omega)) dL_law_29 ?_
      refine lv_bipush (v := nI 31) hx hb dL_law_30 (by decide +kernel) ?_
      refine lv_iand hx hb dL_law_32 ?_
      obtain ⟨j, hj, ej⟩ := pk_andE (xs (nI i).toNatClampNeg) (m := nI 31) 5 (by decide)
      refine x_top (congrArg Value.int ej) ?_
      have hc3 : cells + 3 ≤ 600000 := by omega
      have hs3 : slots + 193 ≤ 7302250 := by omega
      rcases (show j = 0 ∨ j = 1 ∨ j = 2 ∨ j = 3 ∨ j = 4 ∨ j = 5 ∨ j = 6 ∨ j = 7 ∨ j = 8 ∨ j = 9 ∨ j = 10 ∨ j = 11 ∨ j = 12 ∨ j = 13 ∨ j = 14 ∨ j = 15 ∨ j = 16 ∨ j = 17 ∨ j = 18 ∨ j = 19 ∨ j = 20 ∨ j = 21 ∨ j = 22 ∨ j = 23 ∨ j = 24 ∨ j = 25 ∨ j = 26 ∨ j = 27 ∨ j = 28 ∨ j = 29 ∨ j = 30 ∨ j = 31 by omega) with q | q | q | q | q | q | q | q | q | q | q | q | q | q | q | q | q | q | q | q | q | q | q | q | q | q | q | q | q | q | q | q <;> subst q
      · refine lv_tableIn (tgt := 156) hx hb dL_law_33 (by decide) (by decide) rfl (by decide) ?_
        exact law_c0 l hL C0 hK hi7 hI hc3 hs3 hl nxt
      · refine lv_tableIn (tgt := 169) hx hb dL_law_33 (by decide) (by decide) rfl (by decide) ?_
        exact law_c1 l hL C0 hK hi7 hI hc3 hs3 hl nxt
      · refine lv_tableIn (tgt := 202) hx hb dL_law_33 (by decide) (by decide) rfl (by decide) ?_
        exact law_c2 l hL C0 hK hi7 hI hc3 hs3 hl nxt
      · refine lv_tableIn (tgt := 235) hx hb dL_law_33 (by decide) (by decide) rfl (by decide) ?_
        exact law_c3 l hL C0 hK hi7 hI hc3 hs3 hl nxt
      · refine lv_tableIn (tgt := 278) hx hb dL_law_33 (by decide) (by decide) rfl (by decide) ?_
        exact law_c4 l hL C0 hK hi7 hI hc3 hs3 hl nxt
      · refine lv_tableIn (tgt := 291) hx hb dL_law_33 (by decide) (by decide) rfl (by decide) ?_
        exact law_c5 l hL C0 hK hi7 hI hc3 hs3 hl nxt
      · refine lv_tableIn (tgt := 334) hx hb dL_law_33 (by decide) (by decide) rfl (by decide) ?_
        exact law_c6 l hL C0 hK hi7 hI hc3 hs3 hl nxt
      · refine lv_tableIn (tgt := 367) hx hb dL_law_33 (by decide) (by decide) rfl (by decide) ?_
        exact law_c7 l hL C0 hK hi7 hI hc3 hs3 hl nxt
      · refine lv_tableIn (tgt := 430) hx hb dL_law_33 (by decide) (by decide) rfl (by decide) ?_
        exact law_c8 l hL C0 hK hi7 hI hc3 hs3 hl nxt
      · refine lv_tableIn (tgt := 505) hx hb dL_law_33 (by decide) (by decide) rfl (by decide) ?_
        exact law_c9 l hL C0 hK hi7 hI hc3 hs3 hl nxt
      · refine lv_tableIn (tgt := 558) hx hb dL_law_33 (by decide) (by decide) rfl (by decide) ?_
        exact law_c10 l hL C0 hK hi7 hI hc3 hs3 hl nxt
      · refine lv_tableIn (tgt := 581) hx hb dL_law_33 (by decide) (by decide) rfl (by decide) ?_
        exact law_c11 l hL C0 hK hi7 hI hc3 hs3 hl nxt
      · refine lv_tableIn (tgt := 594) hx hb dL_law_33 (by decide) (by decide) rfl (by decide) ?_
        exact law_c12 l hL C0 hK hi7 hI hc3 hs3 hl nxt
      · refine lv_tableIn (tgt := 637) hx hb dL_law_33 (by decide) (by decide) rfl (by decide) ?_
        exact law_c13 l hL C0 hK hi7 hI hc3 hs3 hl nxt
      · refine lv_tableIn (tgt := 670) hx hb dL_law_33 (by decide) (by decide) rfl (by decide) ?_
        exact law_c14 l hL C0 hK hi7 hI hc3 hs3 hl nxt
      · refine lv_tableIn (tgt := 683) hx hb dL_law_33 (by decide) (by decide) rfl (by decide) ?_
        exact law_c15 l hL C0 hK hi7 hI hc3 hs3 hl nxt
      · refine lv_tableIn (tgt := 726) hx hb dL_law_33 (by decide) (by decide) rfl (by decide) ?_
        exact law_c16 l hL C0 hK hi7 hI hc3 hs3 hl nxt
      · refine lv_tableIn (tgt := 769) hx hb dL_law_33 (by decide) (by decide) rfl (by decide) ?_
        exact law_c17 l hL C0 hK hi7 hI hc3 hs3 hl nxt
      · refine lv_tableIn (tgt := 812) hx hb dL_law_33 (by decide) (by decide) rfl (by decide) ?_
        exact law_c18 l hL C0 hK hi7 hI hc3 hs3 hl nxt
      · refine lv_tableIn (tgt := 855) hx hb dL_law_33 (by decide) (by decide) rfl (by decide) ?_
        exact law_c19 l hL C0 hK hi7 hI hc3 hs3 hl nxt
      · refine lv_tableIn (tgt := 878) hx hb dL_law_33 (by decide) (by decide) rfl (by decide) ?_
        exact law_c20 l hL C0 hK hi7 hI hc3 hs3 hl nxt
      · refine lv_tableIn (tgt := 911) hx hb dL_law_33 (by decide) (by decide) rfl (by decide) ?_
        exact law_c21 l hL C0 hK hi7 hI hc3 hs3 hl nxt
      · refine lv_tableIn (tgt := 924) hx hb dL_law_33 (by decide) (by decide) rfl (by decide) ?_
        exact law_c22 l hL C0 hK hi7 hI hc3 hs3 hl nxt
      · refine lv_tableIn (tgt := 987) hx hb dL_law_33 (by decide) (by decide) rfl (by decide) ?_
        exact law_c23 l hL C0 hK hi7 hI hc3 hs3 hl nxt
      · refine lv_tableIn (tgt := 1020) hx hb dL_law_33 (by decide) (by decide) rfl (by decide) ?_
        exact law_c24 l hL C0 hK hi7 hI hc3 hs3 hl nxt
      · refine lv_tableIn (tgt := 1053) hx hb dL_law_33 (by decide) (by decide) rfl (by decide) ?_
        exact law_c25 l hL C0 hK hi7 hI hc3 hs3 hl nxt
      · refine lv_tableIn (tgt := 1076) hx hb dL_law_33 (by decide) (by decide) rfl (by decide) ?_
        exact law_c26 l hL C0 hK hi7 hI hc3 hs3 hl nxt
      · refine lv_tableOut (tgt := 1090) hx hb dL_law_33 (by decide) (by decide) ?_
        refine W.widen (k := cells + 3) (n := slots + 193) (by omega) (by omega) ?_
        exact nxt loc w σ H locs hI rfl rfl
      · refine lv_tableOut (tgt := 1090) hx hb dL_law_33 (by decide) (by decide) ?_
        refine W.widen (k := cells + 3) (n := slots + 193) (by omega) (by omega) ?_
        exact nxt loc w σ H locs hI rfl rfl
      · refine lv_tableOut (tgt := 1090) hx hb dL_law_33 (by decide) (by decide) ?_
        refine W.widen (k := cells + 3) (n := slots + 193) (by omega) (by omega) ?_
        exact nxt loc w σ H locs hI rfl rfl
      · refine lv_tableOut (tgt := 1090) hx hb dL_law_33 (by decide) (by decide) ?_
        refine W.widen (k := cells + 3) (n := slots + 193) (by omega) (by omega) ?_
        exact nxt loc w σ H locs hI rfl rfl
      · refine lv_tableOut (tgt := 1090) hx hb dL_law_33 (by decide) (by decide) ?_
        refine W.widen (k := cells + 3) (n := slots + 193) (by omega) (by omega) ?_
        exact nxt loc w σ H locs hI rfl rfl
