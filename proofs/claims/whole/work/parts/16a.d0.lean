abbrev rm_X7_fitsOn : Room := { frames := 4, cells := 0, slots := 0, locals := 92 }
theorem hi_X7_fitsOn_X7 : ∀ w ∈ wsX70, w ∈ wsX7_fitsOn := fun w h => List.mem_cons_of_mem _ (List.mem_append_left _ (List.mem_append_left _ (List.mem_append_left _ (List.mem_append_right _ h))))
set_option maxHeartbeats 4000000 in
set_option maxRecDepth 100000 in
theorem c_X7_fitsOn (l : Launch) (D : va_G) (cy : Nat → ClassId) (loc : Nat → Nat) (w : xM) (sz : Nat) (σ : xS) (hN : xN8 σ) (hR : xR cy loc σ w) (hB : xBd σ) (k j load : Nat) (hk : k < σ.2 0) (hj : j < σ.2 (10 + k)) (hl1 : 1 ≤ load) (hl2 : load ≤ 2000) (t : Nat) (ht : t < σ.2 1) (m0 : Int32)  : Met l yX7_fitsOn wsX7_fitsOn rm_X7_fitsOn (va_Pc [.ref (loc (0)), .int (nI (t)), .ref (loc (40 + 6 * k + j)), .int (nI (load)), .int (m0)] (xP D cy loc w sz)) (va_Qi (fun r u => r = xb (xfault (xbe σ t (6 * k + j) load) m0 = 0) ∧ u.1 = loc ∧ ∃ g b : Nat → Int32, u.2 = xup (xup w 9 (eI cy 9 g)) 10 (eI cy 9 b) ∧ ∀ i, i < 9 → b i = xbe σ t (6 * k + j) load i) (xB D (xA loc w sz)) (xA loc w sz)) 0 0 (xA loc w sz) := by
  refine x_met (cc := cX7_fitsOn) (maxL := 5) (ret := (some .boolean)) (C := RX7) (by decide) rfl rfl (Nat.le_of_ble_eq_true rfl) ?_
  intro p e s m below meth c ls hx hb hml hr hts hown hlocks hin hP hl
  obtain ⟨hsz, hV, hK⟩ := hP
  subst hsz
  have hA : ∀ q : Nat, s.heap.size ≤ q → xA loc w s.heap.size q := fun q h => Or.inr h
  have hS : va_S (xA loc w s.heap.size) s.heap s.heap [] := va_S.rf
  have hl : lv_has ls 5 [(0, .ref (loc (0))), (1, .int (nI (t))), (2, .ref (loc (40 + 6 * k + j))), (3, .int (nI (load))), (4, .int (m0))] := hl
  have hNN := hN
  have hRR := hR
  obtain ⟨g0, b0, q0, hw⟩ := hR
  obtain ⟨hN0, hN1, hN2, hN3, hN4, hN5, hN6⟩ := hN
  have h6_k := hN6 k
  have f1 : w (0) = some (.inr (7, [.ref (loc (1)), .ref (loc (2)), .ref (loc (3)), .ref (loc (4)), .ref (loc (5)), .ref (loc (6)), .ref (loc (7)), .int (nI (σ.2 0)), .int (nI (σ.2 1)), .int (nI (σ.2 2)), .int (nI (σ.2 3)), .int (nI (σ.2 4)), .int (nI (σ.2 5)), .int (nI (σ.2 6)), .int (σ.1 10 1), .int (σ.1 10 0), .ref (loc (8)), .ref (loc (11))])) := (hw 0 (by decide)).trans rfl
  have f2 : w (3) = some (eQ cy 6 8 (xq (fun k => loc (150 + k)) (σ.2 1))) := (hw 3 (by decide)).trans rfl
  have f3 : w (8) = some (.inr (5, [.ref (loc (9)), .ref (loc (10))])) := (hw 8 (by decide)).trans rfl
  have f4 : w (9) = some (eI cy 9 (g0)) := (hw 9 (by decide)).trans rfl
  have f5 : w (10) = some (eI cy 9 (b0)) := (hw 10 (by decide)).trans rfl
  have f6 : w (40 + 6 * k + j) = some (.inr (3, [.int (σ.1 1 (6 * k + j)), .ref (loc (100 + 6 * k + j))])) := (hw (40 + 6 * k + j) (by omega)).trans (xC_40 (by omega) (by omega) (by omega) (by omega))
  have f7 : w (100 + 6 * k + j) = some (eI cy 9 (xsl 9 (σ.1 2) (9 * (6 * k + j)))) := (hw (100 + 6 * k + j) (by omega)).trans (xC_100 (by omega) (by omega) (by omega) (by omega))
  refine lv_aload_n hx hb dX7_fitsOn_0 rfl (lv_at hl 0 rfl) ?_
  refine x_get (C := RX7) (T := TX7) (N := 18) hx hb hts hi_X7_fitsOn_X7 hown hK hV f1 rfl 16 (by decide) (hts (.fieldLink RX7 77 "SaddleHouse" "seat" "LSaddleHouse$Seat;") (List.mem_of_getElem? (i := 1) rfl)) (fun _ h9 => h9) rfl dX7_fitsOn_1 ?_
  refine lv_aload_n hx hb dX7_fitsOn_4 rfl (lv_at hl 0 rfl) ?_
  refine x_get (C := RX7) (T := TX7) (N := 18) hx hb hts hi_X7_fitsOn_X7 hown hK hV f1 rfl 2 (by decide) (hts (.fieldLink RX7 21 "SaddleHouse" "trees" "[LSaddleHouse$Tree;") (List.mem_of_getElem? (i := 2) rfl)) (fun _ h9 => h9) rfl dX7_fitsOn_5 ?_
  refine lv_iload_n hx hb dX7_fitsOn_8 rfl (lv_at hl 1 rfl) ?_
  refine x_aald hx hb hK hV f2 rfl (t) (by omega) (by decide) dX7_fitsOn_9 ?_
  refine x_topr (xq_at ht) ?_
  have f8 : w (150 + t) = some (.inr (6, [.ref (loc (160 + t)), .ref (loc (170 + t))])) := ((hw (150 + t) (by omega)).trans (xC_150 (by omega) (by omega)))
  have f9 : w (160 + t) = some (eI cy 9 (xsl 9 (σ.1 3) (9 * t))) := ((hw (160 + t) (by omega)).trans (xC_160 (by omega) (by omega)))
  have f10 : w (170 + t) = some (eI cy 9 (xsl 9 (σ.1 4) (9 * t))) := ((hw (170 + t) (by omega)).trans (xC_170 (by omega) (by omega)))
  refine lv_aload_n hx hb dX7_fitsOn_10 rfl (lv_at hl 2 rfl) ?_
  refine lv_iload_n hx hb dX7_fitsOn_11 rfl (lv_at hl 3 rfl) ?_
  refine x_mv (va_runVN (host := RX7) (As := [.ref (loc (150 + t)), .ref (loc (40 + 6 * k + j)), .int (nI (load))]) (rest := []) ⟨hx, hb, hml, hown, hts⟩ (c_X5_settle l D cy loc w s.heap.size (150 + t) (160 + t) (170 + t) (40 + 6 * k + j) (100 + 6 * k + j) g0 b0 (xsl 9 (σ.1 3) (9 * t)) (xsl 9 (σ.1 4) (9 * t)) (xsl 9 (σ.1 2) (9 * (6 * k + j))) (σ.1 1 (6 * k + j)) ⟨by omega, by omega⟩ ⟨by omega, by omega⟩ ⟨by omega, by omega⟩ ⟨by omega, by omega⟩ ⟨by omega, by omega⟩ (xGs σ t (6 * k + j)) (xGs_all hB t (6 * k + j)).1 (xGs_all hB t (6 * k + j)).2.1 (xGs_all hB t (6 * k + j)).2.2 load hl1 hl2 f3 f8 f6 f4 f5 f9 f10 f7) ⟨va_cnB 3 hts gX7_fitsOn_X5_settle_n139 rfl rfl rfl (hK.2.1 (.methodLinkNest RX7 139 yX5_settle RX7) (by decide +kernel)) (hts (.initialized RX5) (List.mem_of_getElem? (i := 4) rfl)) (by decide +kernel) ⟨Nat.le_of_ble_eq_true rfl, Nat.le_of_ble_eq_true rfl⟩, hts (.instanceMethod yX5_settle) (List.mem_of_getElem? (i := 3) rfl), hts (.selects RX5 yX5_settle yX5_settle) (List.mem_of_getElem? (i := 5) rfl)⟩ (x_preV hK hV f3 rfl) rfl rfl hl.1 rfl (lv_room (Nat.le_of_ble_eq_true rfl)) dX7_fitsOn_12 ⟨Nat.le_of_ble_eq_true rfl, Nat.le_of_ble_eq_true rfl⟩) hV hS hA (fun loc18 w17 H13 L14 hr12 hV15 hS16 => ?_)
  obtain ⟨e20, g1, b1, e21, hb1⟩ := hr12
  have e20 : loc = loc18 := Eq.symm e20
  subst e20
  have e21 := Eq.symm e21
  subst e21
  have f22 : (xup (xup w (9) (eI cy 9 (g1))) (10) (eI cy 9 (b1))) (0) = some (.inr (7, [.ref (loc (1)), .ref (loc (2)), .ref (loc (3)), .ref (loc (4)), .ref (loc (5)), .ref (loc (6)), .ref (loc (7)), .int (nI (σ.2 0)), .int (nI (σ.2 1)), .int (nI (σ.2 2)), .int (nI (σ.2 3)), .int (nI (σ.2 4)), .int (nI (σ.2 5)), .int (nI (σ.2 6)), .int (σ.1 10 1), .int (σ.1 10 0), .ref (loc (8)), .ref (loc (11))])) := xup_o (xup_o (f1) (by omega)) (by omega)
  have f23 : (xup (xup w (9) (eI cy 9 (g1))) (10) (eI cy 9 (b1))) (8) = some (.inr (5, [.ref (loc (9)), .ref (loc (10))])) := xup_o (xup_o (f3) (by omega)) (by omega)
  have f24 : (xup (xup w (9) (eI cy 9 (g1))) (10) (eI cy 9 (b1))) (40 + 6 * k + j) = some (.inr (3, [.int (σ.1 1 (6 * k + j)), .ref (loc (100 + 6 * k + j))])) := xup_o (xup_o (f6) (by omega)) (by omega)
  have f25 : (xup (xup w (9) (eI cy 9 (g1))) (10) (eI cy 9 (b1))) (150 + t) = some (.inr (6, [.ref (loc (160 + t)), .ref (loc (170 + t))])) := xup_o (xup_o (((hw (150 + t) (by omega)).trans (xC_150 (by omega) (by omega)))) (by omega)) (by omega)
  have f26 : (xup (xup w (9) (eI cy 9 (g1))) (10) (eI cy 9 (b1))) (9) = some (eI cy 9 (g1)) := xup_o (xup_at _ _ _) (by omega)
  have f27 : (xup (xup w (9) (eI cy 9 (g1))) (10) (eI cy 9 (b1))) (10) = some (eI cy 9 (b1)) := xup_at _ _ _
  have f28 : (xup (xup w (9) (eI cy 9 (g1))) (10) (eI cy 9 (b1))) (100 + 6 * k + j) = some (eI cy 9 (xsl 9 (σ.1 2) (9 * (6 * k + j)))) := xup_o (xup_o (f7) (by omega)) (by omega)
  have f29 : (xup (xup w (9) (eI cy 9 (g1))) (10) (eI cy 9 (b1))) (160 + t) = some (eI cy 9 (xsl 9 (σ.1 3) (9 * t))) := xup_o (xup_o (((hw (160 + t) (by omega)).trans (xC_160 (by omega) (by omega)))) (by omega)) (by omega)
  have f30 : (xup (xup w (9) (eI cy 9 (g1))) (10) (eI cy 9 (b1))) (170 + t) = some (eI cy 9 (xsl 9 (σ.1 4) (9 * t))) := xup_o (xup_o (((hw (170 + t) (by omega)).trans (xC_170 (by omega) (by omega)))) (by omega)) (by omega)
  have f31 : (xup (xup w (9) (eI cy 9 (g1))) (10) (eI cy 9 (b1))) (3) = some (eQ cy 6 8 (xq (fun k => loc (150 + k)) (σ.2 1))) := xup_o (xup_o (f2) (by omega)) (by omega)
  have hb1 : ∀ i, i < 9 → b1 i = xbe σ t (6 * k + j) load i := hb1
  refine lv_aload_n hx hb dX7_fitsOn_15 rfl (lv_at hl 0 rfl) ?_
  refine x_get (C := RX7) (T := TX7) (N := 18) hx hb hts hi_X7_fitsOn_X7 hown hK hV15 f22 rfl 16 (by decide) (hts (.fieldLink RX7 77 "SaddleHouse" "seat" "LSaddleHouse$Seat;") (List.mem_of_getElem? (i := 1) rfl)) (fun _ h9 => h9) rfl dX7_fitsOn_16 ?_
  refine lv_iload hx hb dX7_fitsOn_19 (lv_at hl 4 rfl) ?_
  refine x_ci (va_runVN (host := RX7) (As := [.int (m0)]) (rest := []) ⟨hx, hb, hml, hown, hts⟩ (c_X5_firstFault l D cy loc (xup (xup w (9) (eI cy 9 (g1))) (10) (eI cy 9 (b1))) H13.size b1 m0 f23 f27) ⟨va_cnB 1 hts gX7_fitsOn_X5_firstFault_n146 rfl rfl rfl (hK.2.1 (.methodLinkNest RX7 146 yX5_firstFault RX7) (by decide +kernel)) (hts (.initialized RX5) (List.mem_of_getElem? (i := 4) rfl)) (by decide +kernel) ⟨Nat.le_of_ble_eq_true rfl, Nat.le_of_ble_eq_true rfl⟩, hts (.instanceMethod yX5_firstFault) (List.mem_of_getElem? (i := 38) rfl), hts (.selects RX5 yX5_firstFault yX5_firstFault) (List.mem_of_getElem? (i := 39) rfl)⟩ (x_preV hK hV15 f23 rfl) rfl rfl hl.1 rfl (lv_room (Nat.le_of_ble_eq_true rfl)) dX7_fitsOn_21 ⟨Nat.le_of_ble_eq_true rfl, Nat.le_of_ble_eq_true rfl⟩) (fun r32 hr33 => ?_)
  have ez34 : nI (xfault b1 m0) = r32 := Eq.symm (show r32 = nI (xfault b1 m0) from hr33)
  subst ez34
  refine lv_if_ne (tgt := 31) hx hb dX7_fitsOn_24 (by decide) (fun c35 => ?_) (fun c35 => ?_)
  · have _u := trivial
    have z1 : ¬ xfault (xbe σ t (6 * k + j) load) m0 = 0 := fun q => c35 (by rw [xfault_cong hb1, q]; rfl)
    refine lv_iconst (v := nI 0) hx hb dX7_fitsOn_31 (by decide +kernel) ?_
    refine W.widen (k := 0) (n := 0) (by omega) (by omega) ?_
    exact x_rmz hx hb hr hlocks rfl dX7_fitsOn_32 hV15 hS16 (⟨(xb_f z1).symm, rfl, g1, b1, rfl, hb1⟩)
  · have _u := trivial
    have z1 : xfault (xbe σ t (6 * k + j) load) m0 = 0 := by rw [← xfault_cong hb1]; exact nI_z2 (Nat.lt_trans (xfault_lt _ _) (by decide)) c35
    refine lv_iconst (v := nI 1) hx hb dX7_fitsOn_27 (by decide +kernel) ?_
    refine lv_goto (tgt := 32) hx hb dX7_fitsOn_28 (by decide) ?_
    refine W.widen (k := 0) (n := 0) (by omega) (by omega) ?_
    exact x_rmz hx hb hr hlocks rfl dX7_fitsOn_32 hV15 hS16 (⟨(xb_t z1).symm, rfl, g1, b1, rfl, hb1⟩)
