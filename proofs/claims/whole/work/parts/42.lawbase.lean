/-! the law: what it stands on -/
def R_law : String := "SaddleHouseLaw"
def lw_P (b : Addr) (xs : List Int32) (args : Array Value) (s : State) : Prop := args = #[.ref b] ∧ s.IntsAt b xs ∧ xs.length ≤ 3584 ∧ (Jvm.Cond.and given_1 narrow_1).before args s = true
def lw_Q (_ : Array Value) (s : State) (o : Outcome) (t : State) : Prop := o = .returned (some (.int 1)) ∧ Framed s o t [] 600000 7302250
def lw_Z (below : List Frame) (a : Array Value) (s : State) : State → Prop := fun t => ∃ o, t.status = .running ∧ Ended t below o ∧ lw_Q a s o t
/-- the law's own end, with 1 on the stack, nothing written that was there before, its room as the claim has it -/
theorem lw_ret {p : Program} {l : Launch} {e : Env} {s : State} {m : MethodId} {below : List Frame} {meth : Method} {c : Code} {b : Nat} (hx : p.tables.exec = Jvm.exec) (hb : c.code = code) (hr : meth.sig.returnType = ret) (hlocks : meth.locks = false) {pc : Nat} {H : Heap} {ls : Array Slot} (hdg : decode code pc = .ok (.ireturn, 1)) : W p l e room_1 s m #[Value.ref b] below meth c H [] 600000 7302250 (lw_Z below #[Value.ref b] s) (F0 m pc ls [.int 1]) := by
  intro T hT X
  obtain ⟨fs, hret, hrun, hended, hW, hframe⟩ := X.leave (v := some (.int 1)) (hlocks := hlocks) (fun h => by rw [hr] at h; cases h)
  have hmeth' : T.vm.method? m = some meth := X.method'
  refine ⟨T.setFrames fs, ?_, .returned (some (.int 1)), hrun, hended, rfl, ⟨_, rfl⟩, hW, hframe⟩
  jvm_step X.here [X.here.top, hx, hb, hdg, hmeth', hr, ret, narrow_b1]
  (try refine ⟨rfl, ?_⟩); (try refine ⟨rfl, ?_⟩)
  first | (intro acts; rw [hret _ acts rfl rfl rfl]) | rw [hret _ _ rfl rfl rfl]
  exact Steps.refl _
/-- what holds at the law's entry: the machine, the code, the tables' words (any of lw_tbl by 'hts w (by decide +kernel)'), the script of L ints xs at the cell b, what the Statement gives of the start (any of its parts by flat_of_before) -/
def lw_At (p : Program) (s : State) (m : MethodId) (meth : Method) (c : Code) (b L : Nat) (xs : Nat → Int32) : Prop :=
  p.tables.exec = Jvm.exec ∧ c.code = code ∧ meth.sig.returnType = ret ∧ c.maxLocals = 4 ∧ s.vm.findClass R_law = some m.cls ∧ (∀ w ∈ lw_tbl, w.before #[Value.ref b] s = true) ∧ va_X b L xs s s.heap ∧ b < s.heap.size ∧ meth.locks = false ∧ (Jvm.Cond.and given_1 narrow_1).before #[Value.ref b] s = true
theorem lw_f0 {cy : Nat → ClassId} {loc : Nat → Nat} {σ : xS} {w : xM} (h : xR cy loc σ w) : ∃ fs, w 0 = some (.inr (7, fs)) := by
  obtain ⟨g, b, f, hw⟩ := h
  exact ⟨_, (hw 0 (by decide)).trans rfl⟩
theorem lw_f3 {cy : Nat → ClassId} {loc : Nat → Nat} {σ : xS} {w : xM} (h : yR cy loc σ w) : ∃ fs, w 300 = some (.inr (8, fs)) := by
  obtain ⟨g, b, f, v, hw⟩ := h
  exact ⟨_, (hw 0 (by decide)).trans rfl⟩
theorem lw_y2 {cy : Nat → ClassId} {loc loc2 : Nat → Nat} {σ : xS} {w w2 : xM} (h : yR cy loc σ w) (e : ∀ t, 250 ≤ t → w2 t = w t ∧ loc2 t = loc t) : yR cy loc2 σ w2 := by
  obtain ⟨g, b, f, v, hw⟩ := h
  refine ⟨g, b, f, v, fun t ht => ?_⟩
  rw [(e (300 + t) (by omega)).1, hw t ht]
  rcases (show t = 0 ∨ t = 1 ∨ t = 2 ∨ t = 3 ∨ t = 4 ∨ t = 5 ∨ t = 6 ∨ t = 7 ∨ t = 8 ∨ t = 9 ∨ t = 10 ∨ t = 11 ∨ t = 12 ∨ t = 13 ∨ t = 14 by omega) with q | q | q | q | q | q | q | q | q | q | q | q | q | q | q <;> subst q
  · simp only [yC]
    rw [(e 301 (by decide)).2, (e 302 (by decide)).2, (e 303 (by decide)).2, (e 304 (by decide)).2, (e 305 (by decide)).2, (e 306 (by decide)).2, (e 307 (by decide)).2, (e 308 (by decide)).2, (e 309 (by decide)).2, (e 310 (by decide)).2, (e 311 (by decide)).2, (e 312 (by decide)).2, (e 313 (by decide)).2, (e 314 (by decide)).2]
  · rfl
  · rfl
  · rfl
  · rfl
  · rfl
  · rfl
  · rfl
  · rfl
  · rfl
  · rfl
  · rfl
  · rfl
  · rfl
  · rfl
def lwI (D : va_G) (cy : Nat → ClassId) (s : State) (loc : Nat → Nat) (w : xM) (σ : xS) (H : Heap) (locs : List Loc) : Prop := xGd σ ∧ xR cy loc σ w ∧ yR cy loc σ w ∧ xV D (fun q : Nat => s.heap.size ≤ q) loc w H ∧ va_S (fun q : Nat => s.heap.size ≤ q) s.heap H locs
section
variable {D : va_G} {cy : Nat → ClassId} {s : State} {loc loc2 loc3 : Nat → Nat} {w w2 w3 : xM} {σ' : xS} {H : Heap} {locs : List Loc}
theorem lw_two (hG : xGd σ') (hO : xOK cy loc w σ' (loc2, w2)) (hO2 : yOK cy loc2 w2 σ' (loc3, w3)) (hV : xV D (fun q : Nat => s.heap.size ≤ q) loc3 w3 H) (hS : va_S (fun q : Nat => s.heap.size ≤ q) s.heap H locs) : lwI D cy s loc3 w3 σ' H locs := by
  have e : loc3 = loc2 := hO2.2.2
  subst e
  obtain ⟨g, b, f, hw⟩ := hO.1
  exact ⟨hG, ⟨g, b, f, fun t ht => (hO2.2.1 t (Or.inl (by omega))).1.trans (hw t ht)⟩, hO2.1, hV, hS⟩
theorem lw_l0 (hO : xOK cy loc w σ' (loc2, w2)) (hO2 : yOK cy loc2 w2 σ' (loc3, w3)) : loc3 0 = loc 0 := by
  have e : loc3 = loc2 := hO2.2.2
  rw [e]; exact hO.2.2
theorem lw_l3 (hO : xOK cy loc w σ' (loc2, w2)) (hO2 : yOK cy loc2 w2 σ' (loc3, w3)) : loc3 300 = loc 300 := by
  have e : loc3 = loc2 := hO2.2.2
  rw [e]; exact (hO.2.1 300 (by decide)).2
theorem lw_xR {σ : xS} (h : xR cy loc σ w) (hN : xN8 σ) (e : ∀ t, t < 250 → w2 t = w t ∧ loc2 t = loc t) : xR cy loc2 σ w2 := by
  obtain ⟨g, b, f, hw⟩ := xR_re (loc' := loc2) h hN (fun t ht _ => (e t ht).2)
  exact ⟨g, b, f, fun t ht => (e t ht).1.trans (hw t ht)⟩
end
section
variable {p : Program} {l : Launch} {e : Env} {R : Room} {s : State} {m : MethodId} {args : Array Value} {below : List Frame} {meth : Method} {c : Code} {H : Heap} {locs : List Loc} {cells slots : Nat} {pc : Nat} {ls : Array Slot} {rest : List Value} {Q : State → Prop}
theorem lw_st {a a' : Nat} (h : a = a') (k : W p l e R s m args below meth c H locs cells slots Q (F0 m pc ls (.ref a' :: rest))) : W p l e R s m args below meth c H locs cells slots Q (F0 m pc ls (.ref a :: rest)) := by
  subst h; exact k
end
theorem lw_cmp (x : Int64) : xcmp x x = 0 := by
  rw [xcmp, if_neg (Int64.lt_irrefl), if_pos (beq_self_eq_true x)]
theorem lw_le {L i : Nat} (hL : L ≤ 3584) (hi : i ≤ 3584) (h : ¬ nI L - nI 7 < nI i) : i + 7 ≤ L := by
  have a := nI_toInt (show L < 2 ^ 31 by omega)
  have b := nI_toInt (show i < 2 ^ 31 by omega)
  have d := nI_toInt (show 7 < 2 ^ 31 by decide)
  have e := x_subI (x := nI L) (y := nI 7) (by omega) (by omega)
  have f := Int32.le_iff_toInt_le.mp (Int32.not_lt.mp h)
  omega
set_option maxRecDepth 20000 in
theorem xNn_in : ∀ w ∈ xN, w ∈ lw_tbl := x_in _ [80, 86, 153, 161, 188, 194, 208, 210, 211, 212, 218, 226, 235, 240, 242, 260, 271, 279, 302, 322, 327, 331, 382, 387, 406, 414, 431, 436, 438, 449, 459, 469, 475, 477, 479, 481, 522, 526, 530, 535, 539] (by decide +kernel)
theorem xN_on : ∀ w ∈ xN, w.onTables = true := by decide +kernel
set_option maxHeartbeats 4000000 in
set_option maxRecDepth 20000 in
theorem lw_K {s : State} {args : Array Value} (hts : ∀ w ∈ lw_tbl, w.before args s = true) : ∃ (D : va_G) (cy : Nat → ClassId), xK D cy s := by
  obtain ⟨c0, i0, h0⟩ := u_known (C := RX0) (T := TX0) (N := 2) (n := 2) hts inX0 (hts (.instantiable RX0 2) (wsL_law_r20_in _ (List.mem_of_getElem? (i := 22) rfl)))
  obtain ⟨c1, i1, h1⟩ := u_known (C := RX1) (T := TX1) (N := 1) (n := 1) hts inX1 (hts (.instantiable RX1 1) (wsL_law_r17_in _ (List.mem_of_getElem? (i := 11) rfl)))
  obtain ⟨c2, i2, h2⟩ := u_known (C := RX2) (T := TX2) (N := 2) (n := 2) hts inX2 (hts (.instantiable RX2 2) (wsL_law_r3_in _ (List.mem_of_getElem? (i := 19) rfl)))
  obtain ⟨c3, i3, h3⟩ := u_known (C := RX3) (T := TX3) (N := 2) (n := 2) hts inX3 (hts (.instantiable RX3 2) (wsL_law_r5_in _ (List.mem_of_getElem? (i := 12) rfl)))
  obtain ⟨c4, i4, h4⟩ := u_known (C := RX4) (T := TX4) (N := 5) (n := 5) hts inX4 (hts (.instantiable RX4 5) (wsL_law_r22_in _ (List.mem_of_getElem? (i := 20) rfl)))
  obtain ⟨c5, i5, h5⟩ := u_known (C := RX5) (T := TX5) (N := 2) (n := 2) hts inX5 (hts (.instantiable RX5 2) (wsL_law_r2_in _ (List.mem_of_getElem? (i := 11) rfl)))
  obtain ⟨c6, i6, h6⟩ := u_known (C := RX6) (T := TX6) (N := 2) (n := 2) hts inX6 (hts (.instantiable RX6 2) (wsL_law_r8_in _ (List.mem_of_getElem? (i := 4) rfl)))
  obtain ⟨c7, i7, h7⟩ := u_known (C := RX7) (T := TX7) (N := 18) (n := 18) hts inX7 (hts (.instantiable RX7 18) (wsL_law_r1_in _ (List.mem_of_getElem? (i := 1) rfl)))
  obtain ⟨c8, i8, h8⟩ := u_known (C := RX8) (T := TX8) (N := 27) (n := 27) hts inX8 (hts (.instantiable RX8 27) (wsL_law_r1_in _ (List.mem_of_getElem? (i := 4) rfl)))
  obtain ⟨cI, kI, pI, a1, a2, a3⟩ := Cond.arrayClass_spec (hts (.arrayClass .int) (wsL_law_r1_in _ (List.mem_of_getElem? (i := 12) rfl)))
  have o0 := hts (.arrayOver (.object RX0)) (List.mem_of_getElem? (i := 75) (by decide +kernel))
  obtain ⟨p0, q0, k0, b10, b20, b30, b40, b50⟩ := Cond.arrayOver_spec o0
  have o1 := hts (.arrayOver (.object RX1)) (List.mem_of_getElem? (i := 73) (by decide +kernel))
  obtain ⟨p1, q1, k1, b11, b21, b31, b41, b51⟩ := Cond.arrayOver_spec o1
  have o2 := hts (.arrayOver (.object RX2)) (List.mem_of_getElem? (i := 69) (by decide +kernel))
  obtain ⟨p2, q2, k2, b12, b22, b32, b42, b52⟩ := Cond.arrayOver_spec o2
  have o3 := hts (.arrayOver (.object RX3)) (List.mem_of_getElem? (i := 158) (by decide +kernel))
  obtain ⟨p3, q3, k3, b13, b23, b33, b43, b53⟩ := Cond.arrayOver_spec o3
  have o4 := hts (.arrayOver (.object RX4)) (List.mem_of_getElem? (i := 77) (by decide +kernel))
  obtain ⟨p4, q4, k4, b14, b24, b34, b44, b54⟩ := Cond.arrayOver_spec o4
  have o6 := hts (.arrayOver (.object RX6)) (List.mem_of_getElem? (i := 71) (by decide +kernel))
  obtain ⟨p6, q6, k6, b16, b26, b36, b46, b56⟩ := Cond.arrayOver_spec o6
  refine ⟨(fun k => if k = 0 then c0 else if k = 1 then c1 else if k = 2 then c2 else if k = 3 then c3 else if k = 4 then c4 else if k = 5 then c5 else if k = 6 then c6 else if k = 7 then c7 else c8, fun k => if k = 0 then i0 else if k = 1 then i1 else if k = 2 then i2 else if k = 3 then i3 else if k = 4 then i4 else if k = 5 then i5 else if k = 6 then i6 else if k = 7 then i7 else i8), fun k => if k = 0 then cI else if k = 1 then q0 else if k = 2 then q1 else if k = 3 then q2 else if k = 4 then q3 else if k = 5 then q4 else q6, ⟨?_, ?_⟩, fun w hw => va_Nw.of (xN_on w hw) (hts w (xNn_in w hw)), ?_⟩
  · intro k q hq
    match k, hq with
    | 0, hq => cases hq; exact h0
    | 1, hq => cases hq; exact h1
    | 2, hq => cases hq; exact h2
    | 3, hq => cases hq; exact h3
    | 4, hq => cases hq; exact h4
    | 5, hq => cases hq; exact h5
    | 6, hq => cases hq; exact h6
    | 7, hq => cases hq; exact h7
    | 8, hq => cases hq; exact h8
    | k + 9, hq => simp [vwCl] at hq
  · intro k q hq
    match k, hq with
    | 0, hq => cases hq; exact ⟨fun n z => ⟨fun k h => (by cases h), kI, a2, pI, a3⟩, a1⟩
    | 1, hq => cases hq; exact ⟨fun n z => ⟨fun k h => (by cases h), k0, b30, p0, b40⟩, k0, p0, b30, b40, b10, b50⟩
    | 2, hq => cases hq; exact ⟨fun n z => ⟨fun k h => (by cases h), k1, b31, p1, b41⟩, k1, p1, b31, b41, b11, b51⟩
    | 3, hq => cases hq; exact ⟨fun n z => ⟨fun k h => (by cases h), k2, b32, p2, b42⟩, k2, p2, b32, b42, b12, b52⟩
    | 4, hq => cases hq; exact ⟨fun n z => ⟨fun k h => (by cases h), k3, b33, p3, b43⟩, k3, p3, b33, b43, b13, b53⟩
    | 5, hq => cases hq; exact ⟨fun n z => ⟨fun k h => (by cases h), k4, b34, p4, b44⟩, k4, p4, b34, b44, b14, b54⟩
    | 6, hq => cases hq; exact ⟨fun n z => ⟨fun k h => (by cases h), k6, b36, p6, b46⟩, k6, p6, b36, b46, b16, b56⟩
    | k + 7, hq => simp [xT] at hq
  · exact List.forall_mem_cons.mpr ⟨va_AO.of o0, List.forall_mem_cons.mpr ⟨va_AO.of o1, List.forall_mem_cons.mpr ⟨va_AO.of o2, List.forall_mem_cons.mpr ⟨va_AO.of o3, List.forall_mem_cons.mpr ⟨va_AO.of o4, List.forall_mem_cons.mpr ⟨va_AO.of o6, (fun _ h => absurd h List.not_mem_nil)⟩⟩⟩⟩⟩⟩
