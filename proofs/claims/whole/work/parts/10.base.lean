/-! worlds by tags: loc gives a tag's address, w a tag's entry -/
abbrev xM : Type := Nat → Option va_E
def xup (w : xM) (t : Nat) (e : va_E) : xM := fun b => if b = t then some e else w b
theorem xup_at (w : xM) (t : Nat) (e : va_E) : xup w t e t = some e := by simp [xup]
theorem xup_ne (w : xM) (e : va_E) {t b : Nat} (h : b ≠ t) : xup w t e b = w b := by simp [xup, h]
theorem xup_o {w : xM} {e : va_E} {t b : Nat} {r : Option va_E} (h : w b = r) (hne : b ≠ t) : xup w t e b = r := by rw [xup_ne w e hne]; exact h
theorem xup_xup (w : xM) (t : Nat) (e e' : va_E) : xup (xup w t e) t e' = xup w t e' := by funext b; simp only [xup]; split <;> rfl
theorem xup_comm (w : xM) {t t' : Nat} (e e' : va_E) (h : t ≠ t') : xup (xup w t e) t' e' = xup (xup w t' e') t e := by
  funext b
  simp only [xup]
  by_cases h1 : b = t
  · rw [if_neg (by omega), if_pos h1, if_pos h1]
  · by_cases h2 : b = t'
    · rw [if_pos h2, if_neg h1, if_pos h2]
    · rw [if_neg h2, if_neg h1, if_neg h1, if_neg h2]
theorem x_norm1 {w : xM} {t t1 : Nat} {e e1 e' : va_E} (h1 : t ≠ t1) : xup (xup (xup w t e) t1 e1) t e' = xup (xup w t e') t1 e1 := by rw [xup_comm _ e1 e' (Ne.symm h1), xup_xup]
theorem x_norm2 {w : xM} {t t1 t2 : Nat} {e e1 e2 e' : va_E} (h2 : t ≠ t2) (h1 : t ≠ t1) : xup (xup (xup (xup w t e) t1 e1) t2 e2) t e' = xup (xup (xup w t e') t1 e1) t2 e2 := by rw [xup_comm _ _ _ (Ne.symm h2), x_norm1 h1]
theorem x_norm3 {w : xM} {t t1 t2 t3 : Nat} {e e1 e2 e3 e' : va_E} (h3 : t ≠ t3) (h2 : t ≠ t2) (h1 : t ≠ t1) : xup (xup (xup (xup (xup w t e) t1 e1) t2 e2) t3 e3) t e' = xup (xup (xup (xup w t e') t1 e1) t2 e2) t3 e3 := by rw [xup_comm _ _ _ (Ne.symm h3), x_norm2 h2 h1]
theorem xup_id {w : xM} {t : Nat} {e : va_E} (h : w t = some e) : xup w t e = w := by
  funext b
  simp only [xup]
  by_cases h1 : b = t
  · rw [if_pos h1, h1, h]
  · rw [if_neg h1]
theorem xup_nn {w : xM} {e : va_E} {t b : Nat} (h : w b ≠ none) : xup w t e b ≠ none := by
  by_cases h1 : b = t
  · rw [h1, xup_at]; exact fun q => by cases q
  · rw [xup_ne w e h1]; exact h
def xV (D : va_G) (A : Nat → Prop) (loc : Nat → Nat) (w : xM) (H : Heap) : Prop := ∃ ws : va_W, va_P D vwCl ws H ∧ va_D A ws ∧ (∀ (t : Nat) (e : va_E), w t = some e → ∃ j : Nat, ws[j]? = some (loc t, e)) ∧ (∀ (j : Nat) (q : Nat × va_E), ws[j]? = some q → ∃ t : Nat, w t = some q.2 ∧ loc t = q.1) ∧ ∀ t t' : Nat, w t ≠ none → w t' ≠ none → loc t = loc t' → t = t'
def xA (loc : Nat → Nat) (w : xM) (sz : Nat) : Nat → Prop := fun q => (∃ t : Nat, w t ≠ none ∧ loc t = q) ∨ sz ≤ q
theorem xV.mono {D : va_G} {A B : Nat → Prop} {loc : Nat → Nat} {w : xM} {H : Heap} (h : xV D A loc w H) (hAB : ∀ q, A q → B q) : xV D B loc w H := by
  obtain ⟨ws, h1, h2, h3⟩ := h
  exact ⟨ws, h1, h2.weaken (fun _ q _ h => hAB q.1 h), h3⟩
theorem xV.own {D : va_G} {A : Nat → Prop} {loc : Nat → Nat} {w : xM} {H : Heap} (h : xV D A loc w H) (sz : Nat) : xV D (xA loc w sz) loc w H := by
  obtain ⟨ws, h1, h2, h3, h4, h5⟩ := h
  refine ⟨ws, h1, h2.weaken (fun k q hk _ => ?_), h3, h4, h5⟩
  obtain ⟨t, a, b⟩ := h4 k q hk
  exact Or.inl ⟨t, by rw [a]; exact (fun z => nomatch z), b⟩
theorem xV.eq {D : va_G} {A : Nat → Prop} {loc : Nat → Nat} {w w' : xM} {H : Heap} (h : xV D A loc w H) (e : w = w') : xV D A loc w' H := e ▸ h
theorem x_free {D : va_G} {A : Nat → Prop} {loc : Nat → Nat} {w : xM} {H H0 : Heap} {locs : List Loc} (hV : xV D A loc w H) (hS : va_S A H0 H locs) (hA : ∀ q, H0.size ≤ q → A q) : ∀ q, xA loc w H.size q → A q := by
  obtain ⟨ws, h1, h2, h3, h4, h5⟩ := hV
  intro q h
  rcases h with ⟨t, a, b⟩ | h
  · cases he : w t with
    | none => exact absurd he a
    | some e =>
      obtain ⟨j, hj⟩ := h3 t e he
      rw [← b]
      exact h2.2 j _ hj
  · exact hA q (Nat.le_trans hS.1 h)
/-- behind a store -/
theorem x_put {D : va_G} {A : Nat → Prop} {loc : Nat → Nat} {w : xM} {H1 : Heap} {ws : va_W} {t j : Nat} {e0 e : va_E} (h2 : va_D A ws) (h3 : ∀ (t : Nat) (e : va_E), w t = some e → ∃ j : Nat, ws[j]? = some (loc t, e)) (h4 : ∀ (j : Nat) (q : Nat × va_E), ws[j]? = some q → ∃ t : Nat, w t = some q.2 ∧ loc t = q.1) (h5 : ∀ t t' : Nat, w t ≠ none → w t' ≠ none → loc t = loc t' → t = t') (ht : w t = some e0) (hj : ws[j]? = some (loc t, e0)) (k1 : va_P D vwCl (ws.set j (loc t, e)) H1) (k2 : va_D A (ws.set j (loc t, e))) : xV D A loc (xup w t e) H1 := by
  have hl := (List.getElem?_eq_some_iff.mp hj).1
  have nn : w t ≠ none := by rw [ht]; exact fun q => by cases q
  have back : ∀ b, xup w t e b ≠ none → w b ≠ none := by
    intro b hb
    by_cases h : b = t
    · rw [h]; exact nn
    · rw [xup_ne w e h] at hb; exact hb
  refine ⟨_, k1, k2, fun b eb hb => ?_, fun i q hq => ?_, fun b b' hb hb' hh => h5 b b' (back b hb) (back b' hb') hh⟩
  · by_cases h : b = t
    · subst h
      rw [xup_at] at hb
      cases hb
      exact ⟨j, by rw [List.getElem?_set_self hl]⟩
    · rw [xup_ne w e h] at hb
      obtain ⟨i, hi⟩ := h3 b eb hb
      refine ⟨i, ?_⟩
      have hij : j ≠ i := by
        intro q
        subst q
        rw [hj] at hi
        have := Option.some.inj hi
        exact h (h5 b t (by rw [hb]; exact fun q => by cases q) nn (congrArg Prod.fst this).symm)
      rw [List.getElem?_set_ne hij]
      exact hi
  · by_cases h : i = j
    · subst h
      rw [List.getElem?_set_self hl] at hq
      cases hq
      exact ⟨t, xup_at w t e, rfl⟩
    · rw [List.getElem?_set_ne (Ne.symm h)] at hq
      obtain ⟨b, a1, a2⟩ := h4 i q hq
      refine ⟨b, ?_, a2⟩
      have hbt : b ≠ t := by
        intro q1
        subst q1
        exact h (h2.1 i j q (loc b, e0) hq hj a2.symm)
      rw [xup_ne w e hbt]
      exact a1
/-- behind a new cell, at a tag that is free -/
theorem x_push {D : va_G} {A : Nat → Prop} {loc : Nat → Nat} {w : xM} {H1 : Heap} {ws : va_W} {t q : Nat} {e : va_E} (h3 : ∀ (t : Nat) (e : va_E), w t = some e → ∃ j : Nat, ws[j]? = some (loc t, e)) (h4 : ∀ (j : Nat) (q : Nat × va_E), ws[j]? = some q → ∃ t : Nat, w t = some q.2 ∧ loc t = q.1) (h5 : ∀ t t' : Nat, w t ≠ none → w t' ≠ none → loc t = loc t' → t = t') (ht : w t = none) (k1 : va_P D vwCl (ws ++ [(q, e)]) H1) (k2 : va_D A (ws ++ [(q, e)])) : xV D A (va_up loc t q) (xup w t e) H1 := by
  have hq : ∀ b, w b ≠ none → loc b ≠ q := by
    intro b hb hh
    cases he : w b with
    | none => exact hb he
    | some eb =>
      obtain ⟨i, hi⟩ := h3 b eb he
      have hl := (List.getElem?_eq_some_iff.mp hi).1
      have hh2 := k2.1 i ws.length (loc b, eb) (q, e) (by rw [List.getElem?_append_left hl]; exact hi) (by rw [List.getElem?_append_right (Nat.le_refl _), Nat.sub_self]; rfl) hh
      omega
  have hb0 : ∀ b, xup w t e b ≠ none → b ≠ t → w b ≠ none := fun b hb h => by rw [xup_ne w e h] at hb; exact hb
  refine ⟨_, k1, k2, fun b eb hb => ?_, fun i x hx => ?_, fun b b' hb hb' hh => ?_⟩
  · by_cases h : b = t
    · subst h
      rw [xup_at] at hb
      cases hb
      exact ⟨ws.length, by rw [List.getElem?_append_right (Nat.le_refl _), Nat.sub_self, va_up_self]; rfl⟩
    · rw [xup_ne w e h] at hb
      obtain ⟨i, hi⟩ := h3 b eb hb
      have hl := (List.getElem?_eq_some_iff.mp hi).1
      exact ⟨i, by rw [List.getElem?_append_left hl, va_up_ne _ _ h]; exact hi⟩
  · by_cases hl : i < ws.length
    · rw [List.getElem?_append_left hl] at hx
      obtain ⟨b, a1, a2⟩ := h4 i x hx
      have hbt : b ≠ t := fun q1 => by rw [q1, ht] at a1; cases a1
      exact ⟨b, by rw [xup_ne w e hbt]; exact a1, by rw [va_up_ne _ _ hbt]; exact a2⟩
    · rw [List.getElem?_append_right (by omega)] at hx
      have hz : i - ws.length < 1 := (List.getElem?_eq_some_iff.mp hx).1
      rw [show i - ws.length = 0 by omega] at hx
      cases hx
      exact ⟨t, xup_at w t e, va_up_self _ _ _⟩
  · by_cases h : b = t <;> by_cases h' : b' = t
    · rw [h, h']
    · subst h
      rw [va_up_self, va_up_ne _ _ h'] at hh
      exact absurd hh.symm (hq b' (hb0 b' hb' h'))
    · subst h'
      rw [va_up_self, va_up_ne _ _ h] at hh
      exact absurd hh (hq b (hb0 b hb h))
    · rw [va_up_ne _ _ h, va_up_ne _ _ h'] at hh
      exact h5 b b' (hb0 b hb h) (hb0 b' hb' h') hh
/-- entries -/
abbrev eI (cy : Nat → ClassId) (n : Nat) (f : Nat → Int32) : va_E := .inl (cy 0, n, .inl f)
abbrev eQ (cy : Nat → ClassId) (k n : Nat) (g : Nat → Option Nat) : va_E := .inl (cy k, n, .inr (.inr (.inr (.inr g))))
abbrev xT (cy : Nat → ClassId) : List (ClassId × FieldType) := [(cy 0, .int), (cy 1, .object RX0), (cy 2, .object RX1), (cy 3, .object RX2), (cy 4, .object RX3), (cy 5, .object RX4), (cy 6, .object RX6)]
/-- the words of nest mates -/
def xN : List Cond := [.methodLinkNest RX7 76 yX5_init RX7, .fieldLinkNest RX7 143 "SaddleHouse$Seat" "borne" "[I" RX7, .methodLinkNest RX7 84 yX2_init RX7, .fieldLinkNest RX7 103 "SaddleHouse$Horse" "measureCount" "I" RX7, .methodLinkNest RX7 100 yX2_isAboveLatest RX7, .methodLinkNest RX7 108 yX3_init RX7, .fieldLinkNest RX2 21 "SaddleHouse$Measure" "day" "I" RX7, .fieldLinkNest RX5 44 "SaddleHouse$Measure" "heights" "[I" RX7, .fieldLinkNest RX2 28 "SaddleHouse$Measure" "heights" "[I" RX7, .fieldLinkNest RX7 119 "SaddleHouse$Measure" "heights" "[I" RX7, .methodLinkNest RX7 111 yX2_add RX7, .methodLinkNest RX7 115 yX2_backOn RX7, .methodLinkNest RX7 122 yX6_init RX7, .fieldLinkNest RX7 233 "SaddleHouse$Tree" "heights" "[I" RX7, .fieldLinkNest RX7 129 "SaddleHouse$Tree" "shims" "[I" RX7, .methodLinkNest RX7 132 yX6_undersideAt RX7, .methodLinkNest RX7 139 yX5_settle RX7, .methodLinkNest RX5 39 yX6_undersideAt RX7, .methodLinkNest RX7 146 yX5_firstFault RX7, .methodLinkNest RX7 149 yX5_faultPlace RX7, .methodLinkNest RX7 152 yX5_most RX7, .methodLinkNest RX7 156 yX5_pressedCount RX7, .methodLinkNest RX7 176 yX1_init RX7, .fieldLinkNest RX7 184 "SaddleHouse$Hide" "patches" "[I" RX7, .methodLinkNest RX7 187 yX1_firstRoom RX7, .methodLinkNest RX7 190 yX1_mark RX7, .methodLinkNest RX7 194 yX0_init RX7, .fieldLinkNest RX7 238 "SaddleHouse$Bench" "hours" "I" RX7, .fieldLinkNest RX7 204 "SaddleHouse$Bench" "freeHour" "I" RX7, .methodLinkNest RX7 198 yX0_promiseFor RX7, .methodLinkNest RX7 201 yX0_endFor RX7, .methodLinkNest RX7 207 yX4_init RX7, .fieldLinkNest RX7 250 "SaddleHouse$Saddle" "horse" "I" RX7, .fieldLinkNest RX7 214 "SaddleHouse$Saddle" "day" "I" RX7, .fieldLinkNest RX7 217 "SaddleHouse$Saddle" "guarantee" "I" RX7, .fieldLinkNest RX7 224 "SaddleHouse$Saddle" "change" "I" RX7, .methodLinkNest RX7 229 yX2_mixInto RX7, .methodLinkNest RX2 24 yX7_mix RX7, .methodLinkNest RX2 32 yX7_mixAll RX7, .methodLinkNest RX7 245 yX4_mixInto RX7, .methodLinkNest RX4 25 yX7_mix RX7]
set_option maxRecDepth 20000 in
theorem xN_in : ∀ w ∈ xN, w ∈ lw_tbl := x_in _ [80, 86, 153, 161, 188, 194, 208, 210, 211, 212, 218, 226, 235, 240, 242, 260, 271, 279, 302, 322, 327, 331, 382, 387, 406, 414, 431, 436, 438, 449, 459, 469, 475, 477, 479, 481, 522, 526, 530, 535, 539] (by decide +kernel)
def xNk (w : Cond) : Bool := match w with
  | .fieldLinkNest .. => true
  | .methodLinkNest .. => true
  | _ => false
theorem xNk_ok : ∀ w ∈ xN, xNk w = true := by decide +kernel
def xO : List String := [RX0, RX1, RX2, RX3, RX4, RX6]
def xK (D : va_G) (cy : Nat → ClassId) (U : State) : Prop := va_K D vwCl (xT cy) U ∧ (∀ w ∈ xN, va_Nw w U) ∧ ∀ C ∈ xO, va_AO C U
theorem x_nwW {w : Cond} (hw : xNk w = true) {s U : State} (hW : s.WarmedH U.vm) (h : va_Nw w s) : va_Nw w U := by
  cases w <;> first | exact va_Nw.warmF hW h | exact va_Nw.warmM hW h | exact absurd hw (by decide) | cases hw
theorem x_nwS {w : Cond} (hw : xNk w = true) {s U : State} (hv : s.vm = U.vm) (h : va_Nw w s) : va_Nw w U := by
  cases w <;> first | exact va_Nw.same rfl hv h | cases hw
theorem xK.warm {D : va_G} {cy : Nat → ClassId} {s U : State} (hW : s.WarmedH U.vm) (h : xK D cy s) : xK D cy U := ⟨va_K.moved hW.alike h.1, fun w hw => x_nwW (xNk_ok w hw) hW (h.2.1 w hw), fun C hC => va_AO.moved hW.alike (h.2.2 C hC)⟩
theorem xK.same {D : va_G} {cy : Nat → ClassId} {s U : State} (hv : s.vm = U.vm) (h : xK D cy s) : xK D cy U := ⟨va_K.moved (hv ▸ Vm.Alike.refl s.vm) h.1, fun w hw => x_nwS (xNk_ok w hw) hv (h.2.1 w hw), fun C hC => va_AO.moved (hv ▸ Vm.Alike.refl s.vm) (h.2.2 C hC)⟩
/-- a method's start, its ends -/
def xP (D : va_G) (cy : Nat → ClassId) (loc : Nat → Nat) (w : xM) (sz : Nat) (U : State) : Prop := U.heap.size = sz ∧ xV D (xA loc w sz) loc w U.heap ∧ xK D cy U
def xB (D : va_G) (A : Nat → Prop) (u : (Nat → Nat) × xM) (t : State) : Prop := xV D A u.1 u.2 t.heap
theorem x_blind {D : va_G} {cy : Nat → ClassId} {loc : Nat → Nat} {w : xM} {sz : Nat} {av : List Value} : FrameBlind (va_Pc av (xP D cy loc w sz)) := fun a U g mk q => ⟨q.1, q.2.1, q.2.2.1, xK.same (rfl : U.vm = (U.calling g mk a).vm) q.2.2.2⟩
section XR
variable {p : Program} {l : Launch} {e : Env} {R : Room} {s : State} {m : MethodId} {args : Array Value} {below : List Frame} {meth : Method} {c : Code} {H : Heap} {locs : List Loc} {cells slots : Nat} {Q : State → Prop}
variable {cc : ByteArray} {pc : Nat} {ls : Array Slot} {rest : List Value} {D : va_G} {cy : Nat → ClassId} {A : Nat → Prop} {loc : Nat → Nat} {w : xM} {H0 : Heap} {t : Nat}
theorem x_preS (hK : xK D cy s) (hV : xV D A loc w H) {av : List Value} : PreS s H (va_Pc av (xP D cy loc w H.size)) av := ⟨x_blind, fun U hU hW => ⟨rfl, by rw [hU], by rw [hU]; exact hV.own _, hK.warm hW⟩⟩
theorem x_preV (hK : xK D cy s) (hV : xV D A loc w H) {As : List Value} {ci : Nat} {fs : List Value} {r : vw_C} (he : w t = some (.inr (ci, fs))) (hc : vwCl[ci]? = some r) : PreV s H r.1 (loc t) (va_Pc (.ref (loc t) :: As) (xP D cy loc w H.size)) As := by
  refine ⟨x_blind, ?_, fun U hU hW => ⟨rfl, by rw [hU], by rw [hU]; exact hV.own _, hK.warm hW⟩⟩
  obtain ⟨ws, h1, h2, h3, h4⟩ := hV
  obtain ⟨j, hj⟩ := h3 t _ he
  exact va_recv hK.1 h1 hc hj
theorem x_get (hexec : p.tables.exec = Jvm.exec) (hb : c.code = cc) {own ref C : String} {T : u_T} {N ci index : Nat} {Ts : List Cond} (hts : ∀ w ∈ Ts, w.before args s = true) (hin : ∀ w ∈ u_ws C T N, w ∈ Ts) (hown : s.vm.findClass own = some m.cls) (hK : xK D cy s) (hV : xV D A loc w H) {fs : List Value} (he : w t = some (.inr (ci, fs))) (hc : vwCl[ci]? = some (C, T, N)) (k : Nat) (hk : k < N) (hlink : (Cond.fieldLink own index ref (T k).2.1 (T k).2.2.1).before args s = true) (hsame : ∀ x, s.fieldFound? (T k).1 (T k).2.1 (T k).2.2.1 = some x → s.fieldFound? ref (T k).2.1 (T k).2.2.1 = some x) {v : Value} (hv : fs[k]? = some v) (hdg : decode cc pc = .ok (.getfield index, 3))
    (kk : W p l e R s m args below meth c H locs cells slots Q (F0 m (pc + 3) ls (v :: rest))) : W p l e R s m args below meth c H locs cells slots Q (F0 m pc ls (.ref (loc t) :: rest)) := by
  obtain ⟨ws, h1, h2, h3, h4⟩ := hV
  obtain ⟨j, hj⟩ := h3 t _ he
  exact va_get hexec hb hts hin hown hK.1 h1 j hj hc k hk hlink hsame hv hdg kk
theorem x_getN (hexec : p.tables.exec = Jvm.exec) (hb : c.code = cc) {own ref C host : String} {T : u_T} {N ci index : Nat} {Ts : List Cond} (hts : ∀ w ∈ Ts, w.before args s = true) (hin : ∀ w ∈ u_ws C T N, w ∈ Ts) (hown : s.vm.findClass own = some m.cls) (hK : xK D cy s) (hV : xV D A loc w H) {fs : List Value} (he : w t = some (.inr (ci, fs))) (hc : vwCl[ci]? = some (C, T, N)) (k : Nat) (hk : k < N) (hlink : Cond.fieldLinkNest own index ref (T k).2.1 (T k).2.2.1 host ∈ xN) (hsame : ∀ x, s.fieldFound? (T k).1 (T k).2.1 (T k).2.2.1 = some x → s.fieldFound? ref (T k).2.1 (T k).2.2.1 = some x) {v : Value} (hv : fs[k]? = some v) (hdg : decode cc pc = .ok (.getfield index, 3))
    (kk : W p l e R s m args below meth c H locs cells slots Q (F0 m (pc + 3) ls (v :: rest))) : W p l e R s m args below meth c H locs cells slots Q (F0 m pc ls (.ref (loc t) :: rest)) := by
  obtain ⟨ws, h1, h2, h3, h4⟩ := hV
  obtain ⟨j, hj⟩ := h3 t _ he
  exact va_getN hexec hb hts hin hown hK.1 h1 j hj hc k hk (va_Nw.use rfl (hK.2.1 _ hlink)) hsame hv hdg kk
theorem x_putf (hexec : p.tables.exec = Jvm.exec) (hb : c.code = cc) {own ref C : String} {T : u_T} {N ci index : Nat} {Ts : List Cond} (hts : ∀ w ∈ Ts, w.before args s = true) (hin : ∀ w ∈ u_ws C T N, w ∈ Ts) (ty0 : Nat → FieldType) (hty : ∀ k, k < N → parseFieldDescriptor (T k).2.2.1 = some (ty0 k)) (hnm : ∀ a, a < N → ∀ b, b < N → a ≠ b → (T a).2.1 ≠ (T b).2.1) (hown : s.vm.findClass own = some m.cls) (hK : xK D cy s) (hV : xV D A loc w H) (hS0 : va_S A H0 H locs) {fs : List Value} (he : w t = some (.inr (ci, fs))) (hc : vwCl[ci]? = some (C, T, N)) (k : Nat) (hk : k < N) (hlink : (Cond.fieldLink own index ref (T k).2.1 (T k).2.2.1).before args s = true) (hsame : ∀ x, s.fieldFound? (T k).1 (T k).2.1 (T k).2.2.1 = some x → s.fieldFound? ref (T k).2.1 (T k).2.2.1 = some x) (hfin : (T k).2.2.2 = false) {ty : FieldType} {v : Value} (hd : parseFieldDescriptor (T k).2.2.1 = some ty) (hn : narrow ty v = v) (hfit : fits ty v = true) (hl : k < fs.length)
    (hdg : decode cc pc = .ok (.putfield index, 3)) (kk : ∀ (H1 : Heap) (locs1 : List Loc), xV D A loc (xup w t (.inr (ci, fs.set k v))) H1 → va_S A H0 H1 locs1 → W p l e R s m args below meth c H1 locs1 cells slots Q (F0 m (pc + 3) ls rest)) : W p l e R s m args below meth c H locs cells slots Q (F0 m pc ls (v :: .ref (loc t) :: rest)) := by
  obtain ⟨ws, h1, h2, h3, h4, h5⟩ := hV
  obtain ⟨j, hj⟩ := h3 t _ he
  exact va_put hexec hb hts hin ty0 hty hnm hown hK.1 h1 h2 hS0 j hj hc k hk hlink hsame hfin hd hn hfit hl hdg (fun H1 locs1 k1 k2 k3 => kk H1 locs1 (x_put h2 h3 h4 h5 he hj k1 k2) k3)
theorem x_putN (hexec : p.tables.exec = Jvm.exec) (hb : c.code = cc) {own ref C host : String} {T : u_T} {N ci index : Nat} {Ts : List Cond} (hts : ∀ w ∈ Ts, w.before args s = true) (hin : ∀ w ∈ u_ws C T N, w ∈ Ts) (ty0 : Nat → FieldType) (hty : ∀ k, k < N → parseFieldDescriptor (T k).2.2.1 = some (ty0 k)) (hnm : ∀ a, a < N → ∀ b, b < N → a ≠ b → (T a).2.1 ≠ (T b).2.1) (hown : s.vm.findClass own = some m.cls) (hK : xK D cy s) (hV : xV D A loc w H) (hS0 : va_S A H0 H locs) {fs : List Value} (he : w t = some (.inr (ci, fs))) (hc : vwCl[ci]? = some (C, T, N)) (k : Nat) (hk : k < N) (hlink : Cond.fieldLinkNest own index ref (T k).2.1 (T k).2.2.1 host ∈ xN) (hsame : ∀ x, s.fieldFound? (T k).1 (T k).2.1 (T k).2.2.1 = some x → s.fieldFound? ref (T k).2.1 (T k).2.2.1 = some x) (hfin : (T k).2.2.2 = false) {ty : FieldType} {v : Value} (hd : parseFieldDescriptor (T k).2.2.1 = some ty) (hn : narrow ty v = v) (hfit : fits ty v = true) (hl : k < fs.length)
    (hdg : decode cc pc = .ok (.putfield index, 3)) (kk : ∀ (H1 : Heap) (locs1 : List Loc), xV D A loc (xup w t (.inr (ci, fs.set k v))) H1 → va_S A H0 H1 locs1 → W p l e R s m args below meth c H1 locs1 cells slots Q (F0 m (pc + 3) ls rest)) : W p l e R s m args below meth c H locs cells slots Q (F0 m pc ls (v :: .ref (loc t) :: rest)) := by
  obtain ⟨ws, h1, h2, h3, h4, h5⟩ := hV
  obtain ⟨j, hj⟩ := h3 t _ he
  exact va_putN hexec hb hts hin ty0 hty hnm hown hK.1 h1 h2 hS0 j hj hc k hk (va_Nw.use rfl (hK.2.1 _ hlink)) hsame hfin hd hn hfit hl hdg (fun H1 locs1 k1 k2 k3 => kk H1 locs1 (x_put h2 h3 h4 h5 he hj k1 k2) k3)
theorem x_putF (hexec : p.tables.exec = Jvm.exec) (hb : c.code = cc) {own ref C : String} {T : u_T} {N ci index : Nat} {Ts : List Cond} (hts : ∀ w ∈ Ts, w.before args s = true) (hin : ∀ w ∈ u_ws C T N, w ∈ Ts) (ty0 : Nat → FieldType) (hty : ∀ k, k < N → parseFieldDescriptor (T k).2.2.1 = some (ty0 k)) (hnm : ∀ a, a < N → ∀ b, b < N → a ≠ b → (T a).2.1 ≠ (T b).2.1) (hown : s.vm.findClass own = some m.cls) (hK : xK D cy s) (hV : xV D A loc w H) (hS0 : va_S A H0 H locs) {fs : List Value} (he : w t = some (.inr (ci, fs))) (hc : vwCl[ci]? = some (C, T, N)) (k : Nat) (hk : k < N) (hlink : (Cond.fieldLink own index ref (T k).2.1 (T k).2.2.1).before args s = true) (hsame : ∀ x, s.fieldFound? (T k).1 (T k).2.1 (T k).2.2.1 = some x → s.fieldFound? ref (T k).2.1 (T k).2.2.1 = some x) (hfin : (T k).2.2.2 = true) (hin2 : meth.name = "<init>") (hdecl : (T k).1 = own) {ty : FieldType} {v : Value} (hd : parseFieldDescriptor (T k).2.2.1 = some ty) (hn : narrow ty v = v) (hfit : fits ty v = true) (hl : k < fs.length)
    (hdg : decode cc pc = .ok (.putfield index, 3)) (kk : ∀ (H1 : Heap) (locs1 : List Loc), xV D A loc (xup w t (.inr (ci, fs.set k v))) H1 → va_S A H0 H1 locs1 → W p l e R s m args below meth c H1 locs1 cells slots Q (F0 m (pc + 3) ls rest)) : W p l e R s m args below meth c H locs cells slots Q (F0 m pc ls (v :: .ref (loc t) :: rest)) := by
  obtain ⟨ws, h1, h2, h3, h4, h5⟩ := hV
  obtain ⟨j, hj⟩ := h3 t _ he
  exact va_putF hexec hb hts hin ty0 hty hnm hown hK.1 h1 h2 hS0 j hj hc k hk hlink hsame hfin hin2 hdecl hd hn hfit hl hdg (fun H1 locs1 k1 k2 k3 => kk H1 locs1 (x_put h2 h3 h4 h5 he hj k1 k2) k3)
theorem x_iald (hexec : p.tables.exec = Jvm.exec) (hb : c.code = cc) (hK : xK D cy s) (hV : xV D A loc w H) {n : Nat} {f : Nat → Int32} (he : w t = some (eI cy n f)) (i : Nat) (hi : i < n) (hn : n < 2 ^ 31) (hdg : decode cc pc = .ok (.iaload, 1))
    (kk : W p l e R s m args below meth c H locs cells slots Q (F0 m (pc + 1) ls (.int (f i) :: rest))) : W p l e R s m args below meth c H locs cells slots Q (F0 m pc ls (.int (nI i) :: .ref (loc t) :: rest)) := by
  obtain ⟨ws, h1, h2, h3, h4, h5⟩ := hV
  obtain ⟨j, hj⟩ := h3 t _ he
  refine va_iald hexec hb hK.1 h1 j 0 hj rfl (vp_in_nI hi hn) hdg ?_
  rw [nI_clamp (by omega)]
  exact kk
theorem x_iast (hexec : p.tables.exec = Jvm.exec) (hb : c.code = cc) (hK : xK D cy s) (hV : xV D A loc w H) (hS0 : va_S A H0 H locs) {n : Nat} {f : Nat → Int32} (he : w t = some (eI cy n f)) (i : Nat) {x : Int32} (hi : i < n) (hn : n < 2 ^ 31) (hdg : decode cc pc = .ok (.iastore, 1))
    (kk : ∀ (H1 : Heap) (locs1 : List Loc), xV D A loc (xup w t (eI cy n (upd f i x))) H1 → va_S A H0 H1 locs1 → W p l e R s m args below meth c H1 locs1 cells slots Q (F0 m (pc + 1) ls rest)) : W p l e R s m args below meth c H locs cells slots Q (F0 m pc ls (.int x :: .int (nI i) :: .ref (loc t) :: rest)) := by
  obtain ⟨ws, h1, h2, h3, h4, h5⟩ := hV
  obtain ⟨j, hj⟩ := h3 t _ he
  refine va_iast hexec hb hK.1 h1 h2 hS0 j 0 hj rfl (vp_in_nI hi hn) hdg (fun H1 locs1 k1 k2 k3 => ?_)
  rw [nI_clamp (by omega)] at k1 k2
  exact kk H1 locs1 (x_put h2 h3 h4 h5 he hj k1 k2) k3
theorem x_aald (hexec : p.tables.exec = Jvm.exec) (hb : c.code = cc) (hK : xK D cy s) (hV : xV D A loc w H) {n t0 : Nat} {C : String} {f : Nat → Option Nat} (he : w t = some (eQ cy t0 n f)) (ht : (xT cy)[t0]? = some (cy t0, .object C)) (i : Nat) (hi : i < n) (hn : n < 2 ^ 31) (hdg : decode cc pc = .ok (.aaload, 1))
    (kk : W p l e R s m args below meth c H locs cells slots Q (F0 m (pc + 1) ls (va_rf (f i) :: rest))) : W p l e R s m args below meth c H locs cells slots Q (F0 m pc ls (.int (nI i) :: .ref (loc t) :: rest)) := by
  obtain ⟨ws, h1, h2, h3, h4, h5⟩ := hV
  obtain ⟨j, hj⟩ := h3 t _ he
  refine va_aldq hexec hb hK.1 h1 j t0 hj ht (vp_in_nI hi hn) hdg ?_
  rw [nI_clamp (by omega)]
  exact kk
theorem x_aast (hexec : p.tables.exec = Jvm.exec) (hb : c.code = cc) (hK : xK D cy s) (hV : xV D A loc w H) (hS0 : va_S A H0 H locs) {n t0 tv ci : Nat} {r : vw_C} {vs : List Value} {f : Nat → Option Nat} (he : w t = some (eQ cy t0 n f)) (ht : (xT cy)[t0]? = some (cy t0, .object r.1)) (hv : w tv = some (.inr (ci, vs))) (hc : vwCl[ci]? = some r) (i : Nat) (hi : i < n) (hn : n < 2 ^ 31) (hdg : decode cc pc = .ok (.aastore, 1))
    (kk : ∀ (H1 : Heap) (locs1 : List Loc), xV D A loc (xup w t (eQ cy t0 n (va_up f i (some (loc tv))))) H1 → va_S A H0 H1 locs1 → W p l e R s m args below meth c H1 locs1 cells slots Q (F0 m (pc + 1) ls rest)) : W p l e R s m args below meth c H locs cells slots Q (F0 m pc ls (.ref (loc tv) :: .int (nI i) :: .ref (loc t) :: rest)) := by
  obtain ⟨ws, h1, h2, h3, h4, h5⟩ := hV
  obtain ⟨j, hj⟩ := h3 t _ he
  obtain ⟨j2, hj2⟩ := h3 tv _ hv
  refine va_astq hexec hb hK.1 h1 h2 hS0 j t0 j2 ci hj ht hj2 hc (vp_in_nI hi hn) hdg (fun H1 locs1 k1 k2 k3 => ?_)
  rw [nI_clamp (by omega)] at k1 k2
  exact kk H1 locs1 (x_put h2 h3 h4 h5 he hj k1 k2) k3
theorem x_new (t : Nat) (ht : w t = none) (hexec : p.tables.exec = Jvm.exec) (hb : c.code = cc) {own C : String} {T : u_T} {N ci index : Nat} {Ts : List Cond} (hts : ∀ w ∈ Ts, w.before args s = true) (hin : ∀ w ∈ u_ws C T N, w ∈ Ts) (ty : Nat → FieldType) (hty : ∀ k, k < N → parseFieldDescriptor (T k).2.2.1 = some (ty k)) (hown : s.vm.findClass own = some m.cls) (hcl : (Cond.classLink own index C).before args s = true) (hinst : (Cond.instantiable C N).before args s = true) (hini : (Cond.initialized C).before args s = true)
    (hK : xK D cy s) (hV : xV D A loc w H) (hS : va_S A H0 H locs) (hA : ∀ q, H0.size ≤ q → A q) (hc : vwCl[ci]? = some (C, T, N)) {fs : List Value} (hfs : ∀ j, j < N → defaultValue (ty j) = vp_V fs j) (hcells : cells + 1 ≤ R.cells) (hslots : slots + N ≤ R.slots) (hdg : decode cc pc = .ok (.new index, 3))
    (kk : ∀ (q : Nat) (H1 : Heap), xV D A (va_up loc t q) (xup w t (.inr (ci, fs))) H1 → va_S A H0 H1 locs →
      W p l e R s m args below meth c H1 locs (cells + 1) (slots + N) Q (F0 m (pc + 3) ls (.ref q :: rest))) : W p l e R s m args below meth c H locs cells slots Q (F0 m pc ls rest) := by
  obtain ⟨ws, h1, h2, h3, h4, h5⟩ := hV
  exact va_new hexec hb hts hin ty hty hown hcl hinst hini hK.1 h1 h2 hS hA hc hfs hcells hslots hdg (fun q H1 k1 k2 k3 => kk q H1 (x_push h3 h4 h5 ht k1 k2) k3)
theorem x_newa (t : Nat) (ht : w t = none) (hexec : p.tables.exec = Jvm.exec) (hb : c.code = cc) (harr : (Cond.arrayClass .int).before args s = true) (hK : xK D cy s) (hV : xV D A loc w H) (hS : va_S A H0 H locs) (hA : ∀ q, H0.size ≤ q → A q) (N' : Nat) (hN : N' < 100000) (hcells : cells + 1 ≤ R.cells) (hslots : slots + N' ≤ R.slots) (hdg : decode cc pc = .ok (.newarray .int, 2))
    (kk : ∀ (q : Nat) (H1 : Heap), xV D A (va_up loc t q) (xup w t (eI cy N' (fun _ => 0))) H1 → va_S A H0 H1 locs →
      W p l e R s m args below meth c H1 locs (cells + 1) (slots + N') Q (F0 m (pc + 2) ls (.ref q :: rest))) : W p l e R s m args below meth c H locs cells slots Q (F0 m pc ls (.int (nI N') :: rest)) := by
  obtain ⟨ws, h1, h2, h3, h4, h5⟩ := hV
  refine va_newa (atype := .int) (ty := .int) (a0 := (N', .inl (fun _ => 0))) hexec hb harr rfl hK.1 h1 h2 hS hA (fun cA => rfl) (nI_pos (by omega)) (nI_clamp (by omega)) (by show N' * 4 ≤ _; omega) hcells hslots hdg (fun q cA H1 k0 k1 k2 k3 => ?_)
  have e1 : cA = cy 0 := by
    have a1 : s.vm.findClass ("[" ++ FieldType.int.toString) = some (cy 0) := (hK.1.2 0 _ rfl).2
    have a2 : s.vm.findClass ("[" ++ FieldType.int.toString) = some cA := (k0.2 7 _ rfl).2
    exact Option.some.inj (a2.symm.trans a1)
  subst e1
  exact kk q H1 (x_push h3 h4 h5 ht k1 k2) k3
theorem x_newq (t : Nat) (ht : w t = none) (hexec : p.tables.exec = Jvm.exec) (hb : c.code = cc) {own C : String} {index t0 : Nat} (hown : s.vm.findClass own = some m.cls) (hclink : (Cond.classLink own index C).before args s = true) (hover : C ∈ xO) (hC : (xT cy)[t0]? = some (cy t0, .object C)) (hK : xK D cy s) (hV : xV D A loc w H) (hS : va_S A H0 H locs) (hA : ∀ q, H0.size ≤ q → A q) (N' : Nat) (hN : N' < 100000) (hcells : cells + 1 ≤ R.cells) (hslots : slots + N' ≤ R.slots) (hdg : decode cc pc = .ok (.anewarray index, 3))
    (kk : ∀ (q : Nat) (H1 : Heap), xV D A (va_up loc t q) (xup w t (eQ cy t0 N' (fun _ => none))) H1 → va_S A H0 H1 locs →
      W p l e R s m args below meth c H1 locs (cells + 1) (slots + N') Q (F0 m (pc + 3) ls (.ref q :: rest))) : W p l e R s m args below meth c H locs cells slots Q (F0 m pc ls (.int (nI N') :: rest)) := by
  obtain ⟨ws, h1, h2, h3, h4, h5⟩ := hV
  refine va_newq hexec hb hown hclink (hK.2.2 C hover) hK.1 h1 h2 hS hA (nI_pos (by omega)) (nI_clamp (by omega)) (by omega) hcells hslots hdg (fun q cA H1 k0 k1 k2 k3 => ?_)
  have e1 : cA = cy t0 := by
    obtain ⟨-, -, -, -, -, a1⟩ := (hK.1.2 t0 _ hC).2
    obtain ⟨-, -, -, -, -, a2⟩ := (k0.2 7 _ rfl).2
    exact Option.some.inj (a2.symm.trans a1)
  subst e1
  exact kk q H1 (x_push h3 h4 h5 ht k1 k2) k3
/-- counters -/
theorem x_iadd (hexec : p.tables.exec = Jvm.exec) (hb : c.code = cc) (x y : Nat) (hdg : decode cc pc = .ok (.iadd, 1)) (kk : W p l e R s m args below meth c H locs cells slots Q (F0 m (pc + 1) ls (.int (nI (x + y)) :: rest))) : W p l e R s m args below meth c H locs cells slots Q (F0 m pc ls (.int (nI y) :: .int (nI x) :: rest)) := lv_iadd hexec hb hdg (by rw [nI_add]; exact kk)
theorem x_imul (hexec : p.tables.exec = Jvm.exec) (hb : c.code = cc) (x y : Nat) (hdg : decode cc pc = .ok (.imul, 1)) (kk : W p l e R s m args below meth c H locs cells slots Q (F0 m (pc + 1) ls (.int (nI (x * y)) :: rest))) : W p l e R s m args below meth c H locs cells slots Q (F0 m pc ls (.int (nI y) :: .int (nI x) :: rest)) := lv_imul hexec hb hdg (by rw [pk_mul]; exact kk)
theorem x_isub (hexec : p.tables.exec = Jvm.exec) (hb : c.code = cc) (x y : Nat) (h : y ≤ x) (hdg : decode cc pc = .ok (.isub, 1)) (kk : W p l e R s m args below meth c H locs cells slots Q (F0 m (pc + 1) ls (.int (nI (x - y)) :: rest))) : W p l e R s m args below meth c H locs cells slots Q (F0 m pc ls (.int (nI y) :: .int (nI x) :: rest)) := lv_isub hexec hb hdg (by rw [pk_sub h]; exact kk)
theorem x_idiv (hexec : p.tables.exec = Jvm.exec) (hb : c.code = cc) (x y : Nat) (hx : x < 2 ^ 31) (h0 : 0 < y) (hy : y < 2 ^ 31) (hdg : decode cc pc = .ok (.idiv, 1)) (kk : W p l e R s m args below meth c H locs cells slots Q (F0 m (pc + 1) ls (.int (nI (x / y)) :: rest))) : W p l e R s m args below meth c H locs cells slots Q (F0 m pc ls (.int (nI y) :: .int (nI x) :: rest)) := lv_idiv hexec hb hdg (nI_ne0 h0 hy) (by rw [pk_div hx h0 hy]; exact kk)
theorem x_cge (hexec : p.tables.exec = Jvm.exec) (hb : c.code = cc) (x y : Nat) (hx : x < 2 ^ 31) (hy : y < 2 ^ 31) {off : Int} {tgt : Nat} (hdg : decode cc pc = .ok (.if_icmp .ge off, 3)) (ht : (pc : Int) + off = (tgt : Int)) (kt : y ≤ x → W p l e R s m args below meth c H locs cells slots Q (F0 m tgt ls rest)) (kf : x < y → W p l e R s m args below meth c H locs cells slots Q (F0 m (pc + 3) ls rest)) : W p l e R s m args below meth c H locs cells slots Q (F0 m pc ls (.int (nI y) :: .int (nI x) :: rest)) :=
  lv_icmp_ge hexec hb hdg ht (fun h => kt ((nI_leI hy hx).mp h)) (fun h => kf (Nat.not_le.mp (fun q => h ((nI_leI hy hx).mpr q))))
theorem x_cgt (hexec : p.tables.exec = Jvm.exec) (hb : c.code = cc) (x y : Nat) (hx : x < 2 ^ 31) (hy : y < 2 ^ 31) {off : Int} {tgt : Nat} (hdg : decode cc pc = .ok (.if_icmp .gt off, 3)) (ht : (pc : Int) + off = (tgt : Int)) (kt : y < x → W p l e R s m args below meth c H locs cells slots Q (F0 m tgt ls rest)) (kf : x ≤ y → W p l e R s m args below meth c H locs cells slots Q (F0 m (pc + 3) ls rest)) : W p l e R s m args below meth c H locs cells slots Q (F0 m pc ls (.int (nI y) :: .int (nI x) :: rest)) :=
  lv_icmp_gt hexec hb hdg ht (fun h => kt ((nI_ltI hy hx).mp h)) (fun h => kf (Nat.not_lt.mp (fun q => h ((nI_ltI hy hx).mpr q))))
theorem x_clt (hexec : p.tables.exec = Jvm.exec) (hb : c.code = cc) (x y : Nat) (hx : x < 2 ^ 31) (hy : y < 2 ^ 31) {off : Int} {tgt : Nat} (hdg : decode cc pc = .ok (.if_icmp .lt off, 3)) (ht : (pc : Int) + off = (tgt : Int)) (kt : x < y → W p l e R s m args below meth c H locs cells slots Q (F0 m tgt ls rest)) (kf : y ≤ x → W p l e R s m args below meth c H locs cells slots Q (F0 m (pc + 3) ls rest)) : W p l e R s m args below meth c H locs cells slots Q (F0 m pc ls (.int (nI y) :: .int (nI x) :: rest)) :=
  lv_icmp_lt hexec hb hdg ht (fun h => kt ((nI_ltI hx hy).mp h)) (fun h => kf (Nat.not_lt.mp (fun q => h ((nI_ltI hx hy).mpr q))))
theorem x_cle (hexec : p.tables.exec = Jvm.exec) (hb : c.code = cc) (x y : Nat) (hx : x < 2 ^ 31) (hy : y < 2 ^ 31) {off : Int} {tgt : Nat} (hdg : decode cc pc = .ok (.if_icmp .le off, 3)) (ht : (pc : Int) + off = (tgt : Int)) (kt : x ≤ y → W p l e R s m args below meth c H locs cells slots Q (F0 m tgt ls rest)) (kf : y < x → W p l e R s m args below meth c H locs cells slots Q (F0 m (pc + 3) ls rest)) : W p l e R s m args below meth c H locs cells slots Q (F0 m pc ls (.int (nI y) :: .int (nI x) :: rest)) :=
  lv_icmp_le hexec hb hdg ht (fun h => kt ((nI_leI hx hy).mp h)) (fun h => kf (Nat.not_le.mp (fun q => h ((nI_leI hx hy).mpr q))))
theorem x_ceq (hexec : p.tables.exec = Jvm.exec) (hb : c.code = cc) (x y : Nat) (hx : x < 2 ^ 31) (hy : y < 2 ^ 31) {off : Int} {tgt : Nat} (hdg : decode cc pc = .ok (.if_icmp .eq off, 3)) (ht : (pc : Int) + off = (tgt : Int)) (kt : x = y → W p l e R s m args below meth c H locs cells slots Q (F0 m tgt ls rest)) (kf : x ≠ y → W p l e R s m args below meth c H locs cells slots Q (F0 m (pc + 3) ls rest)) : W p l e R s m args below meth c H locs cells slots Q (F0 m pc ls (.int (nI y) :: .int (nI x) :: rest)) :=
  lv_icmp_eq hexec hb hdg ht (fun h => kt ((nI_eq hx hy).mp h)) (fun h => kf (fun q => h ((nI_eq hx hy).mpr q)))
theorem x_cne (hexec : p.tables.exec = Jvm.exec) (hb : c.code = cc) (x y : Nat) (hx : x < 2 ^ 31) (hy : y < 2 ^ 31) {off : Int} {tgt : Nat} (hdg : decode cc pc = .ok (.if_icmp .ne off, 3)) (ht : (pc : Int) + off = (tgt : Int)) (kt : x ≠ y → W p l e R s m args below meth c H locs cells slots Q (F0 m tgt ls rest)) (kf : x = y → W p l e R s m args below meth c H locs cells slots Q (F0 m (pc + 3) ls rest)) : W p l e R s m args below meth c H locs cells slots Q (F0 m pc ls (.int (nI y) :: .int (nI x) :: rest)) :=
  lv_icmp_ne hexec hb hdg ht (fun h => kt (fun q => h ((nI_eq hx hy).mpr q))) (fun h => kf ((nI_eq hx hy).mp h))
def xb (P : Prop) [Decidable P] : Int32 := if P then 1 else 0
theorem xb_t {P : Prop} [Decidable P] (h : P) : xb P = 1 := if_pos h
theorem xb_f {P : Prop} [Decidable P] (h : ¬ P) : xb P = 0 := if_neg h
theorem x_bne (hexec : p.tables.exec = Jvm.exec) (hb : c.code = cc) {P : Prop} {iP : Decidable P} {off : Int} {tgt : Nat} (hdg : decode cc pc = .ok (.ifCond .ne off, 3)) (ht : (pc : Int) + off = (tgt : Int)) (kt : P → W p l e R s m args below meth c H locs cells slots Q (F0 m tgt ls rest)) (kf : ¬ P → W p l e R s m args below meth c H locs cells slots Q (F0 m (pc + 3) ls rest)) : W p l e R s m args below meth c H locs cells slots Q (F0 m pc ls (.int (xb P) :: rest)) :=
  lv_if_ne hexec hb hdg ht (fun h => kt (Decidable.byContradiction (fun q => h (xb_f q)))) (fun h => kf (fun q => by rw [xb_t q] at h; exact absurd h (by decide)))
theorem x_beq (hexec : p.tables.exec = Jvm.exec) (hb : c.code = cc) {P : Prop} {iP : Decidable P} {off : Int} {tgt : Nat} (hdg : decode cc pc = .ok (.ifCond .eq off, 3)) (ht : (pc : Int) + off = (tgt : Int)) (kt : ¬ P → W p l e R s m args below meth c H locs cells slots Q (F0 m tgt ls rest)) (kf : P → W p l e R s m args below meth c H locs cells slots Q (F0 m (pc + 3) ls rest)) : W p l e R s m args below meth c H locs cells slots Q (F0 m pc ls (.int (xb P) :: rest)) :=
  lv_if_eq hexec hb hdg ht (fun h => kt (fun q => by rw [xb_t q] at h; exact absurd h (by decide))) (fun h => kf (Decidable.byContradiction (fun q => h (xb_f q))))
theorem x_aload_nq (hexec : p.tables.exec = Jvm.exec) (hb : c.code = cc) {k : Fin 4} {i : Nat} {o : Option Nat} (hdg : decode cc pc = .ok (.aload_n k, 1)) (hi : (k : Nat) = i) (hl : ls[i]? = some (.val (va_rf o))) (kk : W p l e R s m args below meth c H locs cells slots Q (F0 m (pc + 1) ls (va_rf o :: rest))) : W p l e R s m args below meth c H locs cells slots Q (F0 m pc ls rest) := by
  cases o with
  | none => exact lv_aload_nN hexec hb hdg hi hl kk
  | some x => exact lv_aload_n hexec hb hdg hi hl kk
theorem x_aloadq (hexec : p.tables.exec = Jvm.exec) (hb : c.code = cc) {i : Nat} {o : Option Nat} (hdg : decode cc pc = .ok (.aload i, 2)) (hl : ls[i]? = some (.val (va_rf o))) (kk : W p l e R s m args below meth c H locs cells slots Q (F0 m (pc + 2) ls (va_rf o :: rest))) : W p l e R s m args below meth c H locs cells slots Q (F0 m pc ls rest) := by
  cases o with
  | none => exact lv_aloadN hexec hb hdg hl kk
  | some x => exact lv_aload hexec hb hdg hl kk
theorem x_topr {o : Option Nat} {a : Nat} (h : o = some a) (kk : W p l e R s m args below meth c H locs cells slots Q (F0 m pc ls (.ref a :: rest))) : W p l e R s m args below meth c H locs cells slots Q (F0 m pc ls (va_rf o :: rest)) := by subst h; exact kk
theorem x_topn {o : Option Nat} (h : o = none) (kk : W p l e R s m args below meth c H locs cells slots Q (F0 m pc ls (.null :: rest))) : W p l e R s m args below meth c H locs cells slots Q (F0 m pc ls (va_rf o :: rest)) := by subst h; exact kk
theorem x_top {v v' : Value} (h : v = v') (kk : W p l e R s m args below meth c H locs cells slots Q (F0 m pc ls (v' :: rest))) : W p l e R s m args below meth c H locs cells slots Q (F0 m pc ls (v :: rest)) := by subst h; exact kk
/-- calls -/
theorem x_run {mc ms : Nat} {g : JFrame} {Qa : State → Outcome → State → Prop} {free : Addr → Prop} (h : va_Run p l e R s m args below meth c H locs cells slots mc ms g rest Qa free) : CallRun p l e R s m args below meth c H locs cells slots mc ms g rest Qa free := by
  intro T hT X
  obtain ⟨v, st₀, t, T', L, a1, a2, a3, a4, -, a5, a6⟩ := h T hT X
  exact ⟨v, st₀, t, T', L, a1, a2, a3, a4, a5, a6⟩
theorem x_ci {post : Int32 → Prop} {a : Array Value} {st0 : List Value} (hr : va_Run p l e R s m args below meth c H locs cells slots 0 0 (F0 m pc ls st0) rest (vp_Si post a) (fun _ => False)) (kk : ∀ r : Int32, post r → W p l e R s m args below meth c H locs cells slots Q (F0 m (pc + 3) ls (.int r :: rest))) : W p l e R s m args below meth c H locs cells slots Q (F0 m pc ls st0) := vp_callSi (x_run hr) kk
theorem x_cl {post : Int64 → Prop} {a : Array Value} {st0 : List Value} (hr : va_Run p l e R s m args below meth c H locs cells slots 0 0 (F0 m pc ls st0) rest (vp_Sl post a) (fun _ => False)) (kk : ∀ r : Int64, post r → W p l e R s m args below meth c H locs cells slots Q (F0 m (pc + 3) ls (.long r :: rest))) : W p l e R s m args below meth c H locs cells slots Q (F0 m pc ls st0) := vp_callSl (x_run hr) kk
theorem x_cq {post : Option Nat → Prop} {a : Array Value} {st0 : List Value} (hr : va_Run p l e R s m args below meth c H locs cells slots 0 0 (F0 m pc ls st0) rest (va_Sq post a) (fun _ => False)) (kk : ∀ r : Option Nat, post r → W p l e R s m args below meth c H locs cells slots Q (F0 m (pc + 3) ls (va_rf r :: rest))) : W p l e R s m args below meth c H locs cells slots Q (F0 m pc ls st0) := va_csq (x_run hr) kk
theorem x_mi {mc ms : Nat} {post : Int32 → (Nat → Nat) × xM → Prop} {a : Array Value} {st0 : List Value} (hr : va_Run p l e R s m args below meth c H locs cells slots mc ms (F0 m pc ls st0) rest (va_Qi post (xB D (xA loc w H.size)) (xA loc w H.size) a) (xA loc w H.size)) (hV : xV D A loc w H) (hS : va_S A H0 H locs) (hA : ∀ q, H0.size ≤ q → A q)
    (kk : ∀ (r : Int32) (loc' : Nat → Nat) (w' : xM) (H1 : Heap) (locs1 : List Loc), post r (loc', w') → xV D A loc' w' H1 → va_S A H0 H1 locs1 → W p l e R s m args below meth c H1 locs1 (cells + mc) (slots + ms) Q (F0 m (pc + 3) ls (.int r :: rest))) : W p l e R s m args below meth c H locs cells slots Q (F0 m pc ls st0) := by
  have hF := x_free hV hS hA
  exact va_calli hr hS (fun q _ h => hF q h) hF (fun r u t H1 locs1 e1 _ hp hB _ _ hS1 => kk r u.1 u.2 H1 locs1 hp ((show xV D (xA loc w H.size) u.1 u.2 H1 from e1 ▸ hB).mono hF) hS1)
theorem x_mv {mc ms : Nat} {post : (Nat → Nat) × xM → Prop} {a : Array Value} {st0 : List Value} (hr : va_Run p l e R s m args below meth c H locs cells slots mc ms (F0 m pc ls st0) rest (va_Qv post (xB D (xA loc w H.size)) (xA loc w H.size) a) (xA loc w H.size)) (hV : xV D A loc w H) (hS : va_S A H0 H locs) (hA : ∀ q, H0.size ≤ q → A q)
    (kk : ∀ (loc' : Nat → Nat) (w' : xM) (H1 : Heap) (locs1 : List Loc), post (loc', w') → xV D A loc' w' H1 → va_S A H0 H1 locs1 → W p l e R s m args below meth c H1 locs1 (cells + mc) (slots + ms) Q (F0 m (pc + 3) ls rest)) : W p l e R s m args below meth c H locs cells slots Q (F0 m pc ls st0) := by
  have hF := x_free hV hS hA
  exact va_callv hr hS (fun q _ h => hF q h) hF (fun u t H1 locs1 e1 _ hp hB _ _ hS1 => kk u.1 u.2 H1 locs1 hp ((show xV D (xA loc w H.size) u.1 u.2 H1 from e1 ▸ hB).mono hF) hS1)
/-- ends -/
theorem x_ri {post : Int32 → Prop} {v : Int32} (hexec : p.tables.exec = Jvm.exec) (hb : c.code = cc) (hr : meth.sig.returnType = some .int) (hlocks : meth.locks = false) (hdg : decode cc pc = .ok (.ireturn, 1)) (hp : post v) : W p l e R s m args below meth c s.heap [] cells slots (MQ below (vp_Si post) args s cells slots (fun _ => False)) (F0 m pc ls [.int v]) :=
  W.iret hexec hb hr (fun t ht _ => ⟨v, rfl, hp, ht⟩) (fun _ h => by cases h) hdg hlocks
theorem x_rz {post : Int32 → Prop} {v : Int32} (hexec : p.tables.exec = Jvm.exec) (hb : c.code = cc) (hr : meth.sig.returnType = some .boolean) (hlocks : meth.locks = false) (hn : narrow .boolean (.int v) = .int v) (hdg : decode cc pc = .ok (.ireturn, 1)) (hp : post v) : W p l e R s m args below meth c s.heap [] cells slots (MQ below (vp_Si post) args s cells slots (fun _ => False)) (F0 m pc ls [.int v]) :=
  W.zret hexec hb hr hn (fun t ht _ => ⟨v, rfl, hp, ht⟩) (fun _ h => by cases h) hdg hlocks
theorem x_rl {post : Int64 → Prop} {v : Int64} (hexec : p.tables.exec = Jvm.exec) (hb : c.code = cc) (hr : meth.sig.returnType = some .long) (hlocks : meth.locks = false) (hdg : decode cc pc = .ok (.lreturn, 1)) (hp : post v) : W p l e R s m args below meth c s.heap [] cells slots (MQ below (vp_Sl post) args s cells slots (fun _ => False)) (F0 m pc ls [.long v]) :=
  W.lret hexec hb hr (fun t ht _ => ⟨v, rfl, hp, ht⟩) (fun _ h => by cases h) hdg hlocks
theorem x_rq {post : Option Nat → Prop} {v : Option Nat} {n : String} (hexec : p.tables.exec = Jvm.exec) (hb : c.code = cc) (hr : meth.sig.returnType = some (.object n)) (hlocks : meth.locks = false) (hdg : decode cc pc = .ok (.areturn, 1)) (hp : post v) : W p l e R s m args below meth c s.heap [] cells slots (MQ below (va_Sq post) args s cells slots (fun _ => False)) (F0 m pc ls [va_rf v]) :=
  W.aret hexec hb hr (Or.inl ⟨n, rfl⟩) (va_rf_or v) (fun t ht _ => ⟨v, rfl, hp, ht⟩) (fun _ h => by cases h) hdg hlocks
theorem x_rmi {post : Int32 → (Nat → Nat) × xM → Prop} {v : Int32} {A : Nat → Prop} (hexec : p.tables.exec = Jvm.exec) (hb : c.code = cc) (hr : meth.sig.returnType = some .int) (hlocks : meth.locks = false) (hdg : decode cc pc = .ok (.ireturn, 1)) (hV : xV D A loc w H) (hS : va_S A s.heap H locs) (hp : post v (loc, w)) : W p l e R s m args below meth c H locs cells slots (MQ below (va_Qi post (xB D A) A) args s cells slots A) (F0 m pc ls [.int v]) :=
  W.iret hexec hb hr (fun t ht _ => ⟨⟨v, (loc, w), rfl, hp, by rw [xB, ht]; exact hV⟩, hS.F ht⟩) hS.2.2 hdg hlocks
theorem x_rmz {post : Int32 → (Nat → Nat) × xM → Prop} {v : Int32} {A : Nat → Prop} (hexec : p.tables.exec = Jvm.exec) (hb : c.code = cc) (hr : meth.sig.returnType = some .boolean) (hlocks : meth.locks = false) (hn : narrow .boolean (.int v) = .int v) (hdg : decode cc pc = .ok (.ireturn, 1)) (hV : xV D A loc w H) (hS : va_S A s.heap H locs) (hp : post v (loc, w)) : W p l e R s m args below meth c H locs cells slots (MQ below (va_Qi post (xB D A) A) args s cells slots A) (F0 m pc ls [.int v]) :=
  W.zret hexec hb hr hn (fun t ht _ => ⟨⟨v, (loc, w), rfl, hp, by rw [xB, ht]; exact hV⟩, hS.F ht⟩) hS.2.2 hdg hlocks
theorem x_rmv {post : (Nat → Nat) × xM → Prop} {A : Nat → Prop} (hexec : p.tables.exec = Jvm.exec) (hb : c.code = cc) (hr : meth.sig.returnType = none) (hlocks : meth.locks = false) (hdg : decode cc pc = .ok (.return_, 1)) (hV : xV D A loc w H) (hS : va_S A s.heap H locs) (hp : post (loc, w)) : W p l e R s m args below meth c H locs cells slots (MQ below (va_Qv post (xB D A) A) args s cells slots A) (F0 m pc ls []) :=
  W.vret hexec hb hr (fun t ht _ => ⟨⟨(loc, w), rfl, hp, by rw [xB, ht]; exact hV⟩, hS.F ht⟩) hS.2.2 hdg hlocks
end XR
/-- a method's contract out of the walk of its body -/
theorem x_met {l : Launch} {y : MethodName} {ws ws' : List Cond} {rm : Room} {av : List Value} {P : State → Prop} {Qc : Array Value → State → Outcome → State → Prop} {mc ms : Nat} {free : Addr → Prop} {cc : ByteArray} {maxL : Nat} {ret : Option FieldType} {C : String} (hy : plainName y.cls = true) (hw : ws = Cond.code y cc maxL ret :: ws') (hC : y.cls = C) (hml : (lg_sl av).length ≤ maxL)
    (body : ∀ (p : Program) (e : Env) (s : State) (m : MethodId) (below : List Frame) (meth : Method) (c : Code) (ls : Array Slot), p.tables.exec = Jvm.exec → c.code = cc → c.maxLocals = maxL → meth.sig.returnType = ret → (∀ w ∈ ws, w.before av.toArray s = true) → s.vm.findClass C = some m.cls → meth.locks = false → meth.name = y.name → P s → lv_has ls maxL (lv_args 0 av) → W p l e rm s m av.toArray below meth c s.heap [] 0 0 (MQ below Qc av.toArray s mc ms free) (F0 m 0 ls [])) : Met l y ws rm (va_Pc av P) Qc mc ms free := by
  refine Met.ofW (cc := cc) (maxL := maxL) (ret := ret) hy hw ?_
  intro p e s m args below meth c s₁ B hml' hv
  obtain ⟨rfl, hv⟩ := hv
  rw [lg_entry_eq]
  exact body p e s m below meth c _ B.exec B.bytes hml' B.returns (atoms_spec (ws := ws) B.pre) (hC ▸ findClass_of_methodNamed B.named) B.notSynchronized (name_of_methodNamed B.named B.method).1 hv (lv_entry av hml)
