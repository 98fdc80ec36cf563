/-! the model: its cells, and the rows that the kit lacks -/
def xcmp (x y : Int64) : Int32 := if x > y then 1 else if x == y then 0 else -1
theorem xcmp_lt {x y : Int64} (h : xcmp x y < 0) : x < y := by
  rw [xcmp] at h
  by_cases h1 : x > y
  · rw [if_pos h1] at h; exact absurd h (by decide)
  · rw [if_neg h1] at h
    by_cases h2 : x = y
    · rw [if_pos (by rw [h2]; exact beq_self_eq_true y)] at h; exact absurd h (by decide)
    · exact Int64.lt_of_le_of_ne (Int64.not_lt.mp h1) h2
theorem xcmp_ge {x y : Int64} (h : ¬ xcmp x y < 0) : y ≤ x := by
  rw [xcmp] at h
  by_cases h1 : x > y
  · exact Int64.le_of_lt h1
  · rw [if_neg h1] at h
    by_cases h2 : x = y
    · rw [h2]; exact Int64.le_refl y
    · rw [if_neg (fun q => h2 (eq_of_beq q))] at h; exact absurd (by decide) h
theorem xcmp_gt {x y : Int64} (h : 0 < xcmp x y) : y < x := by
  rw [xcmp] at h
  by_cases h1 : x > y
  · exact h1
  · rw [if_neg h1] at h
    by_cases h2 : x = y
    · rw [if_pos (by rw [h2]; exact beq_self_eq_true y)] at h; exact absurd h (by decide)
    · rw [if_neg (fun q => h2 (eq_of_beq q))] at h; exact absurd h (by decide)
theorem xcmp_le {x y : Int64} (h : ¬ 0 < xcmp x y) : x ≤ y := by
  rw [xcmp] at h
  by_cases h1 : x > y
  · rw [if_pos h1] at h; exact absurd (by decide) h
  · exact Int64.not_lt.mp h1
theorem x_le64 (a b : Int32) : a.toInt64 ≤ b.toInt64 ↔ a ≤ b := by
  rw [Int64.le_iff_toInt_le, Int32.toInt_toInt64, Int32.toInt_toInt64, Int32.le_iff_toInt_le]
theorem xb_congr {P Q : Prop} {iP : Decidable P} {iQ : Decidable Q} (h : P ↔ Q) : @xb P iP = @xb Q iQ := by
  by_cases q : P
  · rw [xb_t q, xb_t (h.mp q)]
  · rw [xb_f q, xb_f (fun z => q (h.mpr z))]
theorem x_in2 {n : Int32} {a b : Int32} {x y : Int64} (hx : x = a.toInt64) (hy : y = b.toInt64) : xb (x ≤ n.toInt64 ∧ n.toInt64 ≤ y) = xb (a ≤ n ∧ n ≤ b) := by
  rw [hx, hy]; exact xb_congr (by rw [x_le64, x_le64])
theorem x_in3 {n : Int32} {c : Nat} (hc : c < 2 ^ 31) : xb ((0 : Int64) ≤ n.toInt64 ∧ n.toInt64 ≤ (nI c - nI 1).toInt64) = xb (nI 0 ≤ n ∧ n < nI c) := by
  rw [show (0 : Int64) = (nI 0).toInt64 from rfl]
  refine xb_congr ?_
  rw [x_le64, x_le64, Int32.le_iff_toInt_le (y := nI c - nI 1), Int32.lt_iff_toInt_lt, nI_toInt hc, Int32.toInt_sub, nI_toInt hc, nI_toInt (show 1 < 2 ^ 31 by decide)]
  rw [Int.bmod_eq_of_le (by omega) (by omega)]
  constructor
  · exact fun h => ⟨h.1, by have := h.2; omega⟩
  · exact fun h => ⟨h.1, by have := h.2; omega⟩
theorem x_ix2 {n : Int32} {cnt : Nat} (hc : cnt < 2 ^ 31) (h : nI 0 ≤ n ∧ n < nI cnt) : ∃ j : Nat, j < cnt ∧ n = nI j := x_ix hc (Int32.not_lt.mpr h.1) h.2
def yC (cy : Nat → ClassId) (loc : Nat → Nat) (σ : xS) (g b f v : Nat → Int32) (t : Nat) : Option va_E :=
  match t with
  | 0 => some (.inr (8, [.ref (loc 301), .int (nI (σ.2 0)), .ref (loc 302), .ref (loc 303), .ref (loc 304), .int (nI (σ.2 1)), .ref (loc 305), .ref (loc 306), .ref (loc 307), .ref (loc 308), .int (v 0), .int (v 1), .int (v 2), .int (v 3), .int (nI (σ.2 5)), .ref (loc 309), .ref (loc 310), .int (v 4), .int (nI (σ.2 2)), .ref (loc 311), .int (nI (σ.2 3)), .ref (loc 312), .ref (loc 313), .int (σ.1 10 0), .int (σ.1 10 1), .int (nI (σ.2 4)), .ref (loc 314)]))
  | 1 => some (eI cy 9 (σ.1 0))
  | 2 => some (eI cy 8 (fun k => nI (σ.2 (10 + k))))
  | 3 => some (eI cy 48 (σ.1 1))
  | 4 => some (eI cy 432 (σ.1 2))
  | 5 => some (eI cy 72 (σ.1 3))
  | 6 => some (eI cy 72 (σ.1 4))
  | 7 => some (eI cy 9 g)
  | 8 => some (eI cy 9 b)
  | 9 => some (eI cy 6 (σ.1 5))
  | 10 => some (eI cy 48 f)
  | 11 => some (eI cy 768 (σ.1 6))
  | 12 => some (eI cy 3 (σ.1 7))
  | 13 => some (eI cy 3 (σ.1 8))
  | 14 => some (eI cy 60 (σ.1 9))
  | _ => none
def yR (cy : Nat → ClassId) (loc : Nat → Nat) (σ : xS) (w : xM) : Prop := ∃ g b f v : Nat → Int32, ∀ t, t < 15 → w (300 + t) = yC cy loc σ g b f v t
def yOK (cy : Nat → ClassId) (loc : Nat → Nat) (w : xM) (σ : xS) (u : (Nat → Nat) × xM) : Prop := yR cy u.1 σ u.2 ∧ (∀ t, t < 300 ∨ 315 ≤ t → u.2 t = w t ∧ u.1 t = loc t) ∧ u.1 = loc
theorem yOK_id {cy : Nat → ClassId} {loc : Nat → Nat} {σ : xS} {w : xM} (h : yR cy loc σ w) : yOK cy loc w σ (loc, w) := ⟨h, fun _ _ => ⟨rfl, rfl⟩, rfl⟩
/-- where the heights of a back begin in the model -/
def yat (σ : xS) (k : Nat) (d : Int32) (n : Nat) : Int32 := if xbk (fun j => σ.1 1 (6 * k + j)) d n = 0 then -1 else nI (9 * (6 * k + (xbk (fun j => σ.1 1 (6 * k + j)) d n - 1)))
theorem yat_y {σ : xS} {k i : Nat} {d : Int32} (h : σ.1 1 (6 * k + i) ≤ d) : nI (9 * (6 * k + i)) = yat σ k d (i + 1) := by
  rw [yat, xbk, if_pos h, if_neg (by omega), Nat.add_sub_cancel]
theorem yat_n {σ : xS} {k i : Nat} {a d : Int32} (e : a = yat σ k d i) (h : ¬ σ.1 1 (6 * k + i) ≤ d) : a = yat σ k d (i + 1) := by
  rw [yat, xbk, if_neg h, e, yat]
theorem yat_or (σ : xS) (k : Nat) (d : Int32) : (∃ j, j < σ.2 (10 + k) ∧ xbd σ k d = j + 1 ∧ yat σ k d (σ.2 (10 + k)) = nI (9 * (6 * k + j))) ∨ (xbd σ k d = 0 ∧ yat σ k d (σ.2 (10 + k)) = -1) := by
  by_cases h : xbd σ k d = 0
  · exact Or.inr ⟨h, if_pos h⟩
  · have hl : xbd σ k d ≤ σ.2 (10 + k) := xbk_le _ d _
    refine Or.inl ⟨xbd σ k d - 1, by omega, by omega, ?_⟩
    exact if_neg h
section
variable {p : Program} {l : Launch} {e : Env} {R : Room} {s : State} {m : MethodId} {args : Array Value} {below : List Frame} {meth : Method} {c : Code} {H : Heap} {locs : List Loc} {cells slots : Nat} {cc : ByteArray} {pc : Nat} {ls : Array Slot} {rest : List Value} {Q : State → Prop}
theorem x_lcmp (hexec : p.tables.exec = Jvm.exec) (hb : c.code = cc) {x y : Int64} (hdg : decode cc pc = .ok (.lcmp, 1))
    (k : W p l e R s m args below meth c H locs cells slots Q (F0 m (pc + 1) ls (.int (xcmp x y) :: rest))) : W p l e R s m args below meth c H locs cells slots Q (F0 m pc ls (.long y :: .long x :: rest)) := by
  intro T hT X
  obtain ⟨t, a, b⟩ := k T hT X
  refine ⟨t, ?_, b⟩
  jvm_step X.here [X.here.top, hexec, hb, hdg]
  rw [xcmp] at a
  by_cases h1 : x > y
  · simp only [h1, if_true] at a ⊢; exact a
  · by_cases h2 : x = y
    · simp [h2] at a ⊢; exact a
    · simp [h1, h2] at a ⊢; exact a
end
theorem yfl_1 {a b : Int32} (h1 : a < 0) (h2 : ¬ a - a / b * b = 0) : a / b - nI 1 = xfloor a b := by
  rw [xfloor, if_pos ⟨h1, fun q => h2 (by rw [q]; exact Int32.sub_self _)⟩]
theorem yfl_3 {a b : Int32} (h2 : a - a / b * b = 0) : a / b = xfloor a b := by
  rw [xfloor, if_neg (fun q => q.2 (by have := Int32.sub_eq_iff_eq_add.mp h2; rw [Int32.zero_add] at this; exact this.symm))]
