/-! a new house -/
def xS0 : xS := (fun k i => if k = 0 then (if i < 9 then nI 100 else 0) else if k = 10 then (if i = 0 then -1 else 0) else 0, fun _ => 0)
theorem x_row {g : Nat → Int32} {i : Nat} (h : ∀ j, g j = if j < i then nI 100 else 0) : ∀ j, upd g i (nI 100) j = if j < i + 1 then nI 100 else 0 := fun j => by
  simp only [upd]
  by_cases e : j = i
  · rw [if_pos e, if_pos (by omega)]
  · rw [if_neg e, h j]
    by_cases q : j < i
    · rw [if_pos q, if_pos (by omega)]
    · rw [if_neg q, if_neg (by omega)]
theorem xR_init {cy : Nat → ClassId} {loc : Nat → Nat} {w : xM} {g1 : Nat → Int32} (hg : ∀ j, g1 j = if j < 9 then nI 100 else 0)
  (h0 : w 0 = some (.inr (7, [.ref (loc 1), .ref (loc 2), .ref (loc 3), .ref (loc 4), .ref (loc 5), .ref (loc 6), .ref (loc 7), .int (nI 0), .int (nI 0), .int (nI 0), .int (nI 0), .int (nI 0), .int (nI 0), .int (nI 0), .int (nI 0), .int (-1), .ref (loc 8), .ref (loc 11)])))
  (h1 : w 1 = some (eI cy 9 g1)) (h2 : w 2 = some (eQ cy 3 8 (fun _ => none))) (h3 : w 3 = some (eQ cy 6 8 (fun _ => none))) (h4 : w 4 = some (eQ cy 2 4 (fun _ => none))) (h5 : w 5 = some (eQ cy 1 3 (fun _ => none))) (h6 : w 6 = some (eQ cy 5 12 (fun _ => none)))
  (h7 : w 7 = some (eI cy 6 (fun _ => 0))) (h8 : w 8 = some (.inr (5, [.ref (loc 9), .ref (loc 10)]))) (h9 : w 9 = some (eI cy 9 (fun _ => 0))) (h10 : w 10 = some (eI cy 9 (fun _ => 0))) (h11 : w 11 = some (eI cy 48 (fun _ => 0)))
  (hz : ∀ t, 12 ≤ t → t < 250 → w t = none) : xR cy loc xS0 w := by
  refine ⟨fun _ => 0, fun _ => 0, fun _ => 0, fun t ht => ?_⟩
  by_cases h : t < 20
  · rw [xC_lo h]
    rcases (show t = 0 ∨ t = 1 ∨ t = 2 ∨ t = 3 ∨ t = 4 ∨ t = 5 ∨ t = 6 ∨ t = 7 ∨ t = 8 ∨ t = 9 ∨ t = 10 ∨ t = 11 ∨ 12 ≤ t by omega) with e | e | e | e | e | e | e | e | e | e | e | e | e
    · subst e; exact h0
    · subst e; rw [h1, show g1 = xS0.1 0 from funext (fun j => hg j)]; rfl
    · subst e; rw [h2, ← xq_0 (fun k => loc (20 + k))]; rfl
    · subst e; rw [h3, ← xq_0 (fun k => loc (150 + k))]; rfl
    · subst e; rw [h4, ← xq_0 (fun k => loc (180 + k))]; rfl
    · subst e; rw [h5, ← xq_0 (fun k => loc (200 + k))]; rfl
    · subst e; rw [h6, ← xq_0 (fun k => loc (210 + k))]; rfl
    · subst e; rw [h7]; rfl
    · subst e; exact h8
    · subst e; exact h9
    · subst e; exact h10
    · subst e; exact h11
    · rw [hz t e ht]
      rcases (show t = 12 ∨ t = 13 ∨ t = 14 ∨ t = 15 ∨ t = 16 ∨ t = 17 ∨ t = 18 ∨ t = 19 by omega) with e | e | e | e | e | e | e | e <;> subst e <;> rfl
  · rw [hz t (by omega) ht, xC, if_neg h]
    split
    · exact (xe_no (Nat.not_lt_zero _)).symm
    split
    · exact (xe_no (Nat.not_lt_zero _)).symm
    split
    · exact (xe_no (fun q => Nat.not_lt_zero _ q.1)).symm
    split
    · exact (xe_no (fun q => Nat.not_lt_zero _ q.1)).symm
    split
    · exact (xe_no (Nat.not_lt_zero _)).symm
    split
    · exact (xe_no (Nat.not_lt_zero _)).symm
    split
    · exact (xe_no (Nat.not_lt_zero _)).symm
    split
    · exact (xe_no (Nat.not_lt_zero _)).symm
    split
    · exact (xe_no (Nat.not_lt_zero _)).symm
    split
    · exact (xe_no (Nat.not_lt_zero _)).symm
    · exact (xe_no (Nat.not_lt_zero _)).symm
