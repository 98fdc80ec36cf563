/-! things made -/
theorem xe_cong {c : Prop} {iC : Decidable c} {e e' : va_E} (h : c → e = e') : @xe c iC e = @xe c iC e' := by
  by_cases q : c
  · rw [h q]
  · show (if c then _ else _) = if c then _ else _
    rw [if_neg q, if_neg q]
theorem xe_iff {c c' : Prop} {iC : Decidable c} {iC' : Decidable c'} {e : va_E} (h : c ↔ c') : @xe c iC e = @xe c' iC' e := by
  by_cases q : c
  · show (if c then _ else _) = if c' then _ else _
    rw [if_pos q, if_pos (h.mp q)]
  · show (if c then _ else _) = if c' then _ else _
    rw [if_neg q, if_neg (fun z => q (h.mpr z))]
theorem xe_no {c : Prop} {iC : Decidable c} {e : va_E} (h : ¬ c) : @xe c iC e = none := if_neg h
theorem xe_yes {c : Prop} {iC : Decidable c} {e : va_E} (h : c) : @xe c iC e = some e := if_pos h
theorem xq_cong {ad ad' : Nat → Nat} {n : Nat} (h : ∀ k, k < n → ad k = ad' k) : xq ad n = xq ad' n := by
  funext k
  show (if k < n then _ else _) = if k < n then _ else _
  by_cases q : k < n
  · rw [if_pos q, if_pos q, h k q]
  · rw [if_neg q, if_neg q]
theorem xq_re {ad ad' : Nat → Nat} {n : Nat} (h : ∀ k, k < n → ad k = ad' k) : va_up (xq ad n) n (some (ad' n)) = xq ad' (n + 1) := by rw [xq_cong h, xq_up]
section
variable {cy : Nat → ClassId} {loc loc' : Nat → Nat} {σ : xS} {w : xM} {g b f : Nat → Int32} {k j : Nat}
theorem xn_20 (h : σ.2 0 ≤ k) (hk : k < 10) : xC cy loc σ g b f (20 + k) = none := by
  rw [xC, if_neg (by omega), if_pos (by omega)]; exact xe_no (by omega)
theorem xn_30 (h : σ.2 0 ≤ k) (hk : k < 10) : xC cy loc σ g b f (30 + k) = none := by
  rw [xC, if_neg (by omega), if_neg (by omega), if_pos (by omega)]; exact xe_no (by omega)
theorem xn_150 (h : σ.2 1 ≤ k) (hk : k < 10) : xC cy loc σ g b f (150 + k) = none := by
  rw [xC, if_neg (by omega), if_neg (by omega), if_neg (by omega), if_neg (by omega), if_neg (by omega), if_pos (by omega)]; exact xe_no (by omega)
theorem xn_160 (h : σ.2 1 ≤ k) (hk : k < 10) : xC cy loc σ g b f (160 + k) = none := by
  rw [xC, if_neg (by omega), if_neg (by omega), if_neg (by omega), if_neg (by omega), if_neg (by omega), if_neg (by omega), if_pos (by omega)]; exact xe_no (by omega)
theorem xn_170 (h : σ.2 1 ≤ k) (hk : k < 10) : xC cy loc σ g b f (170 + k) = none := by
  rw [xC, if_neg (by omega), if_neg (by omega), if_neg (by omega), if_neg (by omega), if_neg (by omega), if_neg (by omega), if_neg (by omega), if_pos (by omega)]; exact xe_no (by omega)
theorem xn_180 (h : σ.2 2 ≤ k) (hk : k < 10) : xC cy loc σ g b f (180 + k) = none := by
  rw [xC, if_neg (by omega), if_neg (by omega), if_neg (by omega), if_neg (by omega), if_neg (by omega), if_neg (by omega), if_neg (by omega), if_neg (by omega), if_pos (by omega)]; exact xe_no (by omega)
theorem xn_190 (h : σ.2 2 ≤ k) (hk : k < 10) : xC cy loc σ g b f (190 + k) = none := by
  rw [xC, if_neg (by omega), if_neg (by omega), if_neg (by omega), if_neg (by omega), if_neg (by omega), if_neg (by omega), if_neg (by omega), if_neg (by omega), if_neg (by omega), if_pos (by omega)]; exact xe_no (by omega)
theorem xn_200 (h : σ.2 3 ≤ k) (hk : k < 10) : xC cy loc σ g b f (200 + k) = none := by
  rw [xC, if_neg (by omega), if_neg (by omega), if_neg (by omega), if_neg (by omega), if_neg (by omega), if_neg (by omega), if_neg (by omega), if_neg (by omega), if_neg (by omega), if_neg (by omega), if_pos (by omega)]; exact xe_no (by omega)
theorem xn_210 (h : σ.2 4 ≤ k) (hk : k < 40) : xC cy loc σ g b f (210 + k) = none := by
  rw [xC, if_neg (by omega), if_neg (by omega), if_neg (by omega), if_neg (by omega), if_neg (by omega), if_neg (by omega), if_neg (by omega), if_neg (by omega), if_neg (by omega), if_neg (by omega), if_neg (by omega)]; exact xe_no (by omega)
theorem xn_40 (hk : k < 8) (hj : j < 6) (h : σ.2 (10 + k) ≤ j) : xC cy loc σ g b f (40 + 6 * k + j) = none := by
  rw [xC, if_neg (by omega), if_neg (by omega), if_neg (by omega), if_pos (by omega)]; exact xe_no (fun q => by have q2 := q.2; rw [show (40 + 6 * k + j - 40) / 6 = k by omega, show (40 + 6 * k + j - 40) % 6 = j by omega] at q2; omega)
theorem xn_100 (hk : k < 8) (hj : j < 6) (h : σ.2 (10 + k) ≤ j) : xC cy loc σ g b f (100 + 6 * k + j) = none := by
  rw [xC, if_neg (by omega), if_neg (by omega), if_neg (by omega), if_neg (by omega), if_pos (by omega)]; exact xe_no (fun q => by have q2 := q.2; rw [show (100 + 6 * k + j - 100) / 6 = k by omega, show (100 + 6 * k + j - 100) % 6 = j by omega] at q2; omega)
theorem xC_sm {e : va_E} {x : Option va_E} (h : x = some e) : x ≠ none := by rw [h]; exact Option.some_ne_none _
theorem xR_re (h : xR cy loc σ w) (hN : xN8 σ) (hl : ∀ t, t < 250 → w t ≠ none → loc' t = loc t) : xR cy loc' σ w := by
  obtain ⟨g, b, f, hw⟩ := h
  obtain ⟨hN0, hN1, hN2, hN3, hN4, hN5, hN6⟩ := hN
  refine ⟨g, b, f, fun t ht => (hw t ht).trans ?_⟩
  have hl' : ∀ t, t < 250 → xC cy loc σ g b f t ≠ none → loc t = loc' t := fun t ht h => (hl t ht (by rw [hw t ht]; exact h)).symm
  have hc : ∀ {t : Nat} {e : va_E}, t < 250 → xC cy loc σ g b f t = some e → loc t = loc' t := fun ht h => hl' _ ht (xC_sm h)
  by_cases h : t < 20
  · rw [xC_lo h, xC_lo h]
    rcases (show t = 0 ∨ t = 1 ∨ t = 2 ∨ t = 3 ∨ t = 4 ∨ t = 5 ∨ t = 6 ∨ t = 7 ∨ t = 8 ∨ t = 9 ∨ t = 10 ∨ t = 11 ∨ 12 ≤ t by omega) with e | e | e | e | e | e | e | e | e | e | e | e | e
    · subst e
      have e1 : loc 1 = loc' 1 := hc (by decide) rfl
      have e2 : loc 2 = loc' 2 := hc (by decide) rfl
      have e3 : loc 3 = loc' 3 := hc (by decide) rfl
      have e4 : loc 4 = loc' 4 := hc (by decide) rfl
      have e5 : loc 5 = loc' 5 := hc (by decide) rfl
      have e6 : loc 6 = loc' 6 := hc (by decide) rfl
      have e7 : loc 7 = loc' 7 := hc (by decide) rfl
      have e8 : loc 8 = loc' 8 := hc (by decide) rfl
      have e11 : loc 11 = loc' 11 := hc (by decide) rfl
      show some (Sum.inr (7, [Value.ref (loc 1), Value.ref (loc 2), Value.ref (loc 3), Value.ref (loc 4), Value.ref (loc 5), Value.ref (loc 6), Value.ref (loc 7), _, _, _, _, _, _, _, _, _, Value.ref (loc 8), Value.ref (loc 11)])) = _
      rw [e1, e2, e3, e4, e5, e6, e7, e8, e11]; rfl
    · subst e; rfl
    · subst e; show some (eQ cy 3 8 _) = some (eQ cy 3 8 _); rw [xq_cong (ad' := fun k => loc' (20 + k)) (fun k hk => hc (by omega) (xC_20 hk (by omega)))]
    · subst e; show some (eQ cy 6 8 _) = some (eQ cy 6 8 _); rw [xq_cong (ad' := fun k => loc' (150 + k)) (fun k hk => hc (by omega) (xC_150 hk (by omega)))]
    · subst e; show some (eQ cy 2 4 _) = some (eQ cy 2 4 _); rw [xq_cong (ad' := fun k => loc' (180 + k)) (fun k hk => hc (by omega) (xC_180 hk (by omega)))]
    · subst e; show some (eQ cy 1 3 _) = some (eQ cy 1 3 _); rw [xq_cong (ad' := fun k => loc' (200 + k)) (fun k hk => hc (by omega) (xC_200 hk (by omega)))]
    · subst e; show some (eQ cy 5 12 _) = some (eQ cy 5 12 _); rw [xq_cong (ad' := fun k => loc' (210 + k)) (fun k hk => hc (by omega) (xC_210 hk (by omega)))]
    · subst e; rfl
    · subst e
      have e9 : loc 9 = loc' 9 := hc (by decide) rfl
      have e10 : loc 10 = loc' 10 := hc (by decide) rfl
      show some (Sum.inr (5, [Value.ref (loc 9), Value.ref (loc 10)])) = _
      rw [e9, e10]; rfl
    · subst e; rfl
    · subst e; rfl
    · subst e; rfl
    · rcases (show t = 12 ∨ t = 13 ∨ t = 14 ∨ t = 15 ∨ t = 16 ∨ t = 17 ∨ t = 18 ∨ t = 19 by omega) with e | e | e | e | e | e | e | e <;> subst e <;> rfl
  · rw [xC, xC, if_neg h, if_neg h]
    by_cases h30 : t < 30
    · rw [if_pos h30, if_pos h30]; exact xe_cong (fun q => by rw [show loc (30 + (t - 20)) = loc' (30 + (t - 20)) from hc (by omega) (xC_30 q (by omega))])
    rw [if_neg h30, if_neg h30]
    by_cases h40 : t < 40
    · rw [if_pos h40, if_pos h40]; exact xe_cong (fun q => by rw [xq_cong (ad' := fun j => loc' (40 + 6 * (t - 30) + j)) (fun j hj => by have := hN6 (t - 30); exact hc (by omega) (xC_40 q (by omega) hj (by omega)))])
    rw [if_neg h40, if_neg h40]
    by_cases h100 : t < 100
    · rw [if_pos h100, if_pos h100]; exact xe_cong (fun q => by rw [show loc (100 + (t - 40)) = loc' (100 + (t - 40)) from by have := hN6 ((t - 40) / 6); rw [show 100 + (t - 40) = 100 + 6 * ((t - 40) / 6) + (t - 40) % 6 by omega]; exact hc (by omega) (xC_100 q.1 (by omega) q.2 (by omega))])
    rw [if_neg h100, if_neg h100]
    by_cases h150 : t < 150
    · rw [if_pos h150, if_pos h150]
    rw [if_neg h150, if_neg h150]
    by_cases h160 : t < 160
    · rw [if_pos h160, if_pos h160]; exact xe_cong (fun q => by rw [show loc (160 + (t - 150)) = loc' (160 + (t - 150)) from hc (by omega) (xC_160 q (by omega)), show loc (170 + (t - 150)) = loc' (170 + (t - 150)) from hc (by omega) (xC_170 q (by omega))])
    rw [if_neg h160, if_neg h160]
    by_cases h170 : t < 170
    · rw [if_pos h170, if_pos h170]
    rw [if_neg h170, if_neg h170]
    by_cases h180 : t < 180
    · rw [if_pos h180, if_pos h180]
    rw [if_neg h180, if_neg h180]
    by_cases h190 : t < 190
    · rw [if_pos h190, if_pos h190]; exact xe_cong (fun q => by rw [show loc (190 + (t - 180)) = loc' (190 + (t - 180)) from hc (by omega) (xC_190 q (by omega))])
    rw [if_neg h190, if_neg h190]
end
