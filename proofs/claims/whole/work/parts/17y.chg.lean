/-! changes of the state -/
def xa1 (σ : xS) (k : Nat) (f : Nat → Int32) : xS := (fun j => if j = k then f else σ.1 j, σ.2)
def xa2 (σ : xS) (k n : Nat) : xS := (σ.1, fun j => if j = k then n else σ.2 j)
abbrev xE2 (loc : Nat → Nat) (σ : xS) (k : Nat) : Option va_E := xe (k < σ.2 0) (.inr (2, [.ref (loc (30 + k)), .int (nI (σ.2 (10 + k)))]))
abbrev xE3 (cy : Nat → ClassId) (loc : Nat → Nat) (σ : xS) (k : Nat) : Option va_E := xe (k < σ.2 0) (eQ cy 4 6 (xq (fun j => loc (40 + 6 * k + j)) (σ.2 (10 + k))))
abbrev xE4 (loc : Nat → Nat) (σ : xS) (k : Nat) : Option va_E := xe (k / 6 < σ.2 0 ∧ k % 6 < σ.2 (10 + k / 6)) (.inr (3, [.int (σ.1 1 k), .ref (loc (100 + k))]))
abbrev xE10 (cy : Nat → ClassId) (σ : xS) (k : Nat) : Option va_E := xe (k / 6 < σ.2 0 ∧ k % 6 < σ.2 (10 + k / 6)) (eI cy 9 (xsl 9 (σ.1 2) (9 * k)))
abbrev xE15 (loc : Nat → Nat) (σ : xS) (k : Nat) : Option va_E := xe (k < σ.2 1) (.inr (6, [.ref (loc (160 + k)), .ref (loc (170 + k))]))
abbrev xE16 (cy : Nat → ClassId) (σ : xS) (k : Nat) : Option va_E := xe (k < σ.2 1) (eI cy 9 (xsl 9 (σ.1 3) (9 * k)))
abbrev xE17 (cy : Nat → ClassId) (σ : xS) (k : Nat) : Option va_E := xe (k < σ.2 1) (eI cy 9 (xsl 9 (σ.1 4) (9 * k)))
abbrev xE18 (loc : Nat → Nat) (σ : xS) (k : Nat) : Option va_E := xe (k < σ.2 2) (.inr (1, [.ref (loc (190 + k))]))
abbrev xE19 (cy : Nat → ClassId) (σ : xS) (k : Nat) : Option va_E := xe (k < σ.2 2) (eI cy 192 (xsl 192 (σ.1 6) (192 * k)))
abbrev xE20 (σ : xS) (k : Nat) : Option va_E := xe (k < σ.2 3) (.inr (0, [.int (σ.1 7 k), .int (σ.1 8 k)]))
abbrev xE21 (σ : xS) (k : Nat) : Option va_E := xe (k < σ.2 4) (.inr (4, [.int (σ.1 9 (5 * k)), .int (σ.1 9 (5 * k + 1)), .int (σ.1 9 (5 * k + 2)), .int (σ.1 9 (5 * k + 3)), .int (σ.1 9 (5 * k + 4))]))
theorem xE2_c {loc : Nat → Nat} {σ σ' : xS} {k : Nat} (h0 : σ'.2 0 = σ.2 0) (h : σ'.2 (10 + k) = σ.2 (10 + k)) : xE2 loc σ' k = xE2 loc σ k := by simp only [xE2, h0, h]
theorem xE3_c {cy : Nat → ClassId} {loc : Nat → Nat} {σ σ' : xS} {k : Nat} (h0 : σ'.2 0 = σ.2 0) (h : σ'.2 (10 + k) = σ.2 (10 + k)) : xE3 cy loc σ' k = xE3 cy loc σ k := by simp only [xE3, h0, h]
theorem xE4_c {loc : Nat → Nat} {σ σ' : xS} {k : Nat} (h0 : σ'.2 0 = σ.2 0) (h : σ'.2 (10 + k / 6) = σ.2 (10 + k / 6)) (h1 : σ'.1 1 = σ.1 1) : xE4 loc σ' k = xE4 loc σ k := by simp only [xE4, h0, h, h1]
theorem xE10_c {cy : Nat → ClassId} {σ σ' : xS} {k : Nat} (h0 : σ'.2 0 = σ.2 0) (h : σ'.2 (10 + k / 6) = σ.2 (10 + k / 6)) (h1 : σ'.1 2 = σ.1 2) : xE10 cy σ' k = xE10 cy σ k := by simp only [xE10, h0, h, h1]
theorem xC_ext {cy : Nat → ClassId} {loc : Nat → Nat} {σ σ' : xS} {g b f : Nat → Int32} {t : Nat} (ht : t < 250)
  (c0 : t = 0 → xC0 cy loc σ' g b f 0 = xC0 cy loc σ g b f 0) (c1 : t = 1 → σ'.1 0 = σ.1 0) (c2 : t = 2 → σ'.2 0 = σ.2 0) (c3 : t = 3 → σ'.2 1 = σ.2 1) (c4 : t = 4 → σ'.2 2 = σ.2 2) (c5 : t = 5 → σ'.2 3 = σ.2 3) (c6 : t = 6 → σ'.2 4 = σ.2 4) (c7 : t = 7 → σ'.1 5 = σ.1 5)
  (d20 : ∀ k, t = 20 + k → k < 10 → xE2 loc σ' k = xE2 loc σ k)
  (d30 : ∀ k, t = 30 + k → k < 10 → xE3 cy loc σ' k = xE3 cy loc σ k)
  (d40 : ∀ k, t = 40 + k → k < 60 → xE4 loc σ' k = xE4 loc σ k)
  (d100 : ∀ k, t = 100 + k → k < 50 → xE10 cy σ' k = xE10 cy σ k)
  (d150 : ∀ k, t = 150 + k → k < 10 → xE15 loc σ' k = xE15 loc σ k)
  (d160 : ∀ k, t = 160 + k → k < 10 → xE16 cy σ' k = xE16 cy σ k)
  (d170 : ∀ k, t = 170 + k → k < 10 → xE17 cy σ' k = xE17 cy σ k)
  (d180 : ∀ k, t = 180 + k → k < 10 → xE18 loc σ' k = xE18 loc σ k)
  (d190 : ∀ k, t = 190 + k → k < 10 → xE19 cy σ' k = xE19 cy σ k)
  (d200 : ∀ k, t = 200 + k → k < 10 → xE20 σ' k = xE20 σ k)
  (d210 : ∀ k, t = 210 + k → k < 40 → xE21 σ' k = xE21 σ k)
  : xC cy loc σ' g b f t = xC cy loc σ g b f t := by
  by_cases h : t < 20
  · rw [xC_lo h, xC_lo h]
    rcases (show t = 0 ∨ t = 1 ∨ t = 2 ∨ t = 3 ∨ t = 4 ∨ t = 5 ∨ t = 6 ∨ t = 7 ∨ t = 8 ∨ t = 9 ∨ t = 10 ∨ t = 11 ∨ 12 ≤ t by omega) with e | e | e | e | e | e | e | e | e | e | e | e | e
    · subst e; exact c0 rfl
    · subst e; show some (eI cy 9 (σ'.1 0)) = some (eI cy 9 (σ.1 0)); rw [c1 rfl]
    · subst e; show some (eQ cy 3 8 (xq (fun k => loc (20 + k)) (σ'.2 0))) = some (eQ cy 3 8 (xq (fun k => loc (20 + k)) (σ.2 0))); rw [c2 rfl]
    · subst e; show some (eQ cy 6 8 (xq (fun k => loc (150 + k)) (σ'.2 1))) = some (eQ cy 6 8 (xq (fun k => loc (150 + k)) (σ.2 1))); rw [c3 rfl]
    · subst e; show some (eQ cy 2 4 (xq (fun k => loc (180 + k)) (σ'.2 2))) = some (eQ cy 2 4 (xq (fun k => loc (180 + k)) (σ.2 2))); rw [c4 rfl]
    · subst e; show some (eQ cy 1 3 (xq (fun k => loc (200 + k)) (σ'.2 3))) = some (eQ cy 1 3 (xq (fun k => loc (200 + k)) (σ.2 3))); rw [c5 rfl]
    · subst e; show some (eQ cy 5 12 (xq (fun k => loc (210 + k)) (σ'.2 4))) = some (eQ cy 5 12 (xq (fun k => loc (210 + k)) (σ.2 4))); rw [c6 rfl]
    · subst e; show some (eI cy 6 (σ'.1 5)) = some (eI cy 6 (σ.1 5)); rw [c7 rfl]
    · subst e; rfl
    · subst e; rfl
    · subst e; rfl
    · subst e; rfl
    · rcases (show t = 12 ∨ t = 13 ∨ t = 14 ∨ t = 15 ∨ t = 16 ∨ t = 17 ∨ t = 18 ∨ t = 19 by omega) with e | e | e | e | e | e | e | e <;> subst e <;> rfl
  · rw [xC, xC, if_neg h, if_neg h]
    by_cases h30 : t < 30
    · rw [if_pos h30, if_pos h30]; exact d20 (t - 20) (by omega) (by omega)
    rw [if_neg h30, if_neg h30]
    by_cases h40 : t < 40
    · rw [if_pos h40, if_pos h40]; exact d30 (t - 30) (by omega) (by omega)
    rw [if_neg h40, if_neg h40]
    by_cases h100 : t < 100
    · rw [if_pos h100, if_pos h100]; exact d40 (t - 40) (by omega) (by omega)
    rw [if_neg h100, if_neg h100]
    by_cases h150 : t < 150
    · rw [if_pos h150, if_pos h150]; exact d100 (t - 100) (by omega) (by omega)
    rw [if_neg h150, if_neg h150]
    by_cases h160 : t < 160
    · rw [if_pos h160, if_pos h160]; exact d150 (t - 150) (by omega) (by omega)
    rw [if_neg h160, if_neg h160]
    by_cases h170 : t < 170
    · rw [if_pos h170, if_pos h170]; exact d160 (t - 160) (by omega) (by omega)
    rw [if_neg h170, if_neg h170]
    by_cases h180 : t < 180
    · rw [if_pos h180, if_pos h180]; exact d170 (t - 170) (by omega) (by omega)
    rw [if_neg h180, if_neg h180]
    by_cases h190 : t < 190
    · rw [if_pos h190, if_pos h190]; exact d180 (t - 180) (by omega) (by omega)
    rw [if_neg h190, if_neg h190]
    by_cases h200 : t < 200
    · rw [if_pos h200, if_pos h200]; exact d190 (t - 190) (by omega) (by omega)
    rw [if_neg h200, if_neg h200]
    by_cases h210 : t < 210
    · rw [if_pos h210, if_pos h210]; exact d200 (t - 200) (by omega) (by omega)
    rw [if_neg h210, if_neg h210]
    exact d210 (t - 210) (by omega) (by omega)
/-- the house's cells but for some tags -/
def xRm (S : Nat → Prop) (cy : Nat → ClassId) (loc : Nat → Nat) (σ : xS) (w : xM) : Prop := ∃ g b f : Nat → Int32, ∀ t, t < 250 → ¬ S t → w t = xC cy loc σ g b f t
section
variable {S : Nat → Prop} {cy : Nat → ClassId} {loc : Nat → Nat} {σ σ' : xS} {w : xM} {T : Nat} {e : va_E}
theorem xRm_of (h : xR cy loc σ w) (hx : ∀ g b f t, t < 250 → ¬ S t → xC cy loc σ' g b f t = xC cy loc σ g b f t) : xRm S cy loc σ' w := by
  obtain ⟨g, b, f, hw⟩ := h
  exact ⟨g, b, f, fun t ht hS => (hw t ht).trans (hx g b f t ht hS).symm⟩
theorem xRm_put (h : xRm S cy loc σ w) (hT : ∀ g b f, xC cy loc σ g b f T = some e) : xRm (fun t => S t ∧ t ≠ T) cy loc σ (xup w T e) := by
  obtain ⟨g, b, f, hw⟩ := h
  refine ⟨g, b, f, fun t ht hS => ?_⟩
  by_cases q : t = T
  · subst q; rw [xup_at, hT]
  · rw [xup_ne _ _ q]; exact hw t ht (fun z => hS ⟨z, q⟩)
theorem xRm_ov (h : xRm S cy loc σ w) (hT : S T) : xRm S cy loc σ (xup w T e) := by
  obtain ⟨g, b, f, hw⟩ := h
  refine ⟨g, b, f, fun t ht hS => ?_⟩
  rw [xup_ne _ _ (fun q => hS (by rw [q]; exact hT))]; exact hw t ht hS
theorem xRm_fin (h : xRm S cy loc σ w) (hS : ∀ t, ¬ S t) : xR cy loc σ w := by
  obtain ⟨g, b, f, hw⟩ := h
  exact ⟨g, b, f, fun t ht => hw t ht (hS t)⟩
theorem x_lf {u : (Nat → Nat) × xM} {p : Int32 × xS} {r : Int32} (h : p = (r, σ')) (h2 : xOK cy loc w σ' u) : r = p.1 ∧ xOK cy loc w p.2 u := by subst h; exact ⟨rfl, h2⟩
end
theorem x_alls {P : Nat → Prop} {i : Nat} (h : ∀ k, k < i → P k) (h2 : P i) : ∀ k, k < i + 1 → P k := fun k hk => by
  by_cases e : k = i
  · rw [e]; exact h2
  · exact h k (by omega)
/-! height, shim, day, clear, flaw -/
def sp_height (σ : xS) (i v : Int32) : Int32 × xS := if ¬ (nI 0 ≤ i ∧ i ≤ nI 8) then (-101, σ) else if ¬ v = -1 ∧ ¬ (nI 0 ≤ v ∧ v ≤ nI 400) then (-102, σ) else (σ.1 0 i.toNatClampNeg, xa1 σ 0 (upd (σ.1 0) i.toNatClampNeg v))
def sp_shim (σ : xS) (t i v : Int32) : Int32 × xS := if ¬ (nI 0 ≤ t ∧ t < nI (σ.2 1)) ∨ ¬ (nI 0 ≤ i ∧ i ≤ nI 8) then (-101, σ) else if ¬ (nI 0 ≤ v ∧ v ≤ nI 20) then (-102, σ) else (σ.1 4 (9 * t.toNatClampNeg + i.toNatClampNeg), xa1 σ 4 (upd (σ.1 4) (9 * t.toNatClampNeg + i.toNatClampNeg) v))
abbrev xtd (σ : xS) (d : Int32) : Prop := ∀ k, k < σ.2 5 → ¬ σ.1 5 k = d
def sp_day (σ : xS) (d : Int32) : Int32 × xS := if ¬ (nI 0 ≤ d ∧ d ≤ nI 10000) then (-102, σ) else if ¬ xtd σ d then (-103, σ) else if ¬ σ.2 5 < 6 then (-104, σ) else (nI (σ.2 5 + 1), xa2 (xa1 σ 5 (upd (σ.1 5) (σ.2 5) d)) 5 (σ.2 5 + 1))
def sp_clear (σ : xS) : Int32 × xS := (nI (σ.2 5), xa2 σ 5 0)
def sp_flaw (σ : xS) (h x y : Int32) : Int32 × xS := if ¬ (nI 0 ≤ h ∧ h < nI (σ.2 2)) ∨ ¬ ((nI 0 ≤ x ∧ x ≤ nI 15) ∧ nI 0 ≤ y ∧ y ≤ nI 11) then (-101, σ) else if σ.1 6 (192 * h.toNatClampNeg + (16 * y.toNatClampNeg + x.toNatClampNeg)) = nI 2 then (-103, σ) else (if σ.1 6 (192 * h.toNatClampNeg + (16 * y.toNatClampNeg + x.toNatClampNeg)) = nI 1 then nI 1 else nI 0, xa1 σ 6 (upd (σ.1 6) (192 * h.toNatClampNeg + (16 * y.toNatClampNeg + x.toNatClampNeg)) (nI 1)))
section
variable {cy : Nat → ClassId} {loc : Nat → Nat} {σ : xS} {w : xM}
theorem xOK_height (hR : xR cy loc σ w) (i : Nat) (v : Int32) : xOK cy loc w (xa1 σ 0 (upd (σ.1 0) i v)) (loc, xup w 1 (eI cy 9 (upd (σ.1 0) i v))) := by
  exact ⟨xRm_fin (xRm_put (xRm_of (S := fun t => t = 1) hR (fun g9 b9 f9 t h9 hS => xC_ext h9 (fun _ => rfl) (fun e => absurd e hS) (fun _ => rfl) (fun _ => rfl) (fun _ => rfl) (fun _ => rfl) (fun _ => rfl) (fun _ => rfl) (fun _ _ _ => rfl) (fun _ _ _ => rfl) (fun _ _ _ => rfl) (fun _ _ _ => rfl) (fun _ _ _ => rfl) (fun _ _ _ => rfl) (fun _ _ _ => rfl) (fun _ _ _ => rfl) (fun _ _ _ => rfl) (fun _ _ _ => rfl) (fun _ _ _ => rfl))) (fun _ _ _ => rfl)) (by intro t h; omega), fun t h9 => ⟨by show (xup w 1 (eI cy 9 (upd (σ.1 0) i v)) : xM) t = w t; rw [xup_ne _ _ (by omega)], rfl⟩, rfl⟩
theorem xa1_at {σ : xS} {k : Nat} {f : Nat → Int32} : (xa1 σ k f).1 k = f := if_pos rfl
theorem xOK_shim (hR : xR cy loc σ w) (kt i : Nat) (v : Int32) (hk : kt < σ.2 1) (h8 : kt < 8) (hi : i < 9) : xOK cy loc w (xa1 σ 4 (upd (σ.1 4) (9 * kt + i) v)) (loc, xup w (170 + kt) (eI cy 9 (upd (xsl 9 (σ.1 4) (9 * kt)) i v))) := by
  exact ⟨xRm_fin (xRm_put (xRm_of (S := fun t => t = 170 + kt) hR (fun g9 b9 f9 t h9 hS => xC_ext h9 (fun _ => rfl) (fun _ => rfl) (fun _ => rfl) (fun _ => rfl) (fun _ => rfl) (fun _ => rfl) (fun _ => rfl) (fun _ => rfl) (fun _ _ _ => rfl) (fun _ _ _ => rfl) (fun _ _ _ => rfl) (fun _ _ _ => rfl) (fun _ _ _ => rfl) (fun _ _ _ => rfl) (fun k e _ => by show xe _ (eI cy 9 (xsl 9 _ _)) = xe _ (eI cy 9 (xsl 9 _ _)); rw [xa1_at, xsl_ne (by omega)]; rfl) (fun _ _ _ => rfl) (fun _ _ _ => rfl) (fun _ _ _ => rfl) (fun _ _ _ => rfl))) (fun _ _ _ => (xC_170 (show kt < (xa1 σ 4 (upd (σ.1 4) (9 * kt + i) v)).2 1 from hk) h8).trans (congrArg (fun z => some (eI cy 9 z)) (by rw [xa1_at, xsl_upd hi])))) (by intro t h; omega), fun t h9 => ⟨by show (xup w (170 + kt) (eI cy 9 (upd (xsl 9 (σ.1 4) (9 * kt)) i v)) : xM) t = w t; rw [xup_ne _ _ (by omega)], rfl⟩, rfl⟩
theorem xOK_day (hR : xR cy loc σ w) (d : Int32) : xOK cy loc w (xa2 (xa1 σ 5 (upd (σ.1 5) (σ.2 5) d)) 5 (σ.2 5 + 1)) (loc, xup (xup w 7 (eI cy 6 (upd (σ.1 5) (σ.2 5) d))) 0 (.inr (7, [.ref (loc 1), .ref (loc 2), .ref (loc 3), .ref (loc 4), .ref (loc 5), .ref (loc 6), .ref (loc 7), .int (nI (σ.2 0)), .int (nI (σ.2 1)), .int (nI (σ.2 2)), .int (nI (σ.2 3)), .int (nI (σ.2 4)), .int (nI (σ.2 5 + 1)), .int (nI (σ.2 6)), .int (σ.1 10 1), .int (σ.1 10 0), .ref (loc 8), .ref (loc 11)]))) := by
  exact ⟨xRm_fin (xRm_put (xRm_put (xRm_of (S := fun t => t = 7 ∨ t = 0) hR (fun g9 b9 f9 t h9 hS => xC_ext h9 (fun e => absurd (Or.inr e) hS) (fun _ => rfl) (fun _ => rfl) (fun _ => rfl) (fun _ => rfl) (fun _ => rfl) (fun _ => rfl) (fun e => absurd (Or.inl e) hS) (fun _ _ _ => xE2_c rfl (if_neg (by omega))) (fun _ _ _ => xE3_c rfl (if_neg (by omega))) (fun _ _ _ => xE4_c rfl (if_neg (by omega)) rfl) (fun _ _ _ => xE10_c rfl (if_neg (by omega)) rfl) (fun _ _ _ => rfl) (fun _ _ _ => rfl) (fun _ _ _ => rfl) (fun _ _ _ => rfl) (fun _ _ _ => rfl) (fun _ _ _ => rfl) (fun _ _ _ => rfl))) (fun _ _ _ => rfl)) (fun _ _ _ => rfl)) (by intro t h; omega), fun t h9 => ⟨by show (xup (xup w 7 (eI cy 6 (upd (σ.1 5) (σ.2 5) d))) 0 (.inr (7, [.ref (loc 1), .ref (loc 2), .ref (loc 3), .ref (loc 4), .ref (loc 5), .ref (loc 6), .ref (loc 7), .int (nI (σ.2 0)), .int (nI (σ.2 1)), .int (nI (σ.2 2)), .int (nI (σ.2 3)), .int (nI (σ.2 4)), .int (nI (σ.2 5 + 1)), .int (nI (σ.2 6)), .int (σ.1 10 1), .int (σ.1 10 0), .ref (loc 8), .ref (loc 11)])) : xM) t = w t; rw [xup_ne _ _ (by omega), xup_ne _ _ (by omega)], rfl⟩, rfl⟩
theorem xOK_clear (hR : xR cy loc σ w)  : xOK cy loc w (xa2 σ 5 0) (loc, xup w 0 (.inr (7, [.ref (loc 1), .ref (loc 2), .ref (loc 3), .ref (loc 4), .ref (loc 5), .ref (loc 6), .ref (loc 7), .int (nI (σ.2 0)), .int (nI (σ.2 1)), .int (nI (σ.2 2)), .int (nI (σ.2 3)), .int (nI (σ.2 4)), .int (nI (0)), .int (nI (σ.2 6)), .int (σ.1 10 1), .int (σ.1 10 0), .ref (loc 8), .ref (loc 11)]))) := by
  exact ⟨xRm_fin (xRm_put (xRm_of (S := fun t => t = 0) hR (fun g9 b9 f9 t h9 hS => xC_ext h9 (fun e => absurd e hS) (fun _ => rfl) (fun _ => rfl) (fun _ => rfl) (fun _ => rfl) (fun _ => rfl) (fun _ => rfl) (fun _ => rfl) (fun _ _ _ => xE2_c rfl (if_neg (by omega))) (fun _ _ _ => xE3_c rfl (if_neg (by omega))) (fun _ _ _ => xE4_c rfl (if_neg (by omega)) rfl) (fun _ _ _ => xE10_c rfl (if_neg (by omega)) rfl) (fun _ _ _ => rfl) (fun _ _ _ => rfl) (fun _ _ _ => rfl) (fun _ _ _ => rfl) (fun _ _ _ => rfl) (fun _ _ _ => rfl) (fun _ _ _ => rfl))) (fun _ _ _ => rfl)) (by intro t h; omega), fun t h9 => ⟨by show (xup w 0 (.inr (7, [.ref (loc 1), .ref (loc 2), .ref (loc 3), .ref (loc 4), .ref (loc 5), .ref (loc 6), .ref (loc 7), .int (nI (σ.2 0)), .int (nI (σ.2 1)), .int (nI (σ.2 2)), .int (nI (σ.2 3)), .int (nI (σ.2 4)), .int (nI (0)), .int (nI (σ.2 6)), .int (σ.1 10 1), .int (σ.1 10 0), .ref (loc 8), .ref (loc 11)])) : xM) t = w t; rw [xup_ne _ _ (by omega)], rfl⟩, rfl⟩
theorem xOK_flaw (hR : xR cy loc σ w) (kh i : Nat) (v : Int32) (hk : kh < σ.2 2) (h4 : kh < 4) (hi : i < 192) : xOK cy loc w (xa1 σ 6 (upd (σ.1 6) (192 * kh + i) v)) (loc, xup w (190 + kh) (eI cy 192 (upd (xsl 192 (σ.1 6) (192 * kh)) i v))) := by
  exact ⟨xRm_fin (xRm_put (xRm_of (S := fun t => t = 190 + kh) hR (fun g9 b9 f9 t h9 hS => xC_ext h9 (fun _ => rfl) (fun _ => rfl) (fun _ => rfl) (fun _ => rfl) (fun _ => rfl) (fun _ => rfl) (fun _ => rfl) (fun _ => rfl) (fun _ _ _ => rfl) (fun _ _ _ => rfl) (fun _ _ _ => rfl) (fun _ _ _ => rfl) (fun _ _ _ => rfl) (fun _ _ _ => rfl) (fun _ _ _ => rfl) (fun _ _ _ => rfl) (fun k e _ => by show xe _ (eI cy 192 (xsl 192 _ _)) = xe _ (eI cy 192 (xsl 192 _ _)); rw [xa1_at, xsl_ne (by omega)]; rfl) (fun _ _ _ => rfl) (fun _ _ _ => rfl))) (fun _ _ _ => (xC_190 (show kh < (xa1 σ 6 (upd (σ.1 6) (192 * kh + i) v)).2 2 from hk) h4).trans (congrArg (fun z => some (eI cy 192 z)) (by rw [xa1_at, xsl_upd hi])))) (by intro t h; omega), fun t h9 => ⟨by show (xup w (190 + kh) (eI cy 192 (upd (xsl 192 (σ.1 6) (192 * kh)) i v)) : xM) t = w t; rw [xup_ne _ _ (by omega)], rfl⟩, rfl⟩
end
