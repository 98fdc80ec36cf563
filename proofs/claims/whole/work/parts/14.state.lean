/-! what a state of the house is: rows of numbers (0 hand, 1 days of measures, 2 heights, 3 trees' heights, 4 shims, 5 days told, 6 patches, 7 hours, 8 free hours, 9 saddles, 10 the latest bench and all hours), and counts (0 horses, 1 trees, 2 hides, 3 benches, 4 saddles, 5 days, 6 patches cut, 10 + k the measures of horse k) -/
abbrev xS : Type := (Nat → Nat → Int32) × (Nat → Nat)
/-- n numbers of f, from a on; 0 behind -/
def xsl (n : Nat) (f : Nat → Int32) (a : Nat) : Nat → Int32 := fun i => if i < n then f (a + i) else 0
theorem xsl_at {n : Nat} {f : Nat → Int32} {a i : Nat} (h : i < n) : xsl n f a i = f (a + i) := if_pos h
theorem xsl_upd {n : Nat} {f : Nat → Int32} {a i : Nat} {x : Int32} (h : i < n) : upd (xsl n f a) i x = xsl n (upd f (a + i) x) a := by
  funext j
  simp only [upd, xsl]
  by_cases e : j = i
  · subst e
    rw [if_pos rfl, if_pos h, if_pos rfl]
  · rw [if_neg e]
    by_cases q : j < n
    · rw [if_pos q, if_pos q, if_neg (by omega)]
    · rw [if_neg q, if_neg q]
theorem xsl_ne {n : Nat} {f : Nat → Int32} {a k : Nat} {x : Int32} (h : k < a ∨ a + n ≤ k) : xsl n (upd f k x) a = xsl n f a := by
  funext j
  simp only [upd, xsl]
  by_cases q : j < n
  · rw [if_pos q, if_pos q, if_neg (by omega)]
  · rw [if_neg q, if_neg q]
abbrev xq (ad : Nat → Nat) (n : Nat) : Nat → Option Nat := fun k => if k < n then some (ad k) else none
theorem xq_up (ad : Nat → Nat) (n : Nat) : va_up (xq ad n) n (some (ad n)) = xq ad (n + 1) := by
  funext k
  simp only [va_up, xq]
  by_cases e : k = n
  · subst e
    rw [if_pos rfl, if_pos (by omega)]
  · rw [if_neg e]
    by_cases q : k < n
    · rw [if_pos q, if_pos (by omega)]
    · rw [if_neg q, if_neg (by omega)]
theorem xq_0 (ad : Nat → Nat) : xq ad 0 = fun _ => none := by funext k; exact if_neg (Nat.not_lt_zero k)
theorem xq_at {ad : Nat → Nat} {n k : Nat} (h : k < n) : xq ad n k = some (ad k) := if_pos h
/-- the house's own cells -/
def xC0 (cy : Nat → ClassId) (loc : Nat → Nat) (σ : xS) (g b f : Nat → Int32) (t : Nat) : Option va_E :=
  match t with
  | 0 => some (.inr (7, [.ref (loc 1), .ref (loc 2), .ref (loc 3), .ref (loc 4), .ref (loc 5), .ref (loc 6), .ref (loc 7), .int (nI (σ.2 0)), .int (nI (σ.2 1)), .int (nI (σ.2 2)), .int (nI (σ.2 3)), .int (nI (σ.2 4)), .int (nI (σ.2 5)), .int (nI (σ.2 6)), .int (σ.1 10 1), .int (σ.1 10 0), .ref (loc 8), .ref (loc 11)]))
  | 1 => some (eI cy 9 (σ.1 0))
  | 2 => some (eQ cy 3 8 (xq (fun k => loc (20 + k)) (σ.2 0)))
  | 3 => some (eQ cy 6 8 (xq (fun k => loc (150 + k)) (σ.2 1)))
  | 4 => some (eQ cy 2 4 (xq (fun k => loc (180 + k)) (σ.2 2)))
  | 5 => some (eQ cy 1 3 (xq (fun k => loc (200 + k)) (σ.2 3)))
  | 6 => some (eQ cy 5 12 (xq (fun k => loc (210 + k)) (σ.2 4)))
  | 7 => some (eI cy 6 (σ.1 5))
  | 8 => some (.inr (5, [.ref (loc 9), .ref (loc 10)]))
  | 9 => some (eI cy 9 g)
  | 10 => some (eI cy 9 b)
  | 11 => some (eI cy 48 f)
  | _ => none
/-- an entry, if there is such a thing -/
abbrev xe (c : Prop) [Decidable c] (e : va_E) : Option va_E := if c then some e else none
/-- the house's cells by their tags -/
def xC (cy : Nat → ClassId) (loc : Nat → Nat) (σ : xS) (g b f : Nat → Int32) (t : Nat) : Option va_E :=
  if t < 20 then xC0 cy loc σ g b f t
  else if t < 30 then xe (t - 20 < σ.2 0) (.inr (2, [.ref (loc (30 + (t - 20))), .int (nI (σ.2 (10 + (t - 20))))]))
  else if t < 40 then xe (t - 30 < σ.2 0) (eQ cy 4 6 (xq (fun j => loc (40 + 6 * (t - 30) + j)) (σ.2 (10 + (t - 30)))))
  else if t < 100 then xe ((t - 40) / 6 < σ.2 0 ∧ (t - 40) % 6 < σ.2 (10 + (t - 40) / 6)) (.inr (3, [.int (σ.1 1 (t - 40)), .ref (loc (100 + (t - 40)))]))
  else if t < 150 then xe ((t - 100) / 6 < σ.2 0 ∧ (t - 100) % 6 < σ.2 (10 + (t - 100) / 6)) (eI cy 9 (xsl 9 (σ.1 2) (9 * (t - 100))))
  else if t < 160 then xe (t - 150 < σ.2 1) (.inr (6, [.ref (loc (160 + (t - 150))), .ref (loc (170 + (t - 150)))]))
  else if t < 170 then xe (t - 160 < σ.2 1) (eI cy 9 (xsl 9 (σ.1 3) (9 * (t - 160))))
  else if t < 180 then xe (t - 170 < σ.2 1) (eI cy 9 (xsl 9 (σ.1 4) (9 * (t - 170))))
  else if t < 190 then xe (t - 180 < σ.2 2) (.inr (1, [.ref (loc (190 + (t - 180)))]))
  else if t < 200 then xe (t - 190 < σ.2 2) (eI cy 192 (xsl 192 (σ.1 6) (192 * (t - 190))))
  else if t < 210 then xe (t - 200 < σ.2 3) (.inr (0, [.int (σ.1 7 (t - 200)), .int (σ.1 8 (t - 200))]))
  else xe (t - 210 < σ.2 4) (.inr (4, [.int (σ.1 9 (5 * (t - 210))), .int (σ.1 9 (5 * (t - 210) + 1)), .int (σ.1 9 (5 * (t - 210) + 2)), .int (σ.1 9 (5 * (t - 210) + 3)), .int (σ.1 9 (5 * (t - 210) + 4))]))
/-- what holds of every state that comes about -/
def xN8 (σ : xS) : Prop := σ.2 0 ≤ 8 ∧ σ.2 1 ≤ 8 ∧ σ.2 2 ≤ 4 ∧ σ.2 3 ≤ 3 ∧ σ.2 4 ≤ 12 ∧ σ.2 5 ≤ 6 ∧ ∀ k, σ.2 (10 + k) ≤ 6
def xR (cy : Nat → ClassId) (loc : Nat → Nat) (σ : xS) (w : xM) : Prop := ∃ g b f : Nat → Int32, ∀ t, t < 250 → w t = xC cy loc σ g b f t
/-- the house's part of the world is σ', the rest is as it was -/
def xOK (cy : Nat → ClassId) (loc : Nat → Nat) (w : xM) (σ : xS) (u : (Nat → Nat) × xM) : Prop := xR cy u.1 σ u.2 ∧ (∀ t, 250 ≤ t → u.2 t = w t ∧ u.1 t = loc t) ∧ u.1 0 = loc 0
section XC
variable {cy : Nat → ClassId} {loc : Nat → Nat} {σ : xS} {g b f : Nat → Int32} {k j : Nat}
theorem xC_20 (h : k < σ.2 0) (hk : k < 8) : xC cy loc σ g b f (20 + k) = some (.inr (2, [.ref (loc (30 + k)), .int (nI (σ.2 (10 + k)))])) := by
  rw [xC, if_neg (by omega), if_pos (by omega), xe, show 20 + k - 20 = k by omega, if_pos h]
theorem xC_30 (h : k < σ.2 0) (hk : k < 8) : xC cy loc σ g b f (30 + k) = some (eQ cy 4 6 (xq (fun j => loc (40 + 6 * k + j)) (σ.2 (10 + k)))) := by
  rw [xC, if_neg (by omega), if_neg (by omega), if_pos (by omega), xe, show 30 + k - 30 = k by omega, if_pos h]
theorem xC_40 (h : k < σ.2 0) (hk : k < 8) (hj : j < σ.2 (10 + k)) (hj6 : j < 6) : xC cy loc σ g b f (40 + 6 * k + j) = some (.inr (3, [.int (σ.1 1 (6 * k + j)), .ref (loc (100 + 6 * k + j))])) := by
  rw [xC, if_neg (by omega), if_neg (by omega), if_neg (by omega), if_pos (by omega), xe, show 40 + 6 * k + j - 40 = 6 * k + j by omega, show (6 * k + j) / 6 = k by omega, show (6 * k + j) % 6 = j by omega, if_pos ⟨h, hj⟩, show 100 + (6 * k + j) = 100 + 6 * k + j by omega]
theorem xC_100 (h : k < σ.2 0) (hk : k < 8) (hj : j < σ.2 (10 + k)) (hj6 : j < 6) : xC cy loc σ g b f (100 + 6 * k + j) = some (eI cy 9 (xsl 9 (σ.1 2) (9 * (6 * k + j)))) := by
  rw [xC, if_neg (by omega), if_neg (by omega), if_neg (by omega), if_neg (by omega), if_pos (by omega), xe, show 100 + 6 * k + j - 100 = 6 * k + j by omega, show (6 * k + j) / 6 = k by omega, show (6 * k + j) % 6 = j by omega, if_pos ⟨h, hj⟩]
theorem xC_150 (h : k < σ.2 1) (hk : k < 8) : xC cy loc σ g b f (150 + k) = some (.inr (6, [.ref (loc (160 + k)), .ref (loc (170 + k))])) := by
  rw [xC, if_neg (by omega), if_neg (by omega), if_neg (by omega), if_neg (by omega), if_neg (by omega), if_pos (by omega), xe, show 150 + k - 150 = k by omega, if_pos h]
theorem xC_160 (h : k < σ.2 1) (hk : k < 8) : xC cy loc σ g b f (160 + k) = some (eI cy 9 (xsl 9 (σ.1 3) (9 * k))) := by
  rw [xC, if_neg (by omega), if_neg (by omega), if_neg (by omega), if_neg (by omega), if_neg (by omega), if_neg (by omega), if_pos (by omega), xe, show 160 + k - 160 = k by omega, if_pos h]
theorem xC_170 (h : k < σ.2 1) (hk : k < 8) : xC cy loc σ g b f (170 + k) = some (eI cy 9 (xsl 9 (σ.1 4) (9 * k))) := by
  rw [xC, if_neg (by omega), if_neg (by omega), if_neg (by omega), if_neg (by omega), if_neg (by omega), if_neg (by omega), if_neg (by omega), if_pos (by omega), xe, show 170 + k - 170 = k by omega, if_pos h]
theorem xC_180 (h : k < σ.2 2) (hk : k < 4) : xC cy loc σ g b f (180 + k) = some (.inr (1, [.ref (loc (190 + k))])) := by
  rw [xC, if_neg (by omega), if_neg (by omega), if_neg (by omega), if_neg (by omega), if_neg (by omega), if_neg (by omega), if_neg (by omega), if_neg (by omega), if_pos (by omega), xe, show 180 + k - 180 = k by omega, if_pos h]
theorem xC_190 (h : k < σ.2 2) (hk : k < 4) : xC cy loc σ g b f (190 + k) = some (eI cy 192 (xsl 192 (σ.1 6) (192 * k))) := by
  rw [xC, if_neg (by omega), if_neg (by omega), if_neg (by omega), if_neg (by omega), if_neg (by omega), if_neg (by omega), if_neg (by omega), if_neg (by omega), if_neg (by omega), if_pos (by omega), xe, show 190 + k - 190 = k by omega, if_pos h]
theorem xC_200 (h : k < σ.2 3) (hk : k < 3) : xC cy loc σ g b f (200 + k) = some (.inr (0, [.int (σ.1 7 k), .int (σ.1 8 k)])) := by
  rw [xC, if_neg (by omega), if_neg (by omega), if_neg (by omega), if_neg (by omega), if_neg (by omega), if_neg (by omega), if_neg (by omega), if_neg (by omega), if_neg (by omega), if_neg (by omega), if_pos (by omega), xe, show 200 + k - 200 = k by omega, if_pos h]
theorem xC_210 (h : k < σ.2 4) (hk : k < 12) : xC cy loc σ g b f (210 + k) = some (.inr (4, [.int (σ.1 9 (5 * k)), .int (σ.1 9 (5 * k + 1)), .int (σ.1 9 (5 * k + 2)), .int (σ.1 9 (5 * k + 3)), .int (σ.1 9 (5 * k + 4))])) := by
  rw [xC, if_neg (by omega), if_neg (by omega), if_neg (by omega), if_neg (by omega), if_neg (by omega), if_neg (by omega), if_neg (by omega), if_neg (by omega), if_neg (by omega), if_neg (by omega), if_neg (by omega), xe, show 210 + k - 210 = k by omega, if_pos h]
theorem xC_lo {t : Nat} (h : t < 20) : xC cy loc σ g b f t = xC0 cy loc σ g b f t := by rw [xC, if_pos h]
end XC
/-- refusals and ranges -/
theorem x_rng {x : Int32} {a : Nat} (ha : a < 2 ^ 31) (h : nI 0 ≤ x ∧ x ≤ nI a) : ∃ j : Nat, j ≤ a ∧ x = nI j := by
  obtain ⟨j, hj, e⟩ := nI_of (x := x) (Int32.not_lt.mpr h.1)
  exact ⟨j, by rw [e] at h; exact (nI_leI hj ha).mp h.2, e⟩
theorem x_rng1 {x : Int32} {b a : Nat} (hb : b ≤ a) (ha : a < 2 ^ 31) (h : nI b ≤ x ∧ x ≤ nI a) : ∃ j : Nat, b ≤ j ∧ j ≤ a ∧ x = nI j := by
  obtain ⟨j, hj, e⟩ := x_rng ha ⟨Int32.le_trans (nI_le (Nat.zero_le b) (by omega)) h.1, h.2⟩
  exact ⟨j, by rw [e] at h; exact (nI_leI (by omega) (by omega)).mp h.1, hj, e⟩
/-- the address of thing n of cnt, if there is one -/
def xat (ad : Nat → Nat) (cnt : Nat) (n : Int32) : Option Nat := if nI 0 ≤ n ∧ n < nI cnt then some (ad n.toNatClampNeg) else none
theorem x_ix {n : Int32} {cnt : Nat} (hc : cnt < 2 ^ 31) (h1 : ¬ n < 0) (h2 : n < nI cnt) : ∃ j : Nat, j < cnt ∧ n = nI j := by
  obtain ⟨j, hj, e⟩ := nI_of h1
  exact ⟨j, by rw [e] at h2; exact (nI_ltI hj hc).mp h2, e⟩
theorem xat_hit {ad : Nat → Nat} {cnt j : Nat} (hc : cnt < 2 ^ 31) (hj : j < cnt) : xat ad cnt (nI j) = some (ad j) := by
  rw [xat, if_pos ⟨nI_le (Nat.zero_le j) (by omega), nI_lt hj hc⟩, nI_clamp (by omega)]
theorem xat_lo {ad : Nat → Nat} {cnt : Nat} {n : Int32} (h : n < 0) : none = xat ad cnt n := by
  rw [xat, if_neg (fun q => absurd h (Int32.not_lt.mpr q.1))]
theorem xat_hi {ad : Nat → Nat} {cnt : Nat} {n : Int32} (h : ¬ n < nI cnt) : none = xat ad cnt n := by
  rw [xat, if_neg (fun q => h q.2)]
theorem xat_or (ad : Nat → Nat) {cnt : Nat} (n : Int32) (hc : cnt < 2 ^ 31) : (∃ j, j < cnt ∧ n = nI j ∧ (nI 0 ≤ n ∧ n < nI cnt) ∧ xat ad cnt n = some (ad j)) ∨ (¬ (nI 0 ≤ n ∧ n < nI cnt) ∧ xat ad cnt n = none) := by
  by_cases h : nI 0 ≤ n ∧ n < nI cnt
  · obtain ⟨j, hj, e⟩ := x_ix hc (Int32.not_lt.mpr h.1) h.2
    exact Or.inl ⟨j, hj, e, h, by rw [e]; exact xat_hit hc hj⟩
  · exact Or.inr ⟨h, by rw [xat, if_neg h]⟩
/-- the latest of n measures that is not behind a day, and one; 0: none -/
def xbk (dy : Nat → Int32) (d : Int32) : Nat → Nat
  | 0 => 0
  | n + 1 => if dy n ≤ d then n + 1 else xbk dy d n
theorem xbk_le (dy : Nat → Int32) (d : Int32) : ∀ n, xbk dy d n ≤ n
  | 0 => Nat.le_refl 0
  | n + 1 => by
    have := xbk_le dy d n
    rw [xbk]
    split <;> omega
theorem xlo_or (ad : Nat → Nat) (dy : Nat → Int32) (d : Int32) : ∀ n, (∃ j, j < n ∧ xbk dy d n = j + 1 ∧ xlo ad dy d n = some (ad j)) ∨ (xbk dy d n = 0 ∧ xlo ad dy d n = none)
  | 0 => Or.inr ⟨rfl, rfl⟩
  | n + 1 => by
    rw [xbk, xlo]
    by_cases h : dy n ≤ d
    · rw [if_pos h, if_pos h]
      exact Or.inl ⟨n, by omega, rfl, rfl⟩
    · rw [if_neg h, if_neg h]
      rcases xlo_or ad dy d n with ⟨j, a, b, c⟩ | h2
      · exact Or.inl ⟨j, by omega, b, c⟩
      · exact Or.inr h2
theorem xb_nar (P : Prop) {iP : Decidable P} : narrow .boolean (.int (@xb P iP)) = .int (@xb P iP) := by
  by_cases h : P
  · rw [xb_t h]; rfl
  · rw [xb_f h]; rfl
/-! what each call answers -/
/-- the back of horse k on a day: the number of the measure, and one; 0: none -/
def xbd (σ : xS) (k : Nat) (d : Int32) : Nat := xbk (fun j => σ.1 1 (6 * k + j)) d (σ.2 (10 + k))
def sp_back (σ : xS) (ho d i : Int32) : Int32 := if ¬ (nI 0 ≤ ho ∧ ho < nI (σ.2 0)) ∨ ¬ (nI 0 ≤ i ∧ i ≤ nI 8) then -101 else if ¬ (nI 0 ≤ d ∧ d ≤ nI 10000) then -102 else if xbd σ ho.toNatClampNeg d = 0 then -103 else σ.1 2 (9 * (6 * ho.toNatClampNeg + (xbd σ ho.toNatClampNeg d - 1)) + i.toNatClampNeg)
def sp_under (σ : xS) (t i : Int32) : Int32 := if ¬ (nI 0 ≤ t ∧ t < nI (σ.2 1)) ∨ ¬ (nI 0 ≤ i ∧ i ≤ nI 8) then -101 else σ.1 3 (9 * t.toNatClampNeg + i.toNatClampNeg) - σ.1 4 (9 * t.toNatClampNeg + i.toNatClampNeg)
def sp_patch (σ : xS) (h x y : Int32) : Int32 := if ¬ (nI 0 ≤ h ∧ h < nI (σ.2 2)) ∨ ¬ ((nI 0 ≤ x ∧ x ≤ nI 15) ∧ nI 0 ≤ y ∧ y ≤ nI 11) then -101 else σ.1 6 (192 * h.toNatClampNeg + (16 * y.toNatClampNeg + x.toNatClampNeg))
def sp_count (σ : xS) (n : Int32) : Int32 := if n = nI 0 then nI (σ.2 0) else if n = nI 1 then nI (σ.2 1) else if n = nI 2 then nI (σ.2 2) else if n = nI 3 then nI (σ.2 3) else if n = nI 4 then nI (σ.2 4) else if n = nI 5 then nI (σ.2 5) else if n = nI 6 then nI (σ.2 6) else if n = nI 7 then σ.1 10 1 else -102
theorem x_c8 (n : Int32) : n = nI 0 ∨ n = nI 1 ∨ n = nI 2 ∨ n = nI 3 ∨ n = nI 4 ∨ n = nI 5 ∨ n = nI 6 ∨ n = nI 7 ∨ ¬ (nI 0 ≤ n ∧ n ≤ nI 7) := by
  by_cases h : nI 0 ≤ n ∧ n ≤ nI 7
  · obtain ⟨j, hj, e⟩ := x_rng (by decide) h
    have : j = 0 ∨ j = 1 ∨ j = 2 ∨ j = 3 ∨ j = 4 ∨ j = 5 ∨ j = 6 ∨ j = 7 := by omega
    subst e
    rcases this with e | e | e | e | e | e | e | e <;> subst e
    · exact Or.inl rfl
    · exact Or.inr (Or.inl rfl)
    · exact Or.inr (Or.inr (Or.inl rfl))
    · exact Or.inr (Or.inr (Or.inr (Or.inl rfl)))
    · exact Or.inr (Or.inr (Or.inr (Or.inr (Or.inl rfl))))
    · exact Or.inr (Or.inr (Or.inr (Or.inr (Or.inr (Or.inl rfl)))))
    · exact Or.inr (Or.inr (Or.inr (Or.inr (Or.inr (Or.inr (Or.inl rfl))))))
    · exact Or.inr (Or.inr (Or.inr (Or.inr (Or.inr (Or.inr (Or.inr (Or.inl rfl)))))))
  · exact Or.inr (Or.inr (Or.inr (Or.inr (Or.inr (Or.inr (Or.inr (Or.inr h)))))))
theorem x_out {n : Int32} {a : Nat} (h : ¬ (nI 0 ≤ n ∧ n ≤ nI a)) (ha : a < 2 ^ 31) : n.toInt < 0 ∨ (a : Int) < n.toInt := by
  rcases Int.lt_or_le n.toInt 0 with q | q
  · exact Or.inl q
  · refine Or.inr (Int.not_le.mp (fun z => h ⟨?_, ?_⟩))
    · rw [Int32.le_iff_toInt_le]; exact q
    · rw [Int32.le_iff_toInt_le, nI_toInt ha]; exact z
theorem x_c8n {n : Int32} (h : ¬ (nI 0 ≤ n ∧ n ≤ nI 7)) {k : Nat} (hk : k ≤ 7) : ¬ n = nI k := fun e => h (by rw [e]; exact ⟨nI_le (Nat.zero_le k) (by omega), nI_le hk (by decide)⟩)
