/-! the model's fits -/
theorem x_j3 {w : xM} {o g b o' g' b' : va_E} : xup (xup (xup (xup (xup (xup w 307 g) 308 b) 300 o) 307 g') 308 b') 300 o' = xup (xup (xup w 307 g') 308 b') 300 o' := by
  funext z
  by_cases h0 : z = 300
  · subst h0; rw [xup_at, xup_at]
  · rw [xup_ne _ _ h0, xup_ne _ _ h0]
    by_cases h8 : z = 308
    · subst h8; rw [xup_at, xup_at]
    · rw [xup_ne _ _ h8, xup_ne _ _ h8]
      by_cases h7 : z = 307
      · subst h7; rw [xup_at, xup_at]
      · rw [xup_ne _ _ h7, xup_ne _ _ h0, xup_ne _ _ h8, xup_ne _ _ h7, xup_ne _ _ h7]
theorem x_j4 {w : xM} {o g b f o' g' b' : va_E} : xup (xup (xup (xup (xup (xup (xup w 300 o) 307 g) 308 b) 310 f) 307 g') 308 b') 300 o' = xup (xup (xup (xup w 300 o') 307 g') 308 b') 310 f := by
  funext z
  by_cases h0 : z = 300
  · subst h0; rw [xup_at, xup_ne _ _ (show 300 ≠ 310 by decide), xup_ne _ _ (show 300 ≠ 308 by decide), xup_ne _ _ (show 300 ≠ 307 by decide), xup_at]
  · rw [xup_ne _ _ h0]
    by_cases h8 : z = 308
    · subst h8; rw [xup_at, xup_ne _ _ (show 308 ≠ 310 by decide), xup_at]
    · rw [xup_ne _ _ h8]
      by_cases h7 : z = 307
      · subst h7; rw [xup_at, xup_ne _ _ (show 307 ≠ 310 by decide), xup_ne _ _ (show 307 ≠ 308 by decide), xup_at]
      · rw [xup_ne _ _ h7]
        by_cases h10 : z = 310
        · subst h10; rw [xup_at, xup_at]
        · rw [xup_ne _ _ h10, xup_ne _ _ h8, xup_ne _ _ h7, xup_ne _ _ h0, xup_ne _ _ h10, xup_ne _ _ h8, xup_ne _ _ h7, xup_ne _ _ h0]
theorem yOK_s4 {cy : Nat → ClassId} {loc : Nat → Nat} {σ : xS} {w : xM} {g b f : Nat → Int32} {a0 a1 a2 a3 a4 : Int32} (h : yR cy loc σ w) : yOK cy loc w σ (loc, xup (xup (xup (xup w 300 (.inr (8, [.ref (loc 301), .int (nI (σ.2 0)), .ref (loc 302), .ref (loc 303), .ref (loc 304), .int (nI (σ.2 1)), .ref (loc 305), .ref (loc 306), .ref (loc 307), .ref (loc 308), .int (a0), .int (a1), .int (a2), .int (a3), .int (nI (σ.2 5)), .ref (loc 309), .ref (loc 310), .int (a4), .int (nI (σ.2 2)), .ref (loc 311), .int (nI (σ.2 3)), .ref (loc 312), .ref (loc 313), .int (σ.1 10 0), .int (σ.1 10 1), .int (nI (σ.2 4)), .ref (loc 314)]) : va_E)) 307 (eI cy 9 g)) 308 (eI cy 9 b)) 310 (eI cy 48 f)) :=
  ⟨yR_310 (yR_308 (yR_307 (yR_300 h))), fun t ht => ⟨by show xup (xup (xup (xup w 300 _) 307 _) 308 _) 310 _ t = w t; rw [xup_ne _ _ (by omega), xup_ne _ _ (by omega), xup_ne _ _ (by omega), xup_ne _ _ (by omega)], rfl⟩, rfl⟩
theorem xmo_lt {σ : xS} (hB : xBd σ) (t q : Nat) {load : Nat} (hl : load ≤ 2000) : xmo σ t q load < nI 2001 := by
  have ht := xtop_le (xbe σ t q load) 8
  have h := (xbe_nn hB t q hl (xtop (xbe σ t q load) 8) (by omega)).2
  rw [Int32.lt_iff_toInt_lt, nI_toInt (show 2001 < 2 ^ 31 by decide)]
  show (xbe σ t q load (xtop (xbe σ t q load) 8)).toInt < 2001
  omega
def ybs (σ : xS) (q load : Nat) (m : Int32) (n : Nat) (a z : Int32) : Prop := ((a, z) = xbs σ q load m n ∧ ¬ a = -1) ∨ (a = -1 ∧ xbs σ q load m n = (-1, nI 2001))
section
variable {σ : xS} {q load n : Nat} {m a z : Int32}
theorem ybs_0 : ybs σ q load m 0 (-1) (nI 0) := Or.inr ⟨rfl, rfl⟩
theorem ybs_y1 (h : ybs σ q load m n a z) (hf : xfault (xbe σ n q load) m = 0) (ha : a = -1) (hm : xmo σ n q load < nI 2001) (hn : n ≤ 8) : ybs σ q load m (n + 1) (nI n) (xmo σ n q load) := by
  rcases h with ⟨_, h⟩ | ⟨_, h⟩
  · exact absurd ha h
  · exact Or.inl ⟨xbs_y h.symm hf hm, nI_m1 (by omega)⟩
theorem ybs_y2 (h : ybs σ q load m n a z) (hf : xfault (xbe σ n q load) m = 0) (ha : ¬ a = -1) (hm : ¬ z ≤ xmo σ n q load) (hn : n ≤ 8) : ybs σ q load m (n + 1) (nI n) (xmo σ n q load) := by
  rcases h with ⟨h, _⟩ | ⟨h, _⟩
  · exact Or.inl ⟨xbs_y h hf (Int32.not_le.mp hm), nI_m1 (by omega)⟩
  · exact absurd h ha
theorem ybs_n1 (h : ybs σ q load m n a z) (hf : ¬ xfault (xbe σ n q load) m = 0) : ybs σ q load m (n + 1) a z := by
  rcases h with ⟨h, h2⟩ | ⟨h, h2⟩
  · exact Or.inl ⟨xbs_n h (Or.inl hf), h2⟩
  · exact Or.inr ⟨h, (xbs_n h2.symm (Or.inl hf)).symm⟩
theorem ybs_n2 (h : ybs σ q load m n a z) (ha : ¬ a = -1) (hm : z ≤ xmo σ n q load) : ybs σ q load m (n + 1) a z := by
  rcases h with ⟨h, h2⟩ | ⟨h, h2⟩
  · exact Or.inl ⟨xbs_n h (Or.inr (Int32.not_lt.mpr hm)), h2⟩
  · exact absurd h ha
theorem ybs_e (h : ybs σ q load m n a z) : a = (xbs σ q load m n).1 := by
  rcases h with ⟨h, _⟩ | ⟨h, h2⟩
  · rw [← h]
  · rw [h2]; exact h
theorem yfb_n (h : z = xfb σ q load m n) (h1 : ¬ xfault (xbe σ n q load) m = 0) : z ||| nI 0 = xfb σ q load m (n + 1) := (show z ||| nI 0 = z from Int32.or_zero).trans (xfb_n h h1)
end
section
variable {f : Nat → Int32} {i : Nat} {bits z : Int32}
theorem ysv_1 (hz : z = xb (xsv f i bits)) (h0 : ¬ z = 0) (hb : ¬ f i &&& bits = 0) : nI 1 = xb (xsv f (i + 1) bits) := by
  have q : xsv f i bits := Decidable.byContradiction (fun q => h0 (by rw [hz, xb_f q]))
  exact (xb_t (lt_s q hb)).symm
theorem ysv_a (hz : z = xb (xsv f i bits)) (h0 : z = 0) : nI 0 = xb (xsv f (i + 1) bits) := by
  refine (xb_f (fun q => ?_)).symm
  rw [xb_t (fun j hj => q j (by omega)), h0] at hz
  exact absurd hz (by decide)
theorem ysv_b (hb : f i &&& bits = 0) : nI 0 = xb (xsv f (i + 1) bits) := (xb_f (fun q => q i (Nat.lt_succ_self i) hb)).symm
end
def ypn (n : Nat) : Nat → Nat
  | 0 => 0
  | i + 1 => ypn n i + n / 2 ^ i % 2
theorem ypn_8 (n : Nat) : ypn n 8 = xpc n := by
  show 0 + n / 1 % 2 + n / 2 % 2 + n / 4 % 2 + n / 8 % 2 + n / 16 % 2 + n / 32 % 2 + n / 64 % 2 + n / 128 % 2 = _
  rw [xpc]; omega
theorem ypn_le (n : Nat) : ∀ i, ypn n i ≤ i
  | 0 => Nat.le_refl 0
  | i + 1 => by
    have h := ypn_le n i
    have h2 := Nat.mod_lt (n / 2 ^ i) (show 0 < 2 by decide)
    rw [ypn]; omega
set_option maxRecDepth 100000 in
theorem yshr_all : ∀ n, n < 256 → ∀ i, i < 8 → (nI n >>> (nI i &&& 31)) &&& nI 1 = nI (n / 2 ^ i % 2) := by decide +kernel
def yfw (P : Int32 → Prop) [DecidablePred P] (n : Nat) (a : Int32) : Prop := (a = -1 ∧ xfw P n = (-1, 9)) ∨ ∃ f, f < n ∧ a = nI f ∧ xfw P n = (nI f, xpc f)
section
variable {P : Int32 → Prop} {iP : DecidablePred P} {n fo : Nat} {a : Int32}
theorem yfw_0 : yfw P 0 (-1) := Or.inl ⟨rfl, rfl⟩
theorem yfw_n1 (h : yfw P n a) (hP : ¬ P (nI n)) : yfw P (n + 1) a := by
  rcases h with ⟨ha, hw⟩ | ⟨f, hf, ha, hw⟩
  · exact Or.inl ⟨ha, (xfw_n hw.symm (Or.inr hP)).symm⟩
  · exact Or.inr ⟨f, by omega, ha, (xfw_n hw.symm (Or.inr hP)).symm⟩
theorem yfw_y1 (h : yfw P n a) (hn : n ≤ 256) (hP : P (nI n)) (h0 : a = -1) : yfw P (n + 1) (nI n) := by
  rcases h with ⟨ha, hw⟩ | ⟨f, hf, ha, hw⟩
  · exact Or.inr ⟨n, Nat.lt_succ_self n, rfl, (xfw_y hw.symm (by have := xpc_le n; omega) hP).symm⟩
  · exact absurd (ha.symm.trans h0) (nI_m1 (by omega))
theorem yfw_or (h : yfw P n a) (h0 : ¬ a = -1) : ∃ f, f < n ∧ a = nI f ∧ xfw P n = (nI f, xpc f) := by
  rcases h with ⟨ha, _⟩ | h
  · exact absurd ha h0
  · exact h
theorem yfw_y2 (hw : xfw P n = (nI fo, xpc fo)) (hP : P (nI n)) (hc : xpc n < xpc fo) : yfw P (n + 1) (nI n) := Or.inr ⟨n, Nat.lt_succ_self n, rfl, (xfw_y hw.symm hc hP).symm⟩
theorem yfw_n2 (hw : xfw P n = (nI fo, xpc fo)) (hf : fo < n) (hc : xpc fo ≤ xpc n) : yfw P (n + 1) (nI fo) := Or.inr ⟨fo, by omega, rfl, (xfw_n hw.symm (Or.inl (Nat.not_lt.mpr hc))).symm⟩
theorem yfw_e (h : yfw P n a) : a = (xfw P n).1 := by
  rcases h with ⟨ha, hw⟩ | ⟨f, _, ha, hw⟩
  · rw [hw]; exact ha
  · rw [hw]; exact ha
end
