theorem xC_sc {cy : Nat → ClassId} {loc : Nat → Nat} {σ : xS} {g b f g' b' f' : Nat → Int32} {t : Nat} (h9 : t ≠ 9 ∨ g = g') (h10 : t ≠ 10 ∨ b = b') (h11 : t ≠ 11 ∨ f = f') : xC cy loc σ g b f t = xC cy loc σ g' b' f' t := by
  by_cases h : t < 20
  · rw [xC_lo h, xC_lo h]
    rcases (show t = 0 ∨ t = 1 ∨ t = 2 ∨ t = 3 ∨ t = 4 ∨ t = 5 ∨ t = 6 ∨ t = 7 ∨ t = 8 ∨ t = 9 ∨ t = 10 ∨ t = 11 ∨ 12 ≤ t by omega) with e | e | e | e | e | e | e | e | e | e | e | e | e
    all_goals first | (subst e; rfl) | skip
    · subst e; rcases h9 with q | q
      · exact absurd rfl q
      · rw [q]; rfl
    · subst e; rcases h10 with q | q
      · exact absurd rfl q
      · rw [q]; rfl
    · subst e; rcases h11 with q | q
      · exact absurd rfl q
      · rw [q]; rfl
    · rcases (show t = 12 ∨ t = 13 ∨ t = 14 ∨ t = 15 ∨ t = 16 ∨ t = 17 ∨ t = 18 ∨ t = 19 by omega) with e | e | e | e | e | e | e | e <;> subst e <;> rfl
  · rw [xC, xC, if_neg h, if_neg h]
theorem xR_9 {cy : Nat → ClassId} {loc : Nat → Nat} {σ : xS} {w : xM} {g : Nat → Int32} (h : xR cy loc σ w) : xR cy loc σ (xup w 9 (eI cy 9 g)) := by
  obtain ⟨g0, b0, f0, hw⟩ := h
  refine ⟨g, b0, f0, fun t ht => ?_⟩
  by_cases e : t = 9
  · subst e; rw [xup_at]; rfl
  · rw [xup_ne _ _ e, hw t ht]; exact xC_sc (Or.inl e) (Or.inr rfl) (Or.inr rfl)
theorem xR_10 {cy : Nat → ClassId} {loc : Nat → Nat} {σ : xS} {w : xM} {b : Nat → Int32} (h : xR cy loc σ w) : xR cy loc σ (xup w 10 (eI cy 9 b)) := by
  obtain ⟨g0, b0, f0, hw⟩ := h
  refine ⟨g0, b, f0, fun t ht => ?_⟩
  by_cases e : t = 10
  · subst e; rw [xup_at]; rfl
  · rw [xup_ne _ _ e, hw t ht]; exact xC_sc (Or.inr rfl) (Or.inl e) (Or.inr rfl)
theorem xR_11 {cy : Nat → ClassId} {loc : Nat → Nat} {σ : xS} {w : xM} {f : Nat → Int32} (h : xR cy loc σ w) : xR cy loc σ (xup w 11 (eI cy 48 f)) := by
  obtain ⟨g0, b0, f0, hw⟩ := h
  refine ⟨g0, b0, f, fun t ht => ?_⟩
  by_cases e : t = 11
  · subst e; rw [xup_at]; rfl
  · rw [xup_ne _ _ e, hw t ht]; exact xC_sc (Or.inr rfl) (Or.inr rfl) (Or.inl e)
theorem x_three {w : xM} {e e1 e2 e' e1' : va_E} {t t1 t2 : Nat} (h1 : t ≠ t1) (h2 : t ≠ t2) (h3 : t1 ≠ t2) : xup (xup (xup (xup (xup w t e) t1 e1) t2 e2) t e') t1 e1' = xup (xup (xup w t e') t1 e1') t2 e2 := by
  rw [x_norm2 h2 h1, x_norm1 h3]
theorem xOK_sc {cy : Nat → ClassId} {loc : Nat → Nat} {σ : xS} {w : xM} {g b : Nat → Int32} (h : xR cy loc σ w) : xOK cy loc w σ (loc, xup (xup w 9 (eI cy 9 g)) 10 (eI cy 9 b)) :=
  ⟨xR_10 (xR_9 h), fun t ht => ⟨by show xup (xup w 9 _) 10 _ t = w t; rw [xup_ne _ _ (by omega), xup_ne _ _ (by omega)], rfl⟩, rfl⟩
theorem xOK_sc3 {cy : Nat → ClassId} {loc : Nat → Nat} {σ : xS} {w : xM} {g b f : Nat → Int32} (h : xR cy loc σ w) : xOK cy loc w σ (loc, xup (xup (xup w 9 (eI cy 9 g)) 10 (eI cy 9 b)) 11 (eI cy 48 f)) :=
  ⟨xR_11 (xR_10 (xR_9 h)), fun t ht => ⟨by show xup (xup (xup w 9 _) 10 _) 11 _ t = w t; rw [xup_ne _ _ (by omega), xup_ne _ _ (by omega), xup_ne _ _ (by omega)], rfl⟩, rfl⟩
theorem xOK_id {cy : Nat → ClassId} {loc : Nat → Nat} {σ : xS} {w : xM} (h : xR cy loc σ w) : xOK cy loc w σ (loc, w) := ⟨h, fun _ _ => ⟨rfl, rfl⟩, rfl⟩
/-! fits -/
def xmo (σ : xS) (t q load : Nat) : Int32 := xbe σ t q load (xtop (xbe σ t q load) 8)
def sp_bears (σ : xS) (t ho d ld i : Int32) : Int32 := if ¬ (nI 0 ≤ t ∧ t < nI (σ.2 1)) ∨ ¬ (nI 0 ≤ ho ∧ ho < nI (σ.2 0)) ∨ ¬ (nI 0 ≤ i ∧ i ≤ nI 8) then -101 else if ¬ (nI 0 ≤ d ∧ d ≤ nI 10000) ∨ ¬ (nI 1 ≤ ld ∧ ld ≤ nI 2000) then -102 else if xbd σ ho.toNatClampNeg d = 0 then -103 else xbe σ t.toNatClampNeg (6 * ho.toNatClampNeg + (xbd σ ho.toNatClampNeg d - 1)) ld.toNatClampNeg i.toNatClampNeg
/-- the four answers on a seat -/
def xft (b : Nat → Int32) (m : Int32) (n : Nat) : Int32 := if n = 0 then nI (xfault b m) else if n = 1 then xplace b m else if n = 2 then b (xtop b 8) else nI (xcnt b 0 9)
theorem xft_cong {b b' : Nat → Int32} (h : ∀ i, i < 9 → b i = b' i) (m : Int32) (n : Nat) : xft b m n = xft b' m n := by
  rw [xft, xft, xfault_cong h, xplace_cong h, xmost_cong h, xcnt_cong h 9 (by omega)]
def sp_fault (σ : xS) (t ho d ld m n : Int32) : Int32 := if ¬ (nI 0 ≤ t ∧ t < nI (σ.2 1)) ∨ ¬ (nI 0 ≤ ho ∧ ho < nI (σ.2 0)) then -101 else if ¬ (nI 0 ≤ d ∧ d ≤ nI 10000) ∨ ¬ (nI 1 ≤ ld ∧ ld ≤ nI 2000) ∨ ¬ (nI 1 ≤ m ∧ m ≤ nI 2000) ∨ ¬ (nI 0 ≤ n ∧ n ≤ nI 3) then -102 else if xbd σ ho.toNatClampNeg d = 0 then -103 else xft (xbe σ t.toNatClampNeg (6 * ho.toNatClampNeg + (xbd σ ho.toNatClampNeg d - 1)) ld.toNatClampNeg) m n.toNatClampNeg
/-- the best of the first n trees: it, and what its most-bearing station bears -/
def xbs (σ : xS) (q load : Nat) (m : Int32) : Nat → Int32 × Int32
  | 0 => (-1, nI 2001)
  | n + 1 => if xfault (xbe σ n q load) m = 0 ∧ xmo σ n q load < (xbs σ q load m n).2 then (nI n, xmo σ n q load) else xbs σ q load m n
theorem xbs_y {σ : xS} {q load n : Nat} {m a b : Int32} (h : (a, b) = xbs σ q load m n) (h1 : xfault (xbe σ n q load) m = 0) (h2 : xmo σ n q load < b) : (nI n, xmo σ n q load) = xbs σ q load m (n + 1) := by
  rw [xbs, ← h, if_pos ⟨h1, h2⟩]
theorem xbs_n {σ : xS} {q load n : Nat} {m a b : Int32} (h : (a, b) = xbs σ q load m n) (h1 : ¬ xfault (xbe σ n q load) m = 0 ∨ ¬ xmo σ n q load < b) : (a, b) = xbs σ q load m (n + 1) := by
  rw [xbs, ← h, if_neg (fun z => h1.elim (fun y => y z.1) (fun y => y z.2))]
def sp_best (σ : xS) (ho d ld m : Int32) : Int32 := if ¬ (nI 0 ≤ ho ∧ ho < nI (σ.2 0)) then -101 else if ¬ (nI 0 ≤ d ∧ d ≤ nI 10000) ∨ ¬ (nI 1 ≤ ld ∧ ld ≤ nI 2000) ∨ ¬ (nI 1 ≤ m ∧ m ≤ nI 2000) then -102 else if xbd σ ho.toNatClampNeg d = 0 then -103 else (xbs σ (6 * ho.toNatClampNeg + (xbd σ ho.toNatClampNeg d - 1)) ld.toNatClampNeg m (σ.2 1)).1
/-- the trees that fit, as bits -/
def xfb (σ : xS) (q load : Nat) (m : Int32) : Nat → Int32
  | 0 => nI 0
  | n + 1 => if xfault (xbe σ n q load) m = 0 then xfb σ q load m n ||| (nI 1 <<< (nI n &&& 31)) else xfb σ q load m n
theorem xfb_y {σ : xS} {q load n : Nat} {m z : Int32} (h : z = xfb σ q load m n) (h1 : xfault (xbe σ n q load) m = 0) : z ||| (nI 1 <<< (nI n &&& 31)) = xfb σ q load m (n + 1) := by rw [xfb, if_pos h1, h]
theorem xfb_n {σ : xS} {q load n : Nat} {m z : Int32} (h : z = xfb σ q load m n) (h1 : ¬ xfault (xbe σ n q load) m = 0) : z = xfb σ q load m (n + 1) := by rw [xfb, if_neg h1, h]
abbrev xLs : Type := Nat × (Nat → Int32)
def xl1 (σ : xS) (load : Nat) (m : Int32) (k : Nat) : Nat → xLs → xLs
  | 0, s => s
  | d + 1, s => if xbd σ k (σ.1 5 d) = 0 then xl1 σ load m k d s else ((xl1 σ load m k d s).1 + 1, upd (xl1 σ load m k d s).2 (xl1 σ load m k d s).1 (xfb σ (6 * k + (xbd σ k (σ.1 5 d) - 1)) load m (σ.2 1)))
def xl2 (σ : xS) (load : Nat) (m : Int32) : Nat → xLs
  | 0 => (0, fun _ => 0)
  | k + 1 => xl1 σ load m k (σ.2 5) (xl2 σ load m k)
abbrev xAg (c : Nat) (f : Nat → Int32) (s : xLs) : Prop := c = s.1 ∧ ∀ i, i < c → f i = s.2 i
theorem xl1_n {σ : xS} {load k d c : Nat} {m : Int32} {f : Nat → Int32} {s : xLs} (h : xAg c f (xl1 σ load m k d s)) (h0 : xbd σ k (σ.1 5 d) = 0) : xAg c f (xl1 σ load m k (d + 1) s) := by
  rw [xl1, if_pos h0]; exact h
theorem xl1_y {σ : xS} {load k d c j : Nat} {m : Int32} {f : Nat → Int32} {s : xLs} (h : xAg c f (xl1 σ load m k d s)) (h0 : xbd σ k (σ.1 5 d) = j + 1) : xAg (c + 1) (upd f c (xfb σ (6 * k + j) load m (σ.2 1))) (xl1 σ load m k (d + 1) s) := by
  rw [xl1, h0, if_neg (by omega), Nat.add_sub_cancel]
  refine ⟨by rw [← h.1], fun i hi => ?_⟩
  show upd f c _ i = upd _ _ _ i
  rw [← h.1]
  simp only [upd]
  by_cases e : i = c
  · rw [if_pos e, if_pos e]
  · rw [if_neg e, if_neg e]; exact h.2 i (by omega)
abbrev xsv (f : Nat → Int32) (n : Nat) (bits : Int32) : Prop := ∀ i, i < n → ¬ f i &&& bits = 0
theorem xsv_cong {f : Nat → Int32} {c : Nat} {s : xLs} (h : xAg c f s) (bits : Int32) : xsv f c bits ↔ xsv s.2 s.1 bits := by
  obtain ⟨h1, h2⟩ := h
  subst h1
  exact ⟨fun q i hi => by rw [← h2 i hi]; exact q i hi, fun q i hi => by rw [h2 i hi]; exact q i hi⟩
abbrev xsq (σ : xS) (load : Nat) (m : Int32) (bits : Int32) : Prop := xsv (xl2 σ load m (σ.2 0)).2 (xl2 σ load m (σ.2 0)).1 bits
def sp_serves (σ : xS) (bits ld m : Int32) : Int32 := if ¬ (nI 1 ≤ ld ∧ ld ≤ nI 2000) ∨ ¬ (nI 1 ≤ m ∧ m ≤ nI 2000) then -102 else xb (xsq σ ld.toNatClampNeg m bits)
/-- how many of eight bits -/
def xpc (n : Nat) : Nat := n % 2 + n / 2 % 2 + n / 4 % 2 + n / 8 % 2 + n / 16 % 2 + n / 32 % 2 + n / 64 % 2 + n / 128 % 2
def xfw (P : Int32 → Prop) [DecidablePred P] : Nat → Int32 × Nat
  | 0 => (-1, 9)
  | n + 1 => if xpc n < (xfw P n).2 ∧ P (nI n) then (nI n, xpc n) else xfw P n
theorem xfw_y {P : Int32 → Prop} [DecidablePred P] {n b : Nat} {a : Int32} (h : (a, b) = xfw P n) (h1 : xpc n < b) (h2 : P (nI n)) : (nI n, xpc n) = xfw P (n + 1) := by rw [xfw, ← h, if_pos ⟨h1, h2⟩]
theorem xfw_n {P : Int32 → Prop} [DecidablePred P] {n b : Nat} {a : Int32} (h : (a, b) = xfw P n) (h1 : ¬ xpc n < b ∨ ¬ P (nI n)) : (a, b) = xfw P (n + 1) := by rw [xfw, ← h, if_neg (fun z => h1.elim (fun y => y z.1) (fun y => y z.2))]
def sp_fewest (σ : xS) (ld m : Int32) : Int32 := if ¬ (nI 1 ≤ ld ∧ ld ≤ nI 2000) ∨ ¬ (nI 1 ≤ m ∧ m ≤ nI 2000) then -102 else (xfw (xsq σ ld.toNatClampNeg m) (2 ^ σ.2 1)).1
/-! saddles -/
def xab (x : Int32) : Int32 := if 0 ≤ x then x else 0 - x
def xmd (f g : Nat → Int32) : Nat → Int32
  | 0 => nI 0
  | n + 1 => if xmd f g n < xab (f n - g n) then xab (f n - g n) else xmd f g n
theorem xmd_cong {f g f' g' : Nat → Int32} {m : Nat} (h1 : ∀ i, i < m → f i = f' i) (h2 : ∀ i, i < m → g i = g' i) : ∀ n, n ≤ m → xmd f g n = xmd f' g' n
  | 0, _ => rfl
  | n + 1, hn => by rw [xmd, xmd, xmd_cong h1 h2 n (by omega), h1 n (by omega), h2 n (by omega)]
def xch (σ : xS) (k : Nat) (d0 d : Int32) : Int32 := if xbd σ k d0 = 0 ∨ xbd σ k d = 0 then nI 0 else xmd (fun i => σ.1 2 (9 * (6 * k + (xbd σ k d - 1)) + i)) (fun i => σ.1 2 (9 * (6 * k + (xbd σ k d0 - 1)) + i)) 9
/-- what a saddle tells is there: its horse, and a measure not behind its day -/
def xSd (σ : xS) : Prop := ∀ s, s < σ.2 4 → ∃ k, k < σ.2 0 ∧ σ.1 9 (5 * s + 1) = nI k ∧ ∃ j, j < σ.2 (10 + k) ∧ σ.1 1 (6 * k + j) ≤ σ.1 9 (5 * s + 2)
def xsh (σ : xS) (s : Int32) : Nat := (σ.1 9 (5 * s.toNatClampNeg + 1)).toNatClampNeg
def sp_changed (σ : xS) (s d : Int32) : Int32 := if ¬ (nI 0 ≤ s ∧ s < nI (σ.2 4)) then -101 else if ¬ (nI 0 ≤ d ∧ d ≤ nI 10000) ∨ d ≤ σ.1 9 (5 * s.toNatClampNeg + 2) then -102 else xch σ (xsh σ s) (σ.1 9 (5 * s.toNatClampNeg + 2)) d
def sp_free (σ : xS) (s d : Int32) : Int32 := if ¬ (nI 0 ≤ s ∧ s < nI (σ.2 4)) then -101 else if ¬ (nI 0 ≤ d ∧ d ≤ nI 10000) ∨ d ≤ σ.1 9 (5 * s.toNatClampNeg + 2) then -102 else xb (d - σ.1 9 (5 * s.toNatClampNeg + 2) ≤ σ.1 9 (5 * s.toNatClampNeg + 3) ∧ σ.1 9 (5 * s.toNatClampNeg + 4) ≤ xch σ (xsh σ s) (σ.1 9 (5 * s.toNatClampNeg + 2)) d)
/-! digest -/
theorem xmx_cong {f g : Nat → Int32} {m : Nat} (h : ∀ i, i < m → f i = g i) (z : Int64) : ∀ n, n ≤ m → xmx f n z = xmx g n z
  | 0, _ => rfl
  | n + 1, hn => by rw [xmx, xmx, xmx_cong h z n (by omega), h n (by omega)]
def xd1 (σ : xS) : Nat → Int64 → Int64
  | 0, h => h
  | k + 1, h => xhx (fun j => σ.1 1 (6 * k + j)) (fun j i => σ.1 2 (9 * (6 * k + j) + i)) (σ.2 (10 + k)) (31 * xd1 σ k h + (nI (σ.2 (10 + k))).toInt64)
def xd2 (σ : xS) : Nat → Int64 → Int64
  | 0, h => h
  | t + 1, h => xmx (fun i => σ.1 4 (9 * t + i)) 9 (xmx (fun i => σ.1 3 (9 * t + i)) 9 (xd2 σ t h))
def xd3 (σ : xS) : Nat → Int64 → Int64
  | 0, h => h
  | k + 1, h => xmx (fun i => σ.1 6 (192 * k + i)) 192 (xd3 σ k h)
def xd4 (σ : xS) : Nat → Int64 → Int64
  | 0, h => h
  | b + 1, h => 31 * (31 * xd4 σ b h + (σ.1 7 b).toInt64) + (σ.1 8 b).toInt64
def xd5 (σ : xS) : Nat → Int64 → Int64
  | 0, h => h
  | s + 1, h => xmxs (σ.1 9 (5 * s)) (σ.1 9 (5 * s + 1)) (σ.1 9 (5 * s + 2)) (σ.1 9 (5 * s + 3)) (σ.1 9 (5 * s + 4)) (xd5 σ s h)
def sp_digest (σ : xS) : Int64 := xmx (σ.1 5) (σ.2 5) (xd5 σ (σ.2 4) (xd4 σ (σ.2 3) (xd3 σ (σ.2 2) (xd2 σ (σ.2 1) (xd1 σ (σ.2 0) 131)))))
theorem xhx_cong {dy : Nat → Int32} {hs hs' : Nat → Nat → Int32} {m : Nat} (h : ∀ j, j < m → ∀ i, i < 9 → hs j i = hs' j i) (z : Int64) : ∀ n, n ≤ m → xhx dy hs n z = xhx dy hs' n z
  | 0, _ => rfl
  | n + 1, hn => by rw [xhx, xhx, xhx_cong h z n (by omega), xmx_cong (h n (by omega)) _ 9 (Nat.le_refl 9)]
