/-! good states -/
theorem y2c_cong {f g : Nat → Int32} : ∀ n, (∀ i, i < n → (f i = nI 2 ↔ g i = nI 2)) → y2c f n = y2c g n
  | 0, _ => rfl
  | n + 1, h => by
    rw [y2c, y2c, y2c_cong n (fun i hi => h i (by omega))]
    by_cases q : f n = nI 2
    · rw [if_pos q, if_pos ((h n (by omega)).mp q)]
    · rw [if_neg q, if_neg (fun z => q ((h n (by omega)).mpr z))]
theorem y2c_upd {f : Nat → Int32} {k : Nat} (h0 : ¬ f k = nI 2) : ∀ n, k < n → y2c (upd f k (nI 2)) n = y2c f n + 1
  | 0, h => absurd h (Nat.not_lt_zero k)
  | n + 1, h => by
    rw [y2c, y2c]
    by_cases e : k = n
    · subst e
      rw [show upd f k (nI 2) k = nI 2 from if_pos rfl, if_pos rfl, if_neg h0, y2c_cong (g := f) k (fun i hi => by rw [show upd f k (nI 2) i = f i from if_neg (by omega)])]
    · rw [show upd f k (nI 2) n = f n from if_neg (by omega), y2c_upd h0 n (by omega)]
      omega
theorem y2c_0 : ∀ n, y2c (fun _ => 0) n = 0
  | 0 => rfl
  | n + 1 => by rw [y2c, y2c_0 n, if_neg (by decide)]
/-- a piece's patches -/
theorem ypx_inj {kh q wd a b : Nat} (h16 : wd ≤ 16) (hw : 1 ≤ wd) (h : 192 * kh + q + 16 * (a / wd) + a % wd = 192 * kh + q + 16 * (b / wd) + b % wd) : a = b := by
  have a2 : a % wd < wd := Nat.mod_lt a hw
  have b2 : b % wd < wd := Nat.mod_lt b hw
  have e1 : a / wd = b / wd := by omega
  have e2 : a % wd = b % wd := by omega
  have a3 := Nat.div_add_mod a wd
  have b3 := Nat.div_add_mod b wd
  rw [e1, e2] at a3
  exact a3.symm.trans b3
theorem ypx_fill {f : Nat → Int32} {kh q wd N : Nat} (h16 : wd ≤ 16) (hw : 1 ≤ wd) : ∀ K, (∀ j, j < K → ¬ f (192 * kh + q + 16 * (j / wd) + j % wd) = nI 2 ∧ 192 * kh + q + 16 * (j / wd) + j % wd < N) → ∃ g : Nat → Int32, y2c g N = y2c f N + K ∧ (∀ i, i < K → g (192 * kh + q + 16 * (i / wd) + i % wd) = nI 2) ∧ ∀ i, (∀ j, j < K → i ≠ 192 * kh + q + 16 * (j / wd) + j % wd) → g i = f i
  | 0, _ => ⟨f, rfl, fun i h => absurd h (Nat.not_lt_zero i), fun _ _ => rfl⟩
  | K + 1, h => by
    obtain ⟨g, h1, h2, h3⟩ := ypx_fill h16 hw K (fun j hj => h j (by omega))
    refine ⟨upd g (192 * kh + q + 16 * (K / wd) + K % wd) (nI 2), ?_, yfi_1 (X := fun j => 192 * kh + q + 16 * (j / wd) + j % wd) h2, yfi_2 (X := fun j => 192 * kh + q + 16 * (j / wd) + j % wd) h3⟩
    rw [y2c_upd ?_ N (h K (Nat.lt_succ_self K)).2, h1]
    · omega
    · rw [h3 _ (fun j hj e => by have := ypx_inj h16 hw e; omega)]
      exact (h K (Nat.lt_succ_self K)).1
theorem xmh_cnt {f : Nat → Int32} {kh qy qx wd ht : Nat} (hw : 1 ≤ wd) (hk : kh < 4) (hy : qy + ht ≤ 12) (hx : qx + wd ≤ 16) (hf : xfit (xsl 192 f (192 * kh)) wd ht (16 * qy + qx)) : y2c (xmh f kh qy qx wd ht (nI 2)) 768 = y2c f 768 + wd * ht := by
  have hp := yft_n hw hy hx hf
  obtain ⟨g, h1, h2, h3⟩ := ypx_fill (f := f) (kh := kh) (q := 16 * qy + qx) (N := 768) (show wd ≤ 16 by omega) hw (wd * ht) (fun j hj => by
    have a1 : j / wd < ht := Nat.div_lt_of_lt_mul hj
    have a2 : j % wd < wd := Nat.mod_lt j hw
    refine ⟨?_, by omega⟩
    have e := hp j hj
    rw [show 192 * kh + 16 * (qy + j / wd) + qx + j % wd = 192 * kh + (16 * qy + qx) + 16 * (j / wd) + j % wd by omega] at e
    rw [e]; decide)
  rw [← yfi_e hw hy hx rfl h2 h3]
  exact h1
theorem xmh_v (f : Nat → Int32) (kh qy qx wd ht : Nat) (sg : Int32) (i : Nat) : xmh f kh qy qx wd ht sg i = sg ∨ xmh f kh qy qx wd ht sg i = f i := by
  rw [xmh]
  by_cases h : i / 192 = kh
  · rw [if_pos h, xmk]
    split
    · exact Or.inl rfl
    · refine Or.inr ?_
      rw [xsl_at (by omega), show 192 * kh + i % 192 = i by omega]
  · rw [if_neg h]; exact Or.inr rfl
theorem xmh_o {f : Nat → Int32} {kh qy qx wd ht : Nat} {sg : Int32} {i : Nat} (h : ¬ i / 192 = kh) : xmh f kh qy qx wd ht sg i = f i := by rw [xmh, if_neg h]
/-- heights between -/
abbrev yH (x : Int32) : Prop := ∃ v, v ≤ 400 ∧ x = nI v
theorem yH_iff {x : Int32} : yH x ↔ 0 ≤ x.toInt ∧ x.toInt ≤ 400 := by
  constructor
  · rintro ⟨v, hv, e⟩
    rw [e, nI_toInt (by omega)]; omega
  · rintro ⟨h1, h2⟩
    exact ⟨x.toInt.toNat, by omega, x_ofT (by omega) (by omega)⟩
theorem yfd {x : Int32} {D va vb e : Nat} (hD1 : 1 ≤ D) (hD : D ≤ 8) (he : e ≤ D) (ha : va ≤ 400) (hb : vb ≤ 400) (hx : x.toInt = ((vb : Int) - va) * e) : 0 ≤ (va : Int) + (xfloor x (nI D)).toInt ∧ (va : Int) + (xfloor x (nI D)).toInt ≤ 400 := by
  have tD := nI_toInt (show D < 2 ^ 31 by omega)
  have t1 := nI_toInt (show 1 < 2 ^ 31 by decide)
  have z0 : (0 : Int32).toInt = 0 := rfl
  have hX : -3200 ≤ x.toInt ∧ x.toInt ≤ 3200 := by
    rw [hx]
    rcases (show e = 0 ∨ e = 1 ∨ e = 2 ∨ e = 3 ∨ e = 4 ∨ e = 5 ∨ e = 6 ∨ e = 7 ∨ e = 8 by omega) with q | q | q | q | q | q | q | q | q <;> subst q <;> omega
  obtain ⟨t, ht⟩ : ∃ t, t = x.toInt.tdiv D := ⟨_, rfl⟩
  obtain ⟨r, hr⟩ : ∃ r, r = x.toInt.tmod D := ⟨_, rfl⟩
  have key : t * D + r = x.toInt := by rw [ht, hr]; exact Int.tdiv_mul_add_tmod _ _
  have hta : t.natAbs ≤ x.toInt.natAbs := by rw [ht]; exact Int.natAbs_tdiv_le_natAbs _ _
  have r1 : r < D := by rw [hr]; exact Int.tmod_lt_of_pos _ (by omega)
  have r2 : -(D : Int) < r := by rw [hr]; exact Int.lt_tmod_of_pos _ (by omega)
  have r3 : 0 ≤ x.toInt → 0 ≤ r := fun q => by rw [hr]; exact Int.tmod_nonneg _ q
  have r4 : x.toInt ≤ 0 → r ≤ 0 := fun q => by
    have h := Int.tmod_nonneg (a := -x.toInt) D (by omega)
    rw [Int.neg_tmod, ← hr] at h
    omega
  have e1 : (x / nI D).toInt = t := by
    rw [Int32.toInt_div, tD, ← ht]
    exact Int.bmod_eq_of_le (by omega) (by omega)
  have e2 : (x / nI D * nI D).toInt = t * D := by
    rw [Int32.toInt_mul, e1, tD]
    exact Int.bmod_eq_of_le (by omega) (by omega)
  have e3 : (x / nI D - nI 1).toInt = t - 1 := by
    have h := x_subI (x := x / nI D) (y := nI 1) (by omega) (by omega)
    omega
  have hyp : (0 ≤ x.toInt ∨ t * D = x.toInt) ∧ xfloor x (nI D) = x / nI D ∨ (x.toInt < 0 ∧ t * D ≠ x.toInt) ∧ xfloor x (nI D) = x / nI D - nI 1 := by
    by_cases c : x < 0 ∧ ¬ x / nI D * nI D = x
    · refine Or.inr ⟨⟨?_, fun q => c.2 (Int32.toInt_inj.mp (e2.trans q))⟩, by rw [xfloor, if_pos c]⟩
      have := Int32.lt_iff_toInt_lt.mp c.1
      omega
    · refine Or.inl ⟨?_, by rw [xfloor, if_neg c]⟩
      by_cases q : x < 0
      · refine Or.inr ?_
        have e : x / nI D * nI D = x := Decidable.byContradiction (fun z => c ⟨q, z⟩)
        rw [← e2, e]
      · have := Int32.le_iff_toInt_le.mp (Int32.not_lt.mp q)
        exact Or.inl (by omega)
  rcases hyp with ⟨c, ef⟩ | ⟨c, ef⟩
  · rw [ef, e1]
    clear e1 e2 e3 ef hta ht hr tD t1
    rcases (show D = 1 ∨ D = 2 ∨ D = 3 ∨ D = 4 ∨ D = 5 ∨ D = 6 ∨ D = 7 ∨ D = 8 by omega) with p | p | p | p | p | p | p | p <;> subst p <;> rcases (show e = 0 ∨ e = 1 ∨ e = 2 ∨ e = 3 ∨ e = 4 ∨ e = 5 ∨ e = 6 ∨ e = 7 ∨ e = 8 by omega) with q | q | q | q | q | q | q | q | q <;> subst q <;> omega
  · rw [ef, e3]
    clear e1 e2 e3 ef hta ht hr tD t1
    rcases (show D = 1 ∨ D = 2 ∨ D = 3 ∨ D = 4 ∨ D = 5 ∨ D = 6 ∨ D = 7 ∨ D = 8 by omega) with p | p | p | p | p | p | p | p <;> subst p <;> rcases (show e = 0 ∨ e = 1 ∨ e = 2 ∨ e = 3 ∨ e = 4 ∨ e = 5 ∨ e = 6 ∨ e = 7 ∨ e = 8 by omega) with q | q | q | q | q | q | q | q | q <;> subst q <;> omega
theorem xah_ok {f : Nat → Int32} (h0 : ¬ f 0 = -1) : ∀ n, ¬ f (xah f n) = -1
  | 0 => h0
  | n + 1 => by
    rw [xah]
    by_cases e : f (n + 1) = -1
    · rw [if_pos e]; exact xah_ok h0 n
    · rw [if_neg e]; exact e
theorem xnx_ok {f : Nat → Int32} {b : Nat} (hb : ¬ f b = -1) : ∀ n a, a ≤ b → b < a + n → ¬ f (xnx f a n) = -1
  | 0, a, h1, h2 => by omega
  | n + 1, a, h1, h2 => by
    rw [xnx]
    by_cases e : f a = -1
    · rw [if_pos e]
      have : a ≠ b := fun q => hb (q ▸ e)
      exact xnx_ok hb n (a + 1) (by omega) (by omega)
    · rw [if_neg e]; exact e
theorem xhv_H {f : Nat → Int32} (hf : ∀ i, f i = -1 ∨ yH (f i)) (h0 : ¬ f 0 = -1) (h8 : ¬ f 8 = -1) {j : Nat} (hj : j < 9) : yH (xhv f j) := by
  have a1 := xah_le f j
  have a2 := xah_ok h0 j
  have b1 := xnx_st f 8 h8 9 j (by omega) (by omega)
  have b2 := xnx_ok h8 9 j (by omega) (by omega)
  have b3 := xnx_ge f 9 j
  rw [xhv]
  generalize xah f j = a at a1 a2 ⊢
  generalize xnx f j 9 = b at b1 b2 b3 ⊢
  obtain ⟨va, ha, ea⟩ := (hf a).resolve_left a2
  obtain ⟨vb, hb, eb⟩ := (hf b).resolve_left b2
  rw [xhb]
  by_cases q : b ≤ a
  · rw [if_pos q]; exact ⟨va, ha, ea⟩
  · rw [if_neg q, ea, eb]
    have ta := nI_toInt (show va < 2 ^ 31 by omega)
    have tb := nI_toInt (show vb < 2 ^ 31 by omega)
    have te := nI_toInt (show j - a < 2 ^ 31 by omega)
    have e1 : (nI vb - nI va).toInt = (vb : Int) - va := (x_subI (by omega) (by omega)).trans (by omega)
    have hX : -3200 ≤ ((vb : Int) - va) * ((j - a : Nat) : Int) ∧ ((vb : Int) - va) * ((j - a : Nat) : Int) ≤ 3200 := by
      have h9 : j - a ≤ 8 := by omega
      generalize j - a = e at h9 ⊢
      rcases (show e = 0 ∨ e = 1 ∨ e = 2 ∨ e = 3 ∨ e = 4 ∨ e = 5 ∨ e = 6 ∨ e = 7 ∨ e = 8 by omega) with q | q | q | q | q | q | q | q | q <;> subst q <;> omega
    have e2 : ((nI vb - nI va) * nI (j - a)).toInt = ((vb : Int) - va) * ((j - a : Nat) : Int) := by
      rw [Int32.toInt_mul, e1, te]
      exact Int.bmod_eq_of_le (by omega) (by omega)
    have hh := yfd (D := b - a) (by omega) (by omega) (show j - a ≤ b - a by omega) ha hb e2
    rw [yH_iff]
    have e3 : (nI va + xfloor ((nI vb - nI va) * nI (j - a)) (nI (b - a))).toInt = (va : Int) + (xfloor ((nI vb - nI va) * nI (j - a)) (nI (b - a))).toInt := by
      rw [Int32.toInt_add, ta]
      exact Int.bmod_eq_of_le (by omega) (by omega)
    rw [e3]
    exact hh
/-- what holds of every state that comes about -/
def xGd (σ : xS) : Prop := xN8 σ ∧ xBd σ ∧ xSd σ ∧ (∀ k, σ.2 0 ≤ k → σ.2 (10 + k) = 0) ∧ (∀ i, 9 * σ.2 1 ≤ i → σ.1 4 i = 0) ∧ (∀ i, 192 * σ.2 2 ≤ i → σ.1 6 i = 0) ∧ (∀ b, σ.2 3 ≤ b → σ.1 8 b = 0) ∧ (∀ b, b < σ.2 3 → ∃ v, 1 ≤ v ∧ v ≤ 24 ∧ σ.1 7 b = nI v) ∧ (∀ i, σ.1 6 i = nI 0 ∨ σ.1 6 i = nI 1 ∨ σ.1 6 i = nI 2) ∧ σ.2 6 = y2c (σ.1 6) 768 ∧ ∀ i, σ.1 0 i = -1 ∨ yH (σ.1 0 i)
theorem xSd_m {σ σ' : xS} (h : xSd σ) (hM : ∀ k, σ'.2 (10 + k) = σ.2 (10 + k)) (h0 : σ.2 0 ≤ σ'.2 0) (h4 : σ'.2 4 = σ.2 4) (h9 : σ'.1 9 = σ.1 9) (h1 : σ'.1 1 = σ.1 1) : xSd σ' := fun s hs => by
  obtain ⟨k, hk, e, j, hj, hd⟩ := h s (by rw [← h4]; exact hs)
  exact ⟨k, Nat.lt_of_lt_of_le hk h0, by rw [h9]; exact e, j, by rw [hM k]; exact hj, by rw [h1, h9]; exact hd⟩
theorem xbk_ex {dy : Nat → Int32} {d : Int32} : ∀ n, xbk dy d n ≠ 0 → ∃ j, j < n ∧ dy j ≤ d
  | 0, h => absurd rfl h
  | n + 1, h => by
    by_cases q : dy n ≤ d
    · exact ⟨n, Nat.lt_succ_self n, q⟩
    · rw [xbk, if_neg q] at h
      obtain ⟨j, hj, e⟩ := xbk_ex n h
      exact ⟨j, by omega, e⟩
theorem xGd_0 : xGd xS0 := by
  have z : ∀ k i, ¬ k = 0 → ¬ k = 10 → xS0.1 k i = 0 := fun k i h1 h2 => by
    show (if k = 0 then (if i < 9 then nI 100 else 0) else if k = 10 then (if i = 0 then -1 else 0) else 0) = (0 : Int32)
    rw [if_neg h1, if_neg h2]
  have r0 : ∀ i, xS0.1 0 i = if i < 9 then nI 100 else 0 := fun i => rfl
  refine ⟨⟨by decide, by decide, by decide, by decide, by decide, by decide, fun k => Nat.zero_le 6⟩, ⟨fun i => ⟨0, by decide, z 2 i (by decide) (by decide)⟩, fun i => ⟨0, by decide, z 3 i (by decide) (by decide)⟩, fun i => ⟨0, by decide, z 4 i (by decide) (by decide)⟩⟩, fun s hs => absurd hs (Nat.not_lt_zero s), fun _ _ => rfl, fun i _ => z 4 i (by decide) (by decide), fun i _ => z 6 i (by decide) (by decide), fun i _ => z 8 i (by decide) (by decide), fun b hb => absurd hb (Nat.not_lt_zero b), fun i => Or.inl (z 6 i (by decide) (by decide)), ?_, fun i => ?_⟩
  · rw [show xS0.1 6 = fun _ => 0 from funext (fun i => z 6 i (by decide) (by decide)), y2c_0]; rfl
  · refine Or.inr ?_
    rw [r0]
    by_cases h : i < 9
    · rw [if_pos h]; exact ⟨100, by decide, rfl⟩
    · rw [if_neg h]; exact ⟨0, by decide, rfl⟩
theorem yupd {P : Int32 → Prop} {f : Nat → Int32} {i : Nat} {v : Int32} (h : ∀ j, P (f j)) (hv : P v) : ∀ j, P (upd f i v j) := fun j => by
  simp only [upd]
  by_cases e : j = i
  · rw [if_pos e]; exact hv
  · rw [if_neg e]; exact h j
theorem yxfl {P : Int32 → Prop} {f g : Nat → Int32} {a n : Nat} (h : ∀ j, P (f j)) (hv : ∀ j, j < n → P (g j)) : ∀ j, P (xfl f a n g j) := fun j => by
  rw [xfl]
  by_cases e : a ≤ j ∧ j < a + n
  · rw [if_pos e]; exact hv _ (by omega)
  · rw [if_neg e]; exact h j
theorem yflaw {f : Nat → Int32} {i : Nat} (h2 : ¬ f i = nI 2) (j : Nat) : f j = nI 2 ↔ upd f i (nI 1) j = nI 2 := by
  simp only [upd]
  by_cases e : j = i
  · rw [if_pos e, e]; exact ⟨fun q => absurd q h2, fun q => absurd q (by decide)⟩
  · rw [if_neg e]
theorem ybench {f : Nat → Int32} {c : Nat} {n : Int32} (h : ∀ b, b < c → ∃ v, 1 ≤ v ∧ v ≤ 24 ∧ f b = nI v) (hn : ∃ v, 1 ≤ v ∧ v ≤ 24 ∧ n = nI v) : ∀ b, b < c + 1 → ∃ v, 1 ≤ v ∧ v ≤ 24 ∧ upd f c n b = nI v := fun b hb => by
  simp only [upd]
  by_cases e : b = c
  · rw [if_pos e]; exact hn
  · rw [if_neg e]; exact h b (by omega)
theorem ysaddle {σ : xS} {kt k : Nat} {d gu ch : Int32} (h : xSd σ) (hk : k < σ.2 0) (hd : ∃ j, j < σ.2 (10 + k) ∧ σ.1 1 (6 * k + j) ≤ d) : xSd (xsd σ (nI kt) (nI k) d gu ch) := fun s hs => by
  have hM : ∀ k', (xsd σ (nI kt) (nI k) d gu ch).2 (10 + k') = σ.2 (10 + k') := fun k' => if_neg (by omega)
  have h9 : ∀ i, (xsd σ (nI kt) (nI k) d gu ch).1 9 i = upd (upd (upd (upd (upd (σ.1 9) (5 * σ.2 4) (nI kt)) (5 * σ.2 4 + 1) (nI k)) (5 * σ.2 4 + 2) d) (5 * σ.2 4 + 3) gu) (5 * σ.2 4 + 4) ch i := fun i => rfl
  have hs2 : s < σ.2 4 + 1 := hs
  by_cases e : s = σ.2 4
  · subst e
    obtain ⟨j, hj, hd⟩ := hd
    refine ⟨k, hk, ?_, j, by rw [hM]; exact hj, ?_⟩
    · rw [h9]; simp only [upd]; rw [if_neg (by omega), if_neg (by omega), if_neg (by omega), if_pos trivial]
    · rw [h9]; simp only [upd]; rw [if_neg (by omega), if_neg (by omega), if_pos trivial]; exact hd
  · obtain ⟨k', hk', e', j, hj, hd'⟩ := h s (by omega)
    refine ⟨k', hk', ?_, j, by rw [hM]; exact hj, ?_⟩
    · rw [h9]; simp only [upd]; rw [if_neg (by omega), if_neg (by omega), if_neg (by omega), if_neg (by omega), if_neg (by omega)]; exact e'
    · rw [h9]; simp only [upd]; rw [if_neg (by omega), if_neg (by omega), if_neg (by omega), if_neg (by omega), if_neg (by omega)]; exact hd'
section
variable {σ : xS}
theorem xGd_horse (hG : xGd σ) (h : σ.2 0 < 8) : xGd (xa2 σ 0 (σ.2 0 + 1)) := by
  have hM : ∀ k, (xa2 σ 0 (σ.2 0 + 1)).2 (10 + k) = σ.2 (10 + k) := (fun k => if_neg (by omega))
  have b0 : σ.2 0 ≤ (xa2 σ 0 (σ.2 0 + 1)).2 0 ∧ (xa2 σ 0 (σ.2 0 + 1)).2 0 ≤ 8 := ⟨Nat.le_succ _, h⟩
  exact ⟨⟨b0.2, hG.1.2.1, hG.1.2.2.1, hG.1.2.2.2.1, hG.1.2.2.2.2.1, hG.1.2.2.2.2.2.1, fun k => (hM k).symm ▸ hG.1.2.2.2.2.2.2 k⟩, hG.2.1, (xSd_m hG.2.2.1 hM b0.1 rfl rfl rfl), (fun k hk => (hM k).trans (hG.2.2.2.1 k (Nat.le_trans b0.1 hk))), hG.2.2.2.2.1, hG.2.2.2.2.2.1, hG.2.2.2.2.2.2.1, hG.2.2.2.2.2.2.2.1, hG.2.2.2.2.2.2.2.2.1, hG.2.2.2.2.2.2.2.2.2.1, hG.2.2.2.2.2.2.2.2.2.2⟩
theorem xGd_height (hG : xGd σ) (i : Nat) (v : Int32) (hv : v = -1 ∨ yH v) : xGd (xa1 σ 0 (upd (σ.1 0) i v)) := by
  have hM : ∀ k, (xa1 σ 0 (upd (σ.1 0) i v)).2 (10 + k) = σ.2 (10 + k) := (fun _ => rfl)
  have b0 : σ.2 0 ≤ (xa1 σ 0 (upd (σ.1 0) i v)).2 0 ∧ (xa1 σ 0 (upd (σ.1 0) i v)).2 0 ≤ 8 := ⟨Nat.le_refl _, hG.1.1⟩
  exact ⟨⟨b0.2, hG.1.2.1, hG.1.2.2.1, hG.1.2.2.2.1, hG.1.2.2.2.2.1, hG.1.2.2.2.2.2.1, fun k => (hM k).symm ▸ hG.1.2.2.2.2.2.2 k⟩, hG.2.1, (xSd_m hG.2.2.1 hM b0.1 rfl rfl rfl), (fun k hk => (hM k).trans (hG.2.2.2.1 k (Nat.le_trans b0.1 hk))), hG.2.2.2.2.1, hG.2.2.2.2.2.1, hG.2.2.2.2.2.2.1, hG.2.2.2.2.2.2.2.1, hG.2.2.2.2.2.2.2.2.1, hG.2.2.2.2.2.2.2.2.2.1, (fun j => yupd (P := fun x => x = -1 ∨ yH x) hG.2.2.2.2.2.2.2.2.2.2 hv j)⟩
theorem xGd_tree (hG : xGd σ) (hg : xgl σ) (h : σ.2 1 < 8) : xGd (xtr σ) := by
  have hM : ∀ k, (xtr σ).2 (10 + k) = σ.2 (10 + k) := (fun k => if_neg (by omega))
  have b0 : σ.2 0 ≤ (xtr σ).2 0 ∧ (xtr σ).2 0 ≤ 8 := ⟨Nat.le_refl _, hG.1.1⟩
  exact ⟨⟨b0.2, h, hG.1.2.2.1, hG.1.2.2.2.1, hG.1.2.2.2.2.1, hG.1.2.2.2.2.2.1, fun k => (hM k).symm ▸ hG.1.2.2.2.2.2.2 k⟩, ⟨hG.2.1.1, fun i => yxfl (P := yH) hG.2.1.2.1 (fun j hj => (hG.2.2.2.2.2.2.2.2.2.2 j).resolve_left (hg j hj)) i, hG.2.1.2.2⟩, (xSd_m hG.2.2.1 hM b0.1 rfl rfl rfl), (fun k hk => (hM k).trans (hG.2.2.2.1 k (Nat.le_trans b0.1 hk))), (fun i hi => hG.2.2.2.2.1 i (by have h9 : 9 * (σ.2 1 + 1) ≤ i := hi; omega)), hG.2.2.2.2.2.1, hG.2.2.2.2.2.2.1, hG.2.2.2.2.2.2.2.1, hG.2.2.2.2.2.2.2.2.1, hG.2.2.2.2.2.2.2.2.2.1, hG.2.2.2.2.2.2.2.2.2.2⟩
theorem xGd_shim (hG : xGd σ) (kt ii : Nat) (v : Int32) (hk : kt < σ.2 1) (hi : ii < 9) (hv : ∃ z, z ≤ 20 ∧ v = nI z) : xGd (xa1 σ 4 (upd (σ.1 4) (9 * kt + ii) v)) := by
  have hM : ∀ k, (xa1 σ 4 (upd (σ.1 4) (9 * kt + ii) v)).2 (10 + k) = σ.2 (10 + k) := (fun _ => rfl)
  have b0 : σ.2 0 ≤ (xa1 σ 4 (upd (σ.1 4) (9 * kt + ii) v)).2 0 ∧ (xa1 σ 4 (upd (σ.1 4) (9 * kt + ii) v)).2 0 ≤ 8 := ⟨Nat.le_refl _, hG.1.1⟩
  exact ⟨⟨b0.2, hG.1.2.1, hG.1.2.2.1, hG.1.2.2.2.1, hG.1.2.2.2.2.1, hG.1.2.2.2.2.2.1, fun k => (hM k).symm ▸ hG.1.2.2.2.2.2.2 k⟩, ⟨hG.2.1.1, hG.2.1.2.1, fun i => yupd (P := fun x => ∃ z, z ≤ 20 ∧ x = nI z) hG.2.1.2.2 hv i⟩, (xSd_m hG.2.2.1 hM b0.1 rfl rfl rfl), (fun k hk => (hM k).trans (hG.2.2.2.1 k (Nat.le_trans b0.1 hk))), (fun i hq => (if_neg (by have h9 : 9 * σ.2 1 ≤ i := hq; omega)).trans (hG.2.2.2.2.1 i hq)), hG.2.2.2.2.2.1, hG.2.2.2.2.2.2.1, hG.2.2.2.2.2.2.2.1, hG.2.2.2.2.2.2.2.2.1, hG.2.2.2.2.2.2.2.2.2.1, hG.2.2.2.2.2.2.2.2.2.2⟩
theorem xGd_day (hG : xGd σ) (d : Int32) (h : σ.2 5 < 6) : xGd (xa2 (xa1 σ 5 (upd (σ.1 5) (σ.2 5) d)) 5 (σ.2 5 + 1)) := by
  have hM : ∀ k, (xa2 (xa1 σ 5 (upd (σ.1 5) (σ.2 5) d)) 5 (σ.2 5 + 1)).2 (10 + k) = σ.2 (10 + k) := (fun k => if_neg (by omega))
  have b0 : σ.2 0 ≤ (xa2 (xa1 σ 5 (upd (σ.1 5) (σ.2 5) d)) 5 (σ.2 5 + 1)).2 0 ∧ (xa2 (xa1 σ 5 (upd (σ.1 5) (σ.2 5) d)) 5 (σ.2 5 + 1)).2 0 ≤ 8 := ⟨Nat.le_refl _, hG.1.1⟩
  exact ⟨⟨b0.2, hG.1.2.1, hG.1.2.2.1, hG.1.2.2.2.1, hG.1.2.2.2.2.1, h, fun k => (hM k).symm ▸ hG.1.2.2.2.2.2.2 k⟩, hG.2.1, (xSd_m hG.2.2.1 hM b0.1 rfl rfl rfl), (fun k hk => (hM k).trans (hG.2.2.2.1 k (Nat.le_trans b0.1 hk))), hG.2.2.2.2.1, hG.2.2.2.2.2.1, hG.2.2.2.2.2.2.1, hG.2.2.2.2.2.2.2.1, hG.2.2.2.2.2.2.2.2.1, hG.2.2.2.2.2.2.2.2.2.1, hG.2.2.2.2.2.2.2.2.2.2⟩
theorem xGd_clear (hG : xGd σ)  : xGd (xa2 σ 5 0) := by
  have hM : ∀ k, (xa2 σ 5 0).2 (10 + k) = σ.2 (10 + k) := (fun k => if_neg (by omega))
  have b0 : σ.2 0 ≤ (xa2 σ 5 0).2 0 ∧ (xa2 σ 5 0).2 0 ≤ 8 := ⟨Nat.le_refl _, hG.1.1⟩
  exact ⟨⟨b0.2, hG.1.2.1, hG.1.2.2.1, hG.1.2.2.2.1, hG.1.2.2.2.2.1, Nat.zero_le _, fun k => (hM k).symm ▸ hG.1.2.2.2.2.2.2 k⟩, hG.2.1, (xSd_m hG.2.2.1 hM b0.1 rfl rfl rfl), (fun k hk => (hM k).trans (hG.2.2.2.1 k (Nat.le_trans b0.1 hk))), hG.2.2.2.2.1, hG.2.2.2.2.2.1, hG.2.2.2.2.2.2.1, hG.2.2.2.2.2.2.2.1, hG.2.2.2.2.2.2.2.2.1, hG.2.2.2.2.2.2.2.2.2.1, hG.2.2.2.2.2.2.2.2.2.2⟩
theorem xGd_hide (hG : xGd σ) (h : σ.2 2 < 4) : xGd (xa2 σ 2 (σ.2 2 + 1)) := by
  have hM : ∀ k, (xa2 σ 2 (σ.2 2 + 1)).2 (10 + k) = σ.2 (10 + k) := (fun k => if_neg (by omega))
  have b0 : σ.2 0 ≤ (xa2 σ 2 (σ.2 2 + 1)).2 0 ∧ (xa2 σ 2 (σ.2 2 + 1)).2 0 ≤ 8 := ⟨Nat.le_refl _, hG.1.1⟩
  exact ⟨⟨b0.2, hG.1.2.1, h, hG.1.2.2.2.1, hG.1.2.2.2.2.1, hG.1.2.2.2.2.2.1, fun k => (hM k).symm ▸ hG.1.2.2.2.2.2.2 k⟩, hG.2.1, (xSd_m hG.2.2.1 hM b0.1 rfl rfl rfl), (fun k hk => (hM k).trans (hG.2.2.2.1 k (Nat.le_trans b0.1 hk))), hG.2.2.2.2.1, (fun i hi => hG.2.2.2.2.2.1 i (by have h9 : 192 * (σ.2 2 + 1) ≤ i := hi; omega)), hG.2.2.2.2.2.2.1, hG.2.2.2.2.2.2.2.1, hG.2.2.2.2.2.2.2.2.1, hG.2.2.2.2.2.2.2.2.2.1, hG.2.2.2.2.2.2.2.2.2.2⟩
theorem xGd_flaw (hG : xGd σ) (i : Nat) (hi : i < 192 * σ.2 2) (h2 : ¬ σ.1 6 i = nI 2) : xGd (xa1 σ 6 (upd (σ.1 6) i (nI 1))) := by
  have hM : ∀ k, (xa1 σ 6 (upd (σ.1 6) i (nI 1))).2 (10 + k) = σ.2 (10 + k) := (fun _ => rfl)
  have b0 : σ.2 0 ≤ (xa1 σ 6 (upd (σ.1 6) i (nI 1))).2 0 ∧ (xa1 σ 6 (upd (σ.1 6) i (nI 1))).2 0 ≤ 8 := ⟨Nat.le_refl _, hG.1.1⟩
  exact ⟨⟨b0.2, hG.1.2.1, hG.1.2.2.1, hG.1.2.2.2.1, hG.1.2.2.2.2.1, hG.1.2.2.2.2.2.1, fun k => (hM k).symm ▸ hG.1.2.2.2.2.2.2 k⟩, hG.2.1, (xSd_m hG.2.2.1 hM b0.1 rfl rfl rfl), (fun k hk => (hM k).trans (hG.2.2.2.1 k (Nat.le_trans b0.1 hk))), hG.2.2.2.2.1, (fun j hq => (if_neg (by have h9 : 192 * σ.2 2 ≤ j := hq; omega)).trans (hG.2.2.2.2.2.1 j hq)), hG.2.2.2.2.2.2.1, hG.2.2.2.2.2.2.2.1, (fun j => yupd (P := fun x => x = nI 0 ∨ x = nI 1 ∨ x = nI 2) hG.2.2.2.2.2.2.2.2.1 (Or.inr (Or.inl rfl)) j), (hG.2.2.2.2.2.2.2.2.2.1.trans (y2c_cong 768 (fun j _ => yflaw h2 j))), hG.2.2.2.2.2.2.2.2.2.2⟩
theorem xGd_cut (hG : xGd σ) (P : Nat → Int32) (n : Nat) (h1 : ∀ i, 192 * σ.2 2 ≤ i → P i = 0) (h2 : ∀ i, P i = nI 0 ∨ P i = nI 1 ∨ P i = nI 2) (h3 : n = y2c P 768) : xGd (xa2 (xa1 σ 6 P) 6 n) := by
  have hM : ∀ k, (xa2 (xa1 σ 6 P) 6 n).2 (10 + k) = σ.2 (10 + k) := (fun k => if_neg (by omega))
  have b0 : σ.2 0 ≤ (xa2 (xa1 σ 6 P) 6 n).2 0 ∧ (xa2 (xa1 σ 6 P) 6 n).2 0 ≤ 8 := ⟨Nat.le_refl _, hG.1.1⟩
  exact ⟨⟨b0.2, hG.1.2.1, hG.1.2.2.1, hG.1.2.2.2.1, hG.1.2.2.2.2.1, hG.1.2.2.2.2.2.1, fun k => (hM k).symm ▸ hG.1.2.2.2.2.2.2 k⟩, hG.2.1, (xSd_m hG.2.2.1 hM b0.1 rfl rfl rfl), (fun k hk => (hM k).trans (hG.2.2.2.1 k (Nat.le_trans b0.1 hk))), hG.2.2.2.2.1, h1, hG.2.2.2.2.2.2.1, hG.2.2.2.2.2.2.2.1, h2, h3, hG.2.2.2.2.2.2.2.2.2.2⟩
theorem xGd_bench (hG : xGd σ) (n : Int32) (h : σ.2 3 < 3) (hn : ∃ v, 1 ≤ v ∧ v ≤ 24 ∧ n = nI v) : xGd (xa2 (xa1 σ 7 (upd (σ.1 7) (σ.2 3) n)) 3 (σ.2 3 + 1)) := by
  have hM : ∀ k, (xa2 (xa1 σ 7 (upd (σ.1 7) (σ.2 3) n)) 3 (σ.2 3 + 1)).2 (10 + k) = σ.2 (10 + k) := (fun k => if_neg (by omega))
  have b0 : σ.2 0 ≤ (xa2 (xa1 σ 7 (upd (σ.1 7) (σ.2 3) n)) 3 (σ.2 3 + 1)).2 0 ∧ (xa2 (xa1 σ 7 (upd (σ.1 7) (σ.2 3) n)) 3 (σ.2 3 + 1)).2 0 ≤ 8 := ⟨Nat.le_refl _, hG.1.1⟩
  exact ⟨⟨b0.2, hG.1.2.1, hG.1.2.2.1, h, hG.1.2.2.2.2.1, hG.1.2.2.2.2.2.1, fun k => (hM k).symm ▸ hG.1.2.2.2.2.2.2 k⟩, hG.2.1, (xSd_m hG.2.2.1 hM b0.1 rfl rfl rfl), (fun k hk => (hM k).trans (hG.2.2.2.1 k (Nat.le_trans b0.1 hk))), hG.2.2.2.2.1, hG.2.2.2.2.2.1, (fun b hb => hG.2.2.2.2.2.2.1 b (Nat.le_of_succ_le hb)), (fun b hb => ybench hG.2.2.2.2.2.2.2.1 hn b hb), hG.2.2.2.2.2.2.2.2.1, hG.2.2.2.2.2.2.2.2.2.1, hG.2.2.2.2.2.2.2.2.2.2⟩
theorem xGd_work (hG : xGd σ) (n d : Int32) (b : Nat) (hb : b < σ.2 3) : xGd (xwk σ n d b) := by
  have hM : ∀ k, (xwk σ n d b).2 (10 + k) = σ.2 (10 + k) := (fun _ => rfl)
  have b0 : σ.2 0 ≤ (xwk σ n d b).2 0 ∧ (xwk σ n d b).2 0 ≤ 8 := ⟨Nat.le_refl _, hG.1.1⟩
  exact ⟨⟨b0.2, hG.1.2.1, hG.1.2.2.1, hG.1.2.2.2.1, hG.1.2.2.2.2.1, hG.1.2.2.2.2.2.1, fun k => (hM k).symm ▸ hG.1.2.2.2.2.2.2 k⟩, hG.2.1, (xSd_m hG.2.2.1 hM b0.1 rfl rfl rfl), (fun k hk => (hM k).trans (hG.2.2.2.1 k (Nat.le_trans b0.1 hk))), hG.2.2.2.2.1, hG.2.2.2.2.2.1, (fun j hq => (if_neg (by have h9 : σ.2 3 ≤ j := hq; omega)).trans (hG.2.2.2.2.2.2.1 j hq)), hG.2.2.2.2.2.2.2.1, hG.2.2.2.2.2.2.2.2.1, hG.2.2.2.2.2.2.2.2.2.1, hG.2.2.2.2.2.2.2.2.2.2⟩
theorem xGd_saddle (hG : xGd σ) (kt k : Nat) (d gu ch : Int32) (h : σ.2 4 < 12) (hk : k < σ.2 0) (hd : ∃ j, j < σ.2 (10 + k) ∧ σ.1 1 (6 * k + j) ≤ d) : xGd (xsd σ (nI kt) (nI k) d gu ch) := by
  have hM : ∀ k, (xsd σ (nI kt) (nI k) d gu ch).2 (10 + k) = σ.2 (10 + k) := (fun k => if_neg (by omega))
  have b0 : σ.2 0 ≤ (xsd σ (nI kt) (nI k) d gu ch).2 0 ∧ (xsd σ (nI kt) (nI k) d gu ch).2 0 ≤ 8 := ⟨Nat.le_refl _, hG.1.1⟩
  exact ⟨⟨b0.2, hG.1.2.1, hG.1.2.2.1, hG.1.2.2.2.1, h, hG.1.2.2.2.2.2.1, fun k => (hM k).symm ▸ hG.1.2.2.2.2.2.2 k⟩, hG.2.1, (ysaddle hG.2.2.1 hk hd), (fun k hk => (hM k).trans (hG.2.2.2.1 k (Nat.le_trans b0.1 hk))), hG.2.2.2.2.1, hG.2.2.2.2.2.1, hG.2.2.2.2.2.2.1, hG.2.2.2.2.2.2.2.1, hG.2.2.2.2.2.2.2.2.1, hG.2.2.2.2.2.2.2.2.2.1, hG.2.2.2.2.2.2.2.2.2.2⟩
end
/-- behind a measure -/
theorem xGd_measure {σ : xS} (hG : xGd σ) (k : Nat) (d : Int32) (hk : k < σ.2 0) (h6 : σ.2 (10 + k) < 6) (h0 : ¬ σ.1 0 0 = -1) (h8 : ¬ σ.1 0 8 = -1) : xGd (xms σ k d) := by
  have hne : ∀ i, i ≤ 6 → (xms σ k d).2 i = σ.2 i := fun i hi => if_neg (by omega)
  have hm : ∀ k', (xms σ k d).2 (10 + k') = if k' = k then σ.2 (10 + k) + 1 else σ.2 (10 + k') := fun k' => by
    show (if 10 + k' = 10 + k then _ else _) = _
    by_cases e : k' = k
    · rw [if_pos (by omega), if_pos e]
    · rw [if_neg (by omega), if_neg e]; rfl
  have h9 := hG.1.2.2.2.2.2.2
  refine ⟨⟨?_, ?_, ?_, ?_, ?_, ?_, fun k' => ?_⟩, ⟨fun i => yxfl (P := yH) hG.2.1.1 (fun j hj => xhv_H hG.2.2.2.2.2.2.2.2.2.2 h0 h8 hj) i, hG.2.1.2.1, hG.2.1.2.2⟩, fun s hs => ?_, fun k' hk' => ?_, fun i hi => ?_, fun i hi => ?_, fun i hi => ?_, fun i hi => ?_, hG.2.2.2.2.2.2.2.2.1, ?_, hG.2.2.2.2.2.2.2.2.2.2⟩
  · rw [hne 0 (by decide)]; exact hG.1.1
  · rw [hne 1 (by decide)]; exact hG.1.2.1
  · rw [hne 2 (by decide)]; exact hG.1.2.2.1
  · rw [hne 3 (by decide)]; exact hG.1.2.2.2.1
  · rw [hne 4 (by decide)]; exact hG.1.2.2.2.2.1
  · rw [hne 5 (by decide)]; exact hG.1.2.2.2.2.2.1
  · rw [hm k']; split
    · exact h6
    · exact h9 k'
  · obtain ⟨k', hk', e, j, hj, hd⟩ := hG.2.2.1 s (by rw [← hne 4 (by decide)]; exact hs)
    have hj6 := h9 k'
    refine ⟨k', by rw [hne 0 (by decide)]; exact hk', e, j, ?_, ?_⟩
    · rw [hm k']; split
      · next q => rw [q] at hj; omega
      · exact hj
    · show upd (σ.1 1) (6 * k + σ.2 (10 + k)) d (6 * k' + j) ≤ _
      rw [show upd (σ.1 1) (6 * k + σ.2 (10 + k)) d (6 * k' + j) = σ.1 1 (6 * k' + j) from if_neg (fun q => by
        have q1 : k' = k := by omega
        rw [q1] at hj q; omega)]
      exact hd
  · rw [hne 0 (by decide)] at hk'
    rw [hm k', if_neg (by omega)]
    exact hG.2.2.2.1 k' hk'
  · rw [hne 1 (by decide)] at hi; exact hG.2.2.2.2.1 i hi
  · rw [hne 2 (by decide)] at hi; exact hG.2.2.2.2.2.1 i hi
  · rw [hne 3 (by decide)] at hi; exact hG.2.2.2.2.2.2.1 i hi
  · rw [hne 3 (by decide)] at hi; exact hG.2.2.2.2.2.2.2.1 i hi
  · rw [hne 6 (by decide)]; exact hG.2.2.2.2.2.2.2.2.2.1
