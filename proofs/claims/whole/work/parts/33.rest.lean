/-! the model's hides -/
abbrev yPf (f : Nat → Int32) (kh wd y x k : Nat) : Prop := ∀ i, i < k → f (192 * kh + 16 * (y + i / wd) + x + i % wd) = 0
theorem yrm_1 {f : Nat → Int32} {kh wd y x k : Nat} {z : Int32} (hz : z = xb (yPf f kh wd y x k)) (h0 : ¬ z = 0) (hv : f (192 * kh + 16 * (y + k / wd) + x + k % wd) = 0) : nI 1 = xb (yPf f kh wd y x (k + 1)) := by
  have q : yPf f kh wd y x k := Decidable.byContradiction (fun q => h0 (by rw [hz, xb_f q]))
  refine (xb_t (fun i hi => ?_)).symm
  by_cases e : i = k
  · rw [e]; exact hv
  · exact q i (by omega)
theorem yrm_0 {f : Nat → Int32} {kh wd y x k : Nat} (hv : ¬ f (192 * kh + 16 * (y + k / wd) + x + k % wd) = 0) : nI 0 = xb (yPf f kh wd y x (k + 1)) := (xb_f (fun q => hv (q k (Nat.lt_succ_self k)))).symm
theorem yrm_t {P : Prop} {iP : Decidable P} {z : Int32} (hz : z = xb P) (h0 : ¬ z = 0) : P := Decidable.byContradiction (fun q => h0 (by rw [hz, xb_f q]))
theorem yrm_f {P : Prop} {iP : Decidable P} {z : Int32} (hz : z = xb P) (h0 : z = 0) : ¬ P := fun q => by
  rw [xb_t q, h0] at hz; exact absurd hz (by decide)
theorem yml {wd ht a b : Nat} (h1 : b < wd) (h2 : a < ht) : wd * a + b < wd * ht := by
  have h3 := Nat.mul_le_mul_left wd (Nat.succ_le_of_lt h2)
  rw [Nat.mul_succ] at h3
  omega
theorem yft_y {f : Nat → Int32} {kh wd ht y x : Nat} (hw : 1 ≤ wd) (hy : y + ht ≤ 12) (hx : x + wd ≤ 16) (h : yPf f kh wd y x (wd * ht)) : xfit (xsl 192 f (192 * kh)) wd ht (16 * y + x) := by
  intro y' hy' x' hx'
  have e := h (wd * y' + x') (yml hx' hy')
  rw [Nat.mul_add_div hw, Nat.div_eq_of_lt hx', Nat.mul_add_mod, Nat.mod_eq_of_lt hx'] at e
  rw [xsl_at (by omega), show 192 * kh + (16 * y + x + 16 * y' + x') = 192 * kh + 16 * (y + (y' + 0)) + x + x' by omega]
  exact e
theorem yft_n {f : Nat → Int32} {kh wd ht y x : Nat} (hw : 1 ≤ wd) (hy : y + ht ≤ 12) (hx : x + wd ≤ 16) (h : xfit (xsl 192 f (192 * kh)) wd ht (16 * y + x)) : yPf f kh wd y x (wd * ht) := by
  intro i hi
  have h1 : i / wd < ht := Nat.div_lt_of_lt_mul hi
  have h2 : i % wd < wd := Nat.mod_lt i hw
  have e := h (i / wd) h1 (i % wd) h2
  rw [xsl_at (by omega)] at e
  rw [show 192 * kh + 16 * (y + i / wd) + x + i % wd = 192 * kh + (16 * y + x + 16 * (i / wd) + i % wd) by omega]
  exact e
theorem yrm_n {f : Nat → Int32} {kh wd ht y x k : Nat} {z : Int32} (hz : z = xb (yPf f kh wd y x k)) (h0 : z = 0) (hk : k ≤ wd * ht) (hw : 1 ≤ wd) (hy : y + ht ≤ 12) (hx : x + wd ≤ 16) : ¬ xfit (xsl 192 f (192 * kh)) wd ht (16 * y + x) := fun q => yrm_f hz h0 (fun i hi => yft_n hw hy hx q i (Nat.lt_of_lt_of_le hi hk))
theorem yfi_1 {fz : Nat → Int32} {X : Nat → Nat} {sg : Int32} {k : Nat} (h : ∀ i, i < k → fz (X i) = sg) : ∀ i, i < k + 1 → upd fz (X k) sg (X i) = sg := fun i hi => by
  simp only [upd]
  by_cases e : X i = X k
  · rw [if_pos e]
  · rw [if_neg e]
    by_cases z : i = k
    · rw [z] at e; exact absurd rfl e
    · exact h i (by omega)
theorem yfi_2 {f fz : Nat → Int32} {X : Nat → Nat} {sg : Int32} {k : Nat} (h : ∀ i, (∀ j, j < k → i ≠ X j) → fz i = f i) : ∀ i, (∀ j, j < k + 1 → i ≠ X j) → upd fz (X k) sg i = f i := fun i q => (if_neg (q k (Nat.lt_succ_self k))).trans (h i (fun j hj => q j (by omega)))
theorem yfi_e {f fz : Nat → Int32} {kh qy qx wd ht k : Nat} {sg : Int32} (hw : 1 ≤ wd) (hy : qy + ht ≤ 12) (hx : qx + wd ≤ 16) (hk : k = wd * ht) (h2 : ∀ i, i < k → fz (192 * kh + (16 * qy + qx) + 16 * (i / wd) + i % wd) = sg) (h3 : ∀ i, (∀ j, j < k → i ≠ 192 * kh + (16 * qy + qx) + 16 * (j / wd) + j % wd) → fz i = f i) : fz = xmh f kh qy qx wd ht sg := by
  subst hk
  funext i
  rw [xmh]
  by_cases hi : i / 192 = kh
  · rw [if_pos hi, xmk]
    by_cases q : qy ≤ i % 192 / 16 ∧ i % 192 / 16 < qy + ht ∧ qx ≤ i % 192 % 16 ∧ i % 192 % 16 < qx + wd
    · rw [if_pos q]
      have p1 : i % 192 % 16 - qx < wd := by omega
      have p2 : i % 192 / 16 - qy < ht := by omega
      have e := h2 _ (yml p1 p2)
      rw [Nat.mul_add_div hw, Nat.div_eq_of_lt p1, Nat.mul_add_mod, Nat.mod_eq_of_lt p1, show 192 * kh + (16 * qy + qx) + 16 * (i % 192 / 16 - qy + 0) + (i % 192 % 16 - qx) = i by omega] at e
      exact e
    · rw [if_neg q, xsl_at (by omega), show 192 * kh + i % 192 = i by omega]
      refine h3 i (fun j hj e => q ?_)
      have a1 : j / wd < ht := Nat.div_lt_of_lt_mul hj
      have a2 : j % wd < wd := Nat.mod_lt j hw
      have a3 : i % 192 = 16 * (qy + j / wd) + (qx + j % wd) := by omega
      rw [a3]
      omega
  · rw [if_neg hi]
    refine h3 i (fun j hj e => hi ?_)
    have a1 : j / wd < ht := Nat.div_lt_of_lt_mul hj
    have a2 : j % wd < wd := Nat.mod_lt j hw
    omega
theorem xmh_undo {f : Nat → Int32} {kh qy qx wd ht : Nat} {a : Int32} (hx : qx + wd ≤ 16) (hy : qy + ht ≤ 12) (h : xfit (xsl 192 f (192 * kh)) wd ht (16 * qy + qx)) : xmh (xmh f kh qy qx wd ht a) kh qy qx wd ht (nI 0) = f := by
  funext i
  rw [xmh]
  by_cases hi : i / 192 = kh
  · rw [if_pos hi, xsl_xmh hy, xmk_undo hx h, xsl_at (by omega), show 192 * kh + i % 192 = i by omega]
  · rw [if_neg hi, xmh, if_neg hi]
theorem yOK_undo {cy : Nat → ClassId} {loc : Nat → Nat} {σ : xS} {w : xM} {f : Nat → Int32} (h : yR cy loc σ w) (h1 : w 311 = some (eI cy 768 (σ.1 6))) (e : f = σ.1 6) : yOK cy loc w σ (loc, xup w 311 (eI cy 768 f)) := by
  rw [e, xup_id h1]; exact yOK_id h
/-! the model's work -/
theorem yfr_y {a b : Int32} (h : a ≤ b) : b = (if a < b then b else a) := by
  by_cases q : a < b
  · rw [if_pos q]
  · rw [if_neg q]; exact Int32.le_antisymm (Int32.not_lt.mp q) h
theorem yfr_n {a b : Int32} (h : ¬ a ≤ b) : a = (if a < b then b else a) := by
  rw [if_neg (fun q => h (Int32.le_of_lt q))]
theorem ypr {h0 f0 n d fr : Int32} (hh : ¬ h0 < nI 1) (hf : fr = (if d * h0 < f0 then f0 else d * h0)) : (fr + n - nI 1) / h0 = xprom h0 f0 n d := by rw [xprom, if_neg hh, xend, ← hf]
theorem yen {h0 f0 n d fr : Int32} (hf : fr = (if d * h0 < f0 then f0 else d * h0)) : fr + n = xend h0 f0 n d := by rw [xend, ← hf]
theorem yhr {x : Int32} (h : ∃ v, 1 ≤ v ∧ v ≤ 24 ∧ x = nI v) : ¬ x < nI 1 ∧ ¬ x = 0 := by
  obtain ⟨v, h1, h2, e⟩ := h
  rw [e]
  exact ⟨fun q => by have := (nI_ltI (by omega) (by decide)).mp q; omega, nI_ne0 h1 (by omega)⟩
theorem y1e5 {x : Int32} : x < nI 100001 ↔ ¬ nI 100000 < x := by
  rw [Int32.lt_iff_toInt_lt, Int32.lt_iff_toInt_lt, nI_toInt (show 100001 < 2 ^ 31 by decide), nI_toInt (show 100000 < 2 ^ 31 by decide)]
  omega
def ywb (σ : xS) (n d : Int32) (m : Nat) (f p e : Int32) : Prop := (f = -1 ∧ xwb σ n d m = (-1, nI 100001)) ∨ ∃ b, b < m ∧ f = nI b ∧ e = xend (σ.1 7 b) (σ.1 8 b) n d ∧ ((xwb σ n d m = (nI b, p) ∧ ¬ nI 100000 < p) ∨ (xwb σ n d m = (-1, nI 100001) ∧ nI 100000 < p))
section
variable {σ : xS} {n d f p e q e' : Int32} {m : Nat}
theorem ywb_0 : ywb σ n d 0 (-1) (nI 0) (nI 0) := Or.inl ⟨rfl, rfl⟩
theorem ywb_t (h : ywb σ n d m f p e) (hm : m ≤ 3) (hq : q = xprom (σ.1 7 m) (σ.1 8 m) n d) (he : e' = xend (σ.1 7 m) (σ.1 8 m) n d) (hc : f = -1 ∨ ¬ p ≤ q) : ywb σ n d (m + 1) (nI m) q e' := by
  refine Or.inr ⟨m, Nat.lt_succ_self m, rfl, he, ?_⟩
  by_cases z : nI 100000 < q
  · refine Or.inr ⟨?_, z⟩
    have hno : ¬ xprom (σ.1 7 m) (σ.1 8 m) n d < nI 100001 := by rw [← hq]; exact fun y => (y1e5.mp y) z
    rcases h with ⟨_, hw⟩ | ⟨b, hb, ef, _, ⟨hw, hp⟩ | ⟨hw, hp⟩⟩
    · exact (xwb_n hw.symm hno).symm
    · rcases hc with hc | hc
      · exact absurd (ef.symm.trans hc) (nI_m1 (by omega))
      · exact absurd (Int32.lt_trans z (Int32.not_le.mp hc)) hp
    · exact (xwb_n hw.symm hno).symm
  · refine Or.inl ⟨?_, z⟩
    have hyes : q < nI 100001 := y1e5.mpr z
    have fin : ∀ {a z : Int32}, xwb σ n d m = (a, z) → q < z → xwb σ n d (m + 1) = (nI m, q) := fun hw hl => by
      rw [hq] at hl ⊢; exact (xwb_y hw.symm hl).symm
    rcases h with ⟨_, hw⟩ | ⟨b, hb, ef, _, ⟨hw, hp⟩ | ⟨hw, hp⟩⟩
    · exact fin hw hyes
    · rcases hc with hc | hc
      · exact absurd (ef.symm.trans hc) (nI_m1 (by omega))
      · exact fin hw (Int32.not_le.mp hc)
    · exact fin hw hyes
theorem ywb_k (h : ywb σ n d m f p e) (hq : q = xprom (σ.1 7 m) (σ.1 8 m) n d) (h1 : ¬ f = -1) (hc : p ≤ q) : ywb σ n d (m + 1) f p e := by
  have hn : ∀ {a z : Int32}, xwb σ n d m = (a, z) → ¬ q < z → xwb σ n d (m + 1) = (a, z) := fun hw hl => by
    rw [hq] at hl; exact (xwb_n hw.symm hl).symm
  rcases h with ⟨hf, _⟩ | ⟨b, hb, ef, ee, ⟨hw, hp⟩ | ⟨hw, hp⟩⟩
  · exact absurd hf h1
  · exact Or.inr ⟨b, by omega, ef, ee, Or.inl ⟨hn hw (Int32.not_lt.mpr hc), hp⟩⟩
  · exact Or.inr ⟨b, by omega, ef, ee, Or.inr ⟨hn hw (fun y => (y1e5.mp y) (Int32.lt_of_lt_of_le hp hc)), hp⟩⟩
theorem ywb_s (h : ywb σ n d m f p e) (hc : f = -1 ∨ nI 100000 < p) (hm : m ≤ 3) : (xwb σ n d m).1 = -1 := by
  rcases h with ⟨_, hw⟩ | ⟨b, hb, ef, _, ⟨hw, hp⟩ | ⟨hw, hp⟩⟩
  · rw [hw]
  · rcases hc with hc | hc
    · exact absurd (ef.symm.trans hc) (nI_m1 (by omega))
    · exact absurd hc hp
  · rw [hw]
theorem ywb_e (h : ywb σ n d m f p e) (h1 : ¬ f = -1) (hc : ¬ nI 100000 < p) : ∃ b, b < m ∧ f = nI b ∧ e = xend (σ.1 7 b) (σ.1 8 b) n d ∧ xwb σ n d m = (nI b, p) := by
  rcases h with ⟨hf, _⟩ | ⟨b, hb, ef, ee, ⟨hw, hp⟩ | ⟨hw, hp⟩⟩
  · exact absurd hf h1
  · exact ⟨b, hb, ef, ee, hw⟩
  · exact absurd hp hc
end
/-! the model's saddles -/
theorem xbk_pos {dy : Nat → Int32} {d : Int32} {j : Nat} (h : dy j ≤ d) : ∀ n, j < n → xbk dy d n ≠ 0
  | 0, hj => absurd hj (Nat.not_lt_zero j)
  | n + 1, hj => by
    rw [xbk]
    by_cases q : dy n ≤ d
    · rw [if_pos q]; exact Nat.succ_ne_zero n
    · rw [if_neg q]
      refine xbk_pos h n ?_
      rcases Nat.lt_or_ge j n with z | z
      · exact z
      · rw [show j = n by omega] at h; exact absurd h q
theorem xbd_pos {σ : xS} {k j : Nat} {d : Int32} (hj : j < σ.2 (10 + k)) (h : σ.1 1 (6 * k + j) ≤ d) : xbd σ k d ≠ 0 := xbk_pos (dy := fun j => σ.1 1 (6 * k + j)) h _ hj
theorem yab_y {x : Int32} (h : 0 ≤ x) : x = xab x := by rw [xab, if_pos h]
theorem yab_n {x : Int32} (h : ¬ 0 ≤ x) : -x = xab x := by rw [xab, if_neg h, Int32.zero_sub]
theorem ymd_y {f g : Nat → Int32} {i : Nat} {z v : Int32} (h : z = xmd f g i) (hv : v = xab (f i - g i)) (h1 : ¬ v ≤ z) : v = xmd f g (i + 1) := by rw [xmd, ← h, ← hv, if_pos (Int32.not_le.mp h1)]
theorem ymd_n {f g : Nat → Int32} {i : Nat} {z v : Int32} (h : z = xmd f g i) (hv : v = xab (f i - g i)) (h1 : v ≤ z) : z = xmd f g (i + 1) := by rw [xmd, ← h, ← hv, if_neg (Int32.not_lt.mpr h1)]
theorem ylt {P : Prop} {a d : Int32} (h : ¬ (P ∧ a < d)) : ¬ P ∨ d ≤ a := by
  by_cases p : P
  · exact Or.inr (Int32.not_lt.mp (fun q => h ⟨p, q⟩))
  · exact Or.inl p
/-! counts, digests -/
def y2c (f : Nat → Int32) : Nat → Nat
  | 0 => 0
  | n + 1 => y2c f n + if f n = nI 2 then 1 else 0
theorem y2c_le (f : Nat → Int32) : ∀ n, y2c f n ≤ n
  | 0 => Nat.le_refl 0
  | n + 1 => by
    have h := y2c_le f n
    rw [y2c]
    split <;> omega
theorem y2c_y {f : Nat → Int32} {i c : Nat} (h : c = y2c f i) (h1 : f i = nI 2) : c + 1 = y2c f (i + 1) := by rw [y2c, if_pos h1, h]
theorem y2c_n {f : Nat → Int32} {i c : Nat} (h : c = y2c f i) (h1 : ¬ f i = nI 2) : c + 0 = y2c f (i + 1) := by rw [y2c, if_neg h1, h]
theorem xmx_add (f : Nat → Int32) (a : Nat) (h : Int64) : ∀ n, xmx f (a + n) h = xmx (fun i => f (a + i)) n (xmx f a h)
  | 0 => rfl
  | n + 1 => by
    show 31 * xmx f (a + n) h + (f (a + n)).toInt64 = _
    rw [xmx_add f a h n]; rfl
theorem yd_3 {σ : xS} {h : Int64} : ∀ k, xmx (σ.1 6) (192 * k) h = xd3 σ k h
  | 0 => rfl
  | k + 1 => by
    rw [show 192 * (k + 1) = 192 * k + 192 by omega, xmx_add, yd_3 k, xd3]
theorem yd_5 {σ : xS} {h : Int64} : ∀ k, xmx (σ.1 9) (5 * k) h = xd5 σ k h
  | 0 => rfl
  | k + 1 => by
    rw [show 5 * (k + 1) = 5 * k + 5 by omega, xmx_add, yd_5 k, xd5]; rfl
theorem ymx_s {f : Nat → Int32} {i : Nat} {z h : Int64} (e : z = xmx f i h) : 31 * z + (f i).toInt64 = xmx f (i + 1) h := by rw [xmx, e]
/-! the model's measure -/
theorem yfl_st {f g fz : Nat → Int32} {a i : Nat} {v : Int32} (h4 : fz = xfl f a i g) (hv : v = g i) : upd fz (a + i) v = xfl f a (i + 1) g := by rw [h4, hv]; exact xfl_s
theorem yah_1 {f : Nat → Int32} {a : Nat} (h0 : ¬ f 0 = -1) (h : f a = -1) : 1 ≤ a := by
  rcases Nat.eq_zero_or_pos a with e | e
  · rw [e] at h; exact absurd h h0
  · exact e
theorem ynx_8 {f : Nat → Int32} {b : Nat} (h8 : ¬ f 8 = -1) (hb : b ≤ 8) (h : f b = -1) : b + 1 ≤ 8 := by
  by_cases e : b = 8
  · rw [e] at h; exact absurd h h8
  · omega
theorem yhv_1 {f : Nat → Int32} {i a b : Nat} (ha : a ≤ i) (hib : i ≤ b) (h1 : xah f i = a) (h2 : xnx f i 9 = b) (e : a = b) : f i = xhv f i := by
  rw [xhv, h1, h2, xhb, if_pos (by omega), show a = i by omega]
theorem yhv_2 {f : Nat → Int32} {i a b : Nat} (h1 : xah f i = a) (h2 : xnx f i 9 = b) (hlt : a < b) : f a + xfloor ((f b - f a) * nI (i - a)) (nI (b - a)) = xhv f i := by
  rw [xhv, h1, h2, xhb, if_neg (by omega)]
