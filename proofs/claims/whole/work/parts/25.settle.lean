/-! the model's settling -/
def xml (g : Nat → Int32) : Nat → Int32
  | 0 => nI 9999
  | n + 1 => if g n < xml g n then g n else xml g n
theorem xml_y {g : Nat → Int32} {i : Nat} {z : Int32} (h : z = xml g i) (h1 : g i < z) : g i = xml g (i + 1) := by rw [xml, ← h, if_pos h1]
theorem xml_n {g : Nat → Int32} {i : Nat} {z : Int32} (h : z = xml g i) (h1 : ¬ g i < z) : z = xml g (i + 1) := by rw [xml, ← h, if_neg h1]
theorem xml_eq {g : Nat → Int32} (h : ∀ i, i < 9 → g i < nI 9999) : ∀ n, n ≤ 8 → xml g (n + 1) = xmn g n
  | 0, _ => by rw [xml, xml, if_pos (h 0 (by decide)), xmn]
  | n + 1, hn => by rw [xml, xml_eq h n (by omega), xmn]
abbrev xg (σ : xS) (t q : Nat) : Nat → Int32 := fun i => σ.1 3 (9 * t + i) - σ.1 4 (9 * t + i) - σ.1 2 (9 * q + i)
theorem xg_lt {σ : xS} (hB : xBd σ) (t q i : Nat) : xg σ t q i < nI 9999 := by
  obtain ⟨a, ha, ea⟩ := hB.2.1 (9 * t + i)
  obtain ⟨b, hb, eb⟩ := hB.2.2 (9 * t + i)
  obtain ⟨c, hc, ec⟩ := hB.1 (9 * q + i)
  show σ.1 3 (9 * t + i) - σ.1 4 (9 * t + i) - σ.1 2 (9 * q + i) < nI 9999
  rw [ea, eb, ec]
  have ta := nI_toInt (show a < 2 ^ 31 by omega)
  have tb := nI_toInt (show b < 2 ^ 31 by omega)
  have tc := nI_toInt (show c < 2 ^ 31 by omega)
  have t9 := nI_toInt (show 9999 < 2 ^ 31 by decide)
  have e1 : (nI a - nI b).toInt = (nI a).toInt - (nI b).toInt := x_subI (by omega) (by omega)
  have e2 : (nI a - nI b - nI c).toInt = (nI a - nI b).toInt - (nI c).toInt := x_subI (by omega) (by omega)
  rw [Int32.lt_iff_toInt_lt]
  omega
theorem xg_nI {σ : xS} (hB : xBd σ) (t q : Nat) {i : Nat} (hi : i < 9) : xg σ t q i - xml (xg σ t q) 9 = nI (xGs σ t q i) := by
  have a := (xGs_all hB t q).1 i hi
  rw [xsl_at hi, xsl_at hi, xsl_at hi, xmn_cong (g' := xg σ t q) 8 (fun j hj => by rw [xsl_at (by omega), xsl_at (by omega), xsl_at (by omega)])] at a
  rw [xml_eq (fun j _ => xg_lt hB t q j) 8 (Nat.le_refl 8)]
  exact a
theorem xsm_b (G : Nat → Nat) {T : Nat} (h : T ≤ 3000) : xsm G T 9 < 2 ^ 31 := Nat.lt_of_le_of_lt (xsm_le (G := G) T 9) (by omega)
/-- one depth more -/
theorem yd_more {G : Nat → Nat} {T1 load : Nat} {al : Int32} (ha : al = if T1 = 0 then -1 else nI (xsm G (T1 - 1) 9)) (hT : T1 ≤ 2001) (hl : load ≤ 2000) (h0 : ∃ i, i < 9 ∧ G i = 0) (hlt : ∀ T', T' + 1 < T1 → xsm G T' 9 < load) (h : al < nI load) : (∀ T', T' + 1 < T1 + 1 → xsm G T' 9 < load) ∧ T1 ≤ 2000 := by
  by_cases z : T1 = 0
  · exact ⟨fun T' q => absurd q (by omega), by omega⟩
  · rw [if_neg z] at ha
    have hx := xsm_b G (show T1 - 1 ≤ 3000 by omega)
    have hs : xsm G (T1 - 1) 9 < load := by rw [ha] at h; exact (nI_ltI hx (by omega)).mp h
    refine ⟨fun T' q => ?_, ?_⟩
    · by_cases e : T' = T1 - 1
      · rw [e]; exact hs
      · exact hlt T' (by omega)
    · obtain ⟨i, hi, hG⟩ := h0
      have := xsm_ge (T := T1 - 1) hG 9 hi
      omega
theorem yd_end {G : Nat → Nat} {T1 load : Nat} {al : Int32} (ha : al = if T1 = 0 then -1 else nI (xsm G (T1 - 1) 9)) (hT : T1 ≤ 2001) (hl : load ≤ 2000) (hlt : ∀ T', T' + 1 < T1 → xsm G T' 9 < load) (h : nI load ≤ al) : T1 ≠ 0 ∧ xdepth G load = T1 - 1 ∧ load ≤ xsm G (T1 - 1) 9 ∧ al = nI (xsm G (T1 - 1) 9) := by
  by_cases z : T1 = 0
  · rw [if_pos z] at ha
    rw [ha, Int32.le_iff_toInt_le, nI_toInt (by omega), show (-1 : Int32).toInt = -1 from rfl] at h
    omega
  · rw [if_neg z] at ha
    have hx := xsm_b G (show T1 - 1 ≤ 3000 by omega)
    have hs : load ≤ xsm G (T1 - 1) 9 := by rw [ha] at h; exact (nI_leI (by omega) hx).mp h
    exact ⟨z, xdepth_eq hs (fun T' q => hlt T' (by omega)) (by omega), hs, ha⟩
theorem yd_bear {T g : Nat} (hT : T ≤ 2001) (hg : g ≤ 1000) (h : nI g < nI T) {x l : Int32} (e : x - l = nI g) : nI T - x + l = nI (T - g) := by
  have hlt := (nI_ltI (by omega) (by omega)).mp h
  have e1 : nI T - x + l = nI T - (x - l) := by
    rw [Int32.sub_eq_add_neg, Int32.sub_eq_add_neg, Int32.sub_eq_add_neg, Int32.neg_add, Int32.sub_neg, Int32.add_assoc]
  rw [e1, e]
  exact x_ofT ((x_subI (by rw [nI_toInt (by omega), nI_toInt (by omega)]; omega) (by rw [nI_toInt (by omega), nI_toInt (by omega)]; omega)).trans (by rw [nI_toInt (by omega), nI_toInt (by omega)]; omega)) (by omega)
theorem yd_none {T g : Nat} (hT : T ≤ 2001) (hg : g ≤ 1000) (h : ¬ nI g < nI T) : nI 0 = nI (T - g) := by
  rw [show T - g = 0 by have := mt (fun q => (nI_ltI (show g < 2 ^ 31 by omega) (show T < 2 ^ 31 by omega)).mpr q) h; omega]
/-- what is borne is not below 0 -/
def xsi (b : Nat → Int32) : Nat → Int
  | 0 => 0
  | n + 1 => xsi b n + (b n).toInt
theorem xtop_max (b : Nat → Int32) : ∀ n i, i ≤ n → b i ≤ b (xtop b n)
  | 0, i, h => by rw [show i = 0 by omega]; exact Int32.le_refl _
  | n + 1, i, h => by
    rw [xtop]
    by_cases q : b (xtop b n) < b (n + 1)
    · rw [if_pos q]
      by_cases e : i = n + 1
      · rw [e]; exact Int32.le_refl _
      · exact Int32.le_trans (xtop_max b n i (by omega)) (Int32.le_of_lt q)
    · rw [if_neg q]
      by_cases e : i = n + 1
      · rw [e]; exact Int32.not_lt.mp q
      · exact xtop_max b n i (by omega)
theorem xsi_le {b : Nat → Int32} {M : Int} : ∀ n, (∀ i, i < n → (b i).toInt ≤ M) → xsi b n ≤ n * M
  | 0, _ => by rw [xsi]; omega
  | n + 1, h => by
    have h1 := xsi_le n (fun i hi => h i (by omega))
    have h2 := h n (by omega)
    rw [xsi]
    have e : ((n + 1 : Nat) : Int) * M = (n : Int) * M + M := by rw [Int.natCast_succ, Int.add_mul, Int.one_mul]
    omega
theorem xsi_upd {b : Nat → Int32} {k : Nat} {x : Int32} {z : Int} (hx : x.toInt = (b k).toInt + z) : ∀ n, xsi (upd b k x) n = xsi b n + if k < n then z else 0
  | 0 => by rw [xsi, xsi, if_neg (by omega)]; rfl
  | n + 1 => by
    rw [xsi, xsi, xsi_upd hx n]
    by_cases e : n = k
    · subst e
      rw [if_neg (by omega), if_pos (by omega), show upd b n x n = x from if_pos rfl, hx]; omega
    · rw [show upd b k x n = b n from if_neg e]
      by_cases q : k < n
      · rw [if_pos q, if_pos (by omega)]; omega
      · rw [if_neg q, if_neg (by omega)]; omega
theorem xfv_inc {T : Nat} (h : T ≤ 3000) : xfv T + 1 = nI T := by
  by_cases z : T = 0
  · rw [z]; rfl
  · rw [xfv, if_neg z]
    exact (nI_add (T - 1) 1).trans (by rw [show T - 1 + 1 = T by omega])
theorem yC_sc {cy : Nat → ClassId} {loc : Nat → Nat} {σ : xS} {g b f v g' b' f' : Nat → Int32} {t : Nat} (ht : t < 15) (h7 : t ≠ 7 ∨ g = g') (h8 : t ≠ 8 ∨ b = b') (h10 : t ≠ 10 ∨ f = f') : yC cy loc σ g b f v t = yC cy loc σ g' b' f' v t := by
  rcases (show t = 0 ∨ t = 1 ∨ t = 2 ∨ t = 3 ∨ t = 4 ∨ t = 5 ∨ t = 6 ∨ t = 7 ∨ t = 8 ∨ t = 9 ∨ t = 10 ∨ t = 11 ∨ t = 12 ∨ t = 13 ∨ t = 14 by omega) with e | e | e | e | e | e | e | e | e | e | e | e | e | e | e
  all_goals first | (subst e; rfl) | skip
  · subst e; rcases h7 with q | q
    · exact absurd rfl q
    · rw [q]; rfl
  · subst e; rcases h8 with q | q
    · exact absurd rfl q
    · rw [q]; rfl
  · subst e; rcases h10 with q | q
    · exact absurd rfl q
    · rw [q]; rfl
section
variable {cy : Nat → ClassId} {loc : Nat → Nat} {σ : xS} {w : xM} {g b f : Nat → Int32}
theorem yR_307 (h : yR cy loc σ w) : yR cy loc σ (xup w 307 (eI cy 9 g)) := by
  obtain ⟨g0, b0, f0, v0, hw⟩ := h
  refine ⟨g, b0, f0, v0, fun t ht => ?_⟩
  by_cases e : t = 7
  · subst e; rw [show 300 + 7 = 307 from rfl, xup_at]; rfl
  · rw [xup_ne _ _ (by omega), hw t ht]; exact yC_sc ht (Or.inl e) (Or.inr rfl) (Or.inr rfl)
theorem yR_308 (h : yR cy loc σ w) : yR cy loc σ (xup w 308 (eI cy 9 b)) := by
  obtain ⟨g0, b0, f0, v0, hw⟩ := h
  refine ⟨g0, b, f0, v0, fun t ht => ?_⟩
  by_cases e : t = 8
  · subst e; rw [show 300 + 8 = 308 from rfl, xup_at]; rfl
  · rw [xup_ne _ _ (by omega), hw t ht]; exact yC_sc ht (Or.inr rfl) (Or.inl e) (Or.inr rfl)
theorem yR_310 (h : yR cy loc σ w) : yR cy loc σ (xup w 310 (eI cy 48 f)) := by
  obtain ⟨g0, b0, f0, v0, hw⟩ := h
  refine ⟨g0, b0, f, v0, fun t ht => ?_⟩
  by_cases e : t = 10
  · subst e; rw [show 300 + 10 = 310 from rfl, xup_at]; rfl
  · rw [xup_ne _ _ (by omega), hw t ht]; exact yC_sc ht (Or.inr rfl) (Or.inr rfl) (Or.inl e)
end
