/-! good states are kept by every call -/
theorem yix {n : Int32} {cnt : Nat} (hc : cnt < 2 ^ 31) (h : nI 0 ≤ n ∧ n < nI cnt) : n.toNatClampNeg < cnt := by
  obtain ⟨j, hj, e⟩ := x_ix2 hc h
  rw [e, nI_clamp (by omega)]; exact hj
theorem yir {n : Int32} {a : Nat} (ha : a < 2 ^ 31) (h : nI 0 ≤ n ∧ n ≤ nI a) : n.toNatClampNeg ≤ a := by
  obtain ⟨j, hj, e⟩ := x_rng ha h
  rw [e, nI_clamp (by omega)]; exact hj
theorem yir1 {n : Int32} {a : Nat} (h1 : 1 ≤ a) (ha : a < 2 ^ 31) (h : nI 1 ≤ n ∧ n ≤ nI a) : 1 ≤ n.toNatClampNeg ∧ n.toNatClampNeg ≤ a := by
  obtain ⟨j, hj1, hj, e⟩ := x_rng1 h1 ha h
  rw [e, nI_clamp (by omega)]; exact ⟨hj1, hj⟩
theorem ynn {A B : Prop} (h : ¬ (¬ A ∨ ¬ B)) : A ∧ B := by
  by_cases a : A
  · by_cases b : B
    · exact ⟨a, b⟩
    · exact absurd (Or.inr b) h
  · exact absurd (Or.inl a) h
theorem yv1 {v : Int32} (h : ¬ (¬ v = -1 ∧ ¬ (nI 0 ≤ v ∧ v ≤ nI 400))) : v = -1 ∨ yH v := by
  by_cases a : v = -1
  · exact Or.inl a
  · by_cases b : nI 0 ≤ v ∧ v ≤ nI 400
    · obtain ⟨j, hj, e⟩ := x_rng (by decide) b
      exact Or.inr ⟨j, hj, e⟩
    · exact absurd ⟨a, b⟩ h
theorem xroom_ex (P : Nat → Int32) (wd ht : Nat) : ∃ r, xroom P wd ht r := by
  by_cases h : ∃ n y x, n = 16 * y + x ∧ y + ht ≤ 12 ∧ x + wd ≤ 16 ∧ xfit P wd ht (16 * y + x)
  · obtain ⟨n, ⟨y, x, e, hy, hx, hf⟩, hm⟩ := pk_least (fun n => ∃ y x, n = 16 * y + x ∧ y + ht ≤ 12 ∧ x + wd ≤ 16 ∧ xfit P wd ht (16 * y + x)) h
    exact ⟨_, Or.inl ⟨y, x, hy, hx, rfl, hf, fun y' x' a b c d => hm (16 * y' + x') (by omega) ⟨y', x', rfl, a, b, d⟩⟩⟩
  · exact ⟨-1, Or.inr ⟨rfl, fun y x a b c => h ⟨_, y, x, rfl, a, b, c⟩⟩⟩
theorem xrf_ok (P : Nat → Int32) (wd ht : Nat) : xroom P wd ht (xrf P wd ht) := Classical.epsilon_spec (p := xroom P wd ht) (xroom_ex P wd ht)
theorem xrf_hit {P : Nat → Int32} {wd ht : Nat} (hw : 1 ≤ wd) (hh : 1 ≤ ht) (h : ¬ xrf P wd ht = -1) : ∃ y x, y + ht ≤ 12 ∧ x + wd ≤ 16 ∧ (xrf P wd ht).toNatClampNeg / 16 = y ∧ (xrf P wd ht).toNatClampNeg % 16 = x ∧ xfit P wd ht (16 * y + x) := by
  rcases xrf_ok P wd ht with ⟨y, x, a1, a2, a3, a4, _⟩ | ⟨a1, _⟩
  · refine ⟨y, x, a1, a2, ?_, ?_, a4⟩
    · rw [a3, nI_clamp (by omega)]; omega
    · rw [a3, nI_clamp (by omega)]; omega
  · exact absurd a1 h
section
variable {σ : xS}
theorem gd_horse (hG : xGd σ) : xGd (sp_horse σ).2 := by
  rw [sp_horse]
  split
  · exact hG
  · next h => exact xGd_horse hG (Decidable.of_not_not h)
theorem gd_height (hG : xGd σ) (i v : Int32) : xGd (sp_height σ i v).2 := by
  rw [sp_height]
  split
  · exact hG
  · split
    · exact hG
    · next h1 h2 => exact xGd_height hG _ v (yv1 h2)
theorem gd_measure (hG : xGd σ) (ho d : Int32) : xGd (sp_measure σ ho d).2 := by
  have hn := hG.1.1
  rw [sp_measure]
  split
  · exact hG
  · split
    · exact hG
    · split
      · exact hG
      · split
        · exact hG
        · next h1 h2 h3 h4 => exact xGd_measure hG _ d (yix (by omega) (Decidable.of_not_not h1)) (Decidable.of_not_not h4) (fun q => h2 (Or.inr (Or.inl q))) (fun q => h2 (Or.inr (Or.inr q)))
theorem gd_tree (hG : xGd σ) : xGd (sp_tree σ).2 := by
  rw [sp_tree]
  split
  · exact hG
  · split
    · exact hG
    · next h1 h2 => exact xGd_tree hG (Decidable.of_not_not h1) (Decidable.of_not_not h2)
theorem gd_shim (hG : xGd σ) (t i v : Int32) : xGd (sp_shim σ t i v).2 := by
  have hn := hG.1.2.1
  rw [sp_shim]
  split
  · exact hG
  · split
    · exact hG
    · next h1 h2 => exact xGd_shim hG _ _ v (yix (by omega) (ynn h1).1) (Nat.lt_succ_of_le (yir (by decide) (ynn h1).2)) (x_rng (by decide) (Decidable.of_not_not h2))
theorem gd_day (hG : xGd σ) (d : Int32) : xGd (sp_day σ d).2 := by
  rw [sp_day]
  split
  · exact hG
  · split
    · exact hG
    · split
      · exact hG
      · next h1 h2 h3 => exact xGd_day hG d (Decidable.of_not_not h3)
theorem gd_clear (hG : xGd σ) : xGd (sp_clear σ).2 := xGd_clear hG
theorem gd_hide (hG : xGd σ) : xGd (sp_hide σ).2 := by
  rw [sp_hide]
  split
  · exact hG
  · next h => exact xGd_hide hG (Decidable.of_not_not h)
theorem gd_flaw (hG : xGd σ) (h x y : Int32) : xGd (sp_flaw σ h x y).2 := by
  have hn := hG.1.2.2.1
  rw [sp_flaw]
  split
  · exact hG
  · next h1 =>
    split
    · exact hG
    · next h2 =>
      have a := yix (by omega) (ynn h1).1
      have b := yir (by decide) (ynn h1).2.1
      have c := yir (by decide) (ynn h1).2.2
      exact xGd_flaw hG _ (by omega) h2
theorem gd_bench (hG : xGd σ) (n : Int32) : xGd (sp_bench σ n).2 := by
  rw [sp_bench]
  split
  · exact hG
  · split
    · exact hG
    · next h1 h2 => exact xGd_bench hG n (Decidable.of_not_not h2) (x_rng1 (by decide) (by decide) (Decidable.of_not_not h1))
theorem gd_work (hG : xGd σ) (n d : Int32) : xGd (sp_work σ n d).2 := by
  rw [sp_work]
  split
  · exact hG
  · split
    · exact hG
    · next h1 h2 =>
      have hn := hG.1.2.2.2.1
      rcases xwb_or σ n d (σ.2 3) with q | ⟨b, hb, q⟩
      · exact absurd q h2
      · exact xGd_work hG n d _ (by rw [q, nI_clamp (by omega)]; exact hb)
theorem gd_saddle (hG : xGd σ) (t ho d gu ch : Int32) : xGd (sp_saddle σ t ho d gu ch).2 := by
  have hn0 := hG.1.1
  have hn1 := hG.1.2.1
  rw [sp_saddle]
  split
  · exact hG
  · split
    · exact hG
    · split
      · exact hG
      · split
        · exact hG
        · next h1 h2 h3 h4 =>
          obtain ⟨a, ha, ea⟩ := x_ix2 (by omega) (ynn h1).1
          obtain ⟨k, hk, ek⟩ := x_ix2 (by omega) (ynn h1).2
          subst ea
          subst ek
          rw [nI_clamp (show k < 2 ^ 31 by omega)] at h3
          exact xGd_saddle hG a k d gu ch (Decidable.of_not_not h4) hk (xbk_ex _ h3)
theorem gd_cut (hG : xGd σ) (h wd ht : Int32) : xGd (sp_cut σ h wd ht).2 := by
  have hn := hG.1.2.2.1
  rw [sp_cut]
  split
  · exact hG
  · split
    · exact hG
    · next h1 h2 =>
      have a := yix (by omega) (Decidable.of_not_not h1)
      have b := yir1 (by decide) (by decide) (ynn h2).1
      have c := yir1 (by decide) (by decide) (ynn h2).2
      generalize h.toNatClampNeg = kh at a ⊢
      generalize wd.toNatClampNeg = w at b ⊢
      generalize ht.toNatClampNeg = v at c ⊢
      rw [xct]
      split
      · exact hG
      · next h3 =>
        obtain ⟨y, x, hy, hx, ey, ex, hf⟩ := xrf_hit b.1 c.1 h3
        rw [ey, ex]
        refine xGd_cut hG _ _ (fun i hi => ?_) (fun i => ?_) ?_
        · rw [xmh_o (by omega)]; exact hG.2.2.2.2.2.1 i hi
        · rcases xmh_v (σ.1 6) kh y x w v (nI 2) i with e | e
          · exact Or.inr (Or.inr e)
          · rw [e]; exact hG.2.2.2.2.2.2.2.2.1 i
        · rw [xmh_cnt b.1 (by omega) hy hx hf, ← hG.2.2.2.2.2.2.2.2.2.1]
theorem gd_pair (hG : xGd σ) (h wd ht : Int32) : xGd (sp_pair σ h wd ht).2 := by
  have hn := hG.1.2.2.1
  rw [sp_pair]
  split
  · exact hG
  · split
    · exact hG
    · next h1 h2 =>
      have a := yix (by omega) (Decidable.of_not_not h1)
      have b := yir1 (by decide) (by decide) (ynn h2).1
      have c := yir1 (by decide) (by decide) (ynn h2).2
      generalize h.toNatClampNeg = kh at a ⊢
      generalize wd.toNatClampNeg = w at b ⊢
      generalize ht.toNatClampNeg = v at c ⊢
      rw [xp1]
      split
      · exact hG
      · next h3 =>
        obtain ⟨y, x, hy, hx, ey, ex, hf⟩ := xrf_hit b.1 c.1 h3
        rw [ey, ex, xp2]
        split
        · exact hG
        · next h4 =>
          obtain ⟨y2, x2, hy2, hx2, ey2, ex2, hf2⟩ := xrf_hit b.1 c.1 h4
          rw [ey, ex, ey2, ex2]
          rw [← xsl_xmh hy] at hf2
          refine xGd_cut hG _ _ (fun i hi => ?_) (fun i => ?_) ?_
          · rw [xmh_o (by omega), xmh_o (by omega)]; exact hG.2.2.2.2.2.1 i hi
          · rcases xmh_v (xmh (σ.1 6) kh y x w v (nI 2)) kh y2 x2 w v (nI 2) i with e | e
            · exact Or.inr (Or.inr e)
            · rw [e]
              rcases xmh_v (σ.1 6) kh y x w v (nI 2) i with e2 | e2
              · exact Or.inr (Or.inr e2)
              · rw [e2]; exact hG.2.2.2.2.2.2.2.2.1 i
          · rw [xmh_cnt b.1 (by omega) hy2 hx2 hf2, xmh_cnt b.1 (by omega) hy hx hf, ← hG.2.2.2.2.2.2.2.2.2.1, Nat.mul_assoc, Nat.two_mul, Nat.add_assoc]
end
