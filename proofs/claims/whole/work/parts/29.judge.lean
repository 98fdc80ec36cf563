/-! the model's judging -/
theorem xcnt_u (b : Nat → Int32) (a n : Nat) : xcnt b a (n + 1) = xcnt b a n + (if 0 < b (a + n) then 1 else 0) := rfl
theorem xcnt_f (b : Nat → Int32) : ∀ n a, xcnt b a (n + 1) = (if 0 < b a then 1 else 0) + xcnt b (a + 1) n
  | 0, _ => Nat.zero_add _
  | n + 1, a => by
    rw [xcnt_u b a (n + 1), xcnt_f b n a, xcnt_u b (a + 1) n, show a + (n + 1) = a + 1 + n by omega, Nat.add_assoc]
theorem yjc_y {b : Nat → Int32} {n k : Nat} (h1 : 1 ≤ n) (h9 : n ≤ 9) (hk : k = xcnt b n (9 - n)) (hc : ¬ b (n - 1) ≤ 0) : k + 1 = xcnt b (n - 1) (9 - (n - 1)) := by
  obtain ⟨j, rfl⟩ : ∃ j, n = j + 1 := ⟨n - 1, by omega⟩
  rw [Nat.add_sub_cancel] at hc ⊢
  have e := xcnt_f b (9 - (j + 1)) j
  rw [if_pos (Int32.not_le.mp hc)] at e
  rw [show 9 - j = 9 - (j + 1) + 1 by omega]
  omega
theorem yjc_n {b : Nat → Int32} {n k : Nat} (h1 : 1 ≤ n) (h9 : n ≤ 9) (hk : k = xcnt b n (9 - n)) (hc : b (n - 1) ≤ 0) : k + 0 = xcnt b (n - 1) (9 - (n - 1)) := by
  obtain ⟨j, rfl⟩ : ∃ j, n = j + 1 := ⟨n - 1, by omega⟩
  rw [Nat.add_sub_cancel] at hc ⊢
  have e := xcnt_f b (9 - (j + 1)) j
  rw [if_neg (Int32.not_lt.mpr hc)] at e
  rw [show 9 - j = 9 - (j + 1) + 1 by omega]
  omega
def yjf (b : Nat → Int32) (m : Int32) (n : Nat) (f a : Int32) : Prop := (f = nI 0 ∧ a = -1 ∧ ∀ i, n ≤ i → i < 9 → ¬ m < b i) ∨ (f = nI 1 ∧ ∃ i, n ≤ i ∧ i < 9 ∧ m < b i ∧ a = nI i ∧ ∀ j, n ≤ j → j < i → ¬ m < b j)
theorem yjf_0 {b : Nat → Int32} {m : Int32} : yjf b m 9 (nI 0) (-1) := Or.inl ⟨rfl, rfl, fun i h1 h2 => absurd h1 (by omega)⟩
theorem yjf_y {b : Nat → Int32} {m : Int32} {n : Nat} (h1 : 1 ≤ n) (h9 : n ≤ 9) (hc : m < b (n - 1)) : yjf b m (n - 1) (nI 1) (nI (n - 1)) := Or.inr ⟨rfl, n - 1, Nat.le_refl _, by omega, hc, rfl, fun j q1 q2 => absurd q1 (by omega)⟩
theorem yjf_n {b : Nat → Int32} {m f a : Int32} {n : Nat} (h : yjf b m n f a) (hc : ¬ m < b (n - 1)) : yjf b m (n - 1) f a := by
  rcases h with ⟨e1, e2, h⟩ | ⟨e1, i, a1, a2, a3, a4, h⟩
  · exact Or.inl ⟨e1, e2, fun i q1 q2 => by
      by_cases z : i = n - 1
      · rw [z]; exact hc
      · exact h i (by omega) q2⟩
  · exact Or.inr ⟨e1, i, by omega, a2, a3, a4, fun j q1 q2 => by
      by_cases z : j = n - 1
      · rw [z]; exact hc
      · exact h j (by omega) q2⟩
theorem xff_none {q : Nat → Prop} [DecidablePred q] : ∀ n, (∀ i, i < n → ¬ q i) → xff q n = 0
  | 0, _ => rfl
  | n + 1, h => xff_miss (xff_none n (fun i hi => h i (by omega))) (h n (by omega))
theorem yjf_e {b : Nat → Int32} {m f a : Int32} (h : yjf b m 0 f a) : (f = nI 0 ∧ a = -1 ∧ ¬ xff (xovr b m) 9 ≠ 0) ∨ (f = nI 1 ∧ a = xfv (xff (xovr b m) 9) ∧ xff (xovr b m) 9 ≠ 0) := by
  rcases h with ⟨e1, e2, h⟩ | ⟨e1, i, _, a2, a3, a4, h⟩
  · exact Or.inl ⟨e1, e2, fun q => q (xff_none 9 (fun i hi => h i (Nat.zero_le _) hi))⟩
  · have e := xff_hit (q := xovr b m) (n := 9) (xff_none i (fun j hj => h j (Nat.zero_le _) hj)) a3 a2
    exact Or.inr ⟨e1, by rw [a4, e, xfv_s], by rw [e]; exact Nat.succ_ne_zero i⟩
def yjm (b : Nat → Int32) (n : Nat) (v : Int32) : Prop := 0 ≤ v ∧ (∀ i, n ≤ i → i < 9 → b i ≤ v) ∧ (v = 0 ∨ ∃ i, n ≤ i ∧ i < 9 ∧ v = b i)
theorem yjm_0 {b : Nat → Int32} : yjm b 9 (nI 0) := ⟨by decide, fun i h1 h2 => absurd h1 (by omega), Or.inl rfl⟩
theorem yjm_y {b : Nat → Int32} {n : Nat} {v : Int32} (h1 : 1 ≤ n) (h9 : n ≤ 9) (h : yjm b n v) (hc : ¬ b (n - 1) ≤ v) : yjm b (n - 1) (b (n - 1)) := by
  have hl := Int32.le_of_lt (Int32.not_le.mp hc)
  refine ⟨Int32.le_trans h.1 hl, fun i q1 q2 => ?_, Or.inr ⟨n - 1, Nat.le_refl _, by omega, rfl⟩⟩
  by_cases z : i = n - 1
  · rw [z]; exact Int32.le_refl _
  · exact Int32.le_trans (h.2.1 i (by omega) q2) hl
theorem yjm_n {b : Nat → Int32} {n : Nat} {v : Int32} (h : yjm b n v) (hc : b (n - 1) ≤ v) : yjm b (n - 1) v := by
  refine ⟨h.1, fun i q1 q2 => ?_, ?_⟩
  · by_cases z : i = n - 1
    · rw [z]; exact hc
    · exact h.2.1 i (by omega) q2
  · rcases h.2.2 with e | ⟨i, a1, a2, a3⟩
    · exact Or.inl e
    · exact Or.inr ⟨i, by omega, a2, a3⟩
theorem yjm_e {b : Nat → Int32} {v : Int32} (h : yjm b 0 v) (hb : ∀ i, i < 9 → 0 ≤ b i) : v = b (xtop b 8) := by
  have ht := xtop_le b 8
  refine Int32.le_antisymm ?_ (h.2.1 _ (Nat.zero_le _) (by omega))
  rcases h.2.2 with e | ⟨i, _, hi, e⟩
  · rw [e]; exact hb _ (by omega)
  · rw [e]; exact xtop_max b 8 i (by omega)
theorem xdec_nn : ∀ (n : Nat) (b : Nat → Int32), (∀ i, i < 9 → 0 ≤ (b i).toInt ∧ (b i).toInt ≤ 2000) → (n : Int) ≤ xsi b 9 → ∀ i, i < 9 → 0 ≤ (xdec n b i).toInt ∧ (xdec n b i).toInt ≤ 2000
  | 0, _, h, _, i, hi => h i hi
  | n + 1, b, h, hn, i, hi => by
    have ht := xtop_le b 8
    have h1 : 1 ≤ (b (xtop b 8)).toInt := by
      rcases Int.lt_or_le (b (xtop b 8)).toInt 1 with q | q
      · have q2 := xsi_le (b := b) (M := 0) 9 (fun j hj => by
          have q3 := Int32.le_iff_toInt_le.mp (xtop_max b 8 j (by omega))
          omega)
        omega
      · exact q
    have hx := (h (xtop b 8) (by omega)).2
    have t1 := nI_toInt (show 1 < 2 ^ 31 by decide)
    have e : (b (xtop b 8) - nI 1).toInt = (b (xtop b 8)).toInt + (-1) := by
      have e2 : (b (xtop b 8) - nI 1).toInt = (b (xtop b 8)).toInt - (nI 1).toInt := x_subI (by omega) (by omega)
      omega
    rw [xdec]
    refine xdec_nn n _ (fun j hj => ?_) ?_ i hi
    · show 0 ≤ (if j = xtop b 8 then b (xtop b 8) - nI 1 else b j).toInt ∧ (if j = xtop b 8 then b (xtop b 8) - nI 1 else b j).toInt ≤ 2000
      by_cases z : j = xtop b 8
      · rw [if_pos z, e]; omega
      · rw [if_neg z]; exact h j hj
    · rw [xsi_upd e 9, if_pos (by omega)]; omega
theorem xsi_G {G : Nat → Nat} {T : Nat} (hT : T ≤ 3000) : ∀ n, xsi (fun i => nI (T - G i)) n = (xsm G T n : Int)
  | 0 => rfl
  | n + 1 => by
    rw [xsi, xsi_G hT n, xsm, nI_toInt (by omega)]; omega
theorem xbr_nn {G : Nat → Nat} {load : Nat} (h0 : ∃ i, i < 9 ∧ G i = 0) (hl : load ≤ 2000) : ∀ i, i < 9 → 0 ≤ (xbr G load i).toInt ∧ (xbr G load i).toInt ≤ 2000 := by
  obtain ⟨a, b⟩ := xdepth_ok h0 hl
  intro i hi
  rw [xbr]
  refine xdec_nn _ _ (fun j hj => ?_) ?_ i hi
  · show 0 ≤ (nI (xdepth G load - G j)).toInt ∧ (nI (xdepth G load - G j)).toInt ≤ 2000
    rw [nI_toInt (by omega)]; omega
  · rw [xsi_G (by omega)]; omega
theorem xbe_nn {σ : xS} (hB : xBd σ) (t q : Nat) {load : Nat} (hl : load ≤ 2000) : ∀ i, i < 9 → 0 ≤ (xbe σ t q load i).toInt ∧ (xbe σ t q load i).toInt ≤ 2000 := xbr_nn (xGs_all hB t q).2.2 hl
theorem xbe_0 {σ : xS} (hB : xBd σ) {t q load : Nat} (hl : load ≤ 2000) {b : Nat → Int32} (hb : ∀ i, i < 9 → b i = xbe σ t q load i) : ∀ i, i < 9 → 0 ≤ b i := fun i hi => by
  rw [hb i hi, Int32.le_iff_toInt_le]; exact (xbe_nn hB t q hl i hi).1
theorem xcnt_ne (b : Nat → Int32) (a : Nat) : ∀ n, xcnt b a n ≠ 0 ↔ ∃ j, j < n ∧ 0 < b (a + j)
  | 0 => ⟨fun h => (h rfl).elim, fun ⟨j, hj, _⟩ => absurd hj (Nat.not_lt_zero j)⟩
  | n + 1 => by
    have h := xcnt_ne b a n
    rw [xcnt_u]
    constructor
    · intro q
      by_cases z : 0 < b (a + n)
      · exact ⟨n, Nat.lt_succ_self n, z⟩
      · rw [if_neg z, Nat.add_zero] at q
        obtain ⟨j, hj, p⟩ := h.mp q
        exact ⟨j, by omega, p⟩
    · rintro ⟨j, hj, p⟩
      by_cases z : j = n
      · rw [← z, if_pos p]; exact Nat.succ_ne_zero _
      · exact fun y => h.mpr ⟨j, by omega, p⟩ (Nat.add_eq_zero_iff.mp y).1
theorem yip_1 {b : Nat → Int32} {f i : Nat} {z : Int32} (h : f ≤ i) (hz : z = xb (xcnt b f (i - f) ≠ 0)) (h0 : ¬ z = 0) : nI 1 = xb (xcnt b f (i + 1 - f) ≠ 0) := by
  have q : xcnt b f (i - f) ≠ 0 := Decidable.byContradiction (fun q => h0 (by rw [hz, xb_f q]))
  refine (xb_t ?_).symm
  rw [show i + 1 - f = i - f + 1 by omega, xcnt_u]
  exact fun z => q (Nat.add_eq_zero_iff.mp z).1
theorem yip_2 {b : Nat → Int32} {f i : Nat} (h : f ≤ i) (h0 : ¬ b i ≤ 0) : nI 1 = xb (xcnt b f (i + 1 - f) ≠ 0) := by
  refine (xb_t ?_).symm
  rw [show i + 1 - f = i - f + 1 by omega, xcnt_u, show f + (i - f) = i by omega, if_pos (Int32.not_le.mp h0)]
  exact Nat.succ_ne_zero _
theorem yip_3 {b : Nat → Int32} {f i : Nat} {z : Int32} (h : f ≤ i) (hz : z = xb (xcnt b f (i - f) ≠ 0)) (h0 : z = 0) (h1 : b i ≤ 0) : nI 0 = xb (xcnt b f (i + 1 - f) ≠ 0) := by
  have q : ¬ xcnt b f (i - f) ≠ 0 := fun q => by
    rw [xb_t q, h0] at hz; exact absurd hz (by decide)
  refine (xb_f ?_).symm
  rw [show i + 1 - f = i - f + 1 by omega, xcnt_u, show f + (i - f) = i by omega, if_neg (Int32.not_lt.mpr h1)]; exact q
abbrev yD (p : Nat → Prop) (i : Nat) : Prop := p (i - 1) ∧ ¬ p i ∧ ¬ p (i + 1) ∧ ¬ p (i + 2) ∧ ∃ j, j < 9 ∧ i + 3 ≤ j ∧ p j
def y9 (a0 a1 a2 a3 a4 a5 a6 a7 a8 : Bool) (i : Nat) : Bool := match i with
  | 0 => a0
  | 1 => a1
  | 2 => a2
  | 3 => a3
  | 4 => a4
  | 5 => a5
  | 6 => a6
  | 7 => a7
  | 8 => a8
  | _ => false
set_option maxRecDepth 100000 in
set_option maxHeartbeats 4000000 in
theorem ybc_512 : ∀ a0 a1 a2 a3 a4 a5 a6 a7 a8 : Bool, xbc (fun i => y9 a0 a1 a2 a3 a4 a5 a6 a7 a8 i = true) = (if yD (fun i => y9 a0 a1 a2 a3 a4 a5 a6 a7 a8 i = true) 1 then 2 else if yD (fun i => y9 a0 a1 a2 a3 a4 a5 a6 a7 a8 i = true) 2 then 3 else if yD (fun i => y9 a0 a1 a2 a3 a4 a5 a6 a7 a8 i = true) 3 then 4 else if yD (fun i => y9 a0 a1 a2 a3 a4 a5 a6 a7 a8 i = true) 4 then 5 else if yD (fun i => y9 a0 a1 a2 a3 a4 a5 a6 a7 a8 i = true) 5 then 6 else 0) := by decide +kernel
theorem yD_c {p q : Nat → Prop} (h : ∀ i, i < 9 → (p i ↔ q i)) {i : Nat} (h6 : i < 6) : yD p i ↔ yD q i := by
  have h2 : (∃ j, j < 9 ∧ i + 3 ≤ j ∧ p j) ↔ ∃ j, j < 9 ∧ i + 3 ≤ j ∧ q j := ⟨fun ⟨j, a, b, z⟩ => ⟨j, a, b, (h j a).mp z⟩, fun ⟨j, a, b, z⟩ => ⟨j, a, b, (h j a).mpr z⟩⟩
  show (_ ∧ _) ↔ (_ ∧ _)
  rw [h (i - 1) (by omega), h i (by omega), h (i + 1) (by omega), h (i + 2) (by omega), h2]
theorem y9_b (b : Nat → Int32) : ∀ i, i < 9 → (xprs b i ↔ y9 (decide (0 < b 0)) (decide (0 < b 1)) (decide (0 < b 2)) (decide (0 < b 3)) (decide (0 < b 4)) (decide (0 < b 5)) (decide (0 < b 6)) (decide (0 < b 7)) (decide (0 < b 8)) i = true) := by
  intro i hi
  rcases (show i = 0 ∨ i = 1 ∨ i = 2 ∨ i = 3 ∨ i = 4 ∨ i = 5 ∨ i = 6 ∨ i = 7 ∨ i = 8 by omega) with e | e | e | e | e | e | e | e | e <;> subst e <;> exact decide_eq_true_iff.symm
theorem ybc_b (b : Nat → Int32) : xbc (xprs b) = (if yD (xprs b) 1 then 2 else if yD (xprs b) 2 then 3 else if yD (xprs b) 3 then 4 else if yD (xprs b) 4 then 5 else if yD (xprs b) 5 then 6 else 0) := by
  refine Eq.trans (xbc_cong (q' := (fun i => y9 (decide (0 < b 0)) (decide (0 < b 1)) (decide (0 < b 2)) (decide (0 < b 3)) (decide (0 < b 4)) (decide (0 < b 5)) (decide (0 < b 6)) (decide (0 < b 7)) (decide (0 < b 8)) i = true)) (y9_b b)) (Eq.trans (ybc_512 _ _ _ _ _ _ _ _ _) ?_)
  exact ite_congr (propext (yD_c (y9_b b) (by decide)).symm) (fun _ => rfl) (fun _ => ite_congr (propext (yD_c (y9_b b) (by decide)).symm) (fun _ => rfl) (fun _ => ite_congr (propext (yD_c (y9_b b) (by decide)).symm) (fun _ => rfl) (fun _ => ite_congr (propext (yD_c (y9_b b) (by decide)).symm) (fun _ => rfl) (fun _ => ite_congr (propext (yD_c (y9_b b) (by decide)).symm) (fun _ => rfl) (fun _ => rfl)))))
abbrev yBq (b : Nat → Int32) (i : Nat) : Prop := xcnt b (i - 1) (i - 1 + 1 - (i - 1)) ≠ 0 ∧ ¬ xcnt b i (i + 2 + 1 - i) ≠ 0 ∧ xcnt b (i + 3) (8 + 1 - (i + 3)) ≠ 0
theorem yD_iff {b : Nat → Int32} {i : Nat} (h1 : 1 ≤ i) (h6 : i < 6) : yBq b i ↔ yD (xprs b) i := by
  constructor
  · rintro ⟨q1, q2, q3⟩
    obtain ⟨j, hj, p1⟩ := (xcnt_ne b _ _).mp q1
    obtain ⟨j3, hj3, p3⟩ := (xcnt_ne b _ _).mp q3
    have e : j = 0 := by omega
    subst e
    exact ⟨p1, fun q => q2 ((xcnt_ne b _ _).mpr ⟨0, by omega, q⟩), fun q => q2 ((xcnt_ne b _ _).mpr ⟨1, by omega, q⟩), fun q => q2 ((xcnt_ne b _ _).mpr ⟨2, by omega, q⟩), i + 3 + j3, by omega, by omega, p3⟩
  · rintro ⟨p0, n1, n2, n3, j, hj, hj3, pj⟩
    refine ⟨(xcnt_ne b _ _).mpr ⟨0, by omega, p0⟩, fun q => ?_, (xcnt_ne b _ _).mpr ⟨j - (i + 3), by omega, by rw [show i + 3 + (j - (i + 3)) = j by omega]; exact pj⟩⟩
    obtain ⟨k, hk, p⟩ := (xcnt_ne b _ _).mp q
    rcases (show k = 0 ∨ k = 1 ∨ k = 2 by omega) with e | e | e <;> subst e
    · exact n1 p
    · exact n2 p
    · exact n3 p
theorem ybr_n {b : Nat → Int32} {i : Nat} (h : ∀ i', 1 ≤ i' → i' < i → ¬ yBq b i') (hi : ¬ yBq b i) : ∀ i', 1 ≤ i' → i' < i + 1 → ¬ yBq b i' := fun j q1 q2 => by
  by_cases z : j = i
  · rw [z]; exact hi
  · exact h j q1 (by omega)
theorem ybr_hit {b : Nat → Int32} {i : Nat} (h1 : 1 ≤ i) (h6 : i < 6) (hno : ∀ i', 1 ≤ i' → i' < i → ¬ yBq b i') (h : yBq b i) : nI i = xfv (xbc (xprs b)) := by
  have hn : ∀ i', 1 ≤ i' → i' < i → ¬ yD (xprs b) i' := fun i' q1 q2 z => hno i' q1 q2 ((yD_iff q1 (by omega)).mpr z)
  have hh := (yD_iff h1 h6).mp h
  rw [ybc_b]
  rcases (show i = 1 ∨ i = 2 ∨ i = 3 ∨ i = 4 ∨ i = 5 by omega) with e | e | e | e | e <;> subst e
  · rw [if_pos hh]; rfl
  · rw [if_neg (hn 1 (by omega) (by omega)), if_pos hh]; rfl
  · rw [if_neg (hn 1 (by omega) (by omega)), if_neg (hn 2 (by omega) (by omega)), if_pos hh]; rfl
  · rw [if_neg (hn 1 (by omega) (by omega)), if_neg (hn 2 (by omega) (by omega)), if_neg (hn 3 (by omega) (by omega)), if_pos hh]; rfl
  · rw [if_neg (hn 1 (by omega) (by omega)), if_neg (hn 2 (by omega) (by omega)), if_neg (hn 3 (by omega) (by omega)), if_neg (hn 4 (by omega) (by omega)), if_pos hh]; rfl
theorem ybr_miss {b : Nat → Int32} {n : Nat} (h6 : 6 ≤ n) (hno : ∀ i', 1 ≤ i' → i' < n → ¬ yBq b i') : -1 = xfv (xbc (xprs b)) := by
  have hn : ∀ i', 1 ≤ i' → i' < 6 → ¬ yD (xprs b) i' := fun i' q1 q2 z => hno i' q1 (by omega) ((yD_iff q1 q2).mpr z)
  rw [ybc_b, if_neg (hn 1 (by omega) (by omega)), if_neg (hn 2 (by omega) (by omega)), if_neg (hn 3 (by omega) (by omega)), if_neg (hn 4 (by omega) (by omega)), if_neg (hn 5 (by omega) (by omega))]; rfl
theorem yj_1 {b : Nat → Int32} {m f a : Int32} (h : yjf b m 0 f a) (h0 : ¬ f = 0) : f = nI (xfault b m) ∧ a = xplace b m := by
  rcases yjf_e h with ⟨e, _⟩ | ⟨e1, e2, e3⟩
  · exact absurd e h0
  · have e4 : nI 1 = nI (xfault b m) := xfault_1 e3
    exact ⟨e1.trans e4, e2.trans (xplace_1 e4.symm)⟩
theorem yj_z {b : Nat → Int32} {m f a : Int32} (h : yjf b m 0 f a) (h0 : f = 0) : a = -1 ∧ f = nI 0 ∧ ¬ xff (xovr b m) 9 ≠ 0 := by
  rcases yjf_e h with ⟨e, e2, e3⟩ | ⟨e1, e2, e3⟩
  · exact ⟨e2, e, e3⟩
  · rw [h0] at e1; exact absurd e1 (by decide)
theorem yj_b {b : Nat → Int32} (h : ¬ xfv (xbc (xprs b)) = -1) : xbc (xprs b) ≠ 0 := fun q => h (by rw [q]; rfl)
theorem yj_nb {b : Nat → Int32} (h : xfv (xbc (xprs b)) = -1) : ¬ xbc (xprs b) ≠ 0 := fun q => xfv_ne q (by have := xbc_le (xprs b); omega) h
theorem yj_2 {b : Nat → Int32} {m f a : Int32} (h : yjf b m 0 f a) (h0 : f = 0) (hb : ¬ xfv (xbc (xprs b)) = -1) : nI 2 = nI (xfault b m) ∧ xfv (xbc (xprs b)) = xplace b m := by
  have e4 : nI 2 = nI (xfault b m) := xfault_2 (yj_z h h0).2.2 (yj_b hb)
  exact ⟨e4, xplace_2 e4.symm⟩
theorem yj_3 {b : Nat → Int32} {m f a : Int32} (h : yjf b m 0 f a) (h0 : f = 0) (hb : xfv (xbc (xprs b)) = -1) {r : Int32} (hr : xrock b = r) (hn : ¬ r = -1) : nI 3 = nI (xfault b m) ∧ r = xplace b m := by
  have e4 : nI 3 = nI (xfault b m) := xfault_3 (yj_z h h0).2.2 (yj_nb hb) (by rw [hr]; exact hn)
  exact ⟨e4, hr.symm.trans (xplace_3 e4.symm)⟩
theorem yj_3a {b : Nat → Int32} {m f a : Int32} (h : yjf b m 0 f a) (h0 : f = 0) (hb : xfv (xbc (xprs b)) = -1) (hp : ¬ xcnt b 0 (2 + 1 - 0) ≠ 0) : nI 3 = nI (xfault b m) ∧ nI 0 = xplace b m := yj_3 h h0 hb (xrock_0 (Decidable.of_not_not hp)).symm (by decide)
theorem yj_3b {b : Nat → Int32} {m f a : Int32} (h : yjf b m 0 f a) (h0 : f = 0) (hb : xfv (xbc (xprs b)) = -1) (hp : xcnt b 0 (2 + 1 - 0) ≠ 0) (hq : ¬ xcnt b 6 (8 + 1 - 6) ≠ 0) : nI 3 = nI (xfault b m) ∧ nI 6 = xplace b m := yj_3 h h0 hb (xrock_6 hp (Decidable.of_not_not hq)).symm (by decide)
theorem yj_0 {b : Nat → Int32} {m f a : Int32} (h : yjf b m 0 f a) (h0 : f = 0) (hb : xfv (xbc (xprs b)) = -1) (hp : xcnt b 0 (2 + 1 - 0) ≠ 0) (hq : xcnt b 6 (8 + 1 - 6) ≠ 0) : f = nI (xfault b m) ∧ a = xplace b m := by
  obtain ⟨e1, e2, e3⟩ := yj_z h h0
  have e4 : nI 0 = nI (xfault b m) := xfault_0 e3 (yj_nb hb) (xrock_n hp hq).symm
  exact ⟨e2.trans e4, e1.trans (xplace_0 e4.symm)⟩
theorem xfv_d {n : Nat} (h1 : 1 ≤ n) (h9 : n ≤ 9) : nI (n - 1) + (-1) = xfv (n - 1) := by
  rcases (show n = 1 ∨ n = 2 ∨ n = 3 ∨ n = 4 ∨ n = 5 ∨ n = 6 ∨ n = 7 ∨ n = 8 ∨ n = 9 by omega) with e | e | e | e | e | e | e | e | e <;> subst e <;> decide
theorem xfv_p {n : Nat} (h : 1 ≤ n) : xfv n = nI (n - 1) := by rw [xfv, if_neg (by omega)]
theorem xfv_lt {n : Nat} (h : ¬ xfv n < 0) : 1 ≤ n := by
  rcases Nat.eq_zero_or_pos n with e | e
  · rw [e] at h; exact absurd (by decide) h
  · exact e
theorem xfv_l0 {n : Nat} (h9 : n ≤ 9) (h : xfv n < 0) : n = 0 := by
  rcases Nat.eq_zero_or_pos n with e | e
  · exact e
  · rw [xfv_p e] at h; exact absurd h (nI_pos (by omega))
theorem yj_w {loc : Nat → Nat} {σ : xS} {w : xM} {a0 a1 a2 a3 a4 c0 c1 c2 c3 : Int32} (h0 : a0 = c0) (h1 : a1 = c1) (h2 : a2 = c2) (h3 : a3 = c3) : xup w 300 (.inr (8, [.ref (loc 301), .int (nI (σ.2 0)), .ref (loc 302), .ref (loc 303), .ref (loc 304), .int (nI (σ.2 1)), .ref (loc 305), .ref (loc 306), .ref (loc 307), .ref (loc 308), .int (a0), .int (a1), .int (a2), .int (a3), .int (nI (σ.2 5)), .ref (loc 309), .ref (loc 310), .int (a4), .int (nI (σ.2 2)), .ref (loc 311), .int (nI (σ.2 3)), .ref (loc 312), .ref (loc 313), .int (σ.1 10 0), .int (σ.1 10 1), .int (nI (σ.2 4)), .ref (loc 314)]) : va_E) = xup w 300 (.inr (8, [.ref (loc 301), .int (nI (σ.2 0)), .ref (loc 302), .ref (loc 303), .ref (loc 304), .int (nI (σ.2 1)), .ref (loc 305), .ref (loc 306), .ref (loc 307), .ref (loc 308), .int (c0), .int (c1), .int (c2), .int (c3), .int (nI (σ.2 5)), .ref (loc 309), .ref (loc 310), .int (a4), .int (nI (σ.2 2)), .ref (loc 311), .int (nI (σ.2 3)), .ref (loc 312), .ref (loc 313), .int (σ.1 10 0), .int (σ.1 10 1), .int (nI (σ.2 4)), .ref (loc 314)]) : va_E) := by
  subst h0 h1 h2 h3; rfl
theorem yC_300 {cy : Nat → ClassId} {loc : Nat → Nat} {σ : xS} {g b f v : Nat → Int32} {a0 a1 a2 a3 a4 : Int32} : ∃ v', yC cy loc σ g b f v' 0 = some (.inr (8, [.ref (loc 301), .int (nI (σ.2 0)), .ref (loc 302), .ref (loc 303), .ref (loc 304), .int (nI (σ.2 1)), .ref (loc 305), .ref (loc 306), .ref (loc 307), .ref (loc 308), .int (a0), .int (a1), .int (a2), .int (a3), .int (nI (σ.2 5)), .ref (loc 309), .ref (loc 310), .int (a4), .int (nI (σ.2 2)), .ref (loc 311), .int (nI (σ.2 3)), .ref (loc 312), .ref (loc 313), .int (σ.1 10 0), .int (σ.1 10 1), .int (nI (σ.2 4)), .ref (loc 314)]) : va_E) ∧ ∀ t, t < 15 → t ≠ 0 → yC cy loc σ g b f v' t = yC cy loc σ g b f v t :=
  ⟨fun i => if i = 0 then a0 else if i = 1 then a1 else if i = 2 then a2 else if i = 3 then a3 else a4, rfl, fun t ht h0 => by
    rcases (show t = 1 ∨ t = 2 ∨ t = 3 ∨ t = 4 ∨ t = 5 ∨ t = 6 ∨ t = 7 ∨ t = 8 ∨ t = 9 ∨ t = 10 ∨ t = 11 ∨ t = 12 ∨ t = 13 ∨ t = 14 by omega) with e | e | e | e | e | e | e | e | e | e | e | e | e | e <;> subst e <;> rfl⟩
theorem yR_300 {cy : Nat → ClassId} {loc : Nat → Nat} {σ : xS} {w : xM} {a0 a1 a2 a3 a4 : Int32} (h : yR cy loc σ w) : yR cy loc σ (xup w 300 (.inr (8, [.ref (loc 301), .int (nI (σ.2 0)), .ref (loc 302), .ref (loc 303), .ref (loc 304), .int (nI (σ.2 1)), .ref (loc 305), .ref (loc 306), .ref (loc 307), .ref (loc 308), .int (a0), .int (a1), .int (a2), .int (a3), .int (nI (σ.2 5)), .ref (loc 309), .ref (loc 310), .int (a4), .int (nI (σ.2 2)), .ref (loc 311), .int (nI (σ.2 3)), .ref (loc 312), .ref (loc 313), .int (σ.1 10 0), .int (σ.1 10 1), .int (nI (σ.2 4)), .ref (loc 314)]) : va_E)) := by
  obtain ⟨g0, b0, f0, v0, hw⟩ := h
  obtain ⟨v', e1, e2⟩ := yC_300 (cy := cy) (loc := loc) (σ := σ) (g := g0) (b := b0) (f := f0) (v := v0) (a0 := a0) (a1 := a1) (a2 := a2) (a3 := a3) (a4 := a4)
  refine ⟨g0, b0, f0, v', fun t ht => ?_⟩
  by_cases e : t = 0
  · subst e; rw [show 300 + 0 = 300 from rfl, xup_at]; exact e1.symm
  · rw [xup_ne _ _ (by omega), hw t ht]; exact (e2 t ht e).symm
theorem yOK_sj {cy : Nat → ClassId} {loc : Nat → Nat} {σ : xS} {w : xM} {g b : Nat → Int32} {a0 a1 a2 a3 a4 : Int32} (h : yR cy loc σ w) : yOK cy loc w σ (loc, xup (xup (xup w 307 (eI cy 9 g)) 308 (eI cy 9 b)) 300 (.inr (8, [.ref (loc 301), .int (nI (σ.2 0)), .ref (loc 302), .ref (loc 303), .ref (loc 304), .int (nI (σ.2 1)), .ref (loc 305), .ref (loc 306), .ref (loc 307), .ref (loc 308), .int (a0), .int (a1), .int (a2), .int (a3), .int (nI (σ.2 5)), .ref (loc 309), .ref (loc 310), .int (a4), .int (nI (σ.2 2)), .ref (loc 311), .int (nI (σ.2 3)), .ref (loc 312), .ref (loc 313), .int (σ.1 10 0), .int (σ.1 10 1), .int (nI (σ.2 4)), .ref (loc 314)]) : va_E)) :=
  ⟨yR_300 (yR_308 (yR_307 h)), fun t ht => ⟨by show xup (xup (xup w 307 _) 308 _) 300 _ t = w t; rw [xup_ne _ _ (by omega), xup_ne _ _ (by omega), xup_ne _ _ (by omega)], rfl⟩, rfl⟩
