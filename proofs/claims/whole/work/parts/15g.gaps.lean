theorem x_bmod {z : Int} (h1 : -2147483648 ≤ z) (h2 : z < 2147483648) : z.bmod (2 ^ 32) = z := by
  rw [Int.bmod_eq_of_le (by omega) (by omega)]
theorem x_subI {x y : Int32} (h1 : -2147483648 ≤ x.toInt - y.toInt) (h2 : x.toInt - y.toInt < 2147483648) : (x - y).toInt = x.toInt - y.toInt := by
  rw [Int32.toInt_sub, x_bmod h1 h2]
theorem x_addI {x y : Int32} (h1 : -2147483648 ≤ x.toInt + y.toInt) (h2 : x.toInt + y.toInt < 2147483648) : (x + y).toInt = x.toInt + y.toInt := by
  rw [Int32.toInt_add, x_bmod h1 h2]
theorem x_mulI {x y : Int32} (h1 : -2147483648 ≤ x.toInt * y.toInt) (h2 : x.toInt * y.toInt < 2147483648) : (x * y).toInt = x.toInt * y.toInt := by
  rw [Int32.toInt_mul, x_bmod h1 h2]
theorem x_ofT {x : Int32} {n : Nat} (h : x.toInt = n) (hn : n < 2 ^ 31) : x = nI n := Int32.toInt_inj.mp (by rw [h, nI_toInt hn])
theorem xmn_lo (g : Nat → Int32) : ∀ n i, i ≤ n → xmn g n ≤ g i
  | 0, i, h => by rw [show i = 0 by omega]; exact Int32.le_refl _
  | n + 1, i, h => by
    rw [xmn]
    by_cases q : g (n + 1) < xmn g n
    · rw [if_pos q]
      by_cases e : i = n + 1
      · rw [e]; exact Int32.le_refl _
      · exact Int32.le_trans (Int32.le_of_lt q) (xmn_lo g n i (by omega))
    · rw [if_neg q]
      by_cases e : i = n + 1
      · rw [e]; exact Int32.not_lt.mp q
      · exact xmn_lo g n i (by omega)
theorem xmn_is (g : Nat → Int32) : ∀ n, ∃ i, i ≤ n ∧ xmn g n = g i
  | 0 => ⟨0, Nat.le_refl 0, rfl⟩
  | n + 1 => by
    rw [xmn]
    by_cases q : g (n + 1) < xmn g n
    · rw [if_pos q]
      exact ⟨n + 1, Nat.le_refl _, rfl⟩
    · rw [if_neg q]
      obtain ⟨i, h1, h2⟩ := xmn_is g n
      exact ⟨i, by omega, h2⟩
/-- a gap of a tree on a back, less the least of these -/
def xG0 (hs ss bs : Nat → Int32) (i : Nat) : Nat := (hs i - ss i - bs i - xmn (fun j => hs j - ss j - bs j) 8).toNatClampNeg
theorem xG_all {hs ss bs : Nat → Int32} (h1 : ∀ i, i < 9 → ∃ v, v ≤ 400 ∧ hs i = nI v) (h2 : ∀ i, i < 9 → ∃ v, v ≤ 20 ∧ ss i = nI v) (h3 : ∀ i, i < 9 → ∃ v, v ≤ 400 ∧ bs i = nI v) : (∀ i, i < 9 → hs i - ss i - bs i - xmn (fun j => hs j - ss j - bs j) 8 = nI (xG0 hs ss bs i)) ∧ (∀ i, i < 9 → xG0 hs ss bs i ≤ 1000) ∧ ∃ i, i < 9 ∧ xG0 hs ss bs i = 0 := by
  have hv : ∀ i, i < 9 → -420 ≤ (hs i - ss i - bs i).toInt ∧ (hs i - ss i - bs i).toInt ≤ 400 := by
    intro i hi
    obtain ⟨a, a1, a2⟩ := h1 i hi
    obtain ⟨b, b1, b2⟩ := h2 i hi
    obtain ⟨c, c1, c2⟩ := h3 i hi
    have e1 : (nI a).toInt = a := nI_toInt (by omega)
    have e2 : (nI b).toInt = b := nI_toInt (by omega)
    have e3 : (nI c).toInt = c := nI_toInt (by omega)
    have e4 : (nI a - nI b).toInt = (a : Int) - b := by rw [x_subI (by omega) (by omega), e1, e2]
    rw [a2, b2, c2, x_subI (by omega) (by omega), e4, e3]
    omega
  obtain ⟨k, hk, ek⟩ := xmn_is (fun j => hs j - ss j - bs j) 8
  have hm := hv k (by omega)
  have key : ∀ i, i < 9 → ∃ n : Nat, n ≤ 1000 ∧ hs i - ss i - bs i - xmn (fun j => hs j - ss j - bs j) 8 = nI n := by
    intro i hi
    have hi2 := hv i hi
    have hl := xmn_lo (fun j => hs j - ss j - bs j) 8 i (by omega)
    rw [ek] at hl ⊢
    rw [Int32.le_iff_toInt_le] at hl
    refine ⟨((hs i - ss i - bs i).toInt - (hs k - ss k - bs k).toInt).toNat, by omega, x_ofT ?_ (by omega)⟩
    rw [x_subI (by omega) (by omega)]
    omega
  refine ⟨fun i hi => ?_, fun i hi => ?_, k, by omega, ?_⟩
  · obtain ⟨n, n1, n2⟩ := key i hi
    rw [xG0, n2, nI_clamp (by omega)]
  · obtain ⟨n, n1, n2⟩ := key i hi
    rw [xG0, n2, nI_clamp (by omega)]
    exact n1
  · rw [xG0, ek]
    have : hs k - ss k - bs k - (hs k - ss k - bs k) = nI 0 := Int32.sub_self _
    rw [this, nI_clamp (by decide)]
theorem xG0_cong {hs ss bs hs' ss' bs' : Nat → Int32} (h1 : ∀ i, i < 9 → hs i = hs' i) (h2 : ∀ i, i < 9 → ss i = ss' i) (h3 : ∀ i, i < 9 → bs i = bs' i) {i : Nat} (hi : i < 9) : xG0 hs ss bs i = xG0 hs' ss' bs' i := by
  rw [xG0, xG0, h1 i hi, h2 i hi, h3 i hi, xmn_cong 8 (fun j hj => by show hs j - ss j - bs j = hs' j - ss' j - bs' j; rw [h1 j (by omega), h2 j (by omega), h3 j (by omega)])]
/-- the values of a state are in their ranges -/
def xBd (σ : xS) : Prop := (∀ i, ∃ v, v ≤ 400 ∧ σ.1 2 i = nI v) ∧ (∀ i, ∃ v, v ≤ 400 ∧ σ.1 3 i = nI v) ∧ ∀ i, ∃ v, v ≤ 20 ∧ σ.1 4 i = nI v
/-- tree t on measure q -/
def xGs (σ : xS) (t q : Nat) : Nat → Nat := xG0 (fun i => σ.1 3 (9 * t + i)) (fun i => σ.1 4 (9 * t + i)) (fun i => σ.1 2 (9 * q + i))
def xbe (σ : xS) (t q load : Nat) : Nat → Int32 := xbr (xGs σ t q) load
theorem xGs_all {σ : xS} (hB : xBd σ) (t q : Nat) : (∀ i, i < 9 → xsl 9 (σ.1 3) (9 * t) i - xsl 9 (σ.1 4) (9 * t) i - xsl 9 (σ.1 2) (9 * q) i - xmn (fun j => xsl 9 (σ.1 3) (9 * t) j - xsl 9 (σ.1 4) (9 * t) j - xsl 9 (σ.1 2) (9 * q) j) 8 = nI (xGs σ t q i)) ∧ (∀ i, i < 9 → xGs σ t q i ≤ 1000) ∧ ∃ i, i < 9 ∧ xGs σ t q i = 0 := by
  have hc : ∀ i, i < 9 → xG0 (xsl 9 (σ.1 3) (9 * t)) (xsl 9 (σ.1 4) (9 * t)) (xsl 9 (σ.1 2) (9 * q)) i = xGs σ t q i := fun i hi => xG0_cong (fun j hj => xsl_at hj) (fun j hj => xsl_at hj) (fun j hj => xsl_at hj) hi
  obtain ⟨a, b, k, c, d⟩ := xG_all (hs := xsl 9 (σ.1 3) (9 * t)) (ss := xsl 9 (σ.1 4) (9 * t)) (bs := xsl 9 (σ.1 2) (9 * q)) (fun i hi => by rw [xsl_at hi]; exact hB.2.1 _) (fun i hi => by rw [xsl_at hi]; exact hB.2.2 _) (fun i hi => by rw [xsl_at hi]; exact hB.1 _)
  exact ⟨fun i hi => by rw [a i hi, hc i hi], fun i hi => by rw [← hc i hi]; exact b i hi, k, c, by rw [← hc k c]; exact d⟩
/-! rows of nine that agree -/
theorem xcnt_cong {b b' : Nat → Int32} {a m : Nat} (h : ∀ i, i < m → b i = b' i) : ∀ n, a + n ≤ m → xcnt b a n = xcnt b' a n
  | 0, _ => rfl
  | n + 1, hn => by rw [xcnt, xcnt, xcnt_cong h n (by omega), h (a + n) (by omega)]
theorem xff_cong {q q' : Nat → Prop} {i1 : DecidablePred q} {i2 : DecidablePred q'} {m : Nat} (h : ∀ i, i < m → (q i ↔ q' i)) : ∀ n, n ≤ m → xff q n = xff q' n
  | 0, _ => rfl
  | n + 1, hn => by
    rw [xff, xff, xff_cong h n (by omega)]
    by_cases e : xff q' n ≠ 0
    · rw [if_pos e, if_pos e]
    · rw [if_neg e, if_neg e]
      by_cases z : q n
      · rw [if_pos z, if_pos ((h n (by omega)).mp z)]
      · rw [if_neg z, if_neg (fun y => z ((h n (by omega)).mpr y))]
theorem xlp_cong {q q' : Nat → Prop} {i1 : DecidablePred q} {i2 : DecidablePred q'} {m : Nat} (h : ∀ i, i < m → (q i ↔ q' i)) : ∀ n, n ≤ m → xlp q n = xlp q' n
  | 0, _ => rfl
  | n + 1, hn => by
    rw [xlp, xlp, xlp_cong h n (by omega)]
    by_cases z : q n
    · rw [if_pos z, if_pos ((h n (by omega)).mp z)]
    · rw [if_neg z, if_neg (fun y => z ((h n (by omega)).mpr y))]
theorem xbc_cong {q q' : Nat → Prop} {i1 : DecidablePred q} {i2 : DecidablePred q'} (h : ∀ i, i < 9 → (q i ↔ q' i)) : xbc q = xbc q' := by
  have e : xff (xbq q) 9 = xff (xbq q') 9 := xff_cong (m := 9) (fun i hi => by
    show (q i ∧ xlp q i ≠ 0 ∧ 3 < i + 1 - xlp q i) ↔ (q' i ∧ xlp q' i ≠ 0 ∧ 3 < i + 1 - xlp q' i)
    rw [xlp_cong h i (by omega), h i hi]) 9 (Nat.le_refl 9)
  have := xff_le (xbq q') 9
  rw [xbc, xbc, e, xlp_cong h (xff (xbq q') 9 - 1) (by omega)]
theorem xrock_cong {b b' : Nat → Int32} (h : ∀ i, i < 9 → b i = b' i) : xrock b = xrock b' := by
  rw [xrock, xrock, xcnt_cong h 3 (by omega), xcnt_cong h 3 (by omega)]
theorem xfault_cong {b b' : Nat → Int32} (h : ∀ i, i < 9 → b i = b' i) (m : Int32) : xfault b m = xfault b' m := by
  rw [xfault, xfault, xrock_cong h, xbc_cong (q := xprs b) (q' := xprs b') (fun i hi => by show 0 < b i ↔ 0 < b' i; rw [h i hi]), xff_cong (q := xovr b m) (q' := xovr b' m) (m := 9) (fun i hi => by show m < b i ↔ m < b' i; rw [h i hi]) 9 (Nat.le_refl 9)]
theorem xplace_cong {b b' : Nat → Int32} (h : ∀ i, i < 9 → b i = b' i) (m : Int32) : xplace b m = xplace b' m := by
  rw [xplace, xplace, xrock_cong h, xbc_cong (q := xprs b) (q' := xprs b') (fun i hi => by show 0 < b i ↔ 0 < b' i; rw [h i hi]), xff_cong (q := xovr b m) (q' := xovr b' m) (m := 9) (fun i hi => by show m < b i ↔ m < b' i; rw [h i hi]) 9 (Nat.le_refl 9)]
theorem xmost_cong {b b' : Nat → Int32} (h : ∀ i, i < 9 → b i = b' i) : b (xtop b 8) = b' (xtop b' 8) := by
  have := xtop_le b' 8
  rw [xtop_cong 8 (fun i hi => h i (by omega)), h _ (by omega)]
/-! nothing bears more than the load -/
theorem xdec_hi : ∀ (n : Nat) (b : Nat → Int32) (lo : Int), -1000000 ≤ lo - n → (∀ i, i < 9 → lo ≤ (b i).toInt ∧ (b i).toInt ≤ 2000) → ∀ i, i < 9 → (xdec n b i).toInt ≤ 2000
  | 0, b, lo, _, h, i, hi => (h i hi).2
  | n + 1, b, lo, hn, h, i, hi => by
    rw [xdec]
    refine xdec_hi n _ (lo - 1) (by omega) (fun j hj => ?_) i hi
    have ht := xtop_le b 8
    have h1 := h (xtop b 8) (by omega)
    have h2 := h j hj
    simp only [upd]
    split
    · have e1 : (nI 1).toInt = 1 := by decide
      rw [x_subI (by omega) (by omega), e1]
      omega
    · omega
theorem xbr_hi {G : Nat → Nat} {load : Nat} (h0 : ∃ i, i < 9 ∧ G i = 0) (hl : load ≤ 2000) {i : Nat} (hi : i < 9) : xbr G load i < nI 2001 := by
  obtain ⟨-, hT⟩ := xdepth_ok h0 hl
  have h9 := xsm_le (G := G) (xdepth G load) 9
  have h := xdec_hi (xsm G (xdepth G load) 9 - load) (fun i => nI (xdepth G load - G i)) 0 (by omega) (fun j _ => by
    show 0 ≤ (nI (xdepth G load - G j)).toInt ∧ (nI (xdepth G load - G j)).toInt ≤ 2000
    rw [nI_toInt (by omega)]
    omega) i hi
  rw [Int32.lt_iff_toInt_lt]
  have e : (nI 2001).toInt = 2001 := by decide
  rw [e]
  exact Int.lt_of_le_of_lt h (by decide)
