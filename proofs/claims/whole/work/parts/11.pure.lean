/-- how many of n numbers from place a on are above 0 -/
def xcnt (b : Nat → Int32) (a : Nat) : Nat → Nat
  | 0 => 0
  | n + 1 => xcnt b a n + (if 0 < b (a + n) then 1 else 0)
theorem xcnt_s {b : Nat → Int32} {a i k k' : Nat} (h : a ≤ i) (hk : k = xcnt b a (i - a)) (hc : (¬ b i ≤ 0 ∧ k' = k + 1) ∨ (b i ≤ 0 ∧ k' = k)) : k' = xcnt b a (i + 1 - a) := by
  obtain ⟨j, rfl⟩ : ∃ j, i = a + j := ⟨i - a, by omega⟩
  rw [show a + j - a = j by omega] at hk
  rw [show a + j + 1 - a = j + 1 by omega, xcnt]
  rcases hc with ⟨h1, h2⟩ | ⟨h1, h2⟩
  · rw [if_pos (Int32.not_le.mp h1), h2, hk]
  · rw [if_neg (Int32.not_lt.mpr h1), h2, hk]; rfl
theorem xcnt_le (b : Nat → Int32) (a : Nat) : ∀ n, xcnt b a n ≤ n
  | 0 => Nat.le_refl 0
  | n + 1 => by
    have h := xcnt_le b a n
    rw [xcnt]
    split <;> omega
/-- the least of g 0 .. g n -/
def xmn (g : Nat → Int32) : Nat → Int32
  | 0 => g 0
  | n + 1 => if g (n + 1) < xmn g n then g (n + 1) else xmn g n
theorem xmn_cong {g g' : Nat → Int32} : ∀ n, (∀ i, i ≤ n → g i = g' i) → xmn g n = xmn g' n
  | 0, h => h 0 (Nat.le_refl 0)
  | n + 1, h => by rw [xmn, xmn, xmn_cong n (fun i hi => h i (by omega)), h (n + 1) (Nat.le_refl _)]
/-- what the first n stations bear at depth T -/
def xsm (G : Nat → Nat) (T : Nat) : Nat → Nat
  | 0 => 0
  | n + 1 => xsm G T n + (T - G n)
theorem xsm_mono {G : Nat → Nat} {T T' : Nat} (h : T ≤ T') : ∀ n, xsm G T n ≤ xsm G T' n
  | 0 => Nat.le_refl 0
  | n + 1 => by
    have h1 := xsm_mono (G := G) h n
    rw [xsm, xsm]
    omega
theorem xsm_le {G : Nat → Nat} (T : Nat) : ∀ n, xsm G T n ≤ n * T
  | 0 => by rw [xsm, Nat.zero_mul]; exact Nat.le_refl 0
  | n + 1 => by
    have h := xsm_le (G := G) T n
    rw [xsm, Nat.succ_mul]
    omega
theorem xsm_ge {G : Nat → Nat} {T i : Nat} (h0 : G i = 0) : ∀ n, i < n → T ≤ xsm G T n
  | 0, h => absurd h (Nat.not_lt_zero i)
  | n + 1, h => by
    rw [xsm]
    rcases Nat.lt_or_ge i n with q | q
    · have := xsm_ge (T := T) h0 n q
      omega
    · have : i = n := by omega
      subst this
      omega
theorem x_max0 {a b : Nat} (ha : a < 2 ^ 30) (hb : b < 2 ^ 30) : (if nI 0 < nI a - nI b then nI a - nI b else nI 0) = nI (a - b) := by
  rcases Nat.lt_or_ge b a with h | h
  · rw [pk_sub (by omega), if_pos ((nI_ltI (by omega) (by omega)).mpr (by omega))]
  · rw [show a - b = 0 by omega]
    split
    · next q =>
      rcases Nat.lt_or_ge a b with h2 | h2
      · have := pk_sneg (by omega) h2
        exact absurd (Int32.lt_trans q this) (by decide)
      · have e : a = b := by omega
        subst e
        rw [pk_sub (Nat.le_refl a), Nat.sub_self]
    · rfl
/-- the least depth -/
def xdp (G : Nat → Nat) (load : Nat) : Nat → Nat → Nat
  | 0, T => T
  | f + 1, T => if load ≤ xsm G T 9 then T else xdp G load f (T + 1)
def xdepth (G : Nat → Nat) (load : Nat) : Nat := xdp G load 3000 0
theorem xdp_eq {G : Nat → Nat} {load T : Nat} (h1 : load ≤ xsm G T 9) (h2 : ∀ T', T' < T → xsm G T' 9 < load) : ∀ f S, S ≤ T → T ≤ S + f → xdp G load f S = T
  | 0, S, a, b => by rw [xdp]; omega
  | f + 1, S, a, b => by
    rw [xdp]
    by_cases q : load ≤ xsm G S 9
    · rw [if_pos q]
      rcases Nat.lt_or_ge S T with z | z
      · have := h2 S z
        omega
      · omega
    · rw [if_neg q]
      have : S ≠ T := fun e => q (e ▸ h1)
      exact xdp_eq h1 h2 f (S + 1) (by omega) (by omega)
theorem xdepth_eq {G : Nat → Nat} {load T : Nat} (h1 : load ≤ xsm G T 9) (h2 : ∀ T', T' < T → xsm G T' 9 < load) (h3 : T ≤ 3000) : xdepth G load = T := xdp_eq h1 h2 3000 0 (Nat.zero_le _) (by omega)
theorem xdepth_of {G : Nat → Nat} {load tl : Nat} (h1 : xsm G tl 9 < load) (h2 : load ≤ xsm G (tl + 1) 9) (h3 : tl < 3000) : xdepth G load = tl + 1 := by
  refine xdepth_eq h2 (fun T' h => ?_) (by omega)
  exact Nat.lt_of_le_of_lt (xsm_mono (by omega) 9) h1
/-- the first of the greatest of b 0 .. b n -/
def xtop (b : Nat → Int32) : Nat → Nat
  | 0 => 0
  | n + 1 => if b (xtop b n) < b (n + 1) then n + 1 else xtop b n
theorem xtop_le (b : Nat → Int32) : ∀ n, xtop b n ≤ n
  | 0 => Nat.le_refl 0
  | n + 1 => by
    have h := xtop_le b n
    rw [xtop]
    split <;> omega
theorem xtop_cong {b b' : Nat → Int32} : ∀ n, (∀ i, i ≤ n → b i = b' i) → xtop b n = xtop b' n
  | 0, _ => rfl
  | n + 1, h => by
    have e := xtop_cong n (fun i hi => h i (by omega))
    have := xtop_le b' n
    rw [xtop, xtop, e, h (xtop b' n) (by omega), h (n + 1) (Nat.le_refl _)]
/-- n times one less at the first of the greatest -/
def xdec : Nat → (Nat → Int32) → Nat → Int32
  | 0, b => b
  | n + 1, b => xdec n (upd b (xtop b 8) (b (xtop b 8) - nI 1))
theorem xdec_cong : ∀ (n : Nat) {b b' : Nat → Int32}, (∀ i, i < 9 → b i = b' i) → ∀ i, i < 9 → xdec n b i = xdec n b' i
  | 0, _, _, h, i, hi => h i hi
  | n + 1, b, b', h, i, hi => by
    rw [xdec, xdec]
    have e := xtop_cong 8 (fun i hi => h i (by omega))
    have := xtop_le b' 8
    refine xdec_cong n (fun j hj => ?_) i hi
    rw [e, h (xtop b' 8) (by omega)]
    simp only [upd]
    split
    · rfl
    · exact h j hj
def xbr (G : Nat → Nat) (load : Nat) : Nat → Int32 := xdec (xsm G (xdepth G load) 9 - load) (fun i => nI (xdepth G load - G i))
/-- a place: none, or one less -/
def xfv (k : Nat) : Int32 := if k = 0 then -1 else nI (k - 1)
theorem xfv_0 : xfv 0 = -1 := rfl
theorem xfv_s (k : Nat) : xfv (k + 1) = nI k := by rw [xfv, if_neg (by omega)]; rfl
theorem xfv_ne {k : Nat} (h0 : k ≠ 0) (h : k < 2 ^ 31) : xfv k ≠ -1 := by
  obtain ⟨j, rfl⟩ : ∃ j, k = j + 1 := ⟨k - 1, by omega⟩
  rw [xfv_s]
  intro q
  have : nI j < 0 := by rw [q]; decide
  exact nI_pos (by omega) this
/-- the first of n with q: its place and one, or 0 -/
def xff (q : Nat → Prop) [DecidablePred q] : Nat → Nat
  | 0 => 0
  | n + 1 => if xff q n ≠ 0 then xff q n else if q n then n + 1 else 0
theorem xff_le (q : Nat → Prop) [DecidablePred q] : ∀ n, xff q n ≤ n
  | 0 => Nat.le_refl 0
  | n + 1 => by
    have := xff_le q n
    rw [xff]
    split
    · omega
    · split <;> omega
theorem xff_stay {q : Nat → Prop} [DecidablePred q] {i : Nat} (h : xff q i ≠ 0) : ∀ n, i ≤ n → xff q n = xff q i
  | 0, hn => by rw [show i = 0 by omega]
  | n + 1, hn => by
    rcases Nat.lt_or_ge i (n + 1) with z | z
    · have e := xff_stay h n (by omega)
      rw [xff, e, if_pos h]
    · rw [show i = n + 1 by omega]
theorem xff_hit {q : Nat → Prop} [DecidablePred q] {i n : Nat} (h0 : xff q i = 0) (hq : q i) (hn : i < n) : xff q n = i + 1 := by
  have e : xff q (i + 1) = i + 1 := by rw [xff, h0, if_neg (by omega), if_pos hq]
  rw [xff_stay (by rw [e]; omega) n hn, e]
theorem xff_miss {q : Nat → Prop} [DecidablePred q] {i : Nat} (h0 : xff q i = 0) (hq : ¬ q i) : xff q (i + 1) = 0 := by rw [xff, h0, if_neg (by omega), if_neg hq]
/-- of the first n the last that is pressed: its place and one, or 0 -/
def xlp (p : Nat → Prop) [DecidablePred p] : Nat → Nat
  | 0 => 0
  | n + 1 => if p n then n + 1 else xlp p n
theorem xlp_le (p : Nat → Prop) [DecidablePred p] : ∀ n, xlp p n ≤ n
  | 0 => Nat.le_refl 0
  | n + 1 => by
    have := xlp_le p n
    rw [xlp]
    split <;> omega
abbrev xbq (p : Nat → Prop) [DecidablePred p] : Nat → Prop := fun i => p i ∧ xlp p i ≠ 0 ∧ 3 < i + 1 - xlp p i
/-- where it bridges, and one; 0 -/
def xbc (p : Nat → Prop) [DecidablePred p] : Nat := if xff (xbq p) 9 = 0 then 0 else xlp p (xff (xbq p) 9 - 1) + 1
theorem xbc_hit {p : Nat → Prop} [DecidablePred p] {i : Nat} (h0 : xff (xbq p) i = 0) (h : xbq p i) (hi : i < 9) : xfv (xbc p) = nI (xlp p i) := by
  have e := xff_hit h0 h hi
  rw [xbc, e, if_neg (by omega), xfv_s]
  rfl
theorem xlp_val {p : Nat → Prop} [DecidablePred p] {i : Nat} {lp : Int32} (hi : i < 9) (hlp : lp = xfv (xlp p i)) (h1 : ¬ lp = -1) (h2 : nI 3 < nI i - lp) : xlp p i ≠ 0 ∧ 3 < i + 1 - xlp p i ∧ lp + nI 1 = nI (xlp p i) := by
  have hle := xlp_le p i
  have h0 : xlp p i ≠ 0 := fun q => h1 (by rw [hlp, q]; rfl)
  obtain ⟨k, hk⟩ : ∃ k, xlp p i = k + 1 := ⟨xlp p i - 1, by omega⟩
  rw [hk, xfv_s] at hlp
  subst hlp
  rw [pk_sub (by omega)] at h2
  have := (nI_ltI (by omega) (by omega)).mp h2
  refine ⟨h0, by omega, ?_⟩
  rw [hk, nI_add]
theorem xlp_not {p : Nat → Prop} [DecidablePred p] {i : Nat} {lp : Int32} (hi : i < 9) (hlp : lp = xfv (xlp p i)) (h : lp = -1 ∨ nI i - lp ≤ nI 3) : ¬ xbq p i := by
  rintro ⟨-, h0, h3⟩
  have hle := xlp_le p i
  obtain ⟨k, hk⟩ : ∃ k, xlp p i = k + 1 := ⟨xlp p i - 1, by omega⟩
  rcases h with h | h
  · rw [hlp] at h
    exact xfv_ne h0 (by omega) h
  · rw [hk, xfv_s] at hlp
    subst hlp
    rw [pk_sub (by omega)] at h
    have := (nI_leI (by omega) (by omega)).mp h
    omega
def xrock (b : Nat → Int32) : Int32 := if xcnt b 0 3 = 0 then nI 0 else if xcnt b 6 3 = 0 then nI 6 else -1
abbrev xprs (b : Nat → Int32) : Nat → Prop := fun i => 0 < b i
abbrev xovr (b : Nat → Int32) (m : Int32) : Nat → Prop := fun i => m < b i
def xfault (b : Nat → Int32) (m : Int32) : Nat := if xff (xovr b m) 9 ≠ 0 then 1 else if xbc (xprs b) ≠ 0 then 2 else if xrock b ≠ -1 then 3 else 0
def xplace (b : Nat → Int32) (m : Int32) : Int32 := if xff (xovr b m) 9 ≠ 0 then xfv (xff (xovr b m) 9) else if xbc (xprs b) ≠ 0 then xfv (xbc (xprs b)) else if xrock b ≠ -1 then xrock b else -1
theorem xtop_s {b : Nat → Int32} {i k k' : Nat} (h : 1 ≤ i) (hk : k = xtop b (i - 1)) (hc : (¬ b i ≤ b k ∧ k' = i) ∨ (b i ≤ b k ∧ k' = k)) : k' = xtop b (i + 1 - 1) := by
  obtain ⟨j, rfl⟩ : ∃ j, i = j + 1 := ⟨i - 1, by omega⟩
  rw [show j + 1 - 1 = j by omega] at hk
  rw [show j + 1 + 1 - 1 = j + 1 by omega, xtop, ← hk]
  rcases hc with ⟨h1, h2⟩ | ⟨h1, h2⟩
  · rw [if_pos (Int32.not_le.mp h1), h2]
  · rw [if_neg (Int32.not_lt.mpr h1), h2]
theorem nI_z {n : Nat} (h : n < 2 ^ 31) (h0 : ¬ ¬ nI n = 0) : n = 0 := (nI_eq h (by decide)).mp (Decidable.of_not_not h0)
theorem nI_nz {n : Nat} (h0 : ¬ nI n = 0) : ¬ n = 0 := fun q => h0 (by rw [q]; rfl)
theorem nI_le0 {n : Nat} (h : n < 2 ^ 31) (h0 : nI n ≤ 0) : n = 0 := by
  have := (nI_leI h (by decide : 0 < 2 ^ 31)).mp h0
  omega
theorem xfv_nz {k : Nat} (h : ¬ xfv k = -1) : k ≠ 0 := fun q => h (by rw [q]; rfl)
theorem xfv_z {k : Nat} (hk : k < 2 ^ 31) (h : xfv k = -1) : ¬ k ≠ 0 := fun q => xfv_ne q hk h
theorem xbc_le (p : Nat → Prop) [DecidablePred p] : xbc p ≤ 9 := by
  rw [xbc]
  split
  · omega
  · have h1 := xff_le (xbq p) 9
    have h2 := xlp_le p (xff (xbq p) 9 - 1)
    omega
theorem xfault_4 (b : Nat → Int32) (m : Int32) : nI (xfault b m) = nI 0 ∨ nI (xfault b m) = nI 1 ∨ nI (xfault b m) = nI 2 ∨ nI (xfault b m) = nI 3 := by
  rw [xfault]
  split
  · exact Or.inr (Or.inl rfl)
  · split
    · exact Or.inr (Or.inr (Or.inl rfl))
    · split
      · exact Or.inr (Or.inr (Or.inr rfl))
      · exact Or.inl rfl
theorem xfault_lt (b : Nat → Int32) (m : Int32) : xfault b m < 4 := by
  rw [xfault]
  split
  · decide
  · split
    · decide
    · split <;> decide
theorem xplace_k (b : Nat → Int32) (m : Int32) : xplace b m = if xfault b m = 1 then xfv (xff (xovr b m) 9) else if xfault b m = 2 then xfv (xbc (xprs b)) else if xfault b m = 3 then xrock b else -1 := by
  by_cases h1 : xff (xovr b m) 9 ≠ 0
  · have e : xfault b m = 1 := by rw [xfault, if_pos h1]
    rw [e, xplace, if_pos h1, if_pos rfl]
  · by_cases h2 : xbc (xprs b) ≠ 0
    · have e : xfault b m = 2 := by rw [xfault, if_neg h1, if_pos h2]
      rw [e, xplace, if_neg h1, if_pos h2, if_neg (by decide), if_pos rfl]
    · by_cases h3 : xrock b ≠ -1
      · have e : xfault b m = 3 := by rw [xfault, if_neg h1, if_neg h2, if_pos h3]
        rw [e, xplace, if_neg h1, if_neg h2, if_pos h3, if_neg (by decide), if_neg (by decide), if_pos rfl]
      · have e : xfault b m = 0 := by rw [xfault, if_neg h1, if_neg h2, if_neg h3]
        rw [e, xplace, if_neg h1, if_neg h2, if_neg h3, if_neg (by decide), if_neg (by decide), if_neg (by decide)]
theorem xsm_0 (G : Nat → Nat) : ∀ n, xsm G 0 n = 0
  | 0 => rfl
  | n + 1 => by rw [xsm, xsm_0 G n]; omega
theorem xdp_h4 {G : Nat → Nat} {tl st load tl' : Nat} (h1 : st = 1024 ∨ st = 512 ∨ st = 256 ∨ st = 128 ∨ st = 64 ∨ st = 32 ∨ st = 16 ∨ st = 8 ∨ st = 4 ∨ st = 2 ∨ st = 1 ∨ st = 0) (h5 : load ≤ xsm G (tl + 2 * st) 9 ∨ st = 0) (h0 : st ≠ 0) (hc : (xsm G (tl + st) 9 < load ∧ tl' = tl + st) ∨ (load ≤ xsm G (tl + st) 9 ∧ tl' = tl)) : st / 2 = 0 → load ≤ xsm G (tl' + 1) 9 := by
  intro h
  have e : st = 1 := by omega
  subst e
  rcases hc with ⟨a, b⟩ | ⟨a, b⟩
  · rw [b]
    rcases h5 with h5 | h5
    · exact h5
    · omega
  · rw [b]; exact a
theorem xdp_h5 {G : Nat → Nat} {tl st load tl' : Nat} (h1 : st = 1024 ∨ st = 512 ∨ st = 256 ∨ st = 128 ∨ st = 64 ∨ st = 32 ∨ st = 16 ∨ st = 8 ∨ st = 4 ∨ st = 2 ∨ st = 1 ∨ st = 0) (h5 : load ≤ xsm G (tl + 2 * st) 9 ∨ st = 0) (h0 : st ≠ 0) (hc : (xsm G (tl + st) 9 < load ∧ tl' = tl + st) ∨ (load ≤ xsm G (tl + st) 9 ∧ tl' = tl)) : load ≤ xsm G (tl' + 2 * (st / 2)) 9 ∨ st / 2 = 0 := by
  by_cases q : st = 1
  · exact Or.inr (by omega)
  · have e : 2 * (st / 2) = st := by omega
    rw [e]
    rcases h5 with h5 | h5
    · rcases hc with ⟨a, b⟩ | ⟨a, b⟩
      · rw [b, show tl + st + st = tl + 2 * st by omega]
        exact Or.inl h5
      · rw [b]; exact Or.inl a
    · omega
theorem xdepth_ok {G : Nat → Nat} {load : Nat} (h0 : ∃ i, i < 9 ∧ G i = 0) (hl : load ≤ 2000) : load ≤ xsm G (xdepth G load) 9 ∧ xdepth G load ≤ 2000 := by
  obtain ⟨i, hi, hz⟩ := h0
  have h2 : load ≤ xsm G 2000 9 := Nat.le_trans hl (xsm_ge hz 9 hi)
  obtain ⟨T, h3, h4⟩ := pk_least (fun T => load ≤ xsm G T 9) ⟨2000, h2⟩
  have h5 : T ≤ 2000 := Nat.not_lt.mp (fun q => h4 2000 q h2)
  have e := xdepth_eq (load := load) h3 (fun T' q => Nat.not_le.mp (h4 T' q)) (by omega)
  rw [e]
  exact ⟨h3, h5⟩
theorem upd_lt {g f : Nat → Int32} {i : Nat} {x : Int32} (h : ∀ j, j < i → g j = f j) (hx : x = f i) : ∀ j, j < i + 1 → upd g i x j = f j := by
  intro j hj
  simp only [upd]
  split
  · next e => rw [e, hx]
  · exact h j (by omega)
theorem xmn_s {g : Nat → Int32} {i : Nat} {m : Int32} (h : 1 ≤ i) (hm : m = xmn g (i - 1)) : (if g i < m then g i else m) = xmn g (i + 1 - 1) := by
  obtain ⟨j, rfl⟩ : ∃ j, i = j + 1 := ⟨i - 1, by omega⟩
  rw [show j + 1 - 1 = j by omega] at hm
  rw [show j + 1 + 1 - 1 = j + 1 by omega, xmn, hm]
theorem upd_sub {g g2 : Nat → Int32} {i : Nat} {m : Int32} (h : ∀ j, j < 9 → g2 j = if j < i then g j - m else g j) (hi : i < 9) : ∀ j, j < 9 → upd g2 i (g2 i - m) j = if j < i + 1 then g j - m else g j := by
  intro j hj
  simp only [upd]
  by_cases e : j = i
  · subst e
    rw [if_pos rfl, if_pos (by omega), h j hj, if_neg (Nat.lt_irrefl j)]
  · rw [if_neg e, h j hj]
    by_cases q : j < i
    · rw [if_pos q, if_pos (by omega)]
    · rw [if_neg q, if_neg (by omega)]
theorem nI_gt0 {n : Nat} (h0 : ¬ nI n ≤ 0) : 1 ≤ n := by
  rcases Nat.eq_zero_or_pos n with h | h
  · rw [h] at h0
    exact absurd (by decide) h0
  · exact h
theorem xdec_n {n : Nat} {b f : Nat → Int32} (h : 1 ≤ n) (hb : ∀ j, j < 9 → xdec n b j = f j) : ∀ j, j < 9 → xdec (n - 1) (upd b (xtop b 8) (b (xtop b 8) - nI 1)) j = f j := by
  obtain ⟨k, rfl⟩ : ∃ k, n = k + 1 := ⟨n - 1, by omega⟩
  exact hb
theorem x_two {w : xM} {t t1 : Nat} {e e1 e' e1' : va_E} (h : t ≠ t1) : xup (xup (xup (xup w t e) t1 e1) t e') t1 e1' = xup (xup w t e') t1 e1' := by rw [x_norm1 h, xup_xup]
theorem x_dec {n : Nat} (h : 1 ≤ n) : nI n + Int32.ofInt (-1) = nI (n - 1) := by
  obtain ⟨k, rfl⟩ : ∃ k, n = k + 1 := ⟨n - 1, by omega⟩
  exact pk_m1 k
/-! hides -/
abbrev xfit (P : Nat → Int32) (wd ht q : Nat) : Prop := ∀ y, y < ht → ∀ x, x < wd → P (q + 16 * y + x) = 0
theorem xfit_y {P : Nat → Int32} {q wd y : Nat} (h : ∀ y', y' < y → ∀ x, x < wd → P (q + 16 * y' + x) = 0) {x0 : Nat} (hx : wd ≤ x0) (h2 : ∀ x', x' < x0 → P (q + 16 * y + x') = 0) : ∀ y', y' < y + 1 → ∀ x, x < wd → P (q + 16 * y' + x) = 0 := by
  intro y' hy x hxw
  by_cases e : y' = y
  · subst e; exact h2 x (by omega)
  · exact h y' (by omega) x hxw
theorem xfit_x {P : Nat → Int32} {q x : Nat} (h : ∀ x', x' < x → P (q + x') = 0) (h0 : P (q + x) = 0) : ∀ x', x' < x + 1 → P (q + x') = 0 := by
  intro x' hx
  by_cases e : x' = x
  · subst e; exact h0
  · exact h x' (by omega)
def xroom (P : Nat → Int32) (wd ht : Nat) (r : Int32) : Prop := (∃ y x, y + ht ≤ 12 ∧ x + wd ≤ 16 ∧ r = nI (16 * y + x) ∧ xfit P wd ht (16 * y + x) ∧ ∀ y' x', y' + ht ≤ 12 → x' + wd ≤ 16 → 16 * y' + x' < 16 * y + x → ¬ xfit P wd ht (16 * y' + x')) ∨ (r = -1 ∧ ∀ y' x', y' + ht ≤ 12 → x' + wd ≤ 16 → ¬ xfit P wd ht (16 * y' + x'))
theorem xroom_y {P : Nat → Int32} {wd ht y x : Nat} (h2 : ∀ y' x', y' + ht ≤ 12 → x' + wd ≤ 16 → y' < y → ¬ xfit P wd ht (16 * y' + x')) (h4 : ∀ x', x' + wd ≤ 16 → x' < x → ¬ xfit P wd ht (16 * y + x')) (hx : 16 < x + wd) : ∀ y' x', y' + ht ≤ 12 → x' + wd ≤ 16 → y' < y + 1 → ¬ xfit P wd ht (16 * y' + x') := by
  intro y' x' a b c
  by_cases e : y' = y
  · subst e; exact h4 x' b (by omega)
  · exact h2 y' x' a b (by omega)
theorem xroom_x {P : Nat → Int32} {wd ht y x : Nat} (h4 : ∀ x', x' + wd ≤ 16 → x' < x → ¬ xfit P wd ht (16 * y + x')) (h : ¬ xfit P wd ht (16 * y + x)) : ∀ x', x' + wd ≤ 16 → x' < x + 1 → ¬ xfit P wd ht (16 * y + x') := by
  intro x' a b
  by_cases e : x' = x
  · subst e; exact h
  · exact h4 x' a (by omega)
theorem xroom_e {P : Nat → Int32} {wd ht y x : Nat} (hx : x < 16 ∨ 1 ≤ wd ∧ x + wd ≤ 16) (h2 : ∀ y' x', y' + ht ≤ 12 → x' + wd ≤ 16 → y' < y → ¬ xfit P wd ht (16 * y' + x')) (h4 : ∀ x', x' + wd ≤ 16 → x' < x → ¬ xfit P wd ht (16 * y + x')) : ∀ y' x', y' + ht ≤ 12 → x' + wd ≤ 16 → 16 * y' + x' < 16 * y + x → ¬ xfit P wd ht (16 * y' + x') := by
  intro y' x' a b c
  by_cases e : y' = y
  · subst e; exact h4 x' b (by omega)
  · exact h2 y' x' a b (by omega)
theorem xroom_1 {P : Nat → Int32} {wd ht : Nat} {r r' : Int32} (hw : 1 ≤ wd) (h : xroom P wd ht r) (h' : xroom P wd ht r') : r = r' := by
  rcases h with ⟨y, x, a1, a2, a3, a4, a5⟩ | ⟨a1, a2⟩ <;> rcases h' with ⟨y', x', b1, b2, b3, b4, b5⟩ | ⟨b1, b2⟩
  · rcases Nat.lt_trichotomy (16 * y + x) (16 * y' + x') with q | q | q
    · exact absurd a4 (b5 y x a1 a2 q)
    · rw [a3, b3, q]
    · exact absurd b4 (a5 y' x' b1 b2 q)
  · exact absurd a4 (b2 y x a1 a2)
  · exact absurd b4 (a2 y' x' b1 b2)
  · rw [a1, b1]
def xrec (qy qx wd ht j : Nat) : Prop := qy ≤ j / 16 ∧ j / 16 < qy + ht ∧ qx ≤ j % 16 ∧ j % 16 < qx + wd
def xmk (P : Nat → Int32) (qy qx wd ht : Nat) (sg : Int32) : Nat → Int32 := fun j => if qy ≤ j / 16 ∧ j / 16 < qy + ht ∧ qx ≤ j % 16 ∧ j % 16 < qx + wd then sg else P j
def xmk2 (P : Nat → Int32) (qy qx wd y x : Nat) (sg : Int32) : Nat → Int32 := fun j => if j / 16 = qy + y ∧ qx ≤ j % 16 ∧ j % 16 < qx + x then sg else xmk P qy qx wd y sg j
theorem xmk_0 (P : Nat → Int32) (qy qx wd : Nat) (sg : Int32) : xmk P qy qx wd 0 sg = P := by
  funext j
  rw [xmk, if_neg (by omega)]
theorem xmk2_0 (P : Nat → Int32) (qy qx wd y : Nat) (sg : Int32) : xmk2 P qy qx wd y 0 sg = xmk P qy qx wd y sg := by
  funext j
  rw [xmk2, if_neg (by omega)]
theorem xmk2_s {P : Nat → Int32} {qy qx wd y x : Nat} {sg : Int32} (h : qx + x < 16) : upd (xmk2 P qy qx wd y x sg) (16 * qy + qx + 16 * y + x) sg = xmk2 P qy qx wd y (x + 1) sg := by
  funext j
  simp only [upd, xmk2]
  by_cases e : j = 16 * qy + qx + 16 * y + x
  · rw [if_pos e, if_pos (by omega)]
  · rw [if_neg e]
    by_cases q : j / 16 = qy + y ∧ qx ≤ j % 16 ∧ j % 16 < qx + x
    · rw [if_pos q, if_pos (by omega)]
    · rw [if_neg q, if_neg (by omega)]
theorem xmk_y {P b : Nat → Int32} {qy qx wd y x : Nat} {sg : Int32} (h : b = xmk2 P qy qx wd y x sg) (hx : x = wd) (_h9 : qx + wd ≤ 16) : b = xmk P qy qx wd (y + 1) sg := by
  subst hx
  rw [h]
  funext j
  simp only [xmk2, xmk]
  by_cases q : j / 16 = qy + y ∧ qx ≤ j % 16 ∧ j % 16 < qx + x
  · rw [if_pos q, if_pos (by omega)]
  · rw [if_neg q]
    by_cases z : qy ≤ j / 16 ∧ j / 16 < qy + y ∧ qx ≤ j % 16 ∧ j % 16 < qx + x
    · rw [if_pos z, if_pos (by omega)]
    · rw [if_neg z, if_neg (by omega)]
/-! benches -/
def xend (h0 f0 n d : Int32) : Int32 := (if d * h0 < f0 then f0 else d * h0) + n
def xprom (h0 f0 n d : Int32) : Int32 := if h0 < nI 1 then nI 100001 else (xend h0 f0 n d - nI 1) / h0
/-! digests -/
def xmx (f : Nat → Int32) : Nat → Int64 → Int64
  | 0, h => h
  | n + 1, h => 31 * xmx f n h + (f n).toInt64
def xmxs (s0 s1 s2 s3 s4 : Int32) (h : Int64) : Int64 := 31 * (31 * (31 * (31 * (31 * h + s0.toInt64) + s1.toInt64) + s2.toInt64) + s3.toInt64) + s4.toInt64
def xhx (dy : Nat → Int32) (hs : Nat → Nat → Int32) : Nat → Int64 → Int64
  | 0, h => h
  | n + 1, h => xmx (hs n) 9 (31 * xhx dy hs n h + (dy n).toInt64)
/-! backs -/
def xlo (ad : Nat → Nat) (dy : Nat → Int32) (d : Int32) : Nat → Option Nat
  | 0 => none
  | n + 1 => if dy n ≤ d then some (ad n) else xlo ad dy d n
/-- the first place from i on, of n, that is no gap -/
def xnx (f : Nat → Int32) (i : Nat) : Nat → Nat
  | 0 => i
  | n + 1 => if f i = -1 then xnx f (i + 1) n else i
theorem xnx_s {f : Nat → Int32} {a i : Nat} (h1 : i < 9) (h2 : a ≤ i) (h3 : xnx f a 9 = xnx f i (9 - (i - a))) (h : f i = -1) : xnx f a 9 = xnx f (i + 1) (9 - (i + 1 - a)) := by
  rw [h3]
  obtain ⟨n, hn⟩ : ∃ n, 9 - (i - a) = n + 1 := ⟨9 - (i - a) - 1, by omega⟩
  rw [hn, xnx, if_pos h, show 9 - (i + 1 - a) = n by omega]
theorem xnx_h {f : Nat → Int32} {i n : Nat} (hn : 1 ≤ n) (h : ¬ f i = -1) : xnx f i n = i := by
  obtain ⟨k, rfl⟩ : ∃ k, n = k + 1 := ⟨n - 1, by omega⟩
  rw [xnx, if_neg h]
theorem xnx_st (f : Nat → Int32) (b : Nat) (hb : ¬ f b = -1) : ∀ n a, a ≤ b → b < a + n → xnx f a n ≤ b
  | 0, a, h1, h2 => by omega
  | n + 1, a, h1, h2 => by
    rw [xnx]
    split
    · next e =>
      have : a ≠ b := fun q => hb (q ▸ e)
      exact xnx_st f b hb n (a + 1) (by omega) (by omega)
    · exact h1
theorem xnx_ge (f : Nat → Int32) : ∀ n a, a ≤ xnx f a n
  | 0, a => Nat.le_refl a
  | n + 1, a => by
    rw [xnx]
    split
    · exact Nat.le_trans (Nat.le_succ a) (xnx_ge f n (a + 1))
    · exact Nat.le_refl a
theorem xnx_n {f : Nat → Int32} {a i : Nat} (h1 : i = 9) (h2 : a ≤ 8) (h8 : 1 ≤ 9 - (8 - a)) (h3 : xnx f a 9 = xnx f i (9 - (i - a))) : f 8 = -1 := by
  apply Decidable.byContradiction
  intro q
  have e1 := xnx_st f 8 q 9 a h2 (by omega)
  have e2 := xnx_ge f (9 - (i - a)) i
  omega

theorem nI_z2 {n : Nat} (h : n < 2 ^ 31) (h0 : nI n = 0) : n = 0 := (nI_eq h (by decide)).mp h0
theorem xrock_0 {b : Nat → Int32} (h : xcnt b 0 3 = 0) : nI 0 = xrock b := by rw [xrock, if_pos h]
theorem xrock_6 {b : Nat → Int32} (h : ¬ xcnt b 0 3 = 0) (h2 : xcnt b 6 3 = 0) : nI 6 = xrock b := by rw [xrock, if_neg h, if_pos h2]
theorem xrock_n {b : Nat → Int32} (h : ¬ xcnt b 0 3 = 0) (h2 : ¬ xcnt b 6 3 = 0) : (-1) = xrock b := by rw [xrock, if_neg h, if_neg h2]
theorem xfault_1 {b : Nat → Int32} {m : Int32} (h1 : xff (xovr b m) 9 ≠ 0) : nI 1 = nI (xfault b m) := by rw [xfault, if_pos h1]
theorem xfault_2 {b : Nat → Int32} {m : Int32} (h1 : ¬ xff (xovr b m) 9 ≠ 0) (h2 : xbc (xprs b) ≠ 0) : nI 2 = nI (xfault b m) := by rw [xfault, if_neg h1, if_pos h2]
theorem xfault_3 {b : Nat → Int32} {m : Int32} (h1 : ¬ xff (xovr b m) 9 ≠ 0) (h2 : ¬ xbc (xprs b) ≠ 0) (h3 : ¬ xrock b = -1) : nI 3 = nI (xfault b m) := by rw [xfault, if_neg h1, if_neg h2, if_pos h3]
theorem xfault_0 {b : Nat → Int32} {m : Int32} (h1 : ¬ xff (xovr b m) 9 ≠ 0) (h2 : ¬ xbc (xprs b) ≠ 0) (h3 : xrock b = -1) : nI 0 = nI (xfault b m) := by rw [xfault, if_neg h1, if_neg h2, if_neg (fun q => q h3)]
theorem xplace_e {b : Nat → Int32} {m : Int32} {k : Nat} (hk : k < 4) (h : nI (xfault b m) = nI k) : xfault b m = k := (nI_eq (Nat.lt_trans (xfault_lt b m) (by decide)) (Nat.lt_trans hk (by decide))).mp h
theorem xplace_1 {b : Nat → Int32} {m : Int32} (h : nI (xfault b m) = nI 1) : xfv (xff (xovr b m) 9) = xplace b m := by rw [xplace_k, xplace_e (by decide) h, if_pos rfl]
theorem xplace_2 {b : Nat → Int32} {m : Int32} (h : nI (xfault b m) = nI 2) : xfv (xbc (xprs b)) = xplace b m := by rw [xplace_k, xplace_e (by decide) h, if_neg (by decide), if_pos rfl]
theorem xplace_3 {b : Nat → Int32} {m : Int32} (h : nI (xfault b m) = nI 3) : xrock b = xplace b m := by rw [xplace_k, xplace_e (by decide) h, if_neg (by decide), if_neg (by decide), if_pos rfl]
theorem xplace_0 {b : Nat → Int32} {m : Int32} (h : nI (xfault b m) = nI 0) : (-1) = xplace b m := by rw [xplace_k, xplace_e (by decide) h, if_neg (by decide), if_neg (by decide), if_neg (by decide)]
