/-! cut, pair, work -/
theorem nI_m1 {n : Nat} (h : n < 2 ^ 31) : ¬ nI n = -1 := fun q => by
  have e := congrArg Int32.toInt q
  rw [nI_toInt h, show (-1 : Int32).toInt = -1 from rfl] at e
  omega
noncomputable def xrf (P : Nat → Int32) (wd ht : Nat) : Int32 := Classical.epsilon (xroom P wd ht)
theorem xrf_eq {P : Nat → Int32} {wd ht : Nat} {r : Int32} (hw : 1 ≤ wd) (h : xroom P wd ht r) : r = xrf P wd ht := xroom_1 hw h (Classical.epsilon_spec (p := xroom P wd ht) ⟨r, h⟩)
def xmh (f : Nat → Int32) (kh qy qx wd ht : Nat) (sg : Int32) : Nat → Int32 := fun i => if i / 192 = kh then xmk (xsl 192 f (192 * kh)) qy qx wd ht sg (i % 192) else f i
theorem xsl_xmh {f : Nat → Int32} {kh qy qx wd ht : Nat} {sg : Int32} (h : qy + ht ≤ 12) : xsl 192 (xmh f kh qy qx wd ht sg) (192 * kh) = xmk (xsl 192 f (192 * kh)) qy qx wd ht sg := by
  funext i
  by_cases hi : i < 192
  · rw [xsl_at hi, xmh, if_pos (by omega), show (192 * kh + i) % 192 = i by omega]
  · rw [xmk, if_neg (by omega)]
    show (if i < 192 then _ else _) = if i < 192 then _ else _
    rw [if_neg hi, if_neg hi]
theorem xsl_xmh_ne {f : Nat → Int32} {k kh qy qx wd ht : Nat} {sg : Int32} (h : k ≠ kh) : xsl 192 (xmh f kh qy qx wd ht sg) (192 * k) = xsl 192 f (192 * k) := by
  funext i
  by_cases hi : i < 192
  · rw [xsl_at hi, xsl_at hi, xmh, if_neg (by omega)]
  · show (if i < 192 then _ else _) = if i < 192 then _ else _
    rw [if_neg hi, if_neg hi]
theorem xmk_undo {P : Nat → Int32} {qy qx wd ht : Nat} {a : Int32} (hx : qx + wd ≤ 16) (h : xfit P wd ht (16 * qy + qx)) : xmk (xmk P qy qx wd ht a) qy qx wd ht (nI 0) = P := by
  funext j
  rw [xmk]
  by_cases q : qy ≤ j / 16 ∧ j / 16 < qy + ht ∧ qx ≤ j % 16 ∧ j % 16 < qx + wd
  · rw [if_pos q]
    have e := h (j / 16 - qy) (by omega) (j % 16 - qx) (by omega)
    rw [show 16 * qy + qx + 16 * (j / 16 - qy) + (j % 16 - qx) = j by omega] at e
    rw [e]; rfl
  · rw [if_neg q, xmk, if_neg q]
def xct (σ : xS) (kh wd ht : Nat) (r : Int32) : Int32 × xS := if r = -1 then (-1, σ) else (r, xa2 (xa1 σ 6 (xmh (σ.1 6) kh (r.toNatClampNeg / 16) (r.toNatClampNeg % 16) wd ht (nI 2))) 6 (σ.2 6 + wd * ht))
noncomputable def sp_cut (σ : xS) (h wd ht : Int32) : Int32 × xS := if ¬ (nI 0 ≤ h ∧ h < nI (σ.2 2)) then (-101, σ) else if ¬ (nI 1 ≤ wd ∧ wd ≤ nI 16) ∨ ¬ (nI 1 ≤ ht ∧ ht ≤ nI 12) then (-102, σ) else xct σ h.toNatClampNeg wd.toNatClampNeg ht.toNatClampNeg (xrf (xsl 192 (σ.1 6) (192 * h.toNatClampNeg)) wd.toNatClampNeg ht.toNatClampNeg)
def xp2 (σ : xS) (kh wd ht : Nat) (r q : Int32) : Int32 × xS := if q = -1 then (-1, σ) else (r + nI 256 * q, xa2 (xa1 σ 6 (xmh (xmh (σ.1 6) kh (r.toNatClampNeg / 16) (r.toNatClampNeg % 16) wd ht (nI 2)) kh (q.toNatClampNeg / 16) (q.toNatClampNeg % 16) wd ht (nI 2))) 6 (σ.2 6 + 2 * wd * ht))
noncomputable def xp1 (σ : xS) (kh wd ht : Nat) (r : Int32) : Int32 × xS := if r = -1 then (-1, σ) else xp2 σ kh wd ht r (xrf (xmk (xsl 192 (σ.1 6) (192 * kh)) (r.toNatClampNeg / 16) (r.toNatClampNeg % 16) wd ht (nI 2)) wd ht)
noncomputable def sp_pair (σ : xS) (h wd ht : Int32) : Int32 × xS := if ¬ (nI 0 ≤ h ∧ h < nI (σ.2 2)) then (-101, σ) else if ¬ (nI 1 ≤ wd ∧ wd ≤ nI 16) ∨ ¬ (nI 1 ≤ ht ∧ ht ≤ nI 12) then (-102, σ) else xp1 σ h.toNatClampNeg wd.toNatClampNeg ht.toNatClampNeg (xrf (xsl 192 (σ.1 6) (192 * h.toNatClampNeg)) wd.toNatClampNeg ht.toNatClampNeg)
/-- the bench of the first m that can promise the earliest day, and that day -/
def xwb (σ : xS) (n d : Int32) : Nat → Int32 × Int32
  | 0 => (-1, nI 100001)
  | m + 1 => if xprom (σ.1 7 m) (σ.1 8 m) n d < (xwb σ n d m).2 then (nI m, xprom (σ.1 7 m) (σ.1 8 m) n d) else xwb σ n d m
theorem xwb_y {σ : xS} {n d a z : Int32} {m : Nat} (h : (a, z) = xwb σ n d m) (h1 : xprom (σ.1 7 m) (σ.1 8 m) n d < z) : (nI m, xprom (σ.1 7 m) (σ.1 8 m) n d) = xwb σ n d (m + 1) := by rw [xwb, ← h, if_pos h1]
theorem xwb_n {σ : xS} {n d a z : Int32} {m : Nat} (h : (a, z) = xwb σ n d m) (h1 : ¬ xprom (σ.1 7 m) (σ.1 8 m) n d < z) : (a, z) = xwb σ n d (m + 1) := by rw [xwb, ← h, if_neg h1]
theorem xwb_or (σ : xS) (n d : Int32) : ∀ m, (xwb σ n d m).1 = -1 ∨ ∃ b, b < m ∧ (xwb σ n d m).1 = nI b
  | 0 => Or.inl rfl
  | m + 1 => by
    rw [xwb]
    by_cases h : xprom (σ.1 7 m) (σ.1 8 m) n d < (xwb σ n d m).2
    · rw [if_pos h]; exact Or.inr ⟨m, by omega, rfl⟩
    · rw [if_neg h]
      rcases xwb_or σ n d m with q | ⟨b, hb, q⟩
      · exact Or.inl q
      · exact Or.inr ⟨b, by omega, q⟩
theorem xwb_ix {σ : xS} {n d a z : Int32} {m : Nat} (h : xwb σ n d m = (a, z)) (h1 : ¬ a = -1) : ∃ b, b < m ∧ a = nI b := by
  rcases xwb_or σ n d m with q | ⟨b, hb, q⟩
  · rw [h] at q; exact absurd q h1
  · rw [h] at q; exact ⟨b, hb, q⟩
def xwk (σ : xS) (n d : Int32) (b : Nat) : xS := xa1 (xa1 σ 8 (upd (σ.1 8) b (xend (σ.1 7 b) (σ.1 8 b) n d))) 10 (upd (upd (σ.1 10) 0 (nI b)) 1 (σ.1 10 1 + n))
def sp_work (σ : xS) (n d : Int32) : Int32 × xS := if ¬ (nI 1 ≤ n ∧ n ≤ nI 1000) ∨ ¬ (nI 0 ≤ d ∧ d ≤ nI 10000) then (-102, σ) else if (xwb σ n d (σ.2 3)).1 = -1 then (-103, σ) else ((xwb σ n d (σ.2 3)).2, xwk σ n d (xwb σ n d (σ.2 3)).1.toNatClampNeg)
section
variable {cy : Nat → ClassId} {loc : Nat → Nat} {σ : xS} {w : xM}
theorem xOK_cut (hR : xR cy loc σ w) (kh qy qx wd ht : Nat) (hk : kh < σ.2 2) (h4 : kh < 4) (hy : qy + ht ≤ 12) : xOK cy loc w (xa2 (xa1 σ 6 (xmh (σ.1 6) kh qy qx wd ht (nI 2))) 6 (σ.2 6 + wd * ht)) (loc, xup (xup w (190 + kh) (eI cy 192 (xmk (xsl 192 (σ.1 6) (192 * kh)) qy qx wd ht (nI 2)))) 0 (.inr (7, [.ref (loc 1), .ref (loc 2), .ref (loc 3), .ref (loc 4), .ref (loc 5), .ref (loc 6), .ref (loc 7), .int (nI (σ.2 0)), .int (nI (σ.2 1)), .int (nI (σ.2 2)), .int (nI (σ.2 3)), .int (nI (σ.2 4)), .int (nI (σ.2 5)), .int (nI (σ.2 6 + wd * ht)), .int (σ.1 10 1), .int (σ.1 10 0), .ref (loc 8), .ref (loc 11)]))) := by
  have hne : ∀ {t k : Nat}, ¬ (t = 190 + kh ∨ t = 0) → t = 190 + k → k ≠ kh := fun h e q => h (Or.inl (by rw [e, q]))
  exact ⟨xRm_fin (xRm_put (xRm_put (xRm_of (S := fun t => t = 190 + kh ∨ t = 0) hR (fun g9 b9 f9 t h9 hS => xC_ext h9 (fun e => absurd (Or.inr e) hS) (fun _ => rfl) (fun _ => rfl) (fun _ => rfl) (fun _ => rfl) (fun _ => rfl) (fun _ => rfl) (fun _ => rfl) (fun _ _ _ => xE2_c rfl (if_neg (by omega))) (fun _ _ _ => xE3_c rfl (if_neg (by omega))) (fun _ _ _ => xE4_c rfl (if_neg (by omega)) rfl) (fun _ _ _ => xE10_c rfl (if_neg (by omega)) rfl) (fun _ _ _ => rfl) (fun _ _ _ => rfl) (fun _ _ _ => rfl) (fun _ _ _ => rfl) (fun k e _ => by show xe _ (eI cy 192 (xsl 192 _ _)) = xe _ (eI cy 192 (xsl 192 _ _)); rw [xa2, xa1_at, xsl_xmh_ne (hne hS e)]; rfl) (fun _ _ _ => rfl) (fun _ _ _ => rfl))) (fun _ _ _ => (xC_190 (show kh < (xa2 (xa1 σ 6 (xmh (σ.1 6) kh qy qx wd ht (nI 2))) 6 (σ.2 6 + wd * ht)).2 2 from hk) h4).trans (congrArg (fun z => some (eI cy 192 z)) (xsl_xmh hy)))) (fun _ _ _ => rfl)) (by intro t h; omega), fun t h9 => ⟨by show (xup (xup w (190 + kh) (eI cy 192 (xmk (xsl 192 (σ.1 6) (192 * kh)) qy qx wd ht (nI 2)))) 0 (.inr (7, [.ref (loc 1), .ref (loc 2), .ref (loc 3), .ref (loc 4), .ref (loc 5), .ref (loc 6), .ref (loc 7), .int (nI (σ.2 0)), .int (nI (σ.2 1)), .int (nI (σ.2 2)), .int (nI (σ.2 3)), .int (nI (σ.2 4)), .int (nI (σ.2 5)), .int (nI (σ.2 6 + wd * ht)), .int (σ.1 10 1), .int (σ.1 10 0), .ref (loc 8), .ref (loc 11)])) : xM) t = w t; rw [xup_ne _ _ (by omega), xup_ne _ _ (by omega)], rfl⟩, rfl⟩
theorem xOK_pair (hR : xR cy loc σ w) (kh qy qx ry rx wd ht : Nat) (hk : kh < σ.2 2) (h4 : kh < 4) (hy : qy + ht ≤ 12) (hy2 : ry + ht ≤ 12) : xOK cy loc w (xa2 (xa1 σ 6 (xmh (xmh (σ.1 6) kh qy qx wd ht (nI 2)) kh ry rx wd ht (nI 2))) 6 (σ.2 6 + 2 * wd * ht)) (loc, xup (xup w (190 + kh) (eI cy 192 (xmk (xmk (xsl 192 (σ.1 6) (192 * kh)) qy qx wd ht (nI 2)) ry rx wd ht (nI 2)))) 0 (.inr (7, [.ref (loc 1), .ref (loc 2), .ref (loc 3), .ref (loc 4), .ref (loc 5), .ref (loc 6), .ref (loc 7), .int (nI (σ.2 0)), .int (nI (σ.2 1)), .int (nI (σ.2 2)), .int (nI (σ.2 3)), .int (nI (σ.2 4)), .int (nI (σ.2 5)), .int (nI (σ.2 6 + 2 * wd * ht)), .int (σ.1 10 1), .int (σ.1 10 0), .ref (loc 8), .ref (loc 11)]))) := by
  have hne : ∀ {t k : Nat}, ¬ (t = 190 + kh ∨ t = 0) → t = 190 + k → k ≠ kh := fun h e q => h (Or.inl (by rw [e, q]))
  exact ⟨xRm_fin (xRm_put (xRm_put (xRm_of (S := fun t => t = 190 + kh ∨ t = 0) hR (fun g9 b9 f9 t h9 hS => xC_ext h9 (fun e => absurd (Or.inr e) hS) (fun _ => rfl) (fun _ => rfl) (fun _ => rfl) (fun _ => rfl) (fun _ => rfl) (fun _ => rfl) (fun _ => rfl) (fun _ _ _ => xE2_c rfl (if_neg (by omega))) (fun _ _ _ => xE3_c rfl (if_neg (by omega))) (fun _ _ _ => xE4_c rfl (if_neg (by omega)) rfl) (fun _ _ _ => xE10_c rfl (if_neg (by omega)) rfl) (fun _ _ _ => rfl) (fun _ _ _ => rfl) (fun _ _ _ => rfl) (fun _ _ _ => rfl) (fun k e _ => by show xe _ (eI cy 192 (xsl 192 _ _)) = xe _ (eI cy 192 (xsl 192 _ _)); rw [xa2, xa1_at, xsl_xmh_ne (hne hS e), xsl_xmh_ne (hne hS e)]; rfl) (fun _ _ _ => rfl) (fun _ _ _ => rfl))) (fun _ _ _ => (xC_190 (show kh < (xa2 (xa1 σ 6 (xmh (xmh (σ.1 6) kh qy qx wd ht (nI 2)) kh ry rx wd ht (nI 2))) 6 (σ.2 6 + 2 * wd * ht)).2 2 from hk) h4).trans (congrArg (fun z => some (eI cy 192 z)) ((xsl_xmh hy2).trans (by rw [xsl_xmh hy]))))) (fun _ _ _ => rfl)) (by intro t h; omega), fun t h9 => ⟨by show (xup (xup w (190 + kh) (eI cy 192 (xmk (xmk (xsl 192 (σ.1 6) (192 * kh)) qy qx wd ht (nI 2)) ry rx wd ht (nI 2)))) 0 (.inr (7, [.ref (loc 1), .ref (loc 2), .ref (loc 3), .ref (loc 4), .ref (loc 5), .ref (loc 6), .ref (loc 7), .int (nI (σ.2 0)), .int (nI (σ.2 1)), .int (nI (σ.2 2)), .int (nI (σ.2 3)), .int (nI (σ.2 4)), .int (nI (σ.2 5)), .int (nI (σ.2 6 + 2 * wd * ht)), .int (σ.1 10 1), .int (σ.1 10 0), .ref (loc 8), .ref (loc 11)])) : xM) t = w t; rw [xup_ne _ _ (by omega), xup_ne _ _ (by omega)], rfl⟩, rfl⟩
theorem xOK_undo (hR : xR cy loc σ w) (kh qy qx wd ht : Nat) (hw : w (190 + kh) = some (eI cy 192 (xsl 192 (σ.1 6) (192 * kh)))) (hx : qx + wd ≤ 16) (h : xfit (xsl 192 (σ.1 6) (192 * kh)) wd ht (16 * qy + qx)) : xOK cy loc w σ (loc, xup w (190 + kh) (eI cy 192 (xmk (xmk (xsl 192 (σ.1 6) (192 * kh)) qy qx wd ht (nI 2)) qy qx wd ht (nI 0)))) := by
  rw [xmk_undo hx h, xup_id hw]; exact xOK_id hR
theorem xOK_work (hR : xR cy loc σ w) (b : Nat) (n d : Int32) (hb : b < σ.2 3) (h3 : b < 3) : xOK cy loc w (xwk σ n d b) (loc, xup (xup w (200 + b) (.inr (0, [.int (σ.1 7 b), .int (xend (σ.1 7 b) (σ.1 8 b) n d)]))) 0 (.inr (7, [.ref (loc 1), .ref (loc 2), .ref (loc 3), .ref (loc 4), .ref (loc 5), .ref (loc 6), .ref (loc 7), .int (nI (σ.2 0)), .int (nI (σ.2 1)), .int (nI (σ.2 2)), .int (nI (σ.2 3)), .int (nI (σ.2 4)), .int (nI (σ.2 5)), .int (nI (σ.2 6)), .int (σ.1 10 1 + n), .int (nI b), .ref (loc 8), .ref (loc 11)]))) := by
  have hne : ∀ {t k : Nat}, ¬ (t = 200 + b ∨ t = 0) → t = 200 + k → ¬ k = b := fun h e q => h (Or.inl (by rw [e, q]))
  exact ⟨xRm_fin (xRm_put (xRm_put (xRm_of (S := fun t => t = 200 + b ∨ t = 0) hR (fun g9 b9 f9 t h9 hS => xC_ext h9 (fun e => absurd (Or.inr e) hS) (fun _ => rfl) (fun _ => rfl) (fun _ => rfl) (fun _ => rfl) (fun _ => rfl) (fun _ => rfl) (fun _ => rfl) (fun _ _ _ => rfl) (fun _ _ _ => rfl) (fun _ _ _ => rfl) (fun _ _ _ => rfl) (fun _ _ _ => rfl) (fun _ _ _ => rfl) (fun _ _ _ => rfl) (fun _ _ _ => rfl) (fun _ _ _ => rfl) (fun k e _ => by show xe _ (.inr (0, [.int (σ.1 7 k), .int (upd (σ.1 8) b _ k)])) = _; rw [show upd (σ.1 8) b (xend (σ.1 7 b) (σ.1 8 b) n d) k = σ.1 8 k from if_neg (hne hS e)]; rfl) (fun _ _ _ => rfl))) (fun _ _ _ => (xC_200 (show b < (xwk σ n d b).2 3 from hb) h3).trans (congrArg (fun z => some (Sum.inr (0, [Value.int (σ.1 7 b), Value.int z]))) (if_pos rfl)))) (fun _ _ _ => rfl)) (by intro t h; omega), fun t h9 => ⟨by show (xup (xup w (200 + b) (.inr (0, [.int (σ.1 7 b), .int (xend (σ.1 7 b) (σ.1 8 b) n d)]))) 0 (.inr (7, [.ref (loc 1), .ref (loc 2), .ref (loc 3), .ref (loc 4), .ref (loc 5), .ref (loc 6), .ref (loc 7), .int (nI (σ.2 0)), .int (nI (σ.2 1)), .int (nI (σ.2 2)), .int (nI (σ.2 3)), .int (nI (σ.2 4)), .int (nI (σ.2 5)), .int (nI (σ.2 6)), .int (σ.1 10 1 + n), .int (nI b), .ref (loc 8), .ref (loc 11)])) : xM) t = w t; rw [xup_ne _ _ (by omega), xup_ne _ _ (by omega)], rfl⟩, rfl⟩
end
