/-! the model's scratch -/
theorem yOK_sc {cy : Nat → ClassId} {loc : Nat → Nat} {σ : xS} {w : xM} {g b : Nat → Int32} (h : yR cy loc σ w) : yOK cy loc w σ (loc, xup (xup w 307 (eI cy 9 g)) 308 (eI cy 9 b)) :=
  ⟨yR_308 (yR_307 h), fun t ht => ⟨by show xup (xup w 307 _) 308 _ t = w t; rw [xup_ne _ _ (by omega), xup_ne _ _ (by omega)], rfl⟩, rfl⟩
