/-! a new model -/
theorem yR_init {cy : Nat → ClassId} {loc : Nat → Nat} {w : xM} {g1 : Nat → Int32} (hg : ∀ j, g1 j = if j < 9 then nI 100 else 0)
  (h0 : w 300 = some (.inr (8, [.ref (loc 301), .int 0, .ref (loc 302), .ref (loc 303), .ref (loc 304), .int 0, .ref (loc 305), .ref (loc 306), .ref (loc 307), .ref (loc 308), .int 0, .int 0, .int 0, .int 0, .int 0, .ref (loc 309), .ref (loc 310), .int 0, .int 0, .ref (loc 311), .int 0, .ref (loc 312), .ref (loc 313), .int (-1), .int 0, .int 0, .ref (loc 314)])))
  (h1 : w 301 = some (eI cy 9 g1)) (h2 : w 302 = some (eI cy 8 (fun _ => 0))) (h3 : w 303 = some (eI cy 48 (fun _ => 0))) (h4 : w 304 = some (eI cy 432 (fun _ => 0))) (h5 : w 305 = some (eI cy 72 (fun _ => 0))) (h6 : w 306 = some (eI cy 72 (fun _ => 0))) (h7 : w 307 = some (eI cy 9 (fun _ => 0))) (h8 : w 308 = some (eI cy 9 (fun _ => 0))) (h9 : w 309 = some (eI cy 6 (fun _ => 0))) (h10 : w 310 = some (eI cy 48 (fun _ => 0))) (h11 : w 311 = some (eI cy 768 (fun _ => 0))) (h12 : w 312 = some (eI cy 3 (fun _ => 0))) (h13 : w 313 = some (eI cy 3 (fun _ => 0))) (h14 : w 314 = some (eI cy 60 (fun _ => 0))) : yR cy loc xS0 w := by
  refine ⟨fun _ => 0, fun _ => 0, fun _ => 0, fun _ => 0, fun t ht => ?_⟩
  rcases (show t = 0 ∨ t = 1 ∨ t = 2 ∨ t = 3 ∨ t = 4 ∨ t = 5 ∨ t = 6 ∨ t = 7 ∨ t = 8 ∨ t = 9 ∨ t = 10 ∨ t = 11 ∨ t = 12 ∨ t = 13 ∨ t = 14 by omega) with e | e | e | e | e | e | e | e | e | e | e | e | e | e | e <;> subst e
  · exact h0.trans rfl
  · exact h1.trans (by rw [show g1 = xS0.1 0 from funext (fun j => hg j)]; rfl)
  · exact h2.trans rfl
  · exact h3.trans rfl
  · exact h4.trans rfl
  · exact h5.trans rfl
  · exact h6.trans rfl
  · exact h7.trans rfl
  · exact h8.trans rfl
  · exact h9.trans rfl
  · exact h10.trans rfl
  · exact h11.trans rfl
  · exact h12.trans rfl
  · exact h13.trans rfl
  · exact h14.trans rfl
