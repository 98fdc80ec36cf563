/-! the measure of a back -/
def xfloor (a b : Int32) : Int32 := if a < 0 ∧ ¬ a / b * b = a then a / b - nI 1 else a / b
theorem xfloor_1 {a b : Int32} (h1 : a < 0) (h2 : ¬ a / b * b = a) : a / b - nI 1 = xfloor a b := by rw [xfloor, if_pos ⟨h1, h2⟩]
theorem xfloor_2 {a b : Int32} (h1 : ¬ a < 0) : a / b = xfloor a b := by rw [xfloor, if_neg (fun q => h1 q.1)]
theorem xfloor_3 {a b : Int32} (h2 : a / b * b = a) : a / b = xfloor a b := by rw [xfloor, if_neg (fun q => q.2 h2)]
theorem i32_neg (a : Int32) : a < 0 ↔ a.toBitVec.msb = true := by
  rw [Int32.lt_iff_toInt_lt, BitVec.msb_eq_toInt]
  simp
theorem nI_msb {d : Nat} (hd : d < 2 ^ 31) : (nI d).toBitVec.msb = false := by
  have h := nI_pos hd
  rw [i32_neg] at h
  simpa using h
theorem xor_neg {a : Int32} {d : Nat} (hd : d < 2 ^ 31) : a ^^^ nI d < 0 ↔ a < 0 := by
  rw [i32_neg, i32_neg, Int32.toBitVec_xor, BitVec.msb_xor, nI_msb hd]
  simp
theorem xor_ge {a : Int32} {d : Nat} (hd : d < 2 ^ 31) (h : 0 ≤ a ^^^ nI d) : ¬ a < 0 := fun q => absurd ((xor_neg hd).mpr q) (Int32.not_lt.mpr h)
theorem xor_lt {a : Int32} {d : Nat} (hd : d < 2 ^ 31) (h : ¬ 0 ≤ a ^^^ nI d) : a < 0 := (xor_neg hd).mp (Int32.not_le.mp h)
def xhb (f : Nat → Int32) (a i b : Nat) : Int32 := if b ≤ a then f a else f a + xfloor ((f b - f a) * nI (i - a)) (nI (b - a))
/-- the last place to n that is no gap -/
def xah (f : Nat → Int32) : Nat → Nat
  | 0 => 0
  | n + 1 => if f (n + 1) = -1 then xah f n else n + 1
theorem xah_le (f : Nat → Int32) : ∀ n, xah f n ≤ n
  | 0 => Nat.le_refl 0
  | n + 1 => by
    have := xah_le f n
    rw [xah]
    split <;> omega
theorem xah_g {f : Nat → Int32} {i a : Nat} (h0 : ¬ f 0 = -1) (ha : a = xah f (i - 1)) (h : f i = -1) : a = xah f i := by
  cases i with
  | zero => exact absurd h h0
  | succ n => rw [ha, xah, if_pos h]; rfl
theorem xah_n {f : Nat → Int32} {i : Nat} (h : ¬ f i = -1) : i = xah f i := by
  cases i with
  | zero => rfl
  | succ n => rw [xah, if_neg h]
def xhv (f : Nat → Int32) (j : Nat) : Int32 := xhb f (xah f j) j (xnx f j 9)
theorem upd_hi {g : Nat → Int32} {i : Nat} {x : Int32} (h : ∀ j, 9 ≤ j → g j = 0) (hi : i < 9) : ∀ j, 9 ≤ j → upd g i x j = 0 := by
  intro j hj
  simp only [upd]
  rw [if_neg (by omega)]
  exact h j hj
/-- the first n of f, 0 behind -/
def xsl0 (n : Nat) (f : Nat → Int32) : Nat → Int32 := fun i => if i < n then f i else 0
theorem xsl0_0 (f : Nat → Int32) : xsl0 0 f = fun _ => 0 := by funext i; exact if_neg (Nat.not_lt_zero i)
theorem xsl0_s (f : Nat → Int32) (n : Nat) : upd (xsl0 n f) n (f n) = xsl0 (n + 1) f := by
  funext j
  simp only [upd, xsl0]
  by_cases e : j = n
  · subst e
    rw [if_pos rfl, if_pos (by omega)]
  · rw [if_neg e]
    by_cases q : j < n
    · rw [if_pos q, if_pos (by omega)]
    · rw [if_neg q, if_neg (by omega)]
/-- the same for a member of a class that has entries -/
theorem x_metF {l : Launch} {y : MethodName} {ws ws' : List Cond} {rm : Room} {av : List Value} {P : State → Prop} {Qc : Array Value → State → Outcome → State → Prop} {mc ms : Nat} {free : Addr → Prop} {cc : ByteArray} {maxL : Nat} {ret : Option FieldType} {C : String} (hy : plainFor y = true) (hw : ws = Cond.code y cc maxL ret :: ws') (hC : y.cls = C) (hml : (lg_sl av).length ≤ maxL)
    (body : ∀ (p : Program) (e : Env) (s : State) (m : MethodId) (below : List Frame) (meth : Method) (c : Code) (ls : Array Slot), p.tables.exec = Jvm.exec → c.code = cc → c.maxLocals = maxL → meth.sig.returnType = ret → (∀ w ∈ ws, w.before av.toArray s = true) → s.vm.findClass C = some m.cls → meth.locks = false → meth.name = y.name → P s → lv_has ls maxL (lv_args 0 av) → W p l e rm s m av.toArray below meth c s.heap [] 0 0 (MQ below Qc av.toArray s mc ms free) (F0 m 0 ls [])) : Met l y ws rm (va_Pc av P) Qc mc ms free := by
  refine va_MetF (cc := cc) (maxL := maxL) (ret := ret) hy hw ?_
  intro p e s m args below meth c s₁ B hml' hv
  obtain ⟨rfl, hv⟩ := hv
  rw [lg_entry_eq]
  exact body p e s m below meth c _ B.exec B.bytes hml' B.returns (atoms_spec (ws := ws) B.pre) (hC ▸ findClass_of_methodNamed B.named) B.notSynchronized (name_of_methodNamed B.named B.method).1 hv (lv_entry av hml)
