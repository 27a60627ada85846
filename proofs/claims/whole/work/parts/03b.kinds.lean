/-! Contracts by their kinds: the world's cells stay where they are; the answer is an int, a long, nothing, a reference; 'p': nothing changes. -/
def gPi (ad : Nat → Nat) (n : Nat) (P : Int32 → (Nat → va_E) → Prop) : gP := fun v ad' ct' n' => ad' = ad ∧ n' = n ∧ ∃ r : Int32, v = some (.int r) ∧ P r ct'
def gPl (ad : Nat → Nat) (n : Nat) (P : Int64 → (Nat → va_E) → Prop) : gP := fun v ad' ct' n' => ad' = ad ∧ n' = n ∧ ∃ r : Int64, v = some (.long r) ∧ P r ct'
def gPv (ad : Nat → Nat) (n : Nat) (P : (Nat → va_E) → Prop) : gP := fun v ad' ct' n' => ad' = ad ∧ n' = n ∧ v = none ∧ P ct'
def gPip (ad : Nat → Nat) (ct : Nat → va_E) (n : Nat) (P : Int32 → Prop) : gP := gPi ad n (fun r ct' => ct' = ct ∧ P r)
def gPlp (ad : Nat → Nat) (ct : Nat → va_E) (n : Nat) (P : Int64 → Prop) : gP := gPl ad n (fun r ct' => ct' = ct ∧ P r)
def gPrp (ad : Nat → Nat) (ct : Nat → va_E) (n : Nat) (P : Nat → Prop) : gP := fun v ad' ct' n' => ad' = ad ∧ n' = n ∧ ct' = ct ∧ ∃ r : Nat, v = some (.ref r) ∧ P r
theorem gPi.mk {ad : Nat → Nat} {ct : Nat → va_E} {n : Nat} {P : Int32 → (Nat → va_E) → Prop} {r : Int32} (h : P r ct) : gPi ad n P (some (.int r)) ad ct n := ⟨rfl, rfl, r, rfl, h⟩
theorem gPl.mk {ad : Nat → Nat} {ct : Nat → va_E} {n : Nat} {P : Int64 → (Nat → va_E) → Prop} {r : Int64} (h : P r ct) : gPl ad n P (some (.long r)) ad ct n := ⟨rfl, rfl, r, rfl, h⟩
theorem gPv.mk {ad : Nat → Nat} {ct : Nat → va_E} {n : Nat} {P : (Nat → va_E) → Prop} (h : P ct) : gPv ad n P none ad ct n := ⟨rfl, rfl, rfl, h⟩
theorem gPip.mk {ad : Nat → Nat} {ct : Nat → va_E} {n : Nat} {P : Int32 → Prop} {r : Int32} (h : P r) : gPip ad ct n P (some (.int r)) ad ct n := ⟨rfl, rfl, r, rfl, rfl, h⟩
theorem gPlp.mk {ad : Nat → Nat} {ct : Nat → va_E} {n : Nat} {P : Int64 → Prop} {r : Int64} (h : P r) : gPlp ad ct n P (some (.long r)) ad ct n := ⟨rfl, rfl, r, rfl, rfl, h⟩
theorem gPrp.mk {ad : Nat → Nat} {ct : Nat → va_E} {n : Nat} {P : Nat → Prop} {r : Nat} (h : P r) : gPrp ad ct n P (some (.ref r)) ad ct n := ⟨rfl, rfl, rfl, r, rfl, h⟩
theorem gInc (a : Nat) : nI a + Int32.ofInt 1 = nI (a + 1) := nI_1 a
theorem gDec (a : Nat) : nI (a + 1) + Int32.ofInt (-1) = nI a := by
  show nI (a + 1) + (-1) = nI a
  exact pk_m1 a
section GR2
variable {B : gB} {cc : ByteArray} {own : String} {nL : Nat} {rm : Room} {E : gE} {ad : Nat → Nat} {ct : Nat → va_E} {n k0 s0 : Nat} {L : List (Nat × Value)} {pc : Nat} {st : List Value}
theorem g_isi {x : Int32} (y : Int32) (h : x = y) (k : G B nL E ad ct n k0 s0 L pc (.int y :: st)) : G B nL E ad ct n k0 s0 L pc (.int x :: st) := by rw [h]; exact k
theorem g_isl {x : Int64} (y : Int64) (h : x = y) (k : G B nL E ad ct n k0 s0 L pc (.long y :: st)) : G B nL E ad ct n k0 s0 L pc (.long x :: st) := by rw [h]; exact k
theorem g_iaddN (fx : gFx B cc own nL rm E) {x y : Nat} (d : decode cc pc = .ok (.iadd, 1)) (k : G B nL E ad ct n k0 s0 L (pc + 1) (.int (nI (x + y)) :: st)) : G B nL E ad ct n k0 s0 L pc (.int (nI y) :: .int (nI x) :: st) := g_iadd fx d (by rw [nI_add]; exact k)
theorem g_imulN (fx : gFx B cc own nL rm E) {x y : Nat} (d : decode cc pc = .ok (.imul, 1)) (k : G B nL E ad ct n k0 s0 L (pc + 1) (.int (nI (x * y)) :: st)) : G B nL E ad ct n k0 s0 L pc (.int (nI y) :: .int (nI x) :: st) := g_imul fx d (by rw [pk_mul]; exact k)
theorem g_isubN (fx : gFx B cc own nL rm E) {x y : Nat} (d : decode cc pc = .ok (.isub, 1)) (h : y ≤ x) (k : G B nL E ad ct n k0 s0 L (pc + 1) (.int (nI (x - y)) :: st)) : G B nL E ad ct n k0 s0 L pc (.int (nI y) :: .int (nI x) :: st) := g_isub fx d (by rw [pk_sub h]; exact k)
theorem g_callVip (fx : gFx B cc own nL rm E) {index maxL na fr lo ci r : Nat} {y : MethodName} {bytes : ByteArray} {ret : Option FieldType} {As rest st0 fs : List Value} {T : u_T} {N : Nat} {P : Int32 → Prop}
    (sl : gVl own index y bytes maxL ret na) (hM : Ctr B y bytes maxL ret fr lo 0 0 ad ct n (.ref (ad r) :: As) (gPip ad ct n P)) (hr : r < n) (hc : ct r = .inr (ci, fs)) (hci : gcl[ci]? = some (y.cls, T, N)) (hst : st0 = As.reverse ++ .ref (ad r) :: rest) (hna : As.length = na) (hW : (rest.map fun v => v.category).sum ≤ 8) (hR : fr + 1 ≤ rm.frames ∧ 8 + (maxL + 11) + lo ≤ rm.locals) (hf : k0 ≤ rm.cells ∧ s0 ≤ rm.slots) (d : decode cc pc = .ok (.invokevirtual index, 3))
    (kk : ∀ r, P r → G B nL E ad ct n k0 s0 L (pc + 3) (.int r :: rest)) : G B nL E ad ct n k0 s0 L pc st0 := by
  refine g_callV fx sl hM hr hc hci hst hna hW hR hf d (fun v ad' ct' n' h => ?_)
  obtain ⟨rfl, rfl, r, rfl, rfl, h⟩ := h
  exact kk r h
theorem g_callVlp (fx : gFx B cc own nL rm E) {index maxL na fr lo ci r : Nat} {y : MethodName} {bytes : ByteArray} {ret : Option FieldType} {As rest st0 fs : List Value} {T : u_T} {N : Nat} {P : Int64 → Prop}
    (sl : gVl own index y bytes maxL ret na) (hM : Ctr B y bytes maxL ret fr lo 0 0 ad ct n (.ref (ad r) :: As) (gPlp ad ct n P)) (hr : r < n) (hc : ct r = .inr (ci, fs)) (hci : gcl[ci]? = some (y.cls, T, N)) (hst : st0 = As.reverse ++ .ref (ad r) :: rest) (hna : As.length = na) (hW : (rest.map fun v => v.category).sum ≤ 8) (hR : fr + 1 ≤ rm.frames ∧ 8 + (maxL + 11) + lo ≤ rm.locals) (hf : k0 ≤ rm.cells ∧ s0 ≤ rm.slots) (d : decode cc pc = .ok (.invokevirtual index, 3))
    (kk : ∀ r, P r → G B nL E ad ct n k0 s0 L (pc + 3) (.long r :: rest)) : G B nL E ad ct n k0 s0 L pc st0 := by
  refine g_callV fx sl hM hr hc hci hst hna hW hR hf d (fun v ad' ct' n' h => ?_)
  obtain ⟨rfl, rfl, r, rfl, rfl, h⟩ := h
  exact kk r h
theorem g_callVi (fx : gFx B cc own nL rm E) {index maxL na fr lo ci r : Nat} {y : MethodName} {bytes : ByteArray} {ret : Option FieldType} {As rest st0 fs : List Value} {T : u_T} {N : Nat} {P : Int32 → (Nat → va_E) → Prop}
    (sl : gVl own index y bytes maxL ret na) (hM : Ctr B y bytes maxL ret fr lo 0 0 ad ct n (.ref (ad r) :: As) (gPi ad n P)) (hr : r < n) (hc : ct r = .inr (ci, fs)) (hci : gcl[ci]? = some (y.cls, T, N)) (hst : st0 = As.reverse ++ .ref (ad r) :: rest) (hna : As.length = na) (hW : (rest.map fun v => v.category).sum ≤ 8) (hR : fr + 1 ≤ rm.frames ∧ 8 + (maxL + 11) + lo ≤ rm.locals) (hf : k0 ≤ rm.cells ∧ s0 ≤ rm.slots) (d : decode cc pc = .ok (.invokevirtual index, 3))
    (kk : ∀ r ct', P r ct' → G B nL E ad ct' n k0 s0 L (pc + 3) (.int r :: rest)) : G B nL E ad ct n k0 s0 L pc st0 := by
  refine g_callV fx sl hM hr hc hci hst hna hW hR hf d (fun v ad' ct' n' h => ?_)
  obtain ⟨rfl, rfl, r, rfl, h⟩ := h
  exact kk r _ h
theorem g_callVl (fx : gFx B cc own nL rm E) {index maxL na fr lo ci r : Nat} {y : MethodName} {bytes : ByteArray} {ret : Option FieldType} {As rest st0 fs : List Value} {T : u_T} {N : Nat} {P : Int64 → (Nat → va_E) → Prop}
    (sl : gVl own index y bytes maxL ret na) (hM : Ctr B y bytes maxL ret fr lo 0 0 ad ct n (.ref (ad r) :: As) (gPl ad n P)) (hr : r < n) (hc : ct r = .inr (ci, fs)) (hci : gcl[ci]? = some (y.cls, T, N)) (hst : st0 = As.reverse ++ .ref (ad r) :: rest) (hna : As.length = na) (hW : (rest.map fun v => v.category).sum ≤ 8) (hR : fr + 1 ≤ rm.frames ∧ 8 + (maxL + 11) + lo ≤ rm.locals) (hf : k0 ≤ rm.cells ∧ s0 ≤ rm.slots) (d : decode cc pc = .ok (.invokevirtual index, 3))
    (kk : ∀ r ct', P r ct' → G B nL E ad ct' n k0 s0 L (pc + 3) (.long r :: rest)) : G B nL E ad ct n k0 s0 L pc st0 := by
  refine g_callV fx sl hM hr hc hci hst hna hW hR hf d (fun v ad' ct' n' h => ?_)
  obtain ⟨rfl, rfl, r, rfl, h⟩ := h
  exact kk r _ h
theorem g_callVv (fx : gFx B cc own nL rm E) {index maxL na fr lo ci r : Nat} {y : MethodName} {bytes : ByteArray} {ret : Option FieldType} {As rest st0 fs : List Value} {T : u_T} {N : Nat} {P : (Nat → va_E) → Prop}
    (sl : gVl own index y bytes maxL ret na) (hM : Ctr B y bytes maxL ret fr lo 0 0 ad ct n (.ref (ad r) :: As) (gPv ad n P)) (hr : r < n) (hc : ct r = .inr (ci, fs)) (hci : gcl[ci]? = some (y.cls, T, N)) (hst : st0 = As.reverse ++ .ref (ad r) :: rest) (hna : As.length = na) (hW : (rest.map fun v => v.category).sum ≤ 8) (hR : fr + 1 ≤ rm.frames ∧ 8 + (maxL + 11) + lo ≤ rm.locals) (hf : k0 ≤ rm.cells ∧ s0 ≤ rm.slots) (d : decode cc pc = .ok (.invokevirtual index, 3))
    (kk : ∀ ct', P ct' → G B nL E ad ct' n k0 s0 L (pc + 3) rest) : G B nL E ad ct n k0 s0 L pc st0 := by
  refine g_callV fx sl hM hr hc hci hst hna hW hR hf d (fun v ad' ct' n' h => ?_)
  obtain ⟨rfl, rfl, rfl, h⟩ := h
  exact kk _ h
theorem g_callVrp (fx : gFx B cc own nL rm E) {index maxL na fr lo ci r : Nat} {y : MethodName} {bytes : ByteArray} {ret : Option FieldType} {As rest st0 fs : List Value} {T : u_T} {N : Nat} {P : Nat → Prop}
    (sl : gVl own index y bytes maxL ret na) (hM : Ctr B y bytes maxL ret fr lo 0 0 ad ct n (.ref (ad r) :: As) (gPrp ad ct n P)) (hr : r < n) (hc : ct r = .inr (ci, fs)) (hci : gcl[ci]? = some (y.cls, T, N)) (hst : st0 = As.reverse ++ .ref (ad r) :: rest) (hna : As.length = na) (hW : (rest.map fun v => v.category).sum ≤ 8) (hR : fr + 1 ≤ rm.frames ∧ 8 + (maxL + 11) + lo ≤ rm.locals) (hf : k0 ≤ rm.cells ∧ s0 ≤ rm.slots) (d : decode cc pc = .ok (.invokevirtual index, 3))
    (kk : ∀ r, P r → G B nL E ad ct n k0 s0 L (pc + 3) (.ref r :: rest)) : G B nL E ad ct n k0 s0 L pc st0 := by
  refine g_callV fx sl hM hr hc hci hst hna hW hR hf d (fun v ad' ct' n' h => ?_)
  obtain ⟨rfl, rfl, rfl, r, rfl, h⟩ := h
  exact kk r h
theorem g_callSip (fx : gFx B cc own nL rm E) {index maxL na fr lo : Nat} {y : MethodName} {bytes : ByteArray} {ret : Option FieldType} {As rest st0 : List Value} {P : Int32 → Prop}
    (sl : gSl own index y bytes maxL ret na) (hM : Ctr B y bytes maxL ret fr lo 0 0 ad ct n As (gPip ad ct n P)) (hst : st0 = As.reverse ++ rest) (hna : As.length = na) (hW : (rest.map fun v => v.category).sum ≤ 8) (hR : fr + 1 ≤ rm.frames ∧ 8 + (maxL + 11) + lo ≤ rm.locals) (hf : k0 ≤ rm.cells ∧ s0 ≤ rm.slots) (d : decode cc pc = .ok (.invokestatic index, 3))
    (kk : ∀ r, P r → G B nL E ad ct n k0 s0 L (pc + 3) (.int r :: rest)) : G B nL E ad ct n k0 s0 L pc st0 := by
  refine g_callS fx sl hM hst hna hW hR hf d (fun v ad' ct' n' h => ?_)
  obtain ⟨rfl, rfl, r, rfl, rfl, h⟩ := h
  exact kk r h
theorem g_callSlp (fx : gFx B cc own nL rm E) {index maxL na fr lo : Nat} {y : MethodName} {bytes : ByteArray} {ret : Option FieldType} {As rest st0 : List Value} {P : Int64 → Prop}
    (sl : gSl own index y bytes maxL ret na) (hM : Ctr B y bytes maxL ret fr lo 0 0 ad ct n As (gPlp ad ct n P)) (hst : st0 = As.reverse ++ rest) (hna : As.length = na) (hW : (rest.map fun v => v.category).sum ≤ 8) (hR : fr + 1 ≤ rm.frames ∧ 8 + (maxL + 11) + lo ≤ rm.locals) (hf : k0 ≤ rm.cells ∧ s0 ≤ rm.slots) (d : decode cc pc = .ok (.invokestatic index, 3))
    (kk : ∀ r, P r → G B nL E ad ct n k0 s0 L (pc + 3) (.long r :: rest)) : G B nL E ad ct n k0 s0 L pc st0 := by
  refine g_callS fx sl hM hst hna hW hR hf d (fun v ad' ct' n' h => ?_)
  obtain ⟨rfl, rfl, r, rfl, rfl, h⟩ := h
  exact kk r h
theorem g_callSi (fx : gFx B cc own nL rm E) {index maxL na fr lo : Nat} {y : MethodName} {bytes : ByteArray} {ret : Option FieldType} {As rest st0 : List Value} {P : Int32 → (Nat → va_E) → Prop}
    (sl : gSl own index y bytes maxL ret na) (hM : Ctr B y bytes maxL ret fr lo 0 0 ad ct n As (gPi ad n P)) (hst : st0 = As.reverse ++ rest) (hna : As.length = na) (hW : (rest.map fun v => v.category).sum ≤ 8) (hR : fr + 1 ≤ rm.frames ∧ 8 + (maxL + 11) + lo ≤ rm.locals) (hf : k0 ≤ rm.cells ∧ s0 ≤ rm.slots) (d : decode cc pc = .ok (.invokestatic index, 3))
    (kk : ∀ r ct', P r ct' → G B nL E ad ct' n k0 s0 L (pc + 3) (.int r :: rest)) : G B nL E ad ct n k0 s0 L pc st0 := by
  refine g_callS fx sl hM hst hna hW hR hf d (fun v ad' ct' n' h => ?_)
  obtain ⟨rfl, rfl, r, rfl, h⟩ := h
  exact kk r _ h
theorem g_callSl (fx : gFx B cc own nL rm E) {index maxL na fr lo : Nat} {y : MethodName} {bytes : ByteArray} {ret : Option FieldType} {As rest st0 : List Value} {P : Int64 → (Nat → va_E) → Prop}
    (sl : gSl own index y bytes maxL ret na) (hM : Ctr B y bytes maxL ret fr lo 0 0 ad ct n As (gPl ad n P)) (hst : st0 = As.reverse ++ rest) (hna : As.length = na) (hW : (rest.map fun v => v.category).sum ≤ 8) (hR : fr + 1 ≤ rm.frames ∧ 8 + (maxL + 11) + lo ≤ rm.locals) (hf : k0 ≤ rm.cells ∧ s0 ≤ rm.slots) (d : decode cc pc = .ok (.invokestatic index, 3))
    (kk : ∀ r ct', P r ct' → G B nL E ad ct' n k0 s0 L (pc + 3) (.long r :: rest)) : G B nL E ad ct n k0 s0 L pc st0 := by
  refine g_callS fx sl hM hst hna hW hR hf d (fun v ad' ct' n' h => ?_)
  obtain ⟨rfl, rfl, r, rfl, h⟩ := h
  exact kk r _ h
theorem g_callSv (fx : gFx B cc own nL rm E) {index maxL na fr lo : Nat} {y : MethodName} {bytes : ByteArray} {ret : Option FieldType} {As rest st0 : List Value} {P : (Nat → va_E) → Prop}
    (sl : gSl own index y bytes maxL ret na) (hM : Ctr B y bytes maxL ret fr lo 0 0 ad ct n As (gPv ad n P)) (hst : st0 = As.reverse ++ rest) (hna : As.length = na) (hW : (rest.map fun v => v.category).sum ≤ 8) (hR : fr + 1 ≤ rm.frames ∧ 8 + (maxL + 11) + lo ≤ rm.locals) (hf : k0 ≤ rm.cells ∧ s0 ≤ rm.slots) (d : decode cc pc = .ok (.invokestatic index, 3))
    (kk : ∀ ct', P ct' → G B nL E ad ct' n k0 s0 L (pc + 3) rest) : G B nL E ad ct n k0 s0 L pc st0 := by
  refine g_callS fx sl hM hst hna hW hR hf d (fun v ad' ct' n' h => ?_)
  obtain ⟨rfl, rfl, rfl, h⟩ := h
  exact kk _ h
theorem g_callSrp (fx : gFx B cc own nL rm E) {index maxL na fr lo : Nat} {y : MethodName} {bytes : ByteArray} {ret : Option FieldType} {As rest st0 : List Value} {P : Nat → Prop}
    (sl : gSl own index y bytes maxL ret na) (hM : Ctr B y bytes maxL ret fr lo 0 0 ad ct n As (gPrp ad ct n P)) (hst : st0 = As.reverse ++ rest) (hna : As.length = na) (hW : (rest.map fun v => v.category).sum ≤ 8) (hR : fr + 1 ≤ rm.frames ∧ 8 + (maxL + 11) + lo ≤ rm.locals) (hf : k0 ≤ rm.cells ∧ s0 ≤ rm.slots) (d : decode cc pc = .ok (.invokestatic index, 3))
    (kk : ∀ r, P r → G B nL E ad ct n k0 s0 L (pc + 3) (.ref r :: rest)) : G B nL E ad ct n k0 s0 L pc st0 := by
  refine g_callS fx sl hM hst hna hW hR hf d (fun v ad' ct' n' h => ?_)
  obtain ⟨rfl, rfl, rfl, r, rfl, h⟩ := h
  exact kk r h
end GR2
