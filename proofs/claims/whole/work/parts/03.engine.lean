/-! THE ENGINE. A world is a row of n cells: cell k lies at the address 'ad k' and holds 'ct k'. -/
def gw (ad : Nat → Nat) (ct : Nat → va_E) (n : Nat) : va_W := (List.range n).map (fun k => (ad k, ct k))
theorem gw_at {ad : Nat → Nat} {ct : Nat → va_E} {n k : Nat} (h : k < n) : (gw ad ct n)[k]? = some (ad k, ct k) := by
  simp [gw, h]
theorem gw_in {ad : Nat → Nat} {ct : Nat → va_E} {n k : Nat} {q : Nat × va_E} (h : (gw ad ct n)[k]? = some q) : k < n ∧ q = (ad k, ct k) := by
  have hk : k < n := by
    have := (List.getElem?_eq_some_iff.mp h).1
    simpa [gw] using this
  rw [gw_at hk] at h
  exact ⟨hk, (Option.some.inj h).symm⟩
theorem gw_atE {ad : Nat → Nat} {ct : Nat → va_E} {n k : Nat} {e : va_E} (h : k < n) (he : ct k = e) : (gw ad ct n)[k]? = some (ad k, e) := by
  rw [← he]; exact gw_at h
theorem gw_set {ad : Nat → Nat} {ct : Nat → va_E} {n k : Nat} {e : va_E} : (gw ad ct n).set k (ad k, e) = gw ad (va_up ct k e) n := by
  apply List.ext_getElem?
  intro i
  rw [List.getElem?_set]
  by_cases hi : i < n
  · by_cases hk : k = i
    · subst hk
      simp [gw, hi, va_up]
    · rw [if_neg hk, gw_at hi, gw_at hi, va_up_ne _ _ (fun z => hk z.symm)]
  · have h1 : ∀ c : Nat → va_E, (gw ad c n)[i]? = none := fun c => by simp [gw]; omega
    by_cases hk : k = i
    · subst hk
      rw [if_pos rfl, if_neg (by simp [gw]; omega), h1]
    · rw [if_neg hk, h1, h1]
theorem gw_push {ad : Nat → Nat} {ct : Nat → va_E} {n q : Nat} {e : va_E} : gw ad ct n ++ [(q, e)] = gw (va_up ad n q) (va_up ct n e) (n + 1) := by
  unfold gw
  rw [List.range_succ, List.map_append]
  congr 1
  · apply List.map_congr_left
    intro a ha
    have : a ≠ n := by have := List.mem_range.mp ha; omega
    rw [va_up_ne _ _ this, va_up_ne _ _ this]
  · simp [va_up]
/-- what a contract's method may write to: the cells of the world it is given, and new ones -/
def gA (ad : Nat → Nat) (n sz : Nat) : Nat → Prop := fun q => (∃ k, k < n ∧ q = ad k) ∨ sz ≤ q
/-- what is the same for all: the classes' numbers and slots, the array classes, the launch, where the primes lie -/
abbrev gB : Type := va_G × (Nat → ClassId) × Launch × Nat
/-- the array classes: int, long, byte, Whole, Fraction -/
def gTy (k : Nat → ClassId) : List (ClassId × FieldType) := [(k 0, .int), (k 1, .long), (k 2, .byte), (k 3, .object "ExactTests$Whole"), (k 4, .object "ExactTests$Fraction")]
def gPr : Nat → Int32 := fun k => ([2, 3, 5, 7, 11, 13, 17, 19, 23, 29, 31, 37, 41, 43, 47, 53, 59] : List Int32).getD k 0
/-- the static row of primes, which lies outside of what may change -/
def gZ (B : gB) (A : Nat → Prop) (U : State) : Prop := va_Z "ExactTests$Fraction" "PRIMES" "[I" (.ref B.2.2.2) A U U.heap ∧ va_T .int B.2.2.2 17 (fun k => .int (gPr k)) A U U.heap ∧ ∀ w ∈ gN, va_Nw w U
/-- a run's fixed things -/
abbrev gE : Type := (Program × Env × Room × State) × (MethodId × Array Value × List Frame × Method × Code) × ((Nat → Prop) × (State → Prop))
abbrev gE.p (E : gE) : Program := E.1.1
abbrev gE.e (E : gE) : Env := E.1.2.1
abbrev gE.R (E : gE) : Room := E.1.2.2.1
abbrev gE.s (E : gE) : State := E.1.2.2.2
abbrev gE.m (E : gE) : MethodId := E.2.1.1
abbrev gE.args (E : gE) : Array Value := E.2.1.2.1
abbrev gE.below (E : gE) : List Frame := E.2.1.2.2.1
abbrev gE.meth (E : gE) : Method := E.2.1.2.2.2.1
abbrev gE.c (E : gE) : Code := E.2.1.2.2.2.2
abbrev gE.A (E : gE) : Nat → Prop := E.2.2.1
abbrev gE.Q (E : gE) : State → Prop := E.2.2.2
def gWd (B : gB) (E : gE) (ad : Nat → Nat) (ct : Nat → va_E) (n : Nat) (H : Heap) (locs : List Loc) : Prop := va_P B.1 gcl (gw ad ct n) H ∧ va_D E.A (gw ad ct n) ∧ va_S E.A E.s.heap H locs
/-- at pc, with locals L and the stack st, any heap that holds the world comes to E's end -/
def G (B : gB) (nL : Nat) (E : gE) (ad : Nat → Nat) (ct : Nat → va_E) (n : Nat) (k0 s0 : Nat) (L : List (Nat × Value)) (pc : Nat) (st : List Value) : Prop :=
  ∀ (ls : Array Slot) (H : Heap) (locs : List Loc), lv_has ls nL L → gWd B E ad ct n H locs → W E.p B.2.2.1 E.e E.R E.s E.m E.args E.below E.meth E.c H locs k0 s0 E.Q (F0 E.m pc ls st)
def gFx (B : gB) (cc : ByteArray) (own : String) (nL : Nat) (rm : Room) (E : gE) : Prop :=
  CallFix E.p E.m E.c cc nL E.s E.args gT0 own ∧ va_K B.1 gcl (gTy B.2.1) E.s ∧ (∀ q, E.s.heap.size ≤ q → E.A q) ∧ E.R = rm ∧ gZ B E.A E.s
abbrev gP : Type := Option Value → (Nat → Nat) → (Nat → va_E) → Nat → Prop
def gQ (B : gB) (post : gP) (A : Nat → Prop) : Array Value → State → Outcome → State → Prop := fun _ st oc t => (∃ (v : Option Value) (ad : Nat → Nat) (ct : Nat → va_E) (n : Nat), oc = .returned v ∧ post v ad ct n ∧ va_P B.1 gcl (gw ad ct n) t.heap ∧ va_K B.1 gcl (gTy B.2.1) t ∧ va_D A (gw ad ct n)) ∧ va_F A st t
/-- a run's end -/
def gRt (B : gB) (post : gP) (mc ms : Nat) (ret : Option FieldType) (E : gE) : Prop := E.Q = MQ E.below (gQ B post E.A) E.args E.s mc ms E.A ∧ E.meth.sig.returnType = ret ∧ E.meth.locks = false
/-- a contract: from any heap that holds the world (ad, ct, n), called with As, the method comes back, 'post' holds of its answer and of the world then -/
def Ctr (B : gB) (y : MethodName) (cc : ByteArray) (nL : Nat) (ret : Option FieldType) (fr lo mc ms : Nat) (ad : Nat → Nat) (ct : Nat → va_E) (n : Nat) (As : List Value) (post : gP) : Prop :=
  ∀ sz : Nat, Met B.2.2.1 y (Cond.code y cc nL ret :: gT0) { frames := fr, cells := mc, slots := ms, locals := lo } (va_Pc As (fun U => U.heap.size = sz ∧ va_P B.1 gcl (gw ad ct n) U.heap ∧ va_K B.1 gcl (gTy B.2.1) U ∧ va_D (fun _ => True) (gw ad ct n) ∧ gZ B (gA ad n sz) U)) (gQ B post (gA ad n sz)) mc ms (gA ad n sz)
section GR
variable {B : gB} {cc : ByteArray} {own : String} {nL : Nat} {rm : Room} {E : gE} {ad : Nat → Nat} {ct : Nat → va_E} {n k0 s0 : Nat} {L : List (Nat × Value)} {pc : Nat} {st : List Value}
theorem g_locals {L' : List (Nat × Value)} (ks : List Nat) (hl : lv_pick L ks = L') (k : G B nL E ad ct n k0 s0 L' pc st) : G B nL E ad ct n k0 s0 L pc st :=
  fun ls H locs h w => k ls H locs (lv_sub h ks hl) w
theorem g_widen {k1 s1 : Nat} (h1 : k0 ≤ k1) (h2 : s0 ≤ s1) (k : G B nL E ad ct n k1 s1 L pc st) : G B nL E ad ct n k0 s0 L pc st :=
  fun ls H locs h w => W.widen h1 h2 (k ls H locs h w)
theorem g_topi {x : Int32} (k : ∀ y : Int32, y = x → G B nL E ad ct n k0 s0 L pc (.int y :: st)) : G B nL E ad ct n k0 s0 L pc (.int x :: st) := k x rfl
theorem g_topl {x : Int64} (k : ∀ y : Int64, y = x → G B nL E ad ct n k0 s0 L pc (.long y :: st)) : G B nL E ad ct n k0 s0 L pc (.long x :: st) := k x rfl
theorem g_iconst (fx : gFx B cc own nL rm E) {z : Int} {v : Int32} (d : decode cc pc = .ok (.iconst z, 1)) (hv : Int32.ofInt z = v) (k : G B nL E ad ct n k0 s0 L (pc + 1) (.int v :: st)) : G B nL E ad ct n k0 s0 L pc st :=
  fun ls H locs h w => lv_iconst fx.1.1 fx.1.2.1 d hv (k ls H locs h w)
theorem g_bipush (fx : gFx B cc own nL rm E) {z : Int} {v : Int32} (d : decode cc pc = .ok (.bipush z, 2)) (hv : (Int8.ofInt z).toInt32 = v) (k : G B nL E ad ct n k0 s0 L (pc + 2) (.int v :: st)) : G B nL E ad ct n k0 s0 L pc st :=
  fun ls H locs h w => lv_bipush fx.1.1 fx.1.2.1 d hv (k ls H locs h w)
theorem g_sipush (fx : gFx B cc own nL rm E) {z : Int} {v : Int32} (d : decode cc pc = .ok (.sipush z, 3)) (hv : (Int16.ofInt z).toInt32 = v) (k : G B nL E ad ct n k0 s0 L (pc + 3) (.int v :: st)) : G B nL E ad ct n k0 s0 L pc st :=
  fun ls H locs h w => lv_sipush fx.1.1 fx.1.2.1 d hv (k ls H locs h w)
theorem g_lconst (fx : gFx B cc own nL rm E) {z : Fin 2} {v : Int64} (d : decode cc pc = .ok (.lconst z, 1)) (hv : Int64.ofNat (z : Nat) = v) (k : G B nL E ad ct n k0 s0 L (pc + 1) (.long v :: st)) : G B nL E ad ct n k0 s0 L pc st :=
  fun ls H locs h w => lv_lconst fx.1.1 fx.1.2.1 d hv (k ls H locs h w)
theorem g_ldc (fx : gFx B cc own nL rm E) {index : Nat} {v : Int32} (hc : Cond.constant own index v ∈ gT0) (d : decode cc pc = .ok (.ldc index, 2)) (k : G B nL E ad ct n k0 s0 L (pc + 2) (.int v :: st)) : G B nL E ad ct n k0 s0 L pc st :=
  fun ls H locs h w => lv_ldc fx.1.1 fx.1.2.1 fx.1.2.2.2.1 (fx.1.2.2.2.2 _ hc) d (k ls H locs h w)
theorem g_ldc2 (fx : gFx B cc own nL rm E) {index : Nat} {v : Int64} (hc : Cond.constantLong own index v ∈ gT0) (d : decode cc pc = .ok (.ldc2_w index, 3)) (k : G B nL E ad ct n k0 s0 L (pc + 3) (.long v :: st)) : G B nL E ad ct n k0 s0 L pc st :=
  fun ls H locs h w => W.ldc2 fx.1.1 fx.1.2.1 fx.1.2.2.2.1 (fx.1.2.2.2.2 _ hc) rfl d (k ls H locs h w)
theorem g_iload_n (fx : gFx B cc own nL rm E) {z : Fin 4} {x : Int32} (j : Nat) (d : decode cc pc = .ok (.iload_n z, 1)) (hj : L[j]? = some ((z : Nat), .int x)) (k : G B nL E ad ct n k0 s0 L (pc + 1) (.int x :: st)) : G B nL E ad ct n k0 s0 L pc st :=
  fun ls H locs h w => lv_iload_n fx.1.1 fx.1.2.1 d rfl (lv_at h j hj) (k ls H locs h w)
theorem g_iload (fx : gFx B cc own nL rm E) {z : Nat} {x : Int32} (j : Nat) (d : decode cc pc = .ok (.iload z, 2)) (hj : L[j]? = some (z, .int x)) (k : G B nL E ad ct n k0 s0 L (pc + 2) (.int x :: st)) : G B nL E ad ct n k0 s0 L pc st :=
  fun ls H locs h w => lv_iload fx.1.1 fx.1.2.1 d (lv_at h j hj) (k ls H locs h w)
theorem g_lload_n (fx : gFx B cc own nL rm E) {z : Fin 4} {x : Int64} (j : Nat) (d : decode cc pc = .ok (.lload_n z, 1)) (hj : L[j]? = some ((z : Nat), .long x)) (k : G B nL E ad ct n k0 s0 L (pc + 1) (.long x :: st)) : G B nL E ad ct n k0 s0 L pc st :=
  fun ls H locs h w => lv_lload_n fx.1.1 fx.1.2.1 d rfl (lv_at h j hj) (k ls H locs h w)
theorem g_lload (fx : gFx B cc own nL rm E) {z : Nat} {x : Int64} (j : Nat) (d : decode cc pc = .ok (.lload z, 2)) (hj : L[j]? = some (z, .long x)) (k : G B nL E ad ct n k0 s0 L (pc + 2) (.long x :: st)) : G B nL E ad ct n k0 s0 L pc st :=
  fun ls H locs h w => lv_lload fx.1.1 fx.1.2.1 d (lv_at h j hj) (k ls H locs h w)
theorem g_aload_n (fx : gFx B cc own nL rm E) {z : Fin 4} {x : Nat} (j : Nat) (d : decode cc pc = .ok (.aload_n z, 1)) (hj : L[j]? = some ((z : Nat), .ref x)) (k : G B nL E ad ct n k0 s0 L (pc + 1) (.ref x :: st)) : G B nL E ad ct n k0 s0 L pc st :=
  fun ls H locs h w => lv_aload_n fx.1.1 fx.1.2.1 d rfl (lv_at h j hj) (k ls H locs h w)
theorem g_aload (fx : gFx B cc own nL rm E) {z : Nat} {x : Nat} (j : Nat) (d : decode cc pc = .ok (.aload z, 2)) (hj : L[j]? = some (z, .ref x)) (k : G B nL E ad ct n k0 s0 L (pc + 2) (.ref x :: st)) : G B nL E ad ct n k0 s0 L pc st :=
  fun ls H locs h w => lv_aload fx.1.1 fx.1.2.1 d (lv_at h j hj) (k ls H locs h w)
theorem g_istore_n (fx : gFx B cc own nL rm E) {z : Fin 4} {x : Int32} {L' : List (Nat × Value)} (d : decode cc pc = .ok (.istore_n z, 1)) (hn : (z : Nat) < nL) (hl : ((z : Nat), Value.int x) :: L.filter (fun q => !(q.1 == (z : Nat)) && !(q.1 + 1 == (z : Nat) && q.2.category == 2)) = L') (k : G B nL E ad ct n k0 s0 L' (pc + 1) st) : G B nL E ad ct n k0 s0 L pc (.int x :: st) :=
  fun ls H locs h w => lv_istore_n fx.1.1 fx.1.2.1 d rfl h hn hl (fun ls h => k ls H locs h w)
theorem g_istore (fx : gFx B cc own nL rm E) {z : Nat} {x : Int32} {L' : List (Nat × Value)} (d : decode cc pc = .ok (.istore z, 2)) (hn : z < nL) (hl : (z, Value.int x) :: L.filter (fun q => !(q.1 == z) && !(q.1 + 1 == z && q.2.category == 2)) = L') (k : G B nL E ad ct n k0 s0 L' (pc + 2) st) : G B nL E ad ct n k0 s0 L pc (.int x :: st) :=
  fun ls H locs h w => lv_istore fx.1.1 fx.1.2.1 d h hn hl (fun ls h => k ls H locs h w)
theorem g_astore_n (fx : gFx B cc own nL rm E) {z : Fin 4} {x : Nat} {L' : List (Nat × Value)} (d : decode cc pc = .ok (.astore_n z, 1)) (hn : (z : Nat) < nL) (hl : ((z : Nat), Value.ref x) :: L.filter (fun q => !(q.1 == (z : Nat)) && !(q.1 + 1 == (z : Nat) && q.2.category == 2)) = L') (k : G B nL E ad ct n k0 s0 L' (pc + 1) st) : G B nL E ad ct n k0 s0 L pc (.ref x :: st) :=
  fun ls H locs h w => lv_astore_n fx.1.1 fx.1.2.1 d rfl h hn hl (fun ls h => k ls H locs h w)
theorem g_astore (fx : gFx B cc own nL rm E) {z : Nat} {x : Nat} {L' : List (Nat × Value)} (d : decode cc pc = .ok (.astore z, 2)) (hn : z < nL) (hl : (z, Value.ref x) :: L.filter (fun q => !(q.1 == z) && !(q.1 + 1 == z && q.2.category == 2)) = L') (k : G B nL E ad ct n k0 s0 L' (pc + 2) st) : G B nL E ad ct n k0 s0 L pc (.ref x :: st) :=
  fun ls H locs h w => lv_astore fx.1.1 fx.1.2.1 d h hn hl (fun ls h => k ls H locs h w)
theorem g_lstore_n (fx : gFx B cc own nL rm E) {z : Fin 4} {x : Int64} {L' : List (Nat × Value)} (d : decode cc pc = .ok (.lstore_n z, 1)) (hn : (z : Nat) + 1 < nL) (hl : ((z : Nat), Value.long x) :: L.filter (fun q => !(q.1 == (z : Nat)) && (!(q.1 == (z : Nat) + 1) && !(q.1 + 1 == (z : Nat) && q.2.category == 2))) = L') (k : G B nL E ad ct n k0 s0 L' (pc + 1) st) : G B nL E ad ct n k0 s0 L pc (.long x :: st) :=
  fun ls H locs h w => lv_lstore_n fx.1.1 fx.1.2.1 d rfl h hn hl (fun ls h => k ls H locs h w)
theorem g_lstore (fx : gFx B cc own nL rm E) {z : Nat} {x : Int64} {L' : List (Nat × Value)} (d : decode cc pc = .ok (.lstore z, 2)) (hn : z + 1 < nL) (hl : (z, Value.long x) :: L.filter (fun q => !(q.1 == z) && (!(q.1 == z + 1) && !(q.1 + 1 == z && q.2.category == 2))) = L') (k : G B nL E ad ct n k0 s0 L' (pc + 2) st) : G B nL E ad ct n k0 s0 L pc (.long x :: st) :=
  fun ls H locs h w => lv_lstore fx.1.1 fx.1.2.1 d h hn hl (fun ls h => k ls H locs h w)
theorem g_iinc (fx : gFx B cc own nL rm E) {z : Nat} {u : Int} {x : Int32} {L' : List (Nat × Value)} (v : Int32) (j : Nat) (d : decode cc pc = .ok (.iinc z u, 3)) (hj : L[j]? = some (z, .int x)) (hv : x + Int32.ofInt u = v) (hn : z < nL) (hl : (z, Value.int v) :: L.filter (fun q => !(q.1 == z) && !(q.1 + 1 == z && q.2.category == 2)) = L') (k : G B nL E ad ct n k0 s0 L' (pc + 3) st) : G B nL E ad ct n k0 s0 L pc st :=
  fun ls H locs h w => lv_iinc fx.1.1 fx.1.2.1 d h hj hv hn hl (fun ls h => k ls H locs h w)
theorem g_iadd (fx : gFx B cc own nL rm E) {x y : Int32} (d : decode cc pc = .ok (.iadd, 1))  (k : G B nL E ad ct n k0 s0 L (pc + 1) (.int (x + y) :: st)) : G B nL E ad ct n k0 s0 L pc (.int y :: .int x :: st) :=
  fun ls H locs h w => lv_iadd fx.1.1 fx.1.2.1 d (k ls H locs h w)
theorem g_isub (fx : gFx B cc own nL rm E) {x y : Int32} (d : decode cc pc = .ok (.isub, 1))  (k : G B nL E ad ct n k0 s0 L (pc + 1) (.int (x - y) :: st)) : G B nL E ad ct n k0 s0 L pc (.int y :: .int x :: st) :=
  fun ls H locs h w => lv_isub fx.1.1 fx.1.2.1 d (k ls H locs h w)
theorem g_imul (fx : gFx B cc own nL rm E) {x y : Int32} (d : decode cc pc = .ok (.imul, 1))  (k : G B nL E ad ct n k0 s0 L (pc + 1) (.int (x * y) :: st)) : G B nL E ad ct n k0 s0 L pc (.int y :: .int x :: st) :=
  fun ls H locs h w => lv_imul fx.1.1 fx.1.2.1 d (k ls H locs h w)
theorem g_iand (fx : gFx B cc own nL rm E) {x y : Int32} (d : decode cc pc = .ok (.iand, 1))  (k : G B nL E ad ct n k0 s0 L (pc + 1) (.int (x &&& y) :: st)) : G B nL E ad ct n k0 s0 L pc (.int y :: .int x :: st) :=
  fun ls H locs h w => lv_iand fx.1.1 fx.1.2.1 d (k ls H locs h w)
theorem g_ior (fx : gFx B cc own nL rm E) {x y : Int32} (d : decode cc pc = .ok (.ior, 1))  (k : G B nL E ad ct n k0 s0 L (pc + 1) (.int (x ||| y) :: st)) : G B nL E ad ct n k0 s0 L pc (.int y :: .int x :: st) :=
  fun ls H locs h w => lv_ior fx.1.1 fx.1.2.1 d (k ls H locs h w)
theorem g_ixor (fx : gFx B cc own nL rm E) {x y : Int32} (d : decode cc pc = .ok (.ixor, 1))  (k : G B nL E ad ct n k0 s0 L (pc + 1) (.int (x ^^^ y) :: st)) : G B nL E ad ct n k0 s0 L pc (.int y :: .int x :: st) :=
  fun ls H locs h w => lv_ixor fx.1.1 fx.1.2.1 d (k ls H locs h w)
theorem g_ishl (fx : gFx B cc own nL rm E) {x y : Int32} (d : decode cc pc = .ok (.ishl, 1))  (k : G B nL E ad ct n k0 s0 L (pc + 1) (.int (x <<< (y &&& 31)) :: st)) : G B nL E ad ct n k0 s0 L pc (.int y :: .int x :: st) :=
  fun ls H locs h w => lv_ishl fx.1.1 fx.1.2.1 d (k ls H locs h w)
theorem g_ishr (fx : gFx B cc own nL rm E) {x y : Int32} (d : decode cc pc = .ok (.ishr, 1))  (k : G B nL E ad ct n k0 s0 L (pc + 1) (.int (x >>> (y &&& 31)) :: st)) : G B nL E ad ct n k0 s0 L pc (.int y :: .int x :: st) :=
  fun ls H locs h w => lv_ishr fx.1.1 fx.1.2.1 d (k ls H locs h w)
theorem g_idiv (fx : gFx B cc own nL rm E) {x y : Int32} (d : decode cc pc = .ok (.idiv, 1)) (hne : ¬ y = 0) (k : G B nL E ad ct n k0 s0 L (pc + 1) (.int (x / y) :: st)) : G B nL E ad ct n k0 s0 L pc (.int y :: .int x :: st) :=
  fun ls H locs h w => lv_idiv fx.1.1 fx.1.2.1 d hne (k ls H locs h w)
theorem g_irem (fx : gFx B cc own nL rm E) {x y : Int32} (d : decode cc pc = .ok (.irem, 1)) (hne : ¬ y = 0) (k : G B nL E ad ct n k0 s0 L (pc + 1) (.int (x - x / y * y) :: st)) : G B nL E ad ct n k0 s0 L pc (.int y :: .int x :: st) :=
  fun ls H locs h w => lv_irem fx.1.1 fx.1.2.1 d hne (k ls H locs h w)
theorem g_ineg (fx : gFx B cc own nL rm E) {x : Int32} (d : decode cc pc = .ok (.ineg, 1))  (k : G B nL E ad ct n k0 s0 L (pc + 1) (.int (-x) :: st)) : G B nL E ad ct n k0 s0 L pc (.int x :: st) :=
  fun ls H locs h w => lv_ineg fx.1.1 fx.1.2.1 d (k ls H locs h w)
theorem g_lneg (fx : gFx B cc own nL rm E) {x : Int64} (d : decode cc pc = .ok (.lneg, 1))  (k : G B nL E ad ct n k0 s0 L (pc + 1) (.long (-x) :: st)) : G B nL E ad ct n k0 s0 L pc (.long x :: st) :=
  fun ls H locs h w => lv_lneg fx.1.1 fx.1.2.1 d (k ls H locs h w)
theorem g_ladd (fx : gFx B cc own nL rm E) {x y : Int64} (d : decode cc pc = .ok (.ladd, 1))  (k : G B nL E ad ct n k0 s0 L (pc + 1) (.long (x + y) :: st)) : G B nL E ad ct n k0 s0 L pc (.long y :: .long x :: st) :=
  fun ls H locs h w => lv_ladd fx.1.1 fx.1.2.1 d (k ls H locs h w)
theorem g_lsub (fx : gFx B cc own nL rm E) {x y : Int64} (d : decode cc pc = .ok (.lsub, 1))  (k : G B nL E ad ct n k0 s0 L (pc + 1) (.long (x - y) :: st)) : G B nL E ad ct n k0 s0 L pc (.long y :: .long x :: st) :=
  fun ls H locs h w => lv_lsub fx.1.1 fx.1.2.1 d (k ls H locs h w)
theorem g_lmul (fx : gFx B cc own nL rm E) {x y : Int64} (d : decode cc pc = .ok (.lmul, 1))  (k : G B nL E ad ct n k0 s0 L (pc + 1) (.long (x * y) :: st)) : G B nL E ad ct n k0 s0 L pc (.long y :: .long x :: st) :=
  fun ls H locs h w => lv_lmul fx.1.1 fx.1.2.1 d (k ls H locs h w)
theorem g_land (fx : gFx B cc own nL rm E) {x y : Int64} (d : decode cc pc = .ok (.land, 1))  (k : G B nL E ad ct n k0 s0 L (pc + 1) (.long (x &&& y) :: st)) : G B nL E ad ct n k0 s0 L pc (.long y :: .long x :: st) :=
  fun ls H locs h w => lv_land fx.1.1 fx.1.2.1 d (k ls H locs h w)
theorem g_lor (fx : gFx B cc own nL rm E) {x y : Int64} (d : decode cc pc = .ok (.lor, 1))  (k : G B nL E ad ct n k0 s0 L (pc + 1) (.long (x ||| y) :: st)) : G B nL E ad ct n k0 s0 L pc (.long y :: .long x :: st) :=
  fun ls H locs h w => lv_lor fx.1.1 fx.1.2.1 d (k ls H locs h w)
theorem g_lxor (fx : gFx B cc own nL rm E) {x y : Int64} (d : decode cc pc = .ok (.lxor, 1))  (k : G B nL E ad ct n k0 s0 L (pc + 1) (.long (x ^^^ y) :: st)) : G B nL E ad ct n k0 s0 L pc (.long y :: .long x :: st) :=
  fun ls H locs h w => lv_lxor fx.1.1 fx.1.2.1 d (k ls H locs h w)
theorem g_ldiv (fx : gFx B cc own nL rm E) {x y : Int64} (d : decode cc pc = .ok (.ldiv, 1)) (hne : ¬ y = 0) (k : G B nL E ad ct n k0 s0 L (pc + 1) (.long (x / y) :: st)) : G B nL E ad ct n k0 s0 L pc (.long y :: .long x :: st) :=
  fun ls H locs h w => lv_ldiv fx.1.1 fx.1.2.1 d hne (k ls H locs h w)
theorem g_lrem (fx : gFx B cc own nL rm E) {x y : Int64} (d : decode cc pc = .ok (.lrem, 1)) (hne : ¬ y = 0) (k : G B nL E ad ct n k0 s0 L (pc + 1) (.long (x - x / y * y) :: st)) : G B nL E ad ct n k0 s0 L pc (.long y :: .long x :: st) :=
  fun ls H locs h w => lv_lrem fx.1.1 fx.1.2.1 d hne (k ls H locs h w)
theorem g_i2l (fx : gFx B cc own nL rm E) {x : Int32} (d : decode cc pc = .ok (.i2l, 1))  (k : G B nL E ad ct n k0 s0 L (pc + 1) (.long x.toInt64 :: st)) : G B nL E ad ct n k0 s0 L pc (.int x :: st) :=
  fun ls H locs h w => lv_i2l fx.1.1 fx.1.2.1 d rfl (k ls H locs h w)
theorem g_l2i (fx : gFx B cc own nL rm E) {x : Int64} (d : decode cc pc = .ok (.l2i, 1))  (k : G B nL E ad ct n k0 s0 L (pc + 1) (.int x.toInt32 :: st)) : G B nL E ad ct n k0 s0 L pc (.long x :: st) :=
  fun ls H locs h w => lv_l2i fx.1.1 fx.1.2.1 d rfl (k ls H locs h w)
theorem g_iushr (fx : gFx B cc own nL rm E) {x y : Int32} (d : decode cc pc = .ok (.iushr, 1))  (k : G B nL E ad ct n k0 s0 L (pc + 1) (.int (x.toUInt32 >>> (y.toUInt32 &&& Int32.toUInt32 31)).toInt32 :: st)) : G B nL E ad ct n k0 s0 L pc (.int y :: .int x :: st) :=
  fun ls H locs h w => lv_iushr fx.1.1 fx.1.2.1 d rfl (k ls H locs h w)
theorem g_lushr (fx : gFx B cc own nL rm E) {x : Int64} {y : Int32} (d : decode cc pc = .ok (.lushr, 1))  (k : G B nL E ad ct n k0 s0 L (pc + 1) (.long (x.toUInt64 >>> (y.toInt64.toUInt64 &&& Int64.toUInt64 63)).toInt64 :: st)) : G B nL E ad ct n k0 s0 L pc (.int y :: .long x :: st) :=
  fun ls H locs h w => lv_lushr fx.1.1 fx.1.2.1 d rfl (k ls H locs h w)
theorem g_lshl (fx : gFx B cc own nL rm E) {x : Int64} {y : Int32} (d : decode cc pc = .ok (.lshl, 1))  (k : G B nL E ad ct n k0 s0 L (pc + 1) (.long (x <<< (y.toInt64 &&& 63)) :: st)) : G B nL E ad ct n k0 s0 L pc (.int y :: .long x :: st) :=
  fun ls H locs h w => lv_lshl fx.1.1 fx.1.2.1 d rfl (k ls H locs h w)
theorem g_lshr (fx : gFx B cc own nL rm E) {x : Int64} {y : Int32} (d : decode cc pc = .ok (.lshr, 1))  (k : G B nL E ad ct n k0 s0 L (pc + 1) (.long (x >>> (y.toInt64 &&& 63)) :: st)) : G B nL E ad ct n k0 s0 L pc (.int y :: .long x :: st) :=
  fun ls H locs h w => lv_lshr fx.1.1 fx.1.2.1 d rfl (k ls H locs h w)
theorem g_lcmp (fx : gFx B cc own nL rm E) {x y : Int64} (d : decode cc pc = .ok (.lcmp, 1))  (k : G B nL E ad ct n k0 s0 L (pc + 1) (.int (lg_cmp x y) :: st)) : G B nL E ad ct n k0 s0 L pc (.long y :: .long x :: st) :=
  fun ls H locs h w => W.lcmp fx.1.1 fx.1.2.1 d (k ls H locs h w)
theorem g_dup (fx : gFx B cc own nL rm E) {va : Value} (d : decode cc pc = .ok (.dup, 1)) (h1 : va.category = 1) (k : G B nL E ad ct n k0 s0 L (pc + 1) (va :: va :: st)) : G B nL E ad ct n k0 s0 L pc (va :: st) :=
  fun ls H locs h w => lv_dup fx.1.1 fx.1.2.1 d h1 (k ls H locs h w)
theorem g_pop (fx : gFx B cc own nL rm E) {va : Value} (d : decode cc pc = .ok (.pop, 1)) (h1 : va.category = 1) (k : G B nL E ad ct n k0 s0 L (pc + 1) st) : G B nL E ad ct n k0 s0 L pc (va :: st) :=
  fun ls H locs h w => lv_pop fx.1.1 fx.1.2.1 d h1 (k ls H locs h w)
theorem g_dup_x1 (fx : gFx B cc own nL rm E) {va vb : Value} (d : decode cc pc = .ok (.dup_x1, 1)) (h1 : va.category = 1) (h2 : vb.category = 1) (k : G B nL E ad ct n k0 s0 L (pc + 1) (va :: vb :: va :: st)) : G B nL E ad ct n k0 s0 L pc (va :: vb :: st) :=
  fun ls H locs h w => lv_dup_x1 fx.1.1 fx.1.2.1 d h1 h2 (k ls H locs h w)
theorem g_dup_x2 (fx : gFx B cc own nL rm E) {va vb vd : Value} (d : decode cc pc = .ok (.dup_x2, 1)) (h1 : va.category = 1) (h2 : vb.category = 1) (h3 : vd.category = 1) (k : G B nL E ad ct n k0 s0 L (pc + 1) (va :: vb :: vd :: va :: st)) : G B nL E ad ct n k0 s0 L pc (va :: vb :: vd :: st) :=
  fun ls H locs h w => lv_dup_x2 fx.1.1 fx.1.2.1 d h1 h2 h3 (k ls H locs h w)
theorem g_dup2_11 (fx : gFx B cc own nL rm E) {va vb : Value} (d : decode cc pc = .ok (.dup2, 1)) (h1 : va.category = 1) (h2 : vb.category = 1) (k : G B nL E ad ct n k0 s0 L (pc + 1) (va :: vb :: va :: vb :: st)) : G B nL E ad ct n k0 s0 L pc (va :: vb :: st) :=
  fun ls H locs h w => lv_dup2_11 fx.1.1 fx.1.2.1 d h1 h2 (k ls H locs h w)
theorem g_dup2_2 (fx : gFx B cc own nL rm E) {va : Value} (d : decode cc pc = .ok (.dup2, 1)) (h1 : va.category = 2) (k : G B nL E ad ct n k0 s0 L (pc + 1) (va :: va :: st)) : G B nL E ad ct n k0 s0 L pc (va :: st) :=
  fun ls H locs h w => lv_dup2_2 fx.1.1 fx.1.2.1 d h1 (k ls H locs h w)
theorem g_pop2_2 (fx : gFx B cc own nL rm E) {va : Value} (d : decode cc pc = .ok (.pop2, 1)) (h1 : va.category = 2) (k : G B nL E ad ct n k0 s0 L (pc + 1) st) : G B nL E ad ct n k0 s0 L pc (va :: st) :=
  fun ls H locs h w => lv_pop2_2 fx.1.1 fx.1.2.1 d h1 (k ls H locs h w)
theorem g_if_eq (fx : gFx B cc own nL rm E) {x : Int32} {off : Int} (t : Nat) (d : decode cc pc = .ok (.ifCond .eq off, 3)) (ht : (pc : Int) + off = (t : Int)) (kt : x = 0 → G B nL E ad ct n k0 s0 L t st) (kf : ¬ x = 0 → G B nL E ad ct n k0 s0 L (pc + 3) st) : G B nL E ad ct n k0 s0 L pc (.int x :: st) :=
  fun ls H locs h w => lv_if_eq fx.1.1 fx.1.2.1 d ht (fun q => kt q ls H locs h w) (fun q => kf q ls H locs h w)
theorem g_if_ne (fx : gFx B cc own nL rm E) {x : Int32} {off : Int} (t : Nat) (d : decode cc pc = .ok (.ifCond .ne off, 3)) (ht : (pc : Int) + off = (t : Int)) (kt : ¬ x = 0 → G B nL E ad ct n k0 s0 L t st) (kf : x = 0 → G B nL E ad ct n k0 s0 L (pc + 3) st) : G B nL E ad ct n k0 s0 L pc (.int x :: st) :=
  fun ls H locs h w => lv_if_ne fx.1.1 fx.1.2.1 d ht (fun q => kt q ls H locs h w) (fun q => kf q ls H locs h w)
theorem g_if_lt (fx : gFx B cc own nL rm E) {x : Int32} {off : Int} (t : Nat) (d : decode cc pc = .ok (.ifCond .lt off, 3)) (ht : (pc : Int) + off = (t : Int)) (kt : x < 0 → G B nL E ad ct n k0 s0 L t st) (kf : ¬ x < 0 → G B nL E ad ct n k0 s0 L (pc + 3) st) : G B nL E ad ct n k0 s0 L pc (.int x :: st) :=
  fun ls H locs h w => lv_if_lt fx.1.1 fx.1.2.1 d ht (fun q => kt q ls H locs h w) (fun q => kf q ls H locs h w)
theorem g_if_ge (fx : gFx B cc own nL rm E) {x : Int32} {off : Int} (t : Nat) (d : decode cc pc = .ok (.ifCond .ge off, 3)) (ht : (pc : Int) + off = (t : Int)) (kt : 0 ≤ x → G B nL E ad ct n k0 s0 L t st) (kf : ¬ 0 ≤ x → G B nL E ad ct n k0 s0 L (pc + 3) st) : G B nL E ad ct n k0 s0 L pc (.int x :: st) :=
  fun ls H locs h w => lv_if_ge fx.1.1 fx.1.2.1 d ht (fun q => kt q ls H locs h w) (fun q => kf q ls H locs h w)
theorem g_if_gt (fx : gFx B cc own nL rm E) {x : Int32} {off : Int} (t : Nat) (d : decode cc pc = .ok (.ifCond .gt off, 3)) (ht : (pc : Int) + off = (t : Int)) (kt : 0 < x → G B nL E ad ct n k0 s0 L t st) (kf : ¬ 0 < x → G B nL E ad ct n k0 s0 L (pc + 3) st) : G B nL E ad ct n k0 s0 L pc (.int x :: st) :=
  fun ls H locs h w => lv_if_gt fx.1.1 fx.1.2.1 d ht (fun q => kt q ls H locs h w) (fun q => kf q ls H locs h w)
theorem g_if_le (fx : gFx B cc own nL rm E) {x : Int32} {off : Int} (t : Nat) (d : decode cc pc = .ok (.ifCond .le off, 3)) (ht : (pc : Int) + off = (t : Int)) (kt : x ≤ 0 → G B nL E ad ct n k0 s0 L t st) (kf : ¬ x ≤ 0 → G B nL E ad ct n k0 s0 L (pc + 3) st) : G B nL E ad ct n k0 s0 L pc (.int x :: st) :=
  fun ls H locs h w => lv_if_le fx.1.1 fx.1.2.1 d ht (fun q => kt q ls H locs h w) (fun q => kf q ls H locs h w)
theorem g_icmp_eq (fx : gFx B cc own nL rm E) {x y : Int32} {off : Int} (t : Nat) (d : decode cc pc = .ok (.if_icmp .eq off, 3)) (ht : (pc : Int) + off = (t : Int)) (kt : x = y → G B nL E ad ct n k0 s0 L t st) (kf : ¬ x = y → G B nL E ad ct n k0 s0 L (pc + 3) st) : G B nL E ad ct n k0 s0 L pc (.int y :: .int x :: st) :=
  fun ls H locs h w => lv_icmp_eq fx.1.1 fx.1.2.1 d ht (fun q => kt q ls H locs h w) (fun q => kf q ls H locs h w)
theorem g_icmp_ne (fx : gFx B cc own nL rm E) {x y : Int32} {off : Int} (t : Nat) (d : decode cc pc = .ok (.if_icmp .ne off, 3)) (ht : (pc : Int) + off = (t : Int)) (kt : ¬ x = y → G B nL E ad ct n k0 s0 L t st) (kf : x = y → G B nL E ad ct n k0 s0 L (pc + 3) st) : G B nL E ad ct n k0 s0 L pc (.int y :: .int x :: st) :=
  fun ls H locs h w => lv_icmp_ne fx.1.1 fx.1.2.1 d ht (fun q => kt q ls H locs h w) (fun q => kf q ls H locs h w)
theorem g_icmp_lt (fx : gFx B cc own nL rm E) {x y : Int32} {off : Int} (t : Nat) (d : decode cc pc = .ok (.if_icmp .lt off, 3)) (ht : (pc : Int) + off = (t : Int)) (kt : x < y → G B nL E ad ct n k0 s0 L t st) (kf : ¬ x < y → G B nL E ad ct n k0 s0 L (pc + 3) st) : G B nL E ad ct n k0 s0 L pc (.int y :: .int x :: st) :=
  fun ls H locs h w => lv_icmp_lt fx.1.1 fx.1.2.1 d ht (fun q => kt q ls H locs h w) (fun q => kf q ls H locs h w)
theorem g_icmp_ge (fx : gFx B cc own nL rm E) {x y : Int32} {off : Int} (t : Nat) (d : decode cc pc = .ok (.if_icmp .ge off, 3)) (ht : (pc : Int) + off = (t : Int)) (kt : y ≤ x → G B nL E ad ct n k0 s0 L t st) (kf : ¬ y ≤ x → G B nL E ad ct n k0 s0 L (pc + 3) st) : G B nL E ad ct n k0 s0 L pc (.int y :: .int x :: st) :=
  fun ls H locs h w => lv_icmp_ge fx.1.1 fx.1.2.1 d ht (fun q => kt q ls H locs h w) (fun q => kf q ls H locs h w)
theorem g_icmp_gt (fx : gFx B cc own nL rm E) {x y : Int32} {off : Int} (t : Nat) (d : decode cc pc = .ok (.if_icmp .gt off, 3)) (ht : (pc : Int) + off = (t : Int)) (kt : y < x → G B nL E ad ct n k0 s0 L t st) (kf : ¬ y < x → G B nL E ad ct n k0 s0 L (pc + 3) st) : G B nL E ad ct n k0 s0 L pc (.int y :: .int x :: st) :=
  fun ls H locs h w => lv_icmp_gt fx.1.1 fx.1.2.1 d ht (fun q => kt q ls H locs h w) (fun q => kf q ls H locs h w)
theorem g_icmp_le (fx : gFx B cc own nL rm E) {x y : Int32} {off : Int} (t : Nat) (d : decode cc pc = .ok (.if_icmp .le off, 3)) (ht : (pc : Int) + off = (t : Int)) (kt : x ≤ y → G B nL E ad ct n k0 s0 L t st) (kf : ¬ x ≤ y → G B nL E ad ct n k0 s0 L (pc + 3) st) : G B nL E ad ct n k0 s0 L pc (.int y :: .int x :: st) :=
  fun ls H locs h w => lv_icmp_le fx.1.1 fx.1.2.1 d ht (fun q => kt q ls H locs h w) (fun q => kf q ls H locs h w)
theorem g_goto (fx : gFx B cc own nL rm E) {off : Int} (t : Nat) (d : decode cc pc = .ok (.goto off, 3)) (ht : (pc : Int) + off = (t : Int)) (k : G B nL E ad ct n k0 s0 L t st) : G B nL E ad ct n k0 s0 L pc st :=
  fun ls H locs h w => lv_goto fx.1.1 fx.1.2.1 d ht (k ls H locs h w)
theorem g_null (fx : gFx B cc own nL rm E) (d : decode cc pc = .ok (.aconst_null, 1)) (k : G B nL E ad ct n k0 s0 L (pc + 1) (.null :: st)) : G B nL E ad ct n k0 s0 L pc st :=
  fun ls H locs h w => lv_null fx.1.1 fx.1.2.1 d (k ls H locs h w)
theorem g_ifnull (fx : gFx B cc own nL rm E) {x : Nat} {off : Int} (d : decode cc pc = .ok (.ifnull off, 3)) (k : G B nL E ad ct n k0 s0 L (pc + 3) st) : G B nL E ad ct n k0 s0 L pc (.ref x :: st) :=
  fun ls H locs h w => lv_ifnull fx.1.1 fx.1.2.1 d (k ls H locs h w)
theorem g_tableIn (fx : gFx B cc own nL rm E) {dflt lo hi : Int} {offs : Array Int} {len : Nat} {x : Int32} {off : Int} (t : Nat) (d : decode cc pc = .ok (.tableswitch dflt lo hi offs, len)) (h1 : ¬ x.toInt < lo) (h2 : ¬ hi < x.toInt) (ho : offs[(x.toInt - lo).toNat]? = some off) (ht : (pc : Int) + off = (t : Int)) (k : G B nL E ad ct n k0 s0 L t st) : G B nL E ad ct n k0 s0 L pc (.int x :: st) :=
  fun ls H locs h w => lv_tableIn fx.1.1 fx.1.2.1 d h1 h2 ho ht (k ls H locs h w)
theorem g_tableOut (fx : gFx B cc own nL rm E) {dflt lo hi : Int} {offs : Array Int} {len : Nat} {x : Int32} (t : Nat) (d : decode cc pc = .ok (.tableswitch dflt lo hi offs, len)) (h1 : x.toInt < lo ∨ hi < x.toInt) (ht : (pc : Int) + dflt = (t : Int)) (k : G B nL E ad ct n k0 s0 L t st) : G B nL E ad ct n k0 s0 L pc (.int x :: st) :=
  fun ls H locs h w => lv_tableOut fx.1.1 fx.1.2.1 d h1 ht (k ls H locs h w)
/-- a field's link: from class 'own', pool number 'index', field k of class ci -/
def gLk (own : String) (index ci k : Nat) : Prop := ∃ (C : String) (T : u_T) (N : Nat), gcl[ci]? = some (C, T, N) ∧ k < N ∧ (∀ w ∈ u_ws C T N, w ∈ gT0) ∧ (Cond.fieldLink own index (T k).1 (T k).2.1 (T k).2.2.1 ∈ gT0 ∨ ∃ host, Cond.fieldLinkNest own index (T k).1 (T k).2.1 (T k).2.2.1 host ∈ gN)
def gLp (own : String) (index ci k : Nat) (ty : FieldType) (fin : Bool) : Prop := ∃ (C : String) (T : u_T) (N : Nat) (ty0 : Nat → FieldType), gcl[ci]? = some (C, T, N) ∧ k < N ∧ (∀ w ∈ u_ws C T N, w ∈ gT0) ∧ (∀ k, k < N → parseFieldDescriptor (T k).2.2.1 = some (ty0 k)) ∧ (∀ a, a < N → ∀ b, b < N → a ≠ b → (T a).2.1 ≠ (T b).2.1) ∧ (T k).2.2.2 = fin ∧ parseFieldDescriptor (T k).2.2.1 = some ty ∧ (T k).1 = own ∧ Cond.fieldLink own index (T k).1 (T k).2.1 (T k).2.2.1 ∈ gT0
theorem g_get (fx : gFx B cc own nL rm E) {index ci k r : Nat} {fs : List Value} {v : Value} (lk : gLk own index ci k) (hr : r < n) (hc : ct r = .inr (ci, fs)) (hv : fs[k]? = some v) (d : decode cc pc = .ok (.getfield index, 3)) (kk : G B nL E ad ct n k0 s0 L (pc + 3) (v :: st)) : G B nL E ad ct n k0 s0 L pc (.ref (ad r) :: st) := by
  intro ls H locs h w
  obtain ⟨C, T, N, h1, h2, h3, h4⟩ := lk
  rcases h4 with h4 | ⟨host, h4⟩
  · exact va_get fx.1.1 fx.1.2.1 fx.1.2.2.2.2 h3 fx.1.2.2.2.1 fx.2.1 w.1 r (gw_atE hr hc) h1 k h2 (fx.1.2.2.2.2 _ h4) (fun _ h9 => h9) hv d (kk ls H locs h w)
  · exact va_getN fx.1.1 fx.1.2.1 fx.1.2.2.2.2 h3 fx.1.2.2.2.1 fx.2.1 w.1 r (gw_atE hr hc) h1 k h2 (va_Nw.use rfl (fx.2.2.2.2.2.2 _ h4)) (fun _ h9 => h9) hv d (kk ls H locs h w)
theorem gWd_set {r : Nat} {e : va_E} {H1 : Heap} {locs1 : List Loc} (hP : va_P B.1 gcl ((gw ad ct n).set r (ad r, e)) H1) (hD : va_D E.A ((gw ad ct n).set r (ad r, e))) (hS : va_S E.A E.s.heap H1 locs1) : gWd B E ad (va_up ct r e) n H1 locs1 := by
  rw [gw_set] at hP hD
  exact ⟨hP, hD, hS⟩
theorem g_put (fx : gFx B cc own nL rm E) {index ci k r : Nat} {fs fs' : List Value} {v : Value} {ty : FieldType} (lk : gLp own index ci k ty false) (hr : r < n) (hc : ct r = .inr (ci, fs)) (hn : narrow ty v = v) (hfit : fits ty v = true) (hl : k < fs.length) (hfs : fs.set k v = fs') (d : decode cc pc = .ok (.putfield index, 3)) (kk : ∀ ct', ct' = va_up ct r (.inr (ci, fs')) → G B nL E ad ct' n k0 s0 L (pc + 3) st) : G B nL E ad ct n k0 s0 L pc (v :: .ref (ad r) :: st) := by
  intro ls H locs h w
  obtain ⟨C, T, N, ty0, h1, h2, h3, h5, h6, h7, h8, -, h4⟩ := lk
  subst hfs
  exact va_put fx.1.1 fx.1.2.1 fx.1.2.2.2.2 h3 ty0 h5 h6 fx.1.2.2.2.1 fx.2.1 w.1 w.2.1 w.2.2 r (gw_atE hr hc) h1 k h2 (fx.1.2.2.2.2 _ h4) (fun _ h9 => h9) h7 h8 hn hfit hl d (fun H1 l1 hP hD hS => kk _ rfl ls H1 l1 h (gWd_set hP hD hS))
theorem g_putF (fx : gFx B cc own nL rm E) {index ci k r : Nat} {fs fs' : List Value} {v : Value} {ty : FieldType} (hin : E.meth.name = "<init>") (lk : gLp own index ci k ty true) (hr : r < n) (hc : ct r = .inr (ci, fs)) (hn : narrow ty v = v) (hfit : fits ty v = true) (hl : k < fs.length) (hfs : fs.set k v = fs') (d : decode cc pc = .ok (.putfield index, 3)) (kk : ∀ ct', ct' = va_up ct r (.inr (ci, fs')) → G B nL E ad ct' n k0 s0 L (pc + 3) st) : G B nL E ad ct n k0 s0 L pc (v :: .ref (ad r) :: st) := by
  intro ls H locs h w
  obtain ⟨C, T, N, ty0, h1, h2, h3, h5, h6, h7, h8, h9, h4⟩ := lk
  subst hfs
  exact va_putF fx.1.1 fx.1.2.1 fx.1.2.2.2.2 h3 ty0 h5 h6 fx.1.2.2.2.1 fx.2.1 w.1 w.2.1 w.2.2 r (gw_atE hr hc) h1 k h2 (fx.1.2.2.2.2 _ h4) (fun _ h9 => h9) h7 hin h9 h8 hn hfit hl d (fun H1 l1 hP hD hS => kk _ rfl ls H1 l1 h (gWd_set hP hD hS))
theorem gIx {i : Int32} {j N : Nat} (hi : i.toInt = (j : Int)) (hj : j < N) : vp_in i N := vp_in_iff.mpr ⟨by omega, by omega⟩
theorem gCl {i : Int32} {j : Nat} (hi : i.toInt = (j : Int)) : i.toNatClampNeg = j := by
  show i.toInt.toNat = j
  omega
theorem g_iald (fx : gFx B cc own nL rm E) {r N j : Nat} {f : Nat → Int32} {i : Int32} (hr : r < n) (hc : ct r = .inl (B.2.1 0, N, .inl f)) (hi : i.toInt = (j : Int)) (hj : j < N) (d : decode cc pc = .ok (.iaload, 1)) (kk : G B nL E ad ct n k0 s0 L (pc + 1) (.int (f j) :: st)) : G B nL E ad ct n k0 s0 L pc (.int i :: .ref (ad r) :: st) := by
  intro ls H locs h w
  refine va_iald fx.1.1 fx.1.2.1 fx.2.1 w.1 r 0 (gw_atE hr hc) rfl (gIx hi hj) d ?_
  rw [gCl hi]
  exact kk ls H locs h w
theorem g_lald (fx : gFx B cc own nL rm E) {r N j : Nat} {f : Nat → Int64} {i : Int32} (hr : r < n) (hc : ct r = .inl (B.2.1 1, N, .inr (.inl f))) (hi : i.toInt = (j : Int)) (hj : j < N) (d : decode cc pc = .ok (.laload, 1)) (kk : G B nL E ad ct n k0 s0 L (pc + 1) (.long (f j) :: st)) : G B nL E ad ct n k0 s0 L pc (.int i :: .ref (ad r) :: st) := by
  intro ls H locs h w
  refine va_lald fx.1.1 fx.1.2.1 fx.2.1 w.1 r 1 (gw_atE hr hc) rfl (gIx hi hj) d ?_
  rw [gCl hi]
  exact kk ls H locs h w
theorem g_aald (fx : gFx B cc own nL rm E) {r t0 N j q : Nat} {cA : ClassId} {C : String} {f : Nat → Option Nat} {i : Int32} (ht : (gTy B.2.1)[t0]? = some (cA, .object C)) (hr : r < n) (hc : ct r = .inl (cA, N, .inr (.inr (.inr (.inr f))))) (hi : i.toInt = (j : Int)) (hj : j < N) (hq : f j = some q) (d : decode cc pc = .ok (.aaload, 1)) (kk : G B nL E ad ct n k0 s0 L (pc + 1) (.ref q :: st)) : G B nL E ad ct n k0 s0 L pc (.int i :: .ref (ad r) :: st) := by
  intro ls H locs h w
  refine va_aldq fx.1.1 fx.1.2.1 fx.2.1 w.1 r t0 (gw_atE hr hc) ht (gIx hi hj) d ?_
  rw [gCl hi, hq]
  exact kk ls H locs h w
theorem g_iast (fx : gFx B cc own nL rm E) {r N j : Nat} {f : Nat → Int32} {i x : Int32} (hr : r < n) (hc : ct r = .inl (B.2.1 0, N, .inl f)) (hi : i.toInt = (j : Int)) (hj : j < N) (d : decode cc pc = .ok (.iastore, 1)) (kk : ∀ ct', ct' = va_up ct r (.inl (B.2.1 0, N, .inl (va_up f j x))) → G B nL E ad ct' n k0 s0 L (pc + 1) st) : G B nL E ad ct n k0 s0 L pc (.int x :: .int i :: .ref (ad r) :: st) := by
  intro ls H locs h w
  refine va_iast fx.1.1 fx.1.2.1 fx.2.1 w.1 w.2.1 w.2.2 r 0 (gw_atE hr hc) rfl (gIx hi hj) d (fun H1 l1 hP hD hS => ?_)
  rw [gCl hi] at hP hD
  exact kk _ rfl ls H1 l1 h (gWd_set hP hD hS)
theorem g_last (fx : gFx B cc own nL rm E) {r N j : Nat} {f : Nat → Int64} {i : Int32} {x : Int64} (hr : r < n) (hc : ct r = .inl (B.2.1 1, N, .inr (.inl f))) (hi : i.toInt = (j : Int)) (hj : j < N) (d : decode cc pc = .ok (.lastore, 1)) (kk : ∀ ct', ct' = va_up ct r (.inl (B.2.1 1, N, .inr (.inl (va_up f j x)))) → G B nL E ad ct' n k0 s0 L (pc + 1) st) : G B nL E ad ct n k0 s0 L pc (.long x :: .int i :: .ref (ad r) :: st) := by
  intro ls H locs h w
  refine va_last fx.1.1 fx.1.2.1 fx.2.1 w.1 w.2.1 w.2.2 r 1 (gw_atE hr hc) rfl (gIx hi hj) d (fun H1 l1 hP hD hS => ?_)
  rw [gCl hi] at hP hD
  exact kk _ rfl ls H1 l1 h (gWd_set hP hD hS)
theorem g_alen (fx : gFx B cc own nL rm E) {r t0 : Nat} {cA : ClassId} {ty : FieldType} {x : vp_A} (ht : (gTy B.2.1)[t0]? = some (cA, ty)) (hr : r < n) (hc : ct r = .inl (cA, x)) (d : decode cc pc = .ok (.arraylength, 1)) (kk : G B nL E ad ct n k0 s0 L (pc + 1) (.int (nI x.1) :: st)) : G B nL E ad ct n k0 s0 L pc (.ref (ad r) :: st) := by
  intro ls H locs h w
  exact va_alen fx.1.1 fx.1.2.1 fx.2.1 w.1 r t0 (gw_atE hr hc) ht rfl d (kk ls H locs h w)
theorem gA_sub {H : Heap} {locs : List Loc} (fx : gFx B cc own nL rm E) (w : gWd B E ad ct n H locs) : ∀ q, gA ad n H.size q → E.A q := by
  intro q h
  rcases h with ⟨k, hk, rfl⟩ | h
  · exact w.2.1.2 k _ (gw_at hk)
  · exact fx.2.2.1 q (Nat.le_trans w.2.2.1 h)
theorem g_blind {As : List Value} {sz : Nat} : FrameBlind (va_Pc As (fun U => U.heap.size = sz ∧ va_P B.1 gcl (gw ad ct n) U.heap ∧ va_K B.1 gcl (gTy B.2.1) U ∧ va_D (fun _ => True) (gw ad ct n) ∧ gZ B (gA ad n sz) U)) := by
  intro a U g mk q
  obtain ⟨q0, q1, qP, qK, qD, qZ⟩ := q
  exact ⟨q0, q1, qP, va_K.moved (u := U) (U := U.calling g mk a) (Vm.Alike.refl U.vm) qK, qD, qZ.1.moved (u := U) (U := U.calling g mk a) (Vm.Alike.refl U.vm), qZ.2.1.moved (u := U) (U := U.calling g mk a) (Vm.Alike.refl U.vm), gN_same (s := U) (U := U.calling g mk a) rfl qZ.2.2⟩
theorem g_pre {As : List Value} {H : Heap} {locs : List Loc} (fx : gFx B cc own nL rm E) (w : gWd B E ad ct n H locs) : ∀ U : State, U.heap = H → E.s.WarmedH U.vm → va_Pc As (fun U => U.heap.size = H.size ∧ va_P B.1 gcl (gw ad ct n) U.heap ∧ va_K B.1 gcl (gTy B.2.1) U ∧ va_D (fun _ => True) (gw ad ct n) ∧ gZ B (gA ad n H.size) U) As.toArray U := by
  intro U hU hW
  have hs := gA_sub fx w
  have hz := fx.2.2.2.2
  refine ⟨rfl, by rw [hU], by rw [hU]; exact w.1, va_K.moved hW.alike fx.2.1, w.2.1.weaken (fun _ _ _ _ => trivial), ?_, ?_, gN_moved hW hz.2.2⟩
  · exact ((hz.1.kept (H1 := U.heap) (fun a h1 h2 => by rw [hU]; exact w.2.2.2.1 a h1 h2)).narrow hs).moved hW.alike
  · exact ((hz.2.1.kept (H1 := U.heap) (fun a h1 h2 => by rw [hU]; exact w.2.2.2.1 a h1 h2)).narrow hs).moved hW.alike
/-- behind a call -/
theorem g_back (fx : gFx B cc own nL rm E) {post : gP} {mc ms : Nat} {rest st0 : List Value} {a : Array Value} {ls : Array Slot} {H : Heap} {locs : List Loc} (h : lv_has ls nL L) (w : gWd B E ad ct n H locs)
    (hr : va_Run E.p B.2.2.1 E.e E.R E.s E.m E.args E.below E.meth E.c H locs k0 s0 mc ms (F0 E.m pc ls st0) rest (gQ B post (gA ad n H.size) a) (gA ad n H.size))
    (kk : ∀ v ad' ct' n', post v ad' ct' n' → G B nL E ad' ct' n' (k0 + mc) (s0 + ms) L (pc + 3) (v.toList ++ rest)) : W E.p B.2.2.1 E.e E.R E.s E.m E.args E.below E.meth E.c H locs k0 s0 E.Q (F0 E.m pc ls st0) := by
  intro T hT X
  obtain ⟨v, st₀, t, T', L', h0, X', hL, e1, e2, ⟨⟨v', ad', ct', n', hv, hp, hP', hK', hD'⟩, hz, hk⟩, st'⟩ := hr T hT X
  cases hv
  rw [h0] at hz hk
  have hsub := gA_sub fx w
  have w' : gWd B E ad' ct' n' T'.heap (locs ++ L') := by
    refine ⟨by rw [e1]; exact hP', hD'.weaken (fun _ q _ hq => hsub q.1 hq), ⟨Nat.le_trans w.2.2.1 (by rw [e1]; exact hz), fun q h1 h2 => ?_, fun q hq => ?_⟩⟩
    · rw [e1, hk q (Nat.lt_of_lt_of_le h1 w.2.2.1) (fun z => h2 (hsub q z))]
      exact w.2.2.2.1 q h1 h2
    · rcases List.mem_append.mp hq with h1 | h1
      · exact w.2.2.2.2 q h1
      · exact hsub _ (hL q h1)
  obtain ⟨t2, a1, b1⟩ := kk v ad' ct' n' hp ls T'.heap (locs ++ L') h w' T' rfl X'
  exact ⟨t2, st' t2 a1, b1⟩
/-- a call's site: what the tables say of the method that is called from 'own' by pool number 'index' -/
def gMl (own : String) (index : Nat) (y : MethodName) (bytes : ByteArray) (maxL : Nat) (ret : Option FieldType) (na : Nat) : Prop :=
  (Cond.methodLink own index y ∈ gT0 ∨ ∃ host, Cond.methodLinkNest own index y host ∈ gN) ∧ Cond.initialized y.cls ∈ gT0 ∧ Cond.code y bytes maxL ret ∈ gT0 ∧ (y.cls ≠ "java/lang/invoke/MethodHandle" ∧ y.cls ≠ "java/lang/invoke/VarHandle" ∧ (parseMethodDescriptor y.desc).map (fun d => d.parameters.length) = some na)
def gVl (own : String) (index : Nat) (y : MethodName) (bytes : ByteArray) (maxL : Nat) (ret : Option FieldType) (na : Nat) : Prop := gMl own index y bytes maxL ret na ∧ Cond.instanceMethod y ∈ gT0 ∧ Cond.selects y.cls y y ∈ gT0
def gSl (own : String) (index : Nat) (y : MethodName) (bytes : ByteArray) (maxL : Nat) (ret : Option FieldType) (na : Nat) : Prop := gMl own index y bytes maxL ret na ∧ Cond.static y ∈ gT0
def gIl (own : String) (index : Nat) (y : MethodName) (bytes : ByteArray) (maxL : Nat) (na : Nat) : Prop := gMl own index y bytes maxL none na ∧ y.name = "<init>" ∧ Cond.instanceMethod y ∈ gT0
theorem gGood {y : MethodName} {bytes : ByteArray} {maxL : Nat} {ret : Option FieldType} (h : Cond.code y bytes maxL ret ∈ gT0) : GoodIn gT0 (Cond.code y bytes maxL ret :: gT0) := by
  intro w hw
  rcases List.mem_cons.mp hw with rfl | hw
  · exact gT0_good _ h
  · exact gT0_good _ hw
theorem g_callV (fx : gFx B cc own nL rm E) {index maxL na fr lo mc ms ci r : Nat} {y : MethodName} {bytes : ByteArray} {ret : Option FieldType} {post : gP} {As rest st0 fs : List Value} {T : u_T} {N : Nat}
    (sl : gVl own index y bytes maxL ret na) (hM : Ctr B y bytes maxL ret fr lo mc ms ad ct n (.ref (ad r) :: As) post) (hr : r < n) (hc : ct r = .inr (ci, fs)) (hci : gcl[ci]? = some (y.cls, T, N))
    (hst : st0 = As.reverse ++ .ref (ad r) :: rest) (hna : As.length = na) (hW : (rest.map fun v => v.category).sum ≤ 8) (hR : fr + 1 ≤ rm.frames ∧ 8 + (maxL + 11) + lo ≤ rm.locals) (hf : k0 + mc ≤ rm.cells ∧ s0 + ms ≤ rm.slots) (d : decode cc pc = .ok (.invokevirtual index, 3))
    (kk : ∀ v ad' ct' n', post v ad' ct' n' → G B nL E ad' ct' n' (k0 + mc) (s0 + ms) L (pc + 3) (v.toList ++ rest)) : G B nL E ad ct n k0 s0 L pc st0 := by
  intro ls H locs h w
  obtain ⟨fx1, fx2, fx3, rfl, fx4⟩ := id fx
  obtain ⟨⟨s1, s2, s3, s4⟩, s5, s6⟩ := sl
  have hG := gGood s3
  have hts := fx1.2.2.2.2
  have hp : PreV E.s H y.cls (ad r) (va_Pc (.ref (ad r) :: As) (fun U => U.heap.size = H.size ∧ va_P B.1 gcl (gw ad ct n) U.heap ∧ va_K B.1 gcl (gTy B.2.1) U ∧ va_D (fun _ => True) (gw ad ct n) ∧ gZ B (gA ad n H.size) U)) As :=
    ⟨g_blind, va_recv fx2 w.1 hci (gw_atE hr hc), g_pre fx w⟩
  subst hst
  rcases s1 with s1 | ⟨host, s1⟩
  · refine g_back fx h w (va_runV (As := As) (rest := rest) fx1 (hM H.size) (C := y.cls) ⟨callB_of na hts hG rfl rfl rfl (hts _ s2) (hts _ s1) s4 hR, hts _ s5, hts _ s6⟩ hp rfl hna h.1 rfl (lv_room hW) d hf) kk
  · refine g_back fx h w (va_runVN (As := As) (rest := rest) fx1 (hM H.size) (C := y.cls) (host := host) ⟨va_cnB na hts hG rfl rfl rfl (fx4.2.2 _ s1) (hts _ s2) s4 hR, hts _ s5, hts _ s6⟩ hp rfl hna h.1 rfl (lv_room hW) d hf) kk
theorem g_callS (fx : gFx B cc own nL rm E) {index maxL na fr lo mc ms : Nat} {y : MethodName} {bytes : ByteArray} {ret : Option FieldType} {post : gP} {As rest st0 : List Value}
    (sl : gSl own index y bytes maxL ret na) (hM : Ctr B y bytes maxL ret fr lo mc ms ad ct n As post)
    (hst : st0 = As.reverse ++ rest) (hna : As.length = na) (hW : (rest.map fun v => v.category).sum ≤ 8) (hR : fr + 1 ≤ rm.frames ∧ 8 + (maxL + 11) + lo ≤ rm.locals) (hf : k0 + mc ≤ rm.cells ∧ s0 + ms ≤ rm.slots) (d : decode cc pc = .ok (.invokestatic index, 3))
    (kk : ∀ v ad' ct' n', post v ad' ct' n' → G B nL E ad' ct' n' (k0 + mc) (s0 + ms) L (pc + 3) (v.toList ++ rest)) : G B nL E ad ct n k0 s0 L pc st0 := by
  intro ls H locs h w
  obtain ⟨fx1, fx2, fx3, rfl, fx4⟩ := id fx
  obtain ⟨⟨s1, s2, s3, s4⟩, s5⟩ := sl
  have hG := gGood s3
  have hts := fx1.2.2.2.2
  have hp : PreS E.s H (va_Pc As (fun U => U.heap.size = H.size ∧ va_P B.1 gcl (gw ad ct n) U.heap ∧ va_K B.1 gcl (gTy B.2.1) U ∧ va_D (fun _ => True) (gw ad ct n) ∧ gZ B (gA ad n H.size) U)) As := ⟨g_blind, g_pre fx w⟩
  subst hst
  rcases s1 with s1 | ⟨host, s1⟩
  · refine g_back fx h w (va_runS (As := As) (rest := rest) fx1 (hM H.size) ⟨callB_of na hts hG rfl rfl rfl (hts _ s2) (hts _ s1) s4 hR, hts _ s5⟩ hp rfl hna h.1 rfl (lv_room hW) d hf) kk
  · refine g_back fx h w (va_runSN (As := As) (rest := rest) fx1 (hM H.size) (host := host) ⟨va_cnB na hts hG rfl rfl rfl (fx4.2.2 _ s1) (hts _ s2) s4 hR, hts _ s5, trivial⟩ hp rfl hna h.1 rfl (lv_room hW) d hf) kk
theorem g_callI (fx : gFx B cc own nL rm E) {index maxL na fr lo mc ms b : Nat} {y : MethodName} {bytes : ByteArray} {post : gP} {As rest st0 : List Value}
    (sl : gIl own index y bytes maxL na) (hM : Ctr B y bytes maxL none fr lo mc ms ad ct n (.ref b :: As) post)
    (hst : st0 = As.reverse ++ .ref b :: rest) (hna : As.length = na) (hW : (rest.map fun v => v.category).sum ≤ 8) (hR : fr + 1 ≤ rm.frames ∧ 8 + (maxL + 11) + lo ≤ rm.locals) (hf : k0 + mc ≤ rm.cells ∧ s0 + ms ≤ rm.slots) (d : decode cc pc = .ok (.invokespecial index, 3))
    (kk : ∀ v ad' ct' n', post v ad' ct' n' → G B nL E ad' ct' n' (k0 + mc) (s0 + ms) L (pc + 3) (v.toList ++ rest)) : G B nL E ad ct n k0 s0 L pc st0 := by
  intro ls H locs h w
  obtain ⟨fx1, fx2, fx3, rfl, fx4⟩ := id fx
  obtain ⟨⟨s1, s2, s3, s4⟩, s5, s6⟩ := sl
  have hG := gGood s3
  have hts := fx1.2.2.2.2
  have hp : PreS E.s H (va_Pc (.ref b :: As) (fun U => U.heap.size = H.size ∧ va_P B.1 gcl (gw ad ct n) U.heap ∧ va_K B.1 gcl (gTy B.2.1) U ∧ va_D (fun _ => True) (gw ad ct n) ∧ gZ B (gA ad n H.size) U)) (.ref b :: As) := ⟨g_blind, g_pre fx w⟩
  subst hst
  rcases s1 with s1 | ⟨host, s1⟩
  · refine g_back fx h w (va_runI (As := As) (rest := rest) fx1 (hM H.size) ⟨callB_of na hts hG rfl rfl rfl (hts _ s2) (hts _ s1) s4 hR, s5, hts _ s6⟩ hp rfl hna h.1 rfl (lv_room hW) d hf) kk
  · refine g_back fx h w (va_runIN (As := As) (rest := rest) fx1 (hM H.size) (host := host) ⟨va_cnB na hts hG rfl rfl rfl (fx4.2.2 _ s1) (hts _ s2) s4 hR, s5, hts _ s6⟩ hp rfl hna h.1 rfl (lv_room hW) d hf) kk
/-- ends -/
theorem g_end {post : gP} {mc ms : Nat} {ret : Option FieldType} (rt : gRt B post mc ms ret E) {H : Heap} {locs : List Loc} (fx : gFx B cc own nL rm E) (w : gWd B E ad ct n H locs) {v : Option Value} (hp : post v ad ct n) : ∀ t : State, t.heap = H → E.s.WarmedH t.vm → gQ B post E.A E.args E.s (.returned v) t := by
  intro t ht hW
  exact ⟨⟨v, ad, ct, n, rfl, hp, by rw [ht]; exact w.1, va_K.moved hW.alike fx.2.1, w.2.1⟩, w.2.2.F ht⟩
theorem g_iret (fx : gFx B cc own nL rm E) {post : gP} {mc ms : Nat} (rt : gRt B post mc ms (some .int) E) {v : Int32} (d : decode cc pc = .ok (.ireturn, 1)) (hp : post (some (.int v)) ad ct n) : G B nL E ad ct n mc ms L pc [.int v] := by
  intro ls H locs h w
  rw [rt.1]
  exact W.iret fx.1.1 fx.1.2.1 rt.2.1 (g_end rt fx w hp) w.2.2.2.2 d rt.2.2
theorem g_zret (fx : gFx B cc own nL rm E) {post : gP} {mc ms : Nat} (rt : gRt B post mc ms (some .boolean) E) {v : Int32} (d : decode cc pc = .ok (.ireturn, 1)) (hn : narrow .boolean (.int v) = .int v) (hp : post (some (.int v)) ad ct n) : G B nL E ad ct n mc ms L pc [.int v] := by
  intro ls H locs h w
  rw [rt.1]
  exact W.zret fx.1.1 fx.1.2.1 rt.2.1 hn (g_end rt fx w hp) w.2.2.2.2 d rt.2.2
theorem g_lret (fx : gFx B cc own nL rm E) {post : gP} {mc ms : Nat} (rt : gRt B post mc ms (some .long) E) {v : Int64} (d : decode cc pc = .ok (.lreturn, 1)) (hp : post (some (.long v)) ad ct n) : G B nL E ad ct n mc ms L pc [.long v] := by
  intro ls H locs h w
  rw [rt.1]
  exact W.lret fx.1.1 fx.1.2.1 rt.2.1 (g_end rt fx w hp) w.2.2.2.2 d rt.2.2
theorem g_vret (fx : gFx B cc own nL rm E) {post : gP} {mc ms : Nat} (rt : gRt B post mc ms none E) (d : decode cc pc = .ok (.return_, 1)) (hp : post none ad ct n) : G B nL E ad ct n mc ms L pc [] := by
  intro ls H locs h w
  rw [rt.1]
  exact W.vret fx.1.1 fx.1.2.1 rt.2.1 (g_end rt fx w hp) w.2.2.2.2 d rt.2.2
theorem g_aret (fx : gFx B cc own nL rm E) {post : gP} {mc ms : Nat} {C : String} (rt : gRt B post mc ms (some (.object C)) E) {a : Nat} (d : decode cc pc = .ok (.areturn, 1)) (hp : post (some (.ref a)) ad ct n) : G B nL E ad ct n mc ms L pc [.ref a] := by
  intro ls H locs h w
  rw [rt.1]
  exact W.aret fx.1.1 fx.1.2.1 rt.2.1 (Or.inl ⟨C, rfl⟩) (Or.inr ⟨a, rfl⟩) (g_end rt fx w hp) w.2.2.2.2 d rt.2.2
theorem g_objInit (fx : gFx B cc own nL rm E) {index b : Nat} (h1 : Cond.methodLink own index Lib.objectInit ∈ gT0) (h2 : Cond.instanceMethod Lib.objectInit ∈ gT0) (h3 : Cond.code Lib.objectInit ⟨#[0xb1]⟩ 1 none ∈ gT0) (hR : 1 ≤ rm.frames) (hR2 : (st.map fun v => v.category).sum + 12 ≤ rm.locals) (d : decode cc pc = .ok (.invokespecial index, 3)) (kk : G B nL E ad ct n k0 s0 L (pc + 3) st) : G B nL E ad ct n k0 s0 L pc (.ref b :: st) := by
  intro ls H locs h w
  obtain ⟨fx1, fx2, fx3, rfl, fx4⟩ := id fx
  have hts := fx1.2.2.2.2
  exact W.objInit fx1.1 fx1.2.1 fx1.2.2.2.1 (hts _ h1) (hts _ h2) (hts _ h3) rfl (by rw [fx1.2.2.1]; exact h.1) rfl d hR (by simpa [F0, JFrame.monitorRoom] using hR2) (kk ls H locs h w)
theorem g_ldcw (fx : gFx B cc own nL rm E) {index : Nat} {v : Int32} (hc : Cond.constant own index v ∈ gT0) (d : decode cc pc = .ok (.ldc_w index, 3)) (k : G B nL E ad ct n k0 s0 L (pc + 3) (.int v :: st)) : G B nL E ad ct n k0 s0 L pc st :=
  fun ls H locs h w => lv_ldcw fx.1.1 fx.1.2.1 fx.1.2.2.2.1 (fx.1.2.2.2.2 _ hc) d (k ls H locs h w)
theorem g_i2b (fx : gFx B cc own nL rm E) {x : Int32} (d : decode cc pc = .ok (.i2b, 1)) (k : G B nL E ad ct n k0 s0 L (pc + 1) (.int x.toInt8.toInt32 :: st)) : G B nL E ad ct n k0 s0 L pc (.int x :: st) :=
  fun ls H locs h w => lv_i2b fx.1.1 fx.1.2.1 d rfl (k ls H locs h w)
theorem g_bald (fx : gFx B cc own nL rm E) {r N j : Nat} {f : Nat → Int32} {i : Int32} (hr : r < n) (hc : ct r = .inl (B.2.1 2, N, .inl f)) (hi : i.toInt = (j : Int)) (hj : j < N) (d : decode cc pc = .ok (.baload, 1)) (kk : G B nL E ad ct n k0 s0 L (pc + 1) (.int (f j) :: st)) : G B nL E ad ct n k0 s0 L pc (.int i :: .ref (ad r) :: st) := by
  intro ls H locs h w
  refine va_bald fx.1.1 fx.1.2.1 fx.2.1 w.1 r 2 (gw_atE hr hc) rfl (gIx hi hj) d ?_
  rw [gCl hi]
  exact kk ls H locs h w
theorem g_primes (fx : gFx B cc own nL rm E) {index : Nat} (hl : Cond.fieldLink own index "ExactTests$Fraction" "PRIMES" "[I" ∈ gT0) (d : decode cc pc = .ok (.getstatic index, 3)) (k : G B nL E ad ct n k0 s0 L (pc + 3) (.ref B.2.2.2 :: st)) : G B nL E ad ct n k0 s0 L pc st :=
  fun ls H locs h w => va_gets fx.1.1 fx.1.2.1 fx.2.2.2.2.1 w.2.2 fx.1.2.2.2.1 (fx.1.2.2.2.2 _ hl) (fun _ h9 => h9) d (k ls H locs h w)
theorem g_primeAt (fx : gFx B cc own nL rm E) {j : Nat} {i : Int32} (hi : i.toInt = (j : Int)) (hj : j < 17) (d : decode cc pc = .ok (.iaload, 1)) (kk : G B nL E ad ct n k0 s0 L (pc + 1) (.int (gPr j) :: st)) : G B nL E ad ct n k0 s0 L pc (.int i :: .ref B.2.2.2 :: st) := by
  intro ls H locs h w
  exact va_ti fx.1.1 fx.1.2.1 fx.2.2.2.2.2.1 w.2.2 (gIx hi hj) (by rw [gCl hi]) d (kk ls H locs h w)
theorem g_primesLen (fx : gFx B cc own nL rm E) (d : decode cc pc = .ok (.arraylength, 1)) (kk : G B nL E ad ct n k0 s0 L (pc + 1) (.int 17 :: st)) : G B nL E ad ct n k0 s0 L pc (.ref B.2.2.2 :: st) := by
  intro ls H locs h w
  exact va_tlen fx.1.1 fx.1.2.1 fx.2.2.2.2.2.1 w.2.2 rfl d (kk ls H locs h w)
end GR
theorem Ctr.ofG {B : gB} {y : MethodName} {cc : ByteArray} {nL : Nat} {ret : Option FieldType} {fr lo mc ms : Nat} {ad : Nat → Nat} {ct : Nat → va_E} {n : Nat} {As : List Value} {post : gP} {L : List (Nat × Value)} (hy : plainFor y = true) (hL : lv_args 0 As = L) (hn : (lg_sl As).length ≤ nL)
    (body : ∀ E : gE, gFx B cc y.cls nL { frames := fr, cells := mc, slots := ms, locals := lo } E → gRt B post mc ms ret E → E.meth.name = y.name → G B nL E ad ct n 0 0 L 0 []) : Ctr B y cc nL ret fr lo mc ms ad ct n As post := by
  intro sz
  refine va_MetF (cc := cc) (maxL := nL) (ret := ret) hy rfl ?_
  intro p e s m args below meth c s₁ X hml hv
  obtain ⟨rfl, hsz, hP, hK, hD0, hZ⟩ := hv
  have hts := atoms_spec (ws := Cond.code y cc nL ret :: gT0) X.pre
  have hown : s.vm.findClass y.cls = some m.cls := findClass_of_methodNamed X.named
  have hl := lv_entry As (n := nL) hn
  rw [lg_entry_eq]
  rw [hL] at hl
  subst hsz
  have hD : va_D (gA ad n s.heap.size) (gw ad ct n) := ⟨hD0.1, fun k q hk => by
    obtain ⟨h1, rfl⟩ := gw_in hk
    exact Or.inl ⟨k, h1, rfl⟩⟩
  exact body ((p, e, _, s), (m, _, below, meth, c), (gA ad n s.heap.size, _)) ⟨⟨X.exec, X.bytes, hml, hown, fun w hw => hts w (List.mem_cons_of_mem _ hw)⟩, hK, fun q h => Or.inr h, rfl, hZ⟩ ⟨rfl, X.returns, X.notSynchronized⟩ (name_of_methodNamed X.named X.method).1 _ s.heap [] hl ⟨hP, hD, va_S.rf⟩
