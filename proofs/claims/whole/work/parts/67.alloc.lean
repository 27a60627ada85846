/-! what is made -/
section GA
variable {B : gB} {cc : ByteArray} {own : String} {nL : Nat} {rm : Room} {E : gE} {ad : Nat → Nat} {ct : Nat → va_E} {n k0 s0 : Nat} {L : List (Nat × Value)} {pc : Nat} {st : List Value}
theorem gWd_push {q : Nat} {e : va_E} {H1 : Heap} {locs1 : List Loc} (hP : va_P B.1 gcl (gw ad ct n ++ [(q, e)]) H1) (hD : va_D E.A (gw ad ct n ++ [(q, e)])) (hS : va_S E.A E.s.heap H1 locs1) : gWd B E (va_up ad n q) (va_up ct n e) (n + 1) H1 locs1 := by
  rw [gw_push] at hP hD
  exact ⟨hP, hD, hS⟩
theorem pos_clamp {x : Int32} {N : Nat} (hx : x.toInt = (N : Int)) : ¬ x < 0 := fun q => by
  have h := Int32.lt_iff_toInt_lt.mp q
  have e : (0 : Int32).toInt = 0 := by decide
  omega
theorem g_newi (fx : gFx B cc own nL rm E) {x : Int32} {N : Nat} (hx : x.toInt = (N : Int)) (hb : N ≤ 134217728) (hk : k0 + 1 ≤ rm.cells ∧ s0 + N ≤ rm.slots) (d : decode cc pc = .ok (.newarray .int, 2))
    (kk : ∀ ad1 ct1, (∀ r, r ≠ n → ad1 r = ad r) → (∀ r, r ≠ n → ct1 r = ct r) → ct1 n = .inl (B.2.1 0, N, .inl (nF (fun _ => 0))) → G B nL E ad1 ct1 (n + 1) (k0 + 1) (s0 + N) L (pc + 2) (.ref (ad1 n) :: st)) : G B nL E ad ct n k0 s0 L pc (.int x :: st) := by
  intro ls H locs h w
  obtain ⟨fx1, fx2, fx3, rfl, fx4⟩ := id fx
  refine va_newa fx1.1 fx1.2.1 (atype := .int) (fx1.2.2.2.2 _ ac_int) rfl fx2 w.1 w.2.1 w.2.2 fx3 (a0 := (N, .inl (nF (fun _ => 0)))) (fun _ => rfl) (pos_clamp hx) (gCl hx) (by show N * 4 ≤ _; omega) hk.1 hk.2 d (fun q cA H1 hK hP hD hS => ?_)
  have hcA : cA = B.2.1 0 := Option.some.inj ((hK.2 5 (cA, .int) rfl).2.symm.trans (fx2.2 0 (B.2.1 0, .int) rfl).2)
  subst hcA
  have k := kk (va_up ad n q) (va_up ct n _) (fun r hr => va_up_ne _ _ hr) (fun r hr => va_up_ne _ _ hr) (va_up_self _ _ _) ls H1 locs h (gWd_push hP hD hS)
  rw [va_up_self] at k
  exact k
theorem g_newl (fx : gFx B cc own nL rm E) {x : Int32} {N : Nat} (hx : x.toInt = (N : Int)) (hb : N ≤ 67108864) (hk : k0 + 1 ≤ rm.cells ∧ s0 + N ≤ rm.slots) (d : decode cc pc = .ok (.newarray .long, 2))
    (kk : ∀ ad1 ct1, (∀ r, r ≠ n → ad1 r = ad r) → (∀ r, r ≠ n → ct1 r = ct r) → ct1 n = .inl (B.2.1 1, N, .inr (.inl (lF (fun _ => 0)))) → G B nL E ad1 ct1 (n + 1) (k0 + 1) (s0 + N) L (pc + 2) (.ref (ad1 n) :: st)) : G B nL E ad ct n k0 s0 L pc (.int x :: st) := by
  intro ls H locs h w
  obtain ⟨fx1, fx2, fx3, rfl, fx4⟩ := id fx
  refine va_newa fx1.1 fx1.2.1 (atype := .long) (fx1.2.2.2.2 _ ac_long) rfl fx2 w.1 w.2.1 w.2.2 fx3 (a0 := (N, .inr (.inl (lF (fun _ => 0))))) (fun _ => rfl) (pos_clamp hx) (gCl hx) (by show N * 8 ≤ _; omega) hk.1 hk.2 d (fun q cA H1 hK hP hD hS => ?_)
  have hcA : cA = B.2.1 1 := Option.some.inj ((hK.2 5 (cA, .long) rfl).2.symm.trans (fx2.2 1 (B.2.1 1, .long) rfl).2)
  subst hcA
  have k := kk (va_up ad n q) (va_up ct n _) (fun r hr => va_up_ne _ _ hr) (fun r hr => va_up_ne _ _ hr) (va_up_self _ _ _) ls H1 locs h (gWd_push hP hD hS)
  rw [va_up_self] at k
  exact k
theorem g_newb (fx : gFx B cc own nL rm E) {x : Int32} {N : Nat} (hx : x.toInt = (N : Int)) (hb : N ≤ 67108864) (hk : k0 + 1 ≤ rm.cells ∧ s0 + N ≤ rm.slots) (d : decode cc pc = .ok (.newarray .byte, 2))
    (kk : ∀ ad1 ct1, (∀ r, r ≠ n → ad1 r = ad r) → (∀ r, r ≠ n → ct1 r = ct r) → ct1 n = .inl (B.2.1 2, N, .inl (nF (fun _ => 0))) → G B nL E ad1 ct1 (n + 1) (k0 + 1) (s0 + N) L (pc + 2) (.ref (ad1 n) :: st)) : G B nL E ad ct n k0 s0 L pc (.int x :: st) := by
  intro ls H locs h w
  obtain ⟨fx1, fx2, fx3, rfl, fx4⟩ := id fx
  refine va_newa fx1.1 fx1.2.1 (atype := .byte) (fx1.2.2.2.2 _ ac_byte) rfl fx2 w.1 w.2.1 w.2.2 fx3 (a0 := (N, .inl (nF (fun _ => 0)))) (fun _ => rfl) (pos_clamp hx) (gCl hx) (by show N * 1 ≤ _; omega) hk.1 hk.2 d (fun q cA H1 hK hP hD hS => ?_)
  have hcA : cA = B.2.1 2 := Option.some.inj ((hK.2 5 (cA, .byte) rfl).2.symm.trans (fx2.2 2 (B.2.1 2, .byte) rfl).2)
  subst hcA
  have k := kk (va_up ad n q) (va_up ct n _) (fun r hr => va_up_ne _ _ hr) (fun r hr => va_up_ne _ _ hr) (va_up_self _ _ _) ls H1 locs h (gWd_push hP hD hS)
  rw [va_up_self] at k
  exact k
theorem g_newq (fx : gFx B cc own nL rm E) {index t0 : Nat} {C : String} {cA0 : ClassId} {x : Int32} {N : Nat} (hl : Cond.classLink own index C ∈ gT0) (hov : Cond.arrayOver (.object C) ∈ gN) (ht : (gTy B.2.1)[t0]? = some (cA0, .object C)) (hx : x.toInt = (N : Int)) (hb : N ≤ 67108864) (hk : k0 + 1 ≤ rm.cells ∧ s0 + N ≤ rm.slots) (d : decode cc pc = .ok (.anewarray index, 3))
    (kk : ∀ ad1 ct1, (∀ r, r ≠ n → ad1 r = ad r) → (∀ r, r ≠ n → ct1 r = ct r) → ct1 n = .inl (cA0, N, .inr (.inr (.inr (.inr (fun _ => none))))) → G B nL E ad1 ct1 (n + 1) (k0 + 1) (s0 + N) L (pc + 3) (.ref (ad1 n) :: st)) : G B nL E ad ct n k0 s0 L pc (.int x :: st) := by
  intro ls H locs h w
  obtain ⟨fx1, fx2, fx3, rfl, fx4⟩ := id fx
  refine va_newq fx1.1 fx1.2.1 fx1.2.2.2.1 (fx1.2.2.2.2 _ hl) (fx4.2.2 _ hov) fx2 w.1 w.2.1 w.2.2 fx3 (pos_clamp hx) (gCl hx) (by omega) hk.1 hk.2 d (fun q cA H1 hK hP hD hS => ?_)
  have hcA : cA = cA0 := by
    obtain ⟨_, _, _, _, _, h1⟩ := (hK.2 5 (cA, .object C) rfl).2
    obtain ⟨_, _, _, _, _, h2⟩ := (fx2.2 t0 (cA0, .object C) ht).2
    exact Option.some.inj (h1.symm.trans h2)
  subst hcA
  have k := kk (va_up ad n q) (va_up ct n _) (fun r hr => va_up_ne _ _ hr) (fun r hr => va_up_ne _ _ hr) (va_up_self _ _ _) ls H1 locs h (gWd_push hP hD hS)
  rw [va_up_self] at k
  exact k
/-- an object's class as 'new' needs it -/
def gNw (ci : Nat) (C : String) (N : Nat) (fs : List Value) : Prop := ∃ (T : u_T) (ty : Nat → FieldType), gcl[ci]? = some (C, T, N) ∧ (∀ w ∈ u_ws C T N, w ∈ gT0) ∧ (∀ k, k < N → parseFieldDescriptor (T k).2.2.1 = some (ty k)) ∧ (∀ j, j < N → defaultValue (ty j) = vp_V fs j) ∧ Cond.instantiable C N ∈ gT0 ∧ Cond.initialized C ∈ gT0
theorem g_newo (fx : gFx B cc own nL rm E) {index ci N : Nat} {C : String} {fs : List Value} (hw : gNw ci C N fs) (hl : Cond.classLink own index C ∈ gT0) (hk : k0 + 1 ≤ rm.cells ∧ s0 + N ≤ rm.slots) (d : decode cc pc = .ok (.new index, 3))
    (kk : ∀ ad1 ct1, (∀ r, r ≠ n → ad1 r = ad r) → (∀ r, r ≠ n → ct1 r = ct r) → ct1 n = .inr (ci, fs) → G B nL E ad1 ct1 (n + 1) (k0 + 1) (s0 + N) L (pc + 3) (.ref (ad1 n) :: st)) : G B nL E ad ct n k0 s0 L pc st := by
  intro ls H locs h w
  obtain ⟨fx1, fx2, fx3, rfl, fx4⟩ := id fx
  obtain ⟨T, ty, h1, h2, h3, h4, h5, h6⟩ := hw
  have hts := fx1.2.2.2.2
  refine va_new fx1.1 fx1.2.1 hts h2 ty h3 fx1.2.2.2.1 (hts _ hl) (hts _ h5) (hts _ h6) fx2 w.1 w.2.1 w.2.2 fx3 h1 h4 hk.1 hk.2 d (fun q H1 hP hD hS => ?_)
  have k := kk (va_up ad n q) (va_up ct n _) (fun r hr => va_up_ne _ _ hr) (fun r hr => va_up_ne _ _ hr) (va_up_self _ _ _) ls H1 locs h (gWd_push hP hD hS)
  rw [va_up_self] at k
  exact k
theorem g_aast (fx : gFx B cc own nL rm E) {r t0 N j k ci : Nat} {cA : ClassId} {C : String} {T : u_T} {M : Nat} {f : Nat → Option Nat} {vs : List Value} {i : Int32} (ht : (gTy B.2.1)[t0]? = some (cA, .object C)) (hci : gcl[ci]? = some (C, T, M)) (hr : r < n) (hc : ct r = .inl (cA, N, .inr (.inr (.inr (.inr f))))) (hk : k < n) (hv : ct k = .inr (ci, vs)) (hi : i.toInt = (j : Int)) (hj : j < N) (d : decode cc pc = .ok (.aastore, 1))
    (kk : ∀ ct', ct' = va_up ct r (.inl (cA, N, .inr (.inr (.inr (.inr (va_up f j (some (ad k)))))))) → G B nL E ad ct' n k0 s0 L (pc + 1) st) : G B nL E ad ct n k0 s0 L pc (.ref (ad k) :: .int i :: .ref (ad r) :: st) := by
  intro ls H locs h w
  refine va_astq fx.1.1 fx.1.2.1 fx.2.1 w.1 w.2.1 w.2.2 r t0 k ci (gw_atE hr hc) ht (gw_atE hk hv) hci (gIx hi hj) d (fun H1 l1 hP hD hS => ?_)
  rw [gCl hi] at hP hD
  exact kk _ rfl ls H1 l1 h (gWd_set hP hD hS)
theorem g_copy (fx : gFx B cc own nL rm E) {index r0 r1 n0 n1 sp dp m : Nat} {f g : Nat → Int32} {x y z : Int32} (hl : Cond.methodLink own index arraycopyName ∈ gT0) (h0 : r0 < n) (h1 : r1 < n) (hc0 : ct r0 = .inl (B.2.1 0, n0, .inl f)) (hc1 : ct r1 = .inl (B.2.1 0, n1, .inl g)) (hx : x.toInt = (sp : Int)) (hy : y.toInt = (dp : Int)) (hz : z.toInt = (m : Int)) (hs : sp + m ≤ n0) (hd : dp + m ≤ n1) (hR : 1 ≤ rm.frames ∧ (st.map fun v => v.category).sum + (nativeFrameWords "java/lang/System" "arraycopy" 5 + 11) ≤ rm.locals) (d : decode cc pc = .ok (.invokestatic index, 3))
    (kk : ∀ ct', ct' = va_up ct r1 (.inl (B.2.1 0, n1, .inl (va_cpy f g sp dp m))) → G B nL E ad ct' n k0 s0 L (pc + 3) st) : G B nL E ad ct n k0 s0 L pc (.int z :: .int y :: .ref (ad r1) :: .int x :: .ref (ad r0) :: st) := by
  intro ls H locs h w
  obtain ⟨fx1, fx2, fx3, rfl, fx4⟩ := id fx
  have hts := fx1.2.2.2.2
  refine va_copyi fx1.1 fx1.2.1 (by rw [fx1.2.2.1]; exact h.1.symm) fx1.2.2.2.1 (hts _ hl) (hts _ (gT0_tb 602 (by decide +kernel) rfl)) (hts _ (gT0_tb 601 (by decide +kernel) rfl)) (hts _ (gT0_tb 15 (by decide +kernel) rfl)) fx2 w.1 w.2.1 w.2.2 r0 r1 0 0 (gw_atE h0 hc0) (gw_atE h1 hc1) rfl rfl rfl (pos_clamp hx) (pos_clamp hy) (pos_clamp hz) (by rw [gCl hx, gCl hz]; exact hs) (by rw [gCl hy, gCl hz]; exact hd) (fun i _ => rfl) hR.1 hR.2 d (fun H1 l1 hP hD hS => ?_)
  rw [gCl hx, gCl hy, gCl hz] at hP hD
  exact kk _ rfl ls H1 l1 h (gWd_set hP hD hS)
/-- another view of the same cells: role r is the newest cell's from here on -/
theorem gw_congr {ad2 : Nat → Nat} {ct2 : Nat → va_E} (h1 : ∀ r, r < n → ad2 r = ad r) (h2 : ∀ r, r < n → ct2 r = ct r) : gw ad2 ct2 n = gw ad ct n := by
  unfold gw
  apply List.map_congr_left
  intro a ha
  have := List.mem_range.mp ha
  rw [h1 a this, h2 a this]
theorem g_view {ad2 : Nat → Nat} {ct2 : Nat → va_E} {m : Nat} (f : Nat → Nat) (hf : ∀ k, k < m → f k < n) (hi : ∀ j k, j < m → k < m → f j = f k → j = k) (h1 : ∀ k, k < m → ad2 k = ad (f k)) (h2 : ∀ k, k < m → ct2 k = ct (f k)) (kk : G B nL E ad2 ct2 m k0 s0 L pc st) : G B nL E ad ct n k0 s0 L pc st := by
  intro ls H locs h w
  refine kk ls H locs h ⟨fun k q hk => ?_, ⟨fun i j p q hp hq e => ?_, fun k q hk => ?_⟩, w.2.2⟩
  · obtain ⟨a, rfl⟩ := gw_in hk
    rw [h1 k a, h2 k a]
    exact w.1 (f k) _ (gw_at (hf k a))
  · obtain ⟨a, rfl⟩ := gw_in hp
    obtain ⟨b, rfl⟩ := gw_in hq
    exact hi i j a b (w.2.1.1 (f i) (f j) _ _ (gw_at (hf i a)) (gw_at (hf j b)) (by rw [← h1 i a, ← h1 j b]; exact e))
  · obtain ⟨a, rfl⟩ := gw_in hk
    rw [h1 k a, h2 k a]
    exact w.2.1.2 (f k) _ (gw_at (hf k a))
theorem g_drop {ad2 : Nat → Nat} {ct2 : Nat → va_E} (r : Nat) (hr : r < n) (h1 : ∀ k, k < n → k ≠ r → ad2 k = ad k) (h2 : ∀ k, k < n → k ≠ r → ct2 k = ct k) (h3 : ad2 r = ad n) (h4 : ct2 r = ct n) (kk : G B nL E ad2 ct2 n k0 s0 L pc st) : G B nL E ad ct (n + 1) k0 s0 L pc st := by
  refine g_view (fun k => if k = r then n else k) (fun k hk => by split <;> omega) (fun j k hj hk e => by split at e <;> split at e <;> omega) (fun k hk => ?_) (fun k hk => ?_) kk
  · by_cases q : k = r
    · subst q; rw [if_pos rfl]; exact h3
    · rw [if_neg q]; exact h1 k hk q
  · by_cases q : k = r
    · subst q; rw [if_pos rfl]; exact h4
    · rw [if_neg q]; exact h2 k hk q
theorem g_same {L' : List (Nat × Value)} {st' : List Value} (hL : L = L') (hs : st = st') (k : G B nL E ad ct n k0 s0 L' pc st') : G B nL E ad ct n k0 s0 L pc st := by subst hL hs; exact k
theorem g_more {k1 s1 : Nat} (h1 : k0 ≤ k1) (h2 : s0 ≤ s1) (k : G B nL E ad ct n k1 s1 L pc st) : G B nL E ad ct n k0 s0 L pc st := g_widen h1 h2 k
end GA
set_option maxRecDepth 20000 in
theorem nwX0 : gNw 0 RX0 5 [.null, .int 0, .int 0, .int 0, .int 0] := ⟨TX0, tyX0, rfl, inX0, tyX0_ok, by decide, isX0⟩
set_option maxRecDepth 20000 in
theorem nwX1 : gNw 1 RX1 4 [.null, .null, .null, .int 0] := ⟨TX1, tyX1, rfl, inX1, tyX1_ok, by decide, isX1⟩
set_option maxRecDepth 20000 in
theorem nwX2 : gNw 2 RX2 2 [.null, .null] := ⟨TX2, tyX2, rfl, inX2, tyX2_ok, by decide, isX2⟩
set_option maxRecDepth 20000 in
theorem nwX3 : gNw 3 RX3 3 [.null, .int 0, .int 0] := ⟨TX3, tyX3, rfl, inX3, tyX3_ok, by decide, isX3⟩
set_option maxRecDepth 20000 in
theorem nwX4 : gNw 4 RX4 3 [.null, .null, .int 0] := ⟨TX4, tyX4, rfl, inX4, tyX4_ok, by decide, isX4⟩
set_option maxRecDepth 20000 in
theorem nwX5 : gNw 5 RX5 2 [.null, .int 0] := ⟨TX5, tyX5, rfl, inX5, tyX5_ok, by decide, isX5⟩
set_option maxRecDepth 20000 in
theorem nwX6 : gNw 6 RX6 5 [.null, .int 0, .int 0, .int 0, .int 0] := ⟨TX6, tyX6, rfl, inX6, tyX6_ok, by decide, isX6⟩
set_option maxRecDepth 20000 in
theorem nwX7 : gNw 7 RX7 2 [.null, .null] := ⟨TX7, tyX7, rfl, inX7, tyX7_ok, by decide, isX7⟩
set_option maxRecDepth 20000 in
theorem nwX8 : gNw 8 RX8 7 [.null, .null, .int 0, .int 0, .int 0, .long 0, .long 0] := ⟨TX8, tyX8, rfl, inX8, tyX8_ok, by decide, isX8⟩
set_option maxRecDepth 20000 in
theorem nwX9 : gNw 9 RX9 15 [.null, .null, .null, .null, .null, .int 0, .int 0, .int 0, .int 0, .null, .null, .null, .null, .null, .null] := ⟨TX9, tyX9, rfl, inX9, tyX9_ok, by decide, isX9⟩
set_option maxRecDepth 20000 in
theorem nwX10 : gNw 10 RX10 2 [.null, .int 0] := ⟨TX10, tyX10, rfl, inX10, tyX10_ok, by decide, isX10⟩
set_option maxRecDepth 20000 in
theorem nwX11 : gNw 11 RX11 11 [.null, .null, .null, .null, .null, .null, .null, .null, .null, .null, .null] := ⟨TX11, tyX11, rfl, inX11, tyX11_ok, by decide, isX11⟩
set_option maxRecDepth 20000 in
theorem nwX12 : gNw 12 RX12 47 [.null, .null, .null, .null, .int 0, .int 0, .null, .int 0, .null, .null, .null, .int 0, .int 0, .int 0, .int 0, .null, .null, .null, .int 0, .int 0, .null, .null, .null, .null, .null, .int 0, .int 0, .int 0, .null, .null, .null, .null, .null, .null, .int 0, .null, .null, .null, .null, .null, .int 0, .null, .null, .null, .null, .int 0, .null] := ⟨TX12, tyX12, rfl, inX12, tyX12_ok, by decide, isX12⟩
/-! contracts that may make cells, or give a role to another cell -/
def gPx (n' : Nat) (P : (Nat → Nat) → (Nat → va_E) → Prop) : gP := fun v ad' ct' n1 => v = none ∧ n1 = n' ∧ P ad' ct'
def gPxi (n' : Nat) (P : Int32 → (Nat → Nat) → (Nat → va_E) → Prop) : gP := fun v ad' ct' n1 => n1 = n' ∧ ∃ r : Int32, v = some (.int r) ∧ P r ad' ct'
theorem gPx.mk {n' : Nat} {P : (Nat → Nat) → (Nat → va_E) → Prop} {ad : Nat → Nat} {ct : Nat → va_E} (h : P ad ct) : gPx n' P none ad ct n' := ⟨rfl, rfl, h⟩
theorem gPxi.mk {n' : Nat} {P : Int32 → (Nat → Nat) → (Nat → va_E) → Prop} {r : Int32} {ad : Nat → Nat} {ct : Nat → va_E} (h : P r ad ct) : gPxi n' P (some (.int r)) ad ct n' := ⟨rfl, r, rfl, h⟩
section GX
variable {B : gB} {cc : ByteArray} {own : String} {nL : Nat} {rm : Room} {E : gE} {ad : Nat → Nat} {ct : Nat → va_E} {n k0 s0 : Nat} {L : List (Nat × Value)} {pc : Nat} {st : List Value}
theorem g_callVx (fx : gFx B cc own nL rm E) {index maxL na fr lo mc ms ci r n' : Nat} {y : MethodName} {bytes : ByteArray} {ret : Option FieldType} {As rest st0 fs : List Value} {T : u_T} {N : Nat} {P : (Nat → Nat) → (Nat → va_E) → Prop}
    (sl : gVl own index y bytes maxL ret na) (hM : Ctr B y bytes maxL ret fr lo mc ms ad ct n (.ref (ad r) :: As) (gPx n' P)) (hr : r < n) (hc : ct r = .inr (ci, fs)) (hci : gcl[ci]? = some (y.cls, T, N)) (hst : st0 = As.reverse ++ .ref (ad r) :: rest) (hna : As.length = na) (hW : (rest.map fun v => v.category).sum ≤ 8) (hR : fr + 1 ≤ rm.frames ∧ 8 + (maxL + 11) + lo ≤ rm.locals) (hf : k0 + mc ≤ rm.cells ∧ s0 + ms ≤ rm.slots) (d : decode cc pc = .ok (.invokevirtual index, 3))
    (kk : ∀ ad' ct', P ad' ct' → G B nL E ad' ct' n' (k0 + mc) (s0 + ms) L (pc + 3) rest) : G B nL E ad ct n k0 s0 L pc st0 := by
  refine g_callV fx sl hM hr hc hci hst hna hW hR hf d (fun v ad' ct' n' h => ?_)
  obtain ⟨rfl, rfl, h⟩ := h
  exact kk _ _ h
theorem g_callVxi (fx : gFx B cc own nL rm E) {index maxL na fr lo mc ms ci r n' : Nat} {y : MethodName} {bytes : ByteArray} {ret : Option FieldType} {As rest st0 fs : List Value} {T : u_T} {N : Nat} {P : Int32 → (Nat → Nat) → (Nat → va_E) → Prop}
    (sl : gVl own index y bytes maxL ret na) (hM : Ctr B y bytes maxL ret fr lo mc ms ad ct n (.ref (ad r) :: As) (gPxi n' P)) (hr : r < n) (hc : ct r = .inr (ci, fs)) (hci : gcl[ci]? = some (y.cls, T, N)) (hst : st0 = As.reverse ++ .ref (ad r) :: rest) (hna : As.length = na) (hW : (rest.map fun v => v.category).sum ≤ 8) (hR : fr + 1 ≤ rm.frames ∧ 8 + (maxL + 11) + lo ≤ rm.locals) (hf : k0 + mc ≤ rm.cells ∧ s0 + ms ≤ rm.slots) (d : decode cc pc = .ok (.invokevirtual index, 3))
    (kk : ∀ r ad' ct', P r ad' ct' → G B nL E ad' ct' n' (k0 + mc) (s0 + ms) L (pc + 3) (.int r :: rest)) : G B nL E ad ct n k0 s0 L pc st0 := by
  refine g_callV fx sl hM hr hc hci hst hna hW hR hf d (fun v ad' ct' n' h => ?_)
  obtain ⟨rfl, r, rfl, h⟩ := h
  exact kk _ _ _ h
theorem g_callIx (fx : gFx B cc own nL rm E) {index maxL na fr lo mc ms b n' : Nat} {y : MethodName} {bytes : ByteArray} {As rest st0 : List Value} {P : (Nat → Nat) → (Nat → va_E) → Prop}
    (sl : gIl own index y bytes maxL na) (hM : Ctr B y bytes maxL none fr lo mc ms ad ct n (.ref b :: As) (gPx n' P)) (hst : st0 = As.reverse ++ .ref b :: rest) (hna : As.length = na) (hW : (rest.map fun v => v.category).sum ≤ 8) (hR : fr + 1 ≤ rm.frames ∧ 8 + (maxL + 11) + lo ≤ rm.locals) (hf : k0 + mc ≤ rm.cells ∧ s0 + ms ≤ rm.slots) (d : decode cc pc = .ok (.invokespecial index, 3))
    (kk : ∀ ad' ct', P ad' ct' → G B nL E ad' ct' n' (k0 + mc) (s0 + ms) L (pc + 3) rest) : G B nL E ad ct n k0 s0 L pc st0 := by
  refine g_callI fx sl hM hst hna hW hR hf d (fun v ad' ct' n' h => ?_)
  obtain ⟨rfl, rfl, h⟩ := h
  exact kk _ _ h
end GX
