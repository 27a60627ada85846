/-! two worlds side by side -/
def aj {α : Type} (n : Nat) (f g : Nat → α) : Nat → α := fun k => if k < n then f k else g (k - n)
theorem aj_l {α : Type} {n : Nat} {f g : Nat → α} {k : Nat} (h : k < n) : aj n f g k = f k := if_pos h
theorem aj_r {α : Type} {n : Nat} {f g : Nat → α} {k : Nat} : aj n f g (n + k) = g k := by
  unfold aj; rw [if_neg (by omega), Nat.add_sub_cancel_left]
section GJ
variable {B : gB} {cc : ByteArray} {own : String} {nL : Nat} {rm : Room} {E : gE} {ad ad2 : Nat → Nat} {ct ct2 : Nat → va_E} {n n2 k0 s0 : Nat} {L : List (Nat × Value)} {pc : Nat} {st : List Value}
def gJ (B : gB) (E : gE) (ad : Nat → Nat) (ct : Nat → va_E) (n : Nat) (ad2 : Nat → Nat) (ct2 : Nat → va_E) (n2 : Nat) (H : Heap) (locs : List Loc) : Prop := va_P B.1 gcl (gw ad ct n) H ∧ va_P B.1 gcl (gw ad2 ct2 n2) H ∧ va_D E.A (gw ad ct n) ∧ va_D E.A (gw ad2 ct2 n2) ∧ (∀ i j, i < n → j < n2 → ad i ≠ ad2 j) ∧ va_S E.A E.s.heap H locs
theorem gJ.swap {H : Heap} {locs : List Loc} (h : gJ B E ad ct n ad2 ct2 n2 H locs) : gJ B E ad2 ct2 n2 ad ct n H locs := ⟨h.2.1, h.1, h.2.2.2.1, h.2.2.1, fun i j hi hj e => h.2.2.2.2.1 j i hj hi e.symm, h.2.2.2.2.2⟩
theorem toJ {H : Heap} {locs : List Loc} (w : gWd B E (aj n ad ad2) (aj n ct ct2) (n + n2) H locs) : gJ B E ad ct n ad2 ct2 n2 H locs := by
  have a1 : ∀ k, k < n → (gw (aj n ad ad2) (aj n ct ct2) (n + n2))[k]? = some (ad k, ct k) := fun k hk => by rw [gw_at (by omega), aj_l hk, aj_l hk]
  have a2 : ∀ k, k < n2 → (gw (aj n ad ad2) (aj n ct ct2) (n + n2))[n + k]? = some (ad2 k, ct2 k) := fun k hk => by rw [gw_at (by omega), aj_r, aj_r]
  refine ⟨fun k q hk => ?_, fun k q hk => ?_, ⟨fun i j p q hp hq e => ?_, fun k q hk => ?_⟩, ⟨fun i j p q hp hq e => ?_, fun k q hk => ?_⟩, fun i j hi hj e => ?_, w.2.2⟩
  · obtain ⟨h, rfl⟩ := gw_in hk
    exact w.1 k _ (a1 k h)
  · obtain ⟨h, rfl⟩ := gw_in hk
    exact w.1 (n + k) _ (a2 k h)
  · obtain ⟨h1, rfl⟩ := gw_in hp
    obtain ⟨h2, rfl⟩ := gw_in hq
    exact w.2.1.1 i j _ _ (a1 i h1) (a1 j h2) e
  · obtain ⟨h, rfl⟩ := gw_in hk
    exact w.2.1.2 k _ (a1 k h)
  · obtain ⟨h1, rfl⟩ := gw_in hp
    obtain ⟨h2, rfl⟩ := gw_in hq
    have := w.2.1.1 (n + i) (n + j) _ _ (a2 i h1) (a2 j h2) e
    omega
  · obtain ⟨h, rfl⟩ := gw_in hk
    exact w.2.1.2 (n + k) _ (a2 k h)
  · have := w.2.1.1 i (n + j) _ _ (a1 i hi) (a2 j hj) e
    omega
theorem ofJ {H : Heap} {locs : List Loc} (w : gJ B E ad ct n ad2 ct2 n2 H locs) : gWd B E (aj n ad ad2) (aj n ct ct2) (n + n2) H locs := by
  obtain ⟨p1, p2, d1, d2, dx, hs⟩ := w
  have a : ∀ k q, (gw (aj n ad ad2) (aj n ct ct2) (n + n2))[k]? = some q → (k < n ∧ q = (ad k, ct k)) ∨ (∃ j, j < n2 ∧ k = n + j ∧ q = (ad2 j, ct2 j)) := fun k q hk => by
    obtain ⟨h, rfl⟩ := gw_in hk
    by_cases h1 : k < n
    · exact Or.inl ⟨h1, by rw [aj_l h1, aj_l h1]⟩
    · refine Or.inr ⟨k - n, by omega, by omega, ?_⟩
      have e : k = n + (k - n) := by omega
      rw [e, aj_r, aj_r, Nat.add_sub_cancel_left]
  refine ⟨fun k q hk => ?_, ⟨fun i j p q hp hq e => ?_, fun k q hk => ?_⟩, hs⟩
  · rcases a k q hk with ⟨h, rfl⟩ | ⟨j, h, -, rfl⟩
    · exact p1 k _ (gw_at h)
    · exact p2 j _ (gw_at h)
  · rcases a i p hp with ⟨h1, rfl⟩ | ⟨i', h1, rfl, rfl⟩ <;> rcases a j q hq with ⟨h2, rfl⟩ | ⟨j', h2, rfl, rfl⟩
    · exact d1.1 i j _ _ (gw_at h1) (gw_at h2) e
    · exact absurd e (dx i j' h1 h2)
    · exact absurd e.symm (dx j i' h2 h1)
    · rw [d2.1 i' j' _ _ (gw_at h1) (gw_at h2) e]
  · rcases a k q hk with ⟨h, rfl⟩ | ⟨j, h, -, rfl⟩
    · exact d1.2 k _ (gw_at h)
    · exact d2.2 j _ (gw_at h)
/-- behind a call that knows of one of the two worlds -/
theorem g_backJ (fx : gFx B cc own nL rm E) {post : gP} {mc ms : Nat} {rest st0 : List Value} {a : Array Value} {ls : Array Slot} {H : Heap} {locs : List Loc} (w : gJ B E ad ct n ad2 ct2 n2 H locs)
    (hr : va_Run E.p B.2.2.1 E.e E.R E.s E.m E.args E.below E.meth E.c H locs k0 s0 mc ms (F0 E.m pc ls st0) rest (gQ B post (gA ad n H.size) a) (gA ad n H.size))
    (kk : ∀ v ad' ct' n', post v ad' ct' n' → ∀ H' locs', gJ B E ad' ct' n' ad2 ct2 n2 H' locs' → W E.p B.2.2.1 E.e E.R E.s E.m E.args E.below E.meth E.c H' locs' (k0 + mc) (s0 + ms) E.Q (F0 E.m (pc + 3) ls (v.toList ++ rest))) : W E.p B.2.2.1 E.e E.R E.s E.m E.args E.below E.meth E.c H locs k0 s0 E.Q (F0 E.m pc ls st0) := by
  intro T hT X
  obtain ⟨v, st₀, t, T', L', h0, X', hL, e1, e2, ⟨⟨v', ad', ct', n', hv, hp, hP', hK', hD'⟩, hz, hk⟩, st'⟩ := hr T hT X
  cases hv
  rw [h0] at hz hk
  have w1 : gWd B E ad ct n H locs := ⟨w.1, w.2.2.1, w.2.2.2.2.2⟩
  have hsub := gA_sub fx w1
  have hlt : ∀ j, j < n2 → ad2 j < H.size := fun j hj => (w.2.1 j _ (gw_at hj)).lt
  have hout : ∀ j, j < n2 → ¬ gA ad n H.size (ad2 j) := fun j hj z => by
    rcases z with ⟨k, hk2, e⟩ | z
    · exact w.2.2.2.2.1 k j hk2 hj e.symm
    · have := hlt j hj; omega
  have w' : gJ B E ad' ct' n' ad2 ct2 n2 T'.heap (locs ++ L') := by
    refine ⟨by rw [e1]; exact hP', w.2.1.kept (fun k q hq => ?_), hD'.weaken (fun _ q _ hq => hsub q.1 hq), w.2.2.2.1, fun i j hi hj e => ?_, ⟨Nat.le_trans w1.2.2.1 (by rw [e1]; exact hz), fun q h1 h2 => ?_, fun q hq => ?_⟩⟩
    · obtain ⟨h, rfl⟩ := gw_in hq
      rw [e1]
      exact hk _ (hlt k h) (hout k h)
    · have := hD'.2 i _ (gw_at hi)
      exact hout j hj (by rw [← e]; exact this)
    · rw [e1, hk q (Nat.lt_of_lt_of_le h1 w1.2.2.1) (fun z => h2 (hsub q z))]
      exact w1.2.2.2.1 q h1 h2
    · rcases List.mem_append.mp hq with h1 | h1
      · exact w1.2.2.2.2 q h1
      · exact hsub _ (hL q h1)
  obtain ⟨t2, a1, b1⟩ := kk v ad' ct' n' hp T'.heap (locs ++ L') w' T' rfl X'
  exact ⟨t2, st' t2 a1, b1⟩
theorem g_callJ (fx : gFx B cc own nL rm E) {index maxL na fr lo mc ms ci r : Nat} {y : MethodName} {bytes : ByteArray} {ret : Option FieldType} {post : gP} {As rest st0 fs : List Value} {T : u_T} {N : Nat}
    (sl : gVl own index y bytes maxL ret na) (hM : Ctr B y bytes maxL ret fr lo mc ms ad ct n (.ref (ad r) :: As) post) (hr : r < n) (hc : ct r = .inr (ci, fs)) (hci : gcl[ci]? = some (y.cls, T, N))
    (hst : st0 = As.reverse ++ .ref (ad r) :: rest) (hna : As.length = na) (hW : (rest.map fun v => v.category).sum ≤ 8) (hR : fr + 1 ≤ rm.frames ∧ 8 + (maxL + 11) + lo ≤ rm.locals) (hf : k0 + mc ≤ rm.cells ∧ s0 + ms ≤ rm.slots) (d : decode cc pc = .ok (.invokevirtual index, 3)) {ls : Array Slot} {H : Heap} {locs : List Loc} (h : lv_has ls nL L) (w : gJ B E ad ct n ad2 ct2 n2 H locs)
    (kk : ∀ v ad' ct' n', post v ad' ct' n' → ∀ H' locs', gJ B E ad' ct' n' ad2 ct2 n2 H' locs' → W E.p B.2.2.1 E.e E.R E.s E.m E.args E.below E.meth E.c H' locs' (k0 + mc) (s0 + ms) E.Q (F0 E.m (pc + 3) ls (v.toList ++ rest))) : W E.p B.2.2.1 E.e E.R E.s E.m E.args E.below E.meth E.c H locs k0 s0 E.Q (F0 E.m pc ls st0) := by
  have w1 : gWd B E ad ct n H locs := ⟨w.1, w.2.2.1, w.2.2.2.2.2⟩
  obtain ⟨fx1, fx2, fx3, rfl, fx4⟩ := id fx
  obtain ⟨⟨s1, s2, s3, s4⟩, s5, s6⟩ := sl
  have hG := gGood s3
  have hts := fx1.2.2.2.2
  have hp : PreV E.s H y.cls (ad r) (va_Pc (.ref (ad r) :: As) (fun U => U.heap.size = H.size ∧ va_P B.1 gcl (gw ad ct n) U.heap ∧ va_K B.1 gcl (gTy B.2.1) U ∧ va_D (fun _ => True) (gw ad ct n) ∧ gZ B (gA ad n H.size) U)) As :=
    ⟨g_blind, va_recv fx2 w1.1 hci (gw_atE hr hc), g_pre fx w1⟩
  subst hst
  rcases s1 with s1 | ⟨host, s1⟩
  · refine g_backJ fx w (va_runV (As := As) (rest := rest) fx1 (hM H.size) (C := y.cls) ⟨callB_of na hts hG rfl rfl rfl (hts _ s2) (hts _ s1) s4 hR, hts _ s5, hts _ s6⟩ hp rfl hna h.1 rfl (lv_room hW) d hf) kk
  · refine g_backJ fx w (va_runVN (As := As) (rest := rest) fx1 (hM H.size) (C := y.cls) (host := host) ⟨va_cnB na hts hG rfl rfl rfl (fx4.2.2 _ s1) (hts _ s2) s4 hR, hts _ s5, hts _ s6⟩ hp rfl hna h.1 rfl (lv_room hW) d hf) kk
theorem g_call1 (fx : gFx B cc own nL rm E) {index maxL na fr lo mc ms ci r : Nat} {y : MethodName} {bytes : ByteArray} {ret : Option FieldType} {post : gP} {As rest st0 fs : List Value} {T : u_T} {N : Nat}
    (sl : gVl own index y bytes maxL ret na) (hM : Ctr B y bytes maxL ret fr lo mc ms ad ct n (.ref (ad r) :: As) post) (hr : r < n) (hc : ct r = .inr (ci, fs)) (hci : gcl[ci]? = some (y.cls, T, N))
    (hst : st0 = As.reverse ++ .ref (ad r) :: rest) (hna : As.length = na) (hW : (rest.map fun v => v.category).sum ≤ 8) (hR : fr + 1 ≤ rm.frames ∧ 8 + (maxL + 11) + lo ≤ rm.locals) (hf : k0 + mc ≤ rm.cells ∧ s0 + ms ≤ rm.slots) (d : decode cc pc = .ok (.invokevirtual index, 3))
    (kk : ∀ v ad' ct' n', post v ad' ct' n' → G B nL E (aj n' ad' ad2) (aj n' ct' ct2) (n' + n2) (k0 + mc) (s0 + ms) L (pc + 3) (v.toList ++ rest)) : G B nL E (aj n ad ad2) (aj n ct ct2) (n + n2) k0 s0 L pc st0 :=
  fun _ _ _ h w => g_callJ fx sl hM hr hc hci hst hna hW hR hf d h (toJ w) (fun v ad' ct' n' hp H' l' w' => kk v ad' ct' n' hp _ H' l' h (ofJ w'))
theorem g_call2 (fx : gFx B cc own nL rm E) {index maxL na fr lo mc ms ci r : Nat} {y : MethodName} {bytes : ByteArray} {ret : Option FieldType} {post : gP} {As rest st0 fs : List Value} {T : u_T} {N : Nat}
    (sl : gVl own index y bytes maxL ret na) (hM : Ctr B y bytes maxL ret fr lo mc ms ad2 ct2 n2 (.ref (ad2 r) :: As) post) (hr : r < n2) (hc : ct2 r = .inr (ci, fs)) (hci : gcl[ci]? = some (y.cls, T, N))
    (hst : st0 = As.reverse ++ .ref (ad2 r) :: rest) (hna : As.length = na) (hW : (rest.map fun v => v.category).sum ≤ 8) (hR : fr + 1 ≤ rm.frames ∧ 8 + (maxL + 11) + lo ≤ rm.locals) (hf : k0 + mc ≤ rm.cells ∧ s0 + ms ≤ rm.slots) (d : decode cc pc = .ok (.invokevirtual index, 3))
    (kk : ∀ v ad' ct' n', post v ad' ct' n' → G B nL E (aj n ad ad') (aj n ct ct') (n + n') (k0 + mc) (s0 + ms) L (pc + 3) (v.toList ++ rest)) : G B nL E (aj n ad ad2) (aj n ct ct2) (n + n2) k0 s0 L pc st0 :=
  fun _ _ _ h w => g_callJ fx sl hM hr hc hci hst hna hW hR hf d h (toJ w).swap (fun v ad' ct' n' hp H' l' w' => kk v ad' ct' n' hp _ H' l' h (ofJ w'.swap))
theorem g_call2I (fx : gFx B cc own nL rm E) {index maxL na fr lo mc ms b : Nat} {y : MethodName} {bytes : ByteArray} {post : gP} {As rest st0 : List Value}
    (sl : gIl own index y bytes maxL na) (hM : Ctr B y bytes maxL none fr lo mc ms ad2 ct2 n2 (.ref b :: As) post)
    (hst : st0 = As.reverse ++ .ref b :: rest) (hna : As.length = na) (hW : (rest.map fun v => v.category).sum ≤ 8) (hR : fr + 1 ≤ rm.frames ∧ 8 + (maxL + 11) + lo ≤ rm.locals) (hf : k0 + mc ≤ rm.cells ∧ s0 + ms ≤ rm.slots) (d : decode cc pc = .ok (.invokespecial index, 3))
    (kk : ∀ v ad' ct' n', post v ad' ct' n' → G B nL E (aj n ad ad') (aj n ct ct') (n + n') (k0 + mc) (s0 + ms) L (pc + 3) (v.toList ++ rest)) : G B nL E (aj n ad ad2) (aj n ct ct2) (n + n2) k0 s0 L pc st0 := by
  intro ls H locs h w0
  have w := (toJ w0).swap
  have w1 : gWd B E ad2 ct2 n2 H locs := ⟨w.1, w.2.2.1, w.2.2.2.2.2⟩
  obtain ⟨fx1, fx2, fx3, rfl, fx4⟩ := id fx
  obtain ⟨⟨s1, s2, s3, s4⟩, s5, s6⟩ := sl
  have hG := gGood s3
  have hts := fx1.2.2.2.2
  have hp : PreS E.s H (va_Pc (.ref b :: As) (fun U => U.heap.size = H.size ∧ va_P B.1 gcl (gw ad2 ct2 n2) U.heap ∧ va_K B.1 gcl (gTy B.2.1) U ∧ va_D (fun _ => True) (gw ad2 ct2 n2) ∧ gZ B (gA ad2 n2 H.size) U)) (.ref b :: As) := ⟨g_blind, g_pre fx w1⟩
  subst hst
  rcases s1 with s1 | ⟨host, s1⟩
  · refine g_backJ fx w (va_runI (As := As) (rest := rest) fx1 (hM H.size) ⟨callB_of na hts hG rfl rfl rfl (hts _ s2) (hts _ s1) s4 hR, s5, hts _ s6⟩ hp rfl hna h.1 rfl (lv_room hW) d hf) (fun v ad' ct' n' hp H' l' w' => kk v ad' ct' n' hp _ H' l' h (ofJ w'.swap))
  · refine g_backJ fx w (va_runIN (As := As) (rest := rest) fx1 (hM H.size) (host := host) ⟨va_cnB na hts hG rfl rfl rfl (fx4.2.2 _ s1) (hts _ s2) s4 hR, s5, hts _ s6⟩ hp rfl hna h.1 rfl (lv_room hW) d hf) (fun v ad' ct' n' hp H' l' w' => kk v ad' ct' n' hp _ H' l' h (ofJ w'.swap))
/-- the script -/
theorem g_scr (fx : gFx B cc own nL rm E) {b N : Nat} {xs : Nat → Int32} (hX : va_X b N xs E.s E.s.heap) (hbl : b < E.s.heap.size) (hbA : ¬ E.A b) {i : Int32} {j : Nat} (hi : i.toInt = (j : Int)) (hj : j < N) (d : decode cc pc = .ok (.iaload, 1)) (k : G B nL E ad ct n k0 s0 L (pc + 1) (.int (xs j) :: st)) : G B nL E ad ct n k0 s0 L pc (.int i :: .ref b :: st) := by
  intro ls H locs h w
  refine va_sld fx.1.1 fx.1.2.1 hX hbl hbA w.2.2 (gIx hi hj) d ?_
  rw [gCl hi]
  exact k ls H locs h w
theorem g_scrLen (fx : gFx B cc own nL rm E) {b N : Nat} {xs : Nat → Int32} (hX : va_X b N xs E.s E.s.heap) (hbl : b < E.s.heap.size) (hbA : ¬ E.A b) (d : decode cc pc = .ok (.arraylength, 1)) (k : G B nL E ad ct n k0 s0 L (pc + 1) (.int (nI N) :: st)) : G B nL E ad ct n k0 s0 L pc (.ref b :: st) := by
  intro ls H locs h w
  exact va_slen fx.1.1 fx.1.2.1 hX hbl hbA w.2.2 d (k ls H locs h w)
end GJ
