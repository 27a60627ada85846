/-! the walk's mathematics -/
theorem max0 {a b : Nat} (ha : a < 2 ^ 30) (hb : b < 2 ^ 30) : (if nI 0 < nI a - nI b then nI a - nI b else nI 0) = nI (a - b) := by
  have h1 : (nI a - nI b).toInt = (a : Int) - b := sub_toInt (nI_toInt (by omega)) (nI_toInt (by omega)) (by omega)
  by_cases q : b < a
  · rw [if_pos (Int32.lt_iff_toInt_lt.mpr (by rw [h1]; show (0 : Int) < _; omega)), pk_sub (by omega)]
  · rw [if_neg (fun w => by have := Int32.lt_iff_toInt_lt.mp w; rw [h1] at this; have e : (nI 0).toInt = 0 := by decide
                            omega), show a - b = 0 by omega]
theorem rest_step {C : Nat} {rm v w : Nat → Nat} {r c : Nat} (hc : c + 1 < C) (hw : ∀ i, i < C * r + c → w i = v i) : tRest C rm w (C * r + (c + 1)) = tRest C rm v (C * r + c) - w (C * r + c) := by
  unfold tRest
  rw [(dm hc).1, (dm hc).2, (dm (show c < C by omega)).1, (dm (show c < C by omega)).2]
  show rm r - (sumF (fun j => w (C * r + j)) c + w (C * r + c)) = _
  rw [sumF_congr c (fun j hj => hw (C * r + j) (by omega))]
  omega
theorem rest_row {C : Nat} {rm v : Nat → Nat} {r : Nat} (hC : 0 < C) : tRest C rm v (C * r) = rm r := by
  have h := dm (C := C) (r := r) (c := 0) hC
  rw [Nat.add_zero] at h
  unfold tRest
  rw [h.1, h.2]
  show rm r - 0 = rm r
  omega
theorem left_all {C : Nat} {cm v : Nat → Nat} {r : Nat} (hC : 0 < C) : tLeft C cm v r 0 + tBeh C cm v r 0 = sumF (fun c => tLeft C cm v r c) C := by
  obtain ⟨k, rfl⟩ : ∃ k, C = k + 1 := ⟨C - 1, by omega⟩
  rw [sumF_head]
  unfold tBeh
  rw [show k + 1 - (0 + 1) = k by omega]
  congr 1
  exact sumF_congr k (fun j _ => by rw [show 0 + 1 + j = j + 1 by omega])
theorem last_rest {R C : Nat} {rm cm v : Nat → Nat} (hC : 0 < C) (hs : sumF rm (R + 1) = sumF cm C) : ∀ c, c < C → Val C rm cm (C * R + c) v → tRest C rm v (C * R + c) = tLeft C cm v R c + tBeh C cm v R c
  | 0, _, hv => by
    rw [Nat.add_zero] at hv ⊢
    have h1 := left_sum hC hv (Nat.le_refl _)
    have h2 : sumF rm (R + 1) = sumF rm R + rm R := rfl
    rw [rest_row hC, left_all hC]
    omega
  | c + 1, hc, hv => by
    have ih := last_rest (R := R) hC hs c (by omega) (hv.mono (by omega))
    have h1 := hv (C * R + c) (by omega)
    unfold tLo tHi at h1
    rw [(dm (show c < C by omega)).1, (dm (show c < C by omega)).2, ih] at h1
    rw [rest_step hc (fun _ _ => rfl), ih]
    have h2 := beh_head (cm := cm) (v := v) (r := R) hc
    omega
theorem last_one {R C : Nat} {rm cm : Nat → Nat} (hC : 0 < C) (hs : sumF rm (R + 1) = sumF cm C) : ∀ d v, d ≤ C → Val C rm cm (C * (R + 1) - d) v → tCnt (C * (R + 1)) C rm cm d v = 1
  | 0, _, _, _ => rfl
  | d + 1, v, hd, hv => by
    have hk : C * (R + 1) - (d + 1) = C * R + (C - (d + 1)) := by rw [Nat.mul_succ]; omega
    have hv2 := hv
    rw [hk] at hv2
    have h1 := last_rest (R := R) hC hs (C - (d + 1)) (by omega) hv2
    have hlo : tLo C rm cm v (C * (R + 1) - (d + 1)) = tLeft C cm v R (C - (d + 1)) := by
      rw [hk]; unfold tLo; rw [(dm (show C - (d + 1) < C by omega)).1, (dm (show C - (d + 1) < C by omega)).2, h1]; omega
    have hhi : tHi C rm cm v (C * (R + 1) - (d + 1)) = tLeft C cm v R (C - (d + 1)) := by
      rw [hk]; unfold tHi; rw [(dm (show C - (d + 1) < C by omega)).1, (dm (show C - (d + 1) < C by omega)).2, h1]; omega
    have h2 := tCnt_step (N := C * (R + 1)) (C := C) (rm := rm) (cm := cm) (v := v) (k := C * (R + 1) - (d + 1)) (by rw [Nat.mul_succ]; omega)
    rw [show C * (R + 1) - (C * (R + 1) - (d + 1)) = d + 1 by rw [Nat.mul_succ]; omega, show C * (R + 1) - (C * (R + 1) - (d + 1) + 1) = d by rw [Nat.mul_succ]; omega, hlo, hhi] at h2
    rw [h2, show tLeft C cm v R (C - (d + 1)) + 1 - tLeft C cm v R (C - (d + 1)) = 1 by omega]
    show 0 + tCnt (C * (R + 1)) C rm cm d _ = 1
    rw [Nat.zero_add, Nat.add_zero]
    refine last_one hC hs d _ (by omega) ?_
    have h3 := val_next (w := va_up v (C * (R + 1) - (d + 1)) (tLeft C cm v R (C - (d + 1)))) hC hv (fun i hi => va_up_ne _ _ (by omega)) (by rw [va_up_self, hlo]; exact Nat.le_refl _) (by rw [va_up_self, hhi]; exact Nat.le_refl _)
    rw [show C * (R + 1) - (d + 1) + 1 = C * (R + 1) - d by rw [Nat.mul_succ]; omega] at h3
    exact h3
/-- the last column of a row is forced -/
theorem lastcol {R C : Nat} {rm cm v : Nat → Nat} (hC : 0 < C) (hs : sumF rm R = sumF cm C) {r : Nat} (hr : r < R) (hv : Val C rm cm (C * r + (C - 1)) v) : tLo C rm cm v (C * r + (C - 1)) = tHi C rm cm v (C * r + (C - 1)) := by
  have h1 := feas hC hs hr (C - 1) (by omega) hv
  have hb : tBeh C cm v r (C - 1) = 0 := by
    unfold tBeh; rw [show C - (C - 1 + 1) = 0 by omega]; rfl
  unfold tLo tHi
  rw [(dm (show C - 1 < C by omega)).1, (dm (show C - 1 < C by omega)).2]
  rw [hb] at h1 ⊢
  omega
theorem one_step {N C : Nat} {rm cm v : Nat → Nat} {k : Nat} (hk : k < N) (h : tLo C rm cm v k = tHi C rm cm v k) : tCnt N C rm cm (N - k) v = tCnt N C rm cm (N - (k + 1)) (va_up v k (tLo C rm cm v k)) := by
  rw [tCnt_step hk, ← h, show tLo C rm cm v k + 1 - tLo C rm cm v k = 1 by omega]
  show 0 + tCnt N C rm cm (N - (k + 1)) (va_up v k (tLo C rm cm v k + 0)) = _
  rw [Nat.zero_add]
  rfl
theorem sumF_one {f : Nat → Nat} : ∀ n, (∀ i, i < n → f i = 1) → sumF f n = n
  | 0, _ => rfl
  | n + 1, h => by show sumF f n + f n = n + 1; rw [sumF_one n (fun i hi => h i (by omega)), h n (by omega)]
/-- from the last but one column of the last but one row: each number leads to one table -/
theorem short_cut {R C : Nat} {rm cm v : Nat → Nat} (hC : 2 ≤ C) (hs : sumF rm (R + 2) = sumF cm C) (hv : Val C rm cm (C * R + (C - 2)) v) : tCnt (C * (R + 2)) C rm cm (C * (R + 2) - (C * R + (C - 2))) v = tHi C rm cm v (C * R + (C - 2)) + 1 - tLo C rm cm v (C * R + (C - 2)) := by
  have hC0 : 0 < C := by omega
  have e1 : C * (R + 1) = C * R + C := Nat.mul_succ C R
  have e2 : C * (R + 2) = C * R + C + C := by rw [show R + 2 = R + 1 + 1 by omega, Nat.mul_succ, e1]
  rw [tCnt_step (by omega)]
  refine sumF_one _ (fun n hn => ?_)
  have hv1 := val_next (w := va_up v (C * R + (C - 2)) (tLo C rm cm v (C * R + (C - 2)) + n)) hC0 hv (fun i hi => va_up_ne _ _ (by omega)) (by rw [va_up_self]; omega) (by rw [va_up_self]; omega)
  rw [show C * R + (C - 2) + 1 = C * R + (C - 1) by omega] at hv1 ⊢
  have h2 := lastcol (R := R + 2) hC0 hs (show R < R + 2 by omega) hv1
  rw [one_step (by omega) h2]
  have hv2 := val_next (w := va_up (va_up v (C * R + (C - 2)) (tLo C rm cm v (C * R + (C - 2)) + n)) (C * R + (C - 1)) (tLo C rm cm (va_up v (C * R + (C - 2)) (tLo C rm cm v (C * R + (C - 2)) + n)) (C * R + (C - 1)))) hC0 hv1 (fun i hi => va_up_ne _ _ (by omega)) (by rw [va_up_self]; exact Nat.le_refl _) (by rw [va_up_self, h2]; exact Nat.le_refl _)
  rw [show C * (R + 2) - (C * R + (C - 1) + 1) = C by omega]
  refine last_one (R := R + 1) hC0 hs C _ (Nat.le_refl _) ?_
  rw [show C * (R + 1 + 1) - C = C * R + (C - 1) + 1 by rw [show R + 1 + 1 = R + 2 by omega]; omega]
  exact hv2
/-- the columns' rests as the walk keeps them: behind cell (r, c) -/
def CL (C : Nat) (cm v : Nat → Nat) (r c : Nat) (cl : Nat → Nat) : Prop := ∀ j, j < C → cl j = tLeft C cm v (if j < c then r + 1 else r) j
theorem CL.next {C : Nat} {cm v cl : Nat → Nat} {r c n : Nat} (hc : c < C) (h : CL C cm v r c cl) : CL C cm (va_up v (C * r + c) n) r (c + 1) (va_up cl c (cl c - n)) := by
  intro j hj
  have hoth : ∀ r', j ≠ c → tLeft C cm (va_up v (C * r + c) n) r' j = tLeft C cm v r' j := fun r' hne => tLeft_congr (fun i _ => va_up_ne _ _ (fun e => by
    have := congrArg (· % C) e
    simp only [(dm hj).2, (dm hc).2] at this
    exact hne this))
  by_cases q : j = c
  · subst q
    rw [va_up_self, if_pos (by omega), tLeft_step, va_up_self, h j hc, if_neg (by omega)]
    congr 1
    exact (tLeft_congr (fun i hi => va_up_ne _ _ (by have : C * (i + 1) ≤ C * r := Nat.mul_le_mul_left _ hi; rw [Nat.mul_succ] at this; omega))).symm
  · rw [va_up_ne _ _ q, h j hj, hoth _ q]
    by_cases q2 : j < c
    · rw [if_pos q2, if_pos (by omega)]
    · rw [if_neg q2, if_neg (by omega)]
theorem CL.row {C : Nat} {cm v cl : Nat → Nat} {r : Nat} (h : CL C cm v r C cl) : CL C cm v (r + 1) 0 cl := fun j hj => by rw [h j hj, if_pos hj, if_neg (by omega)]
theorem CL.sum {C : Nat} {cm v cl : Nat → Nat} {r : Nat} (hC : 0 < C) (h : CL C cm v r 0 cl) : sumF cl C = tLeft C cm v r 0 + tBeh C cm v r 0 := by
  rw [left_all hC]
  exact sumF_congr C (fun j hj => by rw [h j hj, if_neg (by omega)])
theorem CL.at {C : Nat} {cm v cl : Nat → Nat} {r c : Nat} (hc : c < C) (h : CL C cm v r c cl) : cl c = tLeft C cm v r c := by rw [h c hc, if_neg (by omega)]
theorem beh_up {C : Nat} {cm v : Nat → Nat} {r c n c2 : Nat} : tBeh C cm (va_up v (C * r + c) n) r c2 = tBeh C cm v r c2 := by
  unfold tBeh
  exact sumF_congr _ (fun j hj => tLeft_congr (fun i hi => va_up_ne _ _ (by have : C * (i + 1) ≤ C * r := Nat.mul_le_mul_left _ hi; rw [Nat.mul_succ] at this; omega)))
theorem left_up {C : Nat} {cm v : Nat → Nat} {r c n c2 : Nat} (h2 : c2 < C) : tLeft C cm (va_up v (C * r + c) n) r c2 = tLeft C cm v r c2 := tLeft_congr (fun i hi => va_up_ne _ _ (by have : C * (i + 1) ≤ C * r := Nat.mul_le_mul_left _ hi; rw [Nat.mul_succ] at this; omega))
theorem up_back {f : Nat → Nat} {c x : Nat} : va_up (va_up f c x) c (f c) = f := by
  funext i; unfold va_up; by_cases h : i = c <;> simp [h]
theorem up_twice {f : Nat → Nat} {c x y : Nat} : va_up (va_up f c x) c y = va_up f c y := by
  funext i; unfold va_up; by_cases h : i = c <;> simp [h]
