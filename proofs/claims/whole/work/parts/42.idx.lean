/-- how many tables go on from the first N - d cells of v -/
def tCnt (N C : Nat) (rm cm : Nat → Nat) : Nat → (Nat → Nat) → Nat
  | 0, _ => 1
  | d + 1, v => sumF (fun n => tCnt N C rm cm d (va_up v (N - (d + 1)) (tLo C rm cm v (N - (d + 1)) + n))) (tHi C rm cm v (N - (d + 1)) + 1 - tLo C rm cm v (N - (d + 1)))
/-- how many tables are ahead of v by its cell k -/
def tStep (N C : Nat) (rm cm : Nat → Nat) (v : Nat → Nat) (k : Nat) : Nat := sumF (fun n => tCnt N C rm cm (N - (k + 1)) (va_up v k (tLo C rm cm v k + n))) (v k - tLo C rm cm v k)
def tIdx (N C : Nat) (rm cm : Nat → Nat) (v : Nat → Nat) : Nat := sumF (tStep N C rm cm v) N
theorem up_same {v : Nat → Nat} {k : Nat} : va_up v k (v k) = v := (va_same rfl).symm
theorem tCnt_congr {N C : Nat} {rm cm : Nat → Nat} (hC : 0 < C) : ∀ (d : Nat) (v w : Nat → Nat), d ≤ N → (∀ i, i < N - d → v i = w i) → tCnt N C rm cm d v = tCnt N C rm cm d w
  | 0, _, _, _, _ => rfl
  | d + 1, v, w, hd, h => by
    show sumF _ _ = sumF _ _
    rw [tLo_congr hC h, tHi_congr hC h]
    refine sumF_congr _ (fun n _ => tCnt_congr hC d _ _ (by omega) (fun i hi => ?_))
    by_cases q : i = N - (d + 1)
    · rw [q, va_up_self, va_up_self]
    · rw [va_up_ne _ _ q, va_up_ne _ _ q]; exact h i (by omega)
theorem tStep_congr {N C : Nat} {rm cm v w : Nat → Nat} {k : Nat} (hC : 0 < C) (hk : k < N) (h : ∀ i, i ≤ k → v i = w i) : tStep N C rm cm v k = tStep N C rm cm w k := by
  unfold tStep
  rw [tLo_congr hC (fun i hi => h i (by omega)), h k (Nat.le_refl _)]
  refine sumF_congr _ (fun n _ => tCnt_congr hC _ _ _ (by omega) (fun i hi => ?_))
  by_cases q : i = k
  · rw [q, va_up_self, va_up_self]
  · rw [va_up_ne _ _ q, va_up_ne _ _ q]; exact h i (by omega)
theorem tStep_lo {N C : Nat} {rm cm v : Nat → Nat} {k : Nat} (h : v k = tLo C rm cm v k) : tStep N C rm cm v k = 0 := by
  unfold tStep; rw [h, Nat.sub_self]; rfl
/-- one more at cell k -/
theorem tStep_more {N C : Nat} {rm cm v : Nat → Nat} {k x : Nat} (hC : 0 < C) (hk : k < N) (h1 : tLo C rm cm v k ≤ x) : sumF (fun n => tCnt N C rm cm (N - (k + 1)) (va_up v k (tLo C rm cm v k + n))) (x + 1 - tLo C rm cm v k) = sumF (fun n => tCnt N C rm cm (N - (k + 1)) (va_up v k (tLo C rm cm v k + n))) (x - tLo C rm cm v k) + tCnt N C rm cm (N - (k + 1)) (va_up v k x) := by
  rw [show x + 1 - tLo C rm cm v k = (x - tLo C rm cm v k) + 1 by omega]
  show _ + tCnt N C rm cm (N - (k + 1)) (va_up v k (tLo C rm cm v k + (x - tLo C rm cm v k))) = _
  rw [show tLo C rm cm v k + (x - tLo C rm cm v k) = x by omega]
theorem tCnt_step {N C : Nat} {rm cm v : Nat → Nat} {k : Nat} (hk : k < N) : tCnt N C rm cm (N - k) v = sumF (fun n => tCnt N C rm cm (N - (k + 1)) (va_up v k (tLo C rm cm v k + n))) (tHi C rm cm v k + 1 - tLo C rm cm v k) := by
  obtain ⟨d, rfl⟩ : ∃ d, N = k + (d + 1) := ⟨N - k - 1, by omega⟩
  rw [show k + (d + 1) - k = d + 1 by omega, show k + (d + 1) - (k + 1) = d by omega]
  show sumF (fun n => tCnt _ C rm cm d (va_up v (k + (d + 1) - (d + 1)) _)) _ = _
  rw [show k + (d + 1) - (d + 1) = k by omega]
theorem sumF_le2 {f : Nat → Nat} {a b : Nat} (h : a ≤ b) : sumF f a ≤ sumF f b := by
  obtain ⟨d, rfl⟩ := Nat.exists_eq_add_of_le h
  rw [sumF_split]; omega
theorem tail_hi {N C : Nat} {rm cm v : Nat → Nat} (hC : 0 < C) (hv : Val C rm cm N v) : ∀ d, d ≤ N → (∀ j, N - d ≤ j → j < N → v j = tHi C rm cm v j) → sumF (fun i => tStep N C rm cm v (N - d + i)) d + 1 = tCnt N C rm cm d v
  | 0, _, _ => rfl
  | d + 1, hd, h => by
    have ih := tail_hi hC hv d (by omega) (fun j h1 h2 => h j (by omega) h2)
    have e := tCnt_step (C := C) (rm := rm) (cm := cm) (v := v) (show N - (d + 1) < N by omega)
    rw [show N - (N - (d + 1)) = d + 1 by omega] at e
    have hval := hv (N - (d + 1)) (by omega)
    have hh := h (N - (d + 1)) (Nat.le_refl _) (by omega)
    rw [← hh, tStep_more hC (by omega) hval.1, up_same, show N - (N - (d + 1) + 1) = d by omega] at e
    rw [e, sumF_head, ← ih]
    have e2 : sumF (fun i => tStep N C rm cm v (N - (d + 1) + (i + 1))) d = sumF (fun i => tStep N C rm cm v (N - d + i)) d := sumF_congr d (fun i _ => by congr 1; omega)
    rw [e2]
    have e3 : tStep N C rm cm v (N - (d + 1) + 0) = sumF (fun n => tCnt N C rm cm d (va_up v (N - (d + 1)) (tLo C rm cm v (N - (d + 1)) + n))) (v (N - (d + 1)) - tLo C rm cm v (N - (d + 1))) := by
      unfold tStep
      rw [Nat.add_zero, show N - (N - (d + 1) + 1) = d by omega]
      rfl
    rw [e3]; omega
theorem tail_lt {N C : Nat} {rm cm v : Nat → Nat} (hC : 0 < C) (hv : Val C rm cm N v) : ∀ d, d ≤ N → sumF (fun i => tStep N C rm cm v (N - d + i)) d < tCnt N C rm cm d v
  | 0, _ => Nat.one_pos
  | d + 1, hd => by
    have ih := tail_lt hC hv d (by omega)
    have e := tCnt_step (C := C) (rm := rm) (cm := cm) (v := v) (show N - (d + 1) < N by omega)
    rw [show N - (N - (d + 1)) = d + 1 by omega] at e
    have hval := hv (N - (d + 1)) (by omega)
    have hmono := sumF_le2 (f := fun n => tCnt N C rm cm (N - (N - (d + 1) + 1)) (va_up v (N - (d + 1)) (tLo C rm cm v (N - (d + 1)) + n))) (show v (N - (d + 1)) + 1 - tLo C rm cm v (N - (d + 1)) ≤ tHi C rm cm v (N - (d + 1)) + 1 - tLo C rm cm v (N - (d + 1)) by omega)
    rw [← e, tStep_more hC (by omega) hval.1, up_same, show N - (N - (d + 1) + 1) = d by omega] at hmono
    rw [sumF_head]
    have e2 : sumF (fun i => tStep N C rm cm v (N - (d + 1) + (i + 1))) d = sumF (fun i => tStep N C rm cm v (N - d + i)) d := sumF_congr d (fun i _ => by congr 1; omega)
    rw [e2]
    have e3 : tStep N C rm cm v (N - (d + 1) + 0) = sumF (fun n => tCnt N C rm cm d (va_up v (N - (d + 1)) (tLo C rm cm v (N - (d + 1)) + n))) (v (N - (d + 1)) - tLo C rm cm v (N - (d + 1))) := by
      unfold tStep
      rw [Nat.add_zero, show N - (N - (d + 1) + 1) = d by omega]
      rfl
    rw [e3]; omega
theorem idx_first {N C : Nat} {rm cm v : Nat → Nat} (h : ∀ j, j < N → v j = tLo C rm cm v j) : tIdx N C rm cm v = 0 := by
  unfold tIdx
  rw [sumF_congr (g := fun _ => 0) N (fun j hj => tStep_lo (h j hj))]
  have := sumF_le (f := fun _ => 0) (b := 0) N (fun _ _ => Nat.le_refl _)
  omega
theorem idx_last {N C : Nat} {rm cm v : Nat → Nat} (hC : 0 < C) (hv : Val C rm cm N v) (h : ∀ j, j < N → v j = tHi C rm cm v j) : tIdx N C rm cm v + 1 = tCnt N C rm cm N v := by
  have e := tail_hi hC hv N (Nat.le_refl _) (fun j _ hj => h j hj)
  rw [Nat.sub_self] at e
  rw [← e]; unfold tIdx
  rw [sumF_congr (g := fun i => tStep N C rm cm v (0 + i)) N (fun j _ => by rw [Nat.zero_add])]
theorem idx_ltc {N C : Nat} {rm cm v : Nat → Nat} (hC : 0 < C) (hv : Val C rm cm N v) : tIdx N C rm cm v < tCnt N C rm cm N v := by
  have e := tail_lt hC hv N (Nat.le_refl _)
  rw [Nat.sub_self] at e
  unfold tIdx
  rw [sumF_congr (g := fun i => tStep N C rm cm v (0 + i)) N (fun j _ => by rw [Nat.zero_add])]
  exact e
theorem idx_split {N C : Nat} {rm cm v : Nat → Nat} {a : Nat} (ha : a < N) : tIdx N C rm cm v = sumF (tStep N C rm cm v) a + tStep N C rm cm v a + sumF (fun i => tStep N C rm cm v (N - (N - (a + 1)) + i)) (N - (a + 1)) := by
  unfold tIdx
  have e := sumF_split (f := tStep N C rm cm v) (a := a + 1) (N - (a + 1))
  rw [show a + 1 + (N - (a + 1)) = N by omega] at e
  rw [e, show N - (N - (a + 1)) = a + 1 by omega]
  rfl
theorem idx_next {N C : Nat} {rm cm v w : Nat → Nat} {a : Nat} (hC : 0 < C) (ha : a < N) (hv : Val C rm cm N v) (hh : ∀ j, a < j → j < N → v j = tHi C rm cm v j) (h1 : ∀ j, j < a → w j = v j) (h2 : w a = v a + 1) (h3 : ∀ j, a < j → j < N → w j = tLo C rm cm w j) : tIdx N C rm cm w = tIdx N C rm cm v + 1 := by
  rw [idx_split (v := v) ha, idx_split (v := w) ha]
  have e1 : sumF (tStep N C rm cm w) a = sumF (tStep N C rm cm v) a := sumF_congr a (fun i hi => tStep_congr hC (by omega) (fun j hj => h1 j (by omega)))
  have e2 : sumF (fun i => tStep N C rm cm w (N - (N - (a + 1)) + i)) (N - (a + 1)) = 0 := by
    rw [sumF_congr (g := fun _ => 0) _ (fun i hi => tStep_lo (h3 _ (by omega) (by omega)))]
    have := sumF_le (f := fun _ => 0) (b := 0) (N - (a + 1)) (fun _ _ => Nat.le_refl _)
    omega
  have e3 := tail_hi hC hv (N - (a + 1)) (by omega) (fun j q1 q2 => hh j (by omega) q2)
  have hlo : tLo C rm cm w a = tLo C rm cm v a := tLo_congr hC h1
  have hva := (hv a ha).1
  have e4 : tStep N C rm cm w a = tStep N C rm cm v a + tCnt N C rm cm (N - (a + 1)) v := by
    have q := tStep_more (N := N) (v := w) (x := v a) hC ha (by rw [hlo]; exact hva)
    unfold tStep
    rw [h2, q, hlo]
    congr 1
    · refine sumF_congr _ (fun n _ => tCnt_congr hC _ _ _ (by omega) (fun i hi => ?_))
      by_cases z : i = a
      · rw [z, va_up_self, va_up_self]
      · rw [va_up_ne _ _ z, va_up_ne _ _ z]; exact h1 i (by omega)
    · refine tCnt_congr hC _ _ _ (by omega) (fun i hi => ?_)
      by_cases z : i = a
      · rw [z, va_up_self]
      · rw [va_up_ne _ _ z]; exact h1 i (by omega)
  rw [e1, e2, e4]; omega
theorem idx_less {N C : Nat} {rm cm v w : Nat → Nat} {a : Nat} (hC : 0 < C) (ha : a < N) (hv : Val C rm cm N v) (hw : Val C rm cm N w) (h1 : ∀ j, j < a → v j = w j) (h2 : v a < w a) : tIdx N C rm cm v < tIdx N C rm cm w := by
  rw [idx_split (v := v) ha, idx_split (v := w) ha]
  have e1 : sumF (tStep N C rm cm v) a = sumF (tStep N C rm cm w) a := sumF_congr a (fun i hi => tStep_congr hC (by omega) (fun j hj => h1 j (by omega)))
  have e3 := tail_lt hC hv (N - (a + 1)) (by omega)
  have hlo : tLo C rm cm v a = tLo C rm cm w a := tLo_congr hC h1
  have hva := (hv a ha).1
  have e4 : tStep N C rm cm v a + tCnt N C rm cm (N - (a + 1)) v ≤ tStep N C rm cm w a := by
    have q := tStep_more (N := N) (v := w) (x := v a) hC ha (by rw [← hlo]; exact hva)
    have hm := sumF_le2 (f := fun n => tCnt N C rm cm (N - (a + 1)) (va_up w a (tLo C rm cm w a + n))) (show v a + 1 - tLo C rm cm w a ≤ w a - tLo C rm cm w a by omega)
    rw [q] at hm
    have c1 : sumF (fun n => tCnt N C rm cm (N - (a + 1)) (va_up w a (tLo C rm cm w a + n))) (v a - tLo C rm cm w a) = tStep N C rm cm v a := by
      unfold tStep
      rw [hlo]
      refine sumF_congr _ (fun n _ => tCnt_congr hC _ _ _ (by omega) (fun i hi => ?_))
      by_cases z : i = a
      · rw [z, va_up_self, va_up_self]
      · rw [va_up_ne _ _ z, va_up_ne _ _ z]; exact (h1 i (by omega)).symm
    have c2 : tCnt N C rm cm (N - (a + 1)) (va_up w a (v a)) = tCnt N C rm cm (N - (a + 1)) v := tCnt_congr hC _ _ _ (by omega) (fun i hi => by
      by_cases z : i = a
      · rw [z, va_up_self]
      · rw [va_up_ne _ _ z]; exact (h1 i (by omega)).symm)
    rw [c1, c2] at hm
    exact hm
  omega
theorem idx_inj {N C : Nat} {rm cm v w : Nat → Nat} (hC : 0 < C) (hv : Val C rm cm N v) (hw : Val C rm cm N w) (h : tIdx N C rm cm v = tIdx N C rm cm w) : ∀ j, j < N → v j = w j := by
  intro j hj
  by_cases hne : v j = w j
  · exact hne
  · exfalso
    obtain ⟨a, ⟨ha, hb⟩, hl⟩ := pk_least (fun j => j < N ∧ v j ≠ w j) ⟨j, hj, hne⟩
    have h1 : ∀ i, i < a → v i = w i := fun i hi => Decidable.byContradiction (fun z => hl i hi ⟨by omega, z⟩)
    rcases Nat.lt_or_gt_of_ne hb with q | q
    · have := idx_less hC ha hv hw h1 q; omega
    · have := idx_less hC ha hw hv (fun i hi => (h1 i hi).symm) q; omega
