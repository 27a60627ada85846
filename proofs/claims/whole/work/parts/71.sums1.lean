/-! sums of two halves -/
def ev (a : Nat → Nat) (i : Nat) : Nat := a (2 * i)
def od (a : Nat → Nat) (i : Nat) : Nat := a (2 * i + 1)
theorem cnt_le {a : Nat → Nat} : ∀ m x, cntS a m x ≤ 2 ^ m
  | 0, x => by show (if x = 0 then 1 else 0) ≤ 1; split <;> omega
  | m + 1, x => by
    show cntS a m x + (if a m ≤ x then cntS a m (x - a m) else 0) ≤ 2 ^ (m + 1)
    have h1 := cnt_le (a := a) m x
    have h2 := cnt_le (a := a) m (x - a m)
    rw [Nat.pow_succ]
    split <;> omega
theorem HS.t_le {a : Nat → Nat} {m sz : Nat} {s t : Nat → Nat} (h : HS a m sz s t) {i : Nat} (hi : i < sz) : t i ≤ 2 ^ m := by
  have h1 : (if s i = s i then t i else 0) ≤ sumF (fun k => if s k = s i then t k else 0) sz := sumF_mem (f := fun k => if s k = s i then t k else 0) hi
  rw [if_pos rfl] at h1
  have h2 := h.2.2.1 (s i)
  have h3 := cnt_le (a := a) m (s i)
  omega
def SS (B : gB) (ad : Nat → Nat) (ct : Nat → va_E) (a : Nat → Nat) (m N1 N2 : Nat) : Prop := ∃ sz1 s1 t1 sz2 s2 t2, ct 82 = .inr (4, [.ref (ad 83), .ref (ad 84), .int (nI sz1)]) ∧ ct 83 = .inl (B.2.1 0, N1, .inl (nF s1)) ∧ ct 84 = .inl (B.2.1 0, N1, .inl (nF t1)) ∧ ct 85 = .inr (4, [.ref (ad 86), .ref (ad 87), .int (nI sz2)]) ∧ ct 86 = .inl (B.2.1 0, N2, .inl (nF s2)) ∧ ct 87 = .inl (B.2.1 0, N2, .inl (nF t2)) ∧ HS (ev a) ((m + 1) / 2) sz1 s1 t1 ∧ HS (od a) (m / 2) sz2 s2 t2 ∧ sz1 ≤ N1 ∧ sz2 ≤ N2 ∧ okL N1 ∧ okL N2
theorem SS.move {B : gB} {ad ad' : Nat → Nat} {ct ct' : Nat → va_E} {a : Nat → Nat} {m N1 N2 : Nat} (h : SS B ad ct a m N1 N2) (hA : ∀ r, 82 ≤ r → r ≤ 87 → ad' r = ad r) (hC : ∀ r, 82 ≤ r → r ≤ 87 → ct' r = ct r) : SS B ad' ct' a m N1 N2 := by
  obtain ⟨sz1, s1, t1, sz2, s2, t2, h1, h2, h3, h4, h5, h6, h7⟩ := h
  refine ⟨sz1, s1, t1, sz2, s2, t2, ?_, (hC 83 (by decide) (by decide)).trans h2, (hC 84 (by decide) (by decide)).trans h3, ?_, (hC 86 (by decide) (by decide)).trans h5, (hC 87 (by decide) (by decide)).trans h6, h7⟩
  · rw [hC 82 (by decide) (by decide), hA 83 (by decide) (by decide), hA 84 (by decide) (by decide)]; exact h1
  · rw [hC 85 (by decide) (by decide), hA 86 (by decide) (by decide), hA 87 (by decide) (by decide)]; exact h4
def tk1 (a : Nat → Nat) (m N : Nat) : Nat := if m % 2 = 0 then hsL N (2 * dS (ev a) ((m + 1) / 2)) else N
def tk2 (a : Nat → Nat) (m N : Nat) : Nat := if m % 2 = 0 then N else hsL N (2 * dS (od a) (m / 2))
theorem hsL_le {N k : Nat} : N ≤ hsL N k := by unfold hsL; split <;> omega
theorem tk1_le {a : Nat → Nat} {m N : Nat} : N ≤ tk1 a m N := by
  unfold tk1; split
  · exact hsL_le
  · exact Nat.le_refl _
theorem tk2_le {a : Nat → Nat} {m N : Nat} : N ≤ tk2 a m N := by
  unfold tk2; split
  · exact Nat.le_refl _
  · exact hsL_le
theorem m1_gt {a k : Nat} (ha : a < 2 ^ 31) (hk : k < 2 ^ 31) : nI a - nI 1 < nI k ↔ a ≤ k := by
  rw [Int32.lt_iff_toInt_lt, m1_toInt ha, nI_toInt hk]
  omega
theorem ch_next : ∀ n k, k < n → ch n k * (n - k) / (k + 1) = ch n (k + 1) := fun n k h => by
  have h1 := ch_fac n k (by omega)
  have h2 := ch_fac n (k + 1) (by omega)
  have e1 : fac (n - k) = fac (n - (k + 1)) * (n - k) := by
    rw [show n - k = n - (k + 1) + 1 by omega]; rfl
  have e2 : fac (k + 1) = fac k * (k + 1) := rfl
  have h3 : ch n k * (n - k) * (fac k * fac (n - (k + 1))) = ch n (k + 1) * (k + 1) * (fac k * fac (n - (k + 1))) := by
    rw [e1] at h1
    rw [e2] at h2
    calc ch n k * (n - k) * (fac k * fac (n - (k + 1))) = ch n k * (fac k * (fac (n - (k + 1)) * (n - k))) := by grind
      _ = fac n := h1
      _ = ch n (k + 1) * (fac k * (k + 1) * fac (n - (k + 1))) := h2.symm
      _ = ch n (k + 1) * (k + 1) * (fac k * fac (n - (k + 1))) := by grind
  have h4 := Nat.eq_of_mul_eq_mul_right (Nat.mul_pos (fac_pos k) (fac_pos _)) h3
  rw [h4, Nat.mul_div_cancel _ (by omega)]
theorem up_cut {t : Nat → Nat} {P : Nat → Prop} [DecidablePred P] {j : Nat} : ∀ sz, j ≤ sz → (∀ k, k < j → P k) → (∀ k, j ≤ k → k < sz → ¬ P k) → sumF (fun k => if P k then t k else 0) sz = sumF t j
  | 0, h, _, _ => by rw [show j = 0 by omega]; rfl
  | sz + 1, h, h1, h2 => by
    by_cases q : j = sz + 1
    · rw [q]
      exact sumF_congr _ (fun k hk => if_pos (h1 k (by omega)))
    · show sumF (fun k => if P k then t k else 0) sz + (if P sz then t sz else 0) = _
      rw [if_neg (h2 sz (by omega) (by omega)), up_cut sz (by omega) h1 (fun k a b => h2 k a (by omega)), Nat.add_zero]
theorem sumF_stop {f : Nat → Nat} {i : Nat} : ∀ n, i ≤ n → (∀ k, i ≤ k → k < n → f k = 0) → sumF f n = sumF f i
  | 0, h, _ => by rw [show i = 0 by omega]
  | n + 1, h, hz => by
    by_cases q : i = n + 1
    · rw [q]
    · show sumF f n + f n = _
      rw [hz n (by omega) (by omega), sumF_stop n (by omega) (fun k a b => hz k a (by omega)), Nat.add_zero]
def upF (s1 t1 s2 t2 : Nat → Nat) (sz2 : Nat) (T : Int) (i : Nat) : Nat := t1 i * sumF (fun k => if (s1 i : Int) + (s2 k : Int) ≤ T then t2 k else 0) sz2
def exT (s1 t1 s2 t2 : Nat → Nat) (T : Int) (i k : Nat) : Nat := if (s1 i : Int) + (s2 k : Int) = T then t1 i * t2 k else 0
def exR (s1 t1 s2 t2 : Nat → Nat) (sz1 : Nat) (T : Int) (i j : Nat) : Nat := sumF (fun q => sumF (fun k => exT s1 t1 s2 t2 T (i + q) k) j) (sz1 - i)
theorem exR_row {s1 t1 s2 t2 : Nat → Nat} {sz1 : Nat} {T : Int} {i j x : Nat} (hi : i < sz1) (hj : 0 < j) (h0 : ∀ k, k < j - 1 → exT s1 t1 s2 t2 T i k = 0) (hx : exT s1 t1 s2 t2 T i (j - 1) = x) : exR s1 t1 s2 t2 sz1 T i j = x + exR s1 t1 s2 t2 sz1 T (i + 1) j := by
  unfold exR
  rw [show sz1 - i = (sz1 - (i + 1)) + 1 by omega, sumF_head, Nat.add_zero, sumF_pred hj, hx]
  have z := sumF_le (f := fun k => exT s1 t1 s2 t2 T i k) (b := 0) (j - 1) (fun k hk => Nat.le_of_eq (h0 k hk))
  have e : sumF (fun q => sumF (fun k => exT s1 t1 s2 t2 T (i + (q + 1)) k) j) (sz1 - (i + 1)) = sumF (fun q => sumF (fun k => exT s1 t1 s2 t2 T (i + 1 + q) k) j) (sz1 - (i + 1)) := sumF_congr _ (fun q _ => by rw [show i + (q + 1) = i + 1 + q by omega])
  rw [e]
  omega
theorem exR_col {s1 t1 s2 t2 : Nat → Nat} {sz1 : Nat} {T : Int} {i j : Nat} (hj : 0 < j) (h0 : ∀ k, i ≤ k → k < sz1 → exT s1 t1 s2 t2 T k (j - 1) = 0) : exR s1 t1 s2 t2 sz1 T i j = exR s1 t1 s2 t2 sz1 T i (j - 1) := by
  unfold exR
  refine sumF_congr _ (fun q hq => ?_)
  rw [sumF_pred hj, h0 (i + q) (by omega) (by omega), Nat.add_zero]
theorem exR_end {s1 t1 s2 t2 : Nat → Nat} {sz1 : Nat} {T : Int} {i : Nat} : exR s1 t1 s2 t2 sz1 T i 0 = 0 := by
  unfold exR
  have := sumF_le (f := fun q => sumF (fun k => exT s1 t1 s2 t2 T (i + q) k) 0) (b := 0) (sz1 - i) (fun _ _ => Nat.le_refl _)
  omega
theorem exR_out {s1 t1 s2 t2 : Nat → Nat} {sz1 : Nat} {T : Int} {i j : Nat} (h : sz1 ≤ i) : exR s1 t1 s2 t2 sz1 T i j = 0 := by
  unfold exR
  rw [show sz1 - i = 0 by omega]; rfl
/-- what the rows hold, by the sums themselves -/
theorem row_int {s t f : Nat → Nat} {M : Nat} : ∀ sz, (∀ i, i < sz → s i < M) → sumF (fun i => t i * f (s i)) sz = sumF (fun x => sumF (fun i => if s i = x then t i else 0) sz * f x) M
  | 0, _ => by
    have := sumF_le (f := fun x => sumF (fun i => if s i = x then t i else 0) 0 * f x) (b := 0) M (fun x _ => by show 0 * f x ≤ 0; rw [Nat.zero_mul]; exact Nat.le_refl _)
    show 0 = _
    omega
  | sz + 1, h => by
    show sumF (fun i => t i * f (s i)) sz + t sz * f (s sz) = _
    rw [row_int sz (fun i hi => h i (by omega))]
    have e : ∀ x, x < M → sumF (fun i => if s i = x then t i else 0) (sz + 1) * f x = sumF (fun i => if s i = x then t i else 0) sz * f x + (if x = s sz then t sz * f (s sz) else 0) := fun x _ => by
      show (sumF (fun i => if s i = x then t i else 0) sz + (if s sz = x then t sz else 0)) * f x = _
      rw [Nat.add_mul]
      congr 1
      by_cases q : x = s sz
      · rw [if_pos q.symm, if_pos q, q]
      · rw [if_neg (fun e => q e.symm), if_neg q, Nat.zero_mul]
    rw [sumF_congr (g := fun x => sumF (fun i => if s i = x then t i else 0) sz * f x + (if x = s sz then t sz * f (s sz) else 0)) M e, sumF_add]
    congr 1
    have e2 : sumF (fun x => if x = s sz then t sz * f (s sz) else 0) M = t sz * f (s sz) := by
      have h1 := one_of (y := s sz) M (h sz (by omega))
      have h2 := sumF_mul (f := fun x => if x = s sz then 1 else 0) (c := t sz * f (s sz)) M
      rw [h1, Nat.mul_one] at h2
      refine Eq.trans ?_ h2
      exact sumF_congr _ (fun x _ => by show (if x = s sz then t sz * f (s sz) else 0) = t sz * f (s sz) * (if x = s sz then 1 else 0); split; (rw [Nat.mul_one]); (rw [Nat.mul_zero]))
    exact e2.symm
def upC (a b : Nat → Nat) (p q : Nat) (T : Int) : Nat := sumF (fun u => cntS a p u * sumF (fun v => cntS b q v * (if (u : Int) + (v : Int) ≤ T then 1 else 0)) (sumF b q + 1)) (sumF a p + 1)
def exC (a b : Nat → Nat) (p q : Nat) (T : Int) : Nat := sumF (fun u => cntS a p u * sumF (fun v => cntS b q v * (if (u : Int) + (v : Int) = T then 1 else 0)) (sumF b q + 1)) (sumF a p + 1)
theorem HS.int {a : Nat → Nat} {m sz : Nat} {s t : Nat → Nat} (h : HS a m sz s t) (f : Nat → Nat) : sumF (fun i => t i * f (s i)) sz = sumF (fun x => cntS a m x * f x) (sumF a m + 1) := by
  rw [row_int (M := sumF a m + 1) sz (fun i hi => by have := h.2.1 i hi; omega)]
  exact sumF_congr _ (fun x _ => by rw [h.2.2.1 x])
theorem up_is {a b : Nat → Nat} {p q sz1 sz2 : Nat} {s1 t1 s2 t2 : Nat → Nat} {T : Int} (h1 : HS a p sz1 s1 t1) (h2 : HS b q sz2 s2 t2) : sumF (upF s1 t1 s2 t2 sz2 T) sz1 = upC a b p q T := by
  have e : ∀ i, i < sz1 → upF s1 t1 s2 t2 sz2 T i = t1 i * (fun u : Nat => sumF (fun v => cntS b q v * (if (u : Int) + (v : Int) ≤ T then 1 else 0)) (sumF b q + 1)) (s1 i) := fun i _ => by
    unfold upF
    dsimp only
    rw [← h2.int (fun v => if (s1 i : Int) + (v : Int) ≤ T then 1 else 0)]
    congr 1
    exact sumF_congr _ (fun k _ => by split; (rw [Nat.mul_one]); (rw [Nat.mul_zero]))
  rw [sumF_congr _ e]
  exact h1.int (fun u : Nat => sumF (fun v => cntS b q v * (if (u : Int) + (v : Int) ≤ T then 1 else 0)) (sumF b q + 1))
theorem ex_is {a b : Nat → Nat} {p q sz1 sz2 : Nat} {s1 t1 s2 t2 : Nat → Nat} {T : Int} (h1 : HS a p sz1 s1 t1) (h2 : HS b q sz2 s2 t2) : exR s1 t1 s2 t2 sz1 T 0 sz2 = exC a b p q T := by
  unfold exR
  rw [Nat.sub_zero]
  have e : ∀ i, i < sz1 → sumF (fun k => exT s1 t1 s2 t2 T (0 + i) k) sz2 = t1 i * (fun u : Nat => sumF (fun v => cntS b q v * (if (u : Int) + (v : Int) = T then 1 else 0)) (sumF b q + 1)) (s1 i) := fun i _ => by
    rw [Nat.zero_add]
    dsimp only
    rw [← h2.int (fun v => if (s1 i : Int) + (v : Int) = T then 1 else 0), ← sumF_mul]
    exact sumF_congr _ (fun k _ => by unfold exT; split; (rw [Nat.mul_one]); (rw [Nat.mul_zero, Nat.mul_zero]))
  rw [sumF_congr _ e]
  exact h1.int (fun u : Nat => sumF (fun v => cntS b q v * (if (u : Int) + (v : Int) = T then 1 else 0)) (sumF b q + 1))
