/-! numbers of ways to choose -/
def ch : Nat → Nat → Nat
  | _, 0 => 1
  | 0, _ + 1 => 0
  | n + 1, k + 1 => ch n k + ch n (k + 1)
theorem ch_0 (n : Nat) : ch n 0 = 1 := by cases n <;> rfl
theorem ch_gt : ∀ n k, n < k → ch n k = 0
  | 0, 0, h => absurd h (Nat.lt_irrefl _)
  | 0, k + 1, _ => rfl
  | n + 1, 0, h => absurd h (Nat.not_lt_zero _)
  | n + 1, k + 1, h => by
    show ch n k + ch n (k + 1) = 0
    rw [ch_gt n k (by omega), ch_gt n (k + 1) (by omega)]
theorem ch_self : ∀ n, ch n n = 1
  | 0 => rfl
  | n + 1 => by
    show ch n n + ch n (n + 1) = 1
    rw [ch_self n, ch_gt n (n + 1) (by omega)]
theorem ch_fac : ∀ n k, k ≤ n → ch n k * (fac k * fac (n - k)) = fac n
  | n, 0, _ => by rw [ch_0, Nat.sub_zero]; show 1 * (1 * fac n) = fac n; omega
  | 0, k + 1, h => absurd h (by omega)
  | n + 1, k + 1, h => by
    show (ch n k + ch n (k + 1)) * (fac k * (k + 1) * fac (n + 1 - (k + 1))) = fac n * (n + 1)
    rw [Nat.add_sub_add_right]
    have h1 := ch_fac n k (by omega)
    by_cases q : k = n
    · subst q
      rw [ch_gt k (k + 1) (by omega), Nat.add_zero, Nat.sub_self]
      rw [Nat.sub_self] at h1
      have : fac 0 = 1 := rfl
      rw [this] at h1 ⊢
      rw [← h1]
      grind
    · have h2 := ch_fac n (k + 1) (by omega)
      obtain ⟨m, hm⟩ : ∃ m, n - k = m + 1 := ⟨n - k - 1, by omega⟩
      rw [show n - (k + 1) = m by omega] at h2
      rw [hm] at h1 ⊢
      have e1 : fac (m + 1) = fac m * (m + 1) := rfl
      have e2 : fac (k + 1) = fac k * (k + 1) := rfl
      rw [e1] at h1 ⊢
      rw [e2] at h2
      have e3 : n + 1 = (k + 1) + (m + 1) := by omega
      rw [e3, Nat.mul_add (fac n), Nat.add_mul]
      congr 1
      · rw [← h1]; grind
      · rw [← h2]; grind
theorem ch_pos {n k : Nat} (h : k ≤ n) : 0 < ch n k := Nat.pos_of_ne_zero (fun q => by
  have h1 := ch_fac n k h
  rw [q, Nat.zero_mul] at h1
  have := fac_pos n
  omega)
theorem ch_pow {x : Nat} : ∀ n k, k ≤ n → ch n k * x ^ (n - k) ≤ (x + 1) ^ n
  | n, 0, _ => by rw [ch_0, Nat.one_mul, Nat.sub_zero]; exact Nat.pow_le_pow_left (by omega) n
  | 0, k + 1, h => absurd h (by omega)
  | n + 1, k + 1, h => by
    show (ch n k + ch n (k + 1)) * x ^ (n + 1 - (k + 1)) ≤ (x + 1) ^ (n + 1)
    rw [Nat.add_sub_add_right, Nat.add_mul, Nat.pow_succ, Nat.mul_add, Nat.mul_one, Nat.add_comm ((x + 1) ^ n * x)]
    refine Nat.add_le_add (ch_pow n k (by omega)) ?_
    by_cases q : k = n
    · rw [q, ch_gt n (n + 1) (by omega), Nat.zero_mul]; exact Nat.zero_le _
    · have h2 := ch_pow (x := x) n (k + 1) (by omega)
      rw [show n - k = n - (k + 1) + 1 by omega, Nat.pow_succ, ← Nat.mul_assoc]
      exact Nat.mul_le_mul_right x h2
theorem ch_two {n k : Nat} : ch n k ≤ 2 ^ n := by
  by_cases q : k ≤ n
  · have := ch_pow (x := 1) n k q
    rw [Nat.one_pow, Nat.mul_one] at this
    exact this
  · rw [ch_gt n k (by omega)]; exact Nat.zero_le _
theorem sumF_mul {f : Nat → Nat} {c : Nat} : ∀ n, sumF (fun i => c * f i) n = c * sumF f n
  | 0 => (Nat.mul_zero c).symm
  | n + 1 => by
    show sumF (fun i => c * f i) n + c * f n = c * (sumF f n + f n)
    rw [sumF_mul n, Nat.mul_add]
theorem vand0 {b : Nat} : ∀ k, sumF (fun i => ch 0 i * ch b (k - i)) (k + 1) = ch b k := fun k => by
  rw [sumF_head, sumF_congr (g := fun _ => 0) k (fun i _ => by show 0 * _ = 0; rw [Nat.zero_mul])]
  have : ∀ n, sumF (fun _ => 0) n = 0 := fun n => by
    have := sumF_le (f := fun _ => 0) (b := 0) n (fun _ _ => Nat.le_refl _)
    omega
  rw [this, Nat.add_zero, ch_0, Nat.one_mul, Nat.sub_zero]
theorem vand {b : Nat} : ∀ a k, sumF (fun i => ch a i * ch b (k - i)) (k + 1) = ch (a + b) k
  | 0, k => by rw [Nat.zero_add]; exact vand0 k
  | a + 1, 0 => by
    show 0 + ch (a + 1) 0 * ch b (0 - 0) = ch (a + 1 + b) 0
    rw [ch_0, ch_0, ch_0]
  | a + 1, k + 1 => by
    have h1 := vand (b := b) a (k + 1)
    have h2 := vand (b := b) a k
    rw [sumF_head] at h1 ⊢
    rw [ch_0, Nat.one_mul, Nat.sub_zero] at h1 ⊢
    rw [show a + 1 + b = (a + b) + 1 by omega]
    show _ = ch (a + b) k + ch (a + b) (k + 1)
    rw [← h1, ← h2]
    have e : sumF (fun i => ch (a + 1) (i + 1) * ch b (k + 1 - (i + 1))) (k + 1) = sumF (fun i => ch a i * ch b (k - i)) (k + 1) + sumF (fun i => ch a (i + 1) * ch b (k + 1 - (i + 1))) (k + 1) := by
      rw [← sumF_add]
      refine sumF_congr (k + 1) (fun i _ => ?_)
      show (ch a i + ch a (i + 1)) * ch b (k + 1 - (i + 1)) = ch a i * ch b (k - i) + ch a (i + 1) * ch b (k + 1 - (i + 1))
      rw [Nat.add_sub_add_right, Nat.add_mul]
    omega
theorem vand_rng {a b k : Nat} (h : k ≤ a + b) : sumF (fun m => ch a (k - b + m) * ch b (k - (k - b + m))) (min k a + 1 - (k - b)) = ch (a + b) k := by
  rw [← vand a k]
  have e1 : k + 1 = (k - b) + (min k a + 1 - (k - b)) + (k - min k a) := by omega
  rw [e1, sumF_split, sumF_split]
  have z : ∀ (f : Nat → Nat) n, (∀ i, i < n → f i = 0) → sumF f n = 0 := fun f n hf => by
    have := sumF_le (f := f) (b := 0) n (fun i hi => Nat.le_of_eq (hf i hi))
    omega
  rw [z (fun i => ch a i * ch b (k - i)) (k - b) (fun i hi => by
      rw [ch_gt b (k - i) (by omega), Nat.mul_zero]),
    z (fun i => ch a (k - b + (min k a + 1 - (k - b)) + i) * ch b (k - (k - b + (min k a + 1 - (k - b)) + i))) (k - min k a) (fun i hi => by
      rw [ch_gt a _ (by omega), Nat.zero_mul])]
  omega
theorem facP_split {f : Nat → Nat} {a : Nat} : ∀ b, facP f (a + b) = facP f a * facP (fun i => f (a + i)) b
  | 0 => (Nat.mul_one _).symm
  | b + 1 => by
    show facP f (a + b) * fac (f (a + b)) = facP f a * (facP (fun i => f (a + i)) b * fac (f (a + b)))
    rw [facP_split b, Nat.mul_assoc]
theorem facP_up {f : Nat → Nat} {c x : Nat} : ∀ n, c < n → facP (va_up f c x) n * fac (f c) = facP f n * fac x
  | 0, h => absurd h (Nat.not_lt_zero _)
  | n + 1, h => by
    show facP (va_up f c x) n * fac (va_up f c x n) * fac (f c) = facP f n * fac (f n) * fac x
    by_cases q : c = n
    · subst q
      rw [va_up_self, facP_congr (c := va_up f c x) (e := f) c (fun i hi => va_up_ne _ _ (by omega))]
      grind
    · rw [va_up_ne _ _ (show n ≠ c by omega)]
      have ih := facP_up (f := f) (c := c) (x := x) n (by omega)
      have : facP (va_up f c x) n * fac (f n) * fac (f c) = (facP (va_up f c x) n * fac (f c)) * fac (f n) := by grind
      rw [this, ih]
      grind
theorem facP_ge {f : Nat → Nat} (n : Nat) : 1 ≤ facP f n := facP_pos f n
/-- a cell more -/
theorem wt_step {C k c m p : Nat} {v cl cm : Nat → Nat} (hc : c < C) (hm : m ≤ cl c) (h : p * (facP v k * facP cl C) = facP cm C) : p * ch (cl c) m * (facP (va_up v k m) (k + 1) * facP (va_up cl c (cl c - m)) C) = facP cm C := by
  have h1 := ch_fac (cl c) m hm
  have h2 := facP_up (f := cl) (c := c) (x := cl c - m) C hc
  have h3 : facP (va_up v k m) (k + 1) = facP v k * fac m := by
    show facP (va_up v k m) k * fac (va_up v k m k) = _
    rw [va_up_self, facP_congr (c := va_up v k m) (e := v) k (fun i hi => va_up_ne _ _ (by omega))]
  have h4 := fac_pos (cl c)
  have h5 : p * ch (cl c) m * (facP v k * fac m * facP (va_up cl c (cl c - m)) C) * fac (cl c) = p * (facP v k * facP cl C) * fac (cl c) := by
    calc p * ch (cl c) m * (facP v k * fac m * facP (va_up cl c (cl c - m)) C) * fac (cl c)
        = p * ch (cl c) m * facP v k * fac m * (facP (va_up cl c (cl c - m)) C * fac (cl c)) := by grind
      _ = p * ch (cl c) m * facP v k * fac m * (facP cl C * fac (cl c - m)) := by rw [h2]
      _ = p * (facP v k * facP cl C) * (ch (cl c) m * (fac m * fac (cl c - m))) := by grind
      _ = p * (facP v k * facP cl C) * fac (cl c) := by rw [h1]
  rw [h3, Nat.eq_of_mul_eq_mul_right h4 h5]
  exact h
/-- what a table weighs without the rows' factorials -/
def Wc (cm : Nat → Nat) (C N : Nat) (t : Nat → Nat) : Nat := facP cm C / facP t N
theorem Wc_of {cm t : Nat → Nat} {C N p : Nat} (h : p * facP t N = facP cm C) : Wc cm C N t = p := by
  unfold Wc; rw [← h, Nat.mul_div_cancel _ (facP_pos t N)]
theorem Wc_congr {cm t t2 : Nat → Nat} {C N : Nat} (h : ∀ i, i < N → t i = t2 i) : Wc cm C N t = Wc cm C N t2 := by
  unfold Wc; rw [facP_congr N h]
theorem Wc_le {cm t : Nat → Nat} {C N : Nat} : Wc cm C N t ≤ facP cm C := Nat.div_le_self _ _
def ccode (a b : Nat) : Nat := if a < b then 0 else if a = b then 1 else 2
theorem ccode_le {a b : Nat} : ccode a b ≤ 2 := by unfold ccode; split; (omega); (split <;> omega)
theorem cmp_code {a b : Nat} : cmpI a b + nI 1 = nI (ccode a b) := by
  rcases Nat.lt_trichotomy a b with q | q | q
  · rw [cmp_lt q]; unfold ccode; rw [if_pos q]; decide
  · rw [cmp_eq q]; unfold ccode; rw [if_neg (by omega), if_pos q]; decide
  · rw [cmp_gt q]; unfold ccode; rw [if_neg (by omega), if_neg (by omega)]; decide
theorem code_cmp {a b : Nat} : nI (ccode a b) - nI 1 = cmpI a b := by rw [← cmp_code, Int32.add_sub_cancel]
def sFar (cm : Nat → Nat) (C N SN : Nat) (vs : Nat → Nat → Nat) : Nat → Nat := sumF (fun j => if Wc cm C N (vs j) ≤ SN then Wc cm C N (vs j) else 0)
def sLow (cm : Nat → Nat) (C N g0 : Nat) (vs : Nat → Nat → Nat) : Nat → Nat := sumF (fun j => if vs j 0 ≤ g0 then Wc cm C N (vs j) else 0)
def sHigh (cm : Nat → Nat) (C N g0 : Nat) (vs : Nat → Nat → Nat) : Nat → Nat := sumF (fun j => if g0 ≤ vs j 0 then Wc cm C N (vs j) else 0)
def sTot (cm : Nat → Nat) (C N : Nat) (vs : Nat → Nat → Nat) : Nat → Nat := sumF (fun j => Wc cm C N (vs j))
theorem s_up {f : (Nat → Nat) → Nat} {vs : Nat → Nat → Nat} {n : Nat} {v : Nat → Nat} : sumF (fun j => f (va_up vs n v j)) (n + 1) = sumF (fun j => f (vs j)) n + f v := by
  show sumF (fun j => f (va_up vs n v j)) n + f (va_up vs n v n) = _
  rw [va_up_self, sumF_congr (g := fun j => f (vs j)) n (fun j hj => by rw [va_up_ne _ _ (show j ≠ n by omega)])]
theorem s_bd {f : (Nat → Nat) → Nat} {b n : Nat} {vs : Nat → Nat → Nat} (h : ∀ v, f v ≤ b) : sumF (fun j => f (vs j)) n ≤ n * b := sumF_le n (fun j _ => h _)
theorem up_bd {a b n : Nat} (ha : a ≤ n * b) (hn : n ≤ 20000) (hb : b ≤ fac 60) {w : Nat} (hw : w ≤ b) : a + w < 4294967296 ^ 12 := by
  have h1 := fac60
  have h2 : n * b ≤ 20000 * 2 ^ 273 := Nat.mul_le_mul hn (by omega)
  have h3 : (20001 : Nat) * 2 ^ 273 < 4294967296 ^ 12 := by decide +kernel
  rw [Nat.succ_mul] at h3
  exact Nat.lt_of_le_of_lt (Nat.add_le_add (Nat.le_trans ha h2) (Nat.le_trans hw (by omega))) h3
/-- the rows' product from the last m rows on -/
def rpN (rs : Nat → Nat) (R : Nat) : Nat → Nat
  | 0 => 1
  | 1 => 1
  | m + 2 => ch (sumF (fun j => rs (R - (m + 2) + j)) (m + 2)) (rs (R - (m + 2))) * rpN rs R (m + 1)
