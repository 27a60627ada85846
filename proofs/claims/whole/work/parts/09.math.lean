/-! Numbers written in places: bval b f n is what the places f 0 .. f (n - 1) are worth to the base b. -/
def bval (b : Nat) (f : Nat → Nat) : Nat → Nat
  | 0 => 0
  | n + 1 => bval b f n + f n * b ^ n
theorem bval_congr {b : Nat} {f g : Nat → Nat} : ∀ n, (∀ i, i < n → f i = g i) → bval b f n = bval b g n
  | 0, _ => rfl
  | n + 1, h => by
    show bval b f n + f n * b ^ n = bval b g n + g n * b ^ n
    rw [bval_congr n (fun i hi => h i (by omega)), h n (by omega)]
theorem bval_lt {b : Nat} {f : Nat → Nat} : ∀ n, (∀ i, i < n → f i < b) → bval b f n < b ^ n
  | 0, _ => by simp [bval]
  | n + 1, h => by
    have h1 := bval_lt n (fun i hi => h i (by omega))
    have h2 : f n + 1 ≤ b := h n (by omega)
    have h3 : (f n + 1) * b ^ n ≤ b * b ^ n := Nat.mul_le_mul_right _ h2
    show bval b f n + f n * b ^ n < b ^ (n + 1)
    rw [Nat.pow_succ, Nat.mul_comm (b ^ n) b]
    rw [Nat.add_mul] at h3
    omega
theorem bval_zero {b : Nat} {f : Nat → Nat} : ∀ n, (∀ i, i < n → f i = 0) → bval b f n = 0
  | 0, _ => rfl
  | n + 1, h => by
    show bval b f n + f n * b ^ n = 0
    rw [bval_zero n (fun i hi => h i (by omega)), h n (by omega)]; simp
theorem bval_up_ge {b : Nat} {f : Nat → Nat} {j x n : Nat} (h : n ≤ j) : bval b (va_up f j x) n = bval b f n :=
  bval_congr n (fun i hi => va_up_ne _ _ (by omega))
theorem bval_more {b : Nat} {f : Nat → Nat} {m : Nat} : ∀ k, (∀ i, m ≤ i → f i = 0) → bval b f (m + k) = bval b f m
  | 0, _ => rfl
  | k + 1, h => by
    show bval b f (m + k) + f (m + k) * b ^ (m + k) = _
    rw [bval_more k h, h (m + k) (by omega)]; simp
theorem bval_ext {b : Nat} {f : Nat → Nat} {m n : Nat} (hmn : m ≤ n) (h : ∀ i, m ≤ i → f i = 0) : bval b f n = bval b f m := by
  obtain ⟨k, rfl⟩ := Nat.exists_eq_add_of_le hmn
  exact bval_more k h
theorem bval_split {b : Nat} {f : Nat → Nat} {m : Nat} : ∀ k, bval b f (m + k) = bval b f m + b ^ m * bval b (fun i => f (m + i)) k
  | 0 => by simp [bval]
  | k + 1 => by
    show bval b f (m + k) + f (m + k) * b ^ (m + k) = bval b f m + b ^ m * (bval b (fun i => f (m + i)) k + f (m + k) * b ^ k)
    rw [bval_split k, Nat.pow_add]
    grind
theorem bval_top {b : Nat} {f g : Nat → Nat} {n : Nat} : ∀ k, k ≤ n → (∀ i, k ≤ i → i < n → f i = g i) → bval b f n + bval b g k = bval b g n + bval b f k := by
  intro k hk h
  obtain ⟨m, rfl⟩ := Nat.exists_eq_add_of_le hk
  rw [bval_split, bval_split, bval_congr (f := fun i => f (k + i)) (g := fun i => g (k + i)) m (fun i hi => h (k + i) (by omega) (by omega))]
  omega
/-- the first place from above that differs decides -/
theorem bval_less {b : Nat} {f g : Nat → Nat} {n k : Nat} (hk : k < n) (hf : ∀ i, i < n → f i < b) (h : ∀ i, k < i → i < n → f i = g i) (hl : f k < g k) : bval b f n < bval b g n := by
  have h1 := bval_top (b := b) (k + 1) (by omega) (fun i hi hn => h i (by omega) hn)
  have h2 : bval b f k < b ^ k := bval_lt k (fun i hi => hf i (by omega))
  have h3 : bval b f (k + 1) = bval b f k + f k * b ^ k := rfl
  have h4 : bval b g (k + 1) = bval b g k + g k * b ^ k := rfl
  have h5 : (f k + 1) * b ^ k ≤ g k * b ^ k := Nat.mul_le_mul_right _ hl
  rw [Nat.add_mul] at h5
  omega
theorem bval_inj {b : Nat} {f g : Nat → Nat} : ∀ n, (∀ i, i < n → f i < b) → (∀ i, i < n → g i < b) → bval b f n = bval b g n → ∀ i, i < n → f i = g i
  | 0, _, _, _, i, hi => absurd hi (by omega)
  | n + 1, hf, hg, h, i, hi => by
    have h1 : f n = g n := by
      rcases Nat.lt_trichotomy (f n) (g n) with q | q | q
      · have := bval_less (n := n + 1) (k := n) (by omega) hf (fun j h1 h2 => absurd h2 (by omega)) q; omega
      · exact q
      · have := bval_less (n := n + 1) (k := n) (by omega) hg (fun j h1 h2 => absurd h2 (by omega)) q; omega
    by_cases hin : i = n
    · rw [hin]; exact h1
    · refine bval_inj n (fun i hi => hf i (by omega)) (fun i hi => hg i (by omega)) ?_ i (by omega)
      have h2 : bval b f n + f n * b ^ n = bval b g n + g n * b ^ n := h
      rw [h1] at h2; omega
/-- rows of naturals as the machine's -/
def lF (g : Nat → Nat) : Nat → Int64 := fun i => lN (g i)
def nF (g : Nat → Nat) : Nat → Int32 := fun i => nI (g i)
theorem lF_up (g : Nat → Nat) (j x : Nat) : va_up (lF g) j (lN x) = lF (va_up g j x) := by
  funext i; by_cases h : i = j <;> simp [va_up, lF, h]
theorem nF_up (g : Nat → Nat) (j x : Nat) : va_up (nF g) j (nI x) = nF (va_up g j x) := by
  funext i; by_cases h : i = j <;> simp [va_up, nF, h]
