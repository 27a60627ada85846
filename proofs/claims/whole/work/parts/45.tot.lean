theorem tCnt_mg {R C : Nat} {rm rm2 cm cm2 : Nat → Nat} (hC : 0 < C) (h : ∀ r, r < R → rm r = rm2 r) (h2 : ∀ c, c < C → cm c = cm2 c) : ∀ (d : Nat) (v : Nat → Nat), d ≤ C * R → tCnt (C * R) C rm cm d v = tCnt (C * R) C rm2 cm2 d v
  | 0, _, _ => rfl
  | d + 1, v, hd => by
    show sumF _ _ = sumF _ _
    rw [tLo_mg (rm := rm) (cm := cm) hC (show C * R - (d + 1) < C * R by omega) h h2, tHi_mg (rm := rm) (cm := cm) hC (show C * R - (d + 1) < C * R by omega) h h2]
    exact sumF_congr _ (fun n _ => tCnt_mg hC h h2 d _ (by omega))
theorem tIdx_mg {R C : Nat} {rm rm2 cm cm2 v : Nat → Nat} (hC : 0 < C) (h : ∀ r, r < R → rm r = rm2 r) (h2 : ∀ c, c < C → cm c = cm2 c) : tIdx (C * R) C rm cm v = tIdx (C * R) C rm2 cm2 v := by
  unfold tIdx
  refine sumF_congr _ (fun k hk => ?_)
  unfold tStep
  rw [tLo_mg (rm := rm) (cm := cm) hC hk h h2]
  exact sumF_congr _ (fun n _ => tCnt_mg hC h h2 _ _ (by omega))
def tTot (R C : Nat) (rm cm : Nat → Nat) : Nat := tCnt (C * R) C rm cm (C * R) (fun _ => 0)
theorem tTot_of {R C : Nat} {rm rm2 cm cm2 : Nat → Nat} (hC : 0 < C) (h : ∀ r, r < R → rm r = rm2 r) (h2 : ∀ c, c < C → cm c = cm2 c) (v : Nat → Nat) : tCnt (C * R) C rm cm (C * R) v = tTot R C rm2 cm2 := by
  rw [tCnt_mg hC h h2 (C * R) v (Nat.le_refl _)]
  exact tCnt_congr hC _ _ _ (Nat.le_refl _) (fun i hi => absurd hi (by omega))
theorem sumF_bd {f : Nat → Nat} {b : Nat} : ∀ n, (∀ i, i < n → f i ≤ b) → sumF f n ≤ n * b := fun n h => sumF_le n h
theorem top_lt {a b : Nat} (h1 : a ≤ fac 60) (h2 : b ≤ fac 60) : a * b < 2 ^ 546 := by
  have := fac60
  rw [show (2 : Nat) ^ 546 = 2 ^ 273 * 2 ^ 273 by rw [← Nat.pow_add]]
  exact Nat.mul_lt_mul_of_lt_of_le (by omega) (by omega) (by decide)
theorem lt960 {x : Nat} (h : x < 2 ^ 700) : x < 16777216 ^ 40 := Nat.lt_of_lt_of_le h (by decide +kernel)
theorem lt700 {x : Nat} (h : x < 2 ^ 546) : x < 2 ^ 700 := Nat.lt_of_lt_of_le h (by decide +kernel)
theorem x20001 {x t n : Nat} (h : x ≤ n * t) (hn : n ≤ 20000) (ht : t < 2 ^ 546) : x + t < 2 ^ 700 := by
  have h1 : n * t ≤ 20000 * t := Nat.mul_le_mul_right _ hn
  have h2 : (2 : Nat) ^ 700 = 2 ^ 546 * 2 ^ 154 := by rw [← Nat.pow_add]
  have h3 : 20001 * t < 2 ^ 546 * 2 ^ 154 := by
    rw [Nat.mul_comm]
    exact Nat.mul_lt_mul_of_lt_of_le ht (by decide) (by decide)
  omega
theorem two960 {x : Nat} (h : x < 2 ^ 700) : x * 2 ≤ 16777216 ^ 40 := by
  rw [show (16777216 : Nat) ^ 40 = 2 ^ 700 * 2 ^ 260 by decide +kernel]
  exact Nat.mul_le_mul (Nat.le_of_lt h) (by decide)
