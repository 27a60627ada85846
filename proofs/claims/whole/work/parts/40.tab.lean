/-! TABLES with told margins, gone through cell by cell (cell k: row k / C, column k % C): what is left, from where to where a cell may go -/
def tRest (C : Nat) (rm : Nat → Nat) (v : Nat → Nat) (k : Nat) : Nat := rm (k / C) - sumF (fun j => v (C * (k / C) + j)) (k % C)
def tLeft (C : Nat) (cm : Nat → Nat) (v : Nat → Nat) (r c : Nat) : Nat := cm c - sumF (fun i => v (C * i + c)) r
def tBeh (C : Nat) (cm : Nat → Nat) (v : Nat → Nat) (r c : Nat) : Nat := sumF (fun j => tLeft C cm v r (c + 1 + j)) (C - (c + 1))
def tLo (C : Nat) (rm cm : Nat → Nat) (v : Nat → Nat) (k : Nat) : Nat := tRest C rm v k - tBeh C cm v (k / C) (k % C)
def tHi (C : Nat) (rm cm : Nat → Nat) (v : Nat → Nat) (k : Nat) : Nat := min (tRest C rm v k) (tLeft C cm v (k / C) (k % C))
/-- the first k cells are as they may be -/
def Val (C : Nat) (rm cm : Nat → Nat) (k : Nat) (v : Nat → Nat) : Prop := ∀ j, j < k → tLo C rm cm v j ≤ v j ∧ v j ≤ tHi C rm cm v j
theorem dm {C r c : Nat} (h : c < C) : (C * r + c) / C = r ∧ (C * r + c) % C = c := by
  have hC : 0 < C := by omega
  constructor
  · rw [Nat.mul_add_div hC, Nat.div_eq_of_lt h, Nat.add_zero]
  · rw [Nat.mul_add_mod, Nat.mod_eq_of_lt h]
theorem sumF_add {f g : Nat → Nat} : ∀ n, sumF (fun i => f i + g i) n = sumF f n + sumF g n
  | 0 => rfl
  | n + 1 => by show sumF (fun i => f i + g i) n + (f n + g n) = (sumF f n + f n) + (sumF g n + g n); rw [sumF_add n]; omega
theorem sumF_head {f : Nat → Nat} : ∀ n, sumF f (n + 1) = f 0 + sumF (fun i => f (i + 1)) n
  | 0 => by show 0 + f 0 = f 0 + 0; omega
  | n + 1 => by show sumF f (n + 1) + f (n + 1) = f 0 + (sumF (fun i => f (i + 1)) n + f (n + 1)); rw [sumF_head n]; omega
theorem sumF_split {f : Nat → Nat} {a : Nat} : ∀ b, sumF f (a + b) = sumF f a + sumF (fun i => f (a + i)) b
  | 0 => rfl
  | b + 1 => by show sumF f (a + b) + f (a + b) = sumF f a + (sumF (fun i => f (a + i)) b + f (a + b)); rw [sumF_split b]; omega
theorem sumF_mem {f : Nat → Nat} {n i : Nat} (h : i < n) : f i ≤ sumF f n := by
  obtain ⟨d, rfl⟩ := Nat.exists_eq_add_of_le (show i + 1 ≤ n from h)
  rw [sumF_split]
  have : sumF f (i + 1) = sumF f i + f i := rfl
  omega
theorem idx_lt {C k i c : Nat} (hC : 0 < C) (hi : i < k / C) (hc : c < C) : C * i + c < k := by
  have h1 : C * (i + 1) ≤ C * (k / C) := Nat.mul_le_mul_left _ hi
  have h2 : C * (k / C) ≤ k := Nat.mul_div_le k C
  rw [Nat.mul_add, Nat.mul_one] at h1
  omega
theorem tRest_congr {C : Nat} {rm v w : Nat → Nat} {k : Nat} (h : ∀ i, i < k → v i = w i) : tRest C rm v k = tRest C rm w k := by
  unfold tRest
  rw [sumF_congr (k % C) (fun j hj => h _ (by have := Nat.div_add_mod k C; omega))]
theorem tLeft_congr {C : Nat} {cm v w : Nat → Nat} {r c : Nat} (h : ∀ i, i < r → v (C * i + c) = w (C * i + c)) : tLeft C cm v r c = tLeft C cm w r c := by
  unfold tLeft
  rw [sumF_congr r h]
theorem tBeh_congr {C : Nat} {cm v w : Nat → Nat} {k : Nat} (hC : 0 < C) (h : ∀ i, i < k → v i = w i) {c : Nat} : tBeh C cm v (k / C) c = tBeh C cm w (k / C) c := by
  unfold tBeh
  exact sumF_congr _ (fun j hj => tLeft_congr (fun i hi => h _ (idx_lt hC hi (by omega))))
theorem tLo_congr {C : Nat} {rm cm v w : Nat → Nat} {k : Nat} (hC : 0 < C) (h : ∀ i, i < k → v i = w i) : tLo C rm cm v k = tLo C rm cm w k := by
  unfold tLo
  rw [tRest_congr h, tBeh_congr hC h]
theorem tHi_congr {C : Nat} {rm cm v w : Nat → Nat} {k : Nat} (hC : 0 < C) (h : ∀ i, i < k → v i = w i) : tHi C rm cm v k = tHi C rm cm w k := by
  unfold tHi
  rw [tRest_congr h, tLeft_congr (fun i hi => h _ (idx_lt hC hi (Nat.mod_lt _ hC)))]
theorem Val.congr {C : Nat} {rm cm v w : Nat → Nat} {k : Nat} (hC : 0 < C) (hv : Val C rm cm k v) (h : ∀ i, i < k → v i = w i) : Val C rm cm k w := by
  intro j hj
  rw [← tLo_congr hC (fun i hi => h i (by omega)), ← tHi_congr hC (fun i hi => h i (by omega)), ← h j hj]
  exact hv j hj
theorem Val.mono {C : Nat} {rm cm v : Nat → Nat} {k l : Nat} (hv : Val C rm cm k v) (h : l ≤ k) : Val C rm cm l v := fun j hj => hv j (by omega)
theorem val_col {C : Nat} {rm cm v : Nat → Nat} {k c : Nat} (hv : Val C rm cm k v) (hc : c < C) : ∀ r, (∀ i, i < r → C * i + c < k) → sumF (fun i => v (C * i + c)) r ≤ cm c
  | 0, _ => Nat.zero_le _
  | r + 1, h => by
    have ih := val_col hv hc r (fun i hi => h i (by omega))
    have h1 := (hv _ (h r (by omega))).2
    unfold tHi at h1
    rw [(dm hc).1, (dm hc).2] at h1
    unfold tLeft at h1
    show sumF (fun i => v (C * i + c)) r + v (C * r + c) ≤ cm c
    omega
theorem val_row {C : Nat} {rm cm v : Nat → Nat} {k r : Nat} (hv : Val C rm cm k v) : ∀ c, c ≤ C → (∀ j, j < c → C * r + j < k) → sumF (fun j => v (C * r + j)) c ≤ rm r
  | 0, _, _ => Nat.zero_le _
  | c + 1, hc, h => by
    have ih := val_row hv c (by omega) (fun i hi => h i (by omega))
    have h1 := (hv _ (h c (by omega))).2
    unfold tHi tRest at h1
    rw [(dm (show c < C by omega)).1, (dm (show c < C by omega)).2] at h1
    show sumF (fun j => v (C * r + j)) c + v (C * r + c) ≤ rm r
    omega
theorem val_full {C : Nat} {rm cm v : Nat → Nat} {k r : Nat} (hC : 0 < C) (hv : Val C rm cm k v) (h : C * (r + 1) ≤ k) : sumF (fun j => v (C * r + j)) C = rm r := by
  rw [Nat.mul_add, Nat.mul_one] at h
  obtain ⟨c, rfl⟩ : ∃ c, C = c + 1 := ⟨C - 1, by omega⟩
  have h0 := val_row hv (r := r) c (by omega) (fun j hj => by omega)
  have h1 := hv ((c + 1) * r + c) (by omega)
  unfold tLo tHi tRest tBeh at h1
  rw [(dm (show c < c + 1 by omega)).1, (dm (show c < c + 1 by omega)).2, Nat.sub_self] at h1
  have e : sumF (fun j => tLeft (c + 1) cm v r (c + 1 + j)) 0 = 0 := rfl
  rw [e] at h1
  show sumF (fun j => v ((c + 1) * r + j)) c + v ((c + 1) * r + c) = rm r
  omega
theorem val_cols {C : Nat} {rm cm v : Nat → Nat} {k : Nat} (hC : 0 < C) (hv : Val C rm cm k v) : ∀ r, C * r ≤ k → sumF (fun c => sumF (fun i => v (C * i + c)) r) C = sumF rm r
  | 0, _ => by
    show sumF (fun _ => 0) C = 0
    have := sumF_le (f := fun _ => 0) (b := 0) C (fun _ _ => Nat.le_refl _)
    omega
  | r + 1, h => by
    have h2 := h
    rw [Nat.mul_add, Nat.mul_one] at h2
    have e : sumF (fun c => sumF (fun i => v (C * i + c)) (r + 1)) C = sumF (fun c => sumF (fun i => v (C * i + c)) r + v (C * r + c)) C := rfl
    rw [e, sumF_add, val_cols hC hv r (by omega), val_full hC hv h]
    rfl
theorem left_sum {C : Nat} {rm cm v : Nat → Nat} {k r : Nat} (hC : 0 < C) (hv : Val C rm cm k v) (h : C * r ≤ k) : sumF (fun c => tLeft C cm v r c) C + sumF rm r = sumF cm C := by
  rw [← val_cols hC hv r h, ← sumF_add]
  refine sumF_congr C (fun c hc => ?_)
  have := val_col hv hc r (fun i hi => by have : C * (i + 1) ≤ C * r := Nat.mul_le_mul_left _ hi; rw [Nat.mul_add, Nat.mul_one] at this; omega)
  unfold tLeft
  omega
theorem beh_head {C : Nat} {cm v : Nat → Nat} {r c : Nat} (h : c + 1 < C) : tBeh C cm v r c = tLeft C cm v r (c + 1) + tBeh C cm v r (c + 1) := by
  unfold tBeh
  rw [show C - (c + 1) = (C - (c + 1 + 1)) + 1 by omega, sumF_head]
  congr 1
  exact sumF_congr _ (fun i _ => by congr 1; omega)
theorem feas {R C : Nat} {rm cm v : Nat → Nat} (hC : 0 < C) (hs : sumF rm R = sumF cm C) {r : Nat} (hr : r < R) : ∀ c, c < C → Val C rm cm (C * r + c) v → tRest C rm v (C * r + c) ≤ tLeft C cm v r c + tBeh C cm v r c
  | 0, h, hv => by
    unfold tRest
    rw [(dm h).1, (dm h).2]
    have h1 := left_sum hC hv (r := r) (by omega)
    have h2 : rm r ≤ sumF (fun i => rm (r + i)) (R - r) := by
      have := sumF_mem (f := fun i => rm (r + i)) (n := R - r) (i := 0) (by omega)
      exact this
    have h3 := sumF_split (f := rm) (a := r) (R - r)
    rw [show r + (R - r) = R by omega] at h3
    have h4 : sumF (fun c => tLeft C cm v r c) C = tLeft C cm v r 0 + tBeh C cm v r 0 := by
      obtain ⟨d, rfl⟩ : ∃ d, C = d + 1 := ⟨C - 1, by omega⟩
      rw [sumF_head]
      unfold tBeh
      rw [show d + 1 - (0 + 1) = d by omega]
      congr 1
      exact sumF_congr _ (fun i _ => by congr 1; omega)
    have h5 : sumF (fun j => v (C * r + j)) 0 = 0 := rfl
    omega
  | c + 1, h, hv => by
    have ih := feas hC hs hr c (by omega) (hv.mono (by omega))
    have h1 := (hv (C * r + c) (by omega)).1
    unfold tLo at h1
    rw [(dm (show c < C by omega)).1, (dm (show c < C by omega)).2, beh_head h] at h1
    unfold tRest at h1 ⊢
    rw [(dm h).1, (dm h).2]
    rw [(dm (show c < C by omega)).1, (dm (show c < C by omega)).2] at h1
    have e : sumF (fun j => v (C * r + j)) (c + 1) = sumF (fun j => v (C * r + j)) c + v (C * r + c) := rfl
    omega
theorem lo_hi {R C : Nat} {rm cm v : Nat → Nat} (hC : 0 < C) (hs : sumF rm R = sumF cm C) {k : Nat} (hk : k < C * R) (hv : Val C rm cm k v) : tLo C rm cm v k ≤ tHi C rm cm v k := by
  have hr : k / C < R := (Nat.div_lt_iff_lt_mul hC).mpr (by rw [Nat.mul_comm]; exact hk)
  have e := Nat.div_add_mod k C
  have h := feas (v := v) hC hs hr (k % C) (Nat.mod_lt _ hC) (by rw [e]; exact hv)
  rw [e] at h
  unfold tLo tHi
  omega
theorem val_next {C : Nat} {rm cm v w : Nat → Nat} {k : Nat} (hC : 0 < C) (hv : Val C rm cm k v) (hw : ∀ i, i < k → w i = v i) (h1 : tLo C rm cm v k ≤ w k) (h2 : w k ≤ tHi C rm cm v k) : Val C rm cm (k + 1) w := by
  intro j hj
  by_cases q : j = k
  · subst q
    rw [tLo_congr hC hw, tHi_congr hC hw]
    exact ⟨h1, h2⟩
  · exact (hv.congr hC (fun i hi => (hw i hi).symm)) j (by omega)
