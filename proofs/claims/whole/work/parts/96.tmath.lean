/-! tables: the two ways of weighing -/
theorem chain {C : Nat} {cm v : Nat → Nat} {R : Nat} (hC : 0 < C) (hfit : ∀ r c, r < R → c < C → v (C * r + c) ≤ tLeft C cm v r c) : ∀ k, k ≤ C * R → ∃ p cl, CL C cm v (k / C) (k % C) cl ∧ p * (facP v k * facP cl C) = facP cm C
  | 0, _ => ⟨1, cm, fun j hj => by rw [Nat.zero_mod, Nat.zero_div, if_neg (by omega)]; rfl, by show 1 * (1 * facP cm C) = facP cm C; rw [Nat.one_mul, Nat.one_mul]⟩
  | k + 1, hk => by
    obtain ⟨p, cl, h1, h2⟩ := chain hC hfit k (by omega)
    have hc : k % C < C := Nat.mod_lt _ hC
    have hr : k / C < R := (Nat.div_lt_iff_lt_mul hC).mpr (by rw [Nat.mul_comm]; omega)
    have ek : k = C * (k / C) + k % C := (Nat.div_add_mod k C).symm
    have hca := h1.at hc
    have hf := hfit (k / C) (k % C) hr hc
    rw [← hca, ← ek] at hf
    have h3 := wt_step (k := k) hc hf h2
    rw [up_same] at h3
    have h4 := h1.next (n := v k) hc
    rw [← ek, up_same] at h4
    refine ⟨_, _, ?_, h3⟩
    by_cases q : k % C + 1 = C
    · have e1 : k + 1 = C * (k / C + 1) + 0 := by rw [Nat.mul_succ]; omega
      have d := dm (C := C) (r := k / C + 1) (c := 0) hC
      rw [← e1] at d
      rw [d.1, d.2]
      rw [q] at h4
      exact h4.row
    · have e1 : k + 1 = C * (k / C) + (k % C + 1) := by omega
      have d := dm (C := C) (r := k / C) (c := k % C + 1) (by omega)
      rw [← e1] at d
      rw [d.1, d.2]
      exact h4
theorem tab_dvd {C : Nat} {cm v : Nat → Nat} {R : Nat} (hC : 0 < C) (hfit : ∀ r c, r < R → c < C → v (C * r + c) ≤ tLeft C cm v r c) : facP v (C * R) ∣ facP cm C := by
  obtain ⟨p, cl, -, h⟩ := chain hC hfit (C * R) (Nat.le_refl _)
  exact ⟨p * facP cl C, by rw [← h]; grind⟩
theorem val_fit {C : Nat} {rm cm v : Nat → Nat} {R : Nat} (hC : 0 < C) (hv : Val C rm cm (C * R) v) : ∀ r c, r < R → c < C → v (C * r + c) ≤ tLeft C cm v r c := fun r c hr hc => by
  have h5 : C * (r + 1) ≤ C * R := Nat.mul_le_mul_left _ hr
  rw [Nat.mul_succ] at h5
  have h := (hv (C * r + c) (by omega)).2
  unfold tHi at h
  rw [(dm hc).1, (dm hc).2] at h
  omega
theorem wq {F N C : Nat} {cm t : Nat → Nat} (h : facP t N ∣ facP cm C) : F * facP cm C / facP t N = F * Wc cm C N t := Nat.mul_div_assoc F h
theorem cmp_mul {a x y : Nat} (ha : 0 < a) : cmpI (a * x) (a * y) = cmpI x y := by
  rcases Nat.lt_trichotomy x y with q | q | q
  · rw [cmp_lt q, cmp_lt (Nat.mul_lt_mul_of_pos_left q ha)]
  · rw [cmp_eq q, cmp_eq (by rw [q])]
  · rw [cmp_gt q, cmp_gt (Nat.mul_lt_mul_of_pos_left q ha)]
theorem own_fit {gc : Nat → Nat} {R C r c : Nat} (hr : r < R) (hc : c < C) : gc (C * r + c) ≤ tLeft C (fun c => sumF (fun k => gc (C * k + c)) R) gc r c := by
  show gc (C * r + c) ≤ sumF (fun k => gc (C * k + c)) R - sumF (fun i => gc (C * i + c)) r
  have h := sumF_le2 (f := fun k => gc (C * k + c)) (a := r + 1) (b := R) (by omega)
  have h0 : sumF (fun k => gc (C * k + c)) (r + 1) = sumF (fun k => gc (C * k + c)) r + gc (C * r + c) := rfl
  omega
theorem val_own {gc : Nat → Nat} {R C : Nat} (hC : 0 < C) : Val C (fun r => sumF (fun k => gc (C * r + k)) C) (fun c => sumF (fun k => gc (C * k + c)) R) (C * R) gc := fun k hk => by
  have hc : k % C < C := Nat.mod_lt _ hC
  have hr : k / C < R := (Nat.div_lt_iff_lt_mul hC).mpr (by rw [Nat.mul_comm]; omega)
  have ek : k = C * (k / C) + k % C := (Nat.div_add_mod k C).symm
  have h1 := own_fit (gc := gc) (R := R) hr hc
  rw [← ek] at h1
  have h2 := sumF_split (f := fun j => gc (C * (k / C) + j)) (a := k % C) (C - k % C)
  rw [show k % C + (C - k % C) = C by omega] at h2
  obtain ⟨d, hd⟩ : ∃ d, C - k % C = d + 1 := ⟨C - k % C - 1, by omega⟩
  rw [hd, sumF_head, Nat.add_zero, ← ek] at h2
  have h3 : sumF (fun i => gc (C * (k / C) + (k % C + (i + 1)))) d ≤ tBeh C (fun c => sumF (fun k => gc (C * k + c)) R) gc (k / C) (k % C) := by
    unfold tBeh
    rw [show C - (k % C + 1) = d by omega]
    refine sumF_mono d (fun i hi => ?_)
    rw [show k % C + (i + 1) = k % C + 1 + i by omega]
    exact own_fit hr (by omega)
  show (sumF (fun j => gc (C * (k / C) + j)) C - sumF (fun j => gc (C * (k / C) + j)) (k % C)) - tBeh C (fun c => sumF (fun k => gc (C * k + c)) R) gc (k / C) (k % C) ≤ gc k ∧ gc k ≤ min (sumF (fun j => gc (C * (k / C) + j)) C - sumF (fun j => gc (C * (k / C) + j)) (k % C)) (tLeft C (fun c => sumF (fun k => gc (C * k + c)) R) gc (k / C) (k % C))
  omega
theorem aP_pow {rs : Nat → Nat} {T R : Nat} : ∀ m, m ≤ R → sumF rs m ≤ T → aP rs T m * (R - m) ^ (T - sumF rs m) ≤ R ^ T
  | 0, _, _ => by show 1 * (R - 0) ^ (T - 0) ≤ R ^ T; rw [Nat.one_mul, Nat.sub_zero, Nat.sub_zero]; exact Nat.le_refl _
  | m + 1, hm, hs => by
    have h0 : sumF rs (m + 1) = sumF rs m + rs m := rfl
    have ih := aP_pow (rs := rs) (T := T) (R := R) m (by omega) (by omega)
    have h1 := ch_pow (x := R - (m + 1)) (T - sumF rs m) (rs m) (by omega)
    rw [show R - (m + 1) + 1 = R - m by omega] at h1
    show aP rs T m * ch (T - sumF rs m) (rs m) * (R - (m + 1)) ^ (T - sumF rs (m + 1)) ≤ R ^ T
    rw [h0, show T - (sumF rs m + rs m) = T - sumF rs m - rs m by omega, Nat.mul_assoc]
    exact Nat.le_trans (Nat.mul_le_mul_left _ h1) ih
theorem aP_180 {rs : Nat → Nat} {T R : Nat} (hR : R ≤ 5) (hT : T ≤ 60) (h : sumF rs R = T) : aP rs T R < 2 ^ 180 := by
  have h1 := aP_pow (rs := rs) (T := T) (R := R) R (Nat.le_refl _) (by omega)
  rw [h, Nat.sub_self, Nat.sub_self, Nat.pow_zero, Nat.mul_one] at h1
  have h2 : R ^ T ≤ 5 ^ T := Nat.pow_le_pow_left hR T
  have h3 : 5 ^ T ≤ 5 ^ 60 := Nat.pow_le_pow_right (by decide) hT
  exact Nat.lt_of_le_of_lt (Nat.le_trans h1 (Nat.le_trans h2 h3)) (by decide +kernel)
theorem red {F x A : Nat} (hF : 0 < F) : F * x / Nat.gcd (F * x) (F * A) = x / Nat.gcd x A ∧ F * A / Nat.gcd (F * x) (F * A) = A / Nat.gcd x A := by
  rw [Nat.gcd_mul_left]
  exact ⟨Nat.mul_div_mul_left _ _ hF, Nat.mul_div_mul_left _ _ hF⟩
theorem ts_0 {F N C : Nat} {cm gc : Nat → Nat} {cs vs : Nat → Nat → Nat} {n SN : Nat} (hF : 0 < F) (hd : ∀ j, j < n → facP (cs j) N ∣ facP cm C) (hg : facP gc N ∣ facP cm C) (hv : ∀ j, j < n → Wc cm C N (vs j) = Wc cm C N (cs j)) (hS : SN = Wc cm C N gc) : tSum (F * facP cm C) N gc cs n 0 = F * sFar cm C N SN vs n := by
  unfold tSum sFar
  rw [if_pos rfl, ← sumF_mul]
  refine sumF_congr n (fun j hj => ?_)
  rw [wq (hd j hj), wq hg, hv j hj, hS]
  by_cases q : Wc cm C N (cs j) ≤ Wc cm C N gc
  · rw [if_pos (Nat.mul_le_mul_left _ q), if_pos q]
  · rw [if_neg (fun w => q (Nat.le_of_mul_le_mul_left w hF)), if_neg q, Nat.mul_zero]
theorem ts_1 {F N C : Nat} {cm gc : Nat → Nat} {cs vs : Nat → Nat → Nat} {n : Nat} (hd : ∀ j, j < n → facP (cs j) N ∣ facP cm C) (hv : ∀ j, j < n → Wc cm C N (vs j) = Wc cm C N (cs j)) (h0 : ∀ j, j < n → vs j 0 = cs j 0) : tSum (F * facP cm C) N gc cs n 1 = F * sLow cm C N (gc 0) vs n := by
  unfold tSum sLow
  rw [if_neg (by decide), if_pos rfl, ← sumF_mul]
  refine sumF_congr n (fun j hj => ?_)
  rw [wq (hd j hj), hv j hj, h0 j hj]
  by_cases q : cs j 0 ≤ gc 0
  · rw [if_pos q, if_pos q]
  · rw [if_neg q, if_neg q, Nat.mul_zero]
theorem ts_2 {F N C : Nat} {cm gc : Nat → Nat} {cs vs : Nat → Nat → Nat} {n : Nat} (hd : ∀ j, j < n → facP (cs j) N ∣ facP cm C) (hv : ∀ j, j < n → Wc cm C N (vs j) = Wc cm C N (cs j)) (h0 : ∀ j, j < n → vs j 0 = cs j 0) : tSum (F * facP cm C) N gc cs n 2 = F * sHigh cm C N (gc 0) vs n := by
  unfold tSum sHigh
  rw [if_neg (by decide), if_neg (by decide), if_pos rfl, ← sumF_mul]
  refine sumF_congr n (fun j hj => ?_)
  rw [wq (hd j hj), hv j hj, h0 j hj]
  by_cases q : gc 0 ≤ cs j 0
  · rw [if_pos q, if_pos q]
  · rw [if_neg q, if_neg q, Nat.mul_zero]
theorem ts_3 {F N C : Nat} {cm gc : Nat → Nat} {cs : Nat → Nat → Nat} {n : Nat} (hg : facP gc N ∣ facP cm C) : tSum (F * facP cm C) N gc cs n 3 = F * Wc cm C N gc := by
  unfold tSum
  rw [if_neg (by decide), if_neg (by decide), if_neg (by decide), wq hg]
theorem far_le {cm : Nat → Nat} {C N SN n : Nat} {vs : Nat → Nat → Nat} : sFar cm C N SN vs n ≤ sTot cm C N vs n := sumF_mono n (fun j _ => by split; (exact Nat.le_refl _); (exact Nat.zero_le _))
theorem low_le {cm : Nat → Nat} {C N g n : Nat} {vs : Nat → Nat → Nat} : sLow cm C N g vs n ≤ sTot cm C N vs n := sumF_mono n (fun j _ => by split; (exact Nat.le_refl _); (exact Nat.zero_le _))
theorem high_le {cm : Nat → Nat} {C N g n : Nat} {vs : Nat → Nat → Nat} : sHigh cm C N g vs n ≤ sTot cm C N vs n := sumF_mono n (fun j _ => by split; (exact Nat.le_refl _); (exact Nat.zero_le _))
theorem Wc_cm {cm cm2 t : Nat → Nat} {C N : Nat} (h : ∀ c, c < C → cm c = cm2 c) : Wc cm C N t = Wc cm2 C N t := by unfold Wc; rw [facP_congr C h]
theorem J.norm {B : gB} {ad : Nat → Nat} {ct : Nat → va_E} {ad2 : Nat → Nat} {ct2 : Nat → va_E} {S : Nat} (hJ : J B ad ct ad2 ct2 S) : ∃ f16, ct 16 = iQ B 3 26 f16 ∧ (∀ j, j < 26 → f16 j = some (ad (27 + 2 * j))) ∧ J B ad (va_up ct 16 (iQ B 3 26 (fun i => some (ad (27 + 2 * i))))) ad2 ct2 S := by
  obtain ⟨f, NL, N1, N2, hx, h0, hS, hNL, hG, hSm, hD, hK, hW, hC, hR, hE, hN, hX⟩ := hJ
  have hc : ∀ r, r ≠ 16 → va_up ct 16 (iQ B 3 26 (fun i => some (ad (27 + 2 * i)))) r = ct r := fun r h => va_up_ne _ _ h
  obtain ⟨rs0, cl0, v0, gt, R0, C0, co0, F, cz, f16, w1, w2, w3, w4, w5, w6, w7, w8, w9⟩ := hW
  exact ⟨f16, w7, w8, ⟨f, NL, N1, N2, (hc 0 (by decide)).trans hx, h0, hS, hNL, (by rw [hc 1 (by decide), hc 2 (by decide)]; exact hG), (by rw [hc 3 (by decide), hc 4 (by decide), hc 5 (by decide), hc 6 (by decide)]; exact hSm), (by rw [hc 7 (by decide), hc 8 (by decide)]; exact hD), (by rw [hc 9 (by decide), hc 10 (by decide)]; exact hK), ⟨rs0, cl0, v0, gt, R0, C0, co0, F, cz, _, (hc 11 (by decide)).trans w1, (hc 12 (by decide)).trans w2, w3, (hc 13 (by decide)).trans w4, (hc 14 (by decide)).trans w5, (hc 15 (by decide)).trans w6, va_up_self _ _ _, fun j hj => rfl, fun i hi => by obtain ⟨x, h⟩ := w9 i hi; exact ⟨x, h.frame (hc _ (by omega)) (hc _ (by omega))⟩⟩, (by rw [hc 79 (by decide), hc 80 (by decide)]; exact hC), hR.move (fun _ _ => rfl) (fun r h1 h2 => hc r (by omega)) (rfl) (rfl) (rfl), hE.move (fun _ _ _ => rfl) (fun r h1 h2 => hc r (by omega)), hN.move (fun _ _ => rfl) (fun r h1 h2 => hc r (by omega)) (rfl) (rfl) (by obtain ⟨_, _, _, _, _, _, ro, _, _, _, _, _, _, _, _, hro, _⟩ := hN; exact ⟨ro, (rfl).trans hro⟩), hX⟩⟩
