theorem srt {s : Nat → Int32} {n : Nat} (h : ∀ p, p + 1 < n → s p ≤ s (p + 1)) : ∀ d i, i + d < n → (s i).toInt ≤ (s (i + d)).toInt
  | 0, i, _ => Int.le_refl _
  | d + 1, i, hd => by
    have h1 := srt h d i (by omega)
    have h2 := Int32.le_iff_toInt_le.mp (h (i + d) (by omega))
    rw [show i + (d + 1) = i + d + 1 by omega]
    omega
theorem gCnt_stop {p : Int32 → Bool} {f : Nat → Int32} {i : Nat} : ∀ n, i ≤ n → (∀ j, i ≤ j → j < n → p (f j) = false) → gCnt p f n = gCnt p f i
  | 0, h, _ => by rw [show i = 0 by omega]
  | n + 1, h, hz => by
    by_cases q : i = n + 1
    · rw [q]
    · rw [gCnt_f _ (hz n (by omega) (by omega)), gCnt_stop n (by omega) (fun j a b => hz j a (by omega))]; rfl
theorem gCnt_none {p : Int32 → Bool} {f : Nat → Int32} : ∀ n, gCnt p f n = 0 → ∀ j, j < n → p (f j) = false
  | 0, _, j, hj => absurd hj (Nat.not_lt_zero _)
  | n + 1, h, j, hj => by
    by_cases q : p (f n) = true
    · rw [gCnt_t _ q] at h; omega
    · have q1 : p (f n) = false := by simpa using q
      by_cases q2 : j = n
      · rw [q2]; exact q1
      · rw [gCnt_f _ q1] at h
        exact gCnt_none n (by omega) j (by omega)
theorem gCnt_zero {p : Int32 → Bool} {f : Nat → Int32} : ∀ n, (∀ j, j < n → p (f j) = false) → gCnt p f n = 0
  | 0, _ => rfl
  | n + 1, h => by rw [gCnt_f _ (h n (by omega)), gCnt_zero n (fun j hj => h j (by omega))]
theorem cD_zero {p : Int32 → Bool} {fA fB : Nat → Int32} {b : Nat} : ∀ a, (∀ i j, i < a → j < b → p (fA i - fB j) = false) → cD p fA fB b a = 0
  | 0, _ => rfl
  | a + 1, h => by
    show cD p fA fB b a + gCnt (fun z => p (fA a - z)) fB b = 0
    rw [cD_zero a (fun i j hi hj => h i j (by omega) hj), gCnt_zero (p := fun z => p (fA a - z)) (f := fB) b (fun j hj => h a j (by omega) hj)]
theorem cD_cg {p : Int32 → Bool} {fA fB gA gB : Nat → Int32} {b : Nat} : ∀ a, (∀ i, i < a → fA i = gA i) → (∀ j, j < b → fB j = gB j) → cD p fA fB b a = cD p gA gB b a
  | 0, _, _ => rfl
  | a + 1, h1, h2 => by
    show cD p fA fB b a + gCnt (fun z => p (fA a - z)) fB b = cD p gA gB b a + gCnt (fun z => p (gA a - z)) gB b
    rw [cD_cg a (fun i hi => h1 i (by omega)) h2, h1 a (by omega), gCnt_cg b h2]
theorem place_eq {s : Nat → Int32} {n P : Nat} {nd : Int → Nat} {r : Int32} (hs : ∀ p, p + 1 < n → s p ≤ s (p + 1)) (hnd : ∀ z, nd z = gCnt (fun d => decide (d.toInt ≤ z)) s n) (hlo : ∀ j, j < n → -2000 ≤ (s j).toInt) (hP : 0 < P) (hPn : P ≤ n) (h1 : P ≤ nd r.toInt) (h2 : ∀ y : Int, y < r.toInt → -2000 ≤ y → nd y < P) : r = s (P - 1) := by
  apply Int32.toInt_inj.mp
  rcases Int.lt_trichotomy r.toInt (s (P - 1)).toInt with q | q | q
  · have e : nd r.toInt ≤ P - 1 := by
      rw [hnd, gCnt_stop (i := P - 1) n (by omega) (fun j a b => decide_eq_false (by
        have := srt hs (j - (P - 1)) (P - 1) (by omega)
        rw [show P - 1 + (j - (P - 1)) = j by omega] at this
        omega))]
      exact gCnt_le _
    omega
  · exact q
  · have e : P ≤ nd (s (P - 1)).toInt := by
      rw [hnd]
      have h3 := gCnt_true (f := s) (p := fun d => decide (d.toInt ≤ (s (P - 1)).toInt)) P (fun i hi => decide_eq_true (by
        have := srt hs (P - 1 - i) i (by omega)
        rw [show i + (P - 1 - i) = P - 1 by omega] at this
        exact this))
      have h4 := gCnt_mono (f := s) (p := fun d => decide (d.toInt ≤ (s (P - 1)).toInt)) (i := P) (n - P)
      rw [h3, show P + (n - P) = n by omega] at h4
      exact h4
    have := h2 _ q (hlo (P - 1) (by omega))
    omega
theorem fcS_le2 {tm mid st bs : Int} {gb : Nat → Nat} {S t : Nat} : fcS tm mid st bs gb S t ≤ sumF gb S := by
  unfold fcS
  split
  · exact fc_le S (fun k => by unfold fcF; split <;> omega)
  · split
    · exact fc_le S (fun k => by unfold fcL; split <;> omega)
    · split
      · exact fc_le S (fun k => by unfold fcH; split <;> omega)
      · exact fc_le S (fun k => by unfold fcJ; split <;> omega)
theorem fcS_cg {tm mid st bs : Int} {gb gc : Nat → Nat} {S t : Nat} (h : ∀ k, k < S → gb k = gc k) : fcS tm mid st bs gb S t = fcS tm mid st bs gc S t := by
  unfold fcS
  rw [sumF_congr (f := fcF tm mid st bs gb) S (g := fcF tm mid st bs gc) (fun k hk => by unfold fcF; rw [h k hk]), sumF_congr (f := fcL st bs gb) S (g := fcL st bs gc) (fun k hk => by unfold fcL; rw [h k hk]), sumF_congr (f := fcH st bs gb) S (g := fcH st bs gc) (fun k hk => by unfold fcH; rw [h k hk]), sumF_congr (f := fcJ st bs gb) S (g := fcJ st bs gc) (fun k hk => by unfold fcJ; rw [h k hk])]
theorem fr_ok {x A : Nat} (hx : x ≤ A) (hA : 0 < A) (hb : A < 2 ^ 180) : 0 < A / Nat.gcd x A ∧ x / Nat.gcd x A ≤ A / Nat.gcd x A ∧ x / Nat.gcd x A < 2 ^ 180 ∧ A / Nat.gcd x A < 2 ^ 180 := by
  have hg : 0 < Nat.gcd x A := Nat.gcd_pos_of_pos_right x hA
  have h1 : 0 < A / Nat.gcd x A := Nat.div_pos (Nat.le_of_dvd hA (Nat.gcd_dvd_right x A)) hg
  have h2 : x / Nat.gcd x A ≤ A / Nat.gcd x A := Nat.div_le_div_right hx
  have h3 : A / Nat.gcd x A ≤ A := Nat.div_le_self _ _
  exact ⟨h1, h2, by omega, by omega⟩
theorem dS_le {a : Nat → Nat} {m : Nat} : dS a m ≤ 2 ^ m := by
  rw [← cnt_sum (a := a) m (sumF a m + 1) (by omega)]
  unfold dS
  exact sumF_mono _ (fun x _ => by split <;> omega)
theorem dS2 {a : Nat → Nat} {m : Nat} (h : m ≤ 14) : 2 * dS a m ≤ 32768 := by
  have h1 := dS_le (a := a) (m := m)
  have h2 : 2 ^ m ≤ 16384 := Nat.pow_le_pow_right (show 0 < 2 by decide) h
  omega
theorem tk1_ok {a : Nat → Nat} {m N : Nat} (hm : m < 30) (h : okL N) : okL (tk1 a m N) := by
  unfold tk1
  split
  · exact okL_up h (dS2 (by omega))
  · exact h
theorem tk2_ok {a : Nat → Nat} {m N : Nat} (hm : m < 30) (h : okL N) : okL (tk2 a m N) := by
  unfold tk2
  split
  · exact h
  · exact okL_up h (dS2 (by omega))
theorem tkN1_ok {a : Nat → Nat} {m0 N : Nat} (h : okL N) : ∀ i, m0 + i ≤ 30 → okL (tkN1 a m0 N i)
  | 0, _ => h
  | i + 1, hi => tk1_ok (by omega) (tkN1_ok h i (by omega))
theorem tkN2_ok {a : Nat → Nat} {m0 N : Nat} (h : okL N) : ∀ i, m0 + i ≤ 30 → okL (tkN2 a m0 N i)
  | 0, _ => h
  | i + 1, hi => tk2_ok (by omega) (tkN2_ok h i (by omega))
theorem two_mul32 (x : Int32) : 2 * x = x + x := by
  rw [show (2 : Int32) = 1 + 1 by decide, Int32.add_mul, Int32.one_mul]
set_option maxHeartbeats 4000000 in
theorem T_shift (B : gB) : StI B (J B) yX11_shift cX11_shift 2 yX12_shift cX12_shift 6 [] := by
  intro ad ct ad2 ct2 S hJ
  have hJ0 := hJ
  have hbd := hJ0.bd
  obtain ⟨f, NL, N1, N2, hx, h0, hS, hNL, hG, hSm, hD, hK, hW, hC, hR, hE, hN, hX⟩ := hJ
  have hSz := hSm
  obtain ⟨kA, kB, fA, fB, fs, km, a1, a2, a3, a4, a5, a6, hAk, hBk, hkA, hkB, hfA, hfB, hsb⟩ := hSz
  obtain ⟨sh0, hsh0⟩ := hX.2.2.2.2.2.2
  refine ⟨4, 90, 0, 0, _, _, by decide, by decide, by decide, hbd, hx, c_X11_shift B ad ct 178 (Nat.le_refl _) hx kA fA a1 a2 hAk kB fB a3 a4 hBk (fun j hj => by rw [hfA j hj]; exact hsb j (by omega)) (fun j hj => by rw [hfB j hj]; exact hsb _ (by omega)), ?_⟩
  intro v ad' ct' n' hp
  obtain ⟨ea, rfl, r, rfl, rfl, hr⟩ := hp
  obtain rfl := ea.symm
  refine ⟨rfl, rfl, r, rfl, 0, 0, _, _, by decide, by decide, h0, c_X12_shift B ad2 ct2 33 f fs sh0 km (Nat.le_refl _) h0 a5 a6 hsh0 (fun w hw => by rcases (show w = 0 ∨ w = 1 by omega) with rfl | rfl; (rw [hkA]; exact hAk); (rw [hkB]; exact hBk)), ?_⟩
  intro v2 ad2' ct2' n2' hq
  obtain ⟨rfl, rfl, q, rfl, hq⟩ := hq
  rw [hkA, hkB] at hq
  rcases hr with ⟨h1, rfl⟩ | ⟨h1, r1, r2, rfl, ⟨-, -, p1, p2⟩, -, -, p3, p4⟩
  · have h2 : kA = 0 ∨ kB = 0 := by rcases Nat.mul_eq_zero.mp h1 with h | h; (exact Or.inl h); (exact Or.inr h)
    rcases hq with ⟨-, rfl, rfl⟩ | ⟨h3, h4, -⟩
    · exact ⟨rfl, rfl, rfl, hJ0⟩
    · omega
  · have hA0 : 0 < kA := Nat.pos_of_ne_zero (fun e => by rw [e, Nat.zero_mul] at h1; omega)
    have hB0 : 0 < kB := Nat.pos_of_ne_zero (fun e => by rw [e, Nat.mul_zero] at h1; omega)
    rcases hq with ⟨h3, -⟩ | ⟨-, -, s, hs, hcn_, hq, e32, hr_⟩
    · omega
    · have hnd : ∀ z, nD fA fB kB kA z = gCnt (fun d => decide (d.toInt ≤ z)) s (kA * kB) := fun z => by rw [hcn_]; exact cD_cg kA hfA hfB
      have hdf : ∀ i j, i < kA → j < kB → (fs i - fs (15 + j)).toInt = (fs i).toInt - (fs (15 + j)).toInt := fun i j hi hj => sub_toInt rfl rfl (by have := hsb i (by omega); have := hsb (15 + j) (by omega); omega)
      have hlo : ∀ j, j < kA * kB → -2000 ≤ (s j).toInt := fun j hj => by
        have z := hcn_ (fun d => decide (d.toInt < -2000))
        rw [cD_zero kA (fun i j hi hj => decide_eq_false (by rw [hdf i j hi hj]; have := hsb i (by omega); have := hsb (15 + j) (by omega); omega))] at z
        have := of_decide_eq_false (gCnt_none _ z j hj)
        omega
      have e1 := place_eq hs hnd hlo (P := (kA * kB + 1) / 2) (by omega) (by omega) p1 p2
      have e2 := place_eq hs hnd hlo (P := kA * kB / 2 + 1) (by omega) (by omega) p3 p4
      refine ⟨rfl, rfl, ?_, ⟨f, NL, N1, N2, hx, (hr_ 0 (by decide)).trans h0, hS, hNL, (by rw [hr_ 5 (by decide)]; exact hG), (by rw [hr_ 6 (by decide), hr_ 7 (by decide)]; exact hSm), (by rw [hr_ 8 (by decide)]; exact hD), (by rw [hr_ 31 (by decide)]; exact hK), hW, (by rw [hr_ 16 (by decide), hr_ 17 (by decide)]; exact hC), hR.move (fun _ _ => rfl) (fun r h1 h2 => rfl) (hr_ 9 (by decide)) (hr_ 10 (by decide)) (hr_ 11 (by decide)), hE, hN.move (fun _ _ => rfl) (fun r h1 h2 => rfl) (hr_ 26 (by decide)) (hr_ 27 (by decide)) (by obtain ⟨_, _, _, _, _, _, ro, _, _, _, _, _, _, _, _, hro, _⟩ := hN; exact ⟨ro, (hr_ 28 (by decide)).trans hro⟩), hX.upd (fun r hr => Or.inl (hr_ r (by omega))) (fun r hr => Or.inl (hr_ r (by omega))) (fun r hr => Or.inl (hr_ r (by omega))) (fun r hr => Or.inl (hr_ r (by omega))) (Or.inl (hr_ 24 (by decide))) (fun r hr => Or.inl (hr_ r (by omega))) (Or.inr ⟨_, e32⟩)⟩⟩
      rw [hq, e1, e2, Nat.add_sub_cancel]
      by_cases hod : kA * kB % 2 = 1
      · rw [if_pos hod, show (kA * kB + 1) / 2 - 1 = kA * kB / 2 by omega]
        have e5 : ∀ x : Int32, nI 2 * x = x + x := fun x => by rw [show (nI 2 : Int32) = 2 by decide]; exact two_mul32 x
        rw [e5]
      · rw [if_neg hod, show (kA * kB + 1) / 2 - 1 = kA * kB / 2 - 1 by omega]
