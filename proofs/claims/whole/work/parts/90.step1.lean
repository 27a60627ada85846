theorem gsum {gk gc : Nat → Nat} {R C T : Nat} (hR : R ≤ 5) (hC : C ≤ 5) (h1 : ∀ i j, i < R → j < C → gk (5 * i + j) = gc (C * i + j)) (h2 : ∀ i j, i < 5 → j < 5 → (R ≤ i ∨ C ≤ j) → gk (5 * i + j) = 0) (h3 : sumF (fun r => sumF (fun k => gc (C * r + k)) C) R = T) : sumF gk 25 = T := by
  have e := sum_blocks (f := gk) (c := 5) 5
  rw [show 25 = 5 * 5 by decide, e, ← h3]
  have s1 := sumF_stop (f := fun q => sumF (fun y => gk (q * 5 + y)) 5) (i := R) 5 hR (fun q a b => sumF_zero 5 (fun y hy => by rw [Nat.mul_comm]; exact h2 q y b hy (Or.inl a)))
  rw [s1]
  refine sumF_congr R (fun q hq => ?_)
  have s2 := sumF_stop (f := fun y => gk (q * 5 + y)) (i := C) 5 hC (fun y a b => by rw [Nat.mul_comm]; exact h2 q y (by omega) b (Or.inr a))
  rw [s2]
  exact sumF_congr C (fun y hy => by rw [Nat.mul_comm q 5]; exact h1 q y hq hy)
theorem gk_le {gk gc : Nat → Nat} {R C : Nat} (h1 : ∀ i j, i < R → j < C → gk (5 * i + j) = gc (C * i + j)) (h2 : ∀ i j, i < 5 → j < 5 → (R ≤ i ∨ C ≤ j) → gk (5 * i + j) = 0) (hC : C ≤ 5) (hR : R ≤ 5) (h3 : ∀ j, j < 25 → gc j ≤ 60) : ∀ j, j < 25 → gk j ≤ 60 := fun j hj => by
  have e : j = 5 * (j / 5) + j % 5 := by omega
  rw [e]
  by_cases q : j / 5 < R ∧ j % 5 < C
  · rw [h1 _ _ q.1 q.2]
    refine h3 _ ?_
    have : C * (j / 5) ≤ C * 4 := Nat.mul_le_mul_left _ (by omega)
    have h5 : C * (j / 5 + 1) ≤ C * R := Nat.mul_le_mul_left _ q.1
    have h6 : C * R ≤ 25 := Nat.mul_le_mul hC hR
    rw [Nat.mul_succ] at h5
    omega
  · rw [h2 _ _ (by omega) (by omega) (by omega)]; exact Nat.zero_le _
theorem about_cg {R C T : Nat} {a b : Nat → Nat → Nat} {x y z : Int} (h : ∀ i j, i < R → j < C → a i j = b i j) : aboutS R C a T x y z = aboutS R C b T x y z := by
  unfold aboutS
  by_cases q1 : ¬ (0 ≤ z ∧ z ≤ 3)
  · rw [if_pos q1, if_pos q1]
  · rw [if_neg q1, if_neg q1]
    by_cases q2 : (z < 2 ∧ ¬ (0 ≤ x ∧ x ≤ (R : Int) - 1)) ∨ ((z = 0 ∨ z = 2) ∧ ¬ (0 ≤ y ∧ y ≤ (C : Int) - 1))
    · rw [if_pos q2, if_pos q2]
    · rw [if_neg q2, if_neg q2]
      by_cases q3 : z = 0
      · rw [if_pos q3, if_pos q3, h x.toNat y.toNat (by omega) (by omega)]
      · rw [if_neg q3, if_neg q3]
        by_cases q4 : z = 1
        · rw [if_pos q4, if_pos q4, sumF_congr C (fun k hk => h x.toNat k (by omega) hk)]
        · rw [if_neg q4, if_neg q4]
          by_cases q5 : z = 2
          · rw [if_pos q5, if_pos q5, sumF_congr R (fun k hk => h k y.toNat hk (by omega))]
          · rw [if_neg q5, if_neg q5]
theorem cell_le {gc : Nat → Nat} {R C i j : Nat} (hi : i < R) (hj : j < C) : gc (C * i + j) ≤ sumF (fun r => sumF (fun k => gc (C * r + k)) C) R :=
  Nat.le_trans (sumF_mem (f := fun k => gc (C * i + k)) hj) (sumF_mem (f := fun r => sumF (fun k => gc (C * r + k)) C) hi)
theorem sumF_up {f : Nat → Nat} {c x : Nat} : ∀ n, c < n → sumF (va_up f c x) n + f c = sumF f n + x
  | 0, h => absurd h (Nat.not_lt_zero _)
  | n + 1, h => by
    show sumF (va_up f c x) n + va_up f c x n + f c = sumF f n + f n + x
    by_cases q : c = n
    · subst q
      rw [va_up_self, sumF_congr (g := f) c (fun i hi => va_up_ne _ _ (by omega))]
      omega
    · rw [va_up_ne _ _ (show n ≠ c by omega)]
      have := sumF_up (f := f) (c := c) (x := x) n (by omega)
      omega
theorem grid_up {gc : Nat → Nat} {R C i j v : Nat} (hi : i < R) (hj : j < C) : sumF (fun r => sumF (fun k => va_up gc (C * i + j) v (C * r + k)) C) R + gc (C * i + j) = sumF (fun r => sumF (fun k => gc (C * r + k)) C) R + v := by
  have e : ∀ r, r < R → sumF (fun k => va_up gc (C * i + j) v (C * r + k)) C = va_up (fun r => sumF (fun k => gc (C * r + k)) C) i (sumF (va_up (fun k => gc (C * i + k)) j v) C) r := fun r hr => by
    by_cases q : r = i
    · rw [q, va_up_self]
      refine sumF_congr C (fun k hk => ?_)
      by_cases q2 : k = j
      · rw [q2, va_up_self, va_up_self]
      · rw [va_up_ne _ _ q2, va_up_ne _ _ (by omega)]
    · rw [va_up_ne _ _ q]
      refine sumF_congr C (fun k hk => va_up_ne _ _ (fun e => ?_))
      have := congrArg (· / C) e
      simp only [(dm hk).1, (dm hj).1] at this
      exact q this
  rw [sumF_congr R e]
  have h1 := sumF_up (f := fun r => sumF (fun k => gc (C * r + k)) C) (c := i) (x := sumF (va_up (fun k => gc (C * i + k)) j v) C) R hi
  have h2 := sumF_up (f := fun k => gc (C * i + k)) (c := j) (x := v) C hj
  omega
set_option maxHeartbeats 4000000 in
theorem T_about (B : gB) (x y z : Int32) : StI B (J B) yX11_about cX11_about 6 yX12_about cX12_about 4 [.int x, .int y, .int z] := by
  intro ad ct ad2 ct2 S hJ
  have hJ0 := hJ
  have hbd := hJ0.bd
  obtain ⟨f, NL, N1, N2, hx, h0, hS, hNL, hG, hSm, hD, hK, hW, hC, hR, hE, hN, hX⟩ := hJ
  obtain ⟨gk, gc, R, C, T, g1, g2, g3, g4, g5, g6, hRp, hR5, hCp, hC5, hT60, hgg, hgb, hgz, hgT⟩ := hG
  have hgs := gsum hR5 hC5 hgg hgz hgT
  have hkl := gk_le hgg hgz hC5 hR5 hgb
  refine ⟨3, 66, 0, 0, _, _, by decide, by decide, by decide, hbd, hx, c_X11_about B ad ct 178 (Nat.le_refl _) hx gk R C g1 g2 hR5 hC5 hkl x y z, ?_⟩
  intro v ad' ct' n' hp
  obtain ⟨ea, rfl, r, rfl, rfl, hr⟩ := hp
  obtain rfl := ea.symm
  refine ⟨rfl, rfl, r, rfl, 1, 25, _, _, by decide, by decide, h0, c_X12_about B ad2 ct2 33 f gc (Nat.le_refl _) h0 g3 R C g4 g5 hR5 hC5 hgb T g6 x y z, ?_⟩
  intro v2 ad2' ct2' n2' hq
  obtain ⟨rfl, rfl, q, rfl, rfl, hq⟩ := hq
  refine ⟨rfl, rfl, ?_, hJ0⟩
  rw [hq, hr, hgs, about_cg hgg]
set_option maxHeartbeats 4000000 in
theorem T_table (B : gB) (x y : Int32) : StI B (J B) yX11_table cX11_table 3 yX12_table cX12_table 4 [.int x, .int y] := by
  intro ad ct ad2 ct2 S hJ
  have hJ0 := hJ
  have hbd := hJ0.bd
  obtain ⟨f, NL, N1, N2, hx, h0, hS, hNL, hG, hSm, hD, hK, hW, hC, hR, hE, hN, hX⟩ := hJ
  have hG0 := hG
  obtain ⟨gk, gc, R, C, T, g1, g2, g3, g4, g5, g6, hRp, hR5, hCp, hC5, hT60, hgg, hgb, hgz, hgT⟩ := hG
  refine ⟨1, 23, 0, 0, _, _, by decide, by decide, by decide, hbd, hx, c_X11_table B ad ct 178 (Nat.le_refl _) hx gk R C g1 g2 hR5 hC5 x y, ?_⟩
  intro v ad' ct' n' hp
  obtain ⟨ea, rfl, r, rfl, hr⟩ := hp
  obtain rfl := ea.symm
  refine ⟨rfl, rfl, r, rfl, 1, 25, _, _, by decide, by decide, h0, c_X12_table B ad2 ct2 33 f gc (Nat.le_refl _) h0 g3 x y, ?_⟩
  intro v2 ad2' ct2' n2' hq
  obtain ⟨rfl, rfl, q, rfl, hq⟩ := hq
  rcases hr with ⟨hno, rfl, rfl⟩ | ⟨hin, rfl, ⟨i, j, rfl, rfl, hi1, hi5, hj1, hj5, e1⟩, ⟨g4_, e2, hz⟩, hc⟩
  · rw [if_neg hno] at hq
    obtain ⟨rfl, rfl⟩ := hq
    exact ⟨rfl, rfl, rfl, hJ0⟩
  · rw [if_pos hin] at hq
    obtain ⟨rfl, e0, ⟨g5_, e5, hz2⟩, hr⟩ := hq
    have hf : ∀ k, k ≠ 4 → k ≠ 5 → k ≠ 7 → va_up (va_up (va_up f 4 (nI i)) 5 (nI j)) 7 (nI 0) k = f k := fun k h1 h2 h3 => by rw [va_up_ne _ _ h3, va_up_ne _ _ h2, va_up_ne _ _ h1]
    refine ⟨rfl, rfl, rfl, ⟨_, NL, N1, N2, (hc 0 (by decide) (by decide)).trans hx, e0, hS, hNL, ⟨g4_, g5_, i, j, 0, e1, e2, e5, ?_, ?_, ?_, by omega, by omega, by omega, by omega, by decide, fun a b ha hb => ?_, fun j hj => by rw [hz2 j hj]; exact Nat.zero_le _, fun a b ha hb _ => hz _ (by omega), ?_⟩, (by rw [hc 3 (by decide) (by decide), hc 4 (by decide) (by decide), hc 5 (by decide) (by decide), hc 6 (by decide) (by decide), hr 6 (by decide) (by decide), hr 7 (by decide) (by decide)]; exact hSm), (by rw [hc 7 (by decide) (by decide), hc 8 (by decide) (by decide), hr 8 (by decide) (by decide), hf 11 (by decide) (by decide) (by decide)]; exact hD), (by rw [hc 9 (by decide) (by decide), hc 10 (by decide) (by decide), hr 31 (by decide) (by decide), hf 45 (by decide) (by decide) (by decide)]; exact hK), hW.move (fun _ _ _ => rfl) (fun r h1 h2 => hc r (by omega) (by omega)), (by rw [hc 79 (by decide) (by decide), hc 80 (by decide) (by decide), hr 16 (by decide) (by decide), hr 17 (by decide) (by decide), hf 25 (by decide) (by decide) (by decide), hf 26 (by decide) (by decide) (by decide), hf 27 (by decide) (by decide) (by decide)]; exact hC), (by rw [hf 12 (by decide) (by decide) (by decide), hf 13 (by decide) (by decide) (by decide), hf 14 (by decide) (by decide) (by decide), hf 18 (by decide) (by decide) (by decide), hf 19 (by decide) (by decide) (by decide)]; exact hR.move (fun _ _ => rfl) (fun r h1 h2 => hc r (by omega) (by omega)) (hr 9 (by decide) (by decide)) (hr 10 (by decide) (by decide)) (hr 11 (by decide) (by decide))), hE.move (fun _ _ _ => rfl) (fun r h1 h2 => hc r (by omega) (by omega)), (by rw [hf 40 (by decide) (by decide) (by decide)]; exact hN.move (fun _ _ => rfl) (fun r h1 h2 => hc r (by omega) (by omega)) (hr 26 (by decide) (by decide)) (hr 27 (by decide) (by decide)) (by obtain ⟨_, _, _, _, _, _, ro, _, _, _, _, _, _, _, _, hro, _⟩ := hN; exact ⟨ro, (hr 28 (by decide) (by decide)).trans hro⟩)), hX.move (fun r h => hr r (by omega) (by omega))⟩⟩
    · rw [va_up_ne _ _ (by decide), va_up_ne _ _ (by decide), va_up_self]
    · rw [va_up_ne _ _ (by decide), va_up_self]
    · rw [va_up_self]
    · have h5 : j * (a + 1) ≤ j * i := Nat.mul_le_mul_left _ ha
      have h6 : j * i ≤ 25 := Nat.mul_le_mul hj5 hi5
      rw [Nat.mul_succ] at h5
      rw [hz _ (by omega), hz2 _ (by omega)]
    · refine sumF_zero _ (fun a ha => sumF_zero _ (fun b hb => hz2 _ ?_))
      have h5 : j * (a + 1) ≤ j * i := Nat.mul_le_mul_left _ ha
      have h6 : j * i ≤ 25 := Nat.mul_le_mul hj5 hi5
      rw [Nat.mul_succ] at h5
      omega
set_option maxHeartbeats 4000000 in
theorem T_cell (B : gB) (x y z : Int32) : StI B (J B) yX11_cell cX11_cell 5 yX12_cell cX12_cell 6 [.int x, .int y, .int z] := by
  intro ad ct ad2 ct2 S hJ
  have hJ0 := hJ
  have hbd := hJ0.bd
  obtain ⟨f, NL, N1, N2, hx, h0, hS, hNL, hG, hSm, hD, hK, hW, hC, hR, hE, hN, hX⟩ := hJ
  have hG0 := hG
  obtain ⟨gk, gc, R, C, T, g1, g2, g3, g4, g5, g6, hRp, hR5, hCp, hC5, hT60, hgg, hgb, hgz, hgT⟩ := hG
  have hgs := gsum hR5 hC5 hgg hgz hgT
  refine ⟨2, 44, 0, 0, _, _, by decide, by decide, by decide, hbd, hx, c_X11_cell B ad ct 178 (Nat.le_refl _) hx gk R C g1 g2 hR5 hC5 (by omega) x y z, ?_⟩
  intro v ad' ct' n' hp
  obtain ⟨ea, rfl, r, rfl, hr⟩ := hp
  obtain rfl := ea.symm
  refine ⟨rfl, rfl, r, rfl, 1, 25, _, _, by decide, by decide, h0, c_X12_cell B ad2 ct2 33 f gc (Nat.le_refl _) h0 g3 R C g4 g5 hR5 hC5 hgb T g6 hT60 (fun i j hi hj => by rw [← hgT]; exact cell_le hi hj) x y z, ?_⟩
  intro v2 ad2' ct2' n2' hq
  obtain ⟨rfl, rfl, q, rfl, hq⟩ := hq
  rcases hr with ⟨hno, rfl, rfl⟩ | ⟨hin, hno, rfl, rfl⟩ | ⟨i, j, v, rfl, hi, rfl, hj, rfl, hv, hr⟩
  · rcases hq with ⟨-, rfl, rfl⟩ | ⟨h1, -⟩ | ⟨i, j, v, rfl, hi, rfl, hj, rfl, hv, hq⟩
    · exact ⟨rfl, rfl, rfl, hJ0⟩
    · exact absurd (by omega) hno
    · exact absurd ⟨inR hi (by omega), inR hj (by omega)⟩ hno
  · rcases hq with ⟨h1, -⟩ | ⟨-, -, rfl, rfl⟩ | ⟨i, j, v, rfl, hi, rfl, hj, rfl, hv, hq⟩
    · exact absurd (by omega) h1
    · exact ⟨rfl, rfl, rfl, hJ0⟩
    · exact absurd (by rw [nI_toInt (by omega)]; omega) hno
  · have ti := nI_toInt (show i < 2 ^ 31 by omega)
    have tj := nI_toInt (show j < 2 ^ 31 by omega)
    have tv := nI_toInt (show v < 2 ^ 31 by omega)
    rcases hq with ⟨h1, -⟩ | ⟨-, h1, -⟩ | ⟨i2, j2, v2, ei, hi2, ej, hj2, ev, hv2, hq⟩
    · exact absurd (by omega) h1
    · exact absurd (by omega) h1
    · obtain rfl := (nI_eq (by omega) (by omega)).mp ei
      obtain rfl := (nI_eq (by omega) (by omega)).mp ej
      obtain rfl := (nI_eq (by omega) (by omega)).mp ev
      have hgij := hgg i j hi hj
      have hle := cell_le (gc := gc) hi hj
      rw [hgs, hgij] at hr
      rcases hr with ⟨h1, rfl, rfl⟩ | ⟨h1, rfl, rfl⟩
      · rcases hq with ⟨-, rfl, rfl⟩ | ⟨h2, -⟩
        · exact ⟨rfl, rfl, rfl, hJ0⟩
        · exact absurd h2 (by omega)
      · rcases hq with ⟨h2, -⟩ | ⟨-, rfl, e0, e5, hr⟩
        · exact absurd h2 (by omega)
        · have hc : ∀ r, r ≠ 2 → va_up ct 2 (iA B 25 (nF (va_up gk (5 * i + j) v))) r = ct r := fun r h => va_up_ne _ _ h
          have hf : ∀ k, k ≠ 7 → va_up f 7 (nI (T - gc (C * i + j) + v)) k = f k := fun k h => va_up_ne _ _ h
          have hCi : C * i + j < 25 := by have h5 : C * (i + 1) ≤ C * R := Nat.mul_le_mul_left _ hi; have h6 : C * R ≤ 25 := Nat.mul_le_mul hC5 hR5; rw [Nat.mul_succ] at h5; omega
          refine ⟨rfl, rfl, rfl, ⟨_, NL, N1, N2, (hc 0 (by decide)).trans hx, e0, hS, hNL, ⟨va_up gk (5 * i + j) v, va_up gc (C * i + j) v, R, C, T - gc (C * i + j) + v, (hc 1 (by decide)).trans g1, va_up_self _ _ _, e5, (hf 4 (by decide)).trans g4, (hf 5 (by decide)).trans g5, va_up_self _ _ _, hRp, hR5, hCp, hC5, h1, fun a b ha hb => ?_, fun m hm => ?_, fun a b ha hb h => ?_, ?_⟩, (by rw [hc 3 (by decide), hc 4 (by decide), hc 5 (by decide), hc 6 (by decide), hr 6 (by decide) (by decide), hr 7 (by decide) (by decide)]; exact hSm), (by rw [hc 7 (by decide), hc 8 (by decide), hr 8 (by decide) (by decide), hf 11 (by decide)]; exact hD), (by rw [hc 9 (by decide), hc 10 (by decide), hr 31 (by decide) (by decide), hf 45 (by decide)]; exact hK), hW.move (fun _ _ _ => rfl) (fun r h1 h2 => hc r (by omega)), (by rw [hc 79 (by decide), hc 80 (by decide), hr 16 (by decide) (by decide), hr 17 (by decide) (by decide), hf 25 (by decide), hf 26 (by decide), hf 27 (by decide)]; exact hC), (by rw [hf 12 (by decide), hf 13 (by decide), hf 14 (by decide), hf 18 (by decide), hf 19 (by decide)]; exact hR.move (fun _ _ => rfl) (fun r h1 h2 => hc r (by omega)) (hr 9 (by decide) (by decide)) (hr 10 (by decide) (by decide)) (hr 11 (by decide) (by decide))), hE.move (fun _ _ _ => rfl) (fun r h1 h2 => hc r (by omega)), (by rw [hf 40 (by decide)]; exact hN.move (fun _ _ => rfl) (fun r h1 h2 => hc r (by omega)) (hr 26 (by decide) (by decide)) (hr 27 (by decide) (by decide)) (by obtain ⟨_, _, _, _, _, _, ro, _, _, _, _, _, _, _, _, hro, _⟩ := hN; exact ⟨ro, (hr 28 (by decide) (by decide)).trans hro⟩)), hX.move (fun r h => hr r (by omega) (by omega))⟩⟩
          · by_cases q : a = i ∧ b = j
            · rw [q.1, q.2, va_up_self, va_up_self]
            · rw [va_up_ne _ _ (by omega), va_up_ne _ _ (fun e => ?_)]
              · exact hgg a b ha hb
              · have q1 := congrArg (· / C) e
                have q2 := congrArg (· % C) e
                simp only [(dm hb).1, (dm hj).1] at q1
                simp only [(dm hb).2, (dm hj).2] at q2
                exact q ⟨q1, q2⟩
          · by_cases q : m = C * i + j
            · rw [q, va_up_self]; exact hv
            · rw [va_up_ne _ _ q]; exact hgb m hm
          · rw [va_up_ne _ _ (by omega)]; exact hgz a b ha hb h
          · have := grid_up (gc := gc) (v := v) hi hj
            omega
