def hasF (o : Nat → Nat) (i : Nat) : Nat → Bool
  | 0 => false
  | k + 1 => hasF o i k || decide (o k = i)
theorem hasF_iff {o : Nat → Nat} {i : Nat} : ∀ k, hasF o i k = true ↔ ∃ j, j < k ∧ o j = i
  | 0 => ⟨fun h => absurd (show false = true from h) Bool.false_ne_true, fun h => by obtain ⟨j, h, _⟩ := h; exact absurd h (by omega)⟩
  | k + 1 => by
    show (hasF o i k || decide (o k = i)) = true ↔ _
    rw [Bool.or_eq_true, hasF_iff k, decide_eq_true_eq]
    constructor
    · rintro (⟨j, h1, h2⟩ | h)
      · exact ⟨j, by omega, h2⟩
      · exact ⟨k, by omega, h⟩
    · rintro ⟨j, h1, h2⟩
      by_cases q : j = k
      · exact Or.inr (q ▸ h2)
      · exact Or.inl ⟨j, by omega, h2⟩
theorem hasF_t {o : Nat → Nat} {i k : Nat} (h : o k = i) : hasF o i (k + 1) = true := by show (hasF o i k || decide (o k = i)) = true; rw [decide_eq_true h, Bool.or_true]
theorem hasF_f {o : Nat → Nat} {i k : Nat} (h : ¬ o k = i) : hasF o i (k + 1) = hasF o i k := by show (hasF o i k || decide (o k = i)) = hasF o i k; rw [decide_eq_false h, Bool.or_false]
theorem insR_0 {lt : Nat → Nat → Bool} {i : Nat} {o : Nat → Nat} : insR lt i 0 o = va_up o 0 i := rfl
theorem insR_t {lt : Nat → Nat → Bool} {i k : Nat} {o : Nat → Nat} (hk : 0 < k) (h : lt i (o (k - 1)) = true) : insR lt i k o = insR lt i (k - 1) (va_up o k (o (k - 1))) := by
  obtain ⟨j, rfl⟩ : ∃ j, k = j + 1 := ⟨k - 1, by omega⟩
  rw [Nat.add_sub_cancel] at h ⊢
  show (if lt i (o j) then _ else _) = _
  rw [if_pos h]
theorem insR_f {lt : Nat → Nat → Bool} {i k : Nat} {o : Nat → Nat} (hk : 0 < k) (h : lt i (o (k - 1)) = false) : insR lt i k o = va_up o k i := by
  obtain ⟨j, rfl⟩ : ∃ j, k = j + 1 := ⟨k - 1, by omega⟩
  rw [Nat.add_sub_cancel] at h
  show (if lt i (o j) then _ else _) = _
  rw [if_neg (by rw [h]; decide)]
theorem big1 {U v c : Nat} (h : U < 2 ^ 700) (hv : v ≤ 1000000) (hc : c ≤ 12) : U * v * c < 16777216 ^ 40 := by
  rw [show (16777216 : Nat) ^ 40 = 2 ^ 700 * 2 ^ 260 by decide +kernel, Nat.mul_assoc]
  refine Nat.lt_of_lt_of_le (Nat.mul_lt_mul_of_lt_of_le h (Nat.mul_le_mul hv hc) (by decide)) (Nat.mul_le_mul_left _ (by decide))
theorem big2 {U v : Nat} (h : U < 2 ^ 700) (hv : v ≤ 1000000) : U * v < 16777216 ^ 40 := by
  have := big1 (c := 1) h hv (by decide)
  rw [Nat.mul_one] at this; exact this
theorem cmp_pos {v x : Nat} : 0 < cmpI v x ↔ x < v := by
  rw [← Int32.not_le, cmp_nonpos]; omega
theorem gDec1 {k : Nat} (h : 0 < k) : nI k + Int32.ofInt (-1) = nI (k - 1) := by
  obtain ⟨j, rfl⟩ : ∃ j, k = j + 1 := ⟨k - 1, by omega⟩
  rw [Nat.add_sub_cancel]; exact gDec j
set_option maxHeartbeats 4000000 in
set_option maxRecDepth 100000 in
theorem c_X12_findRejected (B : gB) (ad : Nat → Nat) (ct : Nat → va_E) (n : Nat) (f : Nat → Int32) (go gt pu pw o xa xb : Nat → Nat) (hn : 33 ≤ n) (h0 : ct 0 = mObj ad f) (ho : ct 3 = .inl (B.2.1 0, 40, .inl (nF go))) (hg : ct 4 = .inl (B.2.1 0, 40, .inl (nF gt))) (hp : ct 26 = .inl (B.2.1 0, 480, .inl (nF pu))) (hr : ct 27 = .inl (B.2.1 0, 480, .inl (nF pw))) (hod : ct 28 = .inl (B.2.1 0, 12, .inl (nF o))) (hx : ct 29 = .inl (B.2.1 0, 80, .inl (nF xa))) (hy : ct 30 = .inl (B.2.1 0, 80, .inl (nF xb))) (kn : Nat) (hkn : f 40 = nI kn) (hkn12 : kn ≤ 12) (hok : ∀ i, i < kn → okN pu (40 * i) ∧ okN pw (40 * i) ∧ nv pu (40 * i) < 2 ^ 700 ∧ nv pw (40 * i) < 2 ^ 700) (u v : Nat) (hu : u ≤ 1000000) (hv : v ≤ 1000000) : Ctr B yX12_findRejected cX12_findRejected 5 (some .int) 2 57 0 0 ad ct n [.ref (ad 0), .int (nI u), .int (nI v)] (gPi ad n (fun q ct' => (∃ r' : Nat, q = nI r' ∧ r' ≤ kn ∧ (∀ j, j < r' → nv pu (40 * (ordS (ltF (fun i => nv pu (40 * i)) (fun i => nv pw (40 * i))) o kn) j) * v * (kn - j) ≤ nv pw (40 * (ordS (ltF (fun i => nv pu (40 * i)) (fun i => nv pw (40 * i))) o kn) j) * u) ∧ (r' < kn → ¬ nv pu (40 * (ordS (ltF (fun i => nv pu (40 * i)) (fun i => nv pw (40 * i))) o kn) r') * v * (kn - r') ≤ nv pw (40 * (ordS (ltF (fun i => nv pu (40 * i)) (fun i => nv pw (40 * i))) o kn) r') * u)) ∧ ct' 28 = .inl (B.2.1 0, 12, .inl (nF (ordS (ltF (fun i => nv pu (40 * i)) (fun i => nv pw (40 * i))) o kn))) ∧ (∃ go' gt' xa' xb', ct' 3 = .inl (B.2.1 0, 40, .inl (nF go')) ∧ ct' 4 = .inl (B.2.1 0, 40, .inl (nF gt')) ∧ ct' 29 = .inl (B.2.1 0, 80, .inl (nF xa')) ∧ ct' 30 = .inl (B.2.1 0, 80, .inl (nF xb'))) ∧ ∀ r, r ≠ 3 → r ≠ 4 → r ≠ 28 → r ≠ 29 → r ≠ 30 → ct' r = ct r)) := by
  have hfr : ∀ r, r ≠ 3 → r ≠ 4 → r ≠ 28 → r ≠ 29 → r ≠ 30 → ct r = ct r := fun _ _ _ _ _ _ => rfl
  refine Ctr.ofG (L := [(0, .ref (ad 0)), (1, .int (nI u)), (2, .int (nI v))]) (by decide +kernel) rfl (Nat.le_of_ble_eq_true rfl) (fun E fx rt hnm => ?_)
  refine g_iconst (v := nI 0) fx dX12_findRejected_0 (by decide +kernel) ?_
  refine g_istore_n (L' := [(3, .int (nI 0)), (0, .ref (ad 0)), (1, .int (nI u)), (2, .int (nI v))]) fx dX12_findRejected_1 (by decide) rfl ?_
  have LP2 : ∀ (M : Nat) (i : Nat) (ct1 : Nat → va_E) (o1 a1 b1 : Nat → Nat), (i ≤ kn) → (o1 = (ordS (ltF (fun i => nv pu (40 * i)) (fun i => nv pw (40 * i))) o i)) → (ct1 0 = mObj ad f) → (ct1 3 = .inl (B.2.1 0, 40, .inl (nF go))) → (ct1 4 = .inl (B.2.1 0, 40, .inl (nF gt))) → (ct1 26 = .inl (B.2.1 0, 480, .inl (nF pu))) → (ct1 27 = .inl (B.2.1 0, 480, .inl (nF pw))) → (ct1 28 = .inl (B.2.1 0, 12, .inl (nF o1))) → (ct1 29 = .inl (B.2.1 0, 80, .inl (nF a1))) → (ct1 30 = .inl (B.2.1 0, 80, .inl (nF b1))) → (∀ r, r ≠ 3 → r ≠ 4 → r ≠ 28 → r ≠ 29 → r ≠ 30 → ct1 r = ct r) →  (kn - i) < M → G B 5 E ad ct1 n 0 0 [(0, .ref (ad 0)), (1, .int (nI u)), (2, .int (nI v)), (3, .int (nI i))] 2 [] := by
    intro M
    induction M with
    | zero => intro i ct1 o1 a1 b1 _ _ _ _ _ _ _ _ _ _ _ hM; exact absurd hM (Nat.not_lt_zero _)
    | succ M ih =>
      intro i ct1 o1 a1 b1 hi eo h0 ho hg hp hr hod hx hy hfr hM
      have ih2 := ih
      refine g_iload_n fx 3 dX12_findRejected_2 rfl ?_
      refine g_aload_n fx 0 dX12_findRejected_3 rfl ?_
      refine g_get (r := 0) fx lkX12_184 (by omega) h0 rfl dX12_findRejected_4 ?_
      refine g_isi (y := nI kn) hkn ?_
      refine g_icmp_ge fx 71 dX12_findRejected_7 (by decide) (fun c7 => ?_) (fun c7 => ?_)
      · skip
        have hik : i = kn := by have := (nI_leI (by omega) (by omega)).mp c7; omega
        rw [hik] at eo
        subst eo
        refine g_iconst (v := nI 0) fx dX12_findRejected_71 (by decide +kernel) ?_
        refine g_istore_n (L' := [(3, .int (nI 0)), (0, .ref (ad 0)), (1, .int (nI u)), (2, .int (nI v))]) fx dX12_findRejected_72 (by decide) rfl ?_
        have LP73 : ∀ (M : Nat) (m : Nat) (ct4 : Nat → va_E) (c4 d4 : Nat → Nat), (m ≤ kn) → (∀ j, j < m → nv pu (40 * (ordS (ltF (fun i => nv pu (40 * i)) (fun i => nv pw (40 * i))) o kn) j) * v * (kn - j) ≤ nv pw (40 * (ordS (ltF (fun i => nv pu (40 * i)) (fun i => nv pw (40 * i))) o kn) j) * u) → (ct4 0 = mObj ad f) → (ct4 3 = .inl (B.2.1 0, 40, .inl (nF c4))) → (ct4 4 = .inl (B.2.1 0, 40, .inl (nF d4))) → (ct4 26 = .inl (B.2.1 0, 480, .inl (nF pu))) → (ct4 27 = .inl (B.2.1 0, 480, .inl (nF pw))) → (ct4 28 = .inl (B.2.1 0, 12, .inl (nF (ordS (ltF (fun i => nv pu (40 * i)) (fun i => nv pw (40 * i))) o kn)))) → (ct4 29 = .inl (B.2.1 0, 80, .inl (nF a1))) → (ct4 30 = .inl (B.2.1 0, 80, .inl (nF b1))) → (∀ r, r ≠ 3 → r ≠ 4 → r ≠ 28 → r ≠ 29 → r ≠ 30 → ct4 r = ct r) →  (kn - m) < M → G B 5 E ad ct4 n 0 0 [(0, .ref (ad 0)), (1, .int (nI u)), (2, .int (nI v)), (3, .int (nI m))] 73 [] := by
          intro M
          induction M with
          | zero => intro m ct4 c4 d4 _ _ _ _ _ _ _ _ _ _ _ hM; exact absurd hM (Nat.not_lt_zero _)
          | succ M ih =>
            intro m ct4 c4 d4 hm hgd h0 ho hg hp hr hod hx hy hfr hM
            have ih73 := ih
            refine g_iload_n fx 3 dX12_findRejected_73 rfl ?_
            refine g_aload_n fx 0 dX12_findRejected_74 rfl ?_
            refine g_get (r := 0) fx lkX12_184 (by omega) h0 rfl dX12_findRejected_75 ?_
            refine g_isi (y := nI kn) hkn ?_
            refine g_icmp_ge fx 128 dX12_findRejected_78 (by decide) (fun c78 => ?_) (fun c78 => ?_)
            · skip
              have hmk : m = kn := by have := (nI_leI (by omega) (by omega)).mp c78; omega
              have hend : m < kn → ¬ nv pu (40 * (ordS (ltF (fun i => nv pu (40 * i)) (fun i => nv pw (40 * i))) o kn) m) * v * (kn - m) ≤ nv pw (40 * (ordS (ltF (fun i => nv pu (40 * i)) (fun i => nv pw (40 * i))) o kn) m) * u := fun q => absurd q (by omega)
              refine g_iload_n fx 3 dX12_findRejected_128 rfl ?_
              refine g_iret fx rt dX12_findRejected_129 ?_
              exact gPi.mk ⟨⟨m, rfl, hm, hgd, hend⟩, hod, ⟨_, _, a1, b1, ho, hg, hx, hy⟩, hfr⟩
            · skip
              have hlt4 : m < kn := by have := (nI_ltI (by omega) (by omega)).mp (Int32.not_le.mp c78); omega
              have hom : (ordS (ltF (fun i => nv pu (40 * i)) (fun i => nv pw (40 * i))) o kn) m < kn := ordS_lt kn m hlt4
              have hokm := hok ((ordS (ltF (fun i => nv pu (40 * i)) (fun i => nv pw (40 * i))) o kn) m) hom
              refine g_aload_n fx 0 dX12_findRejected_81 rfl ?_
              refine g_aload_n fx 0 dX12_findRejected_82 rfl ?_
              refine g_get (r := 0) fx lkX12_94 (by omega) h0 rfl dX12_findRejected_83 ?_
              refine g_bipush (v := nI 40) fx dX12_findRejected_86 (by decide +kernel) ?_
              refine g_aload_n fx 0 dX12_findRejected_88 rfl ?_
              refine g_get (r := 0) fx lkX12_100 (by omega) h0 rfl dX12_findRejected_89 ?_
              refine g_iload_n fx 3 dX12_findRejected_92 rfl ?_
              refine g_iald (r := 28) (j := m) fx (by omega) hod (nI_toInt (by omega)) (by omega) dX12_findRejected_93 ?_
              refine g_isi (y := nI ((ordS (ltF (fun i => nv pu (40 * i)) (fun i => nv pw (40 * i))) o kn) m)) rfl ?_
              refine g_imulN fx dX12_findRejected_94 ?_
              refine g_aload_n fx 0 dX12_findRejected_95 rfl ?_
              refine g_get (r := 0) fx lkX12_97 (by omega) h0 rfl dX12_findRejected_96 ?_
              refine g_bipush (v := nI 40) fx dX12_findRejected_99 (by decide +kernel) ?_
              refine g_aload_n fx 0 dX12_findRejected_101 rfl ?_
              refine g_get (r := 0) fx lkX12_100 (by omega) h0 rfl dX12_findRejected_102 ?_
              refine g_iload_n fx 3 dX12_findRejected_105 rfl ?_
              refine g_iald (r := 28) (j := m) fx (by omega) hod (nI_toInt (by omega)) (by omega) dX12_findRejected_106 ?_
              refine g_isi (y := nI ((ordS (ltF (fun i => nv pu (40 * i)) (fun i => nv pw (40 * i))) o kn) m)) rfl ?_
              refine g_imulN fx dX12_findRejected_107 ?_
              refine g_iload_n fx 1 dX12_findRejected_108 rfl ?_
              refine g_iload_n fx 2 dX12_findRejected_109 rfl ?_
              refine g_aload_n fx 0 dX12_findRejected_110 rfl ?_
              refine g_get (r := 0) fx lkX12_184 (by omega) h0 rfl dX12_findRejected_111 ?_
              refine g_isi (y := nI kn) hkn ?_
              refine g_iload_n fx 3 dX12_findRejected_114 rfl ?_
              refine g_isubN fx dX12_findRejected_115 (by omega) ?_
              refine g_callVi (As := [.ref (ad 26), .int (nI (40 * ((ordS (ltF (fun i => nv pu (40 * i)) (fun i => nv pw (40 * i))) o kn) m))), .ref (ad 27), .int (nI (40 * ((ordS (ltF (fun i => nv pu (40 * i)) (fun i => nv pw (40 * i))) o kn) m))), .int (nI u), .int (nI v), .int (nI (kn - m))]) (rest := []) fx slX12_303 (c_X12_stands B ad ct4 n f c4 d4 hn h0 ho hg 26 (40 * (ordS (ltF (fun i => nv pu (40 * i)) (fun i => nv pw (40 * i))) o kn) m) 480 pu (by omega) (by omega) (by decide) hp 27 (40 * (ordS (ltF (fun i => nv pu (40 * i)) (fun i => nv pw (40 * i))) o kn) m) 480 pw (by omega) (by omega) (by decide) hr (by decide) (by decide) hokm.1 hokm.2.1 u v (kn - m) (by omega) (by omega) (by omega) (big2 hokm.2.2.1 hv) (big1 hokm.2.2.1 hv (by omega)) (big2 hokm.2.2.2 hu)) (by omega) h0 rfl rfl rfl (Nat.le_of_ble_eq_true rfl) ⟨by decide, by decide⟩ ⟨by decide, by decide⟩ dX12_findRejected_116 (fun q5 ct5 hq5 => ?_)
              obtain ⟨hq5, c5, d5, ho, hg, hs5⟩ := hq5
              have h0 : ct5 0 = mObj ad f := (hs5 0 (by decide) (by decide)).trans h0
              have hp : ct5 26 = .inl (B.2.1 0, 480, .inl (nF pu)) := (hs5 26 (by decide) (by decide)).trans hp
              have hr : ct5 27 = .inl (B.2.1 0, 480, .inl (nF pw)) := (hs5 27 (by decide) (by decide)).trans hr
              have hod : ct5 28 = .inl (B.2.1 0, 12, .inl (nF (ordS (ltF (fun i => nv pu (40 * i)) (fun i => nv pw (40 * i))) o kn))) := (hs5 28 (by decide) (by decide)).trans hod
              have hx : ct5 29 = .inl (B.2.1 0, 80, .inl (nF a1)) := (hs5 29 (by decide) (by decide)).trans hx
              have hy : ct5 30 = .inl (B.2.1 0, 80, .inl (nF b1)) := (hs5 30 (by decide) (by decide)).trans hy
              have hfr : ∀ r, r ≠ 3 → r ≠ 4 → r ≠ 28 → r ≠ 29 → r ≠ 30 → ct5 r = ct r := fun r q1 q2 q3 q4 q5 => (hs5 r q1 q2).trans (hfr r q1 q2 q3 q4 q5)
              refine g_if_gt fx 128 dX12_findRejected_119 (by decide) (fun c119 => ?_) (fun c119 => ?_)
              · skip
                have hend : m < kn → ¬ nv pu (40 * (ordS (ltF (fun i => nv pu (40 * i)) (fun i => nv pw (40 * i))) o kn) m) * v * (kn - m) ≤ nv pw (40 * (ordS (ltF (fun i => nv pu (40 * i)) (fun i => nv pw (40 * i))) o kn) m) * u := fun _ => Nat.not_le.mpr (cmp_pos.mp (hq5 ▸ c119))
                refine g_iload_n fx 3 dX12_findRejected_128 rfl ?_
                refine g_iret fx rt dX12_findRejected_129 ?_
                exact gPi.mk ⟨⟨m, rfl, hm, hgd, hend⟩, hod, ⟨_, _, a1, b1, ho, hg, hx, hy⟩, hfr⟩
              · skip
                have hgm : nv pu (40 * (ordS (ltF (fun i => nv pu (40 * i)) (fun i => nv pw (40 * i))) o kn) m) * v * (kn - m) ≤ nv pw (40 * (ordS (ltF (fun i => nv pu (40 * i)) (fun i => nv pw (40 * i))) o kn) m) * u := Nat.le_of_not_lt (fun q => c119 (hq5 ▸ cmp_pos.mpr q))
                refine g_iinc (L' := [(3, .int (nI (m + 1))), (0, .ref (ad 0)), (1, .int (nI u)), (2, .int (nI v))]) fx (nI (m + 1)) 3 dX12_findRejected_122 rfl (gInc _) (by decide) rfl ?_
                refine g_goto fx 73 dX12_findRejected_125 (by decide) ?_
                refine g_locals (L' := [(0, .ref (ad 0)), (1, .int (nI u)), (2, .int (nI v)), (3, .int (nI (m + 1)))]) [1, 2, 3, 0] rfl ?_
                exact ih (m + 1) _ c5 d5 hlt4 (fun j hj => by by_cases q : j = m; (rw [q]; exact hgm); (exact hgd j (by omega))) h0 ho hg hp hr hod hx hy hfr (by omega)
        refine g_locals (L' := [(0, .ref (ad 0)), (1, .int (nI u)), (2, .int (nI v)), (3, .int (nI 0))]) [1, 2, 3, 0] rfl ?_
        exact LP73 (kn + 1) 0 ct1 go gt (by omega) (fun j hj => absurd hj (by omega)) h0 ho hg hp hr hod hx hy hfr (by omega)
      · skip
        have hlt2 : i < kn := by have := (nI_ltI (by omega) (by omega)).mp (Int32.not_le.mp c7); omega
        have hoi := hok i hlt2
        refine g_iload_n fx 3 dX12_findRejected_10 rfl ?_
        refine g_istore (L' := [(4, .int (nI i)), (0, .ref (ad 0)), (1, .int (nI u)), (2, .int (nI v)), (3, .int (nI i))]) fx dX12_findRejected_11 (by decide) rfl ?_
        have LP13 : ∀ (M : Nat) (k : Nat) (ct2 : Nat → va_E) (o2 a2 b2 : Nat → Nat), (k ≤ i) → (insR (ltF (fun i => nv pu (40 * i)) (fun i => nv pw (40 * i))) i k o2 = (ordS (ltF (fun i => nv pu (40 * i)) (fun i => nv pw (40 * i))) o (i + 1))) → (∀ j, j < k → o2 j < i) → (ct2 0 = mObj ad f) → (ct2 3 = .inl (B.2.1 0, 40, .inl (nF go))) → (ct2 4 = .inl (B.2.1 0, 40, .inl (nF gt))) → (ct2 26 = .inl (B.2.1 0, 480, .inl (nF pu))) → (ct2 27 = .inl (B.2.1 0, 480, .inl (nF pw))) → (ct2 28 = .inl (B.2.1 0, 12, .inl (nF o2))) → (ct2 29 = .inl (B.2.1 0, 80, .inl (nF a2))) → (ct2 30 = .inl (B.2.1 0, 80, .inl (nF b2))) → (∀ r, r ≠ 3 → r ≠ 4 → r ≠ 28 → r ≠ 29 → r ≠ 30 → ct2 r = ct r) →  k < M → G B 5 E ad ct2 n 0 0 [(0, .ref (ad 0)), (1, .int (nI u)), (2, .int (nI v)), (3, .int (nI i)), (4, .int (nI k))] 13 [] := by
          intro M
          induction M with
          | zero => intro k ct2 o2 a2 b2 _ _ _ _ _ _ _ _ _ _ _ _ hM; exact absurd hM (Nat.not_lt_zero _)
          | succ M ih =>
            intro k ct2 o2 a2 b2 hk hins hl1 h0 ho hg hp hr hod hx hy hfr hM
            have ih13 := ih
            refine g_iload fx 4 dX12_findRejected_13 rfl ?_
            refine g_if_le fx 57 dX12_findRejected_15 (by decide) (fun c15 => ?_) (fun c15 => ?_)
            · skip
              have hk0 : k = 0 := by have := (nI_leI (a := k) (b := 0) (by omega) (by decide)).mp c15; omega
              have hfin : va_up o2 k i = (ordS (ltF (fun i => nv pu (40 * i)) (fun i => nv pw (40 * i))) o (i + 1)) := by rw [← hins, hk0]; rfl
              refine g_aload_n fx 0 dX12_findRejected_57 rfl ?_
              refine g_get (r := 0) fx lkX12_100 (by omega) h0 rfl dX12_findRejected_58 ?_
              refine g_iload fx 4 dX12_findRejected_61 rfl ?_
              refine g_iload_n fx 3 dX12_findRejected_63 rfl ?_
              refine g_iast (r := 28) (j := k) fx (by omega) hod (nI_toInt (by omega)) (by omega) dX12_findRejected_64 (fun cu1 ecu1 => ?_)
              have hfr : ∀ r, r ≠ 3 → r ≠ 4 → r ≠ 28 → r ≠ 29 → r ≠ 30 → cu1 r = ct r := fun r _ _ _ _ _ => (congrFun ecu1 r).trans ((va_up_ne _ _ (by assumption)).trans (hfr r (by assumption) (by assumption) (by assumption) (by assumption) (by assumption)))
              have h0 : cu1 0 = mObj ad f := (congrFun ecu1 _).trans ((va_up_ne _ _ (by omega)).trans h0)
              have ho : cu1 3 = .inl (B.2.1 0, 40, .inl (nF go)) := (congrFun ecu1 _).trans ((va_up_ne _ _ (by omega)).trans ho)
              have hg : cu1 4 = .inl (B.2.1 0, 40, .inl (nF gt)) := (congrFun ecu1 _).trans ((va_up_ne _ _ (by omega)).trans hg)
              have hp : cu1 26 = .inl (B.2.1 0, 480, .inl (nF pu)) := (congrFun ecu1 _).trans ((va_up_ne _ _ (by omega)).trans hp)
              have hr : cu1 27 = .inl (B.2.1 0, 480, .inl (nF pw)) := (congrFun ecu1 _).trans ((va_up_ne _ _ (by omega)).trans hr)
              have hod : cu1 28 = .inl (B.2.1 0, 12, .inl (nF (va_up o2 k i))) := by rw [ecu1, va_up_self, nF_up]
              have hx : cu1 29 = .inl (B.2.1 0, 80, .inl (nF a2)) := (congrFun ecu1 _).trans ((va_up_ne _ _ (by omega)).trans hx)
              have hy : cu1 30 = .inl (B.2.1 0, 80, .inl (nF b2)) := (congrFun ecu1 _).trans ((va_up_ne _ _ (by omega)).trans hy)
              refine g_iinc (L' := [(3, .int (nI (i + 1))), (0, .ref (ad 0)), (1, .int (nI u)), (2, .int (nI v)), (4, .int (nI k))]) fx (nI (i + 1)) 3 dX12_findRejected_65 rfl (gInc _) (by decide) rfl ?_
              refine g_goto fx 2 dX12_findRejected_68 (by decide) ?_
              refine g_locals (L' := [(0, .ref (ad 0)), (1, .int (nI u)), (2, .int (nI v)), (3, .int (nI (i + 1)))]) [1, 2, 3, 0] rfl ?_
              exact ih2 (i + 1) _ _ a2 b2 hlt2 hfin h0 ho hg hp hr hod hx hy hfr (by omega)
            · skip
              have hk0 : 0 < k := Nat.pos_of_ne_zero (fun q => c15 (by rw [q]; decide))
              have hoj := hl1 (k - 1) (by omega)
              have hokj := hok (o2 (k - 1)) (by omega)
              refine g_aload_n fx 0 dX12_findRejected_18 rfl ?_
              refine g_iload_n fx 3 dX12_findRejected_19 rfl ?_
              refine g_aload_n fx 0 dX12_findRejected_20 rfl ?_
              refine g_get (r := 0) fx lkX12_100 (by omega) h0 rfl dX12_findRejected_21 ?_
              refine g_iload fx 4 dX12_findRejected_24 rfl ?_
              refine g_iconst (v := nI 1) fx dX12_findRejected_26 (by decide +kernel) ?_
              refine g_isubN fx dX12_findRejected_27 (by omega) ?_
              refine g_iald (r := 28) (j := (k - 1)) fx (by omega) hod (nI_toInt (by omega)) (by omega) dX12_findRejected_28 ?_
              refine g_isi (y := nI (o2 (k - 1))) rfl ?_
              refine g_callVi (As := [.int (nI i), .int (nI (o2 (k - 1)))]) (rest := []) fx slX12_312 (c_X12_isLess B ad ct2 n f pu pw a2 b2 hn h0 hp hr hx hy i (o2 (k - 1)) (by omega) (by omega) hoi.1 hoi.2.1 hokj.1 hokj.2.1) (by omega) h0 rfl rfl rfl (Nat.le_of_ble_eq_true rfl) ⟨by decide, by decide⟩ ⟨by decide, by decide⟩ dX12_findRejected_29 (fun q3 ct3 hq3 => ?_)
              obtain ⟨hq3, a3, b3, hx, hy, hs3⟩ := hq3
              have h0 : ct3 0 = mObj ad f := (hs3 0 (by decide) (by decide)).trans h0
              have ho : ct3 3 = .inl (B.2.1 0, 40, .inl (nF go)) := (hs3 3 (by decide) (by decide)).trans ho
              have hg : ct3 4 = .inl (B.2.1 0, 40, .inl (nF gt)) := (hs3 4 (by decide) (by decide)).trans hg
              have hp : ct3 26 = .inl (B.2.1 0, 480, .inl (nF pu)) := (hs3 26 (by decide) (by decide)).trans hp
              have hr : ct3 27 = .inl (B.2.1 0, 480, .inl (nF pw)) := (hs3 27 (by decide) (by decide)).trans hr
              have hod : ct3 28 = .inl (B.2.1 0, 12, .inl (nF o2)) := (hs3 28 (by decide) (by decide)).trans hod
              have hfr : ∀ r, r ≠ 3 → r ≠ 4 → r ≠ 28 → r ≠ 29 → r ≠ 30 → ct3 r = ct r := fun r q1 q2 q3 q4 q5 => (hs3 r q4 q5).trans (hfr r q1 q2 q3 q4 q5)
              refine g_if_eq fx 57 dX12_findRejected_32 (by decide) (fun c32 => ?_) (fun c32 => ?_)
              · skip
                have hltf : (ltF (fun i => nv pu (40 * i)) (fun i => nv pw (40 * i))) i (o2 (k - 1)) = false := decide_eq_false (if01_z.mp (hq3 ▸ c32))
                have hfin : va_up o2 k i = (ordS (ltF (fun i => nv pu (40 * i)) (fun i => nv pw (40 * i))) o (i + 1)) := by rw [← hins, insR_f hk0 hltf]
                obtain ⟨a2, ea2⟩ : ∃ z, z = a3 := ⟨_, rfl⟩
                obtain ⟨b2, eb2⟩ : ∃ z, z = b3 := ⟨_, rfl⟩
                rw [← ea2] at hx
                rw [← eb2] at hy
                refine g_aload_n fx 0 dX12_findRejected_57 rfl ?_
                refine g_get (r := 0) fx lkX12_100 (by omega) h0 rfl dX12_findRejected_58 ?_
                refine g_iload fx 4 dX12_findRejected_61 rfl ?_
                refine g_iload_n fx 3 dX12_findRejected_63 rfl ?_
                refine g_iast (r := 28) (j := k) fx (by omega) hod (nI_toInt (by omega)) (by omega) dX12_findRejected_64 (fun cu2 ecu2 => ?_)
                have hfr : ∀ r, r ≠ 3 → r ≠ 4 → r ≠ 28 → r ≠ 29 → r ≠ 30 → cu2 r = ct r := fun r _ _ _ _ _ => (congrFun ecu2 r).trans ((va_up_ne _ _ (by assumption)).trans (hfr r (by assumption) (by assumption) (by assumption) (by assumption) (by assumption)))
                have h0 : cu2 0 = mObj ad f := (congrFun ecu2 _).trans ((va_up_ne _ _ (by omega)).trans h0)
                have ho : cu2 3 = .inl (B.2.1 0, 40, .inl (nF go)) := (congrFun ecu2 _).trans ((va_up_ne _ _ (by omega)).trans ho)
                have hg : cu2 4 = .inl (B.2.1 0, 40, .inl (nF gt)) := (congrFun ecu2 _).trans ((va_up_ne _ _ (by omega)).trans hg)
                have hp : cu2 26 = .inl (B.2.1 0, 480, .inl (nF pu)) := (congrFun ecu2 _).trans ((va_up_ne _ _ (by omega)).trans hp)
                have hr : cu2 27 = .inl (B.2.1 0, 480, .inl (nF pw)) := (congrFun ecu2 _).trans ((va_up_ne _ _ (by omega)).trans hr)
                have hod : cu2 28 = .inl (B.2.1 0, 12, .inl (nF (va_up o2 k i))) := by rw [ecu2, va_up_self, nF_up]
                have hx : cu2 29 = .inl (B.2.1 0, 80, .inl (nF a2)) := (congrFun ecu2 _).trans ((va_up_ne _ _ (by omega)).trans hx)
                have hy : cu2 30 = .inl (B.2.1 0, 80, .inl (nF b2)) := (congrFun ecu2 _).trans ((va_up_ne _ _ (by omega)).trans hy)
                refine g_iinc (L' := [(3, .int (nI (i + 1))), (0, .ref (ad 0)), (1, .int (nI u)), (2, .int (nI v)), (4, .int (nI k))]) fx (nI (i + 1)) 3 dX12_findRejected_65 rfl (gInc _) (by decide) rfl ?_
                refine g_goto fx 2 dX12_findRejected_68 (by decide) ?_
                refine g_locals (L' := [(0, .ref (ad 0)), (1, .int (nI u)), (2, .int (nI v)), (3, .int (nI (i + 1)))]) [1, 2, 3, 0] rfl ?_
                exact ih2 (i + 1) _ _ a2 b2 hlt2 hfin h0 ho hg hp hr hod hx hy hfr (by omega)
              · skip
                have hltt : (ltF (fun i => nv pu (40 * i)) (fun i => nv pw (40 * i))) i (o2 (k - 1)) = true := decide_eq_true (if01_n.mp (hq3 ▸ c32))
                refine g_aload_n fx 0 dX12_findRejected_35 rfl ?_
                refine g_get (r := 0) fx lkX12_100 (by omega) h0 rfl dX12_findRejected_36 ?_
                refine g_iload fx 4 dX12_findRejected_39 rfl ?_
                refine g_aload_n fx 0 dX12_findRejected_41 rfl ?_
                refine g_get (r := 0) fx lkX12_100 (by omega) h0 rfl dX12_findRejected_42 ?_
                refine g_iload fx 4 dX12_findRejected_45 rfl ?_
                refine g_iconst (v := nI 1) fx dX12_findRejected_47 (by decide +kernel) ?_
                refine g_isubN fx dX12_findRejected_48 (by omega) ?_
                refine g_iald (r := 28) (j := (k - 1)) fx (by omega) hod (nI_toInt (by omega)) (by omega) dX12_findRejected_49 ?_
                refine g_isi (y := nI (o2 (k - 1))) rfl ?_
                refine g_iast (r := 28) (j := k) fx (by omega) hod (nI_toInt (by omega)) (by omega) dX12_findRejected_50 (fun cu3 ecu3 => ?_)
                have hfr : ∀ r, r ≠ 3 → r ≠ 4 → r ≠ 28 → r ≠ 29 → r ≠ 30 → cu3 r = ct r := fun r _ _ _ _ _ => (congrFun ecu3 r).trans ((va_up_ne _ _ (by assumption)).trans (hfr r (by assumption) (by assumption) (by assumption) (by assumption) (by assumption)))
                have h0 : cu3 0 = mObj ad f := (congrFun ecu3 _).trans ((va_up_ne _ _ (by omega)).trans h0)
                have ho : cu3 3 = .inl (B.2.1 0, 40, .inl (nF go)) := (congrFun ecu3 _).trans ((va_up_ne _ _ (by omega)).trans ho)
                have hg : cu3 4 = .inl (B.2.1 0, 40, .inl (nF gt)) := (congrFun ecu3 _).trans ((va_up_ne _ _ (by omega)).trans hg)
                have hp : cu3 26 = .inl (B.2.1 0, 480, .inl (nF pu)) := (congrFun ecu3 _).trans ((va_up_ne _ _ (by omega)).trans hp)
                have hr : cu3 27 = .inl (B.2.1 0, 480, .inl (nF pw)) := (congrFun ecu3 _).trans ((va_up_ne _ _ (by omega)).trans hr)
                have hod : cu3 28 = .inl (B.2.1 0, 12, .inl (nF (va_up o2 k (o2 (k - 1))))) := by rw [ecu3, va_up_self, nF_up]
                have hx : cu3 29 = .inl (B.2.1 0, 80, .inl (nF a3)) := (congrFun ecu3 _).trans ((va_up_ne _ _ (by omega)).trans hx)
                have hy : cu3 30 = .inl (B.2.1 0, 80, .inl (nF b3)) := (congrFun ecu3 _).trans ((va_up_ne _ _ (by omega)).trans hy)
                refine g_iinc (L' := [(4, .int (nI (k - 1))), (0, .ref (ad 0)), (1, .int (nI u)), (2, .int (nI v)), (3, .int (nI i))]) fx (nI (k - 1)) 4 dX12_findRejected_51 rfl (gDec1 hk0) (by decide) rfl ?_
                refine g_goto fx 13 dX12_findRejected_54 (by decide) ?_
                refine g_locals (L' := [(0, .ref (ad 0)), (1, .int (nI u)), (2, .int (nI v)), (3, .int (nI i)), (4, .int (nI (k - 1)))]) [1, 2, 3, 4, 0] rfl ?_
                exact ih (k - 1) _ _ a3 b3 (by omega) (by rw [← insR_t hk0 hltt]; exact hins) (fun j hj => by rw [va_up_ne _ _ (by omega)]; exact hl1 j (by omega)) h0 ho hg hp hr hod hx hy hfr (by omega)
        refine g_locals (L' := [(0, .ref (ad 0)), (1, .int (nI u)), (2, .int (nI v)), (3, .int (nI i)), (4, .int (nI i))]) [1, 2, 3, 4, 0] rfl ?_
        exact LP13 (i + 1) i ct1 o1 a1 b1 (by omega) (by rw [eo]; rfl) (fun j hj => by rw [eo]; exact ordS_lt i j hj) h0 ho hg hp hr hod hx hy hfr (by omega)
  refine g_locals (L' := [(0, .ref (ad 0)), (1, .int (nI u)), (2, .int (nI v)), (3, .int (nI 0))]) [1, 2, 3, 0] rfl ?_
  exact LP2 (kn + 1) 0 ct o xa xb (by omega) rfl h0 ho hg hp hr hod hx hy hfr (by omega)
set_option maxHeartbeats 4000000 in
set_option maxRecDepth 100000 in
theorem c_X12_rejected (B : gB) (ad : Nat → Nat) (ct : Nat → va_E) (n : Nat) (f : Nat → Int32) (go gt pu pw o xa xb : Nat → Nat) (hn : 33 ≤ n) (h0 : ct 0 = mObj ad f) (ho : ct 3 = .inl (B.2.1 0, 40, .inl (nF go))) (hg : ct 4 = .inl (B.2.1 0, 40, .inl (nF gt))) (hp : ct 26 = .inl (B.2.1 0, 480, .inl (nF pu))) (hr : ct 27 = .inl (B.2.1 0, 480, .inl (nF pw))) (hod : ct 28 = .inl (B.2.1 0, 12, .inl (nF o))) (hx : ct 29 = .inl (B.2.1 0, 80, .inl (nF xa))) (hy : ct 30 = .inl (B.2.1 0, 80, .inl (nF xb))) (kn : Nat) (hkn : f 40 = nI kn) (hkn12 : kn ≤ 12) (hok : ∀ i, i < kn → okN pu (40 * i) ∧ okN pw (40 * i) ∧ nv pu (40 * i) < 2 ^ 700 ∧ nv pw (40 * i) < 2 ^ 700) (x y : Int32) : Ctr B yX12_rejected cX12_rejected 3 (some .int) 3 81 0 0 ad ct n [.ref (ad 0), .int x, .int y] (gPi ad n (fun q ct' => (¬ (((0 : Int) ≤ x.toInt ∧ x.toInt ≤ 1000000) ∧ ((1 : Int) ≤ y.toInt ∧ y.toInt ≤ 1000000)) ∧ q = -2 ∧ ct' = ct) ∨ ((((0 : Int) ≤ x.toInt ∧ x.toInt ≤ 1000000) ∧ ((1 : Int) ≤ y.toInt ∧ y.toInt ≤ 1000000)) ∧ ∃ u v : Nat, x = nI u ∧ y = nI v ∧ (∃ r' : Nat, q = nI r' ∧ r' ≤ kn ∧ (∀ j, j < r' → nv pu (40 * (ordS (ltF (fun i => nv pu (40 * i)) (fun i => nv pw (40 * i))) o kn) j) * v * (kn - j) ≤ nv pw (40 * (ordS (ltF (fun i => nv pu (40 * i)) (fun i => nv pw (40 * i))) o kn) j) * u) ∧ (r' < kn → ¬ nv pu (40 * (ordS (ltF (fun i => nv pu (40 * i)) (fun i => nv pw (40 * i))) o kn) r') * v * (kn - r') ≤ nv pw (40 * (ordS (ltF (fun i => nv pu (40 * i)) (fun i => nv pw (40 * i))) o kn) r') * u)) ∧ ct' 28 = .inl (B.2.1 0, 12, .inl (nF (ordS (ltF (fun i => nv pu (40 * i)) (fun i => nv pw (40 * i))) o kn))) ∧ (∃ go' gt' xa' xb', ct' 3 = .inl (B.2.1 0, 40, .inl (nF go')) ∧ ct' 4 = .inl (B.2.1 0, 40, .inl (nF gt')) ∧ ct' 29 = .inl (B.2.1 0, 80, .inl (nF xa')) ∧ ct' 30 = .inl (B.2.1 0, 80, .inl (nF xb'))) ∧ ∀ r, r ≠ 3 → r ≠ 4 → r ≠ 28 → r ≠ 29 → r ≠ 30 → ct' r = ct r))) := by
  refine Ctr.ofG (L := [(0, .ref (ad 0)), (1, .int x), (2, .int y)]) (by decide +kernel) rfl (Nat.le_of_ble_eq_true rfl) (fun E fx rt hnm => ?_)
  refine g_iload_n fx 1 dX12_rejected_0 rfl ?_
  refine g_iload_n fx 2 dX12_rejected_1 rfl ?_
  refine g_callSip (As := [.int x, .int y]) (rest := []) fx slX12_299 (c_X12_isLevel B ad ct n x y) rfl rfl (Nat.le_of_ble_eq_true rfl) ⟨by decide, by decide⟩ ⟨by decide, by decide⟩ dX12_rejected_2 (fun q1 hq1 => ?_)
  refine g_if_eq fx 17 dX12_rejected_5 (by decide) (fun c5 => ?_) (fun c5 => ?_)
  · skip
    have hA := if01_z.mp (hq1 ▸ c5)
    refine g_bipush (v := (-2)) fx dX12_rejected_17 (by decide +kernel) ?_
    refine g_iret fx rt dX12_rejected_19 ?_
    refine gPi.mk ?_
    first | exact Or.inl ⟨hA, rfl, rfl⟩ | exact Or.inr ⟨hL, u, v, exu, eyv, hq2⟩
  · skip
    have hL := if01_n.mp (hq1 ▸ c5)
    obtain ⟨u, hu, exu⟩ := toN hL.1 (by omega)
    obtain ⟨v, hv, eyv⟩ := toN hL.2 (by omega)
    refine g_relocal (L' := [(0, .ref (ad 0)), (1, .int (nI u)), (2, .int (nI v))]) (by rw [exu, eyv]) ?_
    refine g_aload_n fx 0 dX12_rejected_8 rfl ?_
    refine g_iload_n fx 1 dX12_rejected_9 rfl ?_
    refine g_iload_n fx 2 dX12_rejected_10 rfl ?_
    refine g_callVi (As := [.int (nI u), .int (nI v)]) (rest := []) fx slX12_315 (c_X12_findRejected B ad ct n f go gt pu pw o xa xb hn h0 ho hg hp hr hod hx hy kn hkn hkn12 hok u v (by omega) (by omega)) (by omega) h0 rfl rfl rfl (Nat.le_of_ble_eq_true rfl) ⟨by decide, by decide⟩ ⟨by decide, by decide⟩ dX12_rejected_11 (fun q2 ct1 hq2 => ?_)
    refine g_goto fx 19 dX12_rejected_14 (by decide) ?_
    refine g_iret fx rt dX12_rejected_19 ?_
    refine gPi.mk ?_
    first | exact Or.inl ⟨hA, rfl, rfl⟩ | exact Or.inr ⟨hL, u, v, exu, eyv, hq2⟩
set_option maxHeartbeats 4000000 in
set_option maxRecDepth 100000 in
theorem c_X12_isRejected (B : gB) (ad : Nat → Nat) (ct : Nat → va_E) (n : Nat) (f : Nat → Int32) (go gt pu pw o xa xb : Nat → Nat) (hn : 33 ≤ n) (h0 : ct 0 = mObj ad f) (ho : ct 3 = .inl (B.2.1 0, 40, .inl (nF go))) (hg : ct 4 = .inl (B.2.1 0, 40, .inl (nF gt))) (hp : ct 26 = .inl (B.2.1 0, 480, .inl (nF pu))) (hr : ct 27 = .inl (B.2.1 0, 480, .inl (nF pw))) (hod : ct 28 = .inl (B.2.1 0, 12, .inl (nF o))) (hx : ct 29 = .inl (B.2.1 0, 80, .inl (nF xa))) (hy : ct 30 = .inl (B.2.1 0, 80, .inl (nF xb))) (kn : Nat) (hkn : f 40 = nI kn) (hkn12 : kn ≤ 12) (hok : ∀ i, i < kn → okN pu (40 * i) ∧ okN pw (40 * i) ∧ nv pu (40 * i) < 2 ^ 700 ∧ nv pw (40 * i) < 2 ^ 700) (x y z : Int32) : Ctr B yX12_isRejected cX12_isRejected 7 (some .int) 3 81 0 0 ad ct n [.ref (ad 0), .int x, .int y, .int z] (gPi ad n (fun q ct' => (¬ ((0 : Int) ≤ x.toInt ∧ x.toInt ≤ (kn : Int) - 1) ∧ q = -1 ∧ ct' = ct) ∨ (((0 : Int) ≤ x.toInt ∧ x.toInt ≤ (kn : Int) - 1) ∧ ¬ (((0 : Int) ≤ y.toInt ∧ y.toInt ≤ 1000000) ∧ ((1 : Int) ≤ z.toInt ∧ z.toInt ≤ 1000000)) ∧ q = -2 ∧ ct' = ct) ∨ (((0 : Int) ≤ x.toInt ∧ x.toInt ≤ (kn : Int) - 1) ∧ (((0 : Int) ≤ y.toInt ∧ y.toInt ≤ 1000000) ∧ ((1 : Int) ≤ z.toInt ∧ z.toInt ≤ 1000000)) ∧ ∃ i u v : Nat, x = nI i ∧ i < kn ∧ y = nI u ∧ z = nI v ∧ (∃ r' : Nat, r' ≤ kn ∧ (∀ j, j < r' → nv pu (40 * (ordS (ltF (fun i => nv pu (40 * i)) (fun i => nv pw (40 * i))) o kn) j) * v * (kn - j) ≤ nv pw (40 * (ordS (ltF (fun i => nv pu (40 * i)) (fun i => nv pw (40 * i))) o kn) j) * u) ∧ (r' < kn → ¬ nv pu (40 * (ordS (ltF (fun i => nv pu (40 * i)) (fun i => nv pw (40 * i))) o kn) r') * v * (kn - r') ≤ nv pw (40 * (ordS (ltF (fun i => nv pu (40 * i)) (fun i => nv pw (40 * i))) o kn) r') * u) ∧ q = if hasF (ordS (ltF (fun i => nv pu (40 * i)) (fun i => nv pw (40 * i))) o kn) i r' then 1 else 0) ∧ ct' 28 = .inl (B.2.1 0, 12, .inl (nF (ordS (ltF (fun i => nv pu (40 * i)) (fun i => nv pw (40 * i))) o kn))) ∧ (∃ go' gt' xa' xb', ct' 3 = .inl (B.2.1 0, 40, .inl (nF go')) ∧ ct' 4 = .inl (B.2.1 0, 40, .inl (nF gt')) ∧ ct' 29 = .inl (B.2.1 0, 80, .inl (nF xa')) ∧ ct' 30 = .inl (B.2.1 0, 80, .inl (nF xb'))) ∧ ∀ r, r ≠ 3 → r ≠ 4 → r ≠ 28 → r ≠ 29 → r ≠ 30 → ct' r = ct r))) := by
  refine Ctr.ofG (L := [(0, .ref (ad 0)), (1, .int x), (2, .int y), (3, .int z)]) (by decide +kernel) rfl (Nat.le_of_ble_eq_true rfl) (fun E fx rt hnm => ?_)
  refine g_iload_n fx 1 dX12_isRejected_0 rfl ?_
  refine g_i2l fx dX12_isRejected_1 ?_
  refine g_lconst (v := lN 0) fx dX12_isRejected_2 (by decide +kernel) ?_
  refine g_aload_n fx 0 dX12_isRejected_3 rfl ?_
  refine g_get (r := 0) fx lkX12_184 (by omega) h0 rfl dX12_isRejected_4 ?_
  refine g_isi (y := nI kn) hkn ?_
  refine g_iconst (v := nI 1) fx dX12_isRejected_7 (by decide +kernel) ?_
  refine g_isub fx dX12_isRejected_8 ?_
  refine g_i2l fx dX12_isRejected_9 ?_
  refine g_callSip (As := [.long x.toInt64, .long (lN 0), .long (((nI kn) - (nI 1)).toInt64)]) (rest := []) fx slX12_159 (c_in B ad ct n x (lN 0) (nI kn - nI 1).toInt64 0 ((kn : Int) - 1) (by decide) (rm1 (by omega))) rfl rfl (Nat.le_of_ble_eq_true rfl) ⟨by decide, by decide⟩ ⟨by decide, by decide⟩ dX12_isRejected_10 (fun q1 hq1 => ?_)
  refine g_if_ne fx 18 dX12_isRejected_13 (by decide) (fun c13 => ?_) (fun c13 => ?_)
  · skip
    have hN := if01_n.mp (hq1 ▸ c13)
    obtain ⟨i, hi, exi⟩ := toN hN (by omega)
    refine g_relocal (L' := [(0, .ref (ad 0)), (1, .int (nI i)), (2, .int y), (3, .int z)]) (by rw [exi]) ?_
    refine g_iload_n fx 2 dX12_isRejected_18 rfl ?_
    refine g_iload_n fx 3 dX12_isRejected_19 rfl ?_
    refine g_callSip (As := [.int y, .int z]) (rest := []) fx slX12_299 (c_X12_isLevel B ad ct n y z) rfl rfl (Nat.le_of_ble_eq_true rfl) ⟨by decide, by decide⟩ ⟨by decide, by decide⟩ dX12_isRejected_20 (fun q2 hq2 => ?_)
    refine g_if_ne fx 29 dX12_isRejected_23 (by decide) (fun c23 => ?_) (fun c23 => ?_)
    · skip
      have hL := if01_n.mp (hq2 ▸ c23)
      obtain ⟨u, hu, eyu⟩ := toN hL.1 (by omega)
      obtain ⟨v, hv, ezv⟩ := toN hL.2 (by omega)
      refine g_relocal (L' := [(0, .ref (ad 0)), (1, .int (nI i)), (2, .int (nI u)), (3, .int (nI v))]) (by rw [eyu, ezv]) ?_
      refine g_aload_n fx 0 dX12_isRejected_29 rfl ?_
      refine g_iload_n fx 2 dX12_isRejected_30 rfl ?_
      refine g_iload_n fx 3 dX12_isRejected_31 rfl ?_
      refine g_callVi (As := [.int (nI u), .int (nI v)]) (rest := []) fx slX12_315 (c_X12_findRejected B ad ct n f go gt pu pw o xa xb hn h0 ho hg hp hr hod hx hy kn hkn hkn12 hok u v (by omega) (by omega)) (by omega) h0 rfl rfl rfl (Nat.le_of_ble_eq_true rfl) ⟨by decide, by decide⟩ ⟨by decide, by decide⟩ dX12_isRejected_32 (fun q3 ct1 hq3 => ?_)
      obtain ⟨⟨m, rfl, hm, hgd, hend⟩, hod, hscr, hfr⟩ := hq3
      have h0 : ct1 0 = mObj ad f := (hfr 0 (by decide) (by decide) (by decide) (by decide) (by decide)).trans h0
      refine g_istore (L' := [(4, .int (nI m)), (0, .ref (ad 0)), (1, .int (nI i)), (2, .int (nI u)), (3, .int (nI v))]) fx dX12_isRejected_35 (by decide) rfl ?_
      refine g_iconst (v := nI 0) fx dX12_isRejected_37 (by decide +kernel) ?_
      refine g_istore (L' := [(5, .int (nI 0)), (4, .int (nI m)), (0, .ref (ad 0)), (1, .int (nI i)), (2, .int (nI u)), (3, .int (nI v))]) fx dX12_isRejected_38 (by decide) rfl ?_
      refine g_iconst (v := nI 0) fx dX12_isRejected_40 (by decide +kernel) ?_
      refine g_istore (L' := [(6, .int (nI 0)), (5, .int (nI 0)), (4, .int (nI m)), (0, .ref (ad 0)), (1, .int (nI i)), (2, .int (nI u)), (3, .int (nI v))]) fx dX12_isRejected_41 (by decide) rfl ?_
      have LP43 : ∀ (M : Nat) (k : Nat), (k ≤ m) →  (m - k) < M → G B 7 E ad ct1 n 0 0 [(0, .ref (ad 0)), (1, .int (nI i)), (4, .int (nI m)), (5, .int (if hasF (ordS (ltF (fun i => nv pu (40 * i)) (fun i => nv pw (40 * i))) o kn) i k then 1 else 0)), (6, .int (nI k))] 43 [] := by
        intro M
        induction M with
        | zero => intro k _ hM; exact absurd hM (Nat.not_lt_zero _)
        | succ M ih =>
          intro k hk hM
          have ih43 := ih
          refine g_iload fx 4 dX12_isRejected_43 rfl ?_
          refine g_iload fx 2 dX12_isRejected_45 rfl ?_
          refine g_icmp_ge fx 75 dX12_isRejected_47 (by decide) (fun c47 => ?_) (fun c47 => ?_)
          · skip
            have hkm : k = m := by have := (nI_leI (by omega) (by omega)).mp c47; omega
            refine g_iload fx 3 dX12_isRejected_75 rfl ?_
            refine g_iret fx rt dX12_isRejected_77 ?_
            refine gPi.mk (Or.inr (Or.inr ⟨hN, hL, i, u, v, exi, by omega, eyu, ezv, ⟨m, hm, hgd, hend, ?_⟩, hod, hscr, hfr⟩))
            rw [hkm]
          · skip
            have hlt2 : k < m := by have := (nI_ltI (by omega) (by omega)).mp (Int32.not_le.mp c47); omega
            have hok2 : (ordS (ltF (fun i => nv pu (40 * i)) (fun i => nv pw (40 * i))) o kn) k < kn := ordS_lt kn k (by omega)
            refine g_aload_n fx 0 dX12_isRejected_50 rfl ?_
            refine g_get (r := 0) fx lkX12_100 (by omega) h0 rfl dX12_isRejected_51 ?_
            refine g_iload fx 4 dX12_isRejected_54 rfl ?_
            refine g_iald (r := 28) (j := k) fx (by omega) hod (nI_toInt (by omega)) (by omega) dX12_isRejected_56 ?_
            refine g_isi (y := nI ((ordS (ltF (fun i => nv pu (40 * i)) (fun i => nv pw (40 * i))) o kn) k)) rfl ?_
            refine g_iload_n fx 1 dX12_isRejected_57 rfl ?_
            refine g_icmp_ne fx 65 dX12_isRejected_58 (by decide) (fun c58 => ?_) (fun c58 => ?_)
            · skip
              have hne : ¬ (ordS (ltF (fun i => nv pu (40 * i)) (fun i => nv pw (40 * i))) o kn) k = i := fun q => c58 (by rw [q])
              refine g_iload fx 3 dX12_isRejected_65 rfl ?_
              refine g_isi (y := if hasF (ordS (ltF (fun i => nv pu (40 * i)) (fun i => nv pw (40 * i))) o kn) i (k + 1) then 1 else 0) (by first | (rw [hasF_t heq, if_pos rfl]; rfl) | (rw [hasF_f hne])) ?_
              refine g_istore (L' := [(5, .int (if hasF (ordS (ltF (fun i => nv pu (40 * i)) (fun i => nv pw (40 * i))) o kn) i (k + 1) then 1 else 0)), (0, .ref (ad 0)), (1, .int (nI i)), (4, .int (nI m)), (6, .int (nI k))]) fx dX12_isRejected_67 (by decide) rfl ?_
              refine g_iinc (L' := [(6, .int (nI (k + 1))), (5, .int (if hasF (ordS (ltF (fun i => nv pu (40 * i)) (fun i => nv pw (40 * i))) o kn) i (k + 1) then 1 else 0)), (0, .ref (ad 0)), (1, .int (nI i)), (4, .int (nI m))]) fx (nI (k + 1)) 4 dX12_isRejected_69 rfl (gInc _) (by decide) rfl ?_
              refine g_goto fx 43 dX12_isRejected_72 (by decide) ?_
              refine g_locals (L' := [(0, .ref (ad 0)), (1, .int (nI i)), (4, .int (nI m)), (5, .int (if hasF (ordS (ltF (fun i => nv pu (40 * i)) (fun i => nv pw (40 * i))) o kn) i (k + 1) then 1 else 0)), (6, .int (nI (k + 1)))]) [2, 3, 4, 1, 0] rfl ?_
              exact ih (k + 1) hlt2 (by omega)
            · skip
              have heq : (ordS (ltF (fun i => nv pu (40 * i)) (fun i => nv pw (40 * i))) o kn) k = i := (nI_eq (by omega) (by omega)).mp c58
              refine g_iconst (v := nI 1) fx dX12_isRejected_61 (by decide +kernel) ?_
              refine g_goto fx 67 dX12_isRejected_62 (by decide) ?_
              refine g_isi (y := if hasF (ordS (ltF (fun i => nv pu (40 * i)) (fun i => nv pw (40 * i))) o kn) i (k + 1) then 1 else 0) (by first | (rw [hasF_t heq, if_pos rfl]; rfl) | (rw [hasF_f hne])) ?_
              refine g_istore (L' := [(5, .int (if hasF (ordS (ltF (fun i => nv pu (40 * i)) (fun i => nv pw (40 * i))) o kn) i (k + 1) then 1 else 0)), (0, .ref (ad 0)), (1, .int (nI i)), (4, .int (nI m)), (6, .int (nI k))]) fx dX12_isRejected_67 (by decide) rfl ?_
              refine g_iinc (L' := [(6, .int (nI (k + 1))), (5, .int (if hasF (ordS (ltF (fun i => nv pu (40 * i)) (fun i => nv pw (40 * i))) o kn) i (k + 1) then 1 else 0)), (0, .ref (ad 0)), (1, .int (nI i)), (4, .int (nI m))]) fx (nI (k + 1)) 4 dX12_isRejected_69 rfl (gInc _) (by decide) rfl ?_
              refine g_goto fx 43 dX12_isRejected_72 (by decide) ?_
              refine g_locals (L' := [(0, .ref (ad 0)), (1, .int (nI i)), (4, .int (nI m)), (5, .int (if hasF (ordS (ltF (fun i => nv pu (40 * i)) (fun i => nv pw (40 * i))) o kn) i (k + 1) then 1 else 0)), (6, .int (nI (k + 1)))]) [2, 3, 4, 1, 0] rfl ?_
              exact ih (k + 1) hlt2 (by omega)
      refine g_locals (L' := [(0, .ref (ad 0)), (1, .int (nI i)), (4, .int (nI m)), (5, .int (nI 0)), (6, .int (nI 0))]) [3, 4, 2, 1, 0] rfl ?_
      exact LP43 (m + 1) 0 (by omega) (by omega)
    · skip
      have hA := if01_z.mp (hq2 ▸ c23)
      refine g_bipush (v := (-2)) fx dX12_isRejected_26 (by decide +kernel) ?_
      refine g_iret fx rt dX12_isRejected_28 ?_
      exact gPi.mk (Or.inr (Or.inl ⟨hN, hA, rfl, rfl⟩))
  · skip
    have hA := if01_z.mp (hq1 ▸ c13)
    refine g_iconst (v := (-1)) fx dX12_isRejected_16 (by decide +kernel) ?_
    refine g_iret fx rt dX12_isRejected_17 ?_
    exact gPi.mk (Or.inl ⟨hA, rfl, rfl⟩)
