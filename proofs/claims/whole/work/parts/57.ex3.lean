theorem nb180 {v : Nat} (h : v < 2 ^ 180) : nbits v ≤ 180 := nbits_le h
theorem min_nI {a b : Nat} (ha : a < 2 ^ 31) (hb : b < 2 ^ 31) : (if nI b < nI a then nI b else nI a) = nI (min a b) := by
  by_cases q : b < a
  · rw [if_pos ((nI_ltI hb ha).mpr q), Nat.min_eq_right (by omega)]
  · rw [if_neg (fun w => q ((nI_ltI hb ha).mp w)), Nat.min_eq_left (by omega)]
set_option maxHeartbeats 4000000 in
set_option maxRecDepth 100000 in
theorem c_X11_sample (B : gB) (ad : Nat → Nat) (ct : Nat → va_E) (n : Nat) (hn : 178 ≤ n) (hx : ct 0 = .inr (11, [.ref (ad 1), .ref (ad 3), .ref (ad 5), .ref (ad 7), .ref (ad 9), .ref (ad 11), .ref (ad 79), .ref (ad 81), .ref (ad 88), .ref (ad 110), .ref (ad 115)])) (kA : Nat) (fA : Nat → Int32) (hA : ct 3 = .inr (5, [.ref (ad 4), .int (nI kA)])) (hAr : ct 4 = .inl (B.2.1 0, 15, .inl fA)) (hAk : kA ≤ 15) (kB : Nat) (fB : Nat → Int32) (hB : ct 5 = .inr (5, [.ref (ad 6), .int (nI kB)])) (hBr : ct 6 = .inl (B.2.1 0, 15, .inl fB)) (hBk : kB ≤ 15) (x v : Int32) : Ctr B yX11_sample cX11_sample 4 (some .int) 2 41 0 0 ad ct n [.ref (ad 0), .int x, .int v] (gPi ad n (fun q ct' => (¬ ((0 : Int) ≤ x.toInt ∧ x.toInt ≤ 1) ∧ q = -1 ∧ ct' = ct) ∨ (((0 : Int) ≤ x.toInt ∧ x.toInt ≤ 1) ∧ ¬ ((-1000 : Int) ≤ v.toInt ∧ v.toInt ≤ 1000) ∧ q = -2 ∧ ct' = ct) ∨ (((-1000 : Int) ≤ v.toInt ∧ v.toInt ≤ 1000) ∧ ((x = nI 0 ∧ ((kA = 15 ∧ q = -4 ∧ ct' = ct) ∨ (kA < 15 ∧ q = nI (kA + 1) ∧ ct' = va_up (va_up ct 4 (.inl (B.2.1 0, 15, .inl (va_up fA kA v)))) 3 (.inr (5, [.ref (ad 4), .int (nI (kA + 1))]))))) ∨ (x = nI 1 ∧ ((kB = 15 ∧ q = -4 ∧ ct' = ct) ∨ (kB < 15 ∧ q = nI (kB + 1) ∧ ct' = va_up (va_up ct 6 (.inl (B.2.1 0, 15, .inl (va_up fB kB v)))) 5 (.inr (5, [.ref (ad 6), .int (nI (kB + 1))]))))))))) := by
  refine Ctr.ofG (L := [(0, .ref (ad 0)), (1, .int x), (2, .int v)]) (by decide +kernel) rfl (Nat.le_of_ble_eq_true rfl) (fun E fx rt hnm => ?_)
  refine g_iload_n fx 1 dX11_sample_0 rfl ?_
  refine g_if_eq fx 11 dX11_sample_1 (by decide) (fun c1 => ?_) (fun c1 => ?_)
  · skip
    have hx0 : x = 0 := c1
    have hX : (0 : Int) ≤ x.toInt ∧ x.toInt ≤ 1 := by have := eq0_t.mp c1; omega
    refine g_iload_n fx 2 dX11_sample_11 rfl ?_
    refine g_sipush (v := (-1000)) fx dX11_sample_12 (by decide +kernel) ?_
    refine g_sipush (v := nI 1000) fx dX11_sample_15 (by decide +kernel) ?_
    refine g_callSip (As := [.int v, .int (-1000), .int (nI 1000)]) (rest := []) fx slX11_78 (c_X11_within B ad ct n v (-1000) (nI 1000) (-1000) 1000 (by decide +kernel) (by decide +kernel)) rfl rfl (Nat.le_of_ble_eq_true rfl) ⟨by decide, by decide⟩ ⟨by decide, by decide⟩ dX11_sample_18 (fun q1 hq1 => ?_)
    refine g_if_ne fx 27 dX11_sample_21 (by decide) (fun c21 => ?_) (fun c21 => ?_)
    · skip
      have hV := if01_n.mp (hq1 ▸ c21)
      refine g_iload_n fx 1 dX11_sample_27 rfl ?_
      refine g_if_ne fx 38 dX11_sample_28 (by decide) (fun c28 => ?_) (fun c28 => ?_)
      · exact absurd hx0 c28
      refine g_aload_n fx 0 dX11_sample_31 rfl ?_
      refine g_get (r := 0) fx lkX11_21 (by omega) hx rfl dX11_sample_32 ?_
      refine g_goto fx 42 dX11_sample_35 (by decide) ?_
      refine g_astore_n (L' := [(3, .ref (ad 3)), (0, .ref (ad 0)), (1, .int x), (2, .int v)]) fx dX11_sample_42 (by decide) rfl ?_
      refine g_aload_n fx 0 dX11_sample_43 rfl ?_
      refine g_callVip (As := []) (rest := []) fx slX11_112 (c_X5_isFull B ad ct n 3 15 kA fA (by omega) hAk (by decide) hA hAr) (by omega) hA rfl rfl rfl (Nat.le_of_ble_eq_true rfl) ⟨by decide, by decide⟩ ⟨by decide, by decide⟩ dX11_sample_44 (fun qf hqf => ?_)
      refine g_if_eq fx 55 dX11_sample_47 (by decide) (fun c47 => ?_) (fun c47 => ?_)
      · skip
        have hnf : ¬ 15 ≤ kA := if01_z.mp (hqf ▸ c47)
        refine g_aload_n fx 0 dX11_sample_55 rfl ?_
        refine g_iload_n fx 3 dX11_sample_56 rfl ?_
        refine g_callVi (As := [.int v]) (rest := []) fx slX11_116 (c_X5_add B ad ct n 3 15 kA fA (by omega) hAk (by decide) hA hAr v) (by omega) hA rfl rfl rfl (Nat.le_of_ble_eq_true rfl) ⟨by decide, by decide⟩ ⟨by decide, by decide⟩ dX11_sample_57 (fun qa ct1 hqa => ?_)
        rw [if_neg hnf] at hqa
        refine g_iret fx rt dX11_sample_60 ?_
        refine gPi.mk (Or.inr (Or.inr ⟨hV, Or.inl ⟨hx0, ?_⟩⟩))
        first | exact Or.inl ⟨by omega, rfl, rfl⟩ | exact Or.inr ⟨by omega, hqa.1, hqa.2⟩
      · skip
        have hfl : 15 ≤ kA := if01_n.mp (hqf ▸ c47)
        refine g_bipush (v := (-4)) fx dX11_sample_50 (by decide +kernel) ?_
        refine g_goto fx 60 dX11_sample_52 (by decide) ?_
        refine g_iret fx rt dX11_sample_60 ?_
        refine gPi.mk (Or.inr (Or.inr ⟨hV, Or.inl ⟨hx0, ?_⟩⟩))
        first | exact Or.inl ⟨by omega, rfl, rfl⟩ | exact Or.inr ⟨by omega, hqa.1, hqa.2⟩
    · skip
      have hV := if01_z.mp (hq1 ▸ c21)
      refine g_bipush (v := (-2)) fx dX11_sample_24 (by decide +kernel) ?_
      refine g_iret fx rt dX11_sample_26 ?_
      exact gPi.mk (Or.inr (Or.inl ⟨hX, hV, rfl, rfl⟩))
  · skip
    refine g_iload_n fx 1 dX11_sample_4 rfl ?_
    refine g_iconst (v := nI 1) fx dX11_sample_5 (by decide +kernel) ?_
    refine g_icmp_eq fx 11 dX11_sample_6 (by decide) (fun c6 => ?_) (fun c6 => ?_)
    · skip
      have hx1 : x = nI 1 := c6
      have hX : (0 : Int) ≤ x.toInt ∧ x.toInt ≤ 1 := by have := eq1_t.mp c6; omega
      refine g_iload_n fx 2 dX11_sample_11 rfl ?_
      refine g_sipush (v := (-1000)) fx dX11_sample_12 (by decide +kernel) ?_
      refine g_sipush (v := nI 1000) fx dX11_sample_15 (by decide +kernel) ?_
      refine g_callSip (As := [.int v, .int (-1000), .int (nI 1000)]) (rest := []) fx slX11_78 (c_X11_within B ad ct n v (-1000) (nI 1000) (-1000) 1000 (by decide +kernel) (by decide +kernel)) rfl rfl (Nat.le_of_ble_eq_true rfl) ⟨by decide, by decide⟩ ⟨by decide, by decide⟩ dX11_sample_18 (fun q1 hq1 => ?_)
      refine g_if_ne fx 27 dX11_sample_21 (by decide) (fun c21 => ?_) (fun c21 => ?_)
      · skip
        have hV := if01_n.mp (hq1 ▸ c21)
        refine g_iload_n fx 1 dX11_sample_27 rfl ?_
        refine g_if_ne fx 38 dX11_sample_28 (by decide) (fun c28 => ?_) (fun c28 => ?_)
        rotate_left
        · exact absurd (c28.symm.trans hx1) (by decide)
        refine g_aload_n fx 0 dX11_sample_38 rfl ?_
        refine g_get (r := 0) fx lkX11_25 (by omega) hx rfl dX11_sample_39 ?_
        refine g_astore_n (L' := [(3, .ref (ad 5)), (0, .ref (ad 0)), (1, .int x), (2, .int v)]) fx dX11_sample_42 (by decide) rfl ?_
        refine g_aload_n fx 0 dX11_sample_43 rfl ?_
        refine g_callVip (As := []) (rest := []) fx slX11_112 (c_X5_isFull B ad ct n 5 15 kB fB (by omega) hBk (by decide) hB hBr) (by omega) hB rfl rfl rfl (Nat.le_of_ble_eq_true rfl) ⟨by decide, by decide⟩ ⟨by decide, by decide⟩ dX11_sample_44 (fun qf hqf => ?_)
        refine g_if_eq fx 55 dX11_sample_47 (by decide) (fun c47 => ?_) (fun c47 => ?_)
        · skip
          have hnf : ¬ 15 ≤ kB := if01_z.mp (hqf ▸ c47)
          refine g_aload_n fx 0 dX11_sample_55 rfl ?_
          refine g_iload_n fx 3 dX11_sample_56 rfl ?_
          refine g_callVi (As := [.int v]) (rest := []) fx slX11_116 (c_X5_add B ad ct n 5 15 kB fB (by omega) hBk (by decide) hB hBr v) (by omega) hB rfl rfl rfl (Nat.le_of_ble_eq_true rfl) ⟨by decide, by decide⟩ ⟨by decide, by decide⟩ dX11_sample_57 (fun qa ct1 hqa => ?_)
          rw [if_neg hnf] at hqa
          refine g_iret fx rt dX11_sample_60 ?_
          refine gPi.mk (Or.inr (Or.inr ⟨hV, Or.inr ⟨hx1, ?_⟩⟩))
          first | exact Or.inl ⟨by omega, rfl, rfl⟩ | exact Or.inr ⟨by omega, hqa.1, hqa.2⟩
        · skip
          have hfl : 15 ≤ kB := if01_n.mp (hqf ▸ c47)
          refine g_bipush (v := (-4)) fx dX11_sample_50 (by decide +kernel) ?_
          refine g_goto fx 60 dX11_sample_52 (by decide) ?_
          refine g_iret fx rt dX11_sample_60 ?_
          refine gPi.mk (Or.inr (Or.inr ⟨hV, Or.inr ⟨hx1, ?_⟩⟩))
          first | exact Or.inl ⟨by omega, rfl, rfl⟩ | exact Or.inr ⟨by omega, hqa.1, hqa.2⟩
      · skip
        have hV := if01_z.mp (hq1 ▸ c21)
        refine g_bipush (v := (-2)) fx dX11_sample_24 (by decide +kernel) ?_
        refine g_iret fx rt dX11_sample_26 ?_
        exact gPi.mk (Or.inr (Or.inl ⟨hX, hV, rfl, rfl⟩))
    · skip
      have hA : ¬ ((0 : Int) ≤ x.toInt ∧ x.toInt ≤ 1) := fun w => by have h0 : ¬ x.toInt = 0 := fun q => c1 (eq0_t.mpr q); have h1 : ¬ x.toInt = 1 := fun q => c6 (eq1_t.mpr q); omega
      refine g_iconst (v := (-1)) fx dX11_sample_9 (by decide +kernel) ?_
      refine g_iret fx rt dX11_sample_10 ?_
      exact gPi.mk (Or.inl ⟨hA, rfl, rfl⟩)
set_option maxHeartbeats 4000000 in
set_option maxRecDepth 100000 in
theorem c_X11_pair (B : gB) (ad : Nat → Nat) (ct : Nat → va_E) (n : Nat) (hn : 178 ≤ n) (hx : ct 0 = .inr (11, [.ref (ad 1), .ref (ad 3), .ref (ad 5), .ref (ad 7), .ref (ad 9), .ref (ad 11), .ref (ad 79), .ref (ad 81), .ref (ad 88), .ref (ad 110), .ref (ad 115)])) (kD : Nat) (fD : Nat → Int32) (hD : ct 7 = .inr (5, [.ref (ad 8), .int (nI kD)])) (hDr : ct 8 = .inl (B.2.1 0, 30, .inl fD)) (hDk : kD ≤ 30) (x y : Int32) : Ctr B yX11_pair cX11_pair 3 (some .int) 2 41 0 0 ad ct n [.ref (ad 0), .int x, .int y] (gPi ad n (fun q ct' => (¬ (((-1000 : Int) ≤ x.toInt ∧ x.toInt ≤ 1000) ∧ ((-1000 : Int) ≤ y.toInt ∧ y.toInt ≤ 1000)) ∧ q = -2 ∧ ct' = ct) ∨ ((((-1000 : Int) ≤ x.toInt ∧ x.toInt ≤ 1000) ∧ ((-1000 : Int) ≤ y.toInt ∧ y.toInt ≤ 1000)) ∧ ((kD = 30 ∧ q = -4 ∧ ct' = ct) ∨ (kD < 30 ∧ q = nI (kD + 1) ∧ ct' = va_up (va_up ct 8 (.inl (B.2.1 0, 30, .inl (va_up fD kD (x - y))))) 7 (.inr (5, [.ref (ad 8), .int (nI (kD + 1))]))))))) := by
  refine Ctr.ofG (L := [(0, .ref (ad 0)), (1, .int x), (2, .int y)]) (by decide +kernel) rfl (Nat.le_of_ble_eq_true rfl) (fun E fx rt hnm => ?_)
  refine g_iload_n fx 1 dX11_pair_0 rfl ?_
  refine g_sipush (v := (-1000)) fx dX11_pair_1 (by decide +kernel) ?_
  refine g_sipush (v := nI 1000) fx dX11_pair_4 (by decide +kernel) ?_
  refine g_callSip (As := [.int x, .int (-1000), .int (nI 1000)]) (rest := []) fx slX11_78 (c_X11_within B ad ct n x (-1000) (nI 1000) (-1000) 1000 (by decide +kernel) (by decide +kernel)) rfl rfl (Nat.le_of_ble_eq_true rfl) ⟨by decide, by decide⟩ ⟨by decide, by decide⟩ dX11_pair_7 (fun q1 hq1 => ?_)
  refine g_if_eq fx 26 dX11_pair_10 (by decide) (fun c10 => ?_) (fun c10 => ?_)
  · skip
    have hA : ¬ (((-1000 : Int) ≤ x.toInt ∧ x.toInt ≤ 1000) ∧ ((-1000 : Int) ≤ y.toInt ∧ y.toInt ≤ 1000)) := fun w => if01_z.mp (hq1 ▸ c10) w.1
    refine g_bipush (v := (-2)) fx dX11_pair_26 (by decide +kernel) ?_
    refine g_iret fx rt dX11_pair_28 ?_
    exact gPi.mk (Or.inl ⟨hA, rfl, rfl⟩)
  · skip
    have hx1 := if01_n.mp (hq1 ▸ c10)
    refine g_iload_n fx 2 dX11_pair_13 rfl ?_
    refine g_sipush (v := (-1000)) fx dX11_pair_14 (by decide +kernel) ?_
    refine g_sipush (v := nI 1000) fx dX11_pair_17 (by decide +kernel) ?_
    refine g_callSip (As := [.int y, .int (-1000), .int (nI 1000)]) (rest := []) fx slX11_78 (c_X11_within B ad ct n y (-1000) (nI 1000) (-1000) 1000 (by decide +kernel) (by decide +kernel)) rfl rfl (Nat.le_of_ble_eq_true rfl) ⟨by decide, by decide⟩ ⟨by decide, by decide⟩ dX11_pair_20 (fun q2 hq2 => ?_)
    refine g_if_ne fx 29 dX11_pair_23 (by decide) (fun c23 => ?_) (fun c23 => ?_)
    · skip
      have hy1 := if01_n.mp (hq2 ▸ c23)
      refine g_aload_n fx 0 dX11_pair_29 rfl ?_
      refine g_get (r := 0) fx lkX11_28 (by omega) hx rfl dX11_pair_30 ?_
      refine g_callVip (As := []) (rest := []) fx slX11_112 (c_X5_isFull B ad ct n 7 30 kD fD (by omega) hDk (by decide) hD hDr) (by omega) hD rfl rfl rfl (Nat.le_of_ble_eq_true rfl) ⟨by decide, by decide⟩ ⟨by decide, by decide⟩ dX11_pair_33 (fun qf hqf => ?_)
      refine g_if_eq fx 44 dX11_pair_36 (by decide) (fun c36 => ?_) (fun c36 => ?_)
      · skip
        have hnf : ¬ 30 ≤ kD := if01_z.mp (hqf ▸ c36)
        refine g_aload_n fx 0 dX11_pair_44 rfl ?_
        refine g_get (r := 0) fx lkX11_28 (by omega) hx rfl dX11_pair_45 ?_
        refine g_iload_n fx 1 dX11_pair_48 rfl ?_
        refine g_iload_n fx 2 dX11_pair_49 rfl ?_
        refine g_isub fx dX11_pair_50 ?_
        refine g_callVi (As := [.int (x - y)]) (rest := []) fx slX11_116 (c_X5_add B ad ct n 7 30 kD fD (by omega) hDk (by decide) hD hDr (x - y)) (by omega) hD rfl rfl rfl (Nat.le_of_ble_eq_true rfl) ⟨by decide, by decide⟩ ⟨by decide, by decide⟩ dX11_pair_51 (fun qa ct1 hqa => ?_)
        rw [if_neg hnf] at hqa
        refine g_iret fx rt dX11_pair_54 ?_
        refine gPi.mk (Or.inr ⟨⟨hx1, hy1⟩, ?_⟩)
        first | exact Or.inl ⟨by omega, rfl, rfl⟩ | exact Or.inr ⟨by omega, hqa.1, hqa.2⟩
      · skip
        have hfl : 30 ≤ kD := if01_n.mp (hqf ▸ c36)
        refine g_bipush (v := (-4)) fx dX11_pair_39 (by decide +kernel) ?_
        refine g_goto fx 54 dX11_pair_41 (by decide) ?_
        refine g_iret fx rt dX11_pair_54 ?_
        refine gPi.mk (Or.inr ⟨⟨hx1, hy1⟩, ?_⟩)
        first | exact Or.inl ⟨by omega, rfl, rfl⟩ | exact Or.inr ⟨by omega, hqa.1, hqa.2⟩
    · skip
      have hA : ¬ (((-1000 : Int) ≤ x.toInt ∧ x.toInt ≤ 1000) ∧ ((-1000 : Int) ≤ y.toInt ∧ y.toInt ≤ 1000)) := fun w => if01_z.mp (hq2 ▸ c23) w.2
      refine g_bipush (v := (-2)) fx dX11_pair_26 (by decide +kernel) ?_
      refine g_iret fx rt dX11_pair_28 ?_
      exact gPi.mk (Or.inl ⟨hA, rfl, rfl⟩)
set_option maxHeartbeats 4000000 in
set_option maxRecDepth 100000 in
theorem c_X11_claim (B : gB) (ad : Nat → Nat) (ct : Nat → va_E) (n : Nat) (hn : 178 ≤ n) (hx : ct 0 = .inr (11, [.ref (ad 1), .ref (ad 3), .ref (ad 5), .ref (ad 7), .ref (ad 9), .ref (ad 11), .ref (ad 79), .ref (ad 81), .ref (ad 88), .ref (ad 110), .ref (ad 115)])) (kK : Nat) (fK : Nat → Int32) (hK : ct 9 = .inr (5, [.ref (ad 10), .int (nI kK)])) (hKr : ct 10 = .inl (B.2.1 0, 40, .inl fK)) (hKk : kK ≤ 40) (x : Int32) : Ctr B yX11_claim cX11_claim 2 (some .int) 2 41 0 0 ad ct n [.ref (ad 0), .int x] (gPi ad n (fun q ct' => (¬ ((0 : Int) ≤ x.toInt ∧ x.toInt ≤ 65535) ∧ q = -2 ∧ ct' = ct) ∨ (((0 : Int) ≤ x.toInt ∧ x.toInt ≤ 65535) ∧ ((kK = 40 ∧ q = -4 ∧ ct' = ct) ∨ (kK < 40 ∧ q = nI (kK + 1) ∧ ct' = va_up (va_up ct 10 (.inl (B.2.1 0, 40, .inl (va_up fK kK x)))) 9 (.inr (5, [.ref (ad 10), .int (nI (kK + 1))]))))))) := by
  refine Ctr.ofG (L := [(0, .ref (ad 0)), (1, .int x)]) (by decide +kernel) rfl (Nat.le_of_ble_eq_true rfl) (fun E fx rt hnm => ?_)
  refine g_iload_n fx 1 dX11_claim_0 rfl ?_
  refine g_iconst (v := nI 0) fx dX11_claim_1 (by decide +kernel) ?_
  refine g_ldcw fx kcX11_285 dX11_claim_2 ?_
  refine g_callSip (As := [.int x, .int (nI 0), .int 65535]) (rest := []) fx slX11_78 (c_X11_within B ad ct n x (nI 0) 65535 0 65535 (by decide +kernel) (by decide +kernel)) rfl rfl (Nat.le_of_ble_eq_true rfl) ⟨by decide, by decide⟩ ⟨by decide, by decide⟩ dX11_claim_5 (fun q1 hq1 => ?_)
  refine g_if_ne fx 14 dX11_claim_8 (by decide) (fun c8 => ?_) (fun c8 => ?_)
  · skip
    have hx1 := if01_n.mp (hq1 ▸ c8)
    refine g_aload_n fx 0 dX11_claim_14 rfl ?_
    refine g_get (r := 0) fx lkX11_31 (by omega) hx rfl dX11_claim_15 ?_
    refine g_callVip (As := []) (rest := []) fx slX11_112 (c_X5_isFull B ad ct n 9 40 kK fK (by omega) hKk (by decide) hK hKr) (by omega) hK rfl rfl rfl (Nat.le_of_ble_eq_true rfl) ⟨by decide, by decide⟩ ⟨by decide, by decide⟩ dX11_claim_18 (fun qf hqf => ?_)
    refine g_if_eq fx 29 dX11_claim_21 (by decide) (fun c21 => ?_) (fun c21 => ?_)
    · skip
      have hnf : ¬ 40 ≤ kK := if01_z.mp (hqf ▸ c21)
      refine g_aload_n fx 0 dX11_claim_29 rfl ?_
      refine g_get (r := 0) fx lkX11_31 (by omega) hx rfl dX11_claim_30 ?_
      refine g_iload_n fx 1 dX11_claim_33 rfl ?_
      refine g_callVi (As := [.int x]) (rest := []) fx slX11_116 (c_X5_add B ad ct n 9 40 kK fK (by omega) hKk (by decide) hK hKr x) (by omega) hK rfl rfl rfl (Nat.le_of_ble_eq_true rfl) ⟨by decide, by decide⟩ ⟨by decide, by decide⟩ dX11_claim_34 (fun qa ct1 hqa => ?_)
      rw [if_neg hnf] at hqa
      refine g_iret fx rt dX11_claim_37 ?_
      refine gPi.mk (Or.inr ⟨hx1, ?_⟩)
      first | exact Or.inl ⟨by omega, rfl, rfl⟩ | exact Or.inr ⟨by omega, hqa.1, hqa.2⟩
    · skip
      have hfl : 40 ≤ kK := if01_n.mp (hqf ▸ c21)
      refine g_bipush (v := (-4)) fx dX11_claim_24 (by decide +kernel) ?_
      refine g_goto fx 37 dX11_claim_26 (by decide) ?_
      refine g_iret fx rt dX11_claim_37 ?_
      refine gPi.mk (Or.inr ⟨hx1, ?_⟩)
      first | exact Or.inl ⟨by omega, rfl, rfl⟩ | exact Or.inr ⟨by omega, hqa.1, hqa.2⟩
  · skip
    have hA := if01_z.mp (hq1 ▸ c8)
    refine g_bipush (v := (-2)) fx dX11_claim_11 (by decide +kernel) ?_
    refine g_iret fx rt dX11_claim_13 ?_
    exact gPi.mk (Or.inl ⟨hA, rfl, rfl⟩)
set_option maxHeartbeats 4000000 in
set_option maxRecDepth 100000 in
theorem c_X11_clear (B : gB) (ad : Nat → Nat) (ct : Nat → va_E) (n : Nat) (hn : 178 ≤ n) (hx : ct 0 = .inr (11, [.ref (ad 1), .ref (ad 3), .ref (ad 5), .ref (ad 7), .ref (ad 9), .ref (ad 11), .ref (ad 79), .ref (ad 81), .ref (ad 88), .ref (ad 110), .ref (ad 115)])) (kA : Nat) (fA : Nat → Int32) (hA : ct 3 = .inr (5, [.ref (ad 4), .int (nI kA)])) (hAr : ct 4 = .inl (B.2.1 0, 15, .inl fA)) (hAk : kA ≤ 15) (kB : Nat) (fB : Nat → Int32) (hB : ct 5 = .inr (5, [.ref (ad 6), .int (nI kB)])) (hBr : ct 6 = .inl (B.2.1 0, 15, .inl fB)) (hBk : kB ≤ 15) (kD : Nat) (fD : Nat → Int32) (hD : ct 7 = .inr (5, [.ref (ad 8), .int (nI kD)])) (hDr : ct 8 = .inl (B.2.1 0, 30, .inl fD)) (hDk : kD ≤ 30) (kK : Nat) (fK : Nat → Int32) (hK : ct 9 = .inr (5, [.ref (ad 10), .int (nI kK)])) (hKr : ct 10 = .inl (B.2.1 0, 40, .inl fK)) (hKk : kK ≤ 40) (k : Nat) (o : Nat → Nat) (hc : ct 115 = .inr (1, [.ref (ad 116), .ref (ad 117), .ref (ad 110), .int (nI k)])) (hcr : ct 116 = .inl (B.2.1 4, 12, .inr (.inr (.inr (.inr (fun i => some (ad (118 + 5 * i)))))))) (hco : ct 117 = .inl (B.2.1 0, 12, .inl (nF o))) (hk12 : k ≤ 12) (x : Int32) : Ctr B yX11_clear cX11_clear 2 (some .int) 1 21 0 0 ad ct n [.ref (ad 0), .int x] (gPi ad n (fun q ct' => (x.toInt = 0 ∧ q = nI (kA + kB) ∧ ct' = va_up (va_up ct 3 (.inr (5, [.ref (ad 4), .int (nI 0)]))) 5 (.inr (5, [.ref (ad 6), .int (nI 0)]))) ∨ (x.toInt = 1 ∧ q = nI kD ∧ ct' = va_up ct 7 (.inr (5, [.ref (ad 8), .int (nI 0)]))) ∨ (x.toInt = 2 ∧ q = nI k ∧ ct' = va_up ct 115 (.inr (1, [.ref (ad 116), .ref (ad 117), .ref (ad 110), .int (nI 0)]))) ∨ (x.toInt = 3 ∧ q = nI kK ∧ ct' = va_up ct 9 (.inr (5, [.ref (ad 10), .int (nI 0)]))) ∨ ((x.toInt < 0 ∨ 3 < x.toInt) ∧ q = -1 ∧ ct' = ct))) := by
  refine Ctr.ofG (L := [(0, .ref (ad 0)), (1, .int x)]) (by decide +kernel) rfl (Nat.le_of_ble_eq_true rfl) (fun E fx rt hnm => ?_)
  refine g_iload_n fx 1 dX11_clear_0 rfl ?_
  by_cases hsw1 : x.toInt < 0 ∨ 3 < x.toInt
  · refine g_tableOut fx 72 dX11_clear_1 hsw1 (by decide) ?_
    refine g_iconst (v := (-1)) fx dX11_clear_72 (by decide +kernel) ?_
    refine g_iret fx rt dX11_clear_73 ?_
    exact gPi.mk (Or.inr (Or.inr (Or.inr (Or.inr ⟨hsw1, rfl, rfl⟩))))
  · have hsv : x.toInt = 0 ∨ x.toInt = 1 ∨ x.toInt = 2 ∨ x.toInt = 3 := by omega
    rcases hsv with hsv | hsv | hsv | hsv
    · refine g_tableIn fx 32 dX11_clear_1 (by rw [hsv]; decide) (by rw [hsv]; decide) (off := 31) (by rw [hsv]; rfl) (by decide) ?_
      refine g_aload_n fx 0 dX11_clear_32 rfl ?_
      refine g_get (r := 0) fx lkX11_21 (by omega) hx rfl dX11_clear_33 ?_
      refine g_callVi (As := []) (rest := []) fx slX11_119 (c_X5_empty B ad ct n 3 15 kA fA (by omega) hAk (by decide) hA hAr) (by omega) hA rfl rfl rfl (Nat.le_of_ble_eq_true rfl) ⟨by decide, by decide⟩ ⟨by decide, by decide⟩ dX11_clear_36 (fun q1 ct1 hq1 => ?_)
      obtain ⟨e1, e1c⟩ := hq1
      have hB : ct1 5 = .inr (5, [.ref (ad 6), .int (nI kB)]) := by rw [e1c, va_up_ne _ _ (by decide)]; exact hB
      have hBr : ct1 6 = .inl (B.2.1 0, 15, .inl fB) := by rw [e1c, va_up_ne _ _ (by decide)]; exact hBr
      have hx : ct1 0 = .inr (11, [.ref (ad 1), .ref (ad 3), .ref (ad 5), .ref (ad 7), .ref (ad 9), .ref (ad 11), .ref (ad 79), .ref (ad 81), .ref (ad 88), .ref (ad 110), .ref (ad 115)]) := by rw [e1c, va_up_ne _ _ (by decide)]; exact hx
      refine g_isi (y := nI kA) e1 ?_
      refine g_aload_n fx 0 dX11_clear_39 rfl ?_
      refine g_get (r := 0) fx lkX11_25 (by omega) hx rfl dX11_clear_40 ?_
      refine g_callVi (As := []) (rest := [.int (nI kA)]) fx slX11_119 (c_X5_empty B ad ct1 n 5 15 kB fB (by omega) hBk (by decide) hB hBr) (by omega) hB rfl rfl rfl (Nat.le_of_ble_eq_true rfl) ⟨by decide, by decide⟩ ⟨by decide, by decide⟩ dX11_clear_43 (fun q2 ct2 hq2 => ?_)
      obtain ⟨e2, e2c⟩ := hq2
      refine g_isi (y := nI kB) e2 ?_
      refine g_iaddN fx dX11_clear_46 ?_
      refine g_iret fx rt dX11_clear_47 ?_
      exact gPi.mk (Or.inl ⟨hsv, rfl, by rw [e2c, e1c]⟩)
    · refine g_tableIn fx 48 dX11_clear_1 (by rw [hsv]; decide) (by rw [hsv]; decide) (off := 47) (by rw [hsv]; rfl) (by decide) ?_
      refine g_aload_n fx 0 dX11_clear_48 rfl ?_
      refine g_get (r := 0) fx lkX11_28 (by omega) hx rfl dX11_clear_49 ?_
      refine g_callVi (As := []) (rest := []) fx slX11_119 (c_X5_empty B ad ct n 7 30 kD fD (by omega) hDk (by decide) hD hDr) (by omega) hD rfl rfl rfl (Nat.le_of_ble_eq_true rfl) ⟨by decide, by decide⟩ ⟨by decide, by decide⟩ dX11_clear_52 (fun q1 ct1 hq1 => ?_)
      refine g_iret fx rt dX11_clear_55 ?_
      exact gPi.mk (Or.inr (Or.inl ⟨hsv, hq1.1, hq1.2⟩))
    · refine g_tableIn fx 56 dX11_clear_1 (by rw [hsv]; decide) (by rw [hsv]; decide) (off := 55) (by rw [hsv]; rfl) (by decide) ?_
      refine g_aload_n fx 0 dX11_clear_56 rfl ?_
      refine g_get (r := 0) fx lkX11_74 (by omega) hx rfl dX11_clear_57 ?_
      refine g_callVi (As := []) (rest := []) fx slX11_122 (c_X1_empty B ad ct n k o hn hc hcr hco hk12) (by omega) hc rfl rfl rfl (Nat.le_of_ble_eq_true rfl) ⟨by decide, by decide⟩ ⟨by decide, by decide⟩ dX11_clear_60 (fun q1 ct1 hq1 => ?_)
      refine g_iret fx rt dX11_clear_63 ?_
      exact gPi.mk (Or.inr (Or.inr (Or.inl ⟨hsv, hq1.1, hq1.2⟩)))
    · refine g_tableIn fx 64 dX11_clear_1 (by rw [hsv]; decide) (by rw [hsv]; decide) (off := 63) (by rw [hsv]; rfl) (by decide) ?_
      refine g_aload_n fx 0 dX11_clear_64 rfl ?_
      refine g_get (r := 0) fx lkX11_31 (by omega) hx rfl dX11_clear_65 ?_
      refine g_callVi (As := []) (rest := []) fx slX11_119 (c_X5_empty B ad ct n 9 40 kK fK (by omega) hKk (by decide) hK hKr) (by omega) hK rfl rfl rfl (Nat.le_of_ble_eq_true rfl) ⟨by decide, by decide⟩ ⟨by decide, by decide⟩ dX11_clear_68 (fun q1 ct1 hq1 => ?_)
      refine g_iret fx rt dX11_clear_71 ?_
      exact gPi.mk (Or.inr (Or.inr (Or.inr (Or.inl ⟨hsv, hq1.1, hq1.2⟩))))
set_option maxHeartbeats 4000000 in
set_option maxRecDepth 100000 in
theorem c_X11_rank (B : gB) (ad : Nat → Nat) (ct : Nat → va_E) (n : Nat) (hn : 178 ≤ n) (hx : ct 0 = .inr (11, [.ref (ad 1), .ref (ad 3), .ref (ad 5), .ref (ad 7), .ref (ad 9), .ref (ad 11), .ref (ad 79), .ref (ad 81), .ref (ad 88), .ref (ad 110), .ref (ad 115)])) (kA : Nat) (fA : Nat → Int32) (hA : ct 3 = .inr (5, [.ref (ad 4), .int (nI kA)])) (hAr : ct 4 = .inl (B.2.1 0, 15, .inl fA)) (hAk : kA ≤ 15) (kB : Nat) (fB : Nat → Int32) (hB : ct 5 = .inr (5, [.ref (ad 6), .int (nI kB)])) (hBr : ct 6 = .inl (B.2.1 0, 15, .inl fB)) (hBk : kB ≤ 15) (kD : Nat) (fD : Nat → Int32) (hD : ct 7 = .inr (5, [.ref (ad 8), .int (nI kD)])) (hDr : ct 8 = .inl (B.2.1 0, 30, .inl fD)) (hDk : kD ≤ 30) (x y : Int32) (hdb : ∀ j, j < kD → (fD j).toInt.natAbs ≤ 2000) : Ctr B yX11_rank cX11_rank 4 (some .int) 2 47 0 0 ad ct n [.ref (ad 0), .int x, .int y] (gPip ad ct n (fun r => (x = nI 2 ∧ ¬ (0 ≤ y.toInt ∧ y.toInt < (kD : Int)) ∧ r = -1) ∨ (x = nI 2 ∧ ∃ i : Nat, y = nI i ∧ i < kD ∧ r = if fD i = 0 then 0 else nI (rkZ fD kD (absI (fD i)))) ∨ (x = nI 0 ∧ ¬ (0 ≤ y.toInt ∧ y.toInt < (kA : Int)) ∧ r = -1) ∨ (x = nI 0 ∧ ∃ i : Nat, y = nI i ∧ i < kA ∧ r = nI (rkN fA kA fB kB (fA i))) ∨ (x = nI 1 ∧ ¬ (0 ≤ y.toInt ∧ y.toInt < (kB : Int)) ∧ r = -1) ∨ (x = nI 1 ∧ ∃ i : Nat, y = nI i ∧ i < kB ∧ r = nI (rkN fA kA fB kB (fB i))) ∨ (¬ x = nI 0 ∧ ¬ x = nI 1 ∧ ¬ x = nI 2 ∧ r = -1))) := by
  refine Ctr.ofG (L := [(0, .ref (ad 0)), (1, .int x), (2, .int y)]) (by decide +kernel) rfl (Nat.le_of_ble_eq_true rfl) (fun E fx rt hnm => ?_)
  refine g_iload_n fx 1 dX11_rank_0 rfl ?_
  refine g_iconst (v := nI 2) fx dX11_rank_1 (by decide +kernel) ?_
  refine g_icmp_ne fx 36 dX11_rank_2 (by decide) (fun c2 => ?_) (fun c2 => ?_)
  · skip
    have hx2 : ¬ x = nI 2 := c2
    refine g_iload_n fx 1 dX11_rank_36 rfl ?_
    refine g_if_eq fx 47 dX11_rank_37 (by decide) (fun c37 => ?_) (fun c37 => ?_)
    · skip
      have hx0 : x = nI 0 := c37
      refine g_iload_n fx 1 dX11_rank_47 rfl ?_
      refine g_if_ne fx 58 dX11_rank_48 (by decide) (fun c48 => ?_) (fun c48 => ?_)
      · exact absurd hx0 c48
      refine g_aload_n fx 0 dX11_rank_51 rfl ?_
      refine g_get (r := 0) fx lkX11_21 (by omega) hx rfl dX11_rank_52 ?_
      refine g_goto fx 62 dX11_rank_55 (by decide) ?_
      refine g_astore_n (L' := [(3, .ref (ad 3)), (0, .ref (ad 0)), (1, .int x), (2, .int y)]) fx dX11_rank_62 (by decide) rfl ?_
      refine g_aload_n fx 0 dX11_rank_63 rfl ?_
      refine g_iload_n fx 3 dX11_rank_64 rfl ?_
      refine g_callVip (As := [.int y]) (rest := []) fx slX11_203 (c_X5_has B ad ct n 3 15 kA fA (by omega) hAk (by decide) hA hAr y) (by omega) hA rfl rfl rfl (Nat.le_of_ble_eq_true rfl) ⟨by decide, by decide⟩ ⟨by decide, by decide⟩ dX11_rank_65 (fun qh hqh => ?_)
      refine g_if_eq fx 83 dX11_rank_68 (by decide) (fun c68 => ?_) (fun c68 => ?_)
      · skip
        have hno := if01_z.mp (hqh ▸ c68)
        refine g_iconst (v := (-1)) fx dX11_rank_83 (by decide +kernel) ?_
        refine g_iret fx rt dX11_rank_84 ?_
        refine gPip.mk ?_
        exact Or.inr (Or.inr (Or.inl ⟨hx0, hno, rfl⟩))
      · skip
        have hyes := if01_n.mp (hqh ▸ c68)
        obtain ⟨i, hi, ey⟩ := toR hyes
        refine g_relocal (L' := [(3, .ref (ad 3)), (0, .ref (ad 0)), (1, .int x), (2, .int (nI i))]) (by rw [ey]) ?_
        refine g_aload_n fx 1 dX11_rank_71 rfl ?_
        refine g_aload_n fx 0 dX11_rank_72 rfl ?_
        refine g_iload_n fx 3 dX11_rank_73 rfl ?_
        refine g_callVip (As := [.int (nI i)]) (rest := [.ref (ad 0)]) fx slX11_189 (c_X5_get B ad ct n 3 15 kA fA (by omega) hAk (by decide) hA hAr (nI i)) (by omega) hA rfl rfl rfl (Nat.le_of_ble_eq_true rfl) ⟨by decide, by decide⟩ ⟨by decide, by decide⟩ dX11_rank_74 (fun qg hqg => ?_)
        rw [get_nat hi (by omega)] at hqg
        refine g_isi (y := fA i) hqg ?_
        refine g_callVip (As := [.int (fA i)]) (rest := []) fx slX11_209 (c_X11_rankOfNumber B ad ct n hn hx kA fA hA hAr hAk kB fB hB hBr hBk (fA i)) (by omega) hx rfl rfl rfl (Nat.le_of_ble_eq_true rfl) ⟨by decide, by decide⟩ ⟨by decide, by decide⟩ dX11_rank_77 (fun q5 hq5 => ?_)
        refine g_goto fx 84 dX11_rank_80 (by decide) ?_
        refine g_iret fx rt dX11_rank_84 ?_
        refine gPip.mk ?_
        exact Or.inr (Or.inr (Or.inr (Or.inl ⟨hx0, i, ey, hi, hq5⟩)))
    · skip
      have hx0 : ¬ x = nI 0 := c37
      refine g_iload_n fx 1 dX11_rank_40 rfl ?_
      refine g_iconst (v := nI 1) fx dX11_rank_41 (by decide +kernel) ?_
      refine g_icmp_eq fx 47 dX11_rank_42 (by decide) (fun c42 => ?_) (fun c42 => ?_)
      · skip
        have hx1 : x = nI 1 := c42
        refine g_iload_n fx 1 dX11_rank_47 rfl ?_
        refine g_if_ne fx 58 dX11_rank_48 (by decide) (fun c48 => ?_) (fun c48 => ?_)
        rotate_left
        · exact absurd (c48.symm.trans hx1) (by decide)
        refine g_aload_n fx 0 dX11_rank_58 rfl ?_
        refine g_get (r := 0) fx lkX11_25 (by omega) hx rfl dX11_rank_59 ?_
        refine g_astore_n (L' := [(3, .ref (ad 5)), (0, .ref (ad 0)), (1, .int x), (2, .int y)]) fx dX11_rank_62 (by decide) rfl ?_
        refine g_aload_n fx 0 dX11_rank_63 rfl ?_
        refine g_iload_n fx 3 dX11_rank_64 rfl ?_
        refine g_callVip (As := [.int y]) (rest := []) fx slX11_203 (c_X5_has B ad ct n 5 15 kB fB (by omega) hBk (by decide) hB hBr y) (by omega) hB rfl rfl rfl (Nat.le_of_ble_eq_true rfl) ⟨by decide, by decide⟩ ⟨by decide, by decide⟩ dX11_rank_65 (fun qh hqh => ?_)
        refine g_if_eq fx 83 dX11_rank_68 (by decide) (fun c68 => ?_) (fun c68 => ?_)
        · skip
          have hno := if01_z.mp (hqh ▸ c68)
          refine g_iconst (v := (-1)) fx dX11_rank_83 (by decide +kernel) ?_
          refine g_iret fx rt dX11_rank_84 ?_
          refine gPip.mk ?_
          exact Or.inr (Or.inr (Or.inr (Or.inr (Or.inl ⟨hx1, hno, rfl⟩))))
        · skip
          have hyes := if01_n.mp (hqh ▸ c68)
          obtain ⟨i, hi, ey⟩ := toR hyes
          refine g_relocal (L' := [(3, .ref (ad 5)), (0, .ref (ad 0)), (1, .int x), (2, .int (nI i))]) (by rw [ey]) ?_
          refine g_aload_n fx 1 dX11_rank_71 rfl ?_
          refine g_aload_n fx 0 dX11_rank_72 rfl ?_
          refine g_iload_n fx 3 dX11_rank_73 rfl ?_
          refine g_callVip (As := [.int (nI i)]) (rest := [.ref (ad 0)]) fx slX11_189 (c_X5_get B ad ct n 5 15 kB fB (by omega) hBk (by decide) hB hBr (nI i)) (by omega) hB rfl rfl rfl (Nat.le_of_ble_eq_true rfl) ⟨by decide, by decide⟩ ⟨by decide, by decide⟩ dX11_rank_74 (fun qg hqg => ?_)
          rw [get_nat hi (by omega)] at hqg
          refine g_isi (y := fB i) hqg ?_
          refine g_callVip (As := [.int (fB i)]) (rest := []) fx slX11_209 (c_X11_rankOfNumber B ad ct n hn hx kA fA hA hAr hAk kB fB hB hBr hBk (fB i)) (by omega) hx rfl rfl rfl (Nat.le_of_ble_eq_true rfl) ⟨by decide, by decide⟩ ⟨by decide, by decide⟩ dX11_rank_77 (fun q5 hq5 => ?_)
          refine g_goto fx 84 dX11_rank_80 (by decide) ?_
          refine g_iret fx rt dX11_rank_84 ?_
          refine gPip.mk ?_
          exact Or.inr (Or.inr (Or.inr (Or.inr (Or.inr (Or.inl ⟨hx1, i, ey, hi, hq5⟩)))))
      · skip
        have hx1 : ¬ x = nI 1 := c42
        refine g_iconst (v := (-1)) fx dX11_rank_45 (by decide +kernel) ?_
        refine g_iret fx rt dX11_rank_46 ?_
        refine gPip.mk ?_
        exact Or.inr (Or.inr (Or.inr (Or.inr (Or.inr (Or.inr ⟨hx0, hx1, hx2, rfl⟩)))))
  · skip
    have hx2 : x = nI 2 := c2
    refine g_aload_n fx 0 dX11_rank_5 rfl ?_
    refine g_get (r := 0) fx lkX11_28 (by omega) hx rfl dX11_rank_6 ?_
    refine g_iload_n fx 2 dX11_rank_9 rfl ?_
    refine g_callVip (As := [.int y]) (rest := []) fx slX11_203 (c_X5_has B ad ct n 7 30 kD fD (by omega) hDk (by decide) hD hDr y) (by omega) hD rfl rfl rfl (Nat.le_of_ble_eq_true rfl) ⟨by decide, by decide⟩ ⟨by decide, by decide⟩ dX11_rank_10 (fun qh hqh => ?_)
    refine g_if_eq fx 34 dX11_rank_13 (by decide) (fun c13 => ?_) (fun c13 => ?_)
    · skip
      have hno := if01_z.mp (hqh ▸ c13)
      refine g_iconst (v := (-1)) fx dX11_rank_34 (by decide +kernel) ?_
      refine g_iret fx rt dX11_rank_35 ?_
      refine gPip.mk ?_
      exact Or.inl ⟨hx2, hno, rfl⟩
    · skip
      have hyes := if01_n.mp (hqh ▸ c13)
      obtain ⟨i, hi, ey⟩ := toR hyes
      refine g_relocal (L' := [(0, .ref (ad 0)), (1, .int x), (2, .int (nI i))]) (by rw [ey]) ?_
      refine g_aload_n fx 0 dX11_rank_16 rfl ?_
      refine g_aload_n fx 0 dX11_rank_17 rfl ?_
      refine g_get (r := 0) fx lkX11_28 (by omega) hx rfl dX11_rank_18 ?_
      refine g_iload_n fx 2 dX11_rank_21 rfl ?_
      refine g_callVip (As := [.int (nI i)]) (rest := [.ref (ad 0)]) fx slX11_189 (c_X5_get B ad ct n 7 30 kD fD (by omega) hDk (by decide) hD hDr (nI i)) (by omega) hD rfl rfl rfl (Nat.le_of_ble_eq_true rfl) ⟨by decide, by decide⟩ ⟨by decide, by decide⟩ dX11_rank_22 (fun qg hqg => ?_)
      rw [get_nat hi (by omega)] at hqg
      refine g_isi (y := fD i) hqg ?_
      refine g_callSip (As := [.int (fD i)]) (rest := [.ref (ad 0)]) fx slX11_192 (c_J9_abs_0f7a4 B ad ct n (fD i)) rfl rfl (Nat.le_of_ble_eq_true rfl) ⟨by decide, by decide⟩ ⟨by decide, by decide⟩ dX11_rank_25 (fun q3 hq3 => ?_)
      have hdi := hdb i hi
      have hab : q3 = nI (fD i).toInt.natAbs := hq3.trans (absI_nI hdi)
      refine g_isi (y := nI (fD i).toInt.natAbs) hab ?_
      refine g_callVip (As := [.int (nI (fD i).toInt.natAbs)]) (rest := []) fx slX11_206 (c_X11_rankOfSize B ad ct n hn hx kD fD hD hDr hDk (fD i).toInt.natAbs hdi hdb) (by omega) hx rfl rfl rfl (Nat.le_of_ble_eq_true rfl) ⟨by decide, by decide⟩ ⟨by decide, by decide⟩ dX11_rank_28 (fun q4 hq4 => ?_)
      refine g_goto fx 35 dX11_rank_31 (by decide) ?_
      refine g_iret fx rt dX11_rank_35 ?_
      refine gPip.mk ?_
      refine Or.inr (Or.inl ⟨hx2, i, ey, hi, ?_⟩)
      rw [hq4, absI_nI hdi]
      by_cases z : fD i = 0
      · rw [if_pos z, if_pos (by rw [eq0_t.mp z]; rfl)]
      · rw [if_neg z, if_neg (fun w => z (eq0_t.mpr (by omega)))]
set_option maxHeartbeats 4000000 in
set_option maxRecDepth 100000 in
theorem c_X11_bits (B : gB) (ad : Nat → Nat) (ct : Nat → va_E) (n : Nat) (hn : 178 ≤ n) (hx : ct 0 = .inr (11, [.ref (ad 1), .ref (ad 3), .ref (ad 5), .ref (ad 7), .ref (ad 9), .ref (ad 11), .ref (ad 79), .ref (ad 81), .ref (ad 88), .ref (ad 110), .ref (ad 115)])) (th te sta ask : Int32) (hr : ct 88 = .inr (6, [.ref (ad 89), .int th, .int te, .int sta, .int ask])) (hrr : ct 89 = .inl (B.2.1 4, 4, .inr (.inr (.inr (.inr (fun i => some (ad (90 + 5 * i)))))))) (hth : th = 0 ∨ th = 1) (u l : Nat → Nat) (hF : ∀ t, t < 4 → isFr B ad ct (90 + 5 * t) (u t) (l t)) (hFb : ∀ t, t < 4 → u t < 2 ^ 180 ∧ l t < 2 ^ 180) (x y : Int32) : Ctr B yX11_bits cX11_bits 4 (some .int) 3 63 0 0 ad ct n [.ref (ad 0), .int x, .int y] (gPip ad ct n (fun r => (th = 0 ∧ r = -3) ∨ (¬ th = 0 ∧ ¬ ((0 : Int) ≤ x.toInt ∧ x.toInt ≤ 3) ∧ r = -1) ∨ (¬ th = 0 ∧ ∃ t : Nat, t < 4 ∧ x = nI t ∧ ((y = 0 ∧ r = nI (nbits (u t))) ∨ (y = 1 ∧ r = nI (nbits (l t))) ∨ (¬ y = 0 ∧ ¬ y = 1 ∧ r = -2))))) := by
  refine Ctr.ofG (L := [(0, .ref (ad 0)), (1, .int x), (2, .int y)]) (by decide +kernel) rfl (Nat.le_of_ble_eq_true rfl) (fun E fx rt hnm => ?_)
  refine g_aload_n fx 0 dX11_bits_0 rfl ?_
  refine g_iload_n fx 1 dX11_bits_1 rfl ?_
  refine g_callVip (As := [.int x]) (rest := []) fx slX11_227 (c_X11_refusal B ad ct n hn hx th te sta ask hr hrr hth x) (by omega) hx rfl rfl rfl (Nat.le_of_ble_eq_true rfl) ⟨by decide, by decide⟩ ⟨by decide, by decide⟩ dX11_bits_2 (fun q0 hq0 => ?_)
  refine g_istore_n (L' := [(3, .int q0), (0, .ref (ad 0)), (1, .int x), (2, .int y)]) fx dX11_bits_5 (by decide) rfl ?_
  refine g_iload_n fx 0 dX11_bits_6 rfl ?_
  refine g_if_eq fx 12 dX11_bits_7 (by decide) (fun c7 => ?_) (fun c7 => ?_)
  · skip
    have hth1 : ¬ th = 0 := fun q => by rw [hq0, if_pos q] at c7; exact absurd c7 (by decide)
    have hT : (0 : Int) ≤ x.toInt ∧ x.toInt ≤ 3 := Classical.byContradiction (fun w => by rw [hq0, if_neg hth1, if_neg w] at c7; exact absurd c7 (by decide))
    obtain ⟨t, ht, ex⟩ := toN hT (by omega)
    have htl : t < 4 := by omega
    have hft := hF t htl
    have hf0 := hft.1
    have hbt := hFb t htl
    refine g_relocal (L' := [(3, .int q0), (0, .ref (ad 0)), (1, .int (nI t)), (2, .int y)]) (by rw [ex]) ?_
    refine g_iload_n fx 3 dX11_bits_12 rfl ?_
    refine g_if_eq fx 24 dX11_bits_13 (by decide) (fun c13 => ?_) (fun c13 => ?_)
    · skip
      have hy0 : y = 0 := c13
      refine g_aload_n fx 1 dX11_bits_24 rfl ?_
      refine g_get (r := 0) fx lkX11_58 (by omega) hx rfl dX11_bits_25 ?_
      refine g_iload_n fx 2 dX11_bits_28 rfl ?_
      refine g_callVrp (As := [.int (nI t)]) (rest := []) fx slX11_142 (c_X6_chance B ad ct n th te sta ask hn hr hrr t htl) (by omega) hr rfl rfl rfl (Nat.le_of_ble_eq_true rfl) ⟨by decide, by decide⟩ ⟨by decide, by decide⟩ dX11_bits_29 (fun qc hqc => ?_)
      subst hqc
      refine g_iload_n fx 3 dX11_bits_32 rfl ?_
      refine g_callVrp (As := [.int y]) (rest := []) fx slX11_230 (c_X2_part B ad ct n (90 + 5 * t) (u t) (l t) (by omega) hft.1 hft.2.1 hft.2.2 y) (by omega) hf0 rfl rfl rfl (Nat.le_of_ble_eq_true rfl) ⟨by decide, by decide⟩ ⟨by decide, by decide⟩ dX11_bits_33 (fun qp hqp => ?_)
      rw [if_pos hy0] at hqp
      subst hqp
      have hpw := isW.ob hft.2.1
      refine g_callVip (As := []) (rest := []) fx slX11_234 (c_X10_bitLength B ad ct n (90 + 5 * t + 1) (u t) (by omega) hft.2.1) (by omega) hpw.choose_spec rfl rfl rfl (Nat.le_of_ble_eq_true rfl) ⟨by decide, by decide⟩ ⟨by decide, by decide⟩ dX11_bits_36 (fun q5 hq5 => ?_)
      refine g_iret fx rt dX11_bits_39 ?_
      refine gPip.mk ?_
      exact Or.inr (Or.inr ⟨hth1, t, htl, ex, Or.inl ⟨hy0, hq5⟩⟩)
    · skip
      have hy0 : ¬ y = 0 := c13
      refine g_iload_n fx 3 dX11_bits_16 rfl ?_
      refine g_iconst (v := nI 1) fx dX11_bits_17 (by decide +kernel) ?_
      refine g_icmp_eq fx 24 dX11_bits_18 (by decide) (fun c18 => ?_) (fun c18 => ?_)
      · skip
        have hy1 : y = 1 := c18
        refine g_aload_n fx 1 dX11_bits_24 rfl ?_
        refine g_get (r := 0) fx lkX11_58 (by omega) hx rfl dX11_bits_25 ?_
        refine g_iload_n fx 2 dX11_bits_28 rfl ?_
        refine g_callVrp (As := [.int (nI t)]) (rest := []) fx slX11_142 (c_X6_chance B ad ct n th te sta ask hn hr hrr t htl) (by omega) hr rfl rfl rfl (Nat.le_of_ble_eq_true rfl) ⟨by decide, by decide⟩ ⟨by decide, by decide⟩ dX11_bits_29 (fun qc hqc => ?_)
        subst hqc
        refine g_iload_n fx 3 dX11_bits_32 rfl ?_
        refine g_callVrp (As := [.int y]) (rest := []) fx slX11_230 (c_X2_part B ad ct n (90 + 5 * t) (u t) (l t) (by omega) hft.1 hft.2.1 hft.2.2 y) (by omega) hf0 rfl rfl rfl (Nat.le_of_ble_eq_true rfl) ⟨by decide, by decide⟩ ⟨by decide, by decide⟩ dX11_bits_33 (fun qp hqp => ?_)
        rw [if_neg hy0] at hqp
        subst hqp
        have hpw := isW.ob hft.2.2
        refine g_callVip (As := []) (rest := []) fx slX11_234 (c_X10_bitLength B ad ct n (90 + 5 * t + 3) (l t) (by omega) hft.2.2) (by omega) hpw.choose_spec rfl rfl rfl (Nat.le_of_ble_eq_true rfl) ⟨by decide, by decide⟩ ⟨by decide, by decide⟩ dX11_bits_36 (fun q5 hq5 => ?_)
        refine g_iret fx rt dX11_bits_39 ?_
        refine gPip.mk ?_
        exact Or.inr (Or.inr ⟨hth1, t, htl, ex, Or.inr (Or.inl ⟨hy1, hq5⟩)⟩)
      · skip
        have hy1 : ¬ y = 1 := c18
        refine g_bipush (v := (-2)) fx dX11_bits_21 (by decide +kernel) ?_
        refine g_iret fx rt dX11_bits_23 ?_
        refine gPip.mk ?_
        exact Or.inr (Or.inr ⟨hth1, t, htl, ex, Or.inr (Or.inr ⟨hy0, hy1, rfl⟩)⟩)
  · skip
    have hbad : (th = 0 ∧ q0 = -3) ∨ (¬ th = 0 ∧ ¬ ((0 : Int) ≤ x.toInt ∧ x.toInt ≤ 3) ∧ q0 = -1) := by
      by_cases q : th = 0
      · exact Or.inl ⟨q, by rw [hq0, if_pos q]⟩
      · by_cases w : (0 : Int) ≤ x.toInt ∧ x.toInt ≤ 3
        · exact absurd (by rw [hq0, if_neg q, if_pos w]) c7
        · exact Or.inr ⟨q, w, by rw [hq0, if_neg q, if_neg w]⟩
    refine g_iload_n fx 0 dX11_bits_10 rfl ?_
    refine g_iret fx rt dX11_bits_11 ?_
    refine gPip.mk ?_
    rcases hbad with ⟨h1, h2⟩ | ⟨h1, h2, h3⟩
    · exact Or.inl ⟨h1, h2⟩
    · exact Or.inr (Or.inl ⟨h1, h2, h3⟩)
set_option maxHeartbeats 4000000 in
set_option maxRecDepth 100000 in
theorem c_X11_word (B : gB) (ad : Nat → Nat) (ct : Nat → va_E) (n : Nat) (hn : 178 ≤ n) (hx : ct 0 = .inr (11, [.ref (ad 1), .ref (ad 3), .ref (ad 5), .ref (ad 7), .ref (ad 9), .ref (ad 11), .ref (ad 79), .ref (ad 81), .ref (ad 88), .ref (ad 110), .ref (ad 115)])) (th te sta ask : Int32) (hr : ct 88 = .inr (6, [.ref (ad 89), .int th, .int te, .int sta, .int ask])) (hrr : ct 89 = .inl (B.2.1 4, 4, .inr (.inr (.inr (.inr (fun i => some (ad (90 + 5 * i)))))))) (hth : th = 0 ∨ th = 1) (u l : Nat → Nat) (hF : ∀ t, t < 4 → isFr B ad ct (90 + 5 * t) (u t) (l t)) (hFb : ∀ t, t < 4 → u t < 2 ^ 180 ∧ l t < 2 ^ 180) (x y z : Int32) : Ctr B yX11_word cX11_word 5 (some .int) 2 43 0 0 ad ct n [.ref (ad 0), .int x, .int y, .int z] (gPip ad ct n (fun r => (th = 0 ∧ r = -3) ∨ (¬ th = 0 ∧ ¬ ((0 : Int) ≤ x.toInt ∧ x.toInt ≤ 3) ∧ r = -1) ∨ (¬ th = 0 ∧ ∃ t : Nat, t < 4 ∧ x = nI t ∧ ((¬ (((0 : Int) ≤ y.toInt ∧ y.toInt ≤ 1) ∧ 0 ≤ z) ∧ r = -2) ∨ ∃ k : Nat, z = nI k ∧ k < 2 ^ 31 ∧ ((y = 0 ∧ r = nI (u t / 65536 ^ k % 65536)) ∨ (y = 1 ∧ r = nI (l t / 65536 ^ k % 65536))))))) := by
  refine Ctr.ofG (L := [(0, .ref (ad 0)), (1, .int x), (2, .int y), (3, .int z)]) (by decide +kernel) rfl (Nat.le_of_ble_eq_true rfl) (fun E fx rt hnm => ?_)
  refine g_aload_n fx 0 dX11_word_0 rfl ?_
  refine g_iload_n fx 1 dX11_word_1 rfl ?_
  refine g_callVip (As := [.int x]) (rest := []) fx slX11_227 (c_X11_refusal B ad ct n hn hx th te sta ask hr hrr hth x) (by omega) hx rfl rfl rfl (Nat.le_of_ble_eq_true rfl) ⟨by decide, by decide⟩ ⟨by decide, by decide⟩ dX11_word_2 (fun q0 hq0 => ?_)
  refine g_istore (L' := [(4, .int q0), (0, .ref (ad 0)), (1, .int x), (2, .int y), (3, .int z)]) fx dX11_word_5 (by decide) rfl ?_
  refine g_iload fx 0 dX11_word_7 rfl ?_
  refine g_if_eq fx 15 dX11_word_9 (by decide) (fun c9 => ?_) (fun c9 => ?_)
  · skip
    have hth1 : ¬ th = 0 := fun q => by rw [hq0, if_pos q] at c9; exact absurd c9 (by decide)
    have hT : (0 : Int) ≤ x.toInt ∧ x.toInt ≤ 3 := Classical.byContradiction (fun w => by rw [hq0, if_neg hth1, if_neg w] at c9; exact absurd c9 (by decide))
    obtain ⟨t, ht, ex⟩ := toN hT (by omega)
    have htl : t < 4 := by omega
    have hft := hF t htl
    have hf0 := hft.1
    have hbt := hFb t htl
    refine g_relocal (L' := [(4, .int q0), (0, .ref (ad 0)), (1, .int (nI t)), (2, .int y), (3, .int z)]) (by rw [ex]) ?_
    refine g_iload_n fx 3 dX11_word_15 rfl ?_
    refine g_if_eq fx 24 dX11_word_16 (by decide) (fun c16 => ?_) (fun c16 => ?_)
    · skip
      have hy0 : y = 0 := c16
      have hyr : (0 : Int) ≤ y.toInt ∧ y.toInt ≤ 1 := by have := eq0_t.mp c16; omega
      refine g_iload_n fx 4 dX11_word_24 rfl ?_
      refine g_if_ge fx 31 dX11_word_25 (by decide) (fun c25 => ?_) (fun c25 => ?_)
      · skip
        have hz0 : 0 ≤ z := c25
        obtain ⟨k, hk, ez⟩ := nI_of (x := z) (Int32.not_lt.mpr c25)
        refine g_relocal (L' := [(4, .int q0), (0, .ref (ad 0)), (1, .int (nI t)), (2, .int y), (3, .int (nI k))]) (by rw [ez]) ?_
        refine g_aload_n fx 1 dX11_word_31 rfl ?_
        refine g_get (r := 0) fx lkX11_58 (by omega) hx rfl dX11_word_32 ?_
        refine g_iload_n fx 2 dX11_word_35 rfl ?_
        refine g_callVrp (As := [.int (nI t)]) (rest := []) fx slX11_142 (c_X6_chance B ad ct n th te sta ask hn hr hrr t htl) (by omega) hr rfl rfl rfl (Nat.le_of_ble_eq_true rfl) ⟨by decide, by decide⟩ ⟨by decide, by decide⟩ dX11_word_36 (fun qc hqc => ?_)
        subst hqc
        refine g_iload_n fx 3 dX11_word_39 rfl ?_
        refine g_callVrp (As := [.int y]) (rest := []) fx slX11_230 (c_X2_part B ad ct n (90 + 5 * t) (u t) (l t) (by omega) hft.1 hft.2.1 hft.2.2 y) (by omega) hf0 rfl rfl rfl (Nat.le_of_ble_eq_true rfl) ⟨by decide, by decide⟩ ⟨by decide, by decide⟩ dX11_word_40 (fun qp hqp => ?_)
        rw [if_pos hy0] at hqp
        subst hqp
        have hpw := isW.ob hft.2.1
        refine g_iload_n fx 4 dX11_word_43 rfl ?_
        refine g_callVip (As := [.int (nI k)]) (rest := []) fx slX11_239 (c_X10_sixteenBits B ad ct n (90 + 5 * t + 1) (u t) k (by omega) hft.2.1 hk) (by omega) hpw.choose_spec rfl rfl rfl (Nat.le_of_ble_eq_true rfl) ⟨by decide, by decide⟩ ⟨by decide, by decide⟩ dX11_word_44 (fun q5 hq5 => ?_)
        refine g_iret fx rt dX11_word_47 ?_
        refine gPip.mk ?_
        exact Or.inr (Or.inr ⟨hth1, t, htl, ex, Or.inr ⟨k, ez, hk, Or.inl ⟨hy0, hq5⟩⟩⟩)
      · skip
        have hN : ¬ (((0 : Int) ≤ y.toInt ∧ y.toInt ≤ 1) ∧ 0 ≤ z) := fun w => c25 w.2
        refine g_bipush (v := (-2)) fx dX11_word_28 (by decide +kernel) ?_
        refine g_iret fx rt dX11_word_30 ?_
        refine gPip.mk ?_
        exact Or.inr (Or.inr ⟨hth1, t, htl, ex, Or.inl ⟨hN, rfl⟩⟩)
    · skip
      have hy0 : ¬ y = 0 := c16
      refine g_iload_n fx 3 dX11_word_19 rfl ?_
      refine g_iconst (v := nI 1) fx dX11_word_20 (by decide +kernel) ?_
      refine g_icmp_ne fx 28 dX11_word_21 (by decide) (fun c21 => ?_) (fun c21 => ?_)
      · skip
        have hN : ¬ (((0 : Int) ≤ y.toInt ∧ y.toInt ≤ 1) ∧ 0 ≤ z) := fun w => by have h0 : ¬ y.toInt = 0 := fun q => hy0 (eq0_t.mpr q); have h1 : ¬ y.toInt = 1 := fun q => c21 (eq1_t.mpr q); omega
        refine g_bipush (v := (-2)) fx dX11_word_28 (by decide +kernel) ?_
        refine g_iret fx rt dX11_word_30 ?_
        refine gPip.mk ?_
        exact Or.inr (Or.inr ⟨hth1, t, htl, ex, Or.inl ⟨hN, rfl⟩⟩)
      · skip
        have hy1 : y = 1 := c21
        have hyr : (0 : Int) ≤ y.toInt ∧ y.toInt ≤ 1 := by have := eq1_t.mp c21; omega
        refine g_iload_n fx 4 dX11_word_24 rfl ?_
        refine g_if_ge fx 31 dX11_word_25 (by decide) (fun c25 => ?_) (fun c25 => ?_)
        · skip
          have hz0 : 0 ≤ z := c25
          obtain ⟨k, hk, ez⟩ := nI_of (x := z) (Int32.not_lt.mpr c25)
          refine g_relocal (L' := [(4, .int q0), (0, .ref (ad 0)), (1, .int (nI t)), (2, .int y), (3, .int (nI k))]) (by rw [ez]) ?_
          refine g_aload_n fx 1 dX11_word_31 rfl ?_
          refine g_get (r := 0) fx lkX11_58 (by omega) hx rfl dX11_word_32 ?_
          refine g_iload_n fx 2 dX11_word_35 rfl ?_
          refine g_callVrp (As := [.int (nI t)]) (rest := []) fx slX11_142 (c_X6_chance B ad ct n th te sta ask hn hr hrr t htl) (by omega) hr rfl rfl rfl (Nat.le_of_ble_eq_true rfl) ⟨by decide, by decide⟩ ⟨by decide, by decide⟩ dX11_word_36 (fun qc hqc => ?_)
          subst hqc
          refine g_iload_n fx 3 dX11_word_39 rfl ?_
          refine g_callVrp (As := [.int y]) (rest := []) fx slX11_230 (c_X2_part B ad ct n (90 + 5 * t) (u t) (l t) (by omega) hft.1 hft.2.1 hft.2.2 y) (by omega) hf0 rfl rfl rfl (Nat.le_of_ble_eq_true rfl) ⟨by decide, by decide⟩ ⟨by decide, by decide⟩ dX11_word_40 (fun qp hqp => ?_)
          rw [if_neg hy0] at hqp
          subst hqp
          have hpw := isW.ob hft.2.2
          refine g_iload_n fx 4 dX11_word_43 rfl ?_
          refine g_callVip (As := [.int (nI k)]) (rest := []) fx slX11_239 (c_X10_sixteenBits B ad ct n (90 + 5 * t + 3) (l t) k (by omega) hft.2.2 hk) (by omega) hpw.choose_spec rfl rfl rfl (Nat.le_of_ble_eq_true rfl) ⟨by decide, by decide⟩ ⟨by decide, by decide⟩ dX11_word_44 (fun q5 hq5 => ?_)
          refine g_iret fx rt dX11_word_47 ?_
          refine gPip.mk ?_
          exact Or.inr (Or.inr ⟨hth1, t, htl, ex, Or.inr ⟨k, ez, hk, Or.inr ⟨hy1, hq5⟩⟩⟩)
        · skip
          have hN : ¬ (((0 : Int) ≤ y.toInt ∧ y.toInt ≤ 1) ∧ 0 ≤ z) := fun w => c25 w.2
          refine g_bipush (v := (-2)) fx dX11_word_28 (by decide +kernel) ?_
          refine g_iret fx rt dX11_word_30 ?_
          refine gPip.mk ?_
          exact Or.inr (Or.inr ⟨hth1, t, htl, ex, Or.inl ⟨hN, rfl⟩⟩)
  · skip
    have hbad : (th = 0 ∧ q0 = -3) ∨ (¬ th = 0 ∧ ¬ ((0 : Int) ≤ x.toInt ∧ x.toInt ≤ 3) ∧ q0 = -1) := by
      by_cases q : th = 0
      · exact Or.inl ⟨q, by rw [hq0, if_pos q]⟩
      · by_cases w : (0 : Int) ≤ x.toInt ∧ x.toInt ≤ 3
        · exact absurd (by rw [hq0, if_neg q, if_pos w]) c9
        · exact Or.inr ⟨q, w, by rw [hq0, if_neg q, if_neg w]⟩
    refine g_iload fx 0 dX11_word_12 rfl ?_
    refine g_iret fx rt dX11_word_14 ?_
    refine gPip.mk ?_
    rcases hbad with ⟨h1, h2⟩ | ⟨h1, h2, h3⟩
    · exact Or.inl ⟨h1, h2⟩
    · exact Or.inr (Or.inl ⟨h1, h2, h3⟩)
