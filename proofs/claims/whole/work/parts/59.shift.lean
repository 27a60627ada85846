theorem i_half {x : Int32} : (x >>> (nI 1 &&& 31)).toInt = x.toInt / 2 := by
  have hD : ((nI 1 &&& 31).toBitVec.smod 32).toNat = 1 := by decide +kernel
  rw [show x >>> (nI 1 &&& 31) = Int32.shiftRight x (nI 1 &&& 31) from rfl]
  show ((x.toBitVec.sshiftRight' ((nI 1 &&& 31).toBitVec.smod 32))).toInt = _
  rw [BitVec.sshiftRight_eq', BitVec.toInt_sshiftRight, hD, Int.shiftRight_eq_div_pow]
  rfl
theorem gCnt_sub {p : Int32 → Bool} {f : Nat → Int32} : ∀ k, k - gCnt p f k = gCnt (fun z => !p z) f k
  | 0 => rfl
  | k + 1 => by
    have ih := gCnt_sub (p := p) (f := f) k
    have hle := gCnt_le (p := p) (f := f) k
    show k + 1 - (gCnt p f k + if p (f k) = true then 1 else 0) = gCnt (fun z => !p z) f k + if (!p (f k)) = true then 1 else 0
    rw [← ih]
    cases p (f k)
    · simp only [Bool.false_eq_true, if_false, Bool.not_false, if_true]; omega
    · simp only [Bool.not_true, Bool.false_eq_true, if_false, if_true]; omega
theorem gCnt_mono2 {p q : Int32 → Bool} {f : Nat → Int32} : ∀ k, (∀ i, i < k → p (f i) = true → q (f i) = true) → gCnt p f k ≤ gCnt q f k
  | 0, _ => Nat.le_refl _
  | k + 1, h => by
    have ih := gCnt_mono2 (p := p) (q := q) (f := f) k (fun i hi => h i (by omega))
    have hk := h k (by omega)
    show gCnt p f k + (if p (f k) = true then 1 else 0) ≤ gCnt q f k + (if q (f k) = true then 1 else 0)
    by_cases a : p (f k) = true
    · rw [if_pos a, if_pos (hk a)]; omega
    · rw [if_neg a]; omega
theorem cD_mono {p q : Int32 → Bool} {fA fB : Nat → Int32} {b : Nat} : ∀ a, (∀ i j, i < a → j < b → p (fA i - fB j) = true → q (fA i - fB j) = true) → cD p fA fB b a ≤ cD q fA fB b a
  | 0, _ => Nat.le_refl _
  | a + 1, h => Nat.add_le_add (cD_mono a (fun i j hi hj => h i j (by omega) hj)) (gCnt_mono2 b (fun j hj => h a j (by omega) hj))
theorem gCnt_true {f : Nat → Int32} {p : Int32 → Bool} : ∀ k, (∀ i, i < k → p (f i) = true) → gCnt p f k = k
  | 0, _ => rfl
  | k + 1, h => by rw [gCnt_t _ (h k (by omega)), gCnt_true k (fun i hi => h i (by omega))]
theorem cD_true {p : Int32 → Bool} {fA fB : Nat → Int32} {b : Nat} : ∀ a, (∀ i j, i < a → j < b → p (fA i - fB j) = true) → cD p fA fB b a = a * b
  | 0, _ => (Nat.zero_mul b).symm
  | a + 1, h => by
    show cD p fA fB b a + gCnt (fun z => p (fA a - z)) fB b = (a + 1) * b
    rw [cD_true a (fun i j hi hj => h i j (by omega) hj), gCnt_true (f := fB) (p := fun z => p (fA a - z)) b (fun j hj => h a j (by omega) hj), Nat.succ_mul]
/-- how many differences are at most z -/
def nD (fA fB : Nat → Int32) (b a : Nat) (z : Int) : Nat := cD (fun d => decide (d.toInt ≤ z)) fA fB b a
theorem diff_toInt {x y : Int32} (hx : x.toInt.natAbs ≤ 1000) (hy : y.toInt.natAbs ≤ 1000) : (x - y).toInt = x.toInt - y.toInt := sub_toInt rfl rfl (by omega)
theorem nD_step {fA fB : Nat → Int32} {b i : Nat} {lim : Int32} {z : Int} (hz : lim.toInt = z) (hzb : z.natAbs ≤ 2000) (hA : (fA i).toInt.natAbs ≤ 1000) (hB : ∀ j, j < b → (fB j).toInt.natAbs ≤ 1000) : b - gCnt (fun x => decide (x < fA i - lim)) fB b = gCnt (fun y => decide ((fA i - y).toInt ≤ z)) fB b := by
  rw [gCnt_sub]
  refine gCnt_congr b (fun j hj => ?_)
  have h1 := hB j hj
  have h2 : (fA i - lim).toInt = (fA i).toInt - z := sub_toInt rfl hz (by omega)
  have h3 := diff_toInt hA h1
  have h4 : fB j < fA i - lim ↔ (fB j).toInt < (fA i).toInt - z := by rw [Int32.lt_iff_toInt_lt, h2]
  rw [h3]
  by_cases q : (fB j).toInt < (fA i).toInt - z
  · rw [decide_eq_true (h4.mpr q), decide_eq_false (by omega)]; rfl
  · rw [decide_eq_false (fun w => q (h4.mp w)), decide_eq_true (by omega)]; rfl
theorem nD_mono {fA fB : Nat → Int32} {b a : Nat} {y z : Int} (h : y ≤ z) : nD fA fB b a y ≤ nD fA fB b a z := cD_mono a (fun i j _ _ hp => decide_eq_true (by have := of_decide_eq_true hp; omega))
theorem nD_le {fA fB : Nat → Int32} {b a : Nat} {z : Int} : nD fA fB b a z ≤ a * b := by
  rw [← cD_true (p := fun _ => true) (fA := fA) (fB := fB) (b := b) a (fun _ _ _ _ => rfl)]
  exact cD_mono a (fun _ _ _ _ _ => rfl)
theorem halvings {k : Nat} (h : k < 12) : 2 ^ (12 - k) = 2 * 2 ^ (12 - (k + 1)) := by rw [show 12 - k = 12 - (k + 1) + 1 by omega, Nat.pow_succ, Nat.mul_comm]
theorem nI_div2 {x : Nat} (h : x < 2 ^ 31) : nI x / nI 2 = nI (x / 2) := pk_div h (by decide) (by decide)
set_option maxHeartbeats 4000000 in
set_option maxRecDepth 100000 in
theorem c_X11_countShiftsUpTo (B : gB) (ad : Nat → Nat) (ct : Nat → va_E) (n : Nat) (hn : 178 ≤ n) (hx : ct 0 = .inr (11, [.ref (ad 1), .ref (ad 3), .ref (ad 5), .ref (ad 7), .ref (ad 9), .ref (ad 11), .ref (ad 79), .ref (ad 81), .ref (ad 88), .ref (ad 110), .ref (ad 115)])) (kA : Nat) (fA : Nat → Int32) (hA : ct 3 = .inr (5, [.ref (ad 4), .int (nI kA)])) (hAr : ct 4 = .inl (B.2.1 0, 15, .inl fA)) (hAk : kA ≤ 15) (kB : Nat) (fB : Nat → Int32) (hB : ct 5 = .inr (5, [.ref (ad 6), .int (nI kB)])) (hBr : ct 6 = .inl (B.2.1 0, 15, .inl fB)) (hBk : kB ≤ 15) (hAb : ∀ j, j < kA → (fA j).toInt.natAbs ≤ 1000) (hBb : ∀ j, j < kB → (fB j).toInt.natAbs ≤ 1000) (lim : Int32) (z : Int) (hz : lim.toInt = z) (hzb : z.natAbs ≤ 2000) : Ctr B yX11_countShiftsUpTo cX11_countShiftsUpTo 4 (some .int) 2 42 0 0 ad ct n [.ref (ad 0), .int lim] (gPip ad ct n (fun r => r = nI (nD fA fB kB kA z))) := by
  refine Ctr.ofG (L := [(0, .ref (ad 0)), (1, .int lim)]) (by decide +kernel) rfl (Nat.le_of_ble_eq_true rfl) (fun E fx rt hnm => ?_)
  refine g_iconst (v := nI 0) fx dX11_countShiftsUpTo_0 (by decide +kernel) ?_
  refine g_istore_n (L' := [(2, .int (nI 0)), (0, .ref (ad 0)), (1, .int lim)]) fx dX11_countShiftsUpTo_1 (by decide) rfl ?_
  refine g_iconst (v := nI 0) fx dX11_countShiftsUpTo_2 (by decide +kernel) ?_
  refine g_istore_n (L' := [(3, .int (nI 0)), (2, .int (nI 0)), (0, .ref (ad 0)), (1, .int lim)]) fx dX11_countShiftsUpTo_3 (by decide) rfl ?_
  have LP4 : ∀ (M : Nat) (i : Nat), (i ≤ kA) →  (kA - i) < M → G B 4 E ad ct n 0 0 [(0, .ref (ad 0)), (1, .int lim), (2, .int (nI (nD fA fB kB i z))), (3, .int (nI i))] 4 [] := by
    intro M
    induction M with
    | zero => intro i _ hM; exact absurd hM (Nat.not_lt_zero _)
    | succ M ih =>
      intro i hi hM
      have ih4 := ih
      refine g_iload_n fx 3 dX11_countShiftsUpTo_4 rfl ?_
      refine g_aload_n fx 0 dX11_countShiftsUpTo_5 rfl ?_
      refine g_get (r := 0) fx lkX11_21 (by omega) hx rfl dX11_countShiftsUpTo_6 ?_
      refine g_callVip (As := []) (rest := [.int (nI i)]) fx slX11_169 (c_X5_size B ad ct n 3 15 kA fA (by omega) hAk (by decide) hA hAr) (by omega) hA rfl rfl rfl (Nat.le_of_ble_eq_true rfl) ⟨by decide, by decide⟩ ⟨by decide, by decide⟩ dX11_countShiftsUpTo_9 (fun q1 hq1 => ?_)
      obtain rfl := hq1
      refine g_icmp_ge fx 49 dX11_countShiftsUpTo_12 (by decide) (fun c12 => ?_) (fun c12 => ?_)
      · skip
        have hie : i = kA := by have := (nI_leI (by omega) (by omega)).mp c12; omega
        refine g_iload_n fx 2 dX11_countShiftsUpTo_49 rfl ?_
        refine g_iret fx rt dX11_countShiftsUpTo_50 ?_
        refine gPip.mk ?_
        rw [hie]
      · skip
        have hlt : i < kA := (nI_ltI (by omega) (by omega)).mp (Int32.not_le.mp c12)
        have hnl := nD_le (fA := fA) (fB := fB) (b := kB) (a := i) (z := z)
        have hnm : i * kB ≤ 15 * 15 := Nat.mul_le_mul (by omega) (by omega)
        refine g_iload_n fx 2 dX11_countShiftsUpTo_15 rfl ?_
        refine g_aload_n fx 0 dX11_countShiftsUpTo_16 rfl ?_
        refine g_get (r := 0) fx lkX11_25 (by omega) hx rfl dX11_countShiftsUpTo_17 ?_
        refine g_callVip (As := []) (rest := [.int (nI (nD fA fB kB i z))]) fx slX11_169 (c_X5_size B ad ct n 5 15 kB fB (by omega) hBk (by decide) hB hBr) (by omega) hB rfl rfl rfl (Nat.le_of_ble_eq_true rfl) ⟨by decide, by decide⟩ ⟨by decide, by decide⟩ dX11_countShiftsUpTo_20 (fun q2 hq2 => ?_)
        obtain rfl := hq2
        refine g_aload_n fx 0 dX11_countShiftsUpTo_23 rfl ?_
        refine g_get (r := 0) fx lkX11_25 (by omega) hx rfl dX11_countShiftsUpTo_24 ?_
        refine g_aload_n fx 0 dX11_countShiftsUpTo_27 rfl ?_
        refine g_get (r := 0) fx lkX11_21 (by omega) hx rfl dX11_countShiftsUpTo_28 ?_
        refine g_iload_n fx 3 dX11_countShiftsUpTo_31 rfl ?_
        refine g_callVip (As := [.int (nI i)]) (rest := [.ref (ad 5), .int (nI kB), .int (nI (nD fA fB kB i z))]) fx slX11_189 (c_X5_get B ad ct n 3 15 kA fA (by omega) hAk (by decide) hA hAr (nI i)) (by omega) hA rfl rfl rfl (Nat.le_of_ble_eq_true rfl) ⟨by decide, by decide⟩ ⟨by decide, by decide⟩ dX11_countShiftsUpTo_32 (fun q3 hq3 => ?_)
        rw [get_nat hlt (by omega)] at hq3
        refine g_isi (y := fA i) hq3 ?_
        refine g_iload_n fx 1 dX11_countShiftsUpTo_35 rfl ?_
        refine g_isub fx dX11_countShiftsUpTo_36 ?_
        refine g_callVip (As := [.int ((fA i) - lim)]) (rest := [.int (nI kB), .int (nI (nD fA fB kB i z))]) fx slX11_300 (c_X5_countBelow B ad ct n 5 15 kB fB (by omega) hBk (by decide) hB hBr (fA i - lim)) (by omega) hB rfl rfl rfl (Nat.le_of_ble_eq_true rfl) ⟨by decide, by decide⟩ ⟨by decide, by decide⟩ dX11_countShiftsUpTo_37 (fun q4 hq4 => ?_)
        obtain rfl := hq4
        have hcl := gCnt_le (p := fun x => decide (x < fA i - lim)) (f := fB) kB
        refine g_isubN fx dX11_countShiftsUpTo_40 hcl ?_
        rw [nD_step hz hzb (hAb i hlt) hBb]
        refine g_iaddN fx dX11_countShiftsUpTo_41 ?_
        refine g_istore_n (L' := [(2, .int (nI ((nD fA fB kB i z) + (gCnt (fun y => decide ((fA i - y).toInt ≤ z)) fB kB)))), (0, .ref (ad 0)), (1, .int lim), (3, .int (nI i))]) fx dX11_countShiftsUpTo_42 (by decide) rfl ?_
        refine g_iinc (L' := [(3, .int (nI (i + 1))), (2, .int (nI ((nD fA fB kB i z) + (gCnt (fun y => decide ((fA i - y).toInt ≤ z)) fB kB)))), (0, .ref (ad 0)), (1, .int lim)]) fx (nI (i + 1)) 3 dX11_countShiftsUpTo_43 rfl (gInc _) (by decide) rfl ?_
        refine g_goto fx 4 dX11_countShiftsUpTo_46 (by decide) ?_
        refine g_locals (L' := [(0, .ref (ad 0)), (1, .int lim), (2, .int (nI ((nD fA fB kB i z) + (gCnt (fun y => decide ((fA i - y).toInt ≤ z)) fB kB)))), (3, .int (nI (i + 1)))]) [2, 3, 1, 0] rfl ?_
        exact ih4 (i + 1) (by omega) (by omega)
  refine g_locals (L' := [(0, .ref (ad 0)), (1, .int lim), (2, .int (nI 0)), (3, .int (nI 0))]) [2, 3, 1, 0] rfl ?_
  exact LP4 (kA + 1) 0 (by omega) (by omega)
set_option maxHeartbeats 4000000 in
set_option maxRecDepth 100000 in
theorem c_X11_shiftInPlace (B : gB) (ad : Nat → Nat) (ct : Nat → va_E) (n : Nat) (hn : 178 ≤ n) (hx : ct 0 = .inr (11, [.ref (ad 1), .ref (ad 3), .ref (ad 5), .ref (ad 7), .ref (ad 9), .ref (ad 11), .ref (ad 79), .ref (ad 81), .ref (ad 88), .ref (ad 110), .ref (ad 115)])) (kA : Nat) (fA : Nat → Int32) (hA : ct 3 = .inr (5, [.ref (ad 4), .int (nI kA)])) (hAr : ct 4 = .inl (B.2.1 0, 15, .inl fA)) (hAk : kA ≤ 15) (kB : Nat) (fB : Nat → Int32) (hB : ct 5 = .inr (5, [.ref (ad 6), .int (nI kB)])) (hBr : ct 6 = .inl (B.2.1 0, 15, .inl fB)) (hBk : kB ≤ 15) (hAb : ∀ j, j < kA → (fA j).toInt.natAbs ≤ 1000) (hBb : ∀ j, j < kB → (fB j).toInt.natAbs ≤ 1000) (m : Nat) (hm1 : 1 ≤ m) (hm2 : m ≤ kA * kB) : Ctr B yX11_shiftInPlace cX11_shiftInPlace 6 (some .int) 3 65 0 0 ad ct n [.ref (ad 0), .int (nI m)] (gPip ad ct n (fun r => -2000 ≤ r.toInt ∧ r.toInt ≤ 2000 ∧ m ≤ nD fA fB kB kA r.toInt ∧ ∀ y : Int, y < r.toInt → -2000 ≤ y → nD fA fB kB kA y < m)) := by
  have hkk : kA * kB ≤ 15 * 15 := Nat.mul_le_mul hAk hBk
  refine Ctr.ofG (L := [(0, .ref (ad 0)), (1, .int (nI m))]) (by decide +kernel) rfl (Nat.le_of_ble_eq_true rfl) (fun E fx rt hnm => ?_)
  refine g_sipush (v := (-2000)) fx dX11_shiftInPlace_0 (by decide +kernel) ?_
  refine g_istore_n (L' := [(2, .int (-2000)), (0, .ref (ad 0)), (1, .int (nI m))]) fx dX11_shiftInPlace_3 (by decide) rfl ?_
  refine g_sipush (v := nI 2000) fx dX11_shiftInPlace_4 (by decide +kernel) ?_
  refine g_istore_n (L' := [(3, .int (nI 2000)), (2, .int (-2000)), (0, .ref (ad 0)), (1, .int (nI m))]) fx dX11_shiftInPlace_7 (by decide) rfl ?_
  refine g_iconst (v := nI 0) fx dX11_shiftInPlace_8 (by decide +kernel) ?_
  refine g_istore (L' := [(4, .int (nI 0)), (3, .int (nI 2000)), (2, .int (-2000)), (0, .ref (ad 0)), (1, .int (nI m))]) fx dX11_shiftInPlace_9 (by decide) rfl ?_
  have LP11 : ∀ (M : Nat) (a b : Int32) (k w : Nat), (-2000 ≤ a.toInt) → (a.toInt ≤ b.toInt) → (b.toInt ≤ 2000) → (m ≤ nD fA fB kB kA b.toInt) → (∀ y : Int, y < a.toInt → -2000 ≤ y → nD fA fB kB kA y < m) → (k ≤ 12) → (w = 2 ^ (12 - k)) → (b.toInt - a.toInt < (w : Int)) →  ((b.toInt - a.toInt).toNat) < M → G B 6 E ad ct n 0 0 [(0, .ref (ad 0)), (1, .int (nI m)), (2, .int a), (3, .int b), (4, .int (nI k))] 11 [] := by
    intro M
    induction M with
    | zero => intro a b k w _ _ _ _ _ _ _ _ hM; exact absurd hM (Nat.not_lt_zero _)
    | succ M ih =>
      intro a b k w ha hab hb hhi hlo hk hw hst hM
      have ih11 := ih
      refine g_iload fx 4 dX11_shiftInPlace_11 rfl ?_
      refine g_bipush (v := nI 12) fx dX11_shiftInPlace_13 (by decide +kernel) ?_
      refine g_icmp_ge fx 57 dX11_shiftInPlace_15 (by decide) (fun c15 => ?_) (fun c15 => ?_)
      · skip
        have hk12 : 12 ≤ k := (nI_leI (by omega) (by omega)).mp c15
        have hw1 : w = 1 := by rw [hw, show 12 - k = 0 by omega, Nat.pow_zero]
        have hae : a.toInt = b.toInt := by omega
        refine g_iload_n fx 2 dX11_shiftInPlace_57 rfl ?_
        refine g_iret fx rt dX11_shiftInPlace_58 ?_
        refine gPip.mk ?_
        exact ⟨by omega, by omega, by rw [hae]; exact hhi, hlo⟩
      · skip
        have hkl : k < 12 := (nI_ltI (by omega) (by omega)).mp (Int32.not_le.mp c15)
        obtain ⟨w', hw'⟩ : ∃ w', w' = 2 ^ (12 - (k + 1)) := ⟨_, rfl⟩
        have hww : w = 2 * w' := by rw [hw, hw', halvings hkl]
        refine g_iload_n fx 2 dX11_shiftInPlace_18 rfl ?_
        refine g_iload_n fx 3 dX11_shiftInPlace_19 rfl ?_
        refine g_icmp_ge fx 57 dX11_shiftInPlace_20 (by decide) (fun c20 => ?_) (fun c20 => ?_)
        · skip
          have hae : a.toInt = b.toInt := by have := Int32.le_iff_toInt_le.mp c20; omega
          refine g_iload_n fx 2 dX11_shiftInPlace_57 rfl ?_
          refine g_iret fx rt dX11_shiftInPlace_58 ?_
          refine gPip.mk ?_
          exact ⟨by omega, by omega, by rw [hae]; exact hhi, hlo⟩
        · skip
          have hlt : a.toInt < b.toInt := by have := Int32.lt_iff_toInt_lt.mp (Int32.not_le.mp c20); exact this
          refine g_iload_n fx 2 dX11_shiftInPlace_23 rfl ?_
          refine g_iload_n fx 3 dX11_shiftInPlace_24 rfl ?_
          refine g_iadd fx dX11_shiftInPlace_25 ?_
          refine g_iconst (v := nI 1) fx dX11_shiftInPlace_26 (by decide +kernel) ?_
          refine g_ishr fx dX11_shiftInPlace_27 ?_
          refine g_topi (fun hf ehf => ?_)
          have hab2 : (a + b).toInt = a.toInt + b.toInt := add_toInt rfl rfl (by omega)
          have hfe : hf.toInt = (a.toInt + b.toInt) / 2 := by rw [ehf, i_half, hab2]
          refine g_istore (L' := [(5, .int hf), (0, .ref (ad 0)), (1, .int (nI m)), (2, .int a), (3, .int b), (4, .int (nI k))]) fx dX11_shiftInPlace_28 (by decide) rfl ?_
          refine g_aload_n fx 1 dX11_shiftInPlace_30 rfl ?_
          refine g_iload fx 0 dX11_shiftInPlace_31 rfl ?_
          refine g_callVip (As := [.int hf]) (rest := []) fx slX11_320 (c_X11_countShiftsUpTo B ad ct n hn hx kA fA hA hAr hAk kB fB hB hBr hBk hAb hBb hf hf.toInt rfl (by omega)) (by omega) hx rfl rfl rfl (Nat.le_of_ble_eq_true rfl) ⟨by decide, by decide⟩ ⟨by decide, by decide⟩ dX11_shiftInPlace_33 (fun q1 hq1 => ?_)
          have hqle : nD fA fB kB kA hf.toInt = nD fA fB kB kA hf.toInt := rfl
          have hnl := nD_le (fA := fA) (fB := fB) (b := kB) (a := kA) (z := hf.toInt)
          refine g_isi (y := nI (nD fA fB kB kA hf.toInt)) hq1 ?_
          refine g_iload_n fx 2 dX11_shiftInPlace_36 rfl ?_
          refine g_icmp_lt fx 46 dX11_shiftInPlace_37 (by decide) (fun c37 => ?_) (fun c37 => ?_)
          · skip
            have hlt2 : nD fA fB kB kA hf.toInt < m := (nI_ltI (by omega) (by omega)).mp c37
            refine g_iload fx 0 dX11_shiftInPlace_46 rfl ?_
            refine g_iconst (v := nI 1) fx dX11_shiftInPlace_48 (by decide +kernel) ?_
            refine g_iadd fx dX11_shiftInPlace_49 ?_
            refine g_topi (fun x2 ex2 => ?_)
            have hx2 : x2.toInt = hf.toInt + 1 := by rw [ex2]; exact add_toInt rfl rfl (by omega)
            refine g_istore_n (L' := [(2, .int x2), (5, .int hf), (0, .ref (ad 0)), (1, .int (nI m)), (3, .int b), (4, .int (nI k))]) fx dX11_shiftInPlace_50 (by decide) rfl ?_
            refine g_iinc (L' := [(4, .int (nI (k + 1))), (2, .int x2), (5, .int hf), (0, .ref (ad 0)), (1, .int (nI m)), (3, .int b)]) fx (nI (k + 1)) 5 dX11_shiftInPlace_51 rfl (gInc _) (by decide) rfl ?_
            refine g_goto fx 11 dX11_shiftInPlace_54 (by decide) ?_
            refine g_locals (L' := [(0, .ref (ad 0)), (1, .int (nI m)), (2, .int x2), (3, .int b), (4, .int (nI (k + 1)))]) [3, 4, 1, 5, 0] rfl ?_
            exact ih11 x2 b (k + 1) w' (by omega) (by omega) hb hhi (fun y h1 h2 => Nat.lt_of_le_of_lt (nD_mono (show y ≤ hf.toInt by omega)) hlt2) (by omega) hw' (by omega) (by omega)
          · skip
            have hge : m ≤ nD fA fB kB kA hf.toInt := (nI_leI (by omega) (by omega)).mp (Int32.not_lt.mp c37)
            refine g_iload fx 0 dX11_shiftInPlace_40 rfl ?_
            refine g_istore_n (L' := [(3, .int hf), (5, .int hf), (0, .ref (ad 0)), (1, .int (nI m)), (2, .int a), (4, .int (nI k))]) fx dX11_shiftInPlace_42 (by decide) rfl ?_
            refine g_goto fx 51 dX11_shiftInPlace_43 (by decide) ?_
            refine g_iinc (L' := [(4, .int (nI (k + 1))), (3, .int hf), (5, .int hf), (0, .ref (ad 0)), (1, .int (nI m)), (2, .int a)]) fx (nI (k + 1)) 5 dX11_shiftInPlace_51 rfl (gInc _) (by decide) rfl ?_
            refine g_goto fx 11 dX11_shiftInPlace_54 (by decide) ?_
            refine g_locals (L' := [(0, .ref (ad 0)), (1, .int (nI m)), (2, .int a), (3, .int hf), (4, .int (nI (k + 1)))]) [3, 4, 5, 1, 0] rfl ?_
            exact ih11 a hf (k + 1) w' ha (by omega) (by omega) (by rw [← hqle]; exact hge) hlo (by omega) hw' (by omega) (by omega)
  refine g_locals (L' := [(0, .ref (ad 0)), (1, .int (nI m)), (2, .int (-2000)), (3, .int (nI 2000)), (4, .int (nI 0))]) [3, 4, 2, 1, 0] rfl ?_
  have e1 : (-2000 : Int32).toInt = -2000 := by decide
  have e2 : (nI 2000).toInt = 2000 := by decide
  refine LP11 4001 _ _ 0 4096 (by omega) (by omega) (by omega) ?_ (fun y h1 h2 => absurd h1 (by omega)) (by omega) (by decide) (by omega) (by omega)
  rw [e2]
  refine Nat.le_trans hm2 (Nat.le_of_eq (cD_true kA (fun i j hi hj => decide_eq_true ?_)).symm)
  rw [diff_toInt (hAb i hi) (hBb j hj)]
  have := hAb i hi
  have := hBb j hj
  omega
set_option maxHeartbeats 4000000 in
set_option maxRecDepth 100000 in
theorem c_X11_shift (B : gB) (ad : Nat → Nat) (ct : Nat → va_E) (n : Nat) (hn : 178 ≤ n) (hx : ct 0 = .inr (11, [.ref (ad 1), .ref (ad 3), .ref (ad 5), .ref (ad 7), .ref (ad 9), .ref (ad 11), .ref (ad 79), .ref (ad 81), .ref (ad 88), .ref (ad 110), .ref (ad 115)])) (kA : Nat) (fA : Nat → Int32) (hA : ct 3 = .inr (5, [.ref (ad 4), .int (nI kA)])) (hAr : ct 4 = .inl (B.2.1 0, 15, .inl fA)) (hAk : kA ≤ 15) (kB : Nat) (fB : Nat → Int32) (hB : ct 5 = .inr (5, [.ref (ad 6), .int (nI kB)])) (hBr : ct 6 = .inl (B.2.1 0, 15, .inl fB)) (hBk : kB ≤ 15) (hAb : ∀ j, j < kA → (fA j).toInt.natAbs ≤ 1000) (hBb : ∀ j, j < kB → (fB j).toInt.natAbs ≤ 1000) : Ctr B yX11_shift cX11_shift 2 (some .int) 4 90 0 0 ad ct n [.ref (ad 0)] (gPip ad ct n (fun r => ((kA * kB) = 0 ∧ r = -1000000003) ∨ (0 < (kA * kB) ∧ ∃ r1 r2 : Int32, r = r1 + r2 ∧ (-2000 ≤ r1.toInt ∧ r1.toInt ≤ 2000 ∧ ((kA * kB) + 1) / 2 ≤ nD fA fB kB kA r1.toInt ∧ ∀ y : Int, y < r1.toInt → -2000 ≤ y → nD fA fB kB kA y < ((kA * kB) + 1) / 2) ∧ (-2000 ≤ r2.toInt ∧ r2.toInt ≤ 2000 ∧ (kA * kB) / 2 + 1 ≤ nD fA fB kB kA r2.toInt ∧ ∀ y : Int, y < r2.toInt → -2000 ≤ y → nD fA fB kB kA y < (kA * kB) / 2 + 1)))) := by
  have hkk : kA * kB ≤ 15 * 15 := Nat.mul_le_mul hAk hBk
  refine Ctr.ofG (L := [(0, .ref (ad 0))]) (by decide +kernel) rfl (Nat.le_of_ble_eq_true rfl) (fun E fx rt hnm => ?_)
  refine g_aload_n fx 0 dX11_shift_0 rfl ?_
  refine g_get (r := 0) fx lkX11_21 (by omega) hx rfl dX11_shift_1 ?_
  refine g_callVip (As := []) (rest := []) fx slX11_169 (c_X5_size B ad ct n 3 15 kA fA (by omega) hAk (by decide) hA hAr) (by omega) hA rfl rfl rfl (Nat.le_of_ble_eq_true rfl) ⟨by decide, by decide⟩ ⟨by decide, by decide⟩ dX11_shift_4 (fun q1 hq1 => ?_)
  obtain rfl := hq1
  refine g_aload_n fx 0 dX11_shift_7 rfl ?_
  refine g_get (r := 0) fx lkX11_25 (by omega) hx rfl dX11_shift_8 ?_
  refine g_callVip (As := []) (rest := [.int (nI kA)]) fx slX11_169 (c_X5_size B ad ct n 5 15 kB fB (by omega) hBk (by decide) hB hBr) (by omega) hB rfl rfl rfl (Nat.le_of_ble_eq_true rfl) ⟨by decide, by decide⟩ ⟨by decide, by decide⟩ dX11_shift_11 (fun q2 hq2 => ?_)
  obtain rfl := hq2
  refine g_imulN fx dX11_shift_14 ?_
  refine g_istore_n (L' := [(1, .int (nI (kA * kB))), (0, .ref (ad 0))]) fx dX11_shift_15 (by decide) rfl ?_
  refine g_iload_n fx 0 dX11_shift_16 rfl ?_
  refine g_if_ne fx 23 dX11_shift_17 (by decide) (fun c17 => ?_) (fun c17 => ?_)
  · skip
    have hp : 0 < (kA * kB) := Nat.pos_of_ne_zero (fun q => c17 (by rw [q]; rfl))
    refine g_aload_n fx 1 dX11_shift_23 rfl ?_
    refine g_iload_n fx 0 dX11_shift_24 rfl ?_
    refine g_iconst (v := nI 1) fx dX11_shift_25 (by decide +kernel) ?_
    refine g_iaddN fx dX11_shift_26 ?_
    refine g_iconst (v := nI 2) fx dX11_shift_27 (by decide +kernel) ?_
    refine g_idiv fx dX11_shift_28 (by decide) ?_
    refine g_isi (y := nI (((kA * kB) + 1) / 2)) (nI_div2 (by omega)) ?_
    refine g_callVip (As := [.int (nI (((kA * kB) + 1) / 2))]) (rest := []) fx slX11_295 (c_X11_shiftInPlace B ad ct n hn hx kA fA hA hAr hAk kB fB hB hBr hBk hAb hBb (((kA * kB) + 1) / 2) (by omega) (by omega)) (by omega) hx rfl rfl rfl (Nat.le_of_ble_eq_true rfl) ⟨by decide, by decide⟩ ⟨by decide, by decide⟩ dX11_shift_29 (fun q3 hq3 => ?_)
    refine g_aload_n fx 1 dX11_shift_32 rfl ?_
    refine g_iload_n fx 0 dX11_shift_33 rfl ?_
    refine g_iconst (v := nI 2) fx dX11_shift_34 (by decide +kernel) ?_
    refine g_idiv fx dX11_shift_35 (by decide) ?_
    refine g_isi (y := nI ((kA * kB) / 2)) (nI_div2 (by omega)) ?_
    refine g_iconst (v := nI 1) fx dX11_shift_36 (by decide +kernel) ?_
    refine g_iaddN fx dX11_shift_37 ?_
    refine g_callVip (As := [.int (nI (((kA * kB) / 2) + 1))]) (rest := [.int q3]) fx slX11_295 (c_X11_shiftInPlace B ad ct n hn hx kA fA hA hAr hAk kB fB hB hBr hBk hAb hBb ((kA * kB) / 2 + 1) (by omega) (by omega)) (by omega) hx rfl rfl rfl (Nat.le_of_ble_eq_true rfl) ⟨by decide, by decide⟩ ⟨by decide, by decide⟩ dX11_shift_38 (fun q4 hq4 => ?_)
    refine g_iadd fx dX11_shift_41 ?_
    refine g_iret fx rt dX11_shift_42 ?_
    refine gPip.mk ?_
    exact Or.inr ⟨hp, q3, q4, rfl, hq3, hq4⟩
  · skip
    have hz : (kA * kB) = 0 := (nI_eq (by omega) (by omega)).mp (c17.trans (show (0 : Int32) = nI 0 by decide))
    refine g_ldc fx kcX11_172 dX11_shift_20 ?_
    refine g_iret fx rt dX11_shift_22 ?_
    refine gPip.mk ?_
    exact Or.inl ⟨hz, rfl⟩
