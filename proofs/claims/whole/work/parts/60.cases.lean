theorem l_sshrk {x k : Nat} (h : x < 9223372036854775808) (hk : k < 64) : lN x >>> ((nI k).toInt64 &&& 63) = lN (x / 2 ^ k) := by
  have hD : (((nI k).toInt64 &&& 63).toBitVec.smod 64).toNat = k := (show ∀ k, k < 64 → (((nI k).toInt64 &&& 63).toBitVec.smod 64).toNat = k by decide +kernel) k hk
  apply wb_inj
  have h1 : (lN x >>> ((nI k).toInt64 &&& 63)).toInt = (lN x).toInt >>> k := by
    rw [show lN x >>> ((nI k).toInt64 &&& 63) = Int64.shiftRight (lN x) ((nI k).toInt64 &&& 63) from rfl]
    show (((lN x).toBitVec.sshiftRight' (((nI k).toInt64 &&& 63).toBitVec.smod 64))).toInt = _
    rw [BitVec.sshiftRight_eq', BitVec.toInt_sshiftRight, hD]
    rfl
  have h2 : (lN x).toInt = (x : Int) := pk_lT (by omega)
  have h3 : (lN (x / 2 ^ k)).toInt = ((x / 2 ^ k : Nat) : Int) := pk_lT (Nat.lt_of_le_of_lt (Nat.div_le_self _ _) (by omega))
  refine Int64.toBitVec_inj.mpr (Int64.toInt_inj.mp ?_)
  rw [h1, h2, h3, Int.shiftRight_eq_div_pow]
  exact (Int.natCast_ediv x (2 ^ k)).symm
theorem nI_mod (x : Nat) : nI x = nI (x % 4294967296) := by
  apply Int32.toBitVec_inj.mp
  show BitVec.ofNat 32 x = BitVec.ofNat 32 (x % 4294967296)
  apply BitVec.eq_of_toNat_eq
  simp
theorem i_and63 (x : Nat) : nI x &&& nI 63 = nI (x % 64) := by
  rw [nI_mod x, pk_andN (show x % 4294967296 < 2 ^ 32 by omega) 6 (by decide)]
  congr 1
  omega
/-- ten places of six bits, and what stands above them -/
def blk (v : Nat → Nat) (N i c q : Nat) : Nat := if q < 10 then (if 10 * i + q < N then v (10 * i + q) else 0) else (if i = 0 then c else 0)
theorem blk_lt {v : Nat → Nat} {N i c q : Nat} (hv : ∀ j, j < N → v j < 64) (hc : c < 64) : blk v N i c q < 64 := by
  unfold blk
  split
  · split
    · exact hv _ (by assumption)
    · omega
  · split <;> omega
theorem blk_10 {v : Nat → Nat} {N i c : Nat} : bval 64 (blk v N i c) 11 = bval 64 (fun q => if 10 * i + q < N then v (10 * i + q) else 0) 10 + (if i = 0 then c else 0) * 64 ^ 10 := by
  show bval 64 (blk v N i c) 10 + blk v N i c 10 * 64 ^ 10 = _
  rw [bval_congr (f := blk v N i c) (g := fun q => if 10 * i + q < N then v (10 * i + q) else 0) 10 (fun q hq => if_pos hq)]
  rfl
theorem blk_at {v : Nat → Nat} {N i c q : Nat} (hv : ∀ j, j < N → v j < 64) (hc : c < 64) (hq : q < 10) (hi : 10 * i + q < N) : bval 64 (blk v N i c) 11 / 64 ^ q % 64 = v (10 * i + q) := by
  rw [bval_digit (by decide) (by omega) (fun q _ => blk_lt hv hc)]
  unfold blk
  rw [if_pos hq, if_pos hi]
theorem blk_top {v : Nat → Nat} {N c : Nat} (hv : ∀ j, j < N → v j < 64) : bval 64 (blk v N 0 c) 11 / 2 ^ 60 = c := by
  rw [blk_10, if_pos rfl, show (2 : Nat) ^ 60 = 64 ^ 10 by decide, Nat.add_mul_div_right _ _ (by decide), Nat.div_eq_of_lt (bval_lt 10 (fun q _ => by split; (exact hv _ (by assumption)); (decide))), Nat.zero_add]
theorem blk_bd {v : Nat → Nat} {N i c : Nat} (hv : ∀ j, j < N → v j < 64) (hc : c ≤ 2) : bval 64 (blk v N i c) 11 < 2 ^ 62 := by
  rw [blk_10]
  have h1 : bval 64 (fun q => if 10 * i + q < N then v (10 * i + q) else 0) 10 < 64 ^ 10 := bval_lt 10 (fun q _ => by split; (exact hv _ (by assumption)); (decide))
  have h2 : (if i = 0 then c else 0) * 64 ^ 10 ≤ 2 * 64 ^ 10 := Nat.mul_le_mul_right _ (by split <;> omega)
  have h3 : (2 : Nat) ^ 62 = 4 * 64 ^ 10 := by decide
  omega
theorem pow64 (q : Nat) : 64 ^ q = 2 ^ (6 * q) := by rw [Nat.pow_mul]
theorem bval_pad {v : Nat → Nat} {i N m : Nat} (h : min 10 (N - 10 * i) = m) : bval 64 (fun q => if 10 * i + q < N then v (10 * i + q) else 0) 10 = bval 64 (fun q => v (10 * i + q)) m := by
  obtain ⟨k, hk⟩ : ∃ k, 10 = m + k := ⟨10 - m, by omega⟩
  have e : ∀ F : Nat → Nat, bval 64 F 10 = bval 64 F (m + k) := fun F => by rw [← hk]
  rw [e, bval_split, bval_zero (f := fun j => (fun q => if 10 * i + q < N then v (10 * i + q) else 0) (m + j)) k (fun j hj => if_neg (by omega)), Nat.mul_zero, Nat.add_zero]
  exact bval_congr m (fun q hq => if_pos (by omega))
theorem or_bd {a p v : Nat} (ha : a < p) (hv : v < 64) (h : p * 64 ≤ 2 ^ 60) : a + v * p < 2 ^ 64 := by
  have h1 : (v + 1) * p ≤ 64 * p := Nat.mul_le_mul_right _ hv
  rw [Nat.succ_mul, Nat.mul_comm 64] at h1
  omega
set_option maxHeartbeats 4000000 in
set_option maxRecDepth 100000 in
theorem c_X0_count (B : gB) (ad : Nat → Nat) (ct : Nat → va_E) (n : Nat) (Rk Ck sd cn N : Nat) (g : Nat → Nat) (hn : 178 ≤ n) (hk : ct 79 = .inr (0, [.ref (ad 80), .int (nI Rk), .int (nI Ck), .int (nI sd), .int (nI cn)])) (hkr : ct 80 = .inl (B.2.1 1, N, .inr (.inl (lF g)))) (hR5 : Rk ≤ 5) (hC5 : Ck ≤ 5) (hsd : sd = (Rk * Ck + 9) / 10) (hcn : cn ≤ 20000) (hN : N ≤ 200000) : Ctr B yX0_count cX0_count 1 (some .int) 0 0 0 0 ad ct n [.ref (ad 79)] (gPip ad ct n (fun r => r = nI cn)) := by
  have hm25 : Rk * Ck ≤ 25 := Nat.mul_le_mul hR5 hC5
  have hsd3 : sd ≤ 3 := by omega
  refine Ctr.ofG (L := [(0, .ref (ad 79))]) (by decide +kernel) rfl (Nat.le_of_ble_eq_true rfl) (fun E fx rt hnm => ?_)
  refine g_aload_n fx 0 dX0_count_0 rfl ?_
  refine g_get (r := 79) fx lkX0_23 (by omega) hk rfl dX0_count_1 ?_
  refine g_iret fx rt dX0_count_4 ?_
  refine gPip.mk ?_
  rfl
set_option maxHeartbeats 4000000 in
set_option maxRecDepth 100000 in
theorem c_X0_has (B : gB) (ad : Nat → Nat) (ct : Nat → va_E) (n : Nat) (Rk Ck sd cn N : Nat) (g : Nat → Nat) (hn : 178 ≤ n) (hk : ct 79 = .inr (0, [.ref (ad 80), .int (nI Rk), .int (nI Ck), .int (nI sd), .int (nI cn)])) (hkr : ct 80 = .inl (B.2.1 1, N, .inr (.inl (lF g)))) (hR5 : Rk ≤ 5) (hC5 : Ck ≤ 5) (hsd : sd = (Rk * Ck + 9) / 10) (hcn : cn ≤ 20000) (hN : N ≤ 200000) (x : Int32) : Ctr B yX0_has cX0_has 2 (some .boolean) 0 0 0 0 ad ct n [.ref (ad 79), .int x] (gPip ad ct n (fun r => r = if 0 ≤ x.toInt ∧ x.toInt < (cn : Int) then 1 else 0)) := by
  have hm25 : Rk * Ck ≤ 25 := Nat.mul_le_mul hR5 hC5
  have hsd3 : sd ≤ 3 := by omega
  refine Ctr.ofG (L := [(0, .ref (ad 79)), (1, .int x)]) (by decide +kernel) rfl (Nat.le_of_ble_eq_true rfl) (fun E fx rt hnm => ?_)
  refine g_iload_n fx 1 dX0_has_0 rfl ?_
  refine g_if_lt fx 16 dX0_has_1 (by decide) (fun c1 => ?_) (fun c1 => ?_)
  · skip
    refine g_iconst (v := 0) fx dX0_has_16 (by decide +kernel) ?_
    have hk := nI_toInt (n := cn) (by omega)
    refine g_zret fx rt dX0_has_17 rfl ?_
    refine gPip.mk ?_
    first | (rw [if_neg (by have := Int32.lt_iff_toInt_lt.mp c1; simp at this; omega)]; done) | (rw [if_neg (by have := Int32.le_iff_toInt_le.mp c9; omega)]; done) | (rw [if_pos (by have h1 := Int32.not_lt.mp c1; have h1 := Int32.le_iff_toInt_le.mp h1; have h2 := Int32.lt_iff_toInt_lt.mp (Int32.not_le.mp c9); simp at h1; omega)]; done)
  · skip
    refine g_iload_n fx 1 dX0_has_4 rfl ?_
    refine g_aload_n fx 0 dX0_has_5 rfl ?_
    refine g_get (r := 79) fx lkX0_23 (by omega) hk rfl dX0_has_6 ?_
    refine g_icmp_ge fx 16 dX0_has_9 (by decide) (fun c9 => ?_) (fun c9 => ?_)
    · skip
      refine g_iconst (v := 0) fx dX0_has_16 (by decide +kernel) ?_
      have hk := nI_toInt (n := cn) (by omega)
      refine g_zret fx rt dX0_has_17 rfl ?_
      refine gPip.mk ?_
      first | (rw [if_neg (by have := Int32.lt_iff_toInt_lt.mp c1; simp at this; omega)]; done) | (rw [if_neg (by have := Int32.le_iff_toInt_le.mp c9; omega)]; done) | (rw [if_pos (by have h1 := Int32.not_lt.mp c1; have h1 := Int32.le_iff_toInt_le.mp h1; have h2 := Int32.lt_iff_toInt_lt.mp (Int32.not_le.mp c9); simp at h1; omega)]; done)
    · skip
      refine g_iconst (v := 1) fx dX0_has_12 (by decide +kernel) ?_
      refine g_goto fx 17 dX0_has_13 (by decide) ?_
      have hk := nI_toInt (n := cn) (by omega)
      refine g_zret fx rt dX0_has_17 rfl ?_
      refine gPip.mk ?_
      first | (rw [if_neg (by have := Int32.lt_iff_toInt_lt.mp c1; simp at this; omega)]; done) | (rw [if_neg (by have := Int32.le_iff_toInt_le.mp c9; omega)]; done) | (rw [if_pos (by have h1 := Int32.not_lt.mp c1; have h1 := Int32.le_iff_toInt_le.mp h1; have h2 := Int32.lt_iff_toInt_lt.mp (Int32.not_le.mp c9); simp at h1; omega)]; done)
set_option maxHeartbeats 4000000 in
set_option maxRecDepth 100000 in
theorem c_X0_hasCell (B : gB) (ad : Nat → Nat) (ct : Nat → va_E) (n : Nat) (Rk Ck sd cn N : Nat) (g : Nat → Nat) (hn : 178 ≤ n) (hk : ct 79 = .inr (0, [.ref (ad 80), .int (nI Rk), .int (nI Ck), .int (nI sd), .int (nI cn)])) (hkr : ct 80 = .inl (B.2.1 1, N, .inr (.inl (lF g)))) (hR5 : Rk ≤ 5) (hC5 : Ck ≤ 5) (hsd : sd = (Rk * Ck + 9) / 10) (hcn : cn ≤ 20000) (hN : N ≤ 200000) (y z : Int32) : Ctr B yX0_hasCell cX0_hasCell 3 (some .boolean) 0 0 0 0 ad ct n [.ref (ad 79), .int y, .int z] (gPip ad ct n (fun r => r = if (0 ≤ y.toInt ∧ y.toInt < (Rk : Int)) ∧ (0 ≤ z.toInt ∧ z.toInt < (Ck : Int)) then 1 else 0)) := by
  have hm25 : Rk * Ck ≤ 25 := Nat.mul_le_mul hR5 hC5
  have hsd3 : sd ≤ 3 := by omega
  have hkR := nI_toInt (n := Rk) (by omega)
  have hkC := nI_toInt (n := Ck) (by omega)
  refine Ctr.ofG (L := [(0, .ref (ad 79)), (1, .int y), (2, .int z)]) (by decide +kernel) rfl (Nat.le_of_ble_eq_true rfl) (fun E fx rt hnm => ?_)
  refine g_iload_n fx 1 dX0_hasCell_0 rfl ?_
  refine g_if_lt fx 28 dX0_hasCell_1 (by decide) (fun c1 => ?_) (fun c1 => ?_)
  · skip
    have hA : ¬ ((0 ≤ y.toInt ∧ y.toInt < (Rk : Int)) ∧ (0 ≤ z.toInt ∧ z.toInt < (Ck : Int))) := fun w => by have := Int32.lt_iff_toInt_lt.mp c1; simp at this; omega
    refine g_iconst (v := 0) fx dX0_hasCell_28 (by decide +kernel) ?_
    refine g_zret fx rt dX0_hasCell_29 rfl ?_
    refine gPip.mk ?_
    first | (rw [if_pos hA]; done) | (rw [if_neg hA]; done)
  · skip
    have h1 : 0 ≤ y.toInt := by have := Int32.le_iff_toInt_le.mp (Int32.not_lt.mp c1); simpa using this
    refine g_iload_n fx 1 dX0_hasCell_4 rfl ?_
    refine g_aload_n fx 0 dX0_hasCell_5 rfl ?_
    refine g_get (r := 79) fx lkX0_13 (by omega) hk rfl dX0_hasCell_6 ?_
    refine g_icmp_ge fx 28 dX0_hasCell_9 (by decide) (fun c9 => ?_) (fun c9 => ?_)
    · skip
      have hA : ¬ ((0 ≤ y.toInt ∧ y.toInt < (Rk : Int)) ∧ (0 ≤ z.toInt ∧ z.toInt < (Ck : Int))) := fun w => by have := Int32.le_iff_toInt_le.mp c9; omega
      refine g_iconst (v := 0) fx dX0_hasCell_28 (by decide +kernel) ?_
      refine g_zret fx rt dX0_hasCell_29 rfl ?_
      refine gPip.mk ?_
      first | (rw [if_pos hA]; done) | (rw [if_neg hA]; done)
    · skip
      have h2 := Int32.lt_iff_toInt_lt.mp (Int32.not_le.mp c9)
      refine g_iload_n fx 2 dX0_hasCell_12 rfl ?_
      refine g_if_lt fx 28 dX0_hasCell_13 (by decide) (fun c13 => ?_) (fun c13 => ?_)
      · skip
        have hA : ¬ ((0 ≤ y.toInt ∧ y.toInt < (Rk : Int)) ∧ (0 ≤ z.toInt ∧ z.toInt < (Ck : Int))) := fun w => by have := Int32.lt_iff_toInt_lt.mp c13; simp at this; omega
        refine g_iconst (v := 0) fx dX0_hasCell_28 (by decide +kernel) ?_
        refine g_zret fx rt dX0_hasCell_29 rfl ?_
        refine gPip.mk ?_
        first | (rw [if_pos hA]; done) | (rw [if_neg hA]; done)
      · skip
        have h3 : 0 ≤ z.toInt := by have := Int32.le_iff_toInt_le.mp (Int32.not_lt.mp c13); simpa using this
        refine g_iload_n fx 2 dX0_hasCell_16 rfl ?_
        refine g_aload_n fx 0 dX0_hasCell_17 rfl ?_
        refine g_get (r := 79) fx lkX0_17 (by omega) hk rfl dX0_hasCell_18 ?_
        refine g_icmp_ge fx 28 dX0_hasCell_21 (by decide) (fun c21 => ?_) (fun c21 => ?_)
        · skip
          have hA : ¬ ((0 ≤ y.toInt ∧ y.toInt < (Rk : Int)) ∧ (0 ≤ z.toInt ∧ z.toInt < (Ck : Int))) := fun w => by have := Int32.le_iff_toInt_le.mp c21; omega
          refine g_iconst (v := 0) fx dX0_hasCell_28 (by decide +kernel) ?_
          refine g_zret fx rt dX0_hasCell_29 rfl ?_
          refine gPip.mk ?_
          first | (rw [if_pos hA]; done) | (rw [if_neg hA]; done)
        · skip
          have h4 := Int32.lt_iff_toInt_lt.mp (Int32.not_le.mp c21)
          have hA : (0 ≤ y.toInt ∧ y.toInt < (Rk : Int)) ∧ (0 ≤ z.toInt ∧ z.toInt < (Ck : Int)) := ⟨⟨h1, by omega⟩, ⟨h3, by omega⟩⟩
          refine g_iconst (v := 1) fx dX0_hasCell_24 (by decide +kernel) ?_
          refine g_goto fx 29 dX0_hasCell_25 (by decide) ?_
          refine g_zret fx rt dX0_hasCell_29 rfl ?_
          refine gPip.mk ?_
          first | (rw [if_pos hA]; done) | (rw [if_neg hA]; done)
set_option maxHeartbeats 4000000 in
set_option maxRecDepth 100000 in
theorem c_X0_numberAt (B : gB) (ad : Nat → Nat) (ct : Nat → va_E) (n : Nat) (Rk Ck sd cn N : Nat) (g : Nat → Nat) (hn : 178 ≤ n) (hk : ct 79 = .inr (0, [.ref (ad 80), .int (nI Rk), .int (nI Ck), .int (nI sd), .int (nI cn)])) (hkr : ct 80 = .inl (B.2.1 1, N, .inr (.inl (lF g)))) (hR5 : Rk ≤ 5) (hC5 : Ck ≤ 5) (hsd : sd = (Rk * Ck + 9) / 10) (hcn : cn ≤ 20000) (hN : N ≤ 200000) (vs : Nat → Nat → Nat) (cs : Nat → Nat) (hvs : ∀ j, j < cn → (∀ i, i < sd → g (j * sd + i) = bval 64 (blk (vs j) (Rk * Ck) i (cs j)) 11) ∧ (∀ k, k < Rk * Ck → vs j k < 64) ∧ cs j ≤ 2) (hlen : cn * sd ≤ N) (j a b : Nat) (hj : j < cn) (ha : a < Rk) (hb : b < Ck) : Ctr B yX0_numberAt cX0_numberAt 5 (some .int) 1 22 0 0 ad ct n [.ref (ad 79), .int (nI j), .int (nI a), .int (nI b)] (gPip ad ct n (fun r => r = nI (vs j (a * Ck + b)))) := by
  have hm25 : Rk * Ck ≤ 25 := Nat.mul_le_mul hR5 hC5
  have hsd3 : sd ≤ 3 := by omega
  refine Ctr.ofG (L := [(0, .ref (ad 79)), (1, .int (nI j)), (2, .int (nI a)), (3, .int (nI b))]) (by decide +kernel) rfl (Nat.le_of_ble_eq_true rfl) (fun E fx rt hnm => ?_)
  refine g_aload_n fx 0 dX0_numberAt_0 rfl ?_
  refine g_iload_n fx 1 dX0_numberAt_1 rfl ?_
  refine g_callVip (As := [.int (nI j)]) (rest := []) fx slX0_35 (c_X0_has B ad ct n Rk Ck sd cn N g hn hk hkr hR5 hC5 hsd hcn hN (nI j)) (by omega) hk rfl rfl rfl (Nat.le_of_ble_eq_true rfl) ⟨by decide, by decide⟩ ⟨by decide, by decide⟩ dX0_numberAt_2 (fun q1 hq1 => ?_)
  refine g_if_eq fx 17 dX0_numberAt_5 (by decide) (fun c5 => ?_) (fun c5 => ?_)
  · exact absurd (inR hj (by omega)) (if01_z.mp (hq1 ▸ c5))
  refine g_aload_n fx 0 dX0_numberAt_8 rfl ?_
  refine g_iload_n fx 2 dX0_numberAt_9 rfl ?_
  refine g_iload_n fx 3 dX0_numberAt_10 rfl ?_
  refine g_callVip (As := [.int (nI a), .int (nI b)]) (rest := []) fx slX0_39 (c_X0_hasCell B ad ct n Rk Ck sd cn N g hn hk hkr hR5 hC5 hsd hcn hN (nI a) (nI b)) (by omega) hk rfl rfl rfl (Nat.le_of_ble_eq_true rfl) ⟨by decide, by decide⟩ ⟨by decide, by decide⟩ dX0_numberAt_11 (fun q2 hq2 => ?_)
  refine g_if_ne fx 19 dX0_numberAt_14 (by decide) (fun c14 => ?_) (fun c14 => ?_)
  rotate_left
  · exact absurd (And.intro (inR ha (by omega)) (inR hb (by omega))) (if01_z.mp (hq2 ▸ c14))
  have hab : a * Ck + b < Rk * Ck := by have : (a + 1) * Ck ≤ Rk * Ck := Nat.mul_le_mul_right _ ha; rw [Nat.succ_mul] at this; omega
  have hjs : j * sd + sd ≤ cn * sd := by have : (j + 1) * sd ≤ cn * sd := Nat.mul_le_mul_right _ hj; rw [Nat.succ_mul] at this; exact this
  have hqd : (a * Ck + b) / 10 < sd := by omega
  obtain ⟨hv1, hv2, hv3⟩ := hvs j hj
  have hbd := blk_bd (i := (a * Ck + b) / 10) hv2 hv3
  have hval := hv1 _ hqd
  have hcs : cn * sd ≤ 20000 * 3 := Nat.mul_le_mul hcn hsd3
  refine g_iload_n fx 2 dX0_numberAt_19 rfl ?_
  refine g_aload_n fx 0 dX0_numberAt_20 rfl ?_
  refine g_get (r := 79) fx lkX0_17 (by omega) hk rfl dX0_numberAt_21 ?_
  refine g_imulN fx dX0_numberAt_24 ?_
  refine g_iload_n fx 3 dX0_numberAt_25 rfl ?_
  refine g_iaddN fx dX0_numberAt_26 ?_
  refine g_istore (L' := [(4, .int (nI ((a * Ck) + b))), (0, .ref (ad 79)), (1, .int (nI j)), (2, .int (nI a)), (3, .int (nI b))]) fx dX0_numberAt_27 (by decide) rfl ?_
  refine g_aload_n fx 1 dX0_numberAt_29 rfl ?_
  refine g_get (r := 79) fx lkX0_7 (by omega) hk rfl dX0_numberAt_30 ?_
  refine g_iload_n fx 2 dX0_numberAt_33 rfl ?_
  refine g_aload_n fx 1 dX0_numberAt_34 rfl ?_
  refine g_get (r := 79) fx lkX0_20 (by omega) hk rfl dX0_numberAt_35 ?_
  refine g_imulN fx dX0_numberAt_38 ?_
  refine g_iload fx 0 dX0_numberAt_39 rfl ?_
  refine g_bipush (v := nI 10) fx dX0_numberAt_41 (by decide +kernel) ?_
  refine g_idiv fx dX0_numberAt_43 (by decide) ?_
  refine g_isi (y := nI ((a * Ck + b) / 10)) (pk_div (by omega) (by decide) (by decide)) ?_
  refine g_iaddN fx dX0_numberAt_44 ?_
  refine g_lald (r := 80) (j := ((j * sd) + ((a * Ck + b) / 10))) fx (by omega) hkr (nI_toInt (by omega)) (by omega) dX0_numberAt_45 ?_
  refine g_isl (y := lN (g ((j * sd) + ((a * Ck + b) / 10)))) rfl ?_
  rw [hval]
  refine g_bipush (v := nI 6) fx dX0_numberAt_46 (by decide +kernel) ?_
  refine g_iload fx 0 dX0_numberAt_48 rfl ?_
  refine g_bipush (v := nI 10) fx dX0_numberAt_50 (by decide +kernel) ?_
  refine g_irem fx dX0_numberAt_52 (by decide) ?_
  refine g_isi (y := nI ((a * Ck + b) % 10)) (pk_rem (by omega) (by decide) (by decide)) ?_
  refine g_imulN fx dX0_numberAt_53 ?_
  refine g_lshr fx dX0_numberAt_54 ?_
  refine g_isl (y := lN (bval 64 (blk (vs j) (Rk * Ck) ((a * Ck + b) / 10) (cs j)) 11 / 2 ^ (6 * ((a * Ck + b) % 10)))) (l_sshrk (by omega) (by omega)) ?_
  refine g_l2i fx dX0_numberAt_55 ?_
  refine g_isi (y := nI (bval 64 (blk (vs j) (Rk * Ck) ((a * Ck + b) / 10) (cs j)) 11 / 2 ^ (6 * ((a * Ck + b) % 10)))) (lN_i _) ?_
  refine g_bipush (v := nI 63) fx dX0_numberAt_56 (by decide +kernel) ?_
  refine g_iand fx dX0_numberAt_58 ?_
  refine g_isi (y := nI (bval 64 (blk (vs j) (Rk * Ck) ((a * Ck + b) / 10) (cs j)) 11 / 2 ^ (6 * ((a * Ck + b) % 10)) % 64)) (i_and63 _) ?_
  refine g_iret fx rt dX0_numberAt_59 ?_
  refine gPip.mk ?_
  rw [← pow64, blk_at hv2 (by omega) (by omega) (by omega), Nat.div_add_mod]
set_option maxHeartbeats 4000000 in
set_option maxRecDepth 100000 in
theorem c_X0_orderOf (B : gB) (ad : Nat → Nat) (ct : Nat → va_E) (n : Nat) (Rk Ck sd cn N : Nat) (g : Nat → Nat) (hn : 178 ≤ n) (hk : ct 79 = .inr (0, [.ref (ad 80), .int (nI Rk), .int (nI Ck), .int (nI sd), .int (nI cn)])) (hkr : ct 80 = .inl (B.2.1 1, N, .inr (.inl (lF g)))) (hR5 : Rk ≤ 5) (hC5 : Ck ≤ 5) (hsd : sd = (Rk * Ck + 9) / 10) (hcn : cn ≤ 20000) (hN : N ≤ 200000) (vs : Nat → Nat → Nat) (cs : Nat → Nat) (hvs : ∀ j, j < cn → (∀ i, i < sd → g (j * sd + i) = bval 64 (blk (vs j) (Rk * Ck) i (cs j)) 11) ∧ (∀ k, k < Rk * Ck → vs j k < 64) ∧ cs j ≤ 2) (hlen : cn * sd ≤ N) (hsp : 0 < sd) (j : Nat) (hj : j < cn) : Ctr B yX0_orderOf cX0_orderOf 2 (some .int) 1 21 0 0 ad ct n [.ref (ad 79), .int (nI j)] (gPip ad ct n (fun r => r = nI (cs j) - nI 1)) := by
  have hm25 : Rk * Ck ≤ 25 := Nat.mul_le_mul hR5 hC5
  have hsd3 : sd ≤ 3 := by omega
  refine Ctr.ofG (L := [(0, .ref (ad 79)), (1, .int (nI j))]) (by decide +kernel) rfl (Nat.le_of_ble_eq_true rfl) (fun E fx rt hnm => ?_)
  refine g_aload_n fx 0 dX0_orderOf_0 rfl ?_
  refine g_iload_n fx 1 dX0_orderOf_1 rfl ?_
  refine g_callVip (As := [.int (nI j)]) (rest := []) fx slX0_35 (c_X0_has B ad ct n Rk Ck sd cn N g hn hk hkr hR5 hC5 hsd hcn hN (nI j)) (by omega) hk rfl rfl rfl (Nat.le_of_ble_eq_true rfl) ⟨by decide, by decide⟩ ⟨by decide, by decide⟩ dX0_orderOf_2 (fun q1 hq1 => ?_)
  refine g_if_eq fx 28 dX0_orderOf_5 (by decide) (fun c5 => ?_) (fun c5 => ?_)
  · exact absurd (inR hj (by omega)) (if01_z.mp (hq1 ▸ c5))
  have hjs : j * sd + sd ≤ cn * sd := by have : (j + 1) * sd ≤ cn * sd := Nat.mul_le_mul_right _ hj; rw [Nat.succ_mul] at this; exact this
  obtain ⟨hv1, hv2, hv3⟩ := hvs j hj
  have hbd := blk_bd (i := 0) hv2 hv3
  have hval := hv1 0 hsp
  rw [Nat.add_zero] at hval
  have hcs : cn * sd ≤ 20000 * 3 := Nat.mul_le_mul hcn hsd3
  refine g_aload_n fx 0 dX0_orderOf_8 rfl ?_
  refine g_get (r := 79) fx lkX0_7 (by omega) hk rfl dX0_orderOf_9 ?_
  refine g_iload_n fx 1 dX0_orderOf_12 rfl ?_
  refine g_aload_n fx 0 dX0_orderOf_13 rfl ?_
  refine g_get (r := 79) fx lkX0_20 (by omega) hk rfl dX0_orderOf_14 ?_
  refine g_imulN fx dX0_orderOf_17 ?_
  refine g_lald (r := 80) (j := (j * sd)) fx (by omega) hkr (nI_toInt (by omega)) (by omega) dX0_orderOf_18 ?_
  refine g_isl (y := lN (g (j * sd))) rfl ?_
  rw [hval]
  refine g_bipush (v := nI 60) fx dX0_orderOf_19 (by decide +kernel) ?_
  refine g_lshr fx dX0_orderOf_21 ?_
  refine g_isl (y := lN (bval 64 (blk (vs j) (Rk * Ck) 0 (cs j)) 11 / 2 ^ 60)) (l_sshrk (by omega) (by decide)) ?_
  refine g_l2i fx dX0_orderOf_22 ?_
  refine g_isi (y := nI (bval 64 (blk (vs j) (Rk * Ck) 0 (cs j)) 11 / 2 ^ 60)) (lN_i _) ?_
  refine g_iconst (v := nI 1) fx dX0_orderOf_23 (by decide +kernel) ?_
  refine g_isub fx dX0_orderOf_24 ?_
  refine g_goto fx 29 dX0_orderOf_25 (by decide) ?_
  refine g_iret fx rt dX0_orderOf_29 ?_
  refine gPip.mk ?_
  rw [blk_top hv2]
set_option maxHeartbeats 4000000 in
set_option maxRecDepth 100000 in
theorem c_X0_keep (B : gB) (ad : Nat → Nat) (ct : Nat → va_E) (n : Nat) (Rk Ck sd cn N : Nat) (g : Nat → Nat) (hn : 178 ≤ n) (hk : ct 79 = .inr (0, [.ref (ad 80), .int (nI Rk), .int (nI Ck), .int (nI sd), .int (nI cn)])) (hkr : ct 80 = .inl (B.2.1 1, N, .inr (.inl (lF g)))) (hR5 : Rk ≤ 5) (hC5 : Ck ≤ 5) (hsd : sd = (Rk * Ck + 9) / 10) (hcn : cn ≤ 20000) (hN : N ≤ 200000) (v : Nat → Nat) (hcl : ct 15 = .inl (B.2.1 0, 25, .inl (nF v))) (hv : ∀ k, k < Rk * Ck → v k < 64) (hRC : 0 < Rk * Ck) (ord : Int32) (c : Nat) (hc : ord + nI 1 = nI c) (hc2 : c ≤ 2) (hroom : cn * sd + sd ≤ N) : Ctr B yX0_keep cX0_keep 10 none 1 21 0 0 ad ct n [.ref (ad 79), .ref (ad 15), .int ord] (gPv ad n (fun ct' => ∃ g', ct' 79 = .inr (0, [.ref (ad 80), .int (nI Rk), .int (nI Ck), .int (nI sd), .int (nI (cn + 1))]) ∧ ct' 80 = .inl (B.2.1 1, N, .inr (.inl (lF g'))) ∧ (∀ i, i < sd → g' (cn * sd + i) = bval 64 (blk v (Rk * Ck) i c) 11) ∧ (∀ j, j < cn * sd → g' j = g j) ∧ ∀ r, r ≠ 79 → r ≠ 80 → ct' r = ct r)) := by
  have hm25 : Rk * Ck ≤ 25 := Nat.mul_le_mul hR5 hC5
  have hsd3 : sd ≤ 3 := by omega
  have hfr : ∀ r, r ≠ 79 → r ≠ 80 → ct r = ct r := fun _ _ _ => rfl
  have hsp : 0 < sd := by omega
  refine Ctr.ofG (L := [(0, .ref (ad 79)), (1, .ref (ad 15)), (2, .int ord)]) (by decide +kernel) rfl (Nat.le_of_ble_eq_true rfl) (fun E fx rt hnm => ?_)
  refine g_aload_n fx 0 dX0_keep_0 rfl ?_
  refine g_get (r := 79) fx lkX0_23 (by omega) hk rfl dX0_keep_1 ?_
  refine g_aload_n fx 0 dX0_keep_4 rfl ?_
  refine g_get (r := 79) fx lkX0_20 (by omega) hk rfl dX0_keep_5 ?_
  refine g_imulN fx dX0_keep_8 ?_
  refine g_istore_n (L' := [(3, .int (nI (cn * sd))), (0, .ref (ad 79)), (1, .ref (ad 15)), (2, .int ord)]) fx dX0_keep_9 (by decide) rfl ?_
  refine g_iload_n fx 0 dX0_keep_10 rfl ?_
  refine g_aload_n fx 1 dX0_keep_11 rfl ?_
  refine g_get (r := 79) fx lkX0_20 (by omega) hk rfl dX0_keep_12 ?_
  refine g_iaddN fx dX0_keep_15 ?_
  refine g_aload_n fx 1 dX0_keep_16 rfl ?_
  refine g_get (r := 79) fx lkX0_7 (by omega) hk rfl dX0_keep_17 ?_
  refine g_alen (r := 80) (t0 := 1) fx rfl (by omega) hkr dX0_keep_20 ?_
  refine g_icmp_gt fx 38 dX0_keep_21 (by decide) (fun c21 => ?_) (fun c21 => ?_)
  · exact absurd ((nI_ltI (by omega) (by omega)).mp c21) (by omega)
  refine g_aload_n fx 1 dX0_keep_24 rfl ?_
  refine g_get (r := 79) fx lkX0_13 (by omega) hk rfl dX0_keep_25 ?_
  refine g_aload_n fx 1 dX0_keep_28 rfl ?_
  refine g_get (r := 79) fx lkX0_17 (by omega) hk rfl dX0_keep_29 ?_
  refine g_imulN fx dX0_keep_32 ?_
  refine g_aload_n fx 2 dX0_keep_33 rfl ?_
  refine g_alen (r := 15) (t0 := 0) fx rfl (by omega) hcl dX0_keep_34 ?_
  refine g_icmp_le fx 39 dX0_keep_35 (by decide) (fun c35 => ?_) (fun c35 => ?_)
  rotate_left
  · exact absurd ((nI_leI (by omega) (by omega)).mpr (show Rk * Ck ≤ 25 by omega)) c35
  refine g_iconst (v := nI 0) fx dX0_keep_39 (by decide +kernel) ?_
  refine g_istore (L' := [(4, .int (nI 0)), (3, .int (nI (cn * sd))), (0, .ref (ad 79)), (1, .ref (ad 15)), (2, .int ord)]) fx dX0_keep_40 (by decide) rfl ?_
  refine g_iconst (v := nI 0) fx dX0_keep_42 (by decide +kernel) ?_
  refine g_istore (L' := [(5, .int (nI 0)), (4, .int (nI 0)), (3, .int (nI (cn * sd))), (0, .ref (ad 79)), (1, .ref (ad 15)), (2, .int ord)]) fx dX0_keep_43 (by decide) rfl ?_
  have LP45 : ∀ (M : Nat) (i : Nat) (ct1 : Nat → va_E) (g1 : Nat → Nat), (i ≤ sd) → (∀ i2, i2 < i → g1 (cn * sd + i2) = bval 64 (fun q => if 10 * i2 + q < (Rk * Ck) then v (10 * i2 + q) else 0) 10) → (∀ j, j < cn * sd → g1 j = g j) → (ct1 79 = .inr (0, [.ref (ad 80), .int (nI Rk), .int (nI Ck), .int (nI sd), .int (nI cn)])) → (ct1 80 = .inl (B.2.1 1, N, .inr (.inl (lF g1)))) → (ct1 15 = .inl (B.2.1 0, 25, .inl (nF v))) → (∀ r, r ≠ 79 → r ≠ 80 → ct1 r = ct r) →  (sd - i) < M → G B 10 E ad ct1 n 0 0 [(0, .ref (ad 79)), (2, .int ord), (1, .ref (ad 15)), (3, .int (nI (cn * sd))), (4, .int (nI (min (10 * i) (Rk * Ck)))), (5, .int (nI i))] 45 [] := by
    intro M
    induction M with
    | zero => intro i ct1 g1 _ _ _ _ _ _ _ hM; exact absurd hM (Nat.not_lt_zero _)
    | succ M ih =>
      intro i ct1 g1 hi hg1 hg2 hk hkr hcl hfr hM
      have ih45 := ih
      refine g_iload fx 5 dX0_keep_45 rfl ?_
      refine g_aload_n fx 0 dX0_keep_47 rfl ?_
      refine g_get (r := 79) fx lkX0_20 (by omega) hk rfl dX0_keep_48 ?_
      refine g_icmp_ge fx 125 dX0_keep_51 (by decide) (fun c51 => ?_) (fun c51 => ?_)
      · skip
        have hie : i = sd := by have := (nI_leI (by omega) (by omega)).mp c51; omega
        rw [hie] at hg1
        refine g_aload_n fx 0 dX0_keep_125 rfl ?_
        refine g_get (r := 79) fx lkX0_7 (by omega) hk rfl dX0_keep_126 ?_
        refine g_iload_n fx 3 dX0_keep_129 rfl ?_
        refine g_dup2_11 fx dX0_keep_130 rfl rfl ?_
        have hg10 := hg1 0 hsp
        rw [Nat.add_zero] at hg10
        have hbb : bval 64 (fun q => if 10 * 0 + q < (Rk * Ck) then v (10 * 0 + q) else 0) 10 < 2 ^ 60 := by rw [show (2 : Nat) ^ 60 = 64 ^ 10 by decide]; exact bval_lt 10 (fun z _ => by split; (exact hv _ (by assumption)); (decide))
        refine g_lald (r := 80) (j := (cn * sd)) fx (by omega) hkr (nI_toInt (by omega)) (by omega) dX0_keep_131 ?_
        refine g_isl (y := lN (g1 (cn * sd))) rfl ?_
        rw [hg10]
        refine g_iload_n fx 1 dX0_keep_132 rfl ?_
        refine g_iconst (v := nI 1) fx dX0_keep_133 (by decide +kernel) ?_
        refine g_iadd fx dX0_keep_134 ?_
        refine g_isi (y := nI c) hc ?_
        refine g_i2l fx dX0_keep_135 ?_
        refine g_isl (y := lN c) (nI_l (by omega)) ?_
        refine g_bipush (v := nI 60) fx dX0_keep_136 (by decide +kernel) ?_
        refine g_lshl fx dX0_keep_138 ?_
        refine g_isl (y := lN (c * 2 ^ 60)) (wb_shl _ (by decide)) ?_
        refine g_lor fx dX0_keep_139 ?_
        refine g_isl (y := lN (bval 64 (fun q => if 10 * 0 + q < (Rk * Ck) then v (10 * 0 + q) else 0) 10 + c * 2 ^ 60)) (g_or' (k := 60) rfl hbb (by omega)) ?_
        refine g_last (r := 80) (j := (cn * sd)) fx (by omega) hkr (nI_toInt (by omega)) (by omega) dX0_keep_140 (fun cu1 ecu1 => ?_)
        have hfr : ∀ r, r ≠ 79 → r ≠ 80 → cu1 r = ct r := fun r _ _ => (congrFun ecu1 r).trans ((va_up_ne _ _ (by assumption)).trans (hfr r (by assumption) (by assumption)))
        have hk : cu1 79 = .inr (0, [.ref (ad 80), .int (nI Rk), .int (nI Ck), .int (nI sd), .int (nI cn)]) := (congrFun ecu1 _).trans ((va_up_ne _ _ (by omega)).trans hk)
        have hkr : cu1 80 = .inl (B.2.1 1, N, .inr (.inl (lF (va_up g1 (cn * sd) (bval 64 (fun q => if 10 * 0 + q < (Rk * Ck) then v (10 * 0 + q) else 0) 10 + c * 2 ^ 60))))) := by rw [ecu1, va_up_self, lF_up]
        have hcl : cu1 15 = .inl (B.2.1 0, 25, .inl (nF v)) := (congrFun ecu1 _).trans ((va_up_ne _ _ (by omega)).trans hcl)
        refine g_aload_n fx 0 dX0_keep_141 rfl ?_
        refine g_dup fx dX0_keep_142 rfl ?_
        refine g_get (r := 79) fx lkX0_23 (by omega) hk rfl dX0_keep_143 ?_
        refine g_iconst (v := nI 1) fx dX0_keep_146 (by decide +kernel) ?_
        refine g_iaddN fx dX0_keep_147 ?_
        refine g_put (r := 79) (fs' := [.ref (ad 80), .int (nI Rk), .int (nI Ck), .int (nI sd), .int (nI (cn + 1))]) fx lpX0_23 (by omega) hk rfl rfl (Nat.le_of_ble_eq_true rfl) rfl dX0_keep_148 (fun cu2 ecu2 => ?_)
        have hfr : ∀ r, r ≠ 79 → r ≠ 80 → cu2 r = ct r := fun r _ _ => (congrFun ecu2 r).trans ((va_up_ne _ _ (by assumption)).trans (hfr r (by assumption) (by assumption)))
        have hk : cu2 79 = .inr (0, [.ref (ad 80), .int (nI Rk), .int (nI Ck), .int (nI sd), .int (nI (cn + 1))]) := by rw [ecu2, va_up_self]
        have hkr : cu2 80 = .inl (B.2.1 1, N, .inr (.inl (lF (va_up g1 (cn * sd) (bval 64 (fun q => if 10 * 0 + q < (Rk * Ck) then v (10 * 0 + q) else 0) 10 + c * 2 ^ 60))))) := (congrFun ecu2 _).trans ((va_up_ne _ _ (by omega)).trans hkr)
        have hcl : cu2 15 = .inl (B.2.1 0, 25, .inl (nF v)) := (congrFun ecu2 _).trans ((va_up_ne _ _ (by omega)).trans hcl)
        refine g_vret fx rt dX0_keep_151 ?_
        refine gPv.mk ⟨_, hk, hkr, fun i2 h2 => ?_, fun j hj => by rw [va_up_ne _ _ (by omega)]; exact hg2 j hj, hfr⟩
        rw [blk_10]
        by_cases q : i2 = 0
        · subst q; rw [Nat.add_zero, va_up_self, if_pos rfl]
        · rw [va_up_ne _ _ (by omega), if_neg q, Nat.zero_mul, Nat.add_zero]; exact hg1 i2 h2
      · skip
        have hlt : i < sd := (nI_ltI (by omega) (by omega)).mp (Int32.not_le.mp c51)
        have h10 : min (10 * i) (Rk * Ck) = 10 * i := by omega
        rw [h10]
        refine g_relocal (L' := [(0, .ref (ad 79)), (2, .int ord), (1, .ref (ad 15)), (3, .int (nI (cn * sd))), (4, .int (nI (10 * i))), (5, .int (nI i))]) rfl ?_
        refine g_aload_n fx 0 dX0_keep_54 rfl ?_
        refine g_get (r := 79) fx lkX0_13 (by omega) hk rfl dX0_keep_55 ?_
        refine g_aload_n fx 0 dX0_keep_58 rfl ?_
        refine g_get (r := 79) fx lkX0_17 (by omega) hk rfl dX0_keep_59 ?_
        refine g_imulN fx dX0_keep_62 ?_
        refine g_iload fx 4 dX0_keep_63 rfl ?_
        refine g_bipush (v := nI 10) fx dX0_keep_65 (by decide +kernel) ?_
        refine g_iaddN fx dX0_keep_67 ?_
        refine g_callSip (As := [.int (nI (Rk * Ck)), .int (nI ((10 * i) + 10))]) (rest := []) fx slX0_32 (c_J9_min_7cf53 B ad ct1 n (nI (Rk * Ck)) (nI (10 * i + 10))) rfl rfl (Nat.le_of_ble_eq_true rfl) ⟨by decide, by decide⟩ ⟨by decide, by decide⟩ dX0_keep_68 (fun qm hqm => ?_)
        rw [min_nI (by omega) (by omega)] at hqm
        refine g_isi (y := nI (min (Rk * Ck) (10 * i + 10))) hqm ?_
        refine g_istore (L' := [(6, .int (nI (min (Rk * Ck) (10 * i + 10)))), (0, .ref (ad 79)), (2, .int ord), (1, .ref (ad 15)), (3, .int (nI (cn * sd))), (4, .int (nI (10 * i))), (5, .int (nI i))]) fx dX0_keep_71 (by decide) rfl ?_
        refine g_lconst (v := lN 0) fx dX0_keep_73 (by decide +kernel) ?_
        refine g_lstore (L' := [(7, .long (lN 0)), (6, .int (nI (min (Rk * Ck) (10 * i + 10)))), (0, .ref (ad 79)), (2, .int ord), (1, .ref (ad 15)), (3, .int (nI (cn * sd))), (4, .int (nI (10 * i))), (5, .int (nI i))]) fx dX0_keep_74 (by decide) rfl ?_
        refine g_iconst (v := nI 0) fx dX0_keep_76 (by decide +kernel) ?_
        refine g_istore (L' := [(9, .int (nI 0)), (7, .long (lN 0)), (6, .int (nI (min (Rk * Ck) (10 * i + 10)))), (0, .ref (ad 79)), (2, .int ord), (1, .ref (ad 15)), (3, .int (nI (cn * sd))), (4, .int (nI (10 * i))), (5, .int (nI i))]) fx dX0_keep_77 (by decide) rfl ?_
        have LP79 : ∀ (M : Nat) (q : Nat), (10 * i + q ≤ min (Rk * Ck) (10 * i + 10)) →  (10 - q) < M → G B 10 E ad ct1 n 0 0 [(0, .ref (ad 79)), (2, .int ord), (1, .ref (ad 15)), (3, .int (nI (cn * sd))), (5, .int (nI i)), (4, .int (nI (10 * i + q))), (6, .int (nI (min (Rk * Ck) (10 * i + 10)))), (7, .long (lN (bval 64 (fun q => v (10 * i + q)) q))), (9, .int (nI (6 * q)))] 79 [] := by
          intro M
          induction M with
          | zero => intro q _ hM; exact absurd hM (Nat.not_lt_zero _)
          | succ M ih =>
            intro q hq hM
            have ih79 := ih
            refine g_iload fx 5 dX0_keep_79 rfl ?_
            refine g_iload fx 6 dX0_keep_81 rfl ?_
            refine g_icmp_ge fx 108 dX0_keep_83 (by decide) (fun c83 => ?_) (fun c83 => ?_)
            · skip
              have hqe : bval 64 (fun q => v (10 * i + q)) q = bval 64 (fun q => v (10 * i + q)) (min 10 ((Rk * Ck) - 10 * i)) := by rw [show q = min 10 ((Rk * Ck) - 10 * i) by have := (nI_leI (by omega) (by omega)).mp c83; omega]
              have hqe2 : min 10 ((Rk * Ck) - 10 * i) = min 10 ((Rk * Ck) - 10 * i) := rfl
              refine g_aload_n fx 0 dX0_keep_108 rfl ?_
              refine g_get (r := 79) fx lkX0_7 (by omega) hk rfl dX0_keep_109 ?_
              refine g_iload_n fx 3 dX0_keep_112 rfl ?_
              refine g_iload fx 4 dX0_keep_113 rfl ?_
              refine g_iaddN fx dX0_keep_115 ?_
              refine g_lload fx 7 dX0_keep_116 rfl ?_
              refine g_last (r := 80) (j := (cn * sd + i)) fx (by omega) hkr (nI_toInt (by omega)) (by omega) dX0_keep_118 (fun cu4 ecu4 => ?_)
              have hfr : ∀ r, r ≠ 79 → r ≠ 80 → cu4 r = ct r := fun r _ _ => (congrFun ecu4 r).trans ((va_up_ne _ _ (by assumption)).trans (hfr r (by assumption) (by assumption)))
              have hk : cu4 79 = .inr (0, [.ref (ad 80), .int (nI Rk), .int (nI Ck), .int (nI sd), .int (nI cn)]) := (congrFun ecu4 _).trans ((va_up_ne _ _ (by omega)).trans hk)
              have hkr : cu4 80 = .inl (B.2.1 1, N, .inr (.inl (lF (va_up g1 (cn * sd + i) (bval 64 (fun q => v (10 * i + q)) q))))) := by rw [ecu4, va_up_self, lF_up]
              have hcl : cu4 15 = .inl (B.2.1 0, 25, .inl (nF v)) := (congrFun ecu4 _).trans ((va_up_ne _ _ (by omega)).trans hcl)
              refine g_iinc (L' := [(5, .int (nI (i + 1))), (0, .ref (ad 79)), (2, .int ord), (1, .ref (ad 15)), (3, .int (nI (cn * sd))), (4, .int (nI (10 * i + q))), (6, .int (nI (min (Rk * Ck) (10 * i + 10)))), (7, .long (lN (bval 64 (fun q => v (10 * i + q)) q))), (9, .int (nI (6 * q)))]) fx (nI (i + 1)) 4 dX0_keep_119 rfl (gInc _) (by decide) rfl ?_
              refine g_relocal (L' := [(5, .int (nI (i + 1))), (0, .ref (ad 79)), (2, .int ord), (1, .ref (ad 15)), (3, .int (nI (cn * sd))), (4, .int (nI (min (10 * (i + 1)) (Rk * Ck)))), (6, .int (nI (min (Rk * Ck) (10 * i + 10)))), (7, .long (lN (bval 64 (fun q => v (10 * i + q)) q))), (9, .int (nI (6 * q)))]) (by rw [show min (10 * (i + 1)) (Rk * Ck) = 10 * i + q by have := (nI_leI (by omega) (by omega)).mp c83; omega]) ?_
              refine g_goto fx 45 dX0_keep_122 (by decide) ?_
              refine g_locals (L' := [(0, .ref (ad 79)), (2, .int ord), (1, .ref (ad 15)), (3, .int (nI (cn * sd))), (4, .int (nI (min (10 * (i + 1)) (Rk * Ck)))), (5, .int (nI (i + 1)))]) [1, 2, 3, 4, 5, 0] rfl ?_
              refine ih45 (i + 1) _ _ (by omega) (fun i2 h2 => ?_) (fun j hj => by rw [va_up_ne _ _ (by omega)]; exact hg2 j hj) hk hkr hcl hfr (by omega)
              by_cases q : i2 = i
              · subst q; rw [va_up_self, hqe]; exact (bval_pad hqe2).symm
              · rw [va_up_ne _ _ (by omega)]; exact hg1 i2 (by omega)
            · skip
              have hlq : 10 * i + q < min (Rk * Ck) (10 * i + 10) := (nI_ltI (by omega) (by omega)).mp (Int32.not_le.mp c83)
              have hv6 := hv (10 * i + q) (by omega)
              have hb6 : bval 64 (fun q => v (10 * i + q)) q < 64 ^ q := bval_lt q (fun z hz => hv _ (by omega))
              have h60 : 64 ^ q * 64 ≤ 2 ^ 60 := by rw [← Nat.pow_succ, pow64]; exact Nat.pow_le_pow_right (by decide) (by omega)
              refine g_lload fx 7 dX0_keep_86 rfl ?_
              refine g_aload_n fx 2 dX0_keep_88 rfl ?_
              refine g_iload fx 5 dX0_keep_89 rfl ?_
              refine g_iald (r := 15) (j := (10 * i + q)) fx (by omega) hcl (nI_toInt (by omega)) (by omega) dX0_keep_91 ?_
              refine g_isi (y := nI (v (10 * i + q))) rfl ?_
              refine g_i2l fx dX0_keep_92 ?_
              refine g_isl (y := lN (v (10 * i + q))) (nI_l (by omega)) ?_
              refine g_iload fx 8 dX0_keep_93 rfl ?_
              refine g_lshl fx dX0_keep_95 ?_
              refine g_isl (y := lN (v (10 * i + q) * 64 ^ q)) (by rw [pow64]; exact wb_shl _ (by omega)) ?_
              refine g_lor fx dX0_keep_96 ?_
              refine g_isl (y := lN (bval 64 (fun q => v (10 * i + q)) q + v (10 * i + q) * 64 ^ q)) (g_or' (k := 6 * q) (pow64 q).symm hb6 (or_bd hb6 hv6 h60)) ?_
              refine g_lstore (L' := [(7, .long (lN (bval 64 (fun q => v (10 * i + q)) q + v (10 * i + q) * 64 ^ q))), (0, .ref (ad 79)), (2, .int ord), (1, .ref (ad 15)), (3, .int (nI (cn * sd))), (5, .int (nI i)), (4, .int (nI (10 * i + q))), (6, .int (nI (min (Rk * Ck) (10 * i + 10)))), (9, .int (nI (6 * q)))]) fx dX0_keep_97 (by decide) rfl ?_
              refine g_iinc (L' := [(9, .int (nI (6 * (q + 1)))), (7, .long (lN (bval 64 (fun q => v (10 * i + q)) q + v (10 * i + q) * 64 ^ q))), (0, .ref (ad 79)), (2, .int ord), (1, .ref (ad 15)), (3, .int (nI (cn * sd))), (5, .int (nI i)), (4, .int (nI (10 * i + q))), (6, .int (nI (min (Rk * Ck) (10 * i + 10))))]) fx (nI (6 * (q + 1))) 8 dX0_keep_99 rfl (by rw [show Int32.ofInt 6 = nI 6 by decide, nI_add, Nat.mul_succ]) (by decide) rfl ?_
              refine g_iinc (L' := [(4, .int (nI (10 * i + (q + 1)))), (9, .int (nI (6 * (q + 1)))), (7, .long (lN (bval 64 (fun q => v (10 * i + q)) q + v (10 * i + q) * 64 ^ q))), (0, .ref (ad 79)), (2, .int ord), (1, .ref (ad 15)), (3, .int (nI (cn * sd))), (5, .int (nI i)), (6, .int (nI (min (Rk * Ck) (10 * i + 10))))]) fx (nI (10 * i + (q + 1))) 7 dX0_keep_102 rfl (gInc _) (by decide) rfl ?_
              refine g_goto fx 79 dX0_keep_105 (by decide) ?_
              refine g_locals (L' := [(0, .ref (ad 79)), (2, .int ord), (1, .ref (ad 15)), (3, .int (nI (cn * sd))), (5, .int (nI i)), (4, .int (nI (10 * i + (q + 1)))), (6, .int (nI (min (Rk * Ck) (10 * i + 10)))), (7, .long (lN (bval 64 (fun q => v (10 * i + q)) q + v (10 * i + q) * 64 ^ q))), (9, .int (nI (6 * (q + 1))))]) [3, 4, 5, 6, 7, 0, 8, 2, 1] rfl ?_
              exact ih79 (q + 1) (by omega) (by omega)
        refine g_locals (L' := [(0, .ref (ad 79)), (2, .int ord), (1, .ref (ad 15)), (3, .int (nI (cn * sd))), (5, .int (nI i)), (4, .int (nI (10 * i))), (6, .int (nI (min (Rk * Ck) (10 * i + 10)))), (7, .long (lN 0)), (9, .int (nI 0))]) [3, 4, 5, 6, 8, 7, 2, 1, 0] rfl ?_
        exact LP79 11 0 (by omega) (by omega)
  refine g_locals (L' := [(0, .ref (ad 79)), (2, .int ord), (1, .ref (ad 15)), (3, .int (nI (cn * sd))), (4, .int (nI 0)), (5, .int (nI 0))]) [3, 5, 4, 2, 1, 0] rfl ?_
  exact LP45 (sd + 1) 0 ct g (by omega) (fun j hj => absurd hj (by omega)) (fun _ _ => rfl) hk hkr hcl hfr (by omega)
