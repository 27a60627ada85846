theorem gCnt_congr {p q : Int32 → Bool} {f g : Nat → Int32} : ∀ k, (∀ i, i < k → p (f i) = q (g i)) → gCnt p f k = gCnt q g k
  | 0, _ => rfl
  | k + 1, h => by
    show gCnt p f k + _ = gCnt q g k + _
    rw [gCnt_congr k (fun i hi => h i (by omega)), h k (by omega)]
theorem gCnt_cat {p : Int32 → Bool} {fn f g : Nat → Int32} {a : Nat} : ∀ b, (∀ i, i < a → fn i = f i) → (∀ i, i < b → fn (a + i) = g i) → gCnt p fn (a + b) = gCnt p f a + gCnt p g b
  | 0, h1, _ => gCnt_congr a (fun i hi => by rw [h1 i hi])
  | b + 1, h1, h2 => by
    show gCnt p fn (a + b) + (if p (fn (a + b)) then 1 else 0) = gCnt p f a + (gCnt p g b + (if p (g b) then 1 else 0))
    rw [gCnt_cat b h1 (fun i hi => h2 i (by omega)), h2 b (by omega)]
    omega
theorem gCnt_nz {p : Int32 → Bool} {fn fd : Nat → Int32} : ∀ k, (∀ i, i < k → ¬ fd i = 0 → fn (nzN fd i) = absI (fd i)) → gCnt p fn (nzN fd k) = gCnt (fun x => decide (¬ x = 0) && p (absI x)) fd k
  | 0, _ => rfl
  | k + 1, h => by
    have ih := gCnt_nz (p := p) k (fun i hi => h i (by omega))
    show _ = gCnt _ fd k + (if decide (¬ fd k = 0) && p (absI (fd k)) then 1 else 0)
    by_cases hz : fd k = 0
    · rw [show nzN fd (k + 1) = nzN fd k from gCnt_f _ (decide_eq_false (fun w => w hz)), ih]
      simp [hz]
    · rw [show nzN fd (k + 1) = nzN fd k + 1 from gCnt_t _ (decide_eq_true hz)]
      show gCnt p fn (nzN fd k) + (if p (fn (nzN fd k)) then 1 else 0) = _
      rw [ih, h k (by omega) hz]
      simp [hz]
def rkN (fA : Nat → Int32) (a : Nat) (fB : Nat → Int32) (b : Nat) (v : Int32) : Nat := 2 * (gCnt (fun z => decide (z < v)) fA a + gCnt (fun z => decide (z < v)) fB b) + (gCnt (fun z => decide (z = v)) fA a + gCnt (fun z => decide (z = v)) fB b) + 1
def rkZ (fd : Nat → Int32) (k : Nat) (v : Int32) : Nat := 2 * gCnt (fun x => decide (¬ x = 0) && decide (absI x < v)) fd k + gCnt (fun x => decide (¬ x = 0) && decide (absI x = v)) fd k + 1
/-- insertion of i into the first i places of o, from place k down -/
def insR (lt : Nat → Nat → Bool) (i : Nat) : Nat → (Nat → Nat) → (Nat → Nat)
  | 0, o => va_up o 0 i
  | k + 1, o => if lt i (o k) then insR lt i k (va_up o (k + 1) (o k)) else va_up o (k + 1) i
def ordS (lt : Nat → Nat → Bool) (o : Nat → Nat) : Nat → (Nat → Nat)
  | 0 => o
  | m + 1 => insR lt m m (ordS lt o m)
def ltF (U W : Nat → Nat) (i j : Nat) : Bool := decide (U i * W j < U j * W i)
def wdS (U W : Nat) (k : Nat) : Nat := if k < (nbits W + 15) / 16 then W / 65536 ^ k % 65536 else U / 65536 ^ (k - (nbits W + 15) / 16) % 65536
theorem insR_lt {lt : Nat → Nat → Bool} {i : Nat} : ∀ (k : Nat) (o : Nat → Nat), k ≤ i → (∀ j, j < k → o j < i) → (∀ j, k < j → j ≤ i → o j < i) → ∀ j, j ≤ i → insR lt i k o j ≤ i
  | 0, o, _, _, h2, j, hj => by
    show va_up o 0 i j ≤ i
    unfold va_up; split
    · exact Nat.le_refl _
    · exact Nat.le_of_lt (h2 j (by omega) hj)
  | k + 1, o, hk, h1, h2, j, hj => by
    show (if lt i (o k) then insR lt i k (va_up o (k + 1) (o k)) else va_up o (k + 1) i) j ≤ i
    split
    · refine insR_lt k _ (by omega) (fun z hz => by rw [va_up_ne _ _ (by omega)]; exact h1 z (by omega)) (fun z hz hz2 => ?_) j hj
      unfold va_up; split
      · exact h1 k (by omega)
      · exact h2 z (by omega) hz2
    · unfold va_up; split
      · exact Nat.le_refl _
      · rcases Nat.lt_or_ge j (k + 1) with q | q
        · exact Nat.le_of_lt (h1 j q)
        · exact Nat.le_of_lt (h2 j (by omega) hj)
theorem ordS_lt {lt : Nat → Nat → Bool} {o : Nat → Nat} : ∀ m j, j < m → ordS lt o m j < m
  | 0, j, hj => absurd hj (by omega)
  | m + 1, j, hj => Nat.lt_succ_of_le (insR_lt m (ordS lt o m) (Nat.le_refl m) (fun z hz => ordS_lt m z hz) (fun z h1 h2 => absurd h2 (by omega)) j (by omega))
set_option maxHeartbeats 4000000 in
set_option maxRecDepth 100000 in
theorem c_X12_rank (B : gB) (ad : Nat → Nat) (ct : Nat → va_E) (n : Nat) (f fs fn : Nat → Int32) (km : Nat → Nat) (hn : 33 ≤ n) (h0 : ct 0 = mObj ad f) (hs : ct 6 = .inl (B.2.1 0, 30, .inl fs)) (hm : ct 7 = .inl (B.2.1 0, 2, .inl (nF km))) (hnb : ct 22 = .inl (B.2.1 0, 30, .inl fn)) (hk15 : ∀ w, w < 2 → km w ≤ 15) (fd : Nat → Int32) (hd : ct 8 = .inl (B.2.1 0, 30, .inl fd)) (kp : Nat) (hkp : f 11 = nI kp) (hkp30 : kp ≤ 30) (x y : Int32) : Ctr B yX12_rank cX12_rank 3 (some .int) 2 41 0 0 ad ct n [.ref (ad 0), .int x, .int y] (gPi ad n (fun q ct' => (¬ (((0 : Int) ≤ x.toInt ∧ x.toInt ≤ 2) ∧ ((0 : Int) ≤ y.toInt ∧ y.toInt ≤ ((if x = 2 then kp else if x = 0 then km 0 else km 1 : Nat) : Int) - 1)) ∧ q = -1 ∧ ct' = ct) ∨ ((((0 : Int) ≤ x.toInt ∧ x.toInt ≤ 2) ∧ ((0 : Int) ≤ y.toInt ∧ y.toInt ≤ ((if x = 2 then kp else if x = 0 then km 0 else km 1 : Nat) : Int) - 1)) ∧ x = 2 ∧ (∃ i : Nat, y = nI i ∧ i < kp ∧ q = if fd i = 0 then 0 else nI (rkZ fd kp (absI (fd i)))) ∧ (∃ m' fn', ct' 0 = mObj ad (va_up f 34 (nI m')) ∧ ct' 22 = .inl (B.2.1 0, 30, .inl fn') ∧ ∀ r, r ≠ 0 → r ≠ 22 → ct' r = ct r)) ∨ ((((0 : Int) ≤ x.toInt ∧ x.toInt ≤ 2) ∧ ((0 : Int) ≤ y.toInt ∧ y.toInt ≤ ((if x = 2 then kp else if x = 0 then km 0 else km 1 : Nat) : Int) - 1)) ∧ (∃ w i : Nat, x = nI w ∧ w < 2 ∧ y = nI i ∧ i < km w ∧ q = nI (rkN fs (km 0) (fun i => fs (15 + i)) (km 1) (fs (15 * w + i)))) ∧ (∃ m' fn', ct' 0 = mObj ad (va_up f 34 (nI m')) ∧ ct' 22 = .inl (B.2.1 0, 30, .inl fn') ∧ ∀ r, r ≠ 0 → r ≠ 22 → ct' r = ct r)))) := by
  have hka := hk15 0 (by decide)
  have hkb := hk15 1 (by decide)
  have h30 : ∀ m, m ≤ 30 → True := fun _ _ => trivial
  refine Ctr.ofG (L := [(0, .ref (ad 0)), (1, .int x), (2, .int y)]) (by decide +kernel) rfl (Nat.le_of_ble_eq_true rfl) (fun E fx rt hnm => ?_)
  refine g_iload_n fx 1 dX12_rank_0 rfl ?_
  refine g_i2l fx dX12_rank_1 ?_
  refine g_lconst (v := lN 0) fx dX12_rank_2 (by decide +kernel) ?_
  refine g_ldc2 fx kcX12_256 dX12_rank_3 ?_
  refine g_callSip (As := [.long x.toInt64, .long (lN 0), .long 2]) (rest := []) fx slX12_159 (c_in B ad ct n x (lN 0) (2) 0 2 (by decide) (by decide)) rfl rfl (Nat.le_of_ble_eq_true rfl) ⟨by decide, by decide⟩ ⟨by decide, by decide⟩ dX12_rank_6 (fun q1 hq1 => ?_)
  refine g_if_eq fx 42 dX12_rank_9 (by decide) (fun c9 => ?_) (fun c9 => ?_)
  · skip
    have hA : ¬ (((0 : Int) ≤ x.toInt ∧ x.toInt ≤ 2) ∧ ((0 : Int) ≤ y.toInt ∧ y.toInt ≤ ((if x = 2 then kp else if x = 0 then km 0 else km 1 : Nat) : Int) - 1)) := fun z => if01_z.mp (hq1 ▸ c9) z.1
    refine g_iconst (v := (-1)) fx dX12_rank_42 (by decide +kernel) ?_
    refine g_iret fx rt dX12_rank_43 ?_
    exact gPi.mk (Or.inl ⟨hA, rfl, rfl⟩)
  · skip
    have hx := if01_n.mp (hq1 ▸ c9)
    refine g_iload_n fx 2 dX12_rank_12 rfl ?_
    refine g_i2l fx dX12_rank_13 ?_
    refine g_lconst (v := lN 0) fx dX12_rank_14 (by decide +kernel) ?_
    refine g_iload_n fx 1 dX12_rank_15 rfl ?_
    refine g_iconst (v := nI 2) fx dX12_rank_16 (by decide +kernel) ?_
    refine g_icmp_ne fx 27 dX12_rank_17 (by decide) (fun c17 => ?_) (fun c17 => ?_)
    · skip
      have hx2 : ¬ x.toInt = 2 := fun z => c17 ((eq_c (k := 2) (by decide)).mpr z)
      obtain ⟨w, hw, exw⟩ := toN (lo := 0) (hi := 1) (x := x) (by omega) (by omega)
      have hkw := hk15 w (by omega)
      refine g_relocal (L' := [(0, .ref (ad 0)), (1, .int (nI w)), (2, .int y)]) (by rw [exw]) ?_
      refine g_aload_n fx 0 dX12_rank_27 rfl ?_
      refine g_get (r := 0) fx lkX12_28 (by omega) h0 rfl dX12_rank_28 ?_
      refine g_iload_n fx 1 dX12_rank_31 rfl ?_
      refine g_iald (r := 7) (j := w) fx (by omega) hm (nI_toInt (by omega)) (by omega) dX12_rank_32 ?_
      refine g_isi (y := nI (km w)) rfl ?_
      refine g_iconst (v := nI 1) fx dX12_rank_33 (by decide +kernel) ?_
      refine g_isub fx dX12_rank_34 ?_
      refine g_i2l fx dX12_rank_35 ?_
      refine g_callSip (As := [.long y.toInt64, .long (lN 0), .long (((nI (km w)) - (nI 1)).toInt64)]) (rest := []) fx slX12_159 (c_in B ad ct n y (lN 0) (nI (km w) - nI 1).toInt64 0 (((km w) : Int) - 1) (by decide) (rm1 (by omega))) rfl rfl (Nat.le_of_ble_eq_true rfl) ⟨by decide, by decide⟩ ⟨by decide, by decide⟩ dX12_rank_36 (fun q2 hq2 => ?_)
      have hmm : (if x = 2 then kp else if x = 0 then km 0 else km 1 : Nat) = km w := by rw [exw]; rcases (show w = 0 ∨ w = 1 by omega) with q | q <;> rw [q] <;> rfl
      refine g_if_ne fx 44 dX12_rank_39 (by decide) (fun c39 => ?_) (fun c39 => ?_)
      · skip
        have hy := if01_n.mp (hq2 ▸ c39)
        obtain ⟨i, hi, eyi⟩ := toN hy (by omega)
        have hP : ((0 : Int) ≤ x.toInt ∧ x.toInt ≤ 2) ∧ ((0 : Int) ≤ y.toInt ∧ y.toInt ≤ ((if x = 2 then kp else if x = 0 then km 0 else km 1 : Nat) : Int) - 1) := ⟨hx, by rw [hmm]; exact hy⟩
        refine g_relocal (L' := [(0, .ref (ad 0)), (1, .int (nI w)), (2, .int (nI i))]) (by rw [eyi]) ?_
        refine g_iload_n fx 1 dX12_rank_44 rfl ?_
        refine g_iconst (v := nI 2) fx dX12_rank_45 (by decide +kernel) ?_
        refine g_icmp_ne fx 80 dX12_rank_46 (by decide) (fun c46 => ?_) (fun c46 => ?_)
        rotate_left
        · exact absurd ((nI_eq (by omega) (by omega)).mp c46) (by omega)
        refine g_aload_n fx 0 dX12_rank_80 rfl ?_
        refine g_callVv (As := []) (rest := []) fx slX12_264 (c_X12_takeSamples B ad ct n f fs fn km hn h0 hs hm hnb hk15) (by omega) h0 rfl rfl rfl (Nat.le_of_ble_eq_true rfl) ⟨by decide, by decide⟩ ⟨by decide, by decide⟩ dX12_rank_81 (fun ct2 hz2 => ?_)
        obtain ⟨fn2, h0, hnb, ha2, hb2, hs2⟩ := hz2
        have hs : ct2 6 = .inl (B.2.1 0, 30, .inl fs) := (hs2 6 (by decide) (by decide)).trans hs
        refine g_aload_n fx 0 dX12_rank_84 rfl ?_
        refine g_aload_n fx 0 dX12_rank_85 rfl ?_
        refine g_get (r := 0) fx lkX12_25 (by omega) h0 rfl dX12_rank_86 ?_
        refine g_bipush (v := nI 15) fx dX12_rank_89 (by decide +kernel) ?_
        refine g_iload_n fx 1 dX12_rank_91 rfl ?_
        refine g_imulN fx dX12_rank_92 ?_
        refine g_iload_n fx 2 dX12_rank_93 rfl ?_
        refine g_iaddN fx dX12_rank_94 ?_
        refine g_iald (r := 6) (j := 15 * w + i) fx (by omega) hs (nI_toInt (by omega)) (by omega) dX12_rank_95 ?_
        refine g_callVip (As := [.int (fs (15 * w + i))]) (rest := []) fx slX12_261 (c_X12_rankOf B ad ct2 n _ fn2 hn h0 hnb (km 0 + km 1) (va_up_self _ _ _) (by omega) (fs (15 * w + i))) (by omega) h0 rfl rfl rfl (Nat.le_of_ble_eq_true rfl) ⟨by decide, by decide⟩ ⟨by decide, by decide⟩ dX12_rank_96 (fun q5 hq5 => ?_)
        have hfin : q5 = nI (rkN fs (km 0) (fun i => fs (15 + i)) (km 1) (fs (15 * w + i))) := by rw [hq5, gCnt_cat (km 1) ha2 hb2, gCnt_cat (km 1) ha2 hb2]; rfl
        refine g_iret fx rt dX12_rank_99 ?_
        exact gPi.mk (Or.inr (Or.inr ⟨hP, ⟨w, i, exw, by omega, eyi, by omega, hfin⟩, _, fn2, h0, hnb, hs2⟩))
      · skip
        have hA : ¬ (((0 : Int) ≤ x.toInt ∧ x.toInt ≤ 2) ∧ ((0 : Int) ≤ y.toInt ∧ y.toInt ≤ ((if x = 2 then kp else if x = 0 then km 0 else km 1 : Nat) : Int) - 1)) := fun z => if01_z.mp (hq2 ▸ c39) (by have := z.2; rw [hmm] at this; exact this)
        refine g_iconst (v := (-1)) fx dX12_rank_42 (by decide +kernel) ?_
        refine g_iret fx rt dX12_rank_43 ?_
        exact gPi.mk (Or.inl ⟨hA, rfl, rfl⟩)
    · skip
      refine g_aload_n fx 0 dX12_rank_20 rfl ?_
      refine g_get (r := 0) fx lkX12_181 (by omega) h0 rfl dX12_rank_21 ?_
      refine g_isi (y := nI kp) hkp ?_
      refine g_goto fx 33 dX12_rank_24 (by decide) ?_
      refine g_iconst (v := nI 1) fx dX12_rank_33 (by decide +kernel) ?_
      refine g_isub fx dX12_rank_34 ?_
      refine g_i2l fx dX12_rank_35 ?_
      refine g_callSip (As := [.long y.toInt64, .long (lN 0), .long (((nI kp) - (nI 1)).toInt64)]) (rest := []) fx slX12_159 (c_in B ad ct n y (lN 0) (nI kp - nI 1).toInt64 0 ((kp : Int) - 1) (by decide) (rm1 (by omega))) rfl rfl (Nat.le_of_ble_eq_true rfl) ⟨by decide, by decide⟩ ⟨by decide, by decide⟩ dX12_rank_36 (fun q2 hq2 => ?_)
      have hmm : (if x = 2 then kp else if x = 0 then km 0 else km 1 : Nat) = kp := if_pos c17
      refine g_if_ne fx 44 dX12_rank_39 (by decide) (fun c39 => ?_) (fun c39 => ?_)
      · skip
        have hy := if01_n.mp (hq2 ▸ c39)
        obtain ⟨i, hi, eyi⟩ := toN hy (by omega)
        have hP : ((0 : Int) ≤ x.toInt ∧ x.toInt ≤ 2) ∧ ((0 : Int) ≤ y.toInt ∧ y.toInt ≤ ((if x = 2 then kp else if x = 0 then km 0 else km 1 : Nat) : Int) - 1) := ⟨hx, by rw [hmm]; exact hy⟩
        refine g_relocal (L' := [(0, .ref (ad 0)), (1, .int x), (2, .int (nI i))]) (by rw [eyi]) ?_
        refine g_iload_n fx 1 dX12_rank_44 rfl ?_
        refine g_iconst (v := nI 2) fx dX12_rank_45 (by decide +kernel) ?_
        refine g_icmp_ne fx 80 dX12_rank_46 (by decide) (fun c46 => ?_) (fun c46 => ?_)
        · exact absurd c17 c46
        refine g_aload_n fx 0 dX12_rank_49 rfl ?_
        refine g_callVv (As := []) (rest := []) fx slX12_258 (c_X12_takeSizes B ad ct n f fd fn hn h0 hd hnb kp hkp hkp30) (by omega) h0 rfl rfl rfl (Nat.le_of_ble_eq_true rfl) ⟨by decide, by decide⟩ ⟨by decide, by decide⟩ dX12_rank_50 (fun ct1 hz1 => ?_)
        obtain ⟨fn1, h0, hnb, hz1, hs1⟩ := hz1
        have hd : ct1 8 = .inl (B.2.1 0, 30, .inl fd) := (hs1 8 (by decide) (by decide)).trans hd
        have hnz : nzN fd kp ≤ kp := gCnt_le kp
        refine g_aload_n fx 0 dX12_rank_53 rfl ?_
        refine g_get (r := 0) fx lkX12_31 (by omega) h0 rfl dX12_rank_54 ?_
        refine g_iload_n fx 2 dX12_rank_57 rfl ?_
        refine g_iald (r := 8) (j := i) fx (by omega) hd (nI_toInt (by omega)) (by omega) dX12_rank_58 ?_
        refine g_if_ne fx 66 dX12_rank_59 (by decide) (fun c59 => ?_) (fun c59 => ?_)
        · skip
          refine g_aload_n fx 0 dX12_rank_66 rfl ?_
          refine g_aload_n fx 0 dX12_rank_67 rfl ?_
          refine g_get (r := 0) fx lkX12_31 (by omega) h0 rfl dX12_rank_68 ?_
          refine g_iload_n fx 2 dX12_rank_71 rfl ?_
          refine g_iald (r := 8) (j := i) fx (by omega) hd (nI_toInt (by omega)) (by omega) dX12_rank_72 ?_
          refine g_callSip (As := [.int (fd i)]) (rest := [.ref (ad 0)]) fx slX12_253 (c_X12_sizeOf B ad ct1 n (fd i)) rfl rfl (Nat.le_of_ble_eq_true rfl) ⟨by decide, by decide⟩ ⟨by decide, by decide⟩ dX12_rank_73 (fun q3 hq3 => ?_)
          obtain rfl := hq3
          refine g_callVip (As := [.int (absI (fd i))]) (rest := []) fx slX12_261 (c_X12_rankOf B ad ct1 n _ fn1 hn h0 hnb (nzN fd kp) (va_up_self _ _ _) (by omega) (absI (fd i))) (by omega) h0 rfl rfl rfl (Nat.le_of_ble_eq_true rfl) ⟨by decide, by decide⟩ ⟨by decide, by decide⟩ dX12_rank_76 (fun q4 hq4 => ?_)
          have hfin : q4 = if fd i = 0 then 0 else nI (rkZ fd kp (absI (fd i))) := by rw [if_neg c59, hq4, gCnt_nz kp hz1, gCnt_nz kp hz1]; rfl
          refine g_iret fx rt dX12_rank_79 ?_
          exact gPi.mk (Or.inr (Or.inl ⟨hP, c17, ⟨i, eyi, by omega, hfin⟩, _, fn1, h0, hnb, hs1⟩))
        · skip
          have hfin : nI 0 = if fd i = 0 then 0 else nI (rkZ fd kp (absI (fd i))) := by rw [if_pos c59]; rfl
          refine g_iconst (v := nI 0) fx dX12_rank_62 (by decide +kernel) ?_
          refine g_goto fx 79 dX12_rank_63 (by decide) ?_
          refine g_iret fx rt dX12_rank_79 ?_
          exact gPi.mk (Or.inr (Or.inl ⟨hP, c17, ⟨i, eyi, by omega, hfin⟩, _, fn1, h0, hnb, hs1⟩))
      · skip
        have hA : ¬ (((0 : Int) ≤ x.toInt ∧ x.toInt ≤ 2) ∧ ((0 : Int) ≤ y.toInt ∧ y.toInt ≤ ((if x = 2 then kp else if x = 0 then km 0 else km 1 : Nat) : Int) - 1)) := fun z => if01_z.mp (hq2 ▸ c39) (by have := z.2; rw [hmm] at this; exact this)
        refine g_iconst (v := (-1)) fx dX12_rank_42 (by decide +kernel) ?_
        refine g_iret fx rt dX12_rank_43 ?_
        exact gPi.mk (Or.inl ⟨hA, rfl, rfl⟩)
set_option maxHeartbeats 4000000 in
set_option maxRecDepth 100000 in
theorem c_X12_figure (B : gB) (ad : Nat → Nat) (ct : Nat → va_E) (n : Nat) (f : Nat → Int32) (gu gw : Nat → Nat) (hn : 33 ≤ n) (h0 : ct 0 = mObj ad f) (hu : ct 9 = .inl (B.2.1 0, 160, .inl (nF gu))) (hw : ct 10 = .inl (B.2.1 0, 160, .inl (nF gw))) (hres : 0 ≤ f 12 → ∀ t, t < 4 → okN gu (40 * t) ∧ okN gw (40 * t)) (gq gl gr : Nat → Nat) (hq : ct 1 = .inl (B.2.1 0, 40, .inl (nF gq))) (hlf : ct 2 = .inl (B.2.1 0, 40, .inl (nF gl))) (hrn : ct 25 = .inl (B.2.1 0, 40, .inl (nF gr))) (hbd : 0 ≤ f 12 → ∀ t, t < 4 → 0 < nv gw (40 * t) ∧ nv gw (40 * t) < 2 ^ 700) (x y : Int32) : Ctr B yX12_figure cX12_figure 4 (some .int) 2 51 0 0 ad ct n [.ref (ad 0), .int x, .int y] (gPi ad n (fun q ct' => (f 12 < 0 ∧ q = -3 ∧ ct' = ct) ∨ (0 ≤ f 12 ∧ ¬ ((0 : Int) ≤ x.toInt ∧ x.toInt ≤ 3) ∧ q = -1 ∧ ct' = ct) ∨ (0 ≤ f 12 ∧ ∃ t : Nat, t < 4 ∧ x = nI t ∧ ((¬ ((0 : Int) ≤ y.toInt ∧ y.toInt ≤ 60) ∧ q = -2 ∧ ct' = ct) ∨ (((0 : Int) ≤ y.toInt ∧ y.toInt ≤ 60) ∧ ∃ i : Nat, y = nI i ∧ i ≤ 60 ∧ q = nI (fig (nv gu (40 * t)) (nv gw (40 * t)) i % 16777216) ∧ ∃ gq' gl' gr', ct' 1 = .inl (B.2.1 0, 40, .inl (nF gq')) ∧ ct' 2 = .inl (B.2.1 0, 40, .inl (nF gl')) ∧ ct' 25 = .inl (B.2.1 0, 40, .inl (nF gr')) ∧ ∀ r, r ≠ 1 → r ≠ 2 → r ≠ 25 → ct' r = ct r))))) := by
  have hfr : ∀ r, r ≠ 1 → r ≠ 2 → r ≠ 25 → ct r = ct r := fun _ _ _ _ => rfl
  refine Ctr.ofG (L := [(0, .ref (ad 0)), (1, .int x), (2, .int y)]) (by decide +kernel) rfl (Nat.le_of_ble_eq_true rfl) (fun E fx rt hnm => ?_)
  refine g_aload_n fx 0 dX12_figure_0 rfl ?_
  refine g_get (r := 0) fx lkX12_34 (by omega) h0 rfl dX12_figure_1 ?_
  refine g_if_ge fx 10 dX12_figure_4 (by decide) (fun c4 => ?_) (fun c4 => ?_)
  · skip
    have hkd := hres c4
    refine g_iload_n fx 1 dX12_figure_10 rfl ?_
    refine g_callSip (As := [.int x]) (rest := []) fx slX12_285 (c_X12_isTail B ad ct n x) rfl rfl (Nat.le_of_ble_eq_true rfl) ⟨by decide, by decide⟩ ⟨by decide, by decide⟩ dX12_figure_11 (fun qt hqt => ?_)
    refine g_if_ne fx 19 dX12_figure_14 (by decide) (fun c14 => ?_) (fun c14 => ?_)
    · skip
      have hP : (0 : Int) ≤ x.toInt ∧ x.toInt ≤ 3 := if01_n.mp (hqt ▸ c14)
      obtain ⟨t, ht, ext⟩ := toN hP (by omega)
      have hkt := hkd t (by omega)
      refine g_relocal (L' := [(0, .ref (ad 0)), (1, .int (nI t)), (2, .int y)]) (by rw [ext]) ?_
      refine g_iload_n fx 2 dX12_figure_19 rfl ?_
      refine g_i2l fx dX12_figure_20 ?_
      refine g_lconst (v := lN 0) fx dX12_figure_21 (by decide +kernel) ?_
      refine g_ldc2 fx kcX12_166 dX12_figure_22 ?_
      refine g_callSip (As := [.long y.toInt64, .long (lN 0), .long 60]) (rest := []) fx slX12_159 (c_in B ad ct n y (lN 0) (60) 0 60 (by decide) (by decide)) rfl rfl (Nat.le_of_ble_eq_true rfl) ⟨by decide, by decide⟩ ⟨by decide, by decide⟩ dX12_figure_25 (fun q1 hq1 => ?_)
      refine g_if_ne fx 34 dX12_figure_28 (by decide) (fun c28 => ?_) (fun c28 => ?_)
      · skip
        have hy := if01_n.mp (hq1 ▸ c28)
        obtain ⟨i, hi, eyi⟩ := toN hy (by omega)
        obtain ⟨hWp, hWb⟩ := hbd c4 t (by omega)
        have hpw : (16777216 : Nat) ^ 40 = 2 ^ 700 * 2 ^ 260 := by decide +kernel
        have hW2 : (nv gw (40 * t)) * 2 ≤ 16777216 ^ 40 := by rw [hpw]; exact Nat.mul_le_mul (Nat.le_of_lt hWb) (by decide)
        refine g_relocal (L' := [(0, .ref (ad 0)), (1, .int (nI t)), (2, .int (nI i))]) (by rw [eyi]) ?_
        refine g_aload_n fx 0 dX12_figure_34 rfl ?_
        refine g_get (r := 0) fx lkX12_38 (by omega) h0 rfl dX12_figure_35 ?_
        refine g_bipush (v := nI 40) fx dX12_figure_38 (by decide +kernel) ?_
        refine g_iload_n fx 1 dX12_figure_40 rfl ?_
        refine g_imulN fx dX12_figure_41 ?_
        refine g_aload_n fx 0 dX12_figure_42 rfl ?_
        refine g_get (r := 0) fx lkX12_91 (by omega) h0 rfl dX12_figure_43 ?_
        refine g_iconst (v := nI 0) fx dX12_figure_46 (by decide +kernel) ?_
        refine g_callSv (As := [.ref (ad 9), .int (nI (40 * t)), .ref (ad 25), .int (nI 0)]) (rest := []) fx slX12_151 (c_X12_copy B ad ct n 25 0 40 gr (by omega) (by omega) (by decide) hrn 9 (40 * t) 160 gu (by omega) (by omega) (by decide) hu (by decide)) rfl rfl (Nat.le_of_ble_eq_true rfl) ⟨by decide, by decide⟩ ⟨by decide, by decide⟩ dX12_figure_47 (fun ct1 hz1 => ?_)
        obtain ⟨gr1, e1, -, hc1⟩ := hz1
        have hokr : okN gr1 0 := fun j hj => by rw [hc1 j hj]; exact hkt.1 j hj
        have hvr : nv gr1 0 = (nv gu (40 * t)) := bval_congr 40 (fun j hj => hc1 j hj)
        have hfr : ∀ r, r ≠ 1 → r ≠ 2 → r ≠ 25 → ct1 r = ct r := fun r _ _ _ => (congrFun e1 r).trans ((va_up_ne _ _ (by assumption)).trans (hfr r (by assumption) (by assumption) (by assumption)))
        have h0 : ct1 0 = mObj ad f := (congrFun e1 _).trans ((va_up_ne _ _ (by omega)).trans h0)
        have hq : ct1 1 = .inl (B.2.1 0, 40, .inl (nF gq)) := (congrFun e1 _).trans ((va_up_ne _ _ (by omega)).trans hq)
        have hlf : ct1 2 = .inl (B.2.1 0, 40, .inl (nF gl)) := (congrFun e1 _).trans ((va_up_ne _ _ (by omega)).trans hlf)
        have hu : ct1 9 = .inl (B.2.1 0, 160, .inl (nF gu)) := (congrFun e1 _).trans ((va_up_ne _ _ (by omega)).trans hu)
        have hw : ct1 10 = .inl (B.2.1 0, 160, .inl (nF gw)) := (congrFun e1 _).trans ((va_up_ne _ _ (by omega)).trans hw)
        have hrn : ct1 25 = .inl (B.2.1 0, 40, .inl (nF gr1)) := by rw [e1, va_up_self]
        refine g_aload_n fx 0 dX12_figure_50 rfl ?_
        refine g_aload_n fx 0 dX12_figure_51 rfl ?_
        refine g_get (r := 0) fx lkX12_91 (by omega) h0 rfl dX12_figure_52 ?_
        refine g_iconst (v := nI 0) fx dX12_figure_55 (by decide +kernel) ?_
        refine g_aload_n fx 0 dX12_figure_56 rfl ?_
        refine g_get (r := 0) fx lkX12_41 (by omega) h0 rfl dX12_figure_57 ?_
        refine g_bipush (v := nI 40) fx dX12_figure_60 (by decide +kernel) ?_
        refine g_iload_n fx 1 dX12_figure_62 rfl ?_
        refine g_imulN fx dX12_figure_63 ?_
        refine g_callVv (As := [.ref (ad 25), .int (nI 0), .ref (ad 10), .int (nI (40 * t))]) (rest := []) fx slX12_154 (c_X12_part B ad ct1 n f gq gl hn h0 hq hlf 25 0 40 gr1 (by omega) (by omega) (by decide) hrn 10 (40 * t) 160 gw (by omega) (by omega) (by decide) hw (by decide) (by decide) hokr hkt.2 hWp hW2) (by omega) h0 rfl rfl rfl (Nat.le_of_ble_eq_true rfl) ⟨by decide, by decide⟩ ⟨by decide, by decide⟩ dX12_figure_64 (fun ct2 hz2 => ?_)
        obtain ⟨gq2, gl2, hq, hlf, hokq, hokl, hvq, hvl, hs2⟩ := hz2
        have h0 : ct2 0 = mObj ad f := (hs2 0 (by decide) (by decide)).trans h0
        have hu : ct2 9 = .inl (B.2.1 0, 160, .inl (nF gu)) := (hs2 9 (by decide) (by decide)).trans hu
        have hw : ct2 10 = .inl (B.2.1 0, 160, .inl (nF gw)) := (hs2 10 (by decide) (by decide)).trans hw
        have hrn : ct2 25 = .inl (B.2.1 0, 40, .inl (nF gr1)) := (hs2 25 (by decide) (by decide)).trans hrn
        have hfr : ∀ r, r ≠ 1 → r ≠ 2 → r ≠ 25 → ct2 r = ct r := fun r q1 q2 q3 => (hs2 r q1 q2).trans (hfr r q1 q2 q3)
        refine g_iconst (v := nI 0) fx dX12_figure_67 (by decide +kernel) ?_
        refine g_istore_n (L' := [(3, .int (nI 0)), (0, .ref (ad 0)), (1, .int (nI t)), (2, .int (nI i))]) fx dX12_figure_68 (by decide) rfl ?_
        have LP69 : ∀ (M : Nat) (k : Nat) (ct3 : Nat → va_E) (gq3 gl3 gr3 : Nat → Nat), (k ≤ i) → (okN gq3 0) → (okN gl3 0) → (nv gq3 0 = fig (nv gu (40 * t)) (nv gw (40 * t)) k) → (nv gl3 0 = figR (nv gu (40 * t)) (nv gw (40 * t)) k) → (ct3 0 = mObj ad f) → (ct3 1 = .inl (B.2.1 0, 40, .inl (nF gq3))) → (ct3 2 = .inl (B.2.1 0, 40, .inl (nF gl3))) → (ct3 9 = .inl (B.2.1 0, 160, .inl (nF gu))) → (ct3 10 = .inl (B.2.1 0, 160, .inl (nF gw))) → (ct3 25 = .inl (B.2.1 0, 40, .inl (nF gr3))) → (∀ r, r ≠ 1 → r ≠ 2 → r ≠ 25 → ct3 r = ct r) →  (i - k) < M → G B 4 E ad ct3 n 0 0 [(0, .ref (ad 0)), (1, .int (nI t)), (2, .int (nI i)), (3, .int (nI k))] 69 [] := by
          intro M
          induction M with
          | zero => intro k ct3 gq3 gl3 gr3 _ _ _ _ _ _ _ _ _ _ _ _ hM; exact absurd hM (Nat.not_lt_zero _)
          | succ M ih =>
            intro k ct3 gq3 gl3 gr3 hk hokq hokl hvq hvl h0 hq hlf hu hw hrn hfr hM
            have ih69 := ih
            refine g_iload_n fx 3 dX12_figure_69 rfl ?_
            refine g_iload_n fx 2 dX12_figure_70 rfl ?_
            refine g_icmp_ge fx 120 dX12_figure_71 (by decide) (fun c71 => ?_) (fun c71 => ?_)
            · skip
              have hki : k = i := by have := (nI_leI (by omega) (by omega)).mp c71; omega
              refine g_aload_n fx 0 dX12_figure_120 rfl ?_
              refine g_get (r := 0) fx lkX12_7 (by omega) h0 rfl dX12_figure_121 ?_
              refine g_iconst (v := nI 0) fx dX12_figure_124 (by decide +kernel) ?_
              refine g_iald (r := 1) (j := 0) fx (by omega) hq (nI_toInt (by omega)) (by omega) dX12_figure_125 ?_
              refine g_isi (y := nI (gq3 0)) rfl ?_
              refine g_iret fx rt dX12_figure_126 ?_
              refine gPi.mk (Or.inr (Or.inr ⟨c4, t, by omega, ext, Or.inr ⟨hy, i, eyi, by omega, ?_, gq3, gl3, gr3, hq, hlf, hrn, hfr⟩⟩))
              rw [nv_low hokq, hvq, hki]
            · skip
              have hlt2 : k < i := by have := (nI_ltI (by omega) (by omega)).mp (Int32.not_le.mp c71); omega
              have hfl := figR_lt (U := (nv gu (40 * t))) hWp k
              have hvl3 := hvl
              refine g_aload_n fx 0 dX12_figure_74 rfl ?_
              refine g_get (r := 0) fx lkX12_13 (by omega) h0 rfl dX12_figure_75 ?_
              refine g_iconst (v := nI 0) fx dX12_figure_78 (by decide +kernel) ?_
              refine g_aload_n fx 0 dX12_figure_79 rfl ?_
              refine g_get (r := 0) fx lkX12_91 (by omega) h0 rfl dX12_figure_80 ?_
              refine g_iconst (v := nI 0) fx dX12_figure_83 (by decide +kernel) ?_
              refine g_callSv (As := [.ref (ad 2), .int (nI 0), .ref (ad 25), .int (nI 0)]) (rest := []) fx slX12_151 (c_X12_copy B ad ct3 n 25 0 40 gr3 (by omega) (by omega) (by decide) hrn 2 0 40 gl3 (by omega) (by omega) (by decide) hlf (by decide)) rfl rfl (Nat.le_of_ble_eq_true rfl) ⟨by decide, by decide⟩ ⟨by decide, by decide⟩ dX12_figure_84 (fun ct4 hz4 => ?_)
              obtain ⟨gr4, e4, -, hc4⟩ := hz4
              have hokr4 : okN gr4 0 := fun j hj => by rw [hc4 j hj]; exact hokl j hj
              have hvr4 : nv gr4 0 = nv gl3 0 := bval_congr 40 (fun j hj => hc4 j hj)
              have hfr : ∀ r, r ≠ 1 → r ≠ 2 → r ≠ 25 → ct4 r = ct r := fun r _ _ _ => (congrFun e4 r).trans ((va_up_ne _ _ (by assumption)).trans (hfr r (by assumption) (by assumption) (by assumption)))
              have h0 : ct4 0 = mObj ad f := (congrFun e4 _).trans ((va_up_ne _ _ (by omega)).trans h0)
              have hq : ct4 1 = .inl (B.2.1 0, 40, .inl (nF gq3)) := (congrFun e4 _).trans ((va_up_ne _ _ (by omega)).trans hq)
              have hlf : ct4 2 = .inl (B.2.1 0, 40, .inl (nF gl3)) := (congrFun e4 _).trans ((va_up_ne _ _ (by omega)).trans hlf)
              have hu : ct4 9 = .inl (B.2.1 0, 160, .inl (nF gu)) := (congrFun e4 _).trans ((va_up_ne _ _ (by omega)).trans hu)
              have hw : ct4 10 = .inl (B.2.1 0, 160, .inl (nF gw)) := (congrFun e4 _).trans ((va_up_ne _ _ (by omega)).trans hw)
              have hrn : ct4 25 = .inl (B.2.1 0, 40, .inl (nF gr4)) := by rw [e4, va_up_self]
              refine g_aload_n fx 0 dX12_figure_87 rfl ?_
              refine g_get (r := 0) fx lkX12_91 (by omega) h0 rfl dX12_figure_88 ?_
              refine g_iconst (v := nI 0) fx dX12_figure_91 (by decide +kernel) ?_
              refine g_bipush (v := nI 10) fx dX12_figure_92 (by decide +kernel) ?_
              refine g_callSv (As := [.ref (ad 25), .int (nI 0), .int (nI 10)]) (rest := []) fx slX12_204 (c_X12_multiply B ad ct4 n 25 0 40 gr4 (by omega) (by omega) (by decide) hrn 10 (by decide) hokr4 (by rw [hvr4, hvl3, hpw]; exact Nat.lt_of_lt_of_le (Nat.mul_lt_mul_of_pos_right (Nat.lt_trans hfl hWb) (by decide)) (Nat.mul_le_mul_left _ (by decide)))) rfl rfl (Nat.le_of_ble_eq_true rfl) ⟨by decide, by decide⟩ ⟨by decide, by decide⟩ dX12_figure_94 (fun ct5 hz5 => ?_)
              obtain ⟨gr5, e5, -, hokr, hvr5⟩ := hz5
              have hfr : ∀ r, r ≠ 1 → r ≠ 2 → r ≠ 25 → ct5 r = ct r := fun r _ _ _ => (congrFun e5 r).trans ((va_up_ne _ _ (by assumption)).trans (hfr r (by assumption) (by assumption) (by assumption)))
              have h0 : ct5 0 = mObj ad f := (congrFun e5 _).trans ((va_up_ne _ _ (by omega)).trans h0)
              have hq : ct5 1 = .inl (B.2.1 0, 40, .inl (nF gq3)) := (congrFun e5 _).trans ((va_up_ne _ _ (by omega)).trans hq)
              have hlf : ct5 2 = .inl (B.2.1 0, 40, .inl (nF gl3)) := (congrFun e5 _).trans ((va_up_ne _ _ (by omega)).trans hlf)
              have hu : ct5 9 = .inl (B.2.1 0, 160, .inl (nF gu)) := (congrFun e5 _).trans ((va_up_ne _ _ (by omega)).trans hu)
              have hw : ct5 10 = .inl (B.2.1 0, 160, .inl (nF gw)) := (congrFun e5 _).trans ((va_up_ne _ _ (by omega)).trans hw)
              have hrn : ct5 25 = .inl (B.2.1 0, 40, .inl (nF gr5)) := by rw [e5, va_up_self]
              refine g_aload_n fx 0 dX12_figure_97 rfl ?_
              refine g_aload_n fx 0 dX12_figure_98 rfl ?_
              refine g_get (r := 0) fx lkX12_91 (by omega) h0 rfl dX12_figure_99 ?_
              refine g_iconst (v := nI 0) fx dX12_figure_102 (by decide +kernel) ?_
              refine g_aload_n fx 0 dX12_figure_103 rfl ?_
              refine g_get (r := 0) fx lkX12_41 (by omega) h0 rfl dX12_figure_104 ?_
              refine g_bipush (v := nI 40) fx dX12_figure_107 (by decide +kernel) ?_
              refine g_iload_n fx 1 dX12_figure_109 rfl ?_
              refine g_imulN fx dX12_figure_110 ?_
              refine g_callVv (As := [.ref (ad 25), .int (nI 0), .ref (ad 10), .int (nI (40 * t))]) (rest := []) fx slX12_154 (c_X12_part B ad ct5 n f gq3 gl3 hn h0 hq hlf 25 0 40 gr5 (by omega) (by omega) (by decide) hrn 10 (40 * t) 160 gw (by omega) (by omega) (by decide) hw (by decide) (by decide) hokr hkt.2 hWp hW2) (by omega) h0 rfl rfl rfl (Nat.le_of_ble_eq_true rfl) ⟨by decide, by decide⟩ ⟨by decide, by decide⟩ dX12_figure_111 (fun ct6 hz6 => ?_)
              obtain ⟨gq6, gl6, hq, hlf, hokq, hokl, hvq, hvl, hs6⟩ := hz6
              have h0 : ct6 0 = mObj ad f := (hs6 0 (by decide) (by decide)).trans h0
              have hu : ct6 9 = .inl (B.2.1 0, 160, .inl (nF gu)) := (hs6 9 (by decide) (by decide)).trans hu
              have hw : ct6 10 = .inl (B.2.1 0, 160, .inl (nF gw)) := (hs6 10 (by decide) (by decide)).trans hw
              have hrn : ct6 25 = .inl (B.2.1 0, 40, .inl (nF gr5)) := (hs6 25 (by decide) (by decide)).trans hrn
              have hfr : ∀ r, r ≠ 1 → r ≠ 2 → r ≠ 25 → ct6 r = ct r := fun r q1 q2 q3 => (hs6 r q1 q2).trans (hfr r q1 q2 q3)
              refine g_iinc (L' := [(3, .int (nI (k + 1))), (0, .ref (ad 0)), (1, .int (nI t)), (2, .int (nI i))]) fx (nI (k + 1)) 3 dX12_figure_114 rfl (gInc _) (by decide) rfl ?_
              refine g_goto fx 69 dX12_figure_117 (by decide) ?_
              refine g_locals (L' := [(0, .ref (ad 0)), (1, .int (nI t)), (2, .int (nI i)), (3, .int (nI (k + 1)))]) [1, 2, 3, 0] rfl ?_
              exact ih (k + 1) _ gq6 gl6 gr5 hlt2 hokq hokl (by rw [hvq, hvr5, hvr4, hvl3]; rfl) (by rw [hvl, hvr5, hvr4, hvl3]; rfl) h0 hq hlf hu hw hrn hfr (by omega)
        refine g_locals (L' := [(0, .ref (ad 0)), (1, .int (nI t)), (2, .int (nI i)), (3, .int (nI 0))]) [1, 2, 3, 0] rfl ?_
        exact LP69 (i + 1) 0 ct2 gq2 gl2 gr1 (by omega) hokq hokl (by rw [hvq, hvr]; rfl) (by rw [hvl, hvr]; rfl) h0 hq hlf hu hw hrn hfr (by omega)
      · skip
        have hA := if01_z.mp (hq1 ▸ c28)
        refine g_bipush (v := (-2)) fx dX12_figure_31 (by decide +kernel) ?_
        refine g_iret fx rt dX12_figure_33 ?_
        exact gPi.mk (Or.inr (Or.inr ⟨c4, t, by omega, ext, Or.inl ⟨hA, rfl, rfl⟩⟩))
    · skip
      have hA : ¬ ((0 : Int) ≤ x.toInt ∧ x.toInt ≤ 3) := if01_z.mp (hqt ▸ c14)
      refine g_iconst (v := (-1)) fx dX12_figure_17 (by decide +kernel) ?_
      refine g_iret fx rt dX12_figure_18 ?_
      exact gPi.mk (Or.inr (Or.inl ⟨c4, hA, rfl, rfl⟩))
  · skip
    have hkn : f 12 < 0 := Int32.not_le.mp c4
    refine g_bipush (v := (-3)) fx dX12_figure_7 (by decide +kernel) ?_
    refine g_iret fx rt dX12_figure_9 ?_
    exact gPi.mk (Or.inl ⟨hkn, rfl, rfl⟩)
