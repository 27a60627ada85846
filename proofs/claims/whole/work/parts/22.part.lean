/-- the reference's object (class 12, role 0): its rows at the roles 1 to 32, its numbers in f, by their places -/
abbrev mFs (ad : Nat → Nat) (f : Nat → Int32) : List Value := [.ref (ad 1), .ref (ad 2), .ref (ad 3), .ref (ad 4), .int (f 4), .int (f 5), .ref (ad 5), .int (f 7), .ref (ad 6), .ref (ad 7), .ref (ad 8), .int (f 11), .int (f 12), .int (f 13), .int (f 14), .ref (ad 9), .ref (ad 10), .ref (ad 11), .int (f 18), .int (f 19), .ref (ad 12), .ref (ad 13), .ref (ad 14), .ref (ad 15), .ref (ad 16), .int (f 25), .int (f 26), .int (f 27), .ref (ad 17), .ref (ad 18), .ref (ad 19), .ref (ad 20), .ref (ad 21), .ref (ad 22), .int (f 34), .ref (ad 23), .ref (ad 24), .ref (ad 25), .ref (ad 26), .ref (ad 27), .int (f 40), .ref (ad 28), .ref (ad 29), .ref (ad 30), .ref (ad 31), .int (f 45), .ref (ad 32)]
abbrev mObj (ad : Nat → Nat) (f : Nat → Int32) : va_E := .inr (12, mFs ad f)
theorem m1_eq {k : Nat} (h : 0 < k) : nI k - nI 1 = nI (k - 1) := by
  obtain ⟨j, rfl⟩ : ∃ j, k = j + 1 := ⟨k - 1, by omega⟩
  exact nI_pred j
theorem cmp_neg {v x : Nat} : cmpI v x < 0 ↔ v < x := by
  rcases Nat.lt_trichotomy v x with q | q | q
  · rw [cmp_lt q]; exact ⟨fun _ => q, fun _ => by decide⟩
  · rw [cmp_eq q]; exact ⟨fun z => absurd z (by decide), fun z => by omega⟩
  · rw [cmp_gt q]; exact ⟨fun z => absurd z (by decide), fun z => by omega⟩
theorem cmp_nonneg {v x : Nat} : 0 ≤ cmpI v x ↔ x ≤ v := by
  rw [← Int32.not_lt, cmp_neg]; omega
theorem cmp_nonpos {v x : Nat} : cmpI v x ≤ 0 ↔ v ≤ x := by
  rcases Nat.lt_trichotomy v x with q | q | q
  · rw [cmp_lt q]; exact ⟨fun _ => by omega, fun _ => by decide⟩
  · rw [cmp_eq q]; exact ⟨fun _ => by omega, fun _ => by decide⟩
  · rw [cmp_gt q]; exact ⟨fun z => absurd z (by decide), fun z => by omega⟩
theorem half {V k : Nat} (h : 0 < k) : V / 2 ^ (k - 1) = V / 2 ^ k * 2 + V / 2 ^ (k - 1) % 2 := by
  obtain ⟨j, rfl⟩ : ∃ j, k = j + 1 := ⟨k - 1, by omega⟩
  rw [Nat.add_sub_cancel, Nat.pow_succ, ← Nat.div_div_eq_div_mul]
  omega
theorem pdivA {X D e : Nat} (h : X % D * 2 + e < D) : (X * 2 + e) / D = X / D * 2 ∧ (X * 2 + e) % D = X % D * 2 + e := by
  have h1 := Nat.div_add_mod X D
  have e1 : X / D * 2 * D + (X % D * 2 + e) = X * 2 + e := by
    generalize X / D = q at h1 ⊢
    generalize X % D = l at h1 ⊢
    rw [← h1]; grind
  exact ⟨(div_of e1 h).symm, (mod_of e1 h).symm⟩
theorem pdivB {X D e : Nat} (hD : 0 < D) (he : e ≤ 1) (h : D ≤ X % D * 2 + e) : (X * 2 + e) / D = X / D * 2 + 1 ∧ (X * 2 + e) % D = X % D * 2 + e - D := by
  have h1 := Nat.div_add_mod X D
  have h2 := Nat.mod_lt X hD
  obtain ⟨z, hz⟩ : ∃ z, X % D * 2 + e = D + z := ⟨X % D * 2 + e - D, by omega⟩
  have e1 : (X / D * 2 + 1) * D + z = X * 2 + e := by
    generalize X / D = q at h1 ⊢
    generalize X % D = l at h1 hz ⊢
    rw [← h1]; grind
  rw [show X % D * 2 + e - D = z by omega]
  exact ⟨(div_of e1 (by omega)).symm, (mod_of e1 (by omega)).symm⟩
theorem i_or1 {x : Nat} (h : x % 2 = 0) (hx : x < 2 ^ 31) : nI x ||| nI 1 = nI (x + 1) := by
  apply Int32.toBitVec_inj.mp
  show BitVec.ofNat 32 x ||| BitVec.ofNat 32 1 = BitVec.ofNat 32 (x + 1)
  apply BitVec.eq_of_toNat_eq
  rw [BitVec.toNat_or, BitVec.toNat_ofNat, BitVec.toNat_ofNat, BitVec.toNat_ofNat, Nat.mod_eq_of_lt (by omega), Nat.mod_eq_of_lt (by decide), Nat.mod_eq_of_lt (by omega)]
  obtain ⟨y, rfl⟩ : ∃ y, x = 2 * y := ⟨x / 2, by omega⟩
  have := Nat.two_pow_add_eq_or_of_lt (i := 1) (b := 1) (by decide) y
  rw [show (2 : Nat) ^ 1 = 2 from rfl] at this
  exact this.symm
theorem nv_low {g : Nat → Nat} (h : okN g 0) : g 0 = nv g 0 % 16777216 := by
  unfold nv
  rw [show (40 : Nat) = 39 + 1 from rfl, bval_head, Nat.add_mul_mod_self_left]
  exact (Nat.mod_eq_of_lt (h 0 (by decide))).symm
theorem nv_up0 {g : Nat → Nat} {x : Nat} : nv (va_up g 0 x) 0 + g 0 = nv g 0 + x := by
  unfold nv
  rw [show (40 : Nat) = 39 + 1 from rfl, bval_head (f := sh (va_up g 0 x) 0), bval_head (f := sh g 0)]
  have e : bval 16777216 (fun i => sh (va_up g 0 x) 0 (i + 1)) 39 = bval 16777216 (fun i => sh g 0 (i + 1)) 39 := bval_congr 39 (fun i _ => by show va_up g 0 x (0 + (i + 1)) = g (0 + (i + 1)); exact va_up_ne _ _ (by omega))
  rw [e, show sh (va_up g 0 x) 0 0 = x from va_up_self _ _ _, show sh g 0 0 = g 0 from rfl]
  omega
theorem gcd_step (x y : Nat) : Nat.gcd y (x % y) = Nat.gcd x y := by rw [Nat.gcd_comm x y, Nat.gcd_rec y x, Nat.gcd_comm]
set_option maxHeartbeats 4000000 in
set_option maxRecDepth 100000 in
theorem c_X12_part (B : gB) (ad : Nat → Nat) (ct : Nat → va_E) (n : Nat) (f : Nat → Int32) (gq gl : Nat → Nat) (hn : 33 ≤ n) (h0 : ct 0 = mObj ad f) (hq : ct 1 = .inl (B.2.1 0, 40, .inl (nF gq))) (hlf : ct 2 = .inl (B.2.1 0, 40, .inl (nF gl))) (r a N : Nat) (g : Nat → Nat) (hnr : r < n) (haN : a + 40 ≤ N) (hN : N < 2 ^ 30) (hr : ct r = .inl (B.2.1 0, N, .inl (nF g))) (s b P : Nat) (gs : Nat → Nat) (hns : s < n) (hbP : b + 40 ≤ P) (hP : P < 2 ^ 30) (hs : ct s = .inl (B.2.1 0, P, .inl (nF gs))) (hr0 : 2 < r) (hs0 : 2 < s) (hok : okN g a) (hoks : okN gs b) (hD : 0 < nv gs b) (hD2 : nv gs b * 2 ≤ 16777216 ^ 40) : Ctr B yX12_part cX12_part 6 none 1 26 0 0 ad ct n [.ref (ad 0), .ref (ad r), .int (nI a), .ref (ad s), .int (nI b)] (gPv ad n (fun ct' => ∃ gq' gl', ct' 1 = .inl (B.2.1 0, 40, .inl (nF gq')) ∧ ct' 2 = .inl (B.2.1 0, 40, .inl (nF gl')) ∧ okN gq' 0 ∧ okN gl' 0 ∧ nv gq' 0 = nv g a / nv gs b ∧ nv gl' 0 = nv g a % nv gs b ∧ ∀ r, r ≠ 1 → r ≠ 2 → ct' r = ct r)) := by
  have hfr : ∀ r, r ≠ 1 → r ≠ 2 → ct r = ct r := fun _ _ _ => rfl
  have hVlt := nv_lt hok
  have hnb : nbits (nv g a) ≤ 960 := nbits_le (by rw [show (2 : Nat) ^ 960 = 16777216 ^ 40 by decide +kernel]; exact hVlt)
  refine Ctr.ofG (L := [(0, .ref (ad 0)), (1, .ref (ad r)), (2, .int (nI a)), (3, .ref (ad s)), (4, .int (nI b))]) (by decide +kernel) rfl (Nat.le_of_ble_eq_true rfl) (fun E fx rt hnm => ?_)
  refine g_aload_n fx 0 dX12_part_0 rfl ?_
  refine g_get (r := 0) fx lkX12_7 (by omega) h0 rfl dX12_part_1 ?_
  refine g_iconst (v := nI 0) fx dX12_part_4 (by decide +kernel) ?_
  refine g_lconst (v := lN 0) fx dX12_part_5 (by decide +kernel) ?_
  refine g_callSv (As := [.ref (ad 1), .int (nI 0), .long (lN 0)]) (rest := []) fx slX12_127 (c_X12_set B ad ct n 1 0 40 gq (by omega) (by omega) (by decide) hq 0 (by decide)) rfl rfl (Nat.le_of_ble_eq_true rfl) ⟨by decide, by decide⟩ ⟨by decide, by decide⟩ dX12_part_6 (fun ct1 hz1 => ?_)
  obtain ⟨gq0, e1, -, hokq, hvq⟩ := hz1
  have hfr : ∀ r, r ≠ 1 → r ≠ 2 → ct1 r = ct r := fun r _ _ => (congrFun e1 r).trans ((va_up_ne _ _ (by assumption)).trans (hfr r (by assumption) (by assumption)))
  have h0 : ct1 0 = mObj ad f := (congrFun e1 _).trans ((va_up_ne _ _ (by omega)).trans h0)
  have hq : ct1 1 = .inl (B.2.1 0, 40, .inl (nF gq0)) := by rw [e1, va_up_self]
  have hlf : ct1 2 = .inl (B.2.1 0, 40, .inl (nF gl)) := (congrFun e1 _).trans ((va_up_ne _ _ (by omega)).trans hlf)
  have hr : ct1 r = .inl (B.2.1 0, N, .inl (nF g)) := (congrFun e1 _).trans ((va_up_ne _ _ (by omega)).trans hr)
  have hs : ct1 s = .inl (B.2.1 0, P, .inl (nF gs)) := (congrFun e1 _).trans ((va_up_ne _ _ (by omega)).trans hs)
  refine g_aload_n fx 0 dX12_part_9 rfl ?_
  refine g_get (r := 0) fx lkX12_13 (by omega) h0 rfl dX12_part_10 ?_
  refine g_iconst (v := nI 0) fx dX12_part_13 (by decide +kernel) ?_
  refine g_lconst (v := lN 0) fx dX12_part_14 (by decide +kernel) ?_
  refine g_callSv (As := [.ref (ad 2), .int (nI 0), .long (lN 0)]) (rest := []) fx slX12_127 (c_X12_set B ad ct1 n 2 0 40 gl (by omega) (by omega) (by decide) hlf 0 (by decide)) rfl rfl (Nat.le_of_ble_eq_true rfl) ⟨by decide, by decide⟩ ⟨by decide, by decide⟩ dX12_part_15 (fun ct2 hz2 => ?_)
  obtain ⟨gl0, e2, -, hokl, hvl⟩ := hz2
  have hfr : ∀ r, r ≠ 1 → r ≠ 2 → ct2 r = ct r := fun r _ _ => (congrFun e2 r).trans ((va_up_ne _ _ (by assumption)).trans (hfr r (by assumption) (by assumption)))
  have h0 : ct2 0 = mObj ad f := (congrFun e2 _).trans ((va_up_ne _ _ (by omega)).trans h0)
  have hq : ct2 1 = .inl (B.2.1 0, 40, .inl (nF gq0)) := (congrFun e2 _).trans ((va_up_ne _ _ (by omega)).trans hq)
  have hlf : ct2 2 = .inl (B.2.1 0, 40, .inl (nF gl0)) := by rw [e2, va_up_self]
  have hr : ct2 r = .inl (B.2.1 0, N, .inl (nF g)) := (congrFun e2 _).trans ((va_up_ne _ _ (by omega)).trans hr)
  have hs : ct2 s = .inl (B.2.1 0, P, .inl (nF gs)) := (congrFun e2 _).trans ((va_up_ne _ _ (by omega)).trans hs)
  refine g_aload_n fx 1 dX12_part_18 rfl ?_
  refine g_iload_n fx 2 dX12_part_19 rfl ?_
  refine g_callSip (As := [.ref (ad r), .int (nI a)]) (rest := []) fx slX12_131 (c_X12_bitsOf B ad ct2 n r a N g hnr haN hN hr hok) rfl rfl (Nat.le_of_ble_eq_true rfl) ⟨by decide, by decide⟩ ⟨by decide, by decide⟩ dX12_part_20 (fun q0 hq0 => ?_)
  obtain rfl := hq0
  refine g_iconst (v := nI 1) fx dX12_part_23 (by decide +kernel) ?_
  refine g_isub fx dX12_part_24 ?_
  refine g_istore (L' := [(5, .int ((nI (nbits (nv g a))) - (nI 1))), (0, .ref (ad 0)), (1, .ref (ad r)), (2, .int (nI a)), (3, .ref (ad s)), (4, .int (nI b))]) fx dX12_part_25 (by decide) rfl ?_
  have LP27 : ∀ (M : Nat) (k : Nat) (ct3 : Nat → va_E) (gq1 gl1 : Nat → Nat), (k ≤ nbits (nv g a)) → (okN gq1 0) → (okN gl1 0) → (nv gq1 0 = nv g a / 2 ^ k / nv gs b) → (nv gl1 0 = nv g a / 2 ^ k % nv gs b) → (ct3 0 = mObj ad f) → (ct3 1 = .inl (B.2.1 0, 40, .inl (nF gq1))) → (ct3 2 = .inl (B.2.1 0, 40, .inl (nF gl1))) → (ct3 r = .inl (B.2.1 0, N, .inl (nF g))) → (ct3 s = .inl (B.2.1 0, P, .inl (nF gs))) → (∀ r, r ≠ 1 → r ≠ 2 → ct3 r = ct r) →  k < M → G B 6 E ad ct3 n 0 0 [(0, .ref (ad 0)), (1, .ref (ad r)), (2, .int (nI a)), (3, .ref (ad s)), (4, .int (nI b)), (5, .int (nI k - nI 1))] 27 [] := by
    intro M
    induction M with
    | zero => intro k ct3 gq1 gl1 _ _ _ _ _ _ _ _ _ _ _ hM; exact absurd hM (Nat.not_lt_zero _)
    | succ M ih =>
      intro k ct3 gq1 gl1 hk hokq hokl hvq hvl h0 hq hlf hr hs hfr hM
      refine g_iload fx 5 dX12_part_27 rfl ?_
      refine g_if_lt fx 101 dX12_part_29 (by decide) (fun c29 => ?_) (fun c29 => ?_)
      · skip
        have hk0 := (m1_neg (by omega)).mp c29
        rw [hk0, Nat.pow_zero, Nat.div_one] at hvq hvl
        refine g_vret fx rt dX12_part_101 ?_
        exact gPv.mk ⟨gq1, gl1, hq, hlf, hokq, hokl, hvq, hvl, hfr⟩
      · skip
        have hk0 : 0 < k := Nat.pos_of_ne_zero (fun q => c29 ((m1_neg (by omega)).mpr q))
        have hh := half (V := nv g a) hk0
        have hml := Nat.mod_lt (nv g a / 2 ^ k) hD
        have hE1 : (nv g a / 2 ^ (k - 1) % 2) ≤ 1 := by omega
        have hqV : nv g a / 2 ^ k / nv gs b ≤ nv g a / 2 ^ k := Nat.div_le_self _ _
        have hqV2 : nv g a / 2 ^ (k - 1) ≤ nv g a := Nat.div_le_self _ _
        refine g_aload_n fx 0 dX12_part_32 rfl ?_
        refine g_get (r := 0) fx lkX12_13 (by omega) h0 rfl dX12_part_33 ?_
        refine g_iconst (v := nI 0) fx dX12_part_36 (by decide +kernel) ?_
        refine g_aload_n fx 1 dX12_part_37 rfl ?_
        refine g_iload_n fx 2 dX12_part_38 rfl ?_
        refine g_iload fx 5 dX12_part_39 rfl ?_
        refine g_isi (y := nI (k - 1)) (m1_eq hk0) ?_
        refine g_callSip (As := [.ref (ad r), .int (nI a), .int (nI (k - 1))]) (rest := [.int (nI 0), .ref (ad 2)]) fx slX12_135 (c_X12_bitAt B ad ct3 n r a N g hnr haN hN hr hok (k - 1) (by omega)) rfl rfl (Nat.le_of_ble_eq_true rfl) ⟨by decide, by decide⟩ ⟨by decide, by decide⟩ dX12_part_41 (fun q1 hq1 => ?_)
        obtain rfl := hq1
        refine g_callSv (As := [.ref (ad 2), .int (nI 0), .int (nI (nv g a / 2 ^ (k - 1) % 2))]) (rest := []) fx slX12_139 (c_X12_twice B ad ct3 n 2 0 40 gl1 (by omega) (by omega) (by decide) hlf (nv g a / 2 ^ (k - 1) % 2) hE1 hokl (by rw [hvl]; omega)) rfl rfl (Nat.le_of_ble_eq_true rfl) ⟨by decide, by decide⟩ ⟨by decide, by decide⟩ dX12_part_44 (fun ct4 hz4 => ?_)
        obtain ⟨gl2, e4, -, hokl, hvl2⟩ := hz4
        rw [hvl] at hvl2
        have hfr : ∀ r, r ≠ 1 → r ≠ 2 → ct4 r = ct r := fun r _ _ => (congrFun e4 r).trans ((va_up_ne _ _ (by assumption)).trans (hfr r (by assumption) (by assumption)))
        have h0 : ct4 0 = mObj ad f := (congrFun e4 _).trans ((va_up_ne _ _ (by omega)).trans h0)
        have hq : ct4 1 = .inl (B.2.1 0, 40, .inl (nF gq1)) := (congrFun e4 _).trans ((va_up_ne _ _ (by omega)).trans hq)
        have hlf : ct4 2 = .inl (B.2.1 0, 40, .inl (nF gl2)) := by rw [e4, va_up_self]
        have hr : ct4 r = .inl (B.2.1 0, N, .inl (nF g)) := (congrFun e4 _).trans ((va_up_ne _ _ (by omega)).trans hr)
        have hs : ct4 s = .inl (B.2.1 0, P, .inl (nF gs)) := (congrFun e4 _).trans ((va_up_ne _ _ (by omega)).trans hs)
        refine g_aload_n fx 0 dX12_part_47 rfl ?_
        refine g_get (r := 0) fx lkX12_7 (by omega) h0 rfl dX12_part_48 ?_
        refine g_iconst (v := nI 0) fx dX12_part_51 (by decide +kernel) ?_
        refine g_iconst (v := nI 0) fx dX12_part_52 (by decide +kernel) ?_
        refine g_callSv (As := [.ref (ad 1), .int (nI 0), .int (nI 0)]) (rest := []) fx slX12_139 (c_X12_twice B ad ct4 n 1 0 40 gq1 (by omega) (by omega) (by decide) hq 0 (by decide) hokq (by rw [hvq]; omega)) rfl rfl (Nat.le_of_ble_eq_true rfl) ⟨by decide, by decide⟩ ⟨by decide, by decide⟩ dX12_part_53 (fun ct5 hz5 => ?_)
        obtain ⟨gq2, e5, -, hokq, hvq2⟩ := hz5
        rw [hvq, Nat.add_zero] at hvq2
        have hfr : ∀ r, r ≠ 1 → r ≠ 2 → ct5 r = ct r := fun r _ _ => (congrFun e5 r).trans ((va_up_ne _ _ (by assumption)).trans (hfr r (by assumption) (by assumption)))
        have h0 : ct5 0 = mObj ad f := (congrFun e5 _).trans ((va_up_ne _ _ (by omega)).trans h0)
        have hq : ct5 1 = .inl (B.2.1 0, 40, .inl (nF gq2)) := by rw [e5, va_up_self]
        have hlf : ct5 2 = .inl (B.2.1 0, 40, .inl (nF gl2)) := (congrFun e5 _).trans ((va_up_ne _ _ (by omega)).trans hlf)
        have hr : ct5 r = .inl (B.2.1 0, N, .inl (nF g)) := (congrFun e5 _).trans ((va_up_ne _ _ (by omega)).trans hr)
        have hs : ct5 s = .inl (B.2.1 0, P, .inl (nF gs)) := (congrFun e5 _).trans ((va_up_ne _ _ (by omega)).trans hs)
        refine g_aload_n fx 0 dX12_part_56 rfl ?_
        refine g_get (r := 0) fx lkX12_13 (by omega) h0 rfl dX12_part_57 ?_
        refine g_iconst (v := nI 0) fx dX12_part_60 (by decide +kernel) ?_
        refine g_aload_n fx 3 dX12_part_61 rfl ?_
        refine g_iload fx 4 dX12_part_62 rfl ?_
        refine g_callSip (As := [.ref (ad 2), .int (nI 0), .ref (ad s), .int (nI b)]) (rest := []) fx slX12_143 (c_X12_compare B ad ct5 n 2 0 40 gl2 (by omega) (by omega) (by decide) hlf s b P gs hns hbP hP hs hokl hoks) rfl rfl (Nat.le_of_ble_eq_true rfl) ⟨by decide, by decide⟩ ⟨by decide, by decide⟩ dX12_part_64 (fun q6 hq6 => ?_)
        rw [hvl2] at hq6
        refine g_if_lt fx 95 dX12_part_67 (by decide) (fun c67 => ?_) (fun c67 => ?_)
        · skip
          have hlt3 := cmp_neg.mp (hq6 ▸ c67)
          have hpd := pdivA hlt3
          rw [← hh] at hpd
          have hvq := hvq2.trans hpd.1.symm
          have hvl := hvl2.trans hpd.2.symm
          refine g_iinc (L' := [(5, .int (nI (k - 1) - nI 1)), (0, .ref (ad 0)), (1, .ref (ad r)), (2, .int (nI a)), (3, .ref (ad s)), (4, .int (nI b))]) fx (nI (k - 1) - nI 1) 5 dX12_part_95 rfl (m1_dec hk0) (by decide) rfl ?_
          refine g_goto fx 27 dX12_part_98 (by decide) ?_
          refine g_locals (L' := [(0, .ref (ad 0)), (1, .ref (ad r)), (2, .int (nI a)), (3, .ref (ad s)), (4, .int (nI b)), (5, .int (nI (k - 1) - nI 1))]) [1, 2, 3, 4, 5, 0] rfl ?_
          exact ih (k - 1) _ _ _ (by omega) hokq hokl hvq hvl h0 hq hlf hr hs hfr (by omega)
        · skip
          have hge3 : nv gs b ≤ nv g a / 2 ^ k % nv gs b * 2 + (nv g a / 2 ^ (k - 1) % 2) := Nat.le_of_not_lt (fun q => c67 (hq6 ▸ cmp_neg.mpr q))
          have hpd := pdivB hD hE1 hge3
          rw [← hh] at hpd
          refine g_aload_n fx 0 dX12_part_70 rfl ?_
          refine g_get (r := 0) fx lkX12_13 (by omega) h0 rfl dX12_part_71 ?_
          refine g_iconst (v := nI 0) fx dX12_part_74 (by decide +kernel) ?_
          refine g_aload_n fx 3 dX12_part_75 rfl ?_
          refine g_iload fx 4 dX12_part_76 rfl ?_
          refine g_callSv (As := [.ref (ad 2), .int (nI 0), .ref (ad s), .int (nI b)]) (rest := []) fx slX12_147 (c_X12_subtract B ad ct5 n 2 0 40 gl2 (by omega) (by omega) (by decide) hlf s b P gs hns hbP hP hs (by omega) hokl hoks (by rw [hvl2]; exact hge3)) rfl rfl (Nat.le_of_ble_eq_true rfl) ⟨by decide, by decide⟩ ⟨by decide, by decide⟩ dX12_part_78 (fun ct7 hz7 => ?_)
          obtain ⟨gl3, e7, -, hokl, hvl3⟩ := hz7
          rw [hvl2] at hvl3
          have hvl := hvl3.trans hpd.2.symm
          have hfr : ∀ r, r ≠ 1 → r ≠ 2 → ct7 r = ct r := fun r _ _ => (congrFun e7 r).trans ((va_up_ne _ _ (by assumption)).trans (hfr r (by assumption) (by assumption)))
          have h0 : ct7 0 = mObj ad f := (congrFun e7 _).trans ((va_up_ne _ _ (by omega)).trans h0)
          have hq : ct7 1 = .inl (B.2.1 0, 40, .inl (nF gq2)) := (congrFun e7 _).trans ((va_up_ne _ _ (by omega)).trans hq)
          have hlf : ct7 2 = .inl (B.2.1 0, 40, .inl (nF gl3)) := by rw [e7, va_up_self]
          have hr : ct7 r = .inl (B.2.1 0, N, .inl (nF g)) := (congrFun e7 _).trans ((va_up_ne _ _ (by omega)).trans hr)
          have hs : ct7 s = .inl (B.2.1 0, P, .inl (nF gs)) := (congrFun e7 _).trans ((va_up_ne _ _ (by omega)).trans hs)
          refine g_aload_n fx 0 dX12_part_81 rfl ?_
          refine g_get (r := 0) fx lkX12_7 (by omega) h0 rfl dX12_part_82 ?_
          refine g_iconst (v := nI 0) fx dX12_part_85 (by decide +kernel) ?_
          refine g_aload_n fx 0 dX12_part_86 rfl ?_
          refine g_get (r := 0) fx lkX12_7 (by omega) h0 rfl dX12_part_87 ?_
          refine g_iconst (v := nI 0) fx dX12_part_90 (by decide +kernel) ?_
          refine g_iald (r := 1) (j := 0) fx (by omega) hq (nI_toInt (by omega)) (by omega) dX12_part_91 ?_
          refine g_isi (y := nI (gq2 0)) rfl ?_
          refine g_iconst (v := nI 1) fx dX12_part_92 (by decide +kernel) ?_
          have hev : gq2 0 % 2 = 0 := by rw [nv_low hokq, hvq2]; omega
          have hq0b := hokq 0 (by decide)
          rw [Nat.zero_add] at hq0b
          refine g_ior fx dX12_part_93 ?_
          refine g_isi (y := nI (gq2 0 + 1)) (i_or1 hev (by omega)) ?_
          refine g_iast (r := 1) (j := 0) fx (by omega) hq (nI_toInt (by omega)) (by omega) dX12_part_94 (fun cu4 ecu4 => ?_)
          have hfr : ∀ r, r ≠ 1 → r ≠ 2 → cu4 r = ct r := fun r _ _ => (congrFun ecu4 r).trans ((va_up_ne _ _ (by assumption)).trans (hfr r (by assumption) (by assumption)))
          have h0 : cu4 0 = mObj ad f := (congrFun ecu4 _).trans ((va_up_ne _ _ (by omega)).trans h0)
          have hq : cu4 1 = .inl (B.2.1 0, 40, .inl (nF (va_up gq2 0 (gq2 0 + 1)))) := by rw [ecu4, va_up_self, nF_up]
          have hlf : cu4 2 = .inl (B.2.1 0, 40, .inl (nF gl3)) := (congrFun ecu4 _).trans ((va_up_ne _ _ (by omega)).trans hlf)
          have hr : cu4 r = .inl (B.2.1 0, N, .inl (nF g)) := (congrFun ecu4 _).trans ((va_up_ne _ _ (by omega)).trans hr)
          have hs : cu4 s = .inl (B.2.1 0, P, .inl (nF gs)) := (congrFun ecu4 _).trans ((va_up_ne _ _ (by omega)).trans hs)
          have hvq : nv (va_up gq2 0 (gq2 0 + 1)) 0 = nv g a / 2 ^ (k - 1) / nv gs b := by rw [hpd.1, ← hvq2]; have := nv_up0 (g := gq2) (x := gq2 0 + 1); omega
          have hokq : okN (va_up gq2 0 (gq2 0 + 1)) 0 := fun j hj => by unfold va_up; split; omega; exact hokq j hj
          refine g_iinc (L' := [(5, .int (nI (k - 1) - nI 1)), (0, .ref (ad 0)), (1, .ref (ad r)), (2, .int (nI a)), (3, .ref (ad s)), (4, .int (nI b))]) fx (nI (k - 1) - nI 1) 5 dX12_part_95 rfl (m1_dec hk0) (by decide) rfl ?_
          refine g_goto fx 27 dX12_part_98 (by decide) ?_
          refine g_locals (L' := [(0, .ref (ad 0)), (1, .ref (ad r)), (2, .int (nI a)), (3, .ref (ad s)), (4, .int (nI b)), (5, .int (nI (k - 1) - nI 1))]) [1, 2, 3, 4, 5, 0] rfl ?_
          exact ih (k - 1) _ _ _ (by omega) hokq hokl hvq hvl h0 hq hlf hr hs hfr (by omega)
  refine g_locals (L' := [(0, .ref (ad 0)), (1, .ref (ad r)), (2, .int (nI a)), (3, .ref (ad s)), (4, .int (nI b)), (5, .int ((nI (nbits (nv g a))) - (nI 1)))]) [1, 2, 3, 4, 5, 0] rfl ?_
  have hz0 : nv g a / 2 ^ nbits (nv g a) = 0 := by
    by_cases q : nv g a = 0
    · rw [q]; simp
    · obtain ⟨m, e, -, h2⟩ := nbits_spec q
      rw [e]; exact Nat.div_eq_of_lt h2
  exact LP27 (nbits (nv g a) + 1) (nbits (nv g a)) ct2 gq0 gl0 (Nat.le_refl _) hokq hokl (by rw [hz0, hvq]; simp) (by rw [hz0, hvl]; simp) h0 hq hlf hr hs hfr (by omega)
set_option maxHeartbeats 4000000 in
set_option maxRecDepth 100000 in
theorem c_X12_findCommon (B : gB) (ad : Nat → Nat) (ct : Nat → va_E) (n : Nat) (f : Nat → Int32) (gq gl : Nat → Nat) (hn : 33 ≤ n) (h0 : ct 0 = mObj ad f) (hq : ct 1 = .inl (B.2.1 0, 40, .inl (nF gq))) (hlf : ct 2 = .inl (B.2.1 0, 40, .inl (nF gl))) (go gt : Nat → Nat) (ho : ct 3 = .inl (B.2.1 0, 40, .inl (nF go))) (ht : ct 4 = .inl (B.2.1 0, 40, .inl (nF gt))) (r a N : Nat) (g : Nat → Nat) (hnr : r < n) (haN : a + 40 ≤ N) (hN : N < 2 ^ 30) (hr : ct r = .inl (B.2.1 0, N, .inl (nF g))) (s b P : Nat) (gs : Nat → Nat) (hns : s < n) (hbP : b + 40 ≤ P) (hP : P < 2 ^ 30) (hs : ct s = .inl (B.2.1 0, P, .inl (nF gs))) (hr0 : 4 < r) (hs0 : 4 < s) (hok : okN g a) (hoks : okN gs b) (hV2 : nv g a * 2 ≤ 16777216 ^ 40) (hD2 : nv gs b * 2 ≤ 16777216 ^ 40) : Ctr B yX12_findCommon cX12_findCommon 5 none 2 51 0 0 ad ct n [.ref (ad 0), .ref (ad r), .int (nI a), .ref (ad s), .int (nI b)] (gPv ad n (fun ct' => ∃ gq' gl' go' gt', ct' 1 = .inl (B.2.1 0, 40, .inl (nF gq')) ∧ ct' 2 = .inl (B.2.1 0, 40, .inl (nF gl')) ∧ ct' 3 = .inl (B.2.1 0, 40, .inl (nF go')) ∧ ct' 4 = .inl (B.2.1 0, 40, .inl (nF gt')) ∧ okN go' 0 ∧ nv go' 0 = Nat.gcd (nv g a) (nv gs b) ∧ ∀ r, r ≠ 1 → r ≠ 2 → r ≠ 3 → r ≠ 4 → ct' r = ct r)) := by
  have hfr : ∀ r, r ≠ 1 → r ≠ 2 → r ≠ 3 → r ≠ 4 → ct r = ct r := fun _ _ _ _ _ => rfl
  refine Ctr.ofG (L := [(0, .ref (ad 0)), (1, .ref (ad r)), (2, .int (nI a)), (3, .ref (ad s)), (4, .int (nI b))]) (by decide +kernel) rfl (Nat.le_of_ble_eq_true rfl) (fun E fx rt hnm => ?_)
  refine g_aload_n fx 1 dX12_findCommon_0 rfl ?_
  refine g_iload_n fx 2 dX12_findCommon_1 rfl ?_
  refine g_aload_n fx 0 dX12_findCommon_2 rfl ?_
  refine g_get (r := 0) fx lkX12_16 (by omega) h0 rfl dX12_findCommon_3 ?_
  refine g_iconst (v := nI 0) fx dX12_findCommon_6 (by decide +kernel) ?_
  refine g_callSv (As := [.ref (ad r), .int (nI a), .ref (ad 3), .int (nI 0)]) (rest := []) fx slX12_151 (c_X12_copy B ad ct n 3 0 40 go (by omega) (by omega) (by decide) ho r a N g hnr haN hN hr (by omega)) rfl rfl (Nat.le_of_ble_eq_true rfl) ⟨by decide, by decide⟩ ⟨by decide, by decide⟩ dX12_findCommon_7 (fun ct1 hz1 => ?_)
  obtain ⟨go1, e1, -, hc1⟩ := hz1
  have hok1 : okN go1 0 := fun j hj => by rw [hc1 j hj]; exact hok j hj
  have hv1 : nv go1 0 = nv g a := bval_congr 40 (fun j hj => hc1 j hj)
  have hfr : ∀ r, r ≠ 1 → r ≠ 2 → r ≠ 3 → r ≠ 4 → ct1 r = ct r := fun r _ _ _ _ => (congrFun e1 r).trans ((va_up_ne _ _ (by assumption)).trans (hfr r (by assumption) (by assumption) (by assumption) (by assumption)))
  have h0 : ct1 0 = mObj ad f := (congrFun e1 _).trans ((va_up_ne _ _ (by omega)).trans h0)
  have hq : ct1 1 = .inl (B.2.1 0, 40, .inl (nF gq)) := (congrFun e1 _).trans ((va_up_ne _ _ (by omega)).trans hq)
  have hlf : ct1 2 = .inl (B.2.1 0, 40, .inl (nF gl)) := (congrFun e1 _).trans ((va_up_ne _ _ (by omega)).trans hlf)
  have hr : ct1 r = .inl (B.2.1 0, N, .inl (nF g)) := (congrFun e1 _).trans ((va_up_ne _ _ (by omega)).trans hr)
  have hs : ct1 s = .inl (B.2.1 0, P, .inl (nF gs)) := (congrFun e1 _).trans ((va_up_ne _ _ (by omega)).trans hs)
  have ho : ct1 3 = .inl (B.2.1 0, 40, .inl (nF go1)) := by rw [e1, va_up_self]
  have ht : ct1 4 = .inl (B.2.1 0, 40, .inl (nF gt)) := (congrFun e1 _).trans ((va_up_ne _ _ (by omega)).trans ht)
  refine g_aload_n fx 3 dX12_findCommon_10 rfl ?_
  refine g_iload fx 4 dX12_findCommon_11 rfl ?_
  refine g_aload_n fx 0 dX12_findCommon_13 rfl ?_
  refine g_get (r := 0) fx lkX12_19 (by omega) h0 rfl dX12_findCommon_14 ?_
  refine g_iconst (v := nI 0) fx dX12_findCommon_17 (by decide +kernel) ?_
  refine g_callSv (As := [.ref (ad s), .int (nI b), .ref (ad 4), .int (nI 0)]) (rest := []) fx slX12_151 (c_X12_copy B ad ct1 n 4 0 40 gt (by omega) (by omega) (by decide) ht s b P gs hns hbP hP hs (by omega)) rfl rfl (Nat.le_of_ble_eq_true rfl) ⟨by decide, by decide⟩ ⟨by decide, by decide⟩ dX12_findCommon_18 (fun ct2 hz2 => ?_)
  obtain ⟨gt1, e2, -, hc2⟩ := hz2
  have hok2 : okN gt1 0 := fun j hj => by rw [hc2 j hj]; exact hoks j hj
  have hv2 : nv gt1 0 = nv gs b := bval_congr 40 (fun j hj => hc2 j hj)
  have hfr : ∀ r, r ≠ 1 → r ≠ 2 → r ≠ 3 → r ≠ 4 → ct2 r = ct r := fun r _ _ _ _ => (congrFun e2 r).trans ((va_up_ne _ _ (by assumption)).trans (hfr r (by assumption) (by assumption) (by assumption) (by assumption)))
  have h0 : ct2 0 = mObj ad f := (congrFun e2 _).trans ((va_up_ne _ _ (by omega)).trans h0)
  have hq : ct2 1 = .inl (B.2.1 0, 40, .inl (nF gq)) := (congrFun e2 _).trans ((va_up_ne _ _ (by omega)).trans hq)
  have hlf : ct2 2 = .inl (B.2.1 0, 40, .inl (nF gl)) := (congrFun e2 _).trans ((va_up_ne _ _ (by omega)).trans hlf)
  have hr : ct2 r = .inl (B.2.1 0, N, .inl (nF g)) := (congrFun e2 _).trans ((va_up_ne _ _ (by omega)).trans hr)
  have hs : ct2 s = .inl (B.2.1 0, P, .inl (nF gs)) := (congrFun e2 _).trans ((va_up_ne _ _ (by omega)).trans hs)
  have ho : ct2 3 = .inl (B.2.1 0, 40, .inl (nF go1)) := (congrFun e2 _).trans ((va_up_ne _ _ (by omega)).trans ho)
  have ht : ct2 4 = .inl (B.2.1 0, 40, .inl (nF gt1)) := by rw [e2, va_up_self]
  have LP21 : ∀ (M : Nat) (ct3 : Nat → va_E) (gq1 gl1 go2 gt2 : Nat → Nat), (okN go2 0) → (okN gt2 0) → (Nat.gcd (nv go2 0) (nv gt2 0) = Nat.gcd (nv g a) (nv gs b)) → (nv gt2 0 * 2 ≤ 16777216 ^ 40) → (ct3 0 = mObj ad f) → (ct3 1 = .inl (B.2.1 0, 40, .inl (nF gq1))) → (ct3 2 = .inl (B.2.1 0, 40, .inl (nF gl1))) → (ct3 3 = .inl (B.2.1 0, 40, .inl (nF go2))) → (ct3 4 = .inl (B.2.1 0, 40, .inl (nF gt2))) → (∀ r, r ≠ 1 → r ≠ 2 → r ≠ 3 → r ≠ 4 → ct3 r = ct r) →  (nv gt2 0) < M → G B 5 E ad ct3 n 0 0 [(0, .ref (ad 0))] 21 [] := by
    intro M
    induction M with
    | zero => intro ct3 gq1 gl1 go2 gt2 _ _ _ _ _ _ _ _ _ _ hM; exact absurd hM (Nat.not_lt_zero _)
    | succ M ih =>
      intro ct3 gq1 gl1 go2 gt2 hok1 hok2 hg hb2 h0 hq hlf ho ht hfr hM
      refine g_aload_n fx 0 dX12_findCommon_21 rfl ?_
      refine g_get (r := 0) fx lkX12_19 (by omega) h0 rfl dX12_findCommon_22 ?_
      refine g_iconst (v := nI 0) fx dX12_findCommon_25 (by decide +kernel) ?_
      refine g_callSip (As := [.ref (ad 4), .int (nI 0)]) (rest := []) fx slX12_131 (c_X12_bitsOf B ad ct3 n 4 0 40 gt2 (by omega) (by omega) (by decide) ht hok2) rfl rfl (Nat.le_of_ble_eq_true rfl) ⟨by decide, by decide⟩ ⟨by decide, by decide⟩ dX12_findCommon_26 (fun q1 hq1 => ?_)
      obtain rfl := hq1
      have hnb : nbits (nv gt2 0) ≤ 960 := nbits_le (by rw [show (2 : Nat) ^ 960 = 16777216 ^ 40 by decide +kernel]; exact nv_lt hok2)
      refine g_if_le fx 75 dX12_findCommon_29 (by decide) (fun c29 => ?_) (fun c29 => ?_)
      · skip
        have hz0 : nv gt2 0 = 0 := by
          have h1 := (nI_leI (a := nbits (nv gt2 0)) (b := 0) (by omega) (by decide)).mp c29
          by_cases q : nv gt2 0 = 0
          · exact q
          · obtain ⟨m, e, -⟩ := nbits_spec q; omega
        rw [hz0, Nat.gcd_zero_right] at hg
        refine g_vret fx rt dX12_findCommon_75 ?_
        exact gPv.mk ⟨gq1, gl1, go2, gt2, hq, hlf, ho, ht, hok1, hg, hfr⟩
      · skip
        have hpos : 0 < nv gt2 0 := Nat.pos_of_ne_zero (fun q => c29 (by rw [q]; decide))
        have hml := Nat.mod_lt (nv go2 0) hpos
        refine g_aload_n fx 0 dX12_findCommon_32 rfl ?_
        refine g_aload_n fx 0 dX12_findCommon_33 rfl ?_
        refine g_get (r := 0) fx lkX12_16 (by omega) h0 rfl dX12_findCommon_34 ?_
        refine g_iconst (v := nI 0) fx dX12_findCommon_37 (by decide +kernel) ?_
        refine g_aload_n fx 0 dX12_findCommon_38 rfl ?_
        refine g_get (r := 0) fx lkX12_19 (by omega) h0 rfl dX12_findCommon_39 ?_
        refine g_iconst (v := nI 0) fx dX12_findCommon_42 (by decide +kernel) ?_
        refine g_callVv (As := [.ref (ad 3), .int (nI 0), .ref (ad 4), .int (nI 0)]) (rest := []) fx slX12_154 (c_X12_part B ad ct3 n f gq1 gl1 hn h0 hq hlf 3 0 40 go2 (by omega) (by omega) (by decide) ho 4 0 40 gt2 (by omega) (by omega) (by decide) ht (by decide) (by decide) hok1 hok2 hpos hb2) (by omega) h0 rfl rfl rfl (Nat.le_of_ble_eq_true rfl) ⟨by decide, by decide⟩ ⟨by decide, by decide⟩ dX12_findCommon_43 (fun ct5 hz5 => ?_)
        obtain ⟨gq3, gl3, hq, hlf, hokq3, hokl3, hvq3, hvl3, hs5⟩ := hz5
        have h0 : ct5 0 = mObj ad f := (hs5 0 (by decide) (by decide)).trans h0
        have ho : ct5 3 = .inl (B.2.1 0, 40, .inl (nF go2)) := (hs5 3 (by decide) (by decide)).trans ho
        have ht : ct5 4 = .inl (B.2.1 0, 40, .inl (nF gt2)) := (hs5 4 (by decide) (by decide)).trans ht
        have hfr : ∀ r, r ≠ 1 → r ≠ 2 → r ≠ 3 → r ≠ 4 → ct5 r = ct r := fun r q1 q2 q3 q4 => (hs5 r q1 q2).trans (hfr r q1 q2 q3 q4)
        refine g_aload_n fx 0 dX12_findCommon_46 rfl ?_
        refine g_get (r := 0) fx lkX12_19 (by omega) h0 rfl dX12_findCommon_47 ?_
        refine g_iconst (v := nI 0) fx dX12_findCommon_50 (by decide +kernel) ?_
        refine g_aload_n fx 0 dX12_findCommon_51 rfl ?_
        refine g_get (r := 0) fx lkX12_16 (by omega) h0 rfl dX12_findCommon_52 ?_
        refine g_iconst (v := nI 0) fx dX12_findCommon_55 (by decide +kernel) ?_
        refine g_callSv (As := [.ref (ad 4), .int (nI 0), .ref (ad 3), .int (nI 0)]) (rest := []) fx slX12_151 (c_X12_copy B ad ct5 n 3 0 40 go2 (by omega) (by omega) (by decide) ho 4 0 40 gt2 (by omega) (by omega) (by decide) ht (by decide)) rfl rfl (Nat.le_of_ble_eq_true rfl) ⟨by decide, by decide⟩ ⟨by decide, by decide⟩ dX12_findCommon_56 (fun ct6 hz6 => ?_)
        obtain ⟨go4, e6, -, hc6⟩ := hz6
        have hok4 : okN go4 0 := fun j hj => by rw [hc6 j hj]; exact hok2 j hj
        have hv4 : nv go4 0 = nv gt2 0 := bval_congr 40 (fun j hj => hc6 j hj)
        have hfr : ∀ r, r ≠ 1 → r ≠ 2 → r ≠ 3 → r ≠ 4 → ct6 r = ct r := fun r _ _ _ _ => (congrFun e6 r).trans ((va_up_ne _ _ (by assumption)).trans (hfr r (by assumption) (by assumption) (by assumption) (by assumption)))
        have h0 : ct6 0 = mObj ad f := (congrFun e6 _).trans ((va_up_ne _ _ (by omega)).trans h0)
        have hq : ct6 1 = .inl (B.2.1 0, 40, .inl (nF gq3)) := (congrFun e6 _).trans ((va_up_ne _ _ (by omega)).trans hq)
        have hlf : ct6 2 = .inl (B.2.1 0, 40, .inl (nF gl3)) := (congrFun e6 _).trans ((va_up_ne _ _ (by omega)).trans hlf)
        have ho : ct6 3 = .inl (B.2.1 0, 40, .inl (nF go4)) := by rw [e6, va_up_self]
        have ht : ct6 4 = .inl (B.2.1 0, 40, .inl (nF gt2)) := (congrFun e6 _).trans ((va_up_ne _ _ (by omega)).trans ht)
        refine g_aload_n fx 0 dX12_findCommon_59 rfl ?_
        refine g_get (r := 0) fx lkX12_13 (by omega) h0 rfl dX12_findCommon_60 ?_
        refine g_iconst (v := nI 0) fx dX12_findCommon_63 (by decide +kernel) ?_
        refine g_aload_n fx 0 dX12_findCommon_64 rfl ?_
        refine g_get (r := 0) fx lkX12_19 (by omega) h0 rfl dX12_findCommon_65 ?_
        refine g_iconst (v := nI 0) fx dX12_findCommon_68 (by decide +kernel) ?_
        refine g_callSv (As := [.ref (ad 2), .int (nI 0), .ref (ad 4), .int (nI 0)]) (rest := []) fx slX12_151 (c_X12_copy B ad ct6 n 4 0 40 gt2 (by omega) (by omega) (by decide) ht 2 0 40 gl3 (by omega) (by omega) (by decide) hlf (by decide)) rfl rfl (Nat.le_of_ble_eq_true rfl) ⟨by decide, by decide⟩ ⟨by decide, by decide⟩ dX12_findCommon_69 (fun ct7 hz7 => ?_)
        obtain ⟨gt4, e7, -, hc7⟩ := hz7
        have hok5 : okN gt4 0 := fun j hj => by rw [hc7 j hj]; exact hokl3 j hj
        have hv5 : nv gt4 0 = nv gl3 0 := bval_congr 40 (fun j hj => hc7 j hj)
        have hfr : ∀ r, r ≠ 1 → r ≠ 2 → r ≠ 3 → r ≠ 4 → ct7 r = ct r := fun r _ _ _ _ => (congrFun e7 r).trans ((va_up_ne _ _ (by assumption)).trans (hfr r (by assumption) (by assumption) (by assumption) (by assumption)))
        have h0 : ct7 0 = mObj ad f := (congrFun e7 _).trans ((va_up_ne _ _ (by omega)).trans h0)
        have hq : ct7 1 = .inl (B.2.1 0, 40, .inl (nF gq3)) := (congrFun e7 _).trans ((va_up_ne _ _ (by omega)).trans hq)
        have hlf : ct7 2 = .inl (B.2.1 0, 40, .inl (nF gl3)) := (congrFun e7 _).trans ((va_up_ne _ _ (by omega)).trans hlf)
        have ho : ct7 3 = .inl (B.2.1 0, 40, .inl (nF go4)) := (congrFun e7 _).trans ((va_up_ne _ _ (by omega)).trans ho)
        have ht : ct7 4 = .inl (B.2.1 0, 40, .inl (nF gt4)) := by rw [e7, va_up_self]
        refine g_goto fx 21 dX12_findCommon_72 (by decide) ?_
        refine g_locals (L' := [(0, .ref (ad 0))]) [0] rfl ?_
        exact ih _ gq3 gl3 go4 gt4 hok4 hok5 (by rw [hv4, hv5, hvl3, ← hg]; exact gcd_step _ _) (by rw [hv5, hvl3]; omega) h0 hq hlf ho ht hfr (by rw [hv5, hvl3]; omega)
  refine g_locals (L' := [(0, .ref (ad 0))]) [0] rfl ?_
  exact LP21 (nv gt1 0 + 1) ct2 gq gl go1 gt1 hok1 hok2 (by rw [hv1, hv2]) (by rw [hv2]; exact hD2) h0 hq hlf ho ht hfr (by omega)
