theorem if01_z {P : Prop} [Decidable P] : ((if P then 1 else 0 : Int32) = 0) ↔ ¬ P := by
  by_cases h : P
  · rw [if_pos h]; exact ⟨fun z => absurd z (by decide), fun z => absurd h z⟩
  · rw [if_neg h]; exact ⟨fun _ => h, fun _ => rfl⟩
theorem if01_n {P : Prop} [Decidable P] : (¬ (if P then 1 else 0 : Int32) = 0) ↔ P := by rw [if01_z]; exact Decidable.not_not
theorem bval40 {g : Nat → Nat} : nv g 0 = bval 16777216 g 40 := bval_congr 40 (fun i _ => by show g (0 + i) = g i; rw [Nat.zero_add])
theorem facP_step {c : Nat → Nat} {k : Nat} : facP c (k + 1) = facP c k * fac (c k) := rfl
set_option maxHeartbeats 4000000 in
set_option maxRecDepth 100000 in
theorem c_X12_isLess (B : gB) (ad : Nat → Nat) (ct : Nat → va_E) (n : Nat) (f : Nat → Int32) (gu gw g1 g2 : Nat → Nat) (hn : 33 ≤ n) (h0 : ct 0 = mObj ad f) (hu : ct 26 = .inl (B.2.1 0, 480, .inl (nF gu))) (hw : ct 27 = .inl (B.2.1 0, 480, .inl (nF gw))) (hx : ct 29 = .inl (B.2.1 0, 80, .inl (nF g1))) (hy : ct 30 = .inl (B.2.1 0, 80, .inl (nF g2))) (i j : Nat) (hi : i < 12) (hj : j < 12) (ho1 : okN gu (40 * i)) (ho2 : okN gw (40 * i)) (ho3 : okN gu (40 * j)) (ho4 : okN gw (40 * j)) : Ctr B yX12_isLess cX12_isLess 4 (some .boolean) 1 30 0 0 ad ct n [.ref (ad 0), .int (nI i), .int (nI j)] (gPi ad n (fun q ct' => q = (if nv gu (40 * i) * nv gw (40 * j) < nv gu (40 * j) * nv gw (40 * i) then 1 else 0) ∧ ∃ g1' g2', ct' 29 = .inl (B.2.1 0, 80, .inl (nF g1')) ∧ ct' 30 = .inl (B.2.1 0, 80, .inl (nF g2')) ∧ ∀ r, r ≠ 29 → r ≠ 30 → ct' r = ct r)) := by
  have hfr : ∀ r, r ≠ 29 → r ≠ 30 → ct r = ct r := fun _ _ _ => rfl
  refine Ctr.ofG (L := [(0, .ref (ad 0)), (1, .int (nI i)), (2, .int (nI j))]) (by decide +kernel) rfl (Nat.le_of_ble_eq_true rfl) (fun E fx rt hnm => ?_)
  refine g_aload_n fx 0 dX12_isLess_0 rfl ?_
  refine g_get (r := 0) fx lkX12_94 (by omega) h0 rfl dX12_isLess_1 ?_
  refine g_bipush (v := nI 40) fx dX12_isLess_4 (by decide +kernel) ?_
  refine g_iload_n fx 1 dX12_isLess_6 rfl ?_
  refine g_imulN fx dX12_isLess_7 ?_
  refine g_aload_n fx 0 dX12_isLess_8 rfl ?_
  refine g_get (r := 0) fx lkX12_97 (by omega) h0 rfl dX12_isLess_9 ?_
  refine g_bipush (v := nI 40) fx dX12_isLess_12 (by decide +kernel) ?_
  refine g_iload_n fx 2 dX12_isLess_14 rfl ?_
  refine g_imulN fx dX12_isLess_15 ?_
  refine g_aload_n fx 0 dX12_isLess_16 rfl ?_
  refine g_get (r := 0) fx lkX12_103 (by omega) h0 rfl dX12_isLess_17 ?_
  refine g_callSv (As := [.ref (ad 26), .int (nI (40 * i)), .ref (ad 27), .int (nI (40 * j)), .ref (ad 29)]) (rest := []) fx slX12_308 (c_X12_product B ad ct n 26 (40 * i) 480 gu (by omega) (by omega) (by decide) hu 27 (40 * j) 480 gw (by omega) (by omega) (by decide) hw 29 g1 (by omega) hx (by decide) (by decide) ho1 ho4) rfl rfl (Nat.le_of_ble_eq_true rfl) ⟨by decide, by decide⟩ ⟨by decide, by decide⟩ dX12_isLess_20 (fun ct1 hz1 => ?_)
  obtain ⟨p1, e1, hb1, hv1⟩ := hz1
  have hfr : ∀ r, r ≠ 29 → r ≠ 30 → ct1 r = ct r := fun r _ _ => (congrFun e1 r).trans ((va_up_ne _ _ (by assumption)).trans (hfr r (by assumption) (by assumption)))
  have h0 : ct1 0 = mObj ad f := (congrFun e1 _).trans ((va_up_ne _ _ (by omega)).trans h0)
  have hu : ct1 26 = .inl (B.2.1 0, 480, .inl (nF gu)) := (congrFun e1 _).trans ((va_up_ne _ _ (by omega)).trans hu)
  have hw : ct1 27 = .inl (B.2.1 0, 480, .inl (nF gw)) := (congrFun e1 _).trans ((va_up_ne _ _ (by omega)).trans hw)
  have hx : ct1 29 = .inl (B.2.1 0, 80, .inl (nF p1)) := by rw [e1, va_up_self]
  have hy : ct1 30 = .inl (B.2.1 0, 80, .inl (nF g2)) := (congrFun e1 _).trans ((va_up_ne _ _ (by omega)).trans hy)
  refine g_aload_n fx 0 dX12_isLess_23 rfl ?_
  refine g_get (r := 0) fx lkX12_94 (by omega) h0 rfl dX12_isLess_24 ?_
  refine g_bipush (v := nI 40) fx dX12_isLess_27 (by decide +kernel) ?_
  refine g_iload_n fx 2 dX12_isLess_29 rfl ?_
  refine g_imulN fx dX12_isLess_30 ?_
  refine g_aload_n fx 0 dX12_isLess_31 rfl ?_
  refine g_get (r := 0) fx lkX12_97 (by omega) h0 rfl dX12_isLess_32 ?_
  refine g_bipush (v := nI 40) fx dX12_isLess_35 (by decide +kernel) ?_
  refine g_iload_n fx 1 dX12_isLess_37 rfl ?_
  refine g_imulN fx dX12_isLess_38 ?_
  refine g_aload_n fx 0 dX12_isLess_39 rfl ?_
  refine g_get (r := 0) fx lkX12_106 (by omega) h0 rfl dX12_isLess_40 ?_
  refine g_callSv (As := [.ref (ad 26), .int (nI (40 * j)), .ref (ad 27), .int (nI (40 * i)), .ref (ad 30)]) (rest := []) fx slX12_308 (c_X12_product B ad ct1 n 26 (40 * j) 480 gu (by omega) (by omega) (by decide) hu 27 (40 * i) 480 gw (by omega) (by omega) (by decide) hw 30 g2 (by omega) hy (by decide) (by decide) ho3 ho2) rfl rfl (Nat.le_of_ble_eq_true rfl) ⟨by decide, by decide⟩ ⟨by decide, by decide⟩ dX12_isLess_43 (fun ct2 hz2 => ?_)
  obtain ⟨p2, e2, hb2, hv2⟩ := hz2
  have hfr : ∀ r, r ≠ 29 → r ≠ 30 → ct2 r = ct r := fun r _ _ => (congrFun e2 r).trans ((va_up_ne _ _ (by assumption)).trans (hfr r (by assumption) (by assumption)))
  have h0 : ct2 0 = mObj ad f := (congrFun e2 _).trans ((va_up_ne _ _ (by omega)).trans h0)
  have hu : ct2 26 = .inl (B.2.1 0, 480, .inl (nF gu)) := (congrFun e2 _).trans ((va_up_ne _ _ (by omega)).trans hu)
  have hw : ct2 27 = .inl (B.2.1 0, 480, .inl (nF gw)) := (congrFun e2 _).trans ((va_up_ne _ _ (by omega)).trans hw)
  have hx : ct2 29 = .inl (B.2.1 0, 80, .inl (nF p1)) := (congrFun e2 _).trans ((va_up_ne _ _ (by omega)).trans hx)
  have hy : ct2 30 = .inl (B.2.1 0, 80, .inl (nF p2)) := by rw [e2, va_up_self]
  refine g_bipush (v := nI 79) fx dX12_isLess_46 (by decide +kernel) ?_
  refine g_isi (y := nI 80 - nI 1) (by decide) ?_
  refine g_istore_n (L' := [(3, .int (nI 80 - nI 1)), (0, .ref (ad 0)), (1, .int (nI i)), (2, .int (nI j))]) fx dX12_isLess_48 (by decide) rfl ?_
  have LP49 : ∀ (M : Nat) (k : Nat), (k ≤ 80) → (∀ z, k ≤ z → z < 80 → p1 z = p2 z) →  k < M → G B 4 E ad ct2 n 0 0 [(0, .ref (ad 0)), (3, .int (nI k - nI 1))] 49 [] := by
    intro M
    induction M with
    | zero => intro k _ _ hM; exact absurd hM (Nat.not_lt_zero _)
    | succ M ih =>
      intro k hk hjj hM
      have ih49 := ih
      refine g_iload_n fx 1 dX12_isLess_49 rfl ?_
      refine g_if_lt fx 95 dX12_isLess_50 (by decide) (fun c50 => ?_) (fun c50 => ?_)
      · skip
        have hk0 := (m1_neg (by omega)).mp c50
        refine g_iconst (v := nI 0) fx dX12_isLess_95 (by decide +kernel) ?_
        refine g_zret fx rt dX12_isLess_96 rfl ?_
        refine gPi.mk ⟨?_, p1, p2, hx, hy, hfr⟩
        rw [if_neg (by rw [← hv1, ← hv2, bval_congr 80 (fun z hz => hjj z (by omega) hz)]; omega)]
        rfl
      · skip
        have hk0 : 0 < k := Nat.pos_of_ne_zero (fun q => c50 ((m1_neg (by omega)).mpr q))
        have hq1 := hb1 (k - 1) (by omega)
        have hq2 := hb2 (k - 1) (by omega)
        refine g_aload_n fx 0 dX12_isLess_53 rfl ?_
        refine g_get (r := 0) fx lkX12_103 (by omega) h0 rfl dX12_isLess_54 ?_
        refine g_iload_n fx 1 dX12_isLess_57 rfl ?_
        refine g_iald (r := 29) (j := k - 1) fx (by omega) hx (m1_ix hk0 (by omega)) (by omega) dX12_isLess_58 ?_
        refine g_isi (y := nI (p1 (k - 1))) rfl ?_
        refine g_aload_n fx 0 dX12_isLess_59 rfl ?_
        refine g_get (r := 0) fx lkX12_106 (by omega) h0 rfl dX12_isLess_60 ?_
        refine g_iload_n fx 1 dX12_isLess_63 rfl ?_
        refine g_iald (r := 30) (j := k - 1) fx (by omega) hy (m1_ix hk0 (by omega)) (by omega) dX12_isLess_64 ?_
        refine g_isi (y := nI (p2 (k - 1))) rfl ?_
        refine g_icmp_eq fx 89 dX12_isLess_65 (by decide) (fun c65 => ?_) (fun c65 => ?_)
        · skip
          have hgk : p1 (k - 1) = p2 (k - 1) := (nI_eq (by omega) (by omega)).mp c65
          refine g_iinc (L' := [(3, .int (nI (k - 1) - nI 1)), (0, .ref (ad 0))]) fx (nI (k - 1) - nI 1) 1 dX12_isLess_89 rfl (m1_dec hk0) (by decide) rfl ?_
          refine g_goto fx 49 dX12_isLess_92 (by decide) ?_
          refine g_locals (L' := [(0, .ref (ad 0)), (3, .int (nI (k - 1) - nI 1))]) [1, 0] rfl ?_
          exact ih (k - 1) (by omega) (fun z h1 h2 => by by_cases q : z = k - 1; (rw [q]; exact hgk); (exact hjj z (by omega) h2)) (by omega)
        · skip
          have hgk : p1 (k - 1) ≠ p2 (k - 1) := fun q => c65 ((nI_eq (by omega) (by omega)).mpr q)
          refine g_aload_n fx 0 dX12_isLess_68 rfl ?_
          refine g_get (r := 0) fx lkX12_103 (by omega) h0 rfl dX12_isLess_69 ?_
          refine g_iload_n fx 1 dX12_isLess_72 rfl ?_
          refine g_iald (r := 29) (j := k - 1) fx (by omega) hx (m1_ix hk0 (by omega)) (by omega) dX12_isLess_73 ?_
          refine g_isi (y := nI (p1 (k - 1))) rfl ?_
          refine g_aload_n fx 0 dX12_isLess_74 rfl ?_
          refine g_get (r := 0) fx lkX12_106 (by omega) h0 rfl dX12_isLess_75 ?_
          refine g_iload_n fx 1 dX12_isLess_78 rfl ?_
          refine g_iald (r := 30) (j := k - 1) fx (by omega) hy (m1_ix hk0 (by omega)) (by omega) dX12_isLess_79 ?_
          refine g_isi (y := nI (p2 (k - 1))) rfl ?_
          refine g_icmp_ge fx 87 dX12_isLess_80 (by decide) (fun c80 => ?_) (fun c80 => ?_)
          · skip
            have hc : bval 16777216 p2 80 < bval 16777216 p1 80 := bval_less (k := k - 1) (by omega) hb2 (fun z h1 h2 => (hjj z (by omega) h2).symm) (by have := (nI_leI (by omega) (by omega)).mp c80; omega)
            have hA : ¬ nv gu (40 * i) * nv gw (40 * j) < nv gu (40 * j) * nv gw (40 * i) := by rw [← hv1, ← hv2]; omega
            refine g_iconst (v := nI 0) fx dX12_isLess_87 (by decide +kernel) ?_
            refine g_zret fx rt dX12_isLess_88 rfl ?_
            refine gPi.mk ⟨?_, p1, p2, hx, hy, hfr⟩
            first | (rw [if_pos hA]; rfl) | (rw [if_neg hA]; rfl)
          · skip
            have hc : bval 16777216 p1 80 < bval 16777216 p2 80 := bval_less (k := k - 1) (by omega) hb1 (fun z h1 h2 => hjj z (by omega) h2) (by have : ¬ p2 (k - 1) ≤ p1 (k - 1) := fun q => c80 ((nI_leI (by omega) (by omega)).mpr q); omega)
            have hA : nv gu (40 * i) * nv gw (40 * j) < nv gu (40 * j) * nv gw (40 * i) := by rw [← hv1, ← hv2]; exact hc
            refine g_iconst (v := nI 1) fx dX12_isLess_83 (by decide +kernel) ?_
            refine g_goto fx 88 dX12_isLess_84 (by decide) ?_
            refine g_zret fx rt dX12_isLess_88 rfl ?_
            refine gPi.mk ⟨?_, p1, p2, hx, hy, hfr⟩
            first | (rw [if_pos hA]; rfl) | (rw [if_neg hA]; rfl)
  refine g_locals (L' := [(0, .ref (ad 0)), (3, .int (nI 80 - nI 1))]) [1, 0] rfl ?_
  exact LP49 81 80 (by omega) (fun z h1 h2 => absurd h2 (by omega)) (by omega)
set_option maxHeartbeats 4000000 in
set_option maxRecDepth 100000 in
theorem c_X12_shorten (B : gB) (ad : Nat → Nat) (ct : Nat → va_E) (n : Nat) (f : Nat → Int32) (gq gl : Nat → Nat) (hn : 33 ≤ n) (h0 : ct 0 = mObj ad f) (hq : ct 1 = .inl (B.2.1 0, 40, .inl (nF gq))) (hlf : ct 2 = .inl (B.2.1 0, 40, .inl (nF gl))) (go gt : Nat → Nat) (ho : ct 3 = .inl (B.2.1 0, 40, .inl (nF go))) (ht : ct 4 = .inl (B.2.1 0, 40, .inl (nF gt))) (gu gw gW : Nat → Nat) (hu : ct 9 = .inl (B.2.1 0, 160, .inl (nF gu))) (hw : ct 10 = .inl (B.2.1 0, 160, .inl (nF gw))) (hW : ct 21 = .inl (B.2.1 0, 40, .inl (nF gW))) (hokW : okN gW 0) (hWp : 0 < nv gW 0) (hW2 : nv gW 0 * 2 ≤ 16777216 ^ 40) (hoku : ∀ i, i < 4 → okN gu (40 * i)) (hu2 : ∀ i, i < 4 → nv gu (40 * i) * 2 ≤ 16777216 ^ 40) : Ctr B yX12_shorten cX12_shorten 3 none 3 75 0 0 ad ct n [.ref (ad 0), .ref (ad 21)] (gPv ad n (fun ct' => ∃ gq' gl' go' gt' gu' gw', ct' 1 = .inl (B.2.1 0, 40, .inl (nF gq')) ∧ ct' 2 = .inl (B.2.1 0, 40, .inl (nF gl')) ∧ ct' 3 = .inl (B.2.1 0, 40, .inl (nF go')) ∧ ct' 4 = .inl (B.2.1 0, 40, .inl (nF gt')) ∧ ct' 9 = .inl (B.2.1 0, 160, .inl (nF gu')) ∧ ct' 10 = .inl (B.2.1 0, 160, .inl (nF gw')) ∧ (∀ i, i < 4 → okN gu' (40 * i) ∧ okN gw' (40 * i) ∧ nv gu' (40 * i) = nv gu (40 * i) / Nat.gcd (nv gu (40 * i)) (nv gW 0) ∧ nv gw' (40 * i) = nv gW 0 / Nat.gcd (nv gu (40 * i)) (nv gW 0)) ∧ ∀ r, r ≠ 1 → r ≠ 2 → r ≠ 3 → r ≠ 4 → r ≠ 9 → r ≠ 10 → ct' r = ct r)) := by
  have hfr : ∀ r, r ≠ 1 → r ≠ 2 → r ≠ 3 → r ≠ 4 → r ≠ 9 → r ≠ 10 → ct r = ct r := fun _ _ _ _ _ _ _ => rfl
  refine Ctr.ofG (L := [(0, .ref (ad 0)), (1, .ref (ad 21))]) (by decide +kernel) rfl (Nat.le_of_ble_eq_true rfl) (fun E fx rt hnm => ?_)
  refine g_iconst (v := nI 0) fx dX12_shorten_0 (by decide +kernel) ?_
  refine g_istore_n (L' := [(2, .int (nI 0)), (0, .ref (ad 0)), (1, .ref (ad 21))]) fx dX12_shorten_1 (by decide) rfl ?_
  have LP2 : ∀ (M : Nat) (t : Nat) (ct1 : Nat → va_E) (gq1 gl1 go1 gt1 gu1 gw1 : Nat → Nat), (t ≤ 4) → (∀ i, i < t → okN gu1 (40 * i) ∧ okN gw1 (40 * i) ∧ nv gu1 (40 * i) = nv gu (40 * i) / Nat.gcd (nv gu (40 * i)) (nv gW 0) ∧ nv gw1 (40 * i) = nv gW 0 / Nat.gcd (nv gu (40 * i)) (nv gW 0)) → (∀ i, t ≤ i → i < 4 → okN gu1 (40 * i) ∧ nv gu1 (40 * i) = nv gu (40 * i)) → (ct1 0 = mObj ad f) → (ct1 1 = .inl (B.2.1 0, 40, .inl (nF gq1))) → (ct1 2 = .inl (B.2.1 0, 40, .inl (nF gl1))) → (ct1 3 = .inl (B.2.1 0, 40, .inl (nF go1))) → (ct1 4 = .inl (B.2.1 0, 40, .inl (nF gt1))) → (ct1 9 = .inl (B.2.1 0, 160, .inl (nF gu1))) → (ct1 10 = .inl (B.2.1 0, 160, .inl (nF gw1))) → (ct1 21 = .inl (B.2.1 0, 40, .inl (nF gW))) → (∀ r, r ≠ 1 → r ≠ 2 → r ≠ 3 → r ≠ 4 → r ≠ 9 → r ≠ 10 → ct1 r = ct r) →  (4 - t) < M → G B 3 E ad ct1 n 0 0 [(0, .ref (ad 0)), (1, .ref (ad 21)), (2, .int (nI t))] 2 [] := by
    intro M
    induction M with
    | zero => intro t ct1 gq1 gl1 go1 gt1 gu1 gw1 _ _ _ _ _ _ _ _ _ _ _ _ hM; exact absurd hM (Nat.not_lt_zero _)
    | succ M ih =>
      intro t ct1 gq1 gl1 go1 gt1 gu1 gw1 ht4 hdone hrest h0 hq hlf ho ht hu hw hW hfr hM
      have ih2 := ih
      refine g_iload_n fx 2 dX12_shorten_2 rfl ?_
      refine g_iconst (v := nI 4) fx dX12_shorten_3 (by decide +kernel) ?_
      refine g_icmp_ge fx 100 dX12_shorten_4 (by decide) (fun c4 => ?_) (fun c4 => ?_)
      · skip
        have ht44 : t = 4 := by have := (nI_leI (by omega) (by omega)).mp c4; omega
        rw [ht44] at hdone
        refine g_vret fx rt dX12_shorten_100 ?_
        exact gPv.mk ⟨gq1, gl1, go1, gt1, gu1, gw1, hq, hlf, ho, ht, hu, hw, hdone, hfr⟩
      · skip
        have hlt2 : t < 4 := by have := (nI_ltI (by omega) (by omega)).mp (Int32.not_le.mp c4); omega
        have hU := hrest t (by omega) hlt2
        have hgp : 0 < (Nat.gcd (nv gu1 (40 * t)) (nv gW 0)) := Nat.gcd_pos_of_pos_right _ hWp
        have hgW : (Nat.gcd (nv gu1 (40 * t)) (nv gW 0)) ≤ nv gW 0 := Nat.gcd_le_right _ hWp
        refine g_aload_n fx 0 dX12_shorten_7 rfl ?_
        refine g_aload_n fx 0 dX12_shorten_8 rfl ?_
        refine g_get (r := 0) fx lkX12_38 (by omega) h0 rfl dX12_shorten_9 ?_
        refine g_bipush (v := nI 40) fx dX12_shorten_12 (by decide +kernel) ?_
        refine g_iload_n fx 2 dX12_shorten_14 rfl ?_
        refine g_imulN fx dX12_shorten_15 ?_
        refine g_aload_n fx 1 dX12_shorten_16 rfl ?_
        refine g_iconst (v := nI 0) fx dX12_shorten_17 (by decide +kernel) ?_
        refine g_callVv (As := [.ref (ad 9), .int (nI (40 * t)), .ref (ad 21), .int (nI 0)]) (rest := []) fx slX12_190 (c_X12_findCommon B ad ct1 n f gq1 gl1 hn h0 hq hlf go1 gt1 ho ht 9 (40 * t) 160 gu1 (by omega) (by omega) (by decide) hu 21 0 40 gW (by omega) (by omega) (by decide) hW (by decide) (by decide) hU.1 hokW (by rw [hU.2]; exact hu2 t hlt2) hW2) (by omega) h0 rfl rfl rfl (Nat.le_of_ble_eq_true rfl) ⟨by decide, by decide⟩ ⟨by decide, by decide⟩ dX12_shorten_18 (fun ct2 hz2 => ?_)
        obtain ⟨gq2, gl2, go2, gt2, hq, hlf, ho, ht, hok2, hv2, hs2⟩ := hz2
        have h0 : ct2 0 = mObj ad f := (hs2 0 (by decide) (by decide) (by decide) (by decide)).trans h0
        have hu : ct2 9 = .inl (B.2.1 0, 160, .inl (nF gu1)) := (hs2 9 (by decide) (by decide) (by decide) (by decide)).trans hu
        have hw : ct2 10 = .inl (B.2.1 0, 160, .inl (nF gw1)) := (hs2 10 (by decide) (by decide) (by decide) (by decide)).trans hw
        have hW : ct2 21 = .inl (B.2.1 0, 40, .inl (nF gW)) := (hs2 21 (by decide) (by decide) (by decide) (by decide)).trans hW
        have hfr : ∀ r, r ≠ 1 → r ≠ 2 → r ≠ 3 → r ≠ 4 → r ≠ 9 → r ≠ 10 → ct2 r = ct r := fun r q1 q2 q3 q4 q9 q10 => (hs2 r q1 q2 q3 q4).trans (hfr r q1 q2 q3 q4 q9 q10)
        refine g_aload_n fx 0 dX12_shorten_21 rfl ?_
        refine g_get (r := 0) fx lkX12_16 (by omega) h0 rfl dX12_shorten_22 ?_
        refine g_iconst (v := nI 0) fx dX12_shorten_25 (by decide +kernel) ?_
        refine g_aload_n fx 0 dX12_shorten_26 rfl ?_
        refine g_get (r := 0) fx lkX12_19 (by omega) h0 rfl dX12_shorten_27 ?_
        refine g_iconst (v := nI 0) fx dX12_shorten_30 (by decide +kernel) ?_
        refine g_callSv (As := [.ref (ad 3), .int (nI 0), .ref (ad 4), .int (nI 0)]) (rest := []) fx slX12_151 (c_X12_copy B ad ct2 n 4 0 40 gt2 (by omega) (by omega) (by decide) ht 3 0 40 go2 (by omega) (by omega) (by decide) ho (by decide)) rfl rfl (Nat.le_of_ble_eq_true rfl) ⟨by decide, by decide⟩ ⟨by decide, by decide⟩ dX12_shorten_31 (fun ct3 hz3 => ?_)
        obtain ⟨gt3, e3, -, hc3⟩ := hz3
        have hok3 : okN gt3 0 := fun j hj => by rw [hc3 j hj]; exact hok2 j hj
        have hv3 : nv gt3 0 = (Nat.gcd (nv gu1 (40 * t)) (nv gW 0)) := (bval_congr 40 (fun j hj => hc3 j hj) : nv gt3 0 = nv go2 0).trans hv2
        have hfr : ∀ r, r ≠ 1 → r ≠ 2 → r ≠ 3 → r ≠ 4 → r ≠ 9 → r ≠ 10 → ct3 r = ct r := fun r _ _ _ _ _ _ => (congrFun e3 r).trans ((va_up_ne _ _ (by assumption)).trans (hfr r (by assumption) (by assumption) (by assumption) (by assumption) (by assumption) (by assumption)))
        have h0 : ct3 0 = mObj ad f := (congrFun e3 _).trans ((va_up_ne _ _ (by omega)).trans h0)
        have hq : ct3 1 = .inl (B.2.1 0, 40, .inl (nF gq2)) := (congrFun e3 _).trans ((va_up_ne _ _ (by omega)).trans hq)
        have hlf : ct3 2 = .inl (B.2.1 0, 40, .inl (nF gl2)) := (congrFun e3 _).trans ((va_up_ne _ _ (by omega)).trans hlf)
        have ho : ct3 3 = .inl (B.2.1 0, 40, .inl (nF go2)) := (congrFun e3 _).trans ((va_up_ne _ _ (by omega)).trans ho)
        have ht : ct3 4 = .inl (B.2.1 0, 40, .inl (nF gt3)) := by rw [e3, va_up_self]
        have hu : ct3 9 = .inl (B.2.1 0, 160, .inl (nF gu1)) := (congrFun e3 _).trans ((va_up_ne _ _ (by omega)).trans hu)
        have hw : ct3 10 = .inl (B.2.1 0, 160, .inl (nF gw1)) := (congrFun e3 _).trans ((va_up_ne _ _ (by omega)).trans hw)
        have hW : ct3 21 = .inl (B.2.1 0, 40, .inl (nF gW)) := (congrFun e3 _).trans ((va_up_ne _ _ (by omega)).trans hW)
        refine g_aload_n fx 0 dX12_shorten_34 rfl ?_
        refine g_aload_n fx 0 dX12_shorten_35 rfl ?_
        refine g_get (r := 0) fx lkX12_38 (by omega) h0 rfl dX12_shorten_36 ?_
        refine g_bipush (v := nI 40) fx dX12_shorten_39 (by decide +kernel) ?_
        refine g_iload_n fx 2 dX12_shorten_41 rfl ?_
        refine g_imulN fx dX12_shorten_42 ?_
        refine g_aload_n fx 0 dX12_shorten_43 rfl ?_
        refine g_get (r := 0) fx lkX12_19 (by omega) h0 rfl dX12_shorten_44 ?_
        refine g_iconst (v := nI 0) fx dX12_shorten_47 (by decide +kernel) ?_
        refine g_callVv (As := [.ref (ad 9), .int (nI (40 * t)), .ref (ad 4), .int (nI 0)]) (rest := []) fx slX12_154 (c_X12_part B ad ct3 n f gq2 gl2 hn h0 hq hlf 9 (40 * t) 160 gu1 (by omega) (by omega) (by decide) hu 4 0 40 gt3 (by omega) (by omega) (by decide) ht (by decide) (by decide) hU.1 hok3 (by rw [hv3]; exact hgp) (by rw [hv3]; omega)) (by omega) h0 rfl rfl rfl (Nat.le_of_ble_eq_true rfl) ⟨by decide, by decide⟩ ⟨by decide, by decide⟩ dX12_shorten_48 (fun ct4 hz4 => ?_)
        obtain ⟨gq4, gl4, hq, hlf, hokq4, hokl4, hvq4, -, hs4⟩ := hz4
        rw [hv3] at hvq4
        have h0 : ct4 0 = mObj ad f := (hs4 0 (by decide) (by decide)).trans h0
        have ho : ct4 3 = .inl (B.2.1 0, 40, .inl (nF go2)) := (hs4 3 (by decide) (by decide)).trans ho
        have ht : ct4 4 = .inl (B.2.1 0, 40, .inl (nF gt3)) := (hs4 4 (by decide) (by decide)).trans ht
        have hu : ct4 9 = .inl (B.2.1 0, 160, .inl (nF gu1)) := (hs4 9 (by decide) (by decide)).trans hu
        have hw : ct4 10 = .inl (B.2.1 0, 160, .inl (nF gw1)) := (hs4 10 (by decide) (by decide)).trans hw
        have hW : ct4 21 = .inl (B.2.1 0, 40, .inl (nF gW)) := (hs4 21 (by decide) (by decide)).trans hW
        have hfr : ∀ r, r ≠ 1 → r ≠ 2 → r ≠ 3 → r ≠ 4 → r ≠ 9 → r ≠ 10 → ct4 r = ct r := fun r q1 q2 q3 q4 q9 q10 => (hs4 r q1 q2).trans (hfr r q1 q2 q3 q4 q9 q10)
        refine g_aload_n fx 0 dX12_shorten_51 rfl ?_
        refine g_get (r := 0) fx lkX12_7 (by omega) h0 rfl dX12_shorten_52 ?_
        refine g_iconst (v := nI 0) fx dX12_shorten_55 (by decide +kernel) ?_
        refine g_aload_n fx 0 dX12_shorten_56 rfl ?_
        refine g_get (r := 0) fx lkX12_38 (by omega) h0 rfl dX12_shorten_57 ?_
        refine g_bipush (v := nI 40) fx dX12_shorten_60 (by decide +kernel) ?_
        refine g_iload_n fx 2 dX12_shorten_62 rfl ?_
        refine g_imulN fx dX12_shorten_63 ?_
        refine g_callSv (As := [.ref (ad 1), .int (nI 0), .ref (ad 9), .int (nI (40 * t))]) (rest := []) fx slX12_151 (c_X12_copy B ad ct4 n 9 (40 * t) 160 gu1 (by omega) (by omega) (by decide) hu 1 0 40 gq4 (by omega) (by omega) (by decide) hq (by decide)) rfl rfl (Nat.le_of_ble_eq_true rfl) ⟨by decide, by decide⟩ ⟨by decide, by decide⟩ dX12_shorten_64 (fun ct5 hz5 => ?_)
        obtain ⟨gu4, e5, hou, hc5⟩ := hz5
        have hok5 : okN gu4 (40 * t) := fun j hj => by rw [hc5 j hj]; exact hokq4 j hj
        have hv5 : nv gu4 (40 * t) = nv gq4 0 := bval_congr 40 (fun j hj => hc5 j hj)
        have hfr : ∀ r, r ≠ 1 → r ≠ 2 → r ≠ 3 → r ≠ 4 → r ≠ 9 → r ≠ 10 → ct5 r = ct r := fun r _ _ _ _ _ _ => (congrFun e5 r).trans ((va_up_ne _ _ (by assumption)).trans (hfr r (by assumption) (by assumption) (by assumption) (by assumption) (by assumption) (by assumption)))
        have h0 : ct5 0 = mObj ad f := (congrFun e5 _).trans ((va_up_ne _ _ (by omega)).trans h0)
        have hq : ct5 1 = .inl (B.2.1 0, 40, .inl (nF gq4)) := (congrFun e5 _).trans ((va_up_ne _ _ (by omega)).trans hq)
        have hlf : ct5 2 = .inl (B.2.1 0, 40, .inl (nF gl4)) := (congrFun e5 _).trans ((va_up_ne _ _ (by omega)).trans hlf)
        have ho : ct5 3 = .inl (B.2.1 0, 40, .inl (nF go2)) := (congrFun e5 _).trans ((va_up_ne _ _ (by omega)).trans ho)
        have ht : ct5 4 = .inl (B.2.1 0, 40, .inl (nF gt3)) := (congrFun e5 _).trans ((va_up_ne _ _ (by omega)).trans ht)
        have hu : ct5 9 = .inl (B.2.1 0, 160, .inl (nF gu4)) := by rw [e5, va_up_self]
        have hw : ct5 10 = .inl (B.2.1 0, 160, .inl (nF gw1)) := (congrFun e5 _).trans ((va_up_ne _ _ (by omega)).trans hw)
        have hW : ct5 21 = .inl (B.2.1 0, 40, .inl (nF gW)) := (congrFun e5 _).trans ((va_up_ne _ _ (by omega)).trans hW)
        refine g_aload_n fx 0 dX12_shorten_67 rfl ?_
        refine g_aload_n fx 1 dX12_shorten_68 rfl ?_
        refine g_iconst (v := nI 0) fx dX12_shorten_69 (by decide +kernel) ?_
        refine g_aload_n fx 0 dX12_shorten_70 rfl ?_
        refine g_get (r := 0) fx lkX12_19 (by omega) h0 rfl dX12_shorten_71 ?_
        refine g_iconst (v := nI 0) fx dX12_shorten_74 (by decide +kernel) ?_
        refine g_callVv (As := [.ref (ad 21), .int (nI 0), .ref (ad 4), .int (nI 0)]) (rest := []) fx slX12_154 (c_X12_part B ad ct5 n f gq4 gl4 hn h0 hq hlf 21 0 40 gW (by omega) (by omega) (by decide) hW 4 0 40 gt3 (by omega) (by omega) (by decide) ht (by decide) (by decide) hokW hok3 (by rw [hv3]; exact hgp) (by rw [hv3]; omega)) (by omega) h0 rfl rfl rfl (Nat.le_of_ble_eq_true rfl) ⟨by decide, by decide⟩ ⟨by decide, by decide⟩ dX12_shorten_75 (fun ct6 hz6 => ?_)
        obtain ⟨gq5, gl5, hq, hlf, hokq5, hokl5, hvq5, -, hs6⟩ := hz6
        rw [hv3] at hvq5
        have h0 : ct6 0 = mObj ad f := (hs6 0 (by decide) (by decide)).trans h0
        have ho : ct6 3 = .inl (B.2.1 0, 40, .inl (nF go2)) := (hs6 3 (by decide) (by decide)).trans ho
        have ht : ct6 4 = .inl (B.2.1 0, 40, .inl (nF gt3)) := (hs6 4 (by decide) (by decide)).trans ht
        have hu : ct6 9 = .inl (B.2.1 0, 160, .inl (nF gu4)) := (hs6 9 (by decide) (by decide)).trans hu
        have hw : ct6 10 = .inl (B.2.1 0, 160, .inl (nF gw1)) := (hs6 10 (by decide) (by decide)).trans hw
        have hW : ct6 21 = .inl (B.2.1 0, 40, .inl (nF gW)) := (hs6 21 (by decide) (by decide)).trans hW
        have hfr : ∀ r, r ≠ 1 → r ≠ 2 → r ≠ 3 → r ≠ 4 → r ≠ 9 → r ≠ 10 → ct6 r = ct r := fun r q1 q2 q3 q4 q9 q10 => (hs6 r q1 q2).trans (hfr r q1 q2 q3 q4 q9 q10)
        refine g_aload_n fx 0 dX12_shorten_78 rfl ?_
        refine g_get (r := 0) fx lkX12_7 (by omega) h0 rfl dX12_shorten_79 ?_
        refine g_iconst (v := nI 0) fx dX12_shorten_82 (by decide +kernel) ?_
        refine g_aload_n fx 0 dX12_shorten_83 rfl ?_
        refine g_get (r := 0) fx lkX12_41 (by omega) h0 rfl dX12_shorten_84 ?_
        refine g_bipush (v := nI 40) fx dX12_shorten_87 (by decide +kernel) ?_
        refine g_iload_n fx 2 dX12_shorten_89 rfl ?_
        refine g_imulN fx dX12_shorten_90 ?_
        refine g_callSv (As := [.ref (ad 1), .int (nI 0), .ref (ad 10), .int (nI (40 * t))]) (rest := []) fx slX12_151 (c_X12_copy B ad ct6 n 10 (40 * t) 160 gw1 (by omega) (by omega) (by decide) hw 1 0 40 gq5 (by omega) (by omega) (by decide) hq (by decide)) rfl rfl (Nat.le_of_ble_eq_true rfl) ⟨by decide, by decide⟩ ⟨by decide, by decide⟩ dX12_shorten_91 (fun ct7 hz7 => ?_)
        obtain ⟨gw6, e7, how, hc7⟩ := hz7
        have hok7 : okN gw6 (40 * t) := fun j hj => by rw [hc7 j hj]; exact hokq5 j hj
        have hv7 : nv gw6 (40 * t) = nv gq5 0 := bval_congr 40 (fun j hj => hc7 j hj)
        have hdone2 : ∀ i, i < t + 1 → okN gu4 (40 * i) ∧ okN gw6 (40 * i) ∧ nv gu4 (40 * i) = nv gu (40 * i) / Nat.gcd (nv gu (40 * i)) (nv gW 0) ∧ nv gw6 (40 * i) = nv gW 0 / Nat.gcd (nv gu (40 * i)) (nv gW 0) := by
          intro i hi
          by_cases q : i = t
          · subst q
            refine ⟨hok5, hok7, ?_, ?_⟩
            · rw [hv5, hvq4, hU.2]
            · rw [hv7, hvq5, hU.2]
          · have hd := hdone i (by omega)
            refine ⟨ok_out hou (by omega) hd.1, ok_out how (by omega) hd.2.1, ?_, ?_⟩
            · rw [nv_out hou (by omega)]; exact hd.2.2.1
            · rw [nv_out how (by omega)]; exact hd.2.2.2
        have hrest2 : ∀ i, t + 1 ≤ i → i < 4 → okN gu4 (40 * i) ∧ nv gu4 (40 * i) = nv gu (40 * i) := fun i h1 h2 => ⟨ok_out hou (by omega) (hrest i (by omega) h2).1, by rw [nv_out hou (by omega)]; exact (hrest i (by omega) h2).2⟩
        have hfr : ∀ r, r ≠ 1 → r ≠ 2 → r ≠ 3 → r ≠ 4 → r ≠ 9 → r ≠ 10 → ct7 r = ct r := fun r _ _ _ _ _ _ => (congrFun e7 r).trans ((va_up_ne _ _ (by assumption)).trans (hfr r (by assumption) (by assumption) (by assumption) (by assumption) (by assumption) (by assumption)))
        have h0 : ct7 0 = mObj ad f := (congrFun e7 _).trans ((va_up_ne _ _ (by omega)).trans h0)
        have hq : ct7 1 = .inl (B.2.1 0, 40, .inl (nF gq5)) := (congrFun e7 _).trans ((va_up_ne _ _ (by omega)).trans hq)
        have hlf : ct7 2 = .inl (B.2.1 0, 40, .inl (nF gl5)) := (congrFun e7 _).trans ((va_up_ne _ _ (by omega)).trans hlf)
        have ho : ct7 3 = .inl (B.2.1 0, 40, .inl (nF go2)) := (congrFun e7 _).trans ((va_up_ne _ _ (by omega)).trans ho)
        have ht : ct7 4 = .inl (B.2.1 0, 40, .inl (nF gt3)) := (congrFun e7 _).trans ((va_up_ne _ _ (by omega)).trans ht)
        have hu : ct7 9 = .inl (B.2.1 0, 160, .inl (nF gu4)) := (congrFun e7 _).trans ((va_up_ne _ _ (by omega)).trans hu)
        have hw : ct7 10 = .inl (B.2.1 0, 160, .inl (nF gw6)) := by rw [e7, va_up_self]
        have hW : ct7 21 = .inl (B.2.1 0, 40, .inl (nF gW)) := (congrFun e7 _).trans ((va_up_ne _ _ (by omega)).trans hW)
        refine g_iinc (L' := [(2, .int (nI (t + 1))), (0, .ref (ad 0)), (1, .ref (ad 21))]) fx (nI (t + 1)) 2 dX12_shorten_94 rfl (gInc _) (by decide) rfl ?_
        refine g_goto fx 2 dX12_shorten_97 (by decide) ?_
        refine g_locals (L' := [(0, .ref (ad 0)), (1, .ref (ad 21)), (2, .int (nI (t + 1)))]) [1, 2, 0] rfl ?_
        exact ih (t + 1) _ gq5 gl5 go2 gt3 gu4 gw6 hlt2 hdone2 hrest2 h0 hq hlf ho ht hu hw hW hfr (by omega)
  refine g_locals (L' := [(0, .ref (ad 0)), (1, .ref (ad 21)), (2, .int (nI 0))]) [1, 2, 0] rfl ?_
  exact LP2 5 0 ct gq gl go gt gu gw (by omega) (fun i hi => absurd hi (by omega)) (fun i _ hi => ⟨hoku i hi, rfl⟩) h0 hq hlf ho ht hu hw hW hfr (by omega)
set_option maxHeartbeats 4000000 in
set_option maxRecDepth 100000 in
theorem c_X12_timesFactorial (B : gB) (ad : Nat → Nat) (ct : Nat → va_E) (n : Nat) (r : Nat) (g : Nat → Nat) (hnr : r < n) (hr : ct r = .inl (B.2.1 0, 40, .inl (nF g))) (hok : okN g 0) (m : Nat) (hm : m < 2 ^ 30) (hb : nv g 0 * fac m < 16777216 ^ 40) : Ctr B yX12_timesFactorial cX12_timesFactorial 4 none 1 25 0 0 ad ct n [.ref (ad 0), .ref (ad r), .int (nI m)] (gPv ad n (fun ct' => ∃ g', ct' = va_up ct r (.inl (B.2.1 0, 40, .inl (nF g'))) ∧ okN g' 0 ∧ nv g' 0 = nv g 0 * fac m)) := by
  have hct := va_same hr
  have hmono : ∀ d k, fac k ≤ fac (k + d) := by
    intro d k
    induction d with
    | zero => exact Nat.le_refl _
    | succ d ih => exact Nat.le_trans ih (Nat.le_mul_of_pos_right _ (Nat.succ_pos _))
  refine Ctr.ofG (L := [(0, .ref (ad 0)), (1, .ref (ad r)), (2, .int (nI m))]) (by decide +kernel) rfl (Nat.le_of_ble_eq_true rfl) (fun E fx rt hnm => ?_)
  refine g_iconst (v := nI 2) fx dX12_timesFactorial_0 (by decide +kernel) ?_
  refine g_istore_n (L' := [(3, .int (nI 2)), (0, .ref (ad 0)), (1, .ref (ad r)), (2, .int (nI m))]) fx dX12_timesFactorial_1 (by decide) rfl ?_
  have LP2 : ∀ (M : Nat) (k : Nat) (ct1 : Nat → va_E) (g1 : Nat → Nat), (2 ≤ k) → (k ≤ max (m + 1) 2) → (okN g1 0) → (nv g1 0 = nv g 0 * fac (k - 1)) → (ct1 r = .inl (B.2.1 0, 40, .inl (nF g1))) → (ct1 = va_up ct r (.inl (B.2.1 0, 40, .inl (nF g1)))) →  (m + 3 - k) < M → G B 4 E ad ct1 n 0 0 [(1, .ref (ad r)), (2, .int (nI m)), (3, .int (nI k))] 2 [] := by
    intro M
    induction M with
    | zero => intro k ct1 g1 _ _ _ _ _ _ hM; exact absurd hM (Nat.not_lt_zero _)
    | succ M ih =>
      intro k ct1 g1 hk1 hk2 hok1 hv1 hr hct hM
      have ih2 := ih
      refine g_iload_n fx 2 dX12_timesFactorial_2 rfl ?_
      refine g_iload_n fx 1 dX12_timesFactorial_3 rfl ?_
      refine g_icmp_gt fx 19 dX12_timesFactorial_4 (by decide) (fun c4 => ?_) (fun c4 => ?_)
      · skip
        have hgt : m < k := (nI_ltI (by omega) (by omega)).mp c4
        refine g_vret fx rt dX12_timesFactorial_19 ?_
        refine gPv.mk ⟨g1, hct, hok1, ?_⟩
        rw [hv1]
        by_cases q : m = 0
        · rw [q, show k - 1 = 1 by omega]; rfl
        · rw [show k - 1 = m by omega]
      · skip
        have hle : k ≤ m := Nat.le_of_not_lt (fun q => c4 ((nI_ltI (by omega) (by omega)).mpr q))
        have hfk : fac (k - 1) * k = fac k := by
          obtain ⟨z, rfl⟩ : ∃ z, k = z + 1 := ⟨k - 1, by omega⟩
          rw [Nat.add_sub_cancel]; rfl
        have hkm : fac k ≤ fac m := by
          obtain ⟨d, rfl⟩ := Nat.exists_eq_add_of_le hle
          exact hmono d k
        have hbk : nv g 0 * fac k ≤ nv g 0 * fac m := Nat.mul_le_mul_left _ hkm
        refine g_aload_n fx 0 dX12_timesFactorial_7 rfl ?_
        refine g_iconst (v := nI 0) fx dX12_timesFactorial_8 (by decide +kernel) ?_
        refine g_iload_n fx 2 dX12_timesFactorial_9 rfl ?_
        refine g_callSv (As := [.ref (ad r), .int (nI 0), .int (nI k)]) (rest := []) fx slX12_204 (c_X12_multiply B ad ct1 n r 0 40 g1 hnr (by omega) (by decide) hr k (by omega) hok1 (by rw [hv1, Nat.mul_assoc, hfk]; omega)) rfl rfl (Nat.le_of_ble_eq_true rfl) ⟨by decide, by decide⟩ ⟨by decide, by decide⟩ dX12_timesFactorial_10 (fun ct2 hz2 => ?_)
        obtain ⟨g2, e2, -, hok2, hv2⟩ := hz2
        have hct : ct2 = va_up ct r (.inl (B.2.1 0, 40, .inl (nF g2))) := by rw [e2, hct, bx_uu]
        have hr : ct2 r = .inl (B.2.1 0, 40, .inl (nF g2)) := by rw [hct, va_up_self]
        refine g_iinc (L' := [(3, .int (nI (k + 1))), (1, .ref (ad r)), (2, .int (nI m))]) fx (nI (k + 1)) 2 dX12_timesFactorial_13 rfl (gInc _) (by decide) rfl ?_
        refine g_goto fx 2 dX12_timesFactorial_16 (by decide) ?_
        refine g_locals (L' := [(1, .ref (ad r)), (2, .int (nI m)), (3, .int (nI (k + 1)))]) [1, 2, 0] rfl ?_
        exact ih (k + 1) _ _ (by omega) (by omega) hok2 (by rw [hv2, hv1, Nat.mul_assoc, hfk, Nat.add_sub_cancel]) hr hct (by omega)
  refine g_locals (L' := [(1, .ref (ad r)), (2, .int (nI m)), (3, .int (nI 2))]) [2, 3, 0] rfl ?_
  exact LP2 (m + 4) 2 ct g (by omega) (by omega) hok (by show _ = nv g 0 * fac 1; rw [show fac 1 = 1 from rfl, Nat.mul_one]) hr hct (by omega)
