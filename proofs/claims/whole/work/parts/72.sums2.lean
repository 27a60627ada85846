set_option maxHeartbeats 4000000 in
set_option maxRecDepth 100000 in
theorem c_X8_begin (B : gB) (ad : Nat → Nat) (ct : Nat → va_E) (n : Nat) (nx mk off : Int32) (ah al : Int64) (hso : ct 81 = .inr (8, [.ref (ad 82), .ref (ad 85), .int nx, .int mk, .int off, .long ah, .long al])) (sz1 N1 sz2 N2 : Nat) (s1 t1 s2 t2 : Nat → Nat) (h82 : ct 82 = .inr (4, [.ref (ad 83), .ref (ad 84), .int (nI sz1)])) (h83 : ct 83 = .inl (B.2.1 0, N1, .inl (nF s1))) (h84 : ct 84 = .inl (B.2.1 0, N1, .inl (nF t1))) (h85 : ct 85 = .inr (4, [.ref (ad 86), .ref (ad 87), .int (nI sz2)])) (h86 : ct 86 = .inl (B.2.1 0, N2, .inl (nF s2))) (h87 : ct 87 = .inl (B.2.1 0, N2, .inl (nF t2))) (hn : 178 ≤ n) (hL1 : okL N1) (hL2 : okL N2) : Ctr B yX8_begin cX8_begin 1 none 1 20 0 0 ad ct n [.ref (ad 81)] (gPv ad n (fun ct' => ct' 81 = .inr (8, [.ref (ad 82), .ref (ad 85), .int (nI 1), .int mk, .int off, .long ah, .long al]) ∧ (∀ a, SS B ad ct' a 0 N1 N2) ∧ ∀ r, r < 81 ∨ 87 < r → ct' r = ct r)) := by
  refine Ctr.ofG (L := [(0, .ref (ad 81))]) (by decide +kernel) rfl (Nat.le_of_ble_eq_true rfl) (fun E fx rt hnm => ?_)
  refine g_aload_n fx 0 dX8_begin_0 rfl ?_
  refine g_get (r := 81) fx lkX8_10 (by omega) hso rfl dX8_begin_1 ?_
  refine g_callVv (As := []) (rest := []) fx slX8_37 (c_X4_begin B ad ct n 82 sz1 N1 s1 t1 (by omega) h82 h83 h84 (by unfold okL at hL1; omega)) (by omega) h82 rfl rfl rfl (Nat.le_of_ble_eq_true rfl) ⟨by decide, by decide⟩ ⟨by decide, by decide⟩ dX8_begin_4 (fun ct1 hz1 => ?_)
  obtain ⟨sA, tA, h82, h83, h84, hH1, hs1⟩ := hz1
  have hso : ct1 81 = .inr (8, [.ref (ad 82), .ref (ad 85), .int nx, .int mk, .int off, .long ah, .long al]) := (hs1 81 (by decide) (by decide) (by decide)).trans hso
  have h85 : ct1 85 = .inr (4, [.ref (ad 86), .ref (ad 87), .int (nI sz2)]) := (hs1 85 (by decide) (by decide) (by decide)).trans h85
  have h86 : ct1 86 = .inl (B.2.1 0, N2, .inl (nF s2)) := (hs1 86 (by decide) (by decide) (by decide)).trans h86
  have h87 : ct1 87 = .inl (B.2.1 0, N2, .inl (nF t2)) := (hs1 87 (by decide) (by decide) (by decide)).trans h87
  refine g_aload_n fx 0 dX8_begin_7 rfl ?_
  refine g_get (r := 81) fx lkX8_16 (by omega) hso rfl dX8_begin_8 ?_
  refine g_callVv (As := []) (rest := []) fx slX8_37 (c_X4_begin B ad ct1 n 85 sz2 N2 s2 t2 (by omega) h85 h86 h87 (by unfold okL at hL2; omega)) (by omega) h85 rfl rfl rfl (Nat.le_of_ble_eq_true rfl) ⟨by decide, by decide⟩ ⟨by decide, by decide⟩ dX8_begin_11 (fun ct2 hz2 => ?_)
  obtain ⟨sB, tB, h85, h86, h87, hH2, hs2⟩ := hz2
  have hso : ct2 81 = .inr (8, [.ref (ad 82), .ref (ad 85), .int nx, .int mk, .int off, .long ah, .long al]) := (hs2 81 (by decide) (by decide) (by decide)).trans hso
  have h82 : ct2 82 = .inr (4, [.ref (ad 83), .ref (ad 84), .int (nI 1)]) := (hs2 82 (by decide) (by decide) (by decide)).trans h82
  have h83 : ct2 83 = .inl (B.2.1 0, N1, .inl (nF sA)) := (hs2 83 (by decide) (by decide) (by decide)).trans h83
  have h84 : ct2 84 = .inl (B.2.1 0, N1, .inl (nF tA)) := (hs2 84 (by decide) (by decide) (by decide)).trans h84
  refine g_aload_n fx 0 dX8_begin_14 rfl ?_
  refine g_iconst (v := nI 1) fx dX8_begin_15 (by decide +kernel) ?_
  refine g_put (r := 81) (fs' := [.ref (ad 82), .ref (ad 85), .int (nI 1), .int mk, .int off, .long ah, .long al]) fx lpX8_38 (by omega) hso (by decide) (by decide) (Nat.le_of_ble_eq_true rfl) rfl dX8_begin_16 (fun ct3 ect3 => ?_)
  have h82 : ct3 82 = .inr (4, [.ref (ad 83), .ref (ad 84), .int (nI 1)]) := (congrFun ect3 _).trans ((va_up_ne _ _ (by omega)).trans h82)
  have h83 : ct3 83 = .inl (B.2.1 0, N1, .inl (nF sA)) := (congrFun ect3 _).trans ((va_up_ne _ _ (by omega)).trans h83)
  have h84 : ct3 84 = .inl (B.2.1 0, N1, .inl (nF tA)) := (congrFun ect3 _).trans ((va_up_ne _ _ (by omega)).trans h84)
  have h85 : ct3 85 = .inr (4, [.ref (ad 86), .ref (ad 87), .int (nI 1)]) := (congrFun ect3 _).trans ((va_up_ne _ _ (by omega)).trans h85)
  have h86 : ct3 86 = .inl (B.2.1 0, N2, .inl (nF sB)) := (congrFun ect3 _).trans ((va_up_ne _ _ (by omega)).trans h86)
  have h87 : ct3 87 = .inl (B.2.1 0, N2, .inl (nF tB)) := (congrFun ect3 _).trans ((va_up_ne _ _ (by omega)).trans h87)
  have hso : ct3 81 = .inr (8, [.ref (ad 82), .ref (ad 85), .int (nI 1), .int mk, .int off, .long ah, .long al]) := by rw [ect3, va_up_self]
  refine g_vret fx rt dX8_begin_19 ?_
  exact gPv.mk ⟨hso, fun a => ⟨1, sA, tA, 1, sB, tB, h82, h83, h84, h85, h86, h87, hH1 _, hH2 _, by unfold okL at hL1; omega, by unfold okL at hL2; omega, hL1, hL2⟩, fun r h => by rw [ect3, va_up_ne _ _ (by omega), hs2 r (by omega) (by omega) (by omega), hs1 r (by omega) (by omega) (by omega)]⟩
set_option maxHeartbeats 4000000 in
set_option maxRecDepth 100000 in
theorem c_X8_beginTaking (B : gB) (ad : Nat → Nat) (ct : Nat → va_E) (n : Nat) (nx mk off : Int32) (ah al : Int64) (hso : ct 81 = .inr (8, [.ref (ad 82), .ref (ad 85), .int nx, .int mk, .int off, .long ah, .long al])) (sz1 N1 sz2 N2 : Nat) (s1 t1 s2 t2 : Nat → Nat) (h82 : ct 82 = .inr (4, [.ref (ad 83), .ref (ad 84), .int (nI sz1)])) (h83 : ct 83 = .inl (B.2.1 0, N1, .inl (nF s1))) (h84 : ct 84 = .inl (B.2.1 0, N1, .inl (nF t1))) (h85 : ct 85 = .inr (4, [.ref (ad 86), .ref (ad 87), .int (nI sz2)])) (h86 : ct 86 = .inl (B.2.1 0, N2, .inl (nF s2))) (h87 : ct 87 = .inl (B.2.1 0, N2, .inl (nF t2))) (hn : 178 ≤ n) (hL1 : okL N1) (hL2 : okL N2) (tk ot : Nat) (ht1 : tk ≤ ot) (ht2 : ot ≤ 30) : Ctr B yX8_beginTaking cX8_beginTaking 4 none 2 40 0 0 ad ct n [.ref (ad 81), .int (nI tk), .int (nI ot)] (gPv ad n (fun ct' => ct' 81 = .inr (8, [.ref (ad 82), .ref (ad 85), .int (nI 1), .int (nI 131072), .int (nI (tk * 131072)), .long (lN (sumF (fun q => ch ot q) tk)), .long (lN (ch ot tk))]) ∧ (∀ a, SS B ad ct' a 0 N1 N2) ∧ ∀ r, r < 81 ∨ 87 < r → ct' r = ct r)) := by
  refine Ctr.ofG (L := [(0, .ref (ad 81)), (1, .int (nI tk)), (2, .int (nI ot))]) (by decide +kernel) rfl (Nat.le_of_ble_eq_true rfl) (fun E fx rt hnm => ?_)
  refine g_aload_n fx 0 dX8_beginTaking_0 rfl ?_
  refine g_callVv (As := []) (rest := []) fx slX8_19 (c_X8_begin B ad ct n nx mk off ah al hso sz1 N1 sz2 N2 s1 t1 s2 t2 h82 h83 h84 h85 h86 h87 hn hL1 hL2) (by omega) hso rfl rfl rfl (Nat.le_of_ble_eq_true rfl) ⟨by decide, by decide⟩ ⟨by decide, by decide⟩ dX8_beginTaking_1 (fun ct1 hz1 => ?_)
  obtain ⟨hso, hS, hs1⟩ := hz1
  have hfr : ∀ r, r ≠ 81 → ct1 r = ct1 r := fun _ _ => rfl
  refine g_aload_n fx 0 dX8_beginTaking_4 rfl ?_
  refine g_ldc fx kcX8_22 dX8_beginTaking_5 ?_
  refine g_isi (y := nI 131072) (by decide) ?_
  refine g_put (r := 81) (fs' := [.ref (ad 82), .ref (ad 85), .int (nI 1), .int (nI 131072), .int off, .long ah, .long al]) fx lpX8_23 (by omega) hso rfl rfl (Nat.le_of_ble_eq_true rfl) rfl dX8_beginTaking_7 (fun ct2 ect2 => ?_)
  have hso : ct2 81 = .inr (8, [.ref (ad 82), .ref (ad 85), .int (nI 1), .int (nI 131072), .int off, .long ah, .long al]) := by rw [ect2, va_up_self]
  have hfr : ∀ r, r ≠ 81 → ct2 r = ct1 r := fun r h => (congrFun ect2 r).trans ((va_up_ne _ _ h).trans (hfr r h))
  refine g_aload_n fx 0 dX8_beginTaking_10 rfl ?_
  refine g_iload_n fx 1 dX8_beginTaking_11 rfl ?_
  refine g_ldc fx kcX8_22 dX8_beginTaking_12 ?_
  refine g_isi (y := nI 131072) (by decide) ?_
  refine g_imulN fx dX8_beginTaking_14 ?_
  refine g_put (r := 81) (fs' := [.ref (ad 82), .ref (ad 85), .int (nI 1), .int (nI 131072), .int (nI (tk * 131072)), .long ah, .long al]) fx lpX8_27 (by omega) hso rfl rfl (Nat.le_of_ble_eq_true rfl) rfl dX8_beginTaking_15 (fun ct3 ect3 => ?_)
  have hso : ct3 81 = .inr (8, [.ref (ad 82), .ref (ad 85), .int (nI 1), .int (nI 131072), .int (nI (tk * 131072)), .long ah, .long al]) := by rw [ect3, va_up_self]
  have hfr : ∀ r, r ≠ 81 → ct3 r = ct1 r := fun r h => (congrFun ect3 r).trans ((va_up_ne _ _ h).trans (hfr r h))
  refine g_aload_n fx 0 dX8_beginTaking_18 rfl ?_
  refine g_lconst (v := lN 0) fx dX8_beginTaking_19 (by decide +kernel) ?_
  refine g_put (r := 81) (fs' := [.ref (ad 82), .ref (ad 85), .int (nI 1), .int (nI 131072), .int (nI (tk * 131072)), .long (lN 0), .long al]) fx lpX8_30 (by omega) hso rfl rfl (Nat.le_of_ble_eq_true rfl) rfl dX8_beginTaking_20 (fun ct4 ect4 => ?_)
  have hso : ct4 81 = .inr (8, [.ref (ad 82), .ref (ad 85), .int (nI 1), .int (nI 131072), .int (nI (tk * 131072)), .long (lN 0), .long al]) := by rw [ect4, va_up_self]
  have hfr : ∀ r, r ≠ 81 → ct4 r = ct1 r := fun r h => (congrFun ect4 r).trans ((va_up_ne _ _ h).trans (hfr r h))
  refine g_aload_n fx 0 dX8_beginTaking_23 rfl ?_
  refine g_lconst (v := lN 1) fx dX8_beginTaking_24 (by decide +kernel) ?_
  refine g_put (r := 81) (fs' := [.ref (ad 82), .ref (ad 85), .int (nI 1), .int (nI 131072), .int (nI (tk * 131072)), .long (lN 0), .long (lN 1)]) fx lpX8_34 (by omega) hso rfl rfl (Nat.le_of_ble_eq_true rfl) rfl dX8_beginTaking_25 (fun ct5 ect5 => ?_)
  have hso : ct5 81 = .inr (8, [.ref (ad 82), .ref (ad 85), .int (nI 1), .int (nI 131072), .int (nI (tk * 131072)), .long (lN 0), .long (lN 1)]) := by rw [ect5, va_up_self]
  have hfr : ∀ r, r ≠ 81 → ct5 r = ct1 r := fun r h => (congrFun ect5 r).trans ((va_up_ne _ _ h).trans (hfr r h))
  refine g_iconst (v := nI 0) fx dX8_beginTaking_28 (by decide +kernel) ?_
  refine g_istore_n (L' := [(3, .int (nI 0)), (0, .ref (ad 81)), (1, .int (nI tk)), (2, .int (nI ot))]) fx dX8_beginTaking_29 (by decide) rfl ?_
  have LP30 : ∀ (M : Nat) (k : Nat) (cta : Nat → va_E), (k ≤ tk) → (cta 81 = .inr (8, [.ref (ad 82), .ref (ad 85), .int (nI 1), .int (nI 131072), .int (nI (tk * 131072)), .long (lN (sumF (fun q => ch ot q) k)), .long (lN (ch ot k))])) → (∀ r, r ≠ 81 → cta r = ct1 r) →  (tk - k) < M → G B 4 E ad cta n 0 0 [(0, .ref (ad 81)), (1, .int (nI tk)), (2, .int (nI ot)), (3, .int (nI k))] 30 [] := by
    intro M
    induction M with
    | zero => intro k cta _ _ _ hM; exact absurd hM (Nat.not_lt_zero _)
    | succ M ih =>
      intro k cta hk hso hfr hM
      have ih30 := ih
      refine g_iload_n fx 3 dX8_beginTaking_30 rfl ?_
      refine g_iload_n fx 1 dX8_beginTaking_31 rfl ?_
      refine g_icmp_ge fx 72 dX8_beginTaking_32 (by decide) (fun c32 => ?_) (fun c32 => ?_)
      · skip
        have hke : k = tk := by have := (nI_leI (by omega) (by omega)).mp c32; omega
        subst hke
        refine g_vret fx rt dX8_beginTaking_72 ?_
        exact gPv.mk ⟨hso, fun a => (hS a).move (fun _ _ _ => rfl) (fun r h1 h2 => hfr r (by omega)), fun r h => (hfr r (by omega)).trans (hs1 r h)⟩
      · skip
        have hlt : k < tk := (nI_ltI (by omega) (by omega)).mp (Int32.not_le.mp c32)
        have hcb : ch ot k ≤ 1073741824 := Nat.le_trans ch_two (Nat.pow_le_pow_right (show 0 < 2 by decide) ht2)
        have hcm : ch ot k * (ot - k) ≤ 1073741824 * 30 := Nat.mul_le_mul hcb (by omega)
        refine g_aload_n fx 0 dX8_beginTaking_35 rfl ?_
        refine g_dup fx dX8_beginTaking_36 rfl ?_
        refine g_get (r := 81) fx lkX8_30 (by omega) hso rfl dX8_beginTaking_37 ?_
        refine g_aload_n fx 0 dX8_beginTaking_40 rfl ?_
        refine g_get (r := 81) fx lkX8_34 (by omega) hso rfl dX8_beginTaking_41 ?_
        refine g_ladd fx dX8_beginTaking_44 ?_
        refine g_isl (y := lN (sumF (fun q => ch ot q) (k + 1))) (lN_add _ _) ?_
        refine g_put (r := 81) (fs' := [.ref (ad 82), .ref (ad 85), .int (nI 1), .int (nI 131072), .int (nI (tk * 131072)), .long (lN (sumF (fun q => ch ot q) (k + 1))), .long (lN (ch ot k))]) fx lpX8_30 (by omega) hso rfl rfl (Nat.le_of_ble_eq_true rfl) rfl dX8_beginTaking_45 (fun ctb ectb => ?_)
        have hso : ctb 81 = .inr (8, [.ref (ad 82), .ref (ad 85), .int (nI 1), .int (nI 131072), .int (nI (tk * 131072)), .long (lN (sumF (fun q => ch ot q) (k + 1))), .long (lN (ch ot k))]) := by rw [ectb, va_up_self]
        have hfr : ∀ r, r ≠ 81 → ctb r = ct1 r := fun r h => (congrFun ectb r).trans ((va_up_ne _ _ h).trans (hfr r h))
        refine g_aload_n fx 0 dX8_beginTaking_48 rfl ?_
        refine g_aload_n fx 0 dX8_beginTaking_49 rfl ?_
        refine g_get (r := 81) fx lkX8_34 (by omega) hso rfl dX8_beginTaking_50 ?_
        refine g_iload_n fx 2 dX8_beginTaking_53 rfl ?_
        refine g_iload_n fx 3 dX8_beginTaking_54 rfl ?_
        refine g_isubN fx dX8_beginTaking_55 (by omega) ?_
        refine g_i2l fx dX8_beginTaking_56 ?_
        refine g_isl (y := lN (ot - k)) (nI_l (by omega)) ?_
        refine g_lmul fx dX8_beginTaking_57 ?_
        refine g_isl (y := lN (ch ot k * (ot - k))) (lN_mul _ _) ?_
        refine g_iload_n fx 3 dX8_beginTaking_58 rfl ?_
        refine g_iconst (v := nI 1) fx dX8_beginTaking_59 (by decide +kernel) ?_
        refine g_iaddN fx dX8_beginTaking_60 ?_
        refine g_i2l fx dX8_beginTaking_61 ?_
        refine g_isl (y := lN (k + 1)) (nI_l (by omega)) ?_
        refine g_ldiv fx dX8_beginTaking_62 (lN_ne0 (by omega) (by omega)) ?_
        refine g_isl (y := lN (ch ot k * (ot - k) / (k + 1))) (pk_lDiv (by omega) (by omega) (by omega)) ?_
        refine g_put (r := 81) (fs' := [.ref (ad 82), .ref (ad 85), .int (nI 1), .int (nI 131072), .int (nI (tk * 131072)), .long (lN (sumF (fun q => ch ot q) (k + 1))), .long (lN (ch ot k * (ot - k) / (k + 1)))]) fx lpX8_34 (by omega) hso rfl rfl (Nat.le_of_ble_eq_true rfl) rfl dX8_beginTaking_63 (fun ctc ectc => ?_)
        have hso : ctc 81 = .inr (8, [.ref (ad 82), .ref (ad 85), .int (nI 1), .int (nI 131072), .int (nI (tk * 131072)), .long (lN (sumF (fun q => ch ot q) (k + 1))), .long (lN (ch ot k * (ot - k) / (k + 1)))]) := by rw [ectc, va_up_self]
        have hfr : ∀ r, r ≠ 81 → ctc r = ct1 r := fun r h => (congrFun ectc r).trans ((va_up_ne _ _ h).trans (hfr r h))
        refine g_iinc (L' := [(3, .int (nI (k + 1))), (0, .ref (ad 81)), (1, .int (nI tk)), (2, .int (nI ot))]) fx (nI (k + 1)) 3 dX8_beginTaking_66 rfl (gInc _) (by decide) rfl ?_
        refine g_goto fx 30 dX8_beginTaking_69 (by decide) ?_
        refine g_locals (L' := [(0, .ref (ad 81)), (1, .int (nI tk)), (2, .int (nI ot)), (3, .int (nI (k + 1)))]) [1, 2, 3, 0] rfl ?_
        rw [ch_next ot k (by omega)] at hso
        exact ih30 (k + 1) _ (by omega) hso hfr (by omega)
  refine g_locals (L' := [(0, .ref (ad 81)), (1, .int (nI tk)), (2, .int (nI ot)), (3, .int (nI 0))]) [1, 2, 3, 0] rfl ?_
  rw [show lN 1 = lN (ch ot 0) by rw [ch_0]] at hso
  exact LP30 (tk + 1) 0 _ (by omega) hso hfr (by omega)
set_option maxHeartbeats 4000000 in
set_option maxRecDepth 100000 in
theorem c_X8_beginSigning (B : gB) (ad : Nat → Nat) (ct : Nat → va_E) (n : Nat) (nx mk off : Int32) (ah al : Int64) (hso : ct 81 = .inr (8, [.ref (ad 82), .ref (ad 85), .int nx, .int mk, .int off, .long ah, .long al])) (sz1 N1 sz2 N2 : Nat) (s1 t1 s2 t2 : Nat → Nat) (h82 : ct 82 = .inr (4, [.ref (ad 83), .ref (ad 84), .int (nI sz1)])) (h83 : ct 83 = .inl (B.2.1 0, N1, .inl (nF s1))) (h84 : ct 84 = .inl (B.2.1 0, N1, .inl (nF t1))) (h85 : ct 85 = .inr (4, [.ref (ad 86), .ref (ad 87), .int (nI sz2)])) (h86 : ct 86 = .inl (B.2.1 0, N2, .inl (nF s2))) (h87 : ct 87 = .inl (B.2.1 0, N2, .inl (nF t2))) (hn : 178 ≤ n) (hL1 : okL N1) (hL2 : okL N2) (q : Nat) (hq : q ≤ 30) : Ctr B yX8_beginSigning cX8_beginSigning 2 none 2 40 0 0 ad ct n [.ref (ad 81), .int (nI q)] (gPv ad n (fun ct' => ct' 81 = .inr (8, [.ref (ad 82), .ref (ad 85), .int (nI 1), .int (nI 0), .int (nI 0), .long (lN 0), .long (lN (2 ^ q))]) ∧ (∀ a, SS B ad ct' a 0 N1 N2) ∧ ∀ r, r < 81 ∨ 87 < r → ct' r = ct r)) := by
  refine Ctr.ofG (L := [(0, .ref (ad 81)), (1, .int (nI q))]) (by decide +kernel) rfl (Nat.le_of_ble_eq_true rfl) (fun E fx rt hnm => ?_)
  refine g_aload_n fx 0 dX8_beginSigning_0 rfl ?_
  refine g_callVv (As := []) (rest := []) fx slX8_19 (c_X8_begin B ad ct n nx mk off ah al hso sz1 N1 sz2 N2 s1 t1 s2 t2 h82 h83 h84 h85 h86 h87 hn hL1 hL2) (by omega) hso rfl rfl rfl (Nat.le_of_ble_eq_true rfl) ⟨by decide, by decide⟩ ⟨by decide, by decide⟩ dX8_beginSigning_1 (fun ct1 hz1 => ?_)
  obtain ⟨hso, hS, hs1⟩ := hz1
  have hfr : ∀ r, r ≠ 81 → ct1 r = ct1 r := fun _ _ => rfl
  refine g_aload_n fx 0 dX8_beginSigning_4 rfl ?_
  refine g_iconst (v := nI 0) fx dX8_beginSigning_5 (by decide +kernel) ?_
  refine g_put (r := 81) (fs' := [.ref (ad 82), .ref (ad 85), .int (nI 1), .int (nI 0), .int off, .long ah, .long al]) fx lpX8_23 (by omega) hso rfl rfl (Nat.le_of_ble_eq_true rfl) rfl dX8_beginSigning_6 (fun ct2 ect2 => ?_)
  have hso : ct2 81 = .inr (8, [.ref (ad 82), .ref (ad 85), .int (nI 1), .int (nI 0), .int off, .long ah, .long al]) := by rw [ect2, va_up_self]
  have hfr : ∀ r, r ≠ 81 → ct2 r = ct1 r := fun r h => (congrFun ect2 r).trans ((va_up_ne _ _ h).trans (hfr r h))
  refine g_aload_n fx 0 dX8_beginSigning_9 rfl ?_
  refine g_iconst (v := nI 0) fx dX8_beginSigning_10 (by decide +kernel) ?_
  refine g_put (r := 81) (fs' := [.ref (ad 82), .ref (ad 85), .int (nI 1), .int (nI 0), .int (nI 0), .long ah, .long al]) fx lpX8_27 (by omega) hso rfl rfl (Nat.le_of_ble_eq_true rfl) rfl dX8_beginSigning_11 (fun ct3 ect3 => ?_)
  have hso : ct3 81 = .inr (8, [.ref (ad 82), .ref (ad 85), .int (nI 1), .int (nI 0), .int (nI 0), .long ah, .long al]) := by rw [ect3, va_up_self]
  have hfr : ∀ r, r ≠ 81 → ct3 r = ct1 r := fun r h => (congrFun ect3 r).trans ((va_up_ne _ _ h).trans (hfr r h))
  refine g_aload_n fx 0 dX8_beginSigning_14 rfl ?_
  refine g_lconst (v := lN 0) fx dX8_beginSigning_15 (by decide +kernel) ?_
  refine g_put (r := 81) (fs' := [.ref (ad 82), .ref (ad 85), .int (nI 1), .int (nI 0), .int (nI 0), .long (lN 0), .long al]) fx lpX8_30 (by omega) hso rfl rfl (Nat.le_of_ble_eq_true rfl) rfl dX8_beginSigning_16 (fun ct4 ect4 => ?_)
  have hso : ct4 81 = .inr (8, [.ref (ad 82), .ref (ad 85), .int (nI 1), .int (nI 0), .int (nI 0), .long (lN 0), .long al]) := by rw [ect4, va_up_self]
  have hfr : ∀ r, r ≠ 81 → ct4 r = ct1 r := fun r h => (congrFun ect4 r).trans ((va_up_ne _ _ h).trans (hfr r h))
  refine g_aload_n fx 0 dX8_beginSigning_19 rfl ?_
  refine g_lconst (v := lN 1) fx dX8_beginSigning_20 (by decide +kernel) ?_
  refine g_iload_n fx 1 dX8_beginSigning_21 rfl ?_
  refine g_lshl fx dX8_beginSigning_22 ?_
  refine g_isl (y := lN (2 ^ q)) (by rw [wb_shl 1 (by omega), Nat.one_mul]) ?_
  refine g_put (r := 81) (fs' := [.ref (ad 82), .ref (ad 85), .int (nI 1), .int (nI 0), .int (nI 0), .long (lN 0), .long (lN (2 ^ q))]) fx lpX8_34 (by omega) hso rfl rfl (Nat.le_of_ble_eq_true rfl) rfl dX8_beginSigning_23 (fun ct5 ect5 => ?_)
  have hso : ct5 81 = .inr (8, [.ref (ad 82), .ref (ad 85), .int (nI 1), .int (nI 0), .int (nI 0), .long (lN 0), .long (lN (2 ^ q))]) := by rw [ect5, va_up_self]
  have hfr : ∀ r, r ≠ 81 → ct5 r = ct1 r := fun r h => (congrFun ect5 r).trans ((va_up_ne _ _ h).trans (hfr r h))
  refine g_vret fx rt dX8_beginSigning_26 ?_
  exact gPv.mk ⟨hso, fun a => (hS a).move (fun _ _ _ => rfl) (fun r h1 h2 => hfr r (by omega)), fun r h => (hfr r (by omega)).trans (hs1 r h)⟩
set_option maxHeartbeats 4000000 in
set_option maxRecDepth 100000 in
theorem c_X8_countAll (B : gB) (ad : Nat → Nat) (ct : Nat → va_E) (n : Nat) (nx mk off : Int32) (ah al : Int64) (hso : ct 81 = .inr (8, [.ref (ad 82), .ref (ad 85), .int nx, .int mk, .int off, .long ah, .long al])) (hn : 178 ≤ n) : Ctr B yX8_countAll cX8_countAll 1 (some .long) 0 0 0 0 ad ct n [.ref (ad 81)] (gPlp ad ct n (fun r => r = al)) := by
  refine Ctr.ofG (L := [(0, .ref (ad 81))]) (by decide +kernel) rfl (Nat.le_of_ble_eq_true rfl) (fun E fx rt hnm => ?_)
  refine g_aload_n fx 0 dX8_countAll_0 rfl ?_
  refine g_get (r := 81) fx lkX8_34 (by omega) hso rfl dX8_countAll_1 ?_
  refine g_lret fx rt dX8_countAll_4 ?_
  exact gPlp.mk rfl
set_option maxHeartbeats 4000000 in
set_option maxRecDepth 100000 in
theorem c_X8_take (B : gB) (ad : Nat → Nat) (ct : Nat → va_E) (n : Nat) (mk off : Int32) (ah al : Int64) (a : Nat → Nat) (m N1 N2 num : Nat) (x : Int32) (hso : ct 81 = .inr (8, [.ref (ad 82), .ref (ad 85), .int (nI (1 - m % 2)), .int mk, .int off, .long ah, .long al])) (hSS : SS B ad ct a m N1 N2) (hn : 178 ≤ n) (hm : m < 30) (hxm : x + mk = nI num) (hnum : 0 < num) (ham : a m = num) (ha : ∀ j, j < m + 1 → a j ≤ 200000) : Ctr B yX8_take cX8_take 3 none 3 94 2 (4 * (tk1 a m N1 - N1) + 4 * (tk2 a m N2 - N2)) ad ct n [.ref (ad 81), .int x] (gPx n (fun ad' ct' => (∀ r, r < 83 ∨ r = 85 ∨ 87 < r → ad' r = ad r) ∧ ct' 81 = .inr (8, [.ref (ad' 82), .ref (ad' 85), .int (nI (1 - (m + 1) % 2)), .int mk, .int off, .long ah, .long al]) ∧ SS B ad' ct' a (m + 1) (tk1 a m N1) (tk2 a m N2) ∧ ∀ r, r < 81 ∨ 87 < r → ct' r = ct r)) := by
  obtain ⟨sz1, s1, t1, sz2, s2, t2, h82, h83, h84, h85, h86, h87, hS1, hS2, hz1, hz2, hL1, hL2⟩ := hSS
  have hnb : num ≤ 200000 := by rw [← ham]; exact ha m (by omega)
  refine Ctr.ofG (L := [(0, .ref (ad 81)), (1, .int x)]) (by decide +kernel) rfl (Nat.le_of_ble_eq_true rfl) (fun E fx rt hnm => ?_)
  refine g_aload_n fx 0 dX8_take_0 rfl ?_
  refine g_get (r := 81) fx lkX8_38 (by omega) hso rfl dX8_take_1 ?_
  refine g_if_eq fx 14 dX8_take_4 (by decide) (fun c4 => ?_) (fun c4 => ?_)
  · skip
    have hod : m % 2 = 1 := by
      by_cases q : m % 2 = 0
      · rw [q] at c4; exact absurd c4 (by decide)
      · omega
    have hd1 : tk1 a m N1 = N1 := if_neg (by omega)
    have hd2 : tk2 a m N2 = hsL N2 (2 * sz2) := by unfold tk2; rw [if_neg (by omega), ← hS2.size]
    refine g_aload_n fx 0 dX8_take_14 rfl ?_
    refine g_get (r := 81) fx lkX8_16 (by omega) hso rfl dX8_take_15 ?_
    refine g_astore_n (L' := [(2, .ref (ad 85)), (0, .ref (ad 81)), (1, .int x)]) fx dX8_take_18 (by decide) rfl ?_
    refine g_aload_n fx 0 dX8_take_19 rfl ?_
    refine g_iload_n fx 2 dX8_take_20 rfl ?_
    refine g_aload_n fx 1 dX8_take_21 rfl ?_
    refine g_get (r := 81) fx lkX8_23 (by omega) hso rfl dX8_take_22 ?_
    refine g_iadd fx dX8_take_25 ?_
    refine g_isi (y := nI num) hxm ?_
    refine g_callVx (As := [.int (nI num)]) (rest := []) fx slX8_42 (c_X4_take B ad ct n 85 sz2 N2 s2 t2 (by omega) h85 h86 h87 (od a) (m / 2) num hL2 hz2 hS2 (by omega) hnum hnb (Nat.le_trans (sumF_le _ (fun i hi => ha _ (by omega))) (show m / 2 * 200000 ≤ 3000000 by omega)) (by unfold od; rw [show 2 * (m / 2) + 1 = m by omega]; exact ham)) (by omega) h85 rfl rfl rfl (Nat.le_of_ble_eq_true rfl) ⟨by dsimp only; omega, by dsimp only; omega⟩ ⟨by dsimp only; omega, by dsimp only; omega⟩ dX8_take_26 (fun ad1 ct1 hzt => ?_)
    obtain ⟨sz3, s3, t3, hA1, h85, h86, h87, hS3, hz3, hL3, hs3⟩ := hzt
    have hSS2 : SS B ad1 ct1 a (m + 1) (tk1 a m N1) (tk2 a m N2) := by
      rw [hd1, hd2]
      refine ⟨sz1, s1, t1, sz3, s3, t3, ?_, (hs3 83 (by decide) (by decide) (by decide)).trans h83, (hs3 84 (by decide) (by decide) (by decide)).trans h84, h85, h86, h87, by rw [show (m + 1 + 1) / 2 = (m + 1) / 2 by omega]; exact hS1, by rw [show (m + 1) / 2 = m / 2 + 1 by omega]; exact hS3, hz1, hz3, hL1, hL3⟩
      rw [hs3 82 (by decide) (by decide) (by decide), hA1 83 (by decide) (by decide), hA1 84 (by decide) (by decide)]; exact h82
    have hso : ct1 81 = .inr (8, [.ref (ad1 82), .ref (ad1 85), .int (nI (1 - m % 2)), .int mk, .int off, .long ah, .long al]) := by rw [hs3 81 (by decide) (by decide) (by decide), hA1 82 (by decide) (by decide), hA1 85 (by decide) (by decide)]; exact hso
    have hfr : ∀ r, r < 81 ∨ 87 < r → ct1 r = ct r := fun r h => hs3 r (by omega) (by omega) (by omega)
    have hAd : ∀ r, r < 83 ∨ r = 85 ∨ 87 < r → ad1 r = ad r := fun r h => hA1 r (by omega) (by omega)
    refine g_same (L' := [(2, .ref (ad1 85)), (0, .ref (ad1 81)), (1, .int x)]) (st' := []) (by rw [hAd 85 (by decide), hAd 81 (by decide)]) rfl ?_
    refine g_aload_n fx 1 dX8_take_29 rfl ?_
    refine g_aload_n fx 1 dX8_take_30 rfl ?_
    refine g_get (r := 81) fx lkX8_38 (by omega) hso rfl dX8_take_31 ?_
    refine g_if_ne fx 41 dX8_take_34 (by decide) (fun c34 => ?_) (fun c34 => ?_)
    · exact absurd (show nI (1 - m % 2) = 0 by rw [hod]; decide) c34
    refine g_iconst (v := nI 1) fx dX8_take_37 (by decide +kernel) ?_
    refine g_goto fx 42 dX8_take_38 (by decide) ?_
    refine g_put (r := 81) (fs' := [.ref (ad1 82), .ref (ad1 85), .int (nI 1), .int mk, .int off, .long ah, .long al]) fx lpX8_38 (by omega) hso (by decide) (by decide) (Nat.le_of_ble_eq_true rfl) rfl dX8_take_42 (fun ct2 ect2 => ?_)
    have hso : ct2 81 = .inr (8, [.ref (ad1 82), .ref (ad1 85), .int (nI 1), .int mk, .int off, .long ah, .long al]) := by rw [ect2, va_up_self]
    refine g_more (k1 := 2) (s1 := (4 * (tk1 a m N1 - N1) + 4 * (tk2 a m N2 - N2))) (by omega) (by omega) ?_
    refine g_vret fx rt dX8_take_45 ?_
    rw [show nI (1 - (m + 1) % 2) = nI 1 by rw [show (m + 1) % 2 = 0 by omega]]
    exact gPx.mk ⟨hAd, hso, hSS2.move (fun _ _ _ => rfl) (fun r h1 h2 => by rw [ect2, va_up_ne _ _ (by omega)]), fun r h => by rw [ect2, va_up_ne _ _ (by omega)]; exact hfr r h⟩
  · skip
    have hev : m % 2 = 0 := by
      by_cases q : m % 2 = 0
      · exact q
      · rw [show m % 2 = 1 by omega] at c4; exact absurd (show nI (1 - 1) = 0 by decide) c4
    have hd1 : tk1 a m N1 = hsL N1 (2 * sz1) := by unfold tk1; rw [if_pos hev, ← hS1.size]
    have hd2 : tk2 a m N2 = N2 := if_pos hev
    refine g_aload_n fx 0 dX8_take_7 rfl ?_
    refine g_get (r := 81) fx lkX8_10 (by omega) hso rfl dX8_take_8 ?_
    refine g_goto fx 18 dX8_take_11 (by decide) ?_
    refine g_astore_n (L' := [(2, .ref (ad 82)), (0, .ref (ad 81)), (1, .int x)]) fx dX8_take_18 (by decide) rfl ?_
    refine g_aload_n fx 0 dX8_take_19 rfl ?_
    refine g_iload_n fx 2 dX8_take_20 rfl ?_
    refine g_aload_n fx 1 dX8_take_21 rfl ?_
    refine g_get (r := 81) fx lkX8_23 (by omega) hso rfl dX8_take_22 ?_
    refine g_iadd fx dX8_take_25 ?_
    refine g_isi (y := nI num) hxm ?_
    refine g_callVx (As := [.int (nI num)]) (rest := []) fx slX8_42 (c_X4_take B ad ct n 82 sz1 N1 s1 t1 (by omega) h82 h83 h84 (ev a) ((m + 1) / 2) num hL1 hz1 hS1 (by omega) hnum hnb (Nat.le_trans (sumF_le _ (fun i hi => ha _ (by omega))) (show (m + 1) / 2 * 200000 ≤ 3000000 by omega)) (by unfold ev; rw [show 2 * ((m + 1) / 2) = m by omega]; exact ham)) (by omega) h82 rfl rfl rfl (Nat.le_of_ble_eq_true rfl) ⟨by dsimp only; omega, by dsimp only; omega⟩ ⟨by dsimp only; omega, by dsimp only; omega⟩ dX8_take_26 (fun ad1 ct1 hzt => ?_)
    obtain ⟨sz3, s3, t3, hA1, h82, h83, h84, hS3, hz3, hL3, hs3⟩ := hzt
    have hSS2 : SS B ad1 ct1 a (m + 1) (tk1 a m N1) (tk2 a m N2) := by
      rw [hd1, hd2]
      refine ⟨sz3, s3, t3, sz2, s2, t2, h82, h83, h84, ?_, (hs3 86 (by decide) (by decide) (by decide)).trans h86, (hs3 87 (by decide) (by decide) (by decide)).trans h87, by rw [show (m + 1 + 1) / 2 = (m + 1) / 2 + 1 by omega]; exact hS3, by rw [show (m + 1) / 2 = m / 2 by omega]; exact hS2, hz3, hz2, hL3, hL2⟩
      rw [hs3 85 (by decide) (by decide) (by decide), hA1 86 (by decide) (by decide), hA1 87 (by decide) (by decide)]; exact h85
    have hso : ct1 81 = .inr (8, [.ref (ad1 82), .ref (ad1 85), .int (nI (1 - m % 2)), .int mk, .int off, .long ah, .long al]) := by rw [hs3 81 (by decide) (by decide) (by decide), hA1 82 (by decide) (by decide), hA1 85 (by decide) (by decide)]; exact hso
    have hfr : ∀ r, r < 81 ∨ 87 < r → ct1 r = ct r := fun r h => hs3 r (by omega) (by omega) (by omega)
    have hAd : ∀ r, r < 83 ∨ r = 85 ∨ 87 < r → ad1 r = ad r := fun r h => hA1 r (by omega) (by omega)
    refine g_same (L' := [(2, .ref (ad1 82)), (0, .ref (ad1 81)), (1, .int x)]) (st' := []) (by rw [hAd 82 (by decide), hAd 81 (by decide)]) rfl ?_
    refine g_aload_n fx 1 dX8_take_29 rfl ?_
    refine g_aload_n fx 1 dX8_take_30 rfl ?_
    refine g_get (r := 81) fx lkX8_38 (by omega) hso rfl dX8_take_31 ?_
    refine g_if_ne fx 41 dX8_take_34 (by decide) (fun c34 => ?_) (fun c34 => ?_)
    rotate_left
    · exact absurd (show nI (1 - m % 2) = 0 from c34) (by rw [hev]; decide)
    refine g_iconst (v := nI 0) fx dX8_take_41 (by decide +kernel) ?_
    refine g_put (r := 81) (fs' := [.ref (ad1 82), .ref (ad1 85), .int (nI 0), .int mk, .int off, .long ah, .long al]) fx lpX8_38 (by omega) hso (by decide) (by decide) (Nat.le_of_ble_eq_true rfl) rfl dX8_take_42 (fun ct2 ect2 => ?_)
    have hso : ct2 81 = .inr (8, [.ref (ad1 82), .ref (ad1 85), .int (nI 0), .int mk, .int off, .long ah, .long al]) := by rw [ect2, va_up_self]
    refine g_more (k1 := 2) (s1 := (4 * (tk1 a m N1 - N1) + 4 * (tk2 a m N2 - N2))) (by omega) (by omega) ?_
    refine g_vret fx rt dX8_take_45 ?_
    rw [show nI (1 - (m + 1) % 2) = nI 0 by rw [show (m + 1) % 2 = 1 by omega]]
    exact gPx.mk ⟨hAd, hso, hSS2.move (fun _ _ _ => rfl) (fun r h1 h2 => by rw [ect2, va_up_ne _ _ (by omega)]), fun r h => by rw [ect2, va_up_ne _ _ (by omega)]; exact hfr r h⟩
