theorem iRow.move {B : gB} {ad ad' : Nat → Nat} {ct ct' : Nat → va_E} {w N b : Nat} (h : iRow B ad ct w N b) (hb : w < b) (hN : 0 < N) (hA : ∀ r, w ≤ r → r < b + 5 * N → ad' r = ad r) (hC : ∀ r, w ≤ r → r < b + 5 * N → ct' r = ct r) : iRow B ad' ct' w N b := by
  obtain ⟨f, h1, h2, h3⟩ := h
  exact ⟨f, (hC w (Nat.le_refl _) (by omega)).trans h1, fun j hj => by rw [hA _ (by omega) (by omega)]; exact h2 j hj, fun t ht => (h3 t ht).move (fun r h1 h2 => hA r (by omega) (by omega)) (fun r h1 h2 => hC r (by omega) (by omega))⟩
theorem iWk.move {B : gB} {ad ad' : Nat → Nat} {ct ct' : Nat → va_E} {w : Nat} (h : iWk B ad ct w) (hA : ∀ r, w < r → r ≤ w + 67 → ad' r = ad r) (hC : ∀ r, w < r → r ≤ w + 67 → ct' r = ct r) : iWk B ad' ct' w := by
  obtain ⟨⟨gt, h1, h1b⟩, h2, h3, h4, ⟨f, h5, h5b⟩, h6⟩ := h
  exact ⟨⟨gt, (hC _ (by omega) (by omega)).trans h1, h1b⟩, (hC _ (by omega) (by omega)).trans h2, (hC _ (by omega) (by omega)).trans h3, (hC _ (by omega) (by omega)).trans h4, ⟨f, (hC _ (by omega) (by omega)).trans h5, fun j hj => by rw [hA _ (by omega) (by omega)]; exact h5b j hj⟩, fun i hi => (h6 i hi).move (hA _ (by omega) (by omega)) (hC _ (by omega) (by omega)) (hC _ (by omega) (by omega))⟩
set_option maxHeartbeats 4000000 in
set_option maxRecDepth 100000 in
theorem c_X11_init (B : gB) (ad : Nat → Nat) (ct : Nat → va_E) (ho : ct 0 = .inr (11, [.null, .null, .null, .null, .null, .null, .null, .null, .null, .null, .null])) : Ctr B yX11_init cX11_init 1 none 4 82 177 3358 ad ct 1 [.ref (ad 0)] (gPx 178 (fun ad' ct' => ad' 0 = ad 0 ∧ ct' 0 = .inr (11, [.ref (ad' 1), .ref (ad' 3), .ref (ad' 5), .ref (ad' 7), .ref (ad' 9), .ref (ad' 11), .ref (ad' 79), .ref (ad' 81), .ref (ad' 88), .ref (ad' 110), .ref (ad' 115)]) ∧ ct' 1 = .inr (3, [.ref (ad' 2), .int (nI 1), .int (nI 1)]) ∧ ct' 2 = .inl (B.2.1 0, 25, .inl (nF (fun _ => 0))) ∧ ct' 3 = .inr (5, [.ref (ad' 4), .int (nI 0)]) ∧ ct' 4 = .inl (B.2.1 0, 15, .inl (nF (fun _ => 0))) ∧ ct' 5 = .inr (5, [.ref (ad' 6), .int (nI 0)]) ∧ ct' 6 = .inl (B.2.1 0, 15, .inl (nF (fun _ => 0))) ∧ ct' 7 = .inr (5, [.ref (ad' 8), .int (nI 0)]) ∧ ct' 8 = .inl (B.2.1 0, 30, .inl (nF (fun _ => 0))) ∧ ct' 9 = .inr (5, [.ref (ad' 10), .int (nI 0)]) ∧ ct' 10 = .inl (B.2.1 0, 40, .inl (nF (fun _ => 0))) ∧ ct' 11 = .inr (9, [.ref (ad' 12), .ref (ad' 13), .ref (ad' 14), .ref (ad' 15), .ref (ad' 16), .int 0, .int 0, .int 0, .int 0, .null, .ref (ad' 17), .ref (ad' 19), .ref (ad' 21), .ref (ad' 23), .ref (ad' 25)]) ∧ ct' 79 = .inr (0, [.ref (ad' 80), .int (nI 0), .int (nI 0), .int (nI 0), .int (nI 0)]) ∧ ct' 80 = .inl (B.2.1 1, 0, .inr (.inl (lF (fun _ => 0)))) ∧ ct' 81 = .inr (8, [.ref (ad' 82), .ref (ad' 85), .int (nI 0), .int (nI 0), .int (nI 0), .long (lN 0), .long (lN 0)]) ∧ ct' 82 = .inr (4, [.ref (ad' 83), .ref (ad' 84), .int (nI 0)]) ∧ ct' 83 = .inl (B.2.1 0, 64, .inl (nF (fun _ => 0))) ∧ ct' 84 = .inl (B.2.1 0, 64, .inl (nF (fun _ => 0))) ∧ ct' 85 = .inr (4, [.ref (ad' 86), .ref (ad' 87), .int (nI 0)]) ∧ ct' 86 = .inl (B.2.1 0, 64, .inl (nF (fun _ => 0))) ∧ ct' 87 = .inl (B.2.1 0, 64, .inl (nF (fun _ => 0))) ∧ ct' 88 = .inr (6, [.ref (ad' 89), .int 0, .int 0, .int 0, .int 0]) ∧ ct' 110 = .inr (7, [.ref (ad' 111), .ref (ad' 113)]) ∧ ct' 115 = .inr (1, [.ref (ad' 116), .ref (ad' 117), .ref (ad' 110), .int 0]) ∧ ct' 117 = .inl (B.2.1 0, 12, .inl (nF (fun _ => 0))) ∧ (∃ gt : Nat → Nat, ct' 12 = .inl (B.2.1 1, 1891, .inr (.inl (lF gt))) ∧ ∀ a b, a ≤ 60 → b ≤ a → gt (a * (a + 1) / 2 + b) = ch a b) ∧ ct' 13 = .inl (B.2.1 0, 5, .inl (nF (fun _ => 0))) ∧ ct' 14 = .inl (B.2.1 0, 5, .inl (nF (fun _ => 0))) ∧ ct' 15 = .inl (B.2.1 0, 25, .inl (nF (fun _ => 0))) ∧ ct' 16 = .inl (B.2.1 3, 26, .inr (.inr (.inr (.inr (fun i => some (ad' (27 + 2 * i))))))) ∧ (∀ i, i < 31 → isW B ad' ct' (17 + 2 * i) 0) ∧ ct' 89 = .inl (B.2.1 4, 4, .inr (.inr (.inr (.inr (fun i => some (ad' (90 + 5 * i))))))) ∧ (∀ t, t < 4 → isFr B ad' ct' (90 + 5 * t) 0 0) ∧ isW B ad' ct' 111 0 ∧ isW B ad' ct' 113 0 ∧ ct' 116 = .inl (B.2.1 4, 12, .inr (.inr (.inr (.inr (fun i => some (ad' (118 + 5 * i))))))) ∧ (∀ t, t < 12 → isFr B ad' ct' (118 + 5 * t) 0 0))) := by
  have hfra : ∀ r, r < 1 → ad r = ad r := fun _ _ => rfl
  refine Ctr.ofG (L := [(0, .ref (ad 0))]) (by decide +kernel) rfl (Nat.le_of_ble_eq_true rfl) (fun E fx rt hnm => ?_)
  refine g_aload_n fx 0 dX11_init_0 rfl ?_
  refine g_objInit fx oiX11_1 ojI ojC (by decide) (by decide) dX11_init_1 ?_
  refine g_aload_n fx 0 dX11_init_4 rfl ?_
  refine g_newo fx nwX3 clX11_7 ⟨by dsimp only; omega, by dsimp only; omega⟩ dX11_init_5 (fun ad_1 ct_1 hA_1 hC_1 hN_1 => ?_)
  refine g_same (L' := [(0, .ref (ad_1 0))]) (st' := [.ref (ad_1 1), .ref (ad_1 0)]) (by rw [hA_1 0 (by omega)]) (by rw [hA_1 0 (by omega)]) ?_
  have ho : ct_1 0 = .inr (11, [.null, .null, .null, .null, .null, .null, .null, .null, .null, .null, .null]) := (hC_1 0 (by omega)).trans ho
  have hfra : ∀ r, r < 1 → ad_1 r = ad r := fun r hp => (hA_1 r (by omega)).trans (hfra r hp)
  refine g_dup fx dX11_init_8 rfl ?_
  refine g_callIx (As := []) (rest := [.ref (ad_1 1), .ref (ad_1 0)]) fx slX11_9 (c_X3_init B ad_1 ct_1 1 hN_1) rfl rfl (Nat.le_of_ble_eq_true rfl) ⟨by dsimp only; omega, by dsimp only; omega⟩ ⟨by dsimp only; omega, by dsimp only; omega⟩ dX11_init_9 (fun adI30 ctI30 hz30 => ?_)
  obtain ⟨hAI30, hCI30, hO1, hO2⟩ := hz30
  have hO1 : ctI30 1 = .inr (3, [.ref (adI30 2), .int (nI 1), .int (nI 1)]) := hO1
  have hO2 : ctI30 2 = .inl (B.2.1 0, 25, .inl (nF (fun _ => 0))) := hO2
  have ho : ctI30 0 = .inr (11, [.null, .null, .null, .null, .null, .null, .null, .null, .null, .null, .null]) := (hCI30 0 (by omega)).trans ho
  have hfra : ∀ r, r < 1 → adI30 r = ad r := fun r hp => (hAI30 r (by omega)).trans (hfra r hp)
  refine g_same (L' := [(0, .ref (adI30 0))]) (st' := [.ref (adI30 1), .ref (adI30 0)]) (by rw [hAI30 0 (by omega)]) (by rw [hAI30 1 (by omega), hAI30 0 (by omega)]) ?_
  refine g_putF (r := 0) (fs' := [.ref (adI30 1), .null, .null, .null, .null, .null, .null, .null, .null, .null, .null]) fx hnm lpX11_10 (by omega) ho rfl rfl (Nat.le_of_ble_eq_true rfl) rfl dX11_init_12 (fun ctP30 ectP30 => ?_)
  have ho : ctP30 0 = .inr (11, [.ref (adI30 1), .null, .null, .null, .null, .null, .null, .null, .null, .null, .null]) := by rw [ectP30, va_up_self]
  have hO1 : ctP30 1 = .inr (3, [.ref (adI30 2), .int (nI 1), .int (nI 1)]) := (congrFun ectP30 _).trans ((va_up_ne _ _ (by omega)).trans hO1)
  have hO2 : ctP30 2 = .inl (B.2.1 0, 25, .inl (nF (fun _ => 0))) := (congrFun ectP30 _).trans ((va_up_ne _ _ (by omega)).trans hO2)
  refine g_aload_n fx 0 dX11_init_15 rfl ?_
  refine g_newo fx nwX5 clX11_16 ⟨by dsimp only; omega, by dsimp only; omega⟩ dX11_init_16 (fun ad_2 ct_2 hA_2 hC_2 hN_2 => ?_)
  refine g_same (L' := [(0, .ref (ad_2 0))]) (st' := [.ref (ad_2 3), .ref (ad_2 0)]) (by rw [hA_2 0 (by omega)]) (by rw [hA_2 0 (by omega)]) ?_
  have ho : ct_2 0 = .inr (11, [.ref (ad_2 1), .null, .null, .null, .null, .null, .null, .null, .null, .null, .null]) := (hC_2 0 (by omega)).trans (ho.trans (by rw [hA_2 1 (by omega)]))
  have hO1 : ct_2 1 = .inr (3, [.ref (ad_2 2), .int (nI 1), .int (nI 1)]) := (hC_2 1 (by omega)).trans (hO1.trans (by rw [hA_2 2 (by omega)]))
  have hO2 : ct_2 2 = .inl (B.2.1 0, 25, .inl (nF (fun _ => 0))) := (hC_2 2 (by omega)).trans hO2
  have hfra : ∀ r, r < 1 → ad_2 r = ad r := fun r hp => (hA_2 r (by omega)).trans (hfra r hp)
  refine g_dup fx dX11_init_19 rfl ?_
  refine g_bipush (v := nI 15) fx dX11_init_20 (by decide +kernel) ?_
  refine g_callIx (As := [.int (nI 15)]) (rest := [.ref (ad_2 3), .ref (ad_2 0)]) fx slX11_18 (c_X5_init B ad_2 ct_2 3 hN_2 15 (by omega)) rfl rfl (Nat.le_of_ble_eq_true rfl) ⟨by dsimp only; omega, by dsimp only; omega⟩ ⟨by dsimp only; omega, by dsimp only; omega⟩ dX11_init_22 (fun adI31 ctI31 hz31 => ?_)
  obtain ⟨hAI31, hCI31, hO3, hO4⟩ := hz31
  have hO3 : ctI31 3 = .inr (5, [.ref (adI31 4), .int (nI 0)]) := hO3
  have hO4 : ctI31 4 = .inl (B.2.1 0, 15, .inl (nF (fun _ => 0))) := hO4
  have ho : ctI31 0 = .inr (11, [.ref (adI31 1), .null, .null, .null, .null, .null, .null, .null, .null, .null, .null]) := (hCI31 0 (by omega)).trans (ho.trans (by rw [hAI31 1 (by omega)]))
  have hO1 : ctI31 1 = .inr (3, [.ref (adI31 2), .int (nI 1), .int (nI 1)]) := (hCI31 1 (by omega)).trans (hO1.trans (by rw [hAI31 2 (by omega)]))
  have hO2 : ctI31 2 = .inl (B.2.1 0, 25, .inl (nF (fun _ => 0))) := (hCI31 2 (by omega)).trans hO2
  have hfra : ∀ r, r < 1 → adI31 r = ad r := fun r hp => (hAI31 r (by omega)).trans (hfra r hp)
  refine g_same (L' := [(0, .ref (adI31 0))]) (st' := [.ref (adI31 3), .ref (adI31 0)]) (by rw [hAI31 0 (by omega)]) (by rw [hAI31 3 (by omega), hAI31 0 (by omega)]) ?_
  refine g_putF (r := 0) (fs' := [.ref (adI31 1), .ref (adI31 3), .null, .null, .null, .null, .null, .null, .null, .null, .null]) fx hnm lpX11_21 (by omega) ho rfl rfl (Nat.le_of_ble_eq_true rfl) rfl dX11_init_25 (fun ctP31 ectP31 => ?_)
  have ho : ctP31 0 = .inr (11, [.ref (adI31 1), .ref (adI31 3), .null, .null, .null, .null, .null, .null, .null, .null, .null]) := by rw [ectP31, va_up_self]
  have hO1 : ctP31 1 = .inr (3, [.ref (adI31 2), .int (nI 1), .int (nI 1)]) := (congrFun ectP31 _).trans ((va_up_ne _ _ (by omega)).trans hO1)
  have hO2 : ctP31 2 = .inl (B.2.1 0, 25, .inl (nF (fun _ => 0))) := (congrFun ectP31 _).trans ((va_up_ne _ _ (by omega)).trans hO2)
  have hO3 : ctP31 3 = .inr (5, [.ref (adI31 4), .int (nI 0)]) := (congrFun ectP31 _).trans ((va_up_ne _ _ (by omega)).trans hO3)
  have hO4 : ctP31 4 = .inl (B.2.1 0, 15, .inl (nF (fun _ => 0))) := (congrFun ectP31 _).trans ((va_up_ne _ _ (by omega)).trans hO4)
  refine g_aload_n fx 0 dX11_init_28 rfl ?_
  refine g_newo fx nwX5 clX11_16 ⟨by dsimp only; omega, by dsimp only; omega⟩ dX11_init_29 (fun ad_3 ct_3 hA_3 hC_3 hN_3 => ?_)
  refine g_same (L' := [(0, .ref (ad_3 0))]) (st' := [.ref (ad_3 5), .ref (ad_3 0)]) (by rw [hA_3 0 (by omega)]) (by rw [hA_3 0 (by omega)]) ?_
  have ho : ct_3 0 = .inr (11, [.ref (ad_3 1), .ref (ad_3 3), .null, .null, .null, .null, .null, .null, .null, .null, .null]) := (hC_3 0 (by omega)).trans (ho.trans (by rw [hA_3 1 (by omega), hA_3 3 (by omega)]))
  have hO1 : ct_3 1 = .inr (3, [.ref (ad_3 2), .int (nI 1), .int (nI 1)]) := (hC_3 1 (by omega)).trans (hO1.trans (by rw [hA_3 2 (by omega)]))
  have hO2 : ct_3 2 = .inl (B.2.1 0, 25, .inl (nF (fun _ => 0))) := (hC_3 2 (by omega)).trans hO2
  have hO3 : ct_3 3 = .inr (5, [.ref (ad_3 4), .int (nI 0)]) := (hC_3 3 (by omega)).trans (hO3.trans (by rw [hA_3 4 (by omega)]))
  have hO4 : ct_3 4 = .inl (B.2.1 0, 15, .inl (nF (fun _ => 0))) := (hC_3 4 (by omega)).trans hO4
  have hfra : ∀ r, r < 1 → ad_3 r = ad r := fun r hp => (hA_3 r (by omega)).trans (hfra r hp)
  refine g_dup fx dX11_init_32 rfl ?_
  refine g_bipush (v := nI 15) fx dX11_init_33 (by decide +kernel) ?_
  refine g_callIx (As := [.int (nI 15)]) (rest := [.ref (ad_3 5), .ref (ad_3 0)]) fx slX11_18 (c_X5_init B ad_3 ct_3 5 hN_3 15 (by omega)) rfl rfl (Nat.le_of_ble_eq_true rfl) ⟨by dsimp only; omega, by dsimp only; omega⟩ ⟨by dsimp only; omega, by dsimp only; omega⟩ dX11_init_35 (fun adI32 ctI32 hz32 => ?_)
  obtain ⟨hAI32, hCI32, hO5, hO6⟩ := hz32
  have hO5 : ctI32 5 = .inr (5, [.ref (adI32 6), .int (nI 0)]) := hO5
  have hO6 : ctI32 6 = .inl (B.2.1 0, 15, .inl (nF (fun _ => 0))) := hO6
  have ho : ctI32 0 = .inr (11, [.ref (adI32 1), .ref (adI32 3), .null, .null, .null, .null, .null, .null, .null, .null, .null]) := (hCI32 0 (by omega)).trans (ho.trans (by rw [hAI32 1 (by omega), hAI32 3 (by omega)]))
  have hO1 : ctI32 1 = .inr (3, [.ref (adI32 2), .int (nI 1), .int (nI 1)]) := (hCI32 1 (by omega)).trans (hO1.trans (by rw [hAI32 2 (by omega)]))
  have hO2 : ctI32 2 = .inl (B.2.1 0, 25, .inl (nF (fun _ => 0))) := (hCI32 2 (by omega)).trans hO2
  have hO3 : ctI32 3 = .inr (5, [.ref (adI32 4), .int (nI 0)]) := (hCI32 3 (by omega)).trans (hO3.trans (by rw [hAI32 4 (by omega)]))
  have hO4 : ctI32 4 = .inl (B.2.1 0, 15, .inl (nF (fun _ => 0))) := (hCI32 4 (by omega)).trans hO4
  have hfra : ∀ r, r < 1 → adI32 r = ad r := fun r hp => (hAI32 r (by omega)).trans (hfra r hp)
  refine g_same (L' := [(0, .ref (adI32 0))]) (st' := [.ref (adI32 5), .ref (adI32 0)]) (by rw [hAI32 0 (by omega)]) (by rw [hAI32 5 (by omega), hAI32 0 (by omega)]) ?_
  refine g_putF (r := 0) (fs' := [.ref (adI32 1), .ref (adI32 3), .ref (adI32 5), .null, .null, .null, .null, .null, .null, .null, .null]) fx hnm lpX11_25 (by omega) ho rfl rfl (Nat.le_of_ble_eq_true rfl) rfl dX11_init_38 (fun ctP32 ectP32 => ?_)
  have ho : ctP32 0 = .inr (11, [.ref (adI32 1), .ref (adI32 3), .ref (adI32 5), .null, .null, .null, .null, .null, .null, .null, .null]) := by rw [ectP32, va_up_self]
  have hO1 : ctP32 1 = .inr (3, [.ref (adI32 2), .int (nI 1), .int (nI 1)]) := (congrFun ectP32 _).trans ((va_up_ne _ _ (by omega)).trans hO1)
  have hO2 : ctP32 2 = .inl (B.2.1 0, 25, .inl (nF (fun _ => 0))) := (congrFun ectP32 _).trans ((va_up_ne _ _ (by omega)).trans hO2)
  have hO3 : ctP32 3 = .inr (5, [.ref (adI32 4), .int (nI 0)]) := (congrFun ectP32 _).trans ((va_up_ne _ _ (by omega)).trans hO3)
  have hO4 : ctP32 4 = .inl (B.2.1 0, 15, .inl (nF (fun _ => 0))) := (congrFun ectP32 _).trans ((va_up_ne _ _ (by omega)).trans hO4)
  have hO5 : ctP32 5 = .inr (5, [.ref (adI32 6), .int (nI 0)]) := (congrFun ectP32 _).trans ((va_up_ne _ _ (by omega)).trans hO5)
  have hO6 : ctP32 6 = .inl (B.2.1 0, 15, .inl (nF (fun _ => 0))) := (congrFun ectP32 _).trans ((va_up_ne _ _ (by omega)).trans hO6)
  refine g_aload_n fx 0 dX11_init_41 rfl ?_
  refine g_newo fx nwX5 clX11_16 ⟨by dsimp only; omega, by dsimp only; omega⟩ dX11_init_42 (fun ad_4 ct_4 hA_4 hC_4 hN_4 => ?_)
  refine g_same (L' := [(0, .ref (ad_4 0))]) (st' := [.ref (ad_4 7), .ref (ad_4 0)]) (by rw [hA_4 0 (by omega)]) (by rw [hA_4 0 (by omega)]) ?_
  have ho : ct_4 0 = .inr (11, [.ref (ad_4 1), .ref (ad_4 3), .ref (ad_4 5), .null, .null, .null, .null, .null, .null, .null, .null]) := (hC_4 0 (by omega)).trans (ho.trans (by rw [hA_4 1 (by omega), hA_4 3 (by omega), hA_4 5 (by omega)]))
  have hO1 : ct_4 1 = .inr (3, [.ref (ad_4 2), .int (nI 1), .int (nI 1)]) := (hC_4 1 (by omega)).trans (hO1.trans (by rw [hA_4 2 (by omega)]))
  have hO2 : ct_4 2 = .inl (B.2.1 0, 25, .inl (nF (fun _ => 0))) := (hC_4 2 (by omega)).trans hO2
  have hO3 : ct_4 3 = .inr (5, [.ref (ad_4 4), .int (nI 0)]) := (hC_4 3 (by omega)).trans (hO3.trans (by rw [hA_4 4 (by omega)]))
  have hO4 : ct_4 4 = .inl (B.2.1 0, 15, .inl (nF (fun _ => 0))) := (hC_4 4 (by omega)).trans hO4
  have hO5 : ct_4 5 = .inr (5, [.ref (ad_4 6), .int (nI 0)]) := (hC_4 5 (by omega)).trans (hO5.trans (by rw [hA_4 6 (by omega)]))
  have hO6 : ct_4 6 = .inl (B.2.1 0, 15, .inl (nF (fun _ => 0))) := (hC_4 6 (by omega)).trans hO6
  have hfra : ∀ r, r < 1 → ad_4 r = ad r := fun r hp => (hA_4 r (by omega)).trans (hfra r hp)
  refine g_dup fx dX11_init_45 rfl ?_
  refine g_bipush (v := nI 30) fx dX11_init_46 (by decide +kernel) ?_
  refine g_callIx (As := [.int (nI 30)]) (rest := [.ref (ad_4 7), .ref (ad_4 0)]) fx slX11_18 (c_X5_init B ad_4 ct_4 7 hN_4 30 (by omega)) rfl rfl (Nat.le_of_ble_eq_true rfl) ⟨by dsimp only; omega, by dsimp only; omega⟩ ⟨by dsimp only; omega, by dsimp only; omega⟩ dX11_init_48 (fun adI33 ctI33 hz33 => ?_)
  obtain ⟨hAI33, hCI33, hO7, hO8⟩ := hz33
  have hO7 : ctI33 7 = .inr (5, [.ref (adI33 8), .int (nI 0)]) := hO7
  have hO8 : ctI33 8 = .inl (B.2.1 0, 30, .inl (nF (fun _ => 0))) := hO8
  have ho : ctI33 0 = .inr (11, [.ref (adI33 1), .ref (adI33 3), .ref (adI33 5), .null, .null, .null, .null, .null, .null, .null, .null]) := (hCI33 0 (by omega)).trans (ho.trans (by rw [hAI33 1 (by omega), hAI33 3 (by omega), hAI33 5 (by omega)]))
  have hO1 : ctI33 1 = .inr (3, [.ref (adI33 2), .int (nI 1), .int (nI 1)]) := (hCI33 1 (by omega)).trans (hO1.trans (by rw [hAI33 2 (by omega)]))
  have hO2 : ctI33 2 = .inl (B.2.1 0, 25, .inl (nF (fun _ => 0))) := (hCI33 2 (by omega)).trans hO2
  have hO3 : ctI33 3 = .inr (5, [.ref (adI33 4), .int (nI 0)]) := (hCI33 3 (by omega)).trans (hO3.trans (by rw [hAI33 4 (by omega)]))
  have hO4 : ctI33 4 = .inl (B.2.1 0, 15, .inl (nF (fun _ => 0))) := (hCI33 4 (by omega)).trans hO4
  have hO5 : ctI33 5 = .inr (5, [.ref (adI33 6), .int (nI 0)]) := (hCI33 5 (by omega)).trans (hO5.trans (by rw [hAI33 6 (by omega)]))
  have hO6 : ctI33 6 = .inl (B.2.1 0, 15, .inl (nF (fun _ => 0))) := (hCI33 6 (by omega)).trans hO6
  have hfra : ∀ r, r < 1 → adI33 r = ad r := fun r hp => (hAI33 r (by omega)).trans (hfra r hp)
  refine g_same (L' := [(0, .ref (adI33 0))]) (st' := [.ref (adI33 7), .ref (adI33 0)]) (by rw [hAI33 0 (by omega)]) (by rw [hAI33 7 (by omega), hAI33 0 (by omega)]) ?_
  refine g_putF (r := 0) (fs' := [.ref (adI33 1), .ref (adI33 3), .ref (adI33 5), .ref (adI33 7), .null, .null, .null, .null, .null, .null, .null]) fx hnm lpX11_28 (by omega) ho rfl rfl (Nat.le_of_ble_eq_true rfl) rfl dX11_init_51 (fun ctP33 ectP33 => ?_)
  have ho : ctP33 0 = .inr (11, [.ref (adI33 1), .ref (adI33 3), .ref (adI33 5), .ref (adI33 7), .null, .null, .null, .null, .null, .null, .null]) := by rw [ectP33, va_up_self]
  have hO1 : ctP33 1 = .inr (3, [.ref (adI33 2), .int (nI 1), .int (nI 1)]) := (congrFun ectP33 _).trans ((va_up_ne _ _ (by omega)).trans hO1)
  have hO2 : ctP33 2 = .inl (B.2.1 0, 25, .inl (nF (fun _ => 0))) := (congrFun ectP33 _).trans ((va_up_ne _ _ (by omega)).trans hO2)
  have hO3 : ctP33 3 = .inr (5, [.ref (adI33 4), .int (nI 0)]) := (congrFun ectP33 _).trans ((va_up_ne _ _ (by omega)).trans hO3)
  have hO4 : ctP33 4 = .inl (B.2.1 0, 15, .inl (nF (fun _ => 0))) := (congrFun ectP33 _).trans ((va_up_ne _ _ (by omega)).trans hO4)
  have hO5 : ctP33 5 = .inr (5, [.ref (adI33 6), .int (nI 0)]) := (congrFun ectP33 _).trans ((va_up_ne _ _ (by omega)).trans hO5)
  have hO6 : ctP33 6 = .inl (B.2.1 0, 15, .inl (nF (fun _ => 0))) := (congrFun ectP33 _).trans ((va_up_ne _ _ (by omega)).trans hO6)
  have hO7 : ctP33 7 = .inr (5, [.ref (adI33 8), .int (nI 0)]) := (congrFun ectP33 _).trans ((va_up_ne _ _ (by omega)).trans hO7)
  have hO8 : ctP33 8 = .inl (B.2.1 0, 30, .inl (nF (fun _ => 0))) := (congrFun ectP33 _).trans ((va_up_ne _ _ (by omega)).trans hO8)
  refine g_aload_n fx 0 dX11_init_54 rfl ?_
  refine g_newo fx nwX5 clX11_16 ⟨by dsimp only; omega, by dsimp only; omega⟩ dX11_init_55 (fun ad_5 ct_5 hA_5 hC_5 hN_5 => ?_)
  refine g_same (L' := [(0, .ref (ad_5 0))]) (st' := [.ref (ad_5 9), .ref (ad_5 0)]) (by rw [hA_5 0 (by omega)]) (by rw [hA_5 0 (by omega)]) ?_
  have ho : ct_5 0 = .inr (11, [.ref (ad_5 1), .ref (ad_5 3), .ref (ad_5 5), .ref (ad_5 7), .null, .null, .null, .null, .null, .null, .null]) := (hC_5 0 (by omega)).trans (ho.trans (by rw [hA_5 1 (by omega), hA_5 3 (by omega), hA_5 5 (by omega), hA_5 7 (by omega)]))
  have hO1 : ct_5 1 = .inr (3, [.ref (ad_5 2), .int (nI 1), .int (nI 1)]) := (hC_5 1 (by omega)).trans (hO1.trans (by rw [hA_5 2 (by omega)]))
  have hO2 : ct_5 2 = .inl (B.2.1 0, 25, .inl (nF (fun _ => 0))) := (hC_5 2 (by omega)).trans hO2
  have hO3 : ct_5 3 = .inr (5, [.ref (ad_5 4), .int (nI 0)]) := (hC_5 3 (by omega)).trans (hO3.trans (by rw [hA_5 4 (by omega)]))
  have hO4 : ct_5 4 = .inl (B.2.1 0, 15, .inl (nF (fun _ => 0))) := (hC_5 4 (by omega)).trans hO4
  have hO5 : ct_5 5 = .inr (5, [.ref (ad_5 6), .int (nI 0)]) := (hC_5 5 (by omega)).trans (hO5.trans (by rw [hA_5 6 (by omega)]))
  have hO6 : ct_5 6 = .inl (B.2.1 0, 15, .inl (nF (fun _ => 0))) := (hC_5 6 (by omega)).trans hO6
  have hO7 : ct_5 7 = .inr (5, [.ref (ad_5 8), .int (nI 0)]) := (hC_5 7 (by omega)).trans (hO7.trans (by rw [hA_5 8 (by omega)]))
  have hO8 : ct_5 8 = .inl (B.2.1 0, 30, .inl (nF (fun _ => 0))) := (hC_5 8 (by omega)).trans hO8
  have hfra : ∀ r, r < 1 → ad_5 r = ad r := fun r hp => (hA_5 r (by omega)).trans (hfra r hp)
  refine g_dup fx dX11_init_58 rfl ?_
  refine g_bipush (v := nI 40) fx dX11_init_59 (by decide +kernel) ?_
  refine g_callIx (As := [.int (nI 40)]) (rest := [.ref (ad_5 9), .ref (ad_5 0)]) fx slX11_18 (c_X5_init B ad_5 ct_5 9 hN_5 40 (by omega)) rfl rfl (Nat.le_of_ble_eq_true rfl) ⟨by dsimp only; omega, by dsimp only; omega⟩ ⟨by dsimp only; omega, by dsimp only; omega⟩ dX11_init_61 (fun adI34 ctI34 hz34 => ?_)
  obtain ⟨hAI34, hCI34, hO9, hO10⟩ := hz34
  have hO9 : ctI34 9 = .inr (5, [.ref (adI34 10), .int (nI 0)]) := hO9
  have hO10 : ctI34 10 = .inl (B.2.1 0, 40, .inl (nF (fun _ => 0))) := hO10
  have ho : ctI34 0 = .inr (11, [.ref (adI34 1), .ref (adI34 3), .ref (adI34 5), .ref (adI34 7), .null, .null, .null, .null, .null, .null, .null]) := (hCI34 0 (by omega)).trans (ho.trans (by rw [hAI34 1 (by omega), hAI34 3 (by omega), hAI34 5 (by omega), hAI34 7 (by omega)]))
  have hO1 : ctI34 1 = .inr (3, [.ref (adI34 2), .int (nI 1), .int (nI 1)]) := (hCI34 1 (by omega)).trans (hO1.trans (by rw [hAI34 2 (by omega)]))
  have hO2 : ctI34 2 = .inl (B.2.1 0, 25, .inl (nF (fun _ => 0))) := (hCI34 2 (by omega)).trans hO2
  have hO3 : ctI34 3 = .inr (5, [.ref (adI34 4), .int (nI 0)]) := (hCI34 3 (by omega)).trans (hO3.trans (by rw [hAI34 4 (by omega)]))
  have hO4 : ctI34 4 = .inl (B.2.1 0, 15, .inl (nF (fun _ => 0))) := (hCI34 4 (by omega)).trans hO4
  have hO5 : ctI34 5 = .inr (5, [.ref (adI34 6), .int (nI 0)]) := (hCI34 5 (by omega)).trans (hO5.trans (by rw [hAI34 6 (by omega)]))
  have hO6 : ctI34 6 = .inl (B.2.1 0, 15, .inl (nF (fun _ => 0))) := (hCI34 6 (by omega)).trans hO6
  have hO7 : ctI34 7 = .inr (5, [.ref (adI34 8), .int (nI 0)]) := (hCI34 7 (by omega)).trans (hO7.trans (by rw [hAI34 8 (by omega)]))
  have hO8 : ctI34 8 = .inl (B.2.1 0, 30, .inl (nF (fun _ => 0))) := (hCI34 8 (by omega)).trans hO8
  have hfra : ∀ r, r < 1 → adI34 r = ad r := fun r hp => (hAI34 r (by omega)).trans (hfra r hp)
  refine g_same (L' := [(0, .ref (adI34 0))]) (st' := [.ref (adI34 9), .ref (adI34 0)]) (by rw [hAI34 0 (by omega)]) (by rw [hAI34 9 (by omega), hAI34 0 (by omega)]) ?_
  refine g_putF (r := 0) (fs' := [.ref (adI34 1), .ref (adI34 3), .ref (adI34 5), .ref (adI34 7), .ref (adI34 9), .null, .null, .null, .null, .null, .null]) fx hnm lpX11_31 (by omega) ho rfl rfl (Nat.le_of_ble_eq_true rfl) rfl dX11_init_64 (fun ctP34 ectP34 => ?_)
  have ho : ctP34 0 = .inr (11, [.ref (adI34 1), .ref (adI34 3), .ref (adI34 5), .ref (adI34 7), .ref (adI34 9), .null, .null, .null, .null, .null, .null]) := by rw [ectP34, va_up_self]
  have hO1 : ctP34 1 = .inr (3, [.ref (adI34 2), .int (nI 1), .int (nI 1)]) := (congrFun ectP34 _).trans ((va_up_ne _ _ (by omega)).trans hO1)
  have hO2 : ctP34 2 = .inl (B.2.1 0, 25, .inl (nF (fun _ => 0))) := (congrFun ectP34 _).trans ((va_up_ne _ _ (by omega)).trans hO2)
  have hO3 : ctP34 3 = .inr (5, [.ref (adI34 4), .int (nI 0)]) := (congrFun ectP34 _).trans ((va_up_ne _ _ (by omega)).trans hO3)
  have hO4 : ctP34 4 = .inl (B.2.1 0, 15, .inl (nF (fun _ => 0))) := (congrFun ectP34 _).trans ((va_up_ne _ _ (by omega)).trans hO4)
  have hO5 : ctP34 5 = .inr (5, [.ref (adI34 6), .int (nI 0)]) := (congrFun ectP34 _).trans ((va_up_ne _ _ (by omega)).trans hO5)
  have hO6 : ctP34 6 = .inl (B.2.1 0, 15, .inl (nF (fun _ => 0))) := (congrFun ectP34 _).trans ((va_up_ne _ _ (by omega)).trans hO6)
  have hO7 : ctP34 7 = .inr (5, [.ref (adI34 8), .int (nI 0)]) := (congrFun ectP34 _).trans ((va_up_ne _ _ (by omega)).trans hO7)
  have hO8 : ctP34 8 = .inl (B.2.1 0, 30, .inl (nF (fun _ => 0))) := (congrFun ectP34 _).trans ((va_up_ne _ _ (by omega)).trans hO8)
  have hO9 : ctP34 9 = .inr (5, [.ref (adI34 10), .int (nI 0)]) := (congrFun ectP34 _).trans ((va_up_ne _ _ (by omega)).trans hO9)
  have hO10 : ctP34 10 = .inl (B.2.1 0, 40, .inl (nF (fun _ => 0))) := (congrFun ectP34 _).trans ((va_up_ne _ _ (by omega)).trans hO10)
  refine g_aload_n fx 0 dX11_init_67 rfl ?_
  refine g_newo fx nwX9 clX11_34 ⟨by dsimp only; omega, by dsimp only; omega⟩ dX11_init_68 (fun ad_6 ct_6 hA_6 hC_6 hN_6 => ?_)
  refine g_same (L' := [(0, .ref (ad_6 0))]) (st' := [.ref (ad_6 11), .ref (ad_6 0)]) (by rw [hA_6 0 (by omega)]) (by rw [hA_6 0 (by omega)]) ?_
  have ho : ct_6 0 = .inr (11, [.ref (ad_6 1), .ref (ad_6 3), .ref (ad_6 5), .ref (ad_6 7), .ref (ad_6 9), .null, .null, .null, .null, .null, .null]) := (hC_6 0 (by omega)).trans (ho.trans (by rw [hA_6 1 (by omega), hA_6 3 (by omega), hA_6 5 (by omega), hA_6 7 (by omega), hA_6 9 (by omega)]))
  have hO1 : ct_6 1 = .inr (3, [.ref (ad_6 2), .int (nI 1), .int (nI 1)]) := (hC_6 1 (by omega)).trans (hO1.trans (by rw [hA_6 2 (by omega)]))
  have hO2 : ct_6 2 = .inl (B.2.1 0, 25, .inl (nF (fun _ => 0))) := (hC_6 2 (by omega)).trans hO2
  have hO3 : ct_6 3 = .inr (5, [.ref (ad_6 4), .int (nI 0)]) := (hC_6 3 (by omega)).trans (hO3.trans (by rw [hA_6 4 (by omega)]))
  have hO4 : ct_6 4 = .inl (B.2.1 0, 15, .inl (nF (fun _ => 0))) := (hC_6 4 (by omega)).trans hO4
  have hO5 : ct_6 5 = .inr (5, [.ref (ad_6 6), .int (nI 0)]) := (hC_6 5 (by omega)).trans (hO5.trans (by rw [hA_6 6 (by omega)]))
  have hO6 : ct_6 6 = .inl (B.2.1 0, 15, .inl (nF (fun _ => 0))) := (hC_6 6 (by omega)).trans hO6
  have hO7 : ct_6 7 = .inr (5, [.ref (ad_6 8), .int (nI 0)]) := (hC_6 7 (by omega)).trans (hO7.trans (by rw [hA_6 8 (by omega)]))
  have hO8 : ct_6 8 = .inl (B.2.1 0, 30, .inl (nF (fun _ => 0))) := (hC_6 8 (by omega)).trans hO8
  have hO9 : ct_6 9 = .inr (5, [.ref (ad_6 10), .int (nI 0)]) := (hC_6 9 (by omega)).trans (hO9.trans (by rw [hA_6 10 (by omega)]))
  have hO10 : ct_6 10 = .inl (B.2.1 0, 40, .inl (nF (fun _ => 0))) := (hC_6 10 (by omega)).trans hO10
  have hfra : ∀ r, r < 1 → ad_6 r = ad r := fun r hp => (hA_6 r (by omega)).trans (hfra r hp)
  refine g_dup fx dX11_init_71 rfl ?_
  refine g_callIx (As := []) (rest := [.ref (ad_6 11), .ref (ad_6 0)]) fx slX11_36 (c_X9_init B ad_6 ct_6 11 hN_6) rfl rfl (Nat.le_of_ble_eq_true rfl) ⟨by dsimp only; omega, by dsimp only; omega⟩ ⟨by dsimp only; omega, by dsimp only; omega⟩ dX11_init_72 (fun adI35 ctI35 hz35 => ?_)
  obtain ⟨hAI35, hCI35, hO11, hWk⟩ := hz35
  have hO11 : ctI35 11 = .inr (9, [.ref (adI35 12), .ref (adI35 13), .ref (adI35 14), .ref (adI35 15), .ref (adI35 16), .int 0, .int 0, .int 0, .int 0, .null, .ref (adI35 17), .ref (adI35 19), .ref (adI35 21), .ref (adI35 23), .ref (adI35 25)]) := hO11
  have ho : ctI35 0 = .inr (11, [.ref (adI35 1), .ref (adI35 3), .ref (adI35 5), .ref (adI35 7), .ref (adI35 9), .null, .null, .null, .null, .null, .null]) := (hCI35 0 (by omega)).trans (ho.trans (by rw [hAI35 1 (by omega), hAI35 3 (by omega), hAI35 5 (by omega), hAI35 7 (by omega), hAI35 9 (by omega)]))
  have hO1 : ctI35 1 = .inr (3, [.ref (adI35 2), .int (nI 1), .int (nI 1)]) := (hCI35 1 (by omega)).trans (hO1.trans (by rw [hAI35 2 (by omega)]))
  have hO2 : ctI35 2 = .inl (B.2.1 0, 25, .inl (nF (fun _ => 0))) := (hCI35 2 (by omega)).trans hO2
  have hO3 : ctI35 3 = .inr (5, [.ref (adI35 4), .int (nI 0)]) := (hCI35 3 (by omega)).trans (hO3.trans (by rw [hAI35 4 (by omega)]))
  have hO4 : ctI35 4 = .inl (B.2.1 0, 15, .inl (nF (fun _ => 0))) := (hCI35 4 (by omega)).trans hO4
  have hO5 : ctI35 5 = .inr (5, [.ref (adI35 6), .int (nI 0)]) := (hCI35 5 (by omega)).trans (hO5.trans (by rw [hAI35 6 (by omega)]))
  have hO6 : ctI35 6 = .inl (B.2.1 0, 15, .inl (nF (fun _ => 0))) := (hCI35 6 (by omega)).trans hO6
  have hO7 : ctI35 7 = .inr (5, [.ref (adI35 8), .int (nI 0)]) := (hCI35 7 (by omega)).trans (hO7.trans (by rw [hAI35 8 (by omega)]))
  have hO8 : ctI35 8 = .inl (B.2.1 0, 30, .inl (nF (fun _ => 0))) := (hCI35 8 (by omega)).trans hO8
  have hO9 : ctI35 9 = .inr (5, [.ref (adI35 10), .int (nI 0)]) := (hCI35 9 (by omega)).trans (hO9.trans (by rw [hAI35 10 (by omega)]))
  have hO10 : ctI35 10 = .inl (B.2.1 0, 40, .inl (nF (fun _ => 0))) := (hCI35 10 (by omega)).trans hO10
  have hfra : ∀ r, r < 1 → adI35 r = ad r := fun r hp => (hAI35 r (by omega)).trans (hfra r hp)
  refine g_same (L' := [(0, .ref (adI35 0))]) (st' := [.ref (adI35 11), .ref (adI35 0)]) (by rw [hAI35 0 (by omega)]) (by rw [hAI35 11 (by omega), hAI35 0 (by omega)]) ?_
  refine g_putF (r := 0) (fs' := [.ref (adI35 1), .ref (adI35 3), .ref (adI35 5), .ref (adI35 7), .ref (adI35 9), .ref (adI35 11), .null, .null, .null, .null, .null]) fx hnm lpX11_37 (by omega) ho rfl rfl (Nat.le_of_ble_eq_true rfl) rfl dX11_init_75 (fun ctP35 ectP35 => ?_)
  have ho : ctP35 0 = .inr (11, [.ref (adI35 1), .ref (adI35 3), .ref (adI35 5), .ref (adI35 7), .ref (adI35 9), .ref (adI35 11), .null, .null, .null, .null, .null]) := by rw [ectP35, va_up_self]
  have hO1 : ctP35 1 = .inr (3, [.ref (adI35 2), .int (nI 1), .int (nI 1)]) := (congrFun ectP35 _).trans ((va_up_ne _ _ (by omega)).trans hO1)
  have hO2 : ctP35 2 = .inl (B.2.1 0, 25, .inl (nF (fun _ => 0))) := (congrFun ectP35 _).trans ((va_up_ne _ _ (by omega)).trans hO2)
  have hO3 : ctP35 3 = .inr (5, [.ref (adI35 4), .int (nI 0)]) := (congrFun ectP35 _).trans ((va_up_ne _ _ (by omega)).trans hO3)
  have hO4 : ctP35 4 = .inl (B.2.1 0, 15, .inl (nF (fun _ => 0))) := (congrFun ectP35 _).trans ((va_up_ne _ _ (by omega)).trans hO4)
  have hO5 : ctP35 5 = .inr (5, [.ref (adI35 6), .int (nI 0)]) := (congrFun ectP35 _).trans ((va_up_ne _ _ (by omega)).trans hO5)
  have hO6 : ctP35 6 = .inl (B.2.1 0, 15, .inl (nF (fun _ => 0))) := (congrFun ectP35 _).trans ((va_up_ne _ _ (by omega)).trans hO6)
  have hO7 : ctP35 7 = .inr (5, [.ref (adI35 8), .int (nI 0)]) := (congrFun ectP35 _).trans ((va_up_ne _ _ (by omega)).trans hO7)
  have hO8 : ctP35 8 = .inl (B.2.1 0, 30, .inl (nF (fun _ => 0))) := (congrFun ectP35 _).trans ((va_up_ne _ _ (by omega)).trans hO8)
  have hO9 : ctP35 9 = .inr (5, [.ref (adI35 10), .int (nI 0)]) := (congrFun ectP35 _).trans ((va_up_ne _ _ (by omega)).trans hO9)
  have hO10 : ctP35 10 = .inl (B.2.1 0, 40, .inl (nF (fun _ => 0))) := (congrFun ectP35 _).trans ((va_up_ne _ _ (by omega)).trans hO10)
  have hO11 : ctP35 11 = .inr (9, [.ref (adI35 12), .ref (adI35 13), .ref (adI35 14), .ref (adI35 15), .ref (adI35 16), .int 0, .int 0, .int 0, .int 0, .null, .ref (adI35 17), .ref (adI35 19), .ref (adI35 21), .ref (adI35 23), .ref (adI35 25)]) := (congrFun ectP35 _).trans ((va_up_ne _ _ (by omega)).trans hO11)
  have hWk : iWk B adI35 ctP35 11 := hWk.move (fun r h1 h2 => rfl) (fun r h1 h2 => by rw [ectP35, va_up_ne _ _ (by omega)])
  refine g_aload_n fx 0 dX11_init_78 rfl ?_
  refine g_newo fx nwX0 clX11_41 ⟨by dsimp only; omega, by dsimp only; omega⟩ dX11_init_79 (fun ad_7 ct_7 hA_7 hC_7 hN_7 => ?_)
  refine g_same (L' := [(0, .ref (ad_7 0))]) (st' := [.ref (ad_7 79), .ref (ad_7 0)]) (by rw [hA_7 0 (by omega)]) (by rw [hA_7 0 (by omega)]) ?_
  have ho : ct_7 0 = .inr (11, [.ref (ad_7 1), .ref (ad_7 3), .ref (ad_7 5), .ref (ad_7 7), .ref (ad_7 9), .ref (ad_7 11), .null, .null, .null, .null, .null]) := (hC_7 0 (by omega)).trans (ho.trans (by rw [hA_7 1 (by omega), hA_7 3 (by omega), hA_7 5 (by omega), hA_7 7 (by omega), hA_7 9 (by omega), hA_7 11 (by omega)]))
  have hO1 : ct_7 1 = .inr (3, [.ref (ad_7 2), .int (nI 1), .int (nI 1)]) := (hC_7 1 (by omega)).trans (hO1.trans (by rw [hA_7 2 (by omega)]))
  have hO2 : ct_7 2 = .inl (B.2.1 0, 25, .inl (nF (fun _ => 0))) := (hC_7 2 (by omega)).trans hO2
  have hO3 : ct_7 3 = .inr (5, [.ref (ad_7 4), .int (nI 0)]) := (hC_7 3 (by omega)).trans (hO3.trans (by rw [hA_7 4 (by omega)]))
  have hO4 : ct_7 4 = .inl (B.2.1 0, 15, .inl (nF (fun _ => 0))) := (hC_7 4 (by omega)).trans hO4
  have hO5 : ct_7 5 = .inr (5, [.ref (ad_7 6), .int (nI 0)]) := (hC_7 5 (by omega)).trans (hO5.trans (by rw [hA_7 6 (by omega)]))
  have hO6 : ct_7 6 = .inl (B.2.1 0, 15, .inl (nF (fun _ => 0))) := (hC_7 6 (by omega)).trans hO6
  have hO7 : ct_7 7 = .inr (5, [.ref (ad_7 8), .int (nI 0)]) := (hC_7 7 (by omega)).trans (hO7.trans (by rw [hA_7 8 (by omega)]))
  have hO8 : ct_7 8 = .inl (B.2.1 0, 30, .inl (nF (fun _ => 0))) := (hC_7 8 (by omega)).trans hO8
  have hO9 : ct_7 9 = .inr (5, [.ref (ad_7 10), .int (nI 0)]) := (hC_7 9 (by omega)).trans (hO9.trans (by rw [hA_7 10 (by omega)]))
  have hO10 : ct_7 10 = .inl (B.2.1 0, 40, .inl (nF (fun _ => 0))) := (hC_7 10 (by omega)).trans hO10
  have hO11 : ct_7 11 = .inr (9, [.ref (ad_7 12), .ref (ad_7 13), .ref (ad_7 14), .ref (ad_7 15), .ref (ad_7 16), .int 0, .int 0, .int 0, .int 0, .null, .ref (ad_7 17), .ref (ad_7 19), .ref (ad_7 21), .ref (ad_7 23), .ref (ad_7 25)]) := (hC_7 11 (by omega)).trans (hO11.trans (by rw [hA_7 12 (by omega), hA_7 13 (by omega), hA_7 14 (by omega), hA_7 15 (by omega), hA_7 16 (by omega), hA_7 17 (by omega), hA_7 19 (by omega), hA_7 21 (by omega), hA_7 23 (by omega), hA_7 25 (by omega)]))
  have hfra : ∀ r, r < 1 → ad_7 r = ad r := fun r hp => (hA_7 r (by omega)).trans (hfra r hp)
  have hWk : iWk B ad_7 ct_7 11 := hWk.move (fun r h1 h2 => hA_7 r (by omega)) (fun r h1 h2 => hC_7 r (by omega))
  refine g_dup fx dX11_init_82 rfl ?_
  refine g_callIx (As := []) (rest := [.ref (ad_7 79), .ref (ad_7 0)]) fx slX11_43 (c_X0_init B ad_7 ct_7 79 hN_7) rfl rfl (Nat.le_of_ble_eq_true rfl) ⟨by dsimp only; omega, by dsimp only; omega⟩ ⟨by dsimp only; omega, by dsimp only; omega⟩ dX11_init_83 (fun adI36 ctI36 hz36 => ?_)
  obtain ⟨hAI36, hCI36, hO79, hO80⟩ := hz36
  have hO79 : ctI36 79 = .inr (0, [.ref (adI36 80), .int (nI 0), .int (nI 0), .int (nI 0), .int (nI 0)]) := hO79
  have hO80 : ctI36 80 = .inl (B.2.1 1, 0, .inr (.inl (lF (fun _ => 0)))) := hO80
  have ho : ctI36 0 = .inr (11, [.ref (adI36 1), .ref (adI36 3), .ref (adI36 5), .ref (adI36 7), .ref (adI36 9), .ref (adI36 11), .null, .null, .null, .null, .null]) := (hCI36 0 (by omega)).trans (ho.trans (by rw [hAI36 1 (by omega), hAI36 3 (by omega), hAI36 5 (by omega), hAI36 7 (by omega), hAI36 9 (by omega), hAI36 11 (by omega)]))
  have hO1 : ctI36 1 = .inr (3, [.ref (adI36 2), .int (nI 1), .int (nI 1)]) := (hCI36 1 (by omega)).trans (hO1.trans (by rw [hAI36 2 (by omega)]))
  have hO2 : ctI36 2 = .inl (B.2.1 0, 25, .inl (nF (fun _ => 0))) := (hCI36 2 (by omega)).trans hO2
  have hO3 : ctI36 3 = .inr (5, [.ref (adI36 4), .int (nI 0)]) := (hCI36 3 (by omega)).trans (hO3.trans (by rw [hAI36 4 (by omega)]))
  have hO4 : ctI36 4 = .inl (B.2.1 0, 15, .inl (nF (fun _ => 0))) := (hCI36 4 (by omega)).trans hO4
  have hO5 : ctI36 5 = .inr (5, [.ref (adI36 6), .int (nI 0)]) := (hCI36 5 (by omega)).trans (hO5.trans (by rw [hAI36 6 (by omega)]))
  have hO6 : ctI36 6 = .inl (B.2.1 0, 15, .inl (nF (fun _ => 0))) := (hCI36 6 (by omega)).trans hO6
  have hO7 : ctI36 7 = .inr (5, [.ref (adI36 8), .int (nI 0)]) := (hCI36 7 (by omega)).trans (hO7.trans (by rw [hAI36 8 (by omega)]))
  have hO8 : ctI36 8 = .inl (B.2.1 0, 30, .inl (nF (fun _ => 0))) := (hCI36 8 (by omega)).trans hO8
  have hO9 : ctI36 9 = .inr (5, [.ref (adI36 10), .int (nI 0)]) := (hCI36 9 (by omega)).trans (hO9.trans (by rw [hAI36 10 (by omega)]))
  have hO10 : ctI36 10 = .inl (B.2.1 0, 40, .inl (nF (fun _ => 0))) := (hCI36 10 (by omega)).trans hO10
  have hO11 : ctI36 11 = .inr (9, [.ref (adI36 12), .ref (adI36 13), .ref (adI36 14), .ref (adI36 15), .ref (adI36 16), .int 0, .int 0, .int 0, .int 0, .null, .ref (adI36 17), .ref (adI36 19), .ref (adI36 21), .ref (adI36 23), .ref (adI36 25)]) := (hCI36 11 (by omega)).trans (hO11.trans (by rw [hAI36 12 (by omega), hAI36 13 (by omega), hAI36 14 (by omega), hAI36 15 (by omega), hAI36 16 (by omega), hAI36 17 (by omega), hAI36 19 (by omega), hAI36 21 (by omega), hAI36 23 (by omega), hAI36 25 (by omega)]))
  have hWk : iWk B adI36 ctI36 11 := hWk.move (fun r h1 h2 => hAI36 r (by omega)) (fun r h1 h2 => hCI36 r (by omega))
  have hfra : ∀ r, r < 1 → adI36 r = ad r := fun r hp => (hAI36 r (by omega)).trans (hfra r hp)
  refine g_same (L' := [(0, .ref (adI36 0))]) (st' := [.ref (adI36 79), .ref (adI36 0)]) (by rw [hAI36 0 (by omega)]) (by rw [hAI36 79 (by omega), hAI36 0 (by omega)]) ?_
  refine g_putF (r := 0) (fs' := [.ref (adI36 1), .ref (adI36 3), .ref (adI36 5), .ref (adI36 7), .ref (adI36 9), .ref (adI36 11), .ref (adI36 79), .null, .null, .null, .null]) fx hnm lpX11_44 (by omega) ho rfl rfl (Nat.le_of_ble_eq_true rfl) rfl dX11_init_86 (fun ctP36 ectP36 => ?_)
  have ho : ctP36 0 = .inr (11, [.ref (adI36 1), .ref (adI36 3), .ref (adI36 5), .ref (adI36 7), .ref (adI36 9), .ref (adI36 11), .ref (adI36 79), .null, .null, .null, .null]) := by rw [ectP36, va_up_self]
  have hO1 : ctP36 1 = .inr (3, [.ref (adI36 2), .int (nI 1), .int (nI 1)]) := (congrFun ectP36 _).trans ((va_up_ne _ _ (by omega)).trans hO1)
  have hO2 : ctP36 2 = .inl (B.2.1 0, 25, .inl (nF (fun _ => 0))) := (congrFun ectP36 _).trans ((va_up_ne _ _ (by omega)).trans hO2)
  have hO3 : ctP36 3 = .inr (5, [.ref (adI36 4), .int (nI 0)]) := (congrFun ectP36 _).trans ((va_up_ne _ _ (by omega)).trans hO3)
  have hO4 : ctP36 4 = .inl (B.2.1 0, 15, .inl (nF (fun _ => 0))) := (congrFun ectP36 _).trans ((va_up_ne _ _ (by omega)).trans hO4)
  have hO5 : ctP36 5 = .inr (5, [.ref (adI36 6), .int (nI 0)]) := (congrFun ectP36 _).trans ((va_up_ne _ _ (by omega)).trans hO5)
  have hO6 : ctP36 6 = .inl (B.2.1 0, 15, .inl (nF (fun _ => 0))) := (congrFun ectP36 _).trans ((va_up_ne _ _ (by omega)).trans hO6)
  have hO7 : ctP36 7 = .inr (5, [.ref (adI36 8), .int (nI 0)]) := (congrFun ectP36 _).trans ((va_up_ne _ _ (by omega)).trans hO7)
  have hO8 : ctP36 8 = .inl (B.2.1 0, 30, .inl (nF (fun _ => 0))) := (congrFun ectP36 _).trans ((va_up_ne _ _ (by omega)).trans hO8)
  have hO9 : ctP36 9 = .inr (5, [.ref (adI36 10), .int (nI 0)]) := (congrFun ectP36 _).trans ((va_up_ne _ _ (by omega)).trans hO9)
  have hO10 : ctP36 10 = .inl (B.2.1 0, 40, .inl (nF (fun _ => 0))) := (congrFun ectP36 _).trans ((va_up_ne _ _ (by omega)).trans hO10)
  have hO11 : ctP36 11 = .inr (9, [.ref (adI36 12), .ref (adI36 13), .ref (adI36 14), .ref (adI36 15), .ref (adI36 16), .int 0, .int 0, .int 0, .int 0, .null, .ref (adI36 17), .ref (adI36 19), .ref (adI36 21), .ref (adI36 23), .ref (adI36 25)]) := (congrFun ectP36 _).trans ((va_up_ne _ _ (by omega)).trans hO11)
  have hO79 : ctP36 79 = .inr (0, [.ref (adI36 80), .int (nI 0), .int (nI 0), .int (nI 0), .int (nI 0)]) := (congrFun ectP36 _).trans ((va_up_ne _ _ (by omega)).trans hO79)
  have hO80 : ctP36 80 = .inl (B.2.1 1, 0, .inr (.inl (lF (fun _ => 0)))) := (congrFun ectP36 _).trans ((va_up_ne _ _ (by omega)).trans hO80)
  have hWk : iWk B adI36 ctP36 11 := hWk.move (fun r h1 h2 => rfl) (fun r h1 h2 => by rw [ectP36, va_up_ne _ _ (by omega)])
  refine g_aload_n fx 0 dX11_init_89 rfl ?_
  refine g_newo fx nwX8 clX11_48 ⟨by dsimp only; omega, by dsimp only; omega⟩ dX11_init_90 (fun ad_8 ct_8 hA_8 hC_8 hN_8 => ?_)
  refine g_same (L' := [(0, .ref (ad_8 0))]) (st' := [.ref (ad_8 81), .ref (ad_8 0)]) (by rw [hA_8 0 (by omega)]) (by rw [hA_8 0 (by omega)]) ?_
  have ho : ct_8 0 = .inr (11, [.ref (ad_8 1), .ref (ad_8 3), .ref (ad_8 5), .ref (ad_8 7), .ref (ad_8 9), .ref (ad_8 11), .ref (ad_8 79), .null, .null, .null, .null]) := (hC_8 0 (by omega)).trans (ho.trans (by rw [hA_8 1 (by omega), hA_8 3 (by omega), hA_8 5 (by omega), hA_8 7 (by omega), hA_8 9 (by omega), hA_8 11 (by omega), hA_8 79 (by omega)]))
  have hO1 : ct_8 1 = .inr (3, [.ref (ad_8 2), .int (nI 1), .int (nI 1)]) := (hC_8 1 (by omega)).trans (hO1.trans (by rw [hA_8 2 (by omega)]))
  have hO2 : ct_8 2 = .inl (B.2.1 0, 25, .inl (nF (fun _ => 0))) := (hC_8 2 (by omega)).trans hO2
  have hO3 : ct_8 3 = .inr (5, [.ref (ad_8 4), .int (nI 0)]) := (hC_8 3 (by omega)).trans (hO3.trans (by rw [hA_8 4 (by omega)]))
  have hO4 : ct_8 4 = .inl (B.2.1 0, 15, .inl (nF (fun _ => 0))) := (hC_8 4 (by omega)).trans hO4
  have hO5 : ct_8 5 = .inr (5, [.ref (ad_8 6), .int (nI 0)]) := (hC_8 5 (by omega)).trans (hO5.trans (by rw [hA_8 6 (by omega)]))
  have hO6 : ct_8 6 = .inl (B.2.1 0, 15, .inl (nF (fun _ => 0))) := (hC_8 6 (by omega)).trans hO6
  have hO7 : ct_8 7 = .inr (5, [.ref (ad_8 8), .int (nI 0)]) := (hC_8 7 (by omega)).trans (hO7.trans (by rw [hA_8 8 (by omega)]))
  have hO8 : ct_8 8 = .inl (B.2.1 0, 30, .inl (nF (fun _ => 0))) := (hC_8 8 (by omega)).trans hO8
  have hO9 : ct_8 9 = .inr (5, [.ref (ad_8 10), .int (nI 0)]) := (hC_8 9 (by omega)).trans (hO9.trans (by rw [hA_8 10 (by omega)]))
  have hO10 : ct_8 10 = .inl (B.2.1 0, 40, .inl (nF (fun _ => 0))) := (hC_8 10 (by omega)).trans hO10
  have hO11 : ct_8 11 = .inr (9, [.ref (ad_8 12), .ref (ad_8 13), .ref (ad_8 14), .ref (ad_8 15), .ref (ad_8 16), .int 0, .int 0, .int 0, .int 0, .null, .ref (ad_8 17), .ref (ad_8 19), .ref (ad_8 21), .ref (ad_8 23), .ref (ad_8 25)]) := (hC_8 11 (by omega)).trans (hO11.trans (by rw [hA_8 12 (by omega), hA_8 13 (by omega), hA_8 14 (by omega), hA_8 15 (by omega), hA_8 16 (by omega), hA_8 17 (by omega), hA_8 19 (by omega), hA_8 21 (by omega), hA_8 23 (by omega), hA_8 25 (by omega)]))
  have hO79 : ct_8 79 = .inr (0, [.ref (ad_8 80), .int (nI 0), .int (nI 0), .int (nI 0), .int (nI 0)]) := (hC_8 79 (by omega)).trans (hO79.trans (by rw [hA_8 80 (by omega)]))
  have hO80 : ct_8 80 = .inl (B.2.1 1, 0, .inr (.inl (lF (fun _ => 0)))) := (hC_8 80 (by omega)).trans hO80
  have hfra : ∀ r, r < 1 → ad_8 r = ad r := fun r hp => (hA_8 r (by omega)).trans (hfra r hp)
  have hWk : iWk B ad_8 ct_8 11 := hWk.move (fun r h1 h2 => hA_8 r (by omega)) (fun r h1 h2 => hC_8 r (by omega))
  refine g_dup fx dX11_init_93 rfl ?_
  refine g_callIx (As := []) (rest := [.ref (ad_8 81), .ref (ad_8 0)]) fx slX11_50 (c_X8_init B ad_8 ct_8 81 hN_8) rfl rfl (Nat.le_of_ble_eq_true rfl) ⟨by dsimp only; omega, by dsimp only; omega⟩ ⟨by dsimp only; omega, by dsimp only; omega⟩ dX11_init_94 (fun adI37 ctI37 hz37 => ?_)
  obtain ⟨hAI37, hCI37, hO81, hO82, hO83, hO84, hO85, hO86, hO87⟩ := hz37
  have hO81 : ctI37 81 = .inr (8, [.ref (adI37 82), .ref (adI37 85), .int (nI 0), .int (nI 0), .int (nI 0), .long (lN 0), .long (lN 0)]) := hO81
  have hO82 : ctI37 82 = .inr (4, [.ref (adI37 83), .ref (adI37 84), .int (nI 0)]) := hO82
  have hO83 : ctI37 83 = .inl (B.2.1 0, 64, .inl (nF (fun _ => 0))) := hO83
  have hO84 : ctI37 84 = .inl (B.2.1 0, 64, .inl (nF (fun _ => 0))) := hO84
  have hO85 : ctI37 85 = .inr (4, [.ref (adI37 86), .ref (adI37 87), .int (nI 0)]) := hO85
  have hO86 : ctI37 86 = .inl (B.2.1 0, 64, .inl (nF (fun _ => 0))) := hO86
  have hO87 : ctI37 87 = .inl (B.2.1 0, 64, .inl (nF (fun _ => 0))) := hO87
  have ho : ctI37 0 = .inr (11, [.ref (adI37 1), .ref (adI37 3), .ref (adI37 5), .ref (adI37 7), .ref (adI37 9), .ref (adI37 11), .ref (adI37 79), .null, .null, .null, .null]) := (hCI37 0 (by omega)).trans (ho.trans (by rw [hAI37 1 (by omega), hAI37 3 (by omega), hAI37 5 (by omega), hAI37 7 (by omega), hAI37 9 (by omega), hAI37 11 (by omega), hAI37 79 (by omega)]))
  have hO1 : ctI37 1 = .inr (3, [.ref (adI37 2), .int (nI 1), .int (nI 1)]) := (hCI37 1 (by omega)).trans (hO1.trans (by rw [hAI37 2 (by omega)]))
  have hO2 : ctI37 2 = .inl (B.2.1 0, 25, .inl (nF (fun _ => 0))) := (hCI37 2 (by omega)).trans hO2
  have hO3 : ctI37 3 = .inr (5, [.ref (adI37 4), .int (nI 0)]) := (hCI37 3 (by omega)).trans (hO3.trans (by rw [hAI37 4 (by omega)]))
  have hO4 : ctI37 4 = .inl (B.2.1 0, 15, .inl (nF (fun _ => 0))) := (hCI37 4 (by omega)).trans hO4
  have hO5 : ctI37 5 = .inr (5, [.ref (adI37 6), .int (nI 0)]) := (hCI37 5 (by omega)).trans (hO5.trans (by rw [hAI37 6 (by omega)]))
  have hO6 : ctI37 6 = .inl (B.2.1 0, 15, .inl (nF (fun _ => 0))) := (hCI37 6 (by omega)).trans hO6
  have hO7 : ctI37 7 = .inr (5, [.ref (adI37 8), .int (nI 0)]) := (hCI37 7 (by omega)).trans (hO7.trans (by rw [hAI37 8 (by omega)]))
  have hO8 : ctI37 8 = .inl (B.2.1 0, 30, .inl (nF (fun _ => 0))) := (hCI37 8 (by omega)).trans hO8
  have hO9 : ctI37 9 = .inr (5, [.ref (adI37 10), .int (nI 0)]) := (hCI37 9 (by omega)).trans (hO9.trans (by rw [hAI37 10 (by omega)]))
  have hO10 : ctI37 10 = .inl (B.2.1 0, 40, .inl (nF (fun _ => 0))) := (hCI37 10 (by omega)).trans hO10
  have hO11 : ctI37 11 = .inr (9, [.ref (adI37 12), .ref (adI37 13), .ref (adI37 14), .ref (adI37 15), .ref (adI37 16), .int 0, .int 0, .int 0, .int 0, .null, .ref (adI37 17), .ref (adI37 19), .ref (adI37 21), .ref (adI37 23), .ref (adI37 25)]) := (hCI37 11 (by omega)).trans (hO11.trans (by rw [hAI37 12 (by omega), hAI37 13 (by omega), hAI37 14 (by omega), hAI37 15 (by omega), hAI37 16 (by omega), hAI37 17 (by omega), hAI37 19 (by omega), hAI37 21 (by omega), hAI37 23 (by omega), hAI37 25 (by omega)]))
  have hO79 : ctI37 79 = .inr (0, [.ref (adI37 80), .int (nI 0), .int (nI 0), .int (nI 0), .int (nI 0)]) := (hCI37 79 (by omega)).trans (hO79.trans (by rw [hAI37 80 (by omega)]))
  have hO80 : ctI37 80 = .inl (B.2.1 1, 0, .inr (.inl (lF (fun _ => 0)))) := (hCI37 80 (by omega)).trans hO80
  have hWk : iWk B adI37 ctI37 11 := hWk.move (fun r h1 h2 => hAI37 r (by omega)) (fun r h1 h2 => hCI37 r (by omega))
  have hfra : ∀ r, r < 1 → adI37 r = ad r := fun r hp => (hAI37 r (by omega)).trans (hfra r hp)
  refine g_same (L' := [(0, .ref (adI37 0))]) (st' := [.ref (adI37 81), .ref (adI37 0)]) (by rw [hAI37 0 (by omega)]) (by rw [hAI37 81 (by omega), hAI37 0 (by omega)]) ?_
  refine g_putF (r := 0) (fs' := [.ref (adI37 1), .ref (adI37 3), .ref (adI37 5), .ref (adI37 7), .ref (adI37 9), .ref (adI37 11), .ref (adI37 79), .ref (adI37 81), .null, .null, .null]) fx hnm lpX11_51 (by omega) ho rfl rfl (Nat.le_of_ble_eq_true rfl) rfl dX11_init_97 (fun ctP37 ectP37 => ?_)
  have ho : ctP37 0 = .inr (11, [.ref (adI37 1), .ref (adI37 3), .ref (adI37 5), .ref (adI37 7), .ref (adI37 9), .ref (adI37 11), .ref (adI37 79), .ref (adI37 81), .null, .null, .null]) := by rw [ectP37, va_up_self]
  have hO1 : ctP37 1 = .inr (3, [.ref (adI37 2), .int (nI 1), .int (nI 1)]) := (congrFun ectP37 _).trans ((va_up_ne _ _ (by omega)).trans hO1)
  have hO2 : ctP37 2 = .inl (B.2.1 0, 25, .inl (nF (fun _ => 0))) := (congrFun ectP37 _).trans ((va_up_ne _ _ (by omega)).trans hO2)
  have hO3 : ctP37 3 = .inr (5, [.ref (adI37 4), .int (nI 0)]) := (congrFun ectP37 _).trans ((va_up_ne _ _ (by omega)).trans hO3)
  have hO4 : ctP37 4 = .inl (B.2.1 0, 15, .inl (nF (fun _ => 0))) := (congrFun ectP37 _).trans ((va_up_ne _ _ (by omega)).trans hO4)
  have hO5 : ctP37 5 = .inr (5, [.ref (adI37 6), .int (nI 0)]) := (congrFun ectP37 _).trans ((va_up_ne _ _ (by omega)).trans hO5)
  have hO6 : ctP37 6 = .inl (B.2.1 0, 15, .inl (nF (fun _ => 0))) := (congrFun ectP37 _).trans ((va_up_ne _ _ (by omega)).trans hO6)
  have hO7 : ctP37 7 = .inr (5, [.ref (adI37 8), .int (nI 0)]) := (congrFun ectP37 _).trans ((va_up_ne _ _ (by omega)).trans hO7)
  have hO8 : ctP37 8 = .inl (B.2.1 0, 30, .inl (nF (fun _ => 0))) := (congrFun ectP37 _).trans ((va_up_ne _ _ (by omega)).trans hO8)
  have hO9 : ctP37 9 = .inr (5, [.ref (adI37 10), .int (nI 0)]) := (congrFun ectP37 _).trans ((va_up_ne _ _ (by omega)).trans hO9)
  have hO10 : ctP37 10 = .inl (B.2.1 0, 40, .inl (nF (fun _ => 0))) := (congrFun ectP37 _).trans ((va_up_ne _ _ (by omega)).trans hO10)
  have hO11 : ctP37 11 = .inr (9, [.ref (adI37 12), .ref (adI37 13), .ref (adI37 14), .ref (adI37 15), .ref (adI37 16), .int 0, .int 0, .int 0, .int 0, .null, .ref (adI37 17), .ref (adI37 19), .ref (adI37 21), .ref (adI37 23), .ref (adI37 25)]) := (congrFun ectP37 _).trans ((va_up_ne _ _ (by omega)).trans hO11)
  have hO79 : ctP37 79 = .inr (0, [.ref (adI37 80), .int (nI 0), .int (nI 0), .int (nI 0), .int (nI 0)]) := (congrFun ectP37 _).trans ((va_up_ne _ _ (by omega)).trans hO79)
  have hO80 : ctP37 80 = .inl (B.2.1 1, 0, .inr (.inl (lF (fun _ => 0)))) := (congrFun ectP37 _).trans ((va_up_ne _ _ (by omega)).trans hO80)
  have hO81 : ctP37 81 = .inr (8, [.ref (adI37 82), .ref (adI37 85), .int (nI 0), .int (nI 0), .int (nI 0), .long (lN 0), .long (lN 0)]) := (congrFun ectP37 _).trans ((va_up_ne _ _ (by omega)).trans hO81)
  have hO82 : ctP37 82 = .inr (4, [.ref (adI37 83), .ref (adI37 84), .int (nI 0)]) := (congrFun ectP37 _).trans ((va_up_ne _ _ (by omega)).trans hO82)
  have hO83 : ctP37 83 = .inl (B.2.1 0, 64, .inl (nF (fun _ => 0))) := (congrFun ectP37 _).trans ((va_up_ne _ _ (by omega)).trans hO83)
  have hO84 : ctP37 84 = .inl (B.2.1 0, 64, .inl (nF (fun _ => 0))) := (congrFun ectP37 _).trans ((va_up_ne _ _ (by omega)).trans hO84)
  have hO85 : ctP37 85 = .inr (4, [.ref (adI37 86), .ref (adI37 87), .int (nI 0)]) := (congrFun ectP37 _).trans ((va_up_ne _ _ (by omega)).trans hO85)
  have hO86 : ctP37 86 = .inl (B.2.1 0, 64, .inl (nF (fun _ => 0))) := (congrFun ectP37 _).trans ((va_up_ne _ _ (by omega)).trans hO86)
  have hO87 : ctP37 87 = .inl (B.2.1 0, 64, .inl (nF (fun _ => 0))) := (congrFun ectP37 _).trans ((va_up_ne _ _ (by omega)).trans hO87)
  have hWk : iWk B adI37 ctP37 11 := hWk.move (fun r h1 h2 => rfl) (fun r h1 h2 => by rw [ectP37, va_up_ne _ _ (by omega)])
  refine g_aload_n fx 0 dX11_init_100 rfl ?_
  refine g_newo fx nwX6 clX11_55 ⟨by dsimp only; omega, by dsimp only; omega⟩ dX11_init_101 (fun ad_9 ct_9 hA_9 hC_9 hN_9 => ?_)
  refine g_same (L' := [(0, .ref (ad_9 0))]) (st' := [.ref (ad_9 88), .ref (ad_9 0)]) (by rw [hA_9 0 (by omega)]) (by rw [hA_9 0 (by omega)]) ?_
  have ho : ct_9 0 = .inr (11, [.ref (ad_9 1), .ref (ad_9 3), .ref (ad_9 5), .ref (ad_9 7), .ref (ad_9 9), .ref (ad_9 11), .ref (ad_9 79), .ref (ad_9 81), .null, .null, .null]) := (hC_9 0 (by omega)).trans (ho.trans (by rw [hA_9 1 (by omega), hA_9 3 (by omega), hA_9 5 (by omega), hA_9 7 (by omega), hA_9 9 (by omega), hA_9 11 (by omega), hA_9 79 (by omega), hA_9 81 (by omega)]))
  have hO1 : ct_9 1 = .inr (3, [.ref (ad_9 2), .int (nI 1), .int (nI 1)]) := (hC_9 1 (by omega)).trans (hO1.trans (by rw [hA_9 2 (by omega)]))
  have hO2 : ct_9 2 = .inl (B.2.1 0, 25, .inl (nF (fun _ => 0))) := (hC_9 2 (by omega)).trans hO2
  have hO3 : ct_9 3 = .inr (5, [.ref (ad_9 4), .int (nI 0)]) := (hC_9 3 (by omega)).trans (hO3.trans (by rw [hA_9 4 (by omega)]))
  have hO4 : ct_9 4 = .inl (B.2.1 0, 15, .inl (nF (fun _ => 0))) := (hC_9 4 (by omega)).trans hO4
  have hO5 : ct_9 5 = .inr (5, [.ref (ad_9 6), .int (nI 0)]) := (hC_9 5 (by omega)).trans (hO5.trans (by rw [hA_9 6 (by omega)]))
  have hO6 : ct_9 6 = .inl (B.2.1 0, 15, .inl (nF (fun _ => 0))) := (hC_9 6 (by omega)).trans hO6
  have hO7 : ct_9 7 = .inr (5, [.ref (ad_9 8), .int (nI 0)]) := (hC_9 7 (by omega)).trans (hO7.trans (by rw [hA_9 8 (by omega)]))
  have hO8 : ct_9 8 = .inl (B.2.1 0, 30, .inl (nF (fun _ => 0))) := (hC_9 8 (by omega)).trans hO8
  have hO9 : ct_9 9 = .inr (5, [.ref (ad_9 10), .int (nI 0)]) := (hC_9 9 (by omega)).trans (hO9.trans (by rw [hA_9 10 (by omega)]))
  have hO10 : ct_9 10 = .inl (B.2.1 0, 40, .inl (nF (fun _ => 0))) := (hC_9 10 (by omega)).trans hO10
  have hO11 : ct_9 11 = .inr (9, [.ref (ad_9 12), .ref (ad_9 13), .ref (ad_9 14), .ref (ad_9 15), .ref (ad_9 16), .int 0, .int 0, .int 0, .int 0, .null, .ref (ad_9 17), .ref (ad_9 19), .ref (ad_9 21), .ref (ad_9 23), .ref (ad_9 25)]) := (hC_9 11 (by omega)).trans (hO11.trans (by rw [hA_9 12 (by omega), hA_9 13 (by omega), hA_9 14 (by omega), hA_9 15 (by omega), hA_9 16 (by omega), hA_9 17 (by omega), hA_9 19 (by omega), hA_9 21 (by omega), hA_9 23 (by omega), hA_9 25 (by omega)]))
  have hO79 : ct_9 79 = .inr (0, [.ref (ad_9 80), .int (nI 0), .int (nI 0), .int (nI 0), .int (nI 0)]) := (hC_9 79 (by omega)).trans (hO79.trans (by rw [hA_9 80 (by omega)]))
  have hO80 : ct_9 80 = .inl (B.2.1 1, 0, .inr (.inl (lF (fun _ => 0)))) := (hC_9 80 (by omega)).trans hO80
  have hO81 : ct_9 81 = .inr (8, [.ref (ad_9 82), .ref (ad_9 85), .int (nI 0), .int (nI 0), .int (nI 0), .long (lN 0), .long (lN 0)]) := (hC_9 81 (by omega)).trans (hO81.trans (by rw [hA_9 82 (by omega), hA_9 85 (by omega)]))
  have hO82 : ct_9 82 = .inr (4, [.ref (ad_9 83), .ref (ad_9 84), .int (nI 0)]) := (hC_9 82 (by omega)).trans (hO82.trans (by rw [hA_9 83 (by omega), hA_9 84 (by omega)]))
  have hO83 : ct_9 83 = .inl (B.2.1 0, 64, .inl (nF (fun _ => 0))) := (hC_9 83 (by omega)).trans hO83
  have hO84 : ct_9 84 = .inl (B.2.1 0, 64, .inl (nF (fun _ => 0))) := (hC_9 84 (by omega)).trans hO84
  have hO85 : ct_9 85 = .inr (4, [.ref (ad_9 86), .ref (ad_9 87), .int (nI 0)]) := (hC_9 85 (by omega)).trans (hO85.trans (by rw [hA_9 86 (by omega), hA_9 87 (by omega)]))
  have hO86 : ct_9 86 = .inl (B.2.1 0, 64, .inl (nF (fun _ => 0))) := (hC_9 86 (by omega)).trans hO86
  have hO87 : ct_9 87 = .inl (B.2.1 0, 64, .inl (nF (fun _ => 0))) := (hC_9 87 (by omega)).trans hO87
  have hfra : ∀ r, r < 1 → ad_9 r = ad r := fun r hp => (hA_9 r (by omega)).trans (hfra r hp)
  have hWk : iWk B ad_9 ct_9 11 := hWk.move (fun r h1 h2 => hA_9 r (by omega)) (fun r h1 h2 => hC_9 r (by omega))
  refine g_dup fx dX11_init_104 rfl ?_
  refine g_callIx (As := []) (rest := [.ref (ad_9 88), .ref (ad_9 0)]) fx slX11_57 (c_X6_init B ad_9 ct_9 88 hN_9) rfl rfl (Nat.le_of_ble_eq_true rfl) ⟨by dsimp only; omega, by dsimp only; omega⟩ ⟨by dsimp only; omega, by dsimp only; omega⟩ dX11_init_105 (fun adI38 ctI38 hz38 => ?_)
  obtain ⟨hAI38, hCI38, hO88, hR4⟩ := hz38
  have hO88 : ctI38 88 = .inr (6, [.ref (adI38 89), .int 0, .int 0, .int 0, .int 0]) := hO88
  have ho : ctI38 0 = .inr (11, [.ref (adI38 1), .ref (adI38 3), .ref (adI38 5), .ref (adI38 7), .ref (adI38 9), .ref (adI38 11), .ref (adI38 79), .ref (adI38 81), .null, .null, .null]) := (hCI38 0 (by omega)).trans (ho.trans (by rw [hAI38 1 (by omega), hAI38 3 (by omega), hAI38 5 (by omega), hAI38 7 (by omega), hAI38 9 (by omega), hAI38 11 (by omega), hAI38 79 (by omega), hAI38 81 (by omega)]))
  have hO1 : ctI38 1 = .inr (3, [.ref (adI38 2), .int (nI 1), .int (nI 1)]) := (hCI38 1 (by omega)).trans (hO1.trans (by rw [hAI38 2 (by omega)]))
  have hO2 : ctI38 2 = .inl (B.2.1 0, 25, .inl (nF (fun _ => 0))) := (hCI38 2 (by omega)).trans hO2
  have hO3 : ctI38 3 = .inr (5, [.ref (adI38 4), .int (nI 0)]) := (hCI38 3 (by omega)).trans (hO3.trans (by rw [hAI38 4 (by omega)]))
  have hO4 : ctI38 4 = .inl (B.2.1 0, 15, .inl (nF (fun _ => 0))) := (hCI38 4 (by omega)).trans hO4
  have hO5 : ctI38 5 = .inr (5, [.ref (adI38 6), .int (nI 0)]) := (hCI38 5 (by omega)).trans (hO5.trans (by rw [hAI38 6 (by omega)]))
  have hO6 : ctI38 6 = .inl (B.2.1 0, 15, .inl (nF (fun _ => 0))) := (hCI38 6 (by omega)).trans hO6
  have hO7 : ctI38 7 = .inr (5, [.ref (adI38 8), .int (nI 0)]) := (hCI38 7 (by omega)).trans (hO7.trans (by rw [hAI38 8 (by omega)]))
  have hO8 : ctI38 8 = .inl (B.2.1 0, 30, .inl (nF (fun _ => 0))) := (hCI38 8 (by omega)).trans hO8
  have hO9 : ctI38 9 = .inr (5, [.ref (adI38 10), .int (nI 0)]) := (hCI38 9 (by omega)).trans (hO9.trans (by rw [hAI38 10 (by omega)]))
  have hO10 : ctI38 10 = .inl (B.2.1 0, 40, .inl (nF (fun _ => 0))) := (hCI38 10 (by omega)).trans hO10
  have hO11 : ctI38 11 = .inr (9, [.ref (adI38 12), .ref (adI38 13), .ref (adI38 14), .ref (adI38 15), .ref (adI38 16), .int 0, .int 0, .int 0, .int 0, .null, .ref (adI38 17), .ref (adI38 19), .ref (adI38 21), .ref (adI38 23), .ref (adI38 25)]) := (hCI38 11 (by omega)).trans (hO11.trans (by rw [hAI38 12 (by omega), hAI38 13 (by omega), hAI38 14 (by omega), hAI38 15 (by omega), hAI38 16 (by omega), hAI38 17 (by omega), hAI38 19 (by omega), hAI38 21 (by omega), hAI38 23 (by omega), hAI38 25 (by omega)]))
  have hO79 : ctI38 79 = .inr (0, [.ref (adI38 80), .int (nI 0), .int (nI 0), .int (nI 0), .int (nI 0)]) := (hCI38 79 (by omega)).trans (hO79.trans (by rw [hAI38 80 (by omega)]))
  have hO80 : ctI38 80 = .inl (B.2.1 1, 0, .inr (.inl (lF (fun _ => 0)))) := (hCI38 80 (by omega)).trans hO80
  have hO81 : ctI38 81 = .inr (8, [.ref (adI38 82), .ref (adI38 85), .int (nI 0), .int (nI 0), .int (nI 0), .long (lN 0), .long (lN 0)]) := (hCI38 81 (by omega)).trans (hO81.trans (by rw [hAI38 82 (by omega), hAI38 85 (by omega)]))
  have hO82 : ctI38 82 = .inr (4, [.ref (adI38 83), .ref (adI38 84), .int (nI 0)]) := (hCI38 82 (by omega)).trans (hO82.trans (by rw [hAI38 83 (by omega), hAI38 84 (by omega)]))
  have hO83 : ctI38 83 = .inl (B.2.1 0, 64, .inl (nF (fun _ => 0))) := (hCI38 83 (by omega)).trans hO83
  have hO84 : ctI38 84 = .inl (B.2.1 0, 64, .inl (nF (fun _ => 0))) := (hCI38 84 (by omega)).trans hO84
  have hO85 : ctI38 85 = .inr (4, [.ref (adI38 86), .ref (adI38 87), .int (nI 0)]) := (hCI38 85 (by omega)).trans (hO85.trans (by rw [hAI38 86 (by omega), hAI38 87 (by omega)]))
  have hO86 : ctI38 86 = .inl (B.2.1 0, 64, .inl (nF (fun _ => 0))) := (hCI38 86 (by omega)).trans hO86
  have hO87 : ctI38 87 = .inl (B.2.1 0, 64, .inl (nF (fun _ => 0))) := (hCI38 87 (by omega)).trans hO87
  have hWk : iWk B adI38 ctI38 11 := hWk.move (fun r h1 h2 => hAI38 r (by omega)) (fun r h1 h2 => hCI38 r (by omega))
  have hfra : ∀ r, r < 1 → adI38 r = ad r := fun r hp => (hAI38 r (by omega)).trans (hfra r hp)
  refine g_same (L' := [(0, .ref (adI38 0))]) (st' := [.ref (adI38 88), .ref (adI38 0)]) (by rw [hAI38 0 (by omega)]) (by rw [hAI38 88 (by omega), hAI38 0 (by omega)]) ?_
  refine g_putF (r := 0) (fs' := [.ref (adI38 1), .ref (adI38 3), .ref (adI38 5), .ref (adI38 7), .ref (adI38 9), .ref (adI38 11), .ref (adI38 79), .ref (adI38 81), .ref (adI38 88), .null, .null]) fx hnm lpX11_58 (by omega) ho rfl rfl (Nat.le_of_ble_eq_true rfl) rfl dX11_init_108 (fun ctP38 ectP38 => ?_)
  have ho : ctP38 0 = .inr (11, [.ref (adI38 1), .ref (adI38 3), .ref (adI38 5), .ref (adI38 7), .ref (adI38 9), .ref (adI38 11), .ref (adI38 79), .ref (adI38 81), .ref (adI38 88), .null, .null]) := by rw [ectP38, va_up_self]
  have hO1 : ctP38 1 = .inr (3, [.ref (adI38 2), .int (nI 1), .int (nI 1)]) := (congrFun ectP38 _).trans ((va_up_ne _ _ (by omega)).trans hO1)
  have hO2 : ctP38 2 = .inl (B.2.1 0, 25, .inl (nF (fun _ => 0))) := (congrFun ectP38 _).trans ((va_up_ne _ _ (by omega)).trans hO2)
  have hO3 : ctP38 3 = .inr (5, [.ref (adI38 4), .int (nI 0)]) := (congrFun ectP38 _).trans ((va_up_ne _ _ (by omega)).trans hO3)
  have hO4 : ctP38 4 = .inl (B.2.1 0, 15, .inl (nF (fun _ => 0))) := (congrFun ectP38 _).trans ((va_up_ne _ _ (by omega)).trans hO4)
  have hO5 : ctP38 5 = .inr (5, [.ref (adI38 6), .int (nI 0)]) := (congrFun ectP38 _).trans ((va_up_ne _ _ (by omega)).trans hO5)
  have hO6 : ctP38 6 = .inl (B.2.1 0, 15, .inl (nF (fun _ => 0))) := (congrFun ectP38 _).trans ((va_up_ne _ _ (by omega)).trans hO6)
  have hO7 : ctP38 7 = .inr (5, [.ref (adI38 8), .int (nI 0)]) := (congrFun ectP38 _).trans ((va_up_ne _ _ (by omega)).trans hO7)
  have hO8 : ctP38 8 = .inl (B.2.1 0, 30, .inl (nF (fun _ => 0))) := (congrFun ectP38 _).trans ((va_up_ne _ _ (by omega)).trans hO8)
  have hO9 : ctP38 9 = .inr (5, [.ref (adI38 10), .int (nI 0)]) := (congrFun ectP38 _).trans ((va_up_ne _ _ (by omega)).trans hO9)
  have hO10 : ctP38 10 = .inl (B.2.1 0, 40, .inl (nF (fun _ => 0))) := (congrFun ectP38 _).trans ((va_up_ne _ _ (by omega)).trans hO10)
  have hO11 : ctP38 11 = .inr (9, [.ref (adI38 12), .ref (adI38 13), .ref (adI38 14), .ref (adI38 15), .ref (adI38 16), .int 0, .int 0, .int 0, .int 0, .null, .ref (adI38 17), .ref (adI38 19), .ref (adI38 21), .ref (adI38 23), .ref (adI38 25)]) := (congrFun ectP38 _).trans ((va_up_ne _ _ (by omega)).trans hO11)
  have hO79 : ctP38 79 = .inr (0, [.ref (adI38 80), .int (nI 0), .int (nI 0), .int (nI 0), .int (nI 0)]) := (congrFun ectP38 _).trans ((va_up_ne _ _ (by omega)).trans hO79)
  have hO80 : ctP38 80 = .inl (B.2.1 1, 0, .inr (.inl (lF (fun _ => 0)))) := (congrFun ectP38 _).trans ((va_up_ne _ _ (by omega)).trans hO80)
  have hO81 : ctP38 81 = .inr (8, [.ref (adI38 82), .ref (adI38 85), .int (nI 0), .int (nI 0), .int (nI 0), .long (lN 0), .long (lN 0)]) := (congrFun ectP38 _).trans ((va_up_ne _ _ (by omega)).trans hO81)
  have hO82 : ctP38 82 = .inr (4, [.ref (adI38 83), .ref (adI38 84), .int (nI 0)]) := (congrFun ectP38 _).trans ((va_up_ne _ _ (by omega)).trans hO82)
  have hO83 : ctP38 83 = .inl (B.2.1 0, 64, .inl (nF (fun _ => 0))) := (congrFun ectP38 _).trans ((va_up_ne _ _ (by omega)).trans hO83)
  have hO84 : ctP38 84 = .inl (B.2.1 0, 64, .inl (nF (fun _ => 0))) := (congrFun ectP38 _).trans ((va_up_ne _ _ (by omega)).trans hO84)
  have hO85 : ctP38 85 = .inr (4, [.ref (adI38 86), .ref (adI38 87), .int (nI 0)]) := (congrFun ectP38 _).trans ((va_up_ne _ _ (by omega)).trans hO85)
  have hO86 : ctP38 86 = .inl (B.2.1 0, 64, .inl (nF (fun _ => 0))) := (congrFun ectP38 _).trans ((va_up_ne _ _ (by omega)).trans hO86)
  have hO87 : ctP38 87 = .inl (B.2.1 0, 64, .inl (nF (fun _ => 0))) := (congrFun ectP38 _).trans ((va_up_ne _ _ (by omega)).trans hO87)
  have hO88 : ctP38 88 = .inr (6, [.ref (adI38 89), .int 0, .int 0, .int 0, .int 0]) := (congrFun ectP38 _).trans ((va_up_ne _ _ (by omega)).trans hO88)
  have hWk : iWk B adI38 ctP38 11 := hWk.move (fun r h1 h2 => rfl) (fun r h1 h2 => by rw [ectP38, va_up_ne _ _ (by omega)])
  have hR4 : iRow B adI38 ctP38 89 4 90 := hR4.move (by decide) (by decide) (fun r h1 h2 => rfl) (fun r h1 h2 => by rw [ectP38, va_up_ne _ _ (by omega)])
  refine g_aload_n fx 0 dX11_init_111 rfl ?_
  refine g_newo fx nwX7 clX11_62 ⟨by dsimp only; omega, by dsimp only; omega⟩ dX11_init_112 (fun ad_10 ct_10 hA_10 hC_10 hN_10 => ?_)
  refine g_same (L' := [(0, .ref (ad_10 0))]) (st' := [.ref (ad_10 110), .ref (ad_10 0)]) (by rw [hA_10 0 (by omega)]) (by rw [hA_10 0 (by omega)]) ?_
  have ho : ct_10 0 = .inr (11, [.ref (ad_10 1), .ref (ad_10 3), .ref (ad_10 5), .ref (ad_10 7), .ref (ad_10 9), .ref (ad_10 11), .ref (ad_10 79), .ref (ad_10 81), .ref (ad_10 88), .null, .null]) := (hC_10 0 (by omega)).trans (ho.trans (by rw [hA_10 1 (by omega), hA_10 3 (by omega), hA_10 5 (by omega), hA_10 7 (by omega), hA_10 9 (by omega), hA_10 11 (by omega), hA_10 79 (by omega), hA_10 81 (by omega), hA_10 88 (by omega)]))
  have hO1 : ct_10 1 = .inr (3, [.ref (ad_10 2), .int (nI 1), .int (nI 1)]) := (hC_10 1 (by omega)).trans (hO1.trans (by rw [hA_10 2 (by omega)]))
  have hO2 : ct_10 2 = .inl (B.2.1 0, 25, .inl (nF (fun _ => 0))) := (hC_10 2 (by omega)).trans hO2
  have hO3 : ct_10 3 = .inr (5, [.ref (ad_10 4), .int (nI 0)]) := (hC_10 3 (by omega)).trans (hO3.trans (by rw [hA_10 4 (by omega)]))
  have hO4 : ct_10 4 = .inl (B.2.1 0, 15, .inl (nF (fun _ => 0))) := (hC_10 4 (by omega)).trans hO4
  have hO5 : ct_10 5 = .inr (5, [.ref (ad_10 6), .int (nI 0)]) := (hC_10 5 (by omega)).trans (hO5.trans (by rw [hA_10 6 (by omega)]))
  have hO6 : ct_10 6 = .inl (B.2.1 0, 15, .inl (nF (fun _ => 0))) := (hC_10 6 (by omega)).trans hO6
  have hO7 : ct_10 7 = .inr (5, [.ref (ad_10 8), .int (nI 0)]) := (hC_10 7 (by omega)).trans (hO7.trans (by rw [hA_10 8 (by omega)]))
  have hO8 : ct_10 8 = .inl (B.2.1 0, 30, .inl (nF (fun _ => 0))) := (hC_10 8 (by omega)).trans hO8
  have hO9 : ct_10 9 = .inr (5, [.ref (ad_10 10), .int (nI 0)]) := (hC_10 9 (by omega)).trans (hO9.trans (by rw [hA_10 10 (by omega)]))
  have hO10 : ct_10 10 = .inl (B.2.1 0, 40, .inl (nF (fun _ => 0))) := (hC_10 10 (by omega)).trans hO10
  have hO11 : ct_10 11 = .inr (9, [.ref (ad_10 12), .ref (ad_10 13), .ref (ad_10 14), .ref (ad_10 15), .ref (ad_10 16), .int 0, .int 0, .int 0, .int 0, .null, .ref (ad_10 17), .ref (ad_10 19), .ref (ad_10 21), .ref (ad_10 23), .ref (ad_10 25)]) := (hC_10 11 (by omega)).trans (hO11.trans (by rw [hA_10 12 (by omega), hA_10 13 (by omega), hA_10 14 (by omega), hA_10 15 (by omega), hA_10 16 (by omega), hA_10 17 (by omega), hA_10 19 (by omega), hA_10 21 (by omega), hA_10 23 (by omega), hA_10 25 (by omega)]))
  have hO79 : ct_10 79 = .inr (0, [.ref (ad_10 80), .int (nI 0), .int (nI 0), .int (nI 0), .int (nI 0)]) := (hC_10 79 (by omega)).trans (hO79.trans (by rw [hA_10 80 (by omega)]))
  have hO80 : ct_10 80 = .inl (B.2.1 1, 0, .inr (.inl (lF (fun _ => 0)))) := (hC_10 80 (by omega)).trans hO80
  have hO81 : ct_10 81 = .inr (8, [.ref (ad_10 82), .ref (ad_10 85), .int (nI 0), .int (nI 0), .int (nI 0), .long (lN 0), .long (lN 0)]) := (hC_10 81 (by omega)).trans (hO81.trans (by rw [hA_10 82 (by omega), hA_10 85 (by omega)]))
  have hO82 : ct_10 82 = .inr (4, [.ref (ad_10 83), .ref (ad_10 84), .int (nI 0)]) := (hC_10 82 (by omega)).trans (hO82.trans (by rw [hA_10 83 (by omega), hA_10 84 (by omega)]))
  have hO83 : ct_10 83 = .inl (B.2.1 0, 64, .inl (nF (fun _ => 0))) := (hC_10 83 (by omega)).trans hO83
  have hO84 : ct_10 84 = .inl (B.2.1 0, 64, .inl (nF (fun _ => 0))) := (hC_10 84 (by omega)).trans hO84
  have hO85 : ct_10 85 = .inr (4, [.ref (ad_10 86), .ref (ad_10 87), .int (nI 0)]) := (hC_10 85 (by omega)).trans (hO85.trans (by rw [hA_10 86 (by omega), hA_10 87 (by omega)]))
  have hO86 : ct_10 86 = .inl (B.2.1 0, 64, .inl (nF (fun _ => 0))) := (hC_10 86 (by omega)).trans hO86
  have hO87 : ct_10 87 = .inl (B.2.1 0, 64, .inl (nF (fun _ => 0))) := (hC_10 87 (by omega)).trans hO87
  have hO88 : ct_10 88 = .inr (6, [.ref (ad_10 89), .int 0, .int 0, .int 0, .int 0]) := (hC_10 88 (by omega)).trans (hO88.trans (by rw [hA_10 89 (by omega)]))
  have hfra : ∀ r, r < 1 → ad_10 r = ad r := fun r hp => (hA_10 r (by omega)).trans (hfra r hp)
  have hWk : iWk B ad_10 ct_10 11 := hWk.move (fun r h1 h2 => hA_10 r (by omega)) (fun r h1 h2 => hC_10 r (by omega))
  have hR4 : iRow B ad_10 ct_10 89 4 90 := hR4.move (by decide) (by decide) (fun r h1 h2 => hA_10 r (by omega)) (fun r h1 h2 => hC_10 r (by omega))
  refine g_dup fx dX11_init_115 rfl ?_
  refine g_callIx (As := []) (rest := [.ref (ad_10 110), .ref (ad_10 0)]) fx slX11_64 (c_X7_init B ad_10 ct_10 110 hN_10) rfl rfl (Nat.le_of_ble_eq_true rfl) ⟨by dsimp only; omega, by dsimp only; omega⟩ ⟨by dsimp only; omega, by dsimp only; omega⟩ dX11_init_116 (fun adI39 ctI39 hz39 => ?_)
  obtain ⟨hAI39, hCI39, hO110, hS111, hS113⟩ := hz39
  have hO110 : ctI39 110 = .inr (7, [.ref (adI39 111), .ref (adI39 113)]) := hO110
  have ho : ctI39 0 = .inr (11, [.ref (adI39 1), .ref (adI39 3), .ref (adI39 5), .ref (adI39 7), .ref (adI39 9), .ref (adI39 11), .ref (adI39 79), .ref (adI39 81), .ref (adI39 88), .null, .null]) := (hCI39 0 (by omega)).trans (ho.trans (by rw [hAI39 1 (by omega), hAI39 3 (by omega), hAI39 5 (by omega), hAI39 7 (by omega), hAI39 9 (by omega), hAI39 11 (by omega), hAI39 79 (by omega), hAI39 81 (by omega), hAI39 88 (by omega)]))
  have hO1 : ctI39 1 = .inr (3, [.ref (adI39 2), .int (nI 1), .int (nI 1)]) := (hCI39 1 (by omega)).trans (hO1.trans (by rw [hAI39 2 (by omega)]))
  have hO2 : ctI39 2 = .inl (B.2.1 0, 25, .inl (nF (fun _ => 0))) := (hCI39 2 (by omega)).trans hO2
  have hO3 : ctI39 3 = .inr (5, [.ref (adI39 4), .int (nI 0)]) := (hCI39 3 (by omega)).trans (hO3.trans (by rw [hAI39 4 (by omega)]))
  have hO4 : ctI39 4 = .inl (B.2.1 0, 15, .inl (nF (fun _ => 0))) := (hCI39 4 (by omega)).trans hO4
  have hO5 : ctI39 5 = .inr (5, [.ref (adI39 6), .int (nI 0)]) := (hCI39 5 (by omega)).trans (hO5.trans (by rw [hAI39 6 (by omega)]))
  have hO6 : ctI39 6 = .inl (B.2.1 0, 15, .inl (nF (fun _ => 0))) := (hCI39 6 (by omega)).trans hO6
  have hO7 : ctI39 7 = .inr (5, [.ref (adI39 8), .int (nI 0)]) := (hCI39 7 (by omega)).trans (hO7.trans (by rw [hAI39 8 (by omega)]))
  have hO8 : ctI39 8 = .inl (B.2.1 0, 30, .inl (nF (fun _ => 0))) := (hCI39 8 (by omega)).trans hO8
  have hO9 : ctI39 9 = .inr (5, [.ref (adI39 10), .int (nI 0)]) := (hCI39 9 (by omega)).trans (hO9.trans (by rw [hAI39 10 (by omega)]))
  have hO10 : ctI39 10 = .inl (B.2.1 0, 40, .inl (nF (fun _ => 0))) := (hCI39 10 (by omega)).trans hO10
  have hO11 : ctI39 11 = .inr (9, [.ref (adI39 12), .ref (adI39 13), .ref (adI39 14), .ref (adI39 15), .ref (adI39 16), .int 0, .int 0, .int 0, .int 0, .null, .ref (adI39 17), .ref (adI39 19), .ref (adI39 21), .ref (adI39 23), .ref (adI39 25)]) := (hCI39 11 (by omega)).trans (hO11.trans (by rw [hAI39 12 (by omega), hAI39 13 (by omega), hAI39 14 (by omega), hAI39 15 (by omega), hAI39 16 (by omega), hAI39 17 (by omega), hAI39 19 (by omega), hAI39 21 (by omega), hAI39 23 (by omega), hAI39 25 (by omega)]))
  have hO79 : ctI39 79 = .inr (0, [.ref (adI39 80), .int (nI 0), .int (nI 0), .int (nI 0), .int (nI 0)]) := (hCI39 79 (by omega)).trans (hO79.trans (by rw [hAI39 80 (by omega)]))
  have hO80 : ctI39 80 = .inl (B.2.1 1, 0, .inr (.inl (lF (fun _ => 0)))) := (hCI39 80 (by omega)).trans hO80
  have hO81 : ctI39 81 = .inr (8, [.ref (adI39 82), .ref (adI39 85), .int (nI 0), .int (nI 0), .int (nI 0), .long (lN 0), .long (lN 0)]) := (hCI39 81 (by omega)).trans (hO81.trans (by rw [hAI39 82 (by omega), hAI39 85 (by omega)]))
  have hO82 : ctI39 82 = .inr (4, [.ref (adI39 83), .ref (adI39 84), .int (nI 0)]) := (hCI39 82 (by omega)).trans (hO82.trans (by rw [hAI39 83 (by omega), hAI39 84 (by omega)]))
  have hO83 : ctI39 83 = .inl (B.2.1 0, 64, .inl (nF (fun _ => 0))) := (hCI39 83 (by omega)).trans hO83
  have hO84 : ctI39 84 = .inl (B.2.1 0, 64, .inl (nF (fun _ => 0))) := (hCI39 84 (by omega)).trans hO84
  have hO85 : ctI39 85 = .inr (4, [.ref (adI39 86), .ref (adI39 87), .int (nI 0)]) := (hCI39 85 (by omega)).trans (hO85.trans (by rw [hAI39 86 (by omega), hAI39 87 (by omega)]))
  have hO86 : ctI39 86 = .inl (B.2.1 0, 64, .inl (nF (fun _ => 0))) := (hCI39 86 (by omega)).trans hO86
  have hO87 : ctI39 87 = .inl (B.2.1 0, 64, .inl (nF (fun _ => 0))) := (hCI39 87 (by omega)).trans hO87
  have hO88 : ctI39 88 = .inr (6, [.ref (adI39 89), .int 0, .int 0, .int 0, .int 0]) := (hCI39 88 (by omega)).trans (hO88.trans (by rw [hAI39 89 (by omega)]))
  have hWk : iWk B adI39 ctI39 11 := hWk.move (fun r h1 h2 => hAI39 r (by omega)) (fun r h1 h2 => hCI39 r (by omega))
  have hR4 : iRow B adI39 ctI39 89 4 90 := hR4.move (by decide) (by decide) (fun r h1 h2 => hAI39 r (by omega)) (fun r h1 h2 => hCI39 r (by omega))
  have hfra : ∀ r, r < 1 → adI39 r = ad r := fun r hp => (hAI39 r (by omega)).trans (hfra r hp)
  refine g_same (L' := [(0, .ref (adI39 0))]) (st' := [.ref (adI39 110), .ref (adI39 0)]) (by rw [hAI39 0 (by omega)]) (by rw [hAI39 110 (by omega), hAI39 0 (by omega)]) ?_
  refine g_putF (r := 0) (fs' := [.ref (adI39 1), .ref (adI39 3), .ref (adI39 5), .ref (adI39 7), .ref (adI39 9), .ref (adI39 11), .ref (adI39 79), .ref (adI39 81), .ref (adI39 88), .ref (adI39 110), .null]) fx hnm lpX11_65 (by omega) ho rfl rfl (Nat.le_of_ble_eq_true rfl) rfl dX11_init_119 (fun ctP39 ectP39 => ?_)
  have ho : ctP39 0 = .inr (11, [.ref (adI39 1), .ref (adI39 3), .ref (adI39 5), .ref (adI39 7), .ref (adI39 9), .ref (adI39 11), .ref (adI39 79), .ref (adI39 81), .ref (adI39 88), .ref (adI39 110), .null]) := by rw [ectP39, va_up_self]
  have hO1 : ctP39 1 = .inr (3, [.ref (adI39 2), .int (nI 1), .int (nI 1)]) := (congrFun ectP39 _).trans ((va_up_ne _ _ (by omega)).trans hO1)
  have hO2 : ctP39 2 = .inl (B.2.1 0, 25, .inl (nF (fun _ => 0))) := (congrFun ectP39 _).trans ((va_up_ne _ _ (by omega)).trans hO2)
  have hO3 : ctP39 3 = .inr (5, [.ref (adI39 4), .int (nI 0)]) := (congrFun ectP39 _).trans ((va_up_ne _ _ (by omega)).trans hO3)
  have hO4 : ctP39 4 = .inl (B.2.1 0, 15, .inl (nF (fun _ => 0))) := (congrFun ectP39 _).trans ((va_up_ne _ _ (by omega)).trans hO4)
  have hO5 : ctP39 5 = .inr (5, [.ref (adI39 6), .int (nI 0)]) := (congrFun ectP39 _).trans ((va_up_ne _ _ (by omega)).trans hO5)
  have hO6 : ctP39 6 = .inl (B.2.1 0, 15, .inl (nF (fun _ => 0))) := (congrFun ectP39 _).trans ((va_up_ne _ _ (by omega)).trans hO6)
  have hO7 : ctP39 7 = .inr (5, [.ref (adI39 8), .int (nI 0)]) := (congrFun ectP39 _).trans ((va_up_ne _ _ (by omega)).trans hO7)
  have hO8 : ctP39 8 = .inl (B.2.1 0, 30, .inl (nF (fun _ => 0))) := (congrFun ectP39 _).trans ((va_up_ne _ _ (by omega)).trans hO8)
  have hO9 : ctP39 9 = .inr (5, [.ref (adI39 10), .int (nI 0)]) := (congrFun ectP39 _).trans ((va_up_ne _ _ (by omega)).trans hO9)
  have hO10 : ctP39 10 = .inl (B.2.1 0, 40, .inl (nF (fun _ => 0))) := (congrFun ectP39 _).trans ((va_up_ne _ _ (by omega)).trans hO10)
  have hO11 : ctP39 11 = .inr (9, [.ref (adI39 12), .ref (adI39 13), .ref (adI39 14), .ref (adI39 15), .ref (adI39 16), .int 0, .int 0, .int 0, .int 0, .null, .ref (adI39 17), .ref (adI39 19), .ref (adI39 21), .ref (adI39 23), .ref (adI39 25)]) := (congrFun ectP39 _).trans ((va_up_ne _ _ (by omega)).trans hO11)
  have hO79 : ctP39 79 = .inr (0, [.ref (adI39 80), .int (nI 0), .int (nI 0), .int (nI 0), .int (nI 0)]) := (congrFun ectP39 _).trans ((va_up_ne _ _ (by omega)).trans hO79)
  have hO80 : ctP39 80 = .inl (B.2.1 1, 0, .inr (.inl (lF (fun _ => 0)))) := (congrFun ectP39 _).trans ((va_up_ne _ _ (by omega)).trans hO80)
  have hO81 : ctP39 81 = .inr (8, [.ref (adI39 82), .ref (adI39 85), .int (nI 0), .int (nI 0), .int (nI 0), .long (lN 0), .long (lN 0)]) := (congrFun ectP39 _).trans ((va_up_ne _ _ (by omega)).trans hO81)
  have hO82 : ctP39 82 = .inr (4, [.ref (adI39 83), .ref (adI39 84), .int (nI 0)]) := (congrFun ectP39 _).trans ((va_up_ne _ _ (by omega)).trans hO82)
  have hO83 : ctP39 83 = .inl (B.2.1 0, 64, .inl (nF (fun _ => 0))) := (congrFun ectP39 _).trans ((va_up_ne _ _ (by omega)).trans hO83)
  have hO84 : ctP39 84 = .inl (B.2.1 0, 64, .inl (nF (fun _ => 0))) := (congrFun ectP39 _).trans ((va_up_ne _ _ (by omega)).trans hO84)
  have hO85 : ctP39 85 = .inr (4, [.ref (adI39 86), .ref (adI39 87), .int (nI 0)]) := (congrFun ectP39 _).trans ((va_up_ne _ _ (by omega)).trans hO85)
  have hO86 : ctP39 86 = .inl (B.2.1 0, 64, .inl (nF (fun _ => 0))) := (congrFun ectP39 _).trans ((va_up_ne _ _ (by omega)).trans hO86)
  have hO87 : ctP39 87 = .inl (B.2.1 0, 64, .inl (nF (fun _ => 0))) := (congrFun ectP39 _).trans ((va_up_ne _ _ (by omega)).trans hO87)
  have hO88 : ctP39 88 = .inr (6, [.ref (adI39 89), .int 0, .int 0, .int 0, .int 0]) := (congrFun ectP39 _).trans ((va_up_ne _ _ (by omega)).trans hO88)
  have hO110 : ctP39 110 = .inr (7, [.ref (adI39 111), .ref (adI39 113)]) := (congrFun ectP39 _).trans ((va_up_ne _ _ (by omega)).trans hO110)
  have hWk : iWk B adI39 ctP39 11 := hWk.move (fun r h1 h2 => rfl) (fun r h1 h2 => by rw [ectP39, va_up_ne _ _ (by omega)])
  have hR4 : iRow B adI39 ctP39 89 4 90 := hR4.move (by decide) (by decide) (fun r h1 h2 => rfl) (fun r h1 h2 => by rw [ectP39, va_up_ne _ _ (by omega)])
  have hS111 : isW B adI39 ctP39 111 0 := hS111.move (rfl) (by rw [ectP39, va_up_ne _ _ (by omega)]) (by rw [ectP39, va_up_ne _ _ (by omega)])
  have hS113 : isW B adI39 ctP39 113 0 := hS113.move (rfl) (by rw [ectP39, va_up_ne _ _ (by omega)]) (by rw [ectP39, va_up_ne _ _ (by omega)])
  refine g_aload_n fx 0 dX11_init_122 rfl ?_
  refine g_newo fx nwX1 clX11_69 ⟨by dsimp only; omega, by dsimp only; omega⟩ dX11_init_123 (fun ad_11 ct_11 hA_11 hC_11 hN_11 => ?_)
  refine g_same (L' := [(0, .ref (ad_11 0))]) (st' := [.ref (ad_11 115), .ref (ad_11 0)]) (by rw [hA_11 0 (by omega)]) (by rw [hA_11 0 (by omega)]) ?_
  have ho : ct_11 0 = .inr (11, [.ref (ad_11 1), .ref (ad_11 3), .ref (ad_11 5), .ref (ad_11 7), .ref (ad_11 9), .ref (ad_11 11), .ref (ad_11 79), .ref (ad_11 81), .ref (ad_11 88), .ref (ad_11 110), .null]) := (hC_11 0 (by omega)).trans (ho.trans (by rw [hA_11 1 (by omega), hA_11 3 (by omega), hA_11 5 (by omega), hA_11 7 (by omega), hA_11 9 (by omega), hA_11 11 (by omega), hA_11 79 (by omega), hA_11 81 (by omega), hA_11 88 (by omega), hA_11 110 (by omega)]))
  have hO1 : ct_11 1 = .inr (3, [.ref (ad_11 2), .int (nI 1), .int (nI 1)]) := (hC_11 1 (by omega)).trans (hO1.trans (by rw [hA_11 2 (by omega)]))
  have hO2 : ct_11 2 = .inl (B.2.1 0, 25, .inl (nF (fun _ => 0))) := (hC_11 2 (by omega)).trans hO2
  have hO3 : ct_11 3 = .inr (5, [.ref (ad_11 4), .int (nI 0)]) := (hC_11 3 (by omega)).trans (hO3.trans (by rw [hA_11 4 (by omega)]))
  have hO4 : ct_11 4 = .inl (B.2.1 0, 15, .inl (nF (fun _ => 0))) := (hC_11 4 (by omega)).trans hO4
  have hO5 : ct_11 5 = .inr (5, [.ref (ad_11 6), .int (nI 0)]) := (hC_11 5 (by omega)).trans (hO5.trans (by rw [hA_11 6 (by omega)]))
  have hO6 : ct_11 6 = .inl (B.2.1 0, 15, .inl (nF (fun _ => 0))) := (hC_11 6 (by omega)).trans hO6
  have hO7 : ct_11 7 = .inr (5, [.ref (ad_11 8), .int (nI 0)]) := (hC_11 7 (by omega)).trans (hO7.trans (by rw [hA_11 8 (by omega)]))
  have hO8 : ct_11 8 = .inl (B.2.1 0, 30, .inl (nF (fun _ => 0))) := (hC_11 8 (by omega)).trans hO8
  have hO9 : ct_11 9 = .inr (5, [.ref (ad_11 10), .int (nI 0)]) := (hC_11 9 (by omega)).trans (hO9.trans (by rw [hA_11 10 (by omega)]))
  have hO10 : ct_11 10 = .inl (B.2.1 0, 40, .inl (nF (fun _ => 0))) := (hC_11 10 (by omega)).trans hO10
  have hO11 : ct_11 11 = .inr (9, [.ref (ad_11 12), .ref (ad_11 13), .ref (ad_11 14), .ref (ad_11 15), .ref (ad_11 16), .int 0, .int 0, .int 0, .int 0, .null, .ref (ad_11 17), .ref (ad_11 19), .ref (ad_11 21), .ref (ad_11 23), .ref (ad_11 25)]) := (hC_11 11 (by omega)).trans (hO11.trans (by rw [hA_11 12 (by omega), hA_11 13 (by omega), hA_11 14 (by omega), hA_11 15 (by omega), hA_11 16 (by omega), hA_11 17 (by omega), hA_11 19 (by omega), hA_11 21 (by omega), hA_11 23 (by omega), hA_11 25 (by omega)]))
  have hO79 : ct_11 79 = .inr (0, [.ref (ad_11 80), .int (nI 0), .int (nI 0), .int (nI 0), .int (nI 0)]) := (hC_11 79 (by omega)).trans (hO79.trans (by rw [hA_11 80 (by omega)]))
  have hO80 : ct_11 80 = .inl (B.2.1 1, 0, .inr (.inl (lF (fun _ => 0)))) := (hC_11 80 (by omega)).trans hO80
  have hO81 : ct_11 81 = .inr (8, [.ref (ad_11 82), .ref (ad_11 85), .int (nI 0), .int (nI 0), .int (nI 0), .long (lN 0), .long (lN 0)]) := (hC_11 81 (by omega)).trans (hO81.trans (by rw [hA_11 82 (by omega), hA_11 85 (by omega)]))
  have hO82 : ct_11 82 = .inr (4, [.ref (ad_11 83), .ref (ad_11 84), .int (nI 0)]) := (hC_11 82 (by omega)).trans (hO82.trans (by rw [hA_11 83 (by omega), hA_11 84 (by omega)]))
  have hO83 : ct_11 83 = .inl (B.2.1 0, 64, .inl (nF (fun _ => 0))) := (hC_11 83 (by omega)).trans hO83
  have hO84 : ct_11 84 = .inl (B.2.1 0, 64, .inl (nF (fun _ => 0))) := (hC_11 84 (by omega)).trans hO84
  have hO85 : ct_11 85 = .inr (4, [.ref (ad_11 86), .ref (ad_11 87), .int (nI 0)]) := (hC_11 85 (by omega)).trans (hO85.trans (by rw [hA_11 86 (by omega), hA_11 87 (by omega)]))
  have hO86 : ct_11 86 = .inl (B.2.1 0, 64, .inl (nF (fun _ => 0))) := (hC_11 86 (by omega)).trans hO86
  have hO87 : ct_11 87 = .inl (B.2.1 0, 64, .inl (nF (fun _ => 0))) := (hC_11 87 (by omega)).trans hO87
  have hO88 : ct_11 88 = .inr (6, [.ref (ad_11 89), .int 0, .int 0, .int 0, .int 0]) := (hC_11 88 (by omega)).trans (hO88.trans (by rw [hA_11 89 (by omega)]))
  have hO110 : ct_11 110 = .inr (7, [.ref (ad_11 111), .ref (ad_11 113)]) := (hC_11 110 (by omega)).trans (hO110.trans (by rw [hA_11 111 (by omega), hA_11 113 (by omega)]))
  have hfra : ∀ r, r < 1 → ad_11 r = ad r := fun r hp => (hA_11 r (by omega)).trans (hfra r hp)
  have hWk : iWk B ad_11 ct_11 11 := hWk.move (fun r h1 h2 => hA_11 r (by omega)) (fun r h1 h2 => hC_11 r (by omega))
  have hR4 : iRow B ad_11 ct_11 89 4 90 := hR4.move (by decide) (by decide) (fun r h1 h2 => hA_11 r (by omega)) (fun r h1 h2 => hC_11 r (by omega))
  have hS111 : isW B ad_11 ct_11 111 0 := hS111.move (hA_11 _ (by omega)) (hC_11 _ (by omega)) (hC_11 _ (by omega))
  have hS113 : isW B ad_11 ct_11 113 0 := hS113.move (hA_11 _ (by omega)) (hC_11 _ (by omega)) (hC_11 _ (by omega))
  refine g_dup fx dX11_init_126 rfl ?_
  refine g_aload_n fx 0 dX11_init_127 rfl ?_
  refine g_get (r := 0) fx lkX11_65 (by omega) ho rfl dX11_init_128 ?_
  refine g_callIx (As := [.ref (ad_11 110)]) (rest := [.ref (ad_11 115), .ref (ad_11 0)]) fx slX11_71 (c_X1_init B ad_11 ct_11 115 hN_11 110 (by decide)) rfl rfl (Nat.le_of_ble_eq_true rfl) ⟨by dsimp only; omega, by dsimp only; omega⟩ ⟨by dsimp only; omega, by dsimp only; omega⟩ dX11_init_131 (fun adI40 ctI40 hz40 => ?_)
  obtain ⟨hAI40, hCI40, hO115, hO117, hR12⟩ := hz40
  have hO115 : ctI40 115 = .inr (1, [.ref (adI40 116), .ref (adI40 117), .ref (adI40 110), .int 0]) := hO115
  have hO117 : ctI40 117 = .inl (B.2.1 0, 12, .inl (nF (fun _ => 0))) := hO117
  have ho : ctI40 0 = .inr (11, [.ref (adI40 1), .ref (adI40 3), .ref (adI40 5), .ref (adI40 7), .ref (adI40 9), .ref (adI40 11), .ref (adI40 79), .ref (adI40 81), .ref (adI40 88), .ref (adI40 110), .null]) := (hCI40 0 (by omega)).trans (ho.trans (by rw [hAI40 1 (by omega), hAI40 3 (by omega), hAI40 5 (by omega), hAI40 7 (by omega), hAI40 9 (by omega), hAI40 11 (by omega), hAI40 79 (by omega), hAI40 81 (by omega), hAI40 88 (by omega), hAI40 110 (by omega)]))
  have hO1 : ctI40 1 = .inr (3, [.ref (adI40 2), .int (nI 1), .int (nI 1)]) := (hCI40 1 (by omega)).trans (hO1.trans (by rw [hAI40 2 (by omega)]))
  have hO2 : ctI40 2 = .inl (B.2.1 0, 25, .inl (nF (fun _ => 0))) := (hCI40 2 (by omega)).trans hO2
  have hO3 : ctI40 3 = .inr (5, [.ref (adI40 4), .int (nI 0)]) := (hCI40 3 (by omega)).trans (hO3.trans (by rw [hAI40 4 (by omega)]))
  have hO4 : ctI40 4 = .inl (B.2.1 0, 15, .inl (nF (fun _ => 0))) := (hCI40 4 (by omega)).trans hO4
  have hO5 : ctI40 5 = .inr (5, [.ref (adI40 6), .int (nI 0)]) := (hCI40 5 (by omega)).trans (hO5.trans (by rw [hAI40 6 (by omega)]))
  have hO6 : ctI40 6 = .inl (B.2.1 0, 15, .inl (nF (fun _ => 0))) := (hCI40 6 (by omega)).trans hO6
  have hO7 : ctI40 7 = .inr (5, [.ref (adI40 8), .int (nI 0)]) := (hCI40 7 (by omega)).trans (hO7.trans (by rw [hAI40 8 (by omega)]))
  have hO8 : ctI40 8 = .inl (B.2.1 0, 30, .inl (nF (fun _ => 0))) := (hCI40 8 (by omega)).trans hO8
  have hO9 : ctI40 9 = .inr (5, [.ref (adI40 10), .int (nI 0)]) := (hCI40 9 (by omega)).trans (hO9.trans (by rw [hAI40 10 (by omega)]))
  have hO10 : ctI40 10 = .inl (B.2.1 0, 40, .inl (nF (fun _ => 0))) := (hCI40 10 (by omega)).trans hO10
  have hO11 : ctI40 11 = .inr (9, [.ref (adI40 12), .ref (adI40 13), .ref (adI40 14), .ref (adI40 15), .ref (adI40 16), .int 0, .int 0, .int 0, .int 0, .null, .ref (adI40 17), .ref (adI40 19), .ref (adI40 21), .ref (adI40 23), .ref (adI40 25)]) := (hCI40 11 (by omega)).trans (hO11.trans (by rw [hAI40 12 (by omega), hAI40 13 (by omega), hAI40 14 (by omega), hAI40 15 (by omega), hAI40 16 (by omega), hAI40 17 (by omega), hAI40 19 (by omega), hAI40 21 (by omega), hAI40 23 (by omega), hAI40 25 (by omega)]))
  have hO79 : ctI40 79 = .inr (0, [.ref (adI40 80), .int (nI 0), .int (nI 0), .int (nI 0), .int (nI 0)]) := (hCI40 79 (by omega)).trans (hO79.trans (by rw [hAI40 80 (by omega)]))
  have hO80 : ctI40 80 = .inl (B.2.1 1, 0, .inr (.inl (lF (fun _ => 0)))) := (hCI40 80 (by omega)).trans hO80
  have hO81 : ctI40 81 = .inr (8, [.ref (adI40 82), .ref (adI40 85), .int (nI 0), .int (nI 0), .int (nI 0), .long (lN 0), .long (lN 0)]) := (hCI40 81 (by omega)).trans (hO81.trans (by rw [hAI40 82 (by omega), hAI40 85 (by omega)]))
  have hO82 : ctI40 82 = .inr (4, [.ref (adI40 83), .ref (adI40 84), .int (nI 0)]) := (hCI40 82 (by omega)).trans (hO82.trans (by rw [hAI40 83 (by omega), hAI40 84 (by omega)]))
  have hO83 : ctI40 83 = .inl (B.2.1 0, 64, .inl (nF (fun _ => 0))) := (hCI40 83 (by omega)).trans hO83
  have hO84 : ctI40 84 = .inl (B.2.1 0, 64, .inl (nF (fun _ => 0))) := (hCI40 84 (by omega)).trans hO84
  have hO85 : ctI40 85 = .inr (4, [.ref (adI40 86), .ref (adI40 87), .int (nI 0)]) := (hCI40 85 (by omega)).trans (hO85.trans (by rw [hAI40 86 (by omega), hAI40 87 (by omega)]))
  have hO86 : ctI40 86 = .inl (B.2.1 0, 64, .inl (nF (fun _ => 0))) := (hCI40 86 (by omega)).trans hO86
  have hO87 : ctI40 87 = .inl (B.2.1 0, 64, .inl (nF (fun _ => 0))) := (hCI40 87 (by omega)).trans hO87
  have hO88 : ctI40 88 = .inr (6, [.ref (adI40 89), .int 0, .int 0, .int 0, .int 0]) := (hCI40 88 (by omega)).trans (hO88.trans (by rw [hAI40 89 (by omega)]))
  have hO110 : ctI40 110 = .inr (7, [.ref (adI40 111), .ref (adI40 113)]) := (hCI40 110 (by omega)).trans (hO110.trans (by rw [hAI40 111 (by omega), hAI40 113 (by omega)]))
  have hWk : iWk B adI40 ctI40 11 := hWk.move (fun r h1 h2 => hAI40 r (by omega)) (fun r h1 h2 => hCI40 r (by omega))
  have hR4 : iRow B adI40 ctI40 89 4 90 := hR4.move (by decide) (by decide) (fun r h1 h2 => hAI40 r (by omega)) (fun r h1 h2 => hCI40 r (by omega))
  have hS111 : isW B adI40 ctI40 111 0 := hS111.move (hAI40 _ (by omega)) (hCI40 _ (by omega)) (hCI40 _ (by omega))
  have hS113 : isW B adI40 ctI40 113 0 := hS113.move (hAI40 _ (by omega)) (hCI40 _ (by omega)) (hCI40 _ (by omega))
  have hfra : ∀ r, r < 1 → adI40 r = ad r := fun r hp => (hAI40 r (by omega)).trans (hfra r hp)
  refine g_same (L' := [(0, .ref (adI40 0))]) (st' := [.ref (adI40 115), .ref (adI40 0)]) (by rw [hAI40 0 (by omega)]) (by rw [hAI40 115 (by omega), hAI40 0 (by omega)]) ?_
  refine g_putF (r := 0) (fs' := [.ref (adI40 1), .ref (adI40 3), .ref (adI40 5), .ref (adI40 7), .ref (adI40 9), .ref (adI40 11), .ref (adI40 79), .ref (adI40 81), .ref (adI40 88), .ref (adI40 110), .ref (adI40 115)]) fx hnm lpX11_74 (by omega) ho rfl rfl (Nat.le_of_ble_eq_true rfl) rfl dX11_init_134 (fun ctP40 ectP40 => ?_)
  have ho : ctP40 0 = .inr (11, [.ref (adI40 1), .ref (adI40 3), .ref (adI40 5), .ref (adI40 7), .ref (adI40 9), .ref (adI40 11), .ref (adI40 79), .ref (adI40 81), .ref (adI40 88), .ref (adI40 110), .ref (adI40 115)]) := by rw [ectP40, va_up_self]
  have hO1 : ctP40 1 = .inr (3, [.ref (adI40 2), .int (nI 1), .int (nI 1)]) := (congrFun ectP40 _).trans ((va_up_ne _ _ (by omega)).trans hO1)
  have hO2 : ctP40 2 = .inl (B.2.1 0, 25, .inl (nF (fun _ => 0))) := (congrFun ectP40 _).trans ((va_up_ne _ _ (by omega)).trans hO2)
  have hO3 : ctP40 3 = .inr (5, [.ref (adI40 4), .int (nI 0)]) := (congrFun ectP40 _).trans ((va_up_ne _ _ (by omega)).trans hO3)
  have hO4 : ctP40 4 = .inl (B.2.1 0, 15, .inl (nF (fun _ => 0))) := (congrFun ectP40 _).trans ((va_up_ne _ _ (by omega)).trans hO4)
  have hO5 : ctP40 5 = .inr (5, [.ref (adI40 6), .int (nI 0)]) := (congrFun ectP40 _).trans ((va_up_ne _ _ (by omega)).trans hO5)
  have hO6 : ctP40 6 = .inl (B.2.1 0, 15, .inl (nF (fun _ => 0))) := (congrFun ectP40 _).trans ((va_up_ne _ _ (by omega)).trans hO6)
  have hO7 : ctP40 7 = .inr (5, [.ref (adI40 8), .int (nI 0)]) := (congrFun ectP40 _).trans ((va_up_ne _ _ (by omega)).trans hO7)
  have hO8 : ctP40 8 = .inl (B.2.1 0, 30, .inl (nF (fun _ => 0))) := (congrFun ectP40 _).trans ((va_up_ne _ _ (by omega)).trans hO8)
  have hO9 : ctP40 9 = .inr (5, [.ref (adI40 10), .int (nI 0)]) := (congrFun ectP40 _).trans ((va_up_ne _ _ (by omega)).trans hO9)
  have hO10 : ctP40 10 = .inl (B.2.1 0, 40, .inl (nF (fun _ => 0))) := (congrFun ectP40 _).trans ((va_up_ne _ _ (by omega)).trans hO10)
  have hO11 : ctP40 11 = .inr (9, [.ref (adI40 12), .ref (adI40 13), .ref (adI40 14), .ref (adI40 15), .ref (adI40 16), .int 0, .int 0, .int 0, .int 0, .null, .ref (adI40 17), .ref (adI40 19), .ref (adI40 21), .ref (adI40 23), .ref (adI40 25)]) := (congrFun ectP40 _).trans ((va_up_ne _ _ (by omega)).trans hO11)
  have hO79 : ctP40 79 = .inr (0, [.ref (adI40 80), .int (nI 0), .int (nI 0), .int (nI 0), .int (nI 0)]) := (congrFun ectP40 _).trans ((va_up_ne _ _ (by omega)).trans hO79)
  have hO80 : ctP40 80 = .inl (B.2.1 1, 0, .inr (.inl (lF (fun _ => 0)))) := (congrFun ectP40 _).trans ((va_up_ne _ _ (by omega)).trans hO80)
  have hO81 : ctP40 81 = .inr (8, [.ref (adI40 82), .ref (adI40 85), .int (nI 0), .int (nI 0), .int (nI 0), .long (lN 0), .long (lN 0)]) := (congrFun ectP40 _).trans ((va_up_ne _ _ (by omega)).trans hO81)
  have hO82 : ctP40 82 = .inr (4, [.ref (adI40 83), .ref (adI40 84), .int (nI 0)]) := (congrFun ectP40 _).trans ((va_up_ne _ _ (by omega)).trans hO82)
  have hO83 : ctP40 83 = .inl (B.2.1 0, 64, .inl (nF (fun _ => 0))) := (congrFun ectP40 _).trans ((va_up_ne _ _ (by omega)).trans hO83)
  have hO84 : ctP40 84 = .inl (B.2.1 0, 64, .inl (nF (fun _ => 0))) := (congrFun ectP40 _).trans ((va_up_ne _ _ (by omega)).trans hO84)
  have hO85 : ctP40 85 = .inr (4, [.ref (adI40 86), .ref (adI40 87), .int (nI 0)]) := (congrFun ectP40 _).trans ((va_up_ne _ _ (by omega)).trans hO85)
  have hO86 : ctP40 86 = .inl (B.2.1 0, 64, .inl (nF (fun _ => 0))) := (congrFun ectP40 _).trans ((va_up_ne _ _ (by omega)).trans hO86)
  have hO87 : ctP40 87 = .inl (B.2.1 0, 64, .inl (nF (fun _ => 0))) := (congrFun ectP40 _).trans ((va_up_ne _ _ (by omega)).trans hO87)
  have hO88 : ctP40 88 = .inr (6, [.ref (adI40 89), .int 0, .int 0, .int 0, .int 0]) := (congrFun ectP40 _).trans ((va_up_ne _ _ (by omega)).trans hO88)
  have hO110 : ctP40 110 = .inr (7, [.ref (adI40 111), .ref (adI40 113)]) := (congrFun ectP40 _).trans ((va_up_ne _ _ (by omega)).trans hO110)
  have hO115 : ctP40 115 = .inr (1, [.ref (adI40 116), .ref (adI40 117), .ref (adI40 110), .int 0]) := (congrFun ectP40 _).trans ((va_up_ne _ _ (by omega)).trans hO115)
  have hO117 : ctP40 117 = .inl (B.2.1 0, 12, .inl (nF (fun _ => 0))) := (congrFun ectP40 _).trans ((va_up_ne _ _ (by omega)).trans hO117)
  have hWk : iWk B adI40 ctP40 11 := hWk.move (fun r h1 h2 => rfl) (fun r h1 h2 => by rw [ectP40, va_up_ne _ _ (by omega)])
  have hR4 : iRow B adI40 ctP40 89 4 90 := hR4.move (by decide) (by decide) (fun r h1 h2 => rfl) (fun r h1 h2 => by rw [ectP40, va_up_ne _ _ (by omega)])
  have hS111 : isW B adI40 ctP40 111 0 := hS111.move (rfl) (by rw [ectP40, va_up_ne _ _ (by omega)]) (by rw [ectP40, va_up_ne _ _ (by omega)])
  have hS113 : isW B adI40 ctP40 113 0 := hS113.move (rfl) (by rw [ectP40, va_up_ne _ _ (by omega)]) (by rw [ectP40, va_up_ne _ _ (by omega)])
  have hR12 : iRow B adI40 ctP40 116 12 118 := hR12.move (by decide) (by decide) (fun r h1 h2 => rfl) (fun r h1 h2 => by rw [ectP40, va_up_ne _ _ (by omega)])
  obtain ⟨⟨gt, hg1, hg2⟩, h13, h14, h15, ⟨f1, h16, hf1⟩, hWs⟩ := hWk
  obtain ⟨f2, h89, hf2, hF4⟩ := hR4
  obtain ⟨f3, h116, hf3, hF12⟩ := hR12
  refine g_reent (f' := fun i => some (adI40 (27 + 2 * i))) 16 h16 hf1 ?_
  refine g_reent (f' := fun i => some (adI40 (90 + 5 * i))) 89 (by rw [va_up_ne _ _ (by decide)]; exact h89) hf2 ?_
  refine g_reent (f' := fun i => some (adI40 (118 + 5 * i))) 116 (by rw [va_up_ne _ _ (by decide), va_up_ne _ _ (by decide)]; exact h116) hf3 ?_
  have hcf : ∀ r, r ≠ 16 → r ≠ 89 → r ≠ 116 → va_up (va_up (va_up ctP40 16 (.inl (B.2.1 3, 26, .inr (.inr (.inr (.inr (fun i => some (adI40 (27 + 2 * i))))))))) 89 (.inl (B.2.1 4, 4, .inr (.inr (.inr (.inr (fun i => some (adI40 (90 + 5 * i))))))))) 116 (.inl (B.2.1 4, 12, .inr (.inr (.inr (.inr (fun i => some (adI40 (118 + 5 * i)))))))) r = ctP40 r := fun r h1 h2 h3 => by rw [va_up_ne _ _ h3, va_up_ne _ _ h2, va_up_ne _ _ h1]
  refine g_more (k1 := 177) (s1 := 3358) (by omega) (by omega) ?_
  refine g_vret fx rt dX11_init_137 ?_
  exact gPx.mk ⟨hfra 0 (by decide), (hcf 0 (by decide) (by decide) (by decide)).trans ho, (hcf 1 (by decide) (by decide) (by decide)).trans hO1, (hcf 2 (by decide) (by decide) (by decide)).trans hO2, (hcf 3 (by decide) (by decide) (by decide)).trans hO3, (hcf 4 (by decide) (by decide) (by decide)).trans hO4, (hcf 5 (by decide) (by decide) (by decide)).trans hO5, (hcf 6 (by decide) (by decide) (by decide)).trans hO6, (hcf 7 (by decide) (by decide) (by decide)).trans hO7, (hcf 8 (by decide) (by decide) (by decide)).trans hO8, (hcf 9 (by decide) (by decide) (by decide)).trans hO9, (hcf 10 (by decide) (by decide) (by decide)).trans hO10, (hcf 11 (by decide) (by decide) (by decide)).trans hO11, (hcf 79 (by decide) (by decide) (by decide)).trans hO79, (hcf 80 (by decide) (by decide) (by decide)).trans hO80, (hcf 81 (by decide) (by decide) (by decide)).trans hO81, (hcf 82 (by decide) (by decide) (by decide)).trans hO82, (hcf 83 (by decide) (by decide) (by decide)).trans hO83, (hcf 84 (by decide) (by decide) (by decide)).trans hO84, (hcf 85 (by decide) (by decide) (by decide)).trans hO85, (hcf 86 (by decide) (by decide) (by decide)).trans hO86, (hcf 87 (by decide) (by decide) (by decide)).trans hO87, (hcf 88 (by decide) (by decide) (by decide)).trans hO88, (hcf 110 (by decide) (by decide) (by decide)).trans hO110, (hcf 115 (by decide) (by decide) (by decide)).trans hO115, (hcf 117 (by decide) (by decide) (by decide)).trans hO117, ⟨gt, (hcf _ (by decide) (by decide) (by decide)).trans hg1, hg2⟩, (hcf _ (by decide) (by decide) (by decide)).trans h13, (hcf _ (by decide) (by decide) (by decide)).trans h14, (hcf _ (by decide) (by decide) (by decide)).trans h15, by rw [va_up_ne _ _ (by decide), va_up_ne _ _ (by decide), va_up_self], fun i hi => (show isW B adI40 ctP40 (17 + 2 * i) 0 from hWs i hi).frame (hcf _ (by omega) (by omega) (by omega)) (hcf _ (by omega) (by omega) (by omega)), by rw [va_up_ne _ _ (by decide), va_up_self], fun t ht => (hF4 t ht).other (fun r h1 h2 => hcf r (by omega) (by omega) (by omega)), hS111.frame (hcf _ (by decide) (by decide) (by decide)) (hcf _ (by decide) (by decide) (by decide)), hS113.frame (hcf _ (by decide) (by decide) (by decide)) (hcf _ (by decide) (by decide) (by decide)), va_up_self _ _ _, fun t ht => (hF12 t ht).other (fun r h1 h2 => hcf r (by omega) (by omega) (by omega))⟩
