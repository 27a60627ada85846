def iRow (B : gB) (ad : Nat → Nat) (ct : Nat → va_E) (w N : Nat) (b : Nat) : Prop := ∃ f : Nat → Option Nat, ct w = .inl (B.2.1 4, N, .inr (.inr (.inr (.inr f)))) ∧ (∀ j, j < N → f j = some (ad (b + 5 * j))) ∧ ∀ t, t < N → isFr B ad ct (b + 5 * t) 0 0
set_option maxHeartbeats 4000000 in
set_option maxRecDepth 100000 in
theorem c_X6_init (B : gB) (ad : Nat → Nat) (ct : Nat → va_E) (w : Nat) (ho : ct w = .inr (6, [.null, .int 0, .int 0, .int 0, .int 0])) : Ctr B yX6_init cX6_init 2 none 3 60 21 124 ad ct (w + 1) [.ref (ad w)] (gPx (w + 22) (fun ad' ct' => (∀ r, r ≤ w → ad' r = ad r) ∧ (∀ r, r < w → ct' r = ct r) ∧ ct' w = .inr (6, [.ref (ad' (w + 1)), .int 0, .int 0, .int 0, .int 0]) ∧ iRow B ad' ct' (w + 1) 4 (w + 2))) := by
  have hfr : ∀ r, r < w → ct r = ct r := fun _ _ => rfl
  have hfra : ∀ r, r ≤ w → ad r = ad r := fun _ _ => rfl
  refine Ctr.ofG (L := [(0, .ref (ad w))]) (by decide +kernel) rfl (Nat.le_of_ble_eq_true rfl) (fun E fx rt hnm => ?_)
  refine g_aload_n fx 0 dX6_init_0 rfl ?_
  refine g_objInit fx oiX6_3 ojI ojC (by decide) (by decide) dX6_init_1 ?_
  refine g_aload_n fx 0 dX6_init_4 rfl ?_
  refine g_iconst (v := nI 4) fx dX6_init_5 (by decide +kernel) ?_
  refine g_newq (N := 4) (t0 := 4) fx clX6_9 (by decide +kernel) rfl (nI_toInt (by omega)) (by omega) ⟨by dsimp only; omega, by dsimp only; omega⟩ dX6_init_6 (fun ad_1 ct_1 hA_1 hC_1 hN_1 => ?_)
  refine g_same (L' := [(0, .ref (ad_1 w))]) (st' := [.ref (ad_1 (w + 1)), .ref (ad_1 w)]) (by rw [hA_1 w (by omega)]) (by rw [hA_1 w (by omega)]) ?_
  have ho : ct_1 w = .inr (6, [.null, .int 0, .int 0, .int 0, .int 0]) := (hC_1 w (by omega)).trans ho
  have hfra : ∀ r, r ≤ w → ad_1 r = ad r := fun r hp => (hA_1 r (by omega)).trans (hfra r hp)
  have hfr : ∀ r, r < w → ct_1 r = ct r := fun r hp => (hC_1 r (by omega)).trans (hfr r hp)
  refine g_putF (r := w) (fs' := [.ref (ad_1 (w + 1)), .int 0, .int 0, .int 0, .int 0]) fx hnm lpX6_11 (by omega) ho rfl rfl (Nat.le_of_ble_eq_true rfl) rfl dX6_init_9 (fun cu1 ecu1 => ?_)
  have hfr : ∀ r, r < w → cu1 r = ct r := fun r hp => (congrFun ecu1 r).trans ((va_up_ne _ _ (by omega)).trans (hfr r hp))
  have ho : cu1 w = .inr (6, [.ref (ad_1 (w + 1)), .int 0, .int 0, .int 0, .int 0]) := by rw [ecu1, va_up_self]
  have hN_1 : cu1 (w + 1) = .inl (B.2.1 4, 4, .inr (.inr (.inr (.inr (fun _ => none))))) := (congrFun ecu1 _).trans ((va_up_ne _ _ (by omega)).trans hN_1)
  refine g_iconst (v := nI 0) fx dX6_init_12 (by decide +kernel) ?_
  refine g_istore_n (L' := [(1, .int (nI 0)), (0, .ref (ad_1 w))]) fx dX6_init_13 (by decide) rfl ?_
  have LP14 : ∀ (M : Nat) (i q : Nat) (f : Nat → Option Nat) (ad1 : Nat → Nat) (ct1 : Nat → va_E), (i ≤ 4) → (q = w + 2 + 5 * i) → (ct1 w = .inr (6, [.ref (ad1 (w + 1)), .int 0, .int 0, .int 0, .int 0])) → (ct1 (w + 1) = .inl (B.2.1 4, 4, .inr (.inr (.inr (.inr f))))) → (∀ j, j < i → f j = some (ad1 (w + 2 + 5 * j))) → (∀ j, j < i → isFr B ad1 ct1 (w + 2 + 5 * j) 0 0) → (∀ r, r < w → ct1 r = ct r) → (∀ r, r ≤ w → ad1 r = ad r) →  (4 - i) < M → G B 2 E ad1 ct1 q (1 + 5 * i) (4 + 30 * i) [(0, .ref (ad1 w)), (1, .int (nI i))] 14 [] := by
    intro M
    induction M with
    | zero => intro i q f ad1 ct1 _ _ _ _ _ _ _ _ hM; exact absurd hM (Nat.not_lt_zero _)
    | succ M ih =>
      intro i q f ad1 ct1 hi hq ho hrow hf hFr hfr hfra hM
      have ih14 := ih
      refine g_iload_n fx 1 dX6_init_14 rfl ?_
      refine g_iconst (v := nI 4) fx dX6_init_15 (by decide +kernel) ?_
      refine g_icmp_ge fx 38 dX6_init_16 (by decide) (fun c16 => ?_) (fun c16 => ?_)
      · skip
        have hie : i = 4 := by have := (nI_leI (by omega) (by omega)).mp c16; omega
        have hqe : q = w + 22 := by omega
        subst hqe
        refine g_more (k1 := 21) (s1 := 124) (by omega) (by omega) ?_
        refine g_vret fx rt dX6_init_38 ?_
        exact gPx.mk ⟨hfra, hfr, ho, f, hrow, fun j hj => hf j (by omega), fun t ht => hFr t (by omega)⟩
      · skip
        have hil : i < 4 := (nI_ltI (by omega) (by omega)).mp (Int32.not_le.mp c16)
        refine g_aload_n fx 0 dX6_init_19 rfl ?_
        refine g_get (r := w) fx lkX6_11 (by omega) ho rfl dX6_init_20 ?_
        refine g_iload_n fx 1 dX6_init_23 rfl ?_
        refine g_newo fx nwX2 clX6_9 ⟨by dsimp only; omega, by dsimp only; omega⟩ dX6_init_24 (fun ad_9 ct_9 hA_9 hC_9 hN_9 => ?_)
        refine g_same (L' := [(0, .ref (ad_9 w)), (1, .int (nI i))]) (st' := [.ref (ad_9 q), .int (nI i), .ref (ad_9 (w + 1))]) (by rw [hA_9 w (by omega)]) (by rw [hA_9 (w + 1) (by omega)]) ?_
        have ho : ct_9 w = .inr (6, [.ref (ad_9 (w + 1)), .int 0, .int 0, .int 0, .int 0]) := (hC_9 w (by omega)).trans (ho.trans (by rw [hA_9 (w + 1) (by omega)]))
        have hrow : ct_9 (w + 1) = .inl (B.2.1 4, 4, .inr (.inr (.inr (.inr f)))) := (hC_9 (w + 1) (by omega)).trans hrow
        have hfra : ∀ r, r ≤ w → ad_9 r = ad r := fun r hp => (hA_9 r (by omega)).trans (hfra r hp)
        have hfr : ∀ r, r < w → ct_9 r = ct r := fun r hp => (hC_9 r (by omega)).trans (hfr r hp)
        have hf : ∀ j, j < i → f j = some (ad_9 (w + 2 + 5 * j)) := fun j hj => by rw [hA_9 _ (by omega)]; exact hf j hj
        have hFr : ∀ j, j < i → isFr B ad_9 ct_9 (w + 2 + 5 * j) 0 0 := fun j hj => (hFr j hj).move (fun r h1 h2 => hA_9 r (by omega)) (fun r h1 h2 => hC_9 r (by omega))
        refine g_dup fx dX6_init_27 rfl ?_
        refine g_callIx (As := []) (rest := [.ref (ad_9 q), .int (nI i), .ref (ad_9 (w + 1))]) fx slX6_17 (c_X2_init B ad_9 ct_9 (q) hN_9) rfl rfl (Nat.le_of_ble_eq_true rfl) ⟨by dsimp only; omega, by dsimp only; omega⟩ ⟨by dsimp only; omega, by dsimp only; omega⟩ dX6_init_28 (fun adI7 ctI7 hz7 => ?_)
        obtain ⟨hAI7, hCI7, hF⟩ := hz7
        have ho : ctI7 w = .inr (6, [.ref (adI7 (w + 1)), .int 0, .int 0, .int 0, .int 0]) := (hCI7 w (by omega)).trans (ho.trans (by rw [hAI7 (w + 1) (by omega)]))
        have hrow : ctI7 (w + 1) = .inl (B.2.1 4, 4, .inr (.inr (.inr (.inr f)))) := (hCI7 (w + 1) (by omega)).trans hrow
        have hfr : ∀ r, r < w → ctI7 r = ct r := fun r hp => (hCI7 r (by omega)).trans (hfr r hp)
        have hfra : ∀ r, r ≤ w → adI7 r = ad r := fun r hp => (hAI7 r (by omega)).trans (hfra r hp)
        have hF : isFr B adI7 ctI7 q 0 0 := hF
        have hFo := hF.1
        have hf : ∀ j, j < i → f j = some (adI7 (w + 2 + 5 * j)) := fun j hj => by rw [hAI7 _ (by omega)]; exact hf j hj
        have hFr : ∀ j, j < i → isFr B adI7 ctI7 (w + 2 + 5 * j) 0 0 := fun j hj => (hFr j hj).move (fun r h1 h2 => hAI7 r (by omega)) (fun r h1 h2 => hCI7 r (by omega))
        refine g_same (L' := [(0, .ref (adI7 w)), (1, .int (nI i))]) (st' := [.ref (adI7 q), .int (nI i), .ref (adI7 (w + 1))]) (by rw [hAI7 w (by omega)]) (by rw [hAI7 q (by omega), hAI7 (w + 1) (by omega)]) ?_
        refine g_aast (r := (w + 1)) (k := q) (j := i) (t0 := 4) fx rfl rfl (by omega) hrow (by omega) hFo (nI_toInt (by omega)) (by omega) dX6_init_31 (fun ctS ectS => ?_)
        have hfr : ∀ r, r < w → ctS r = ct r := fun r hp => (congrFun ectS r).trans ((va_up_ne _ _ (by omega)).trans (hfr r hp))
        have ho : ctS w = .inr (6, [.ref (adI7 (w + 1)), .int 0, .int 0, .int 0, .int 0]) := (congrFun ectS _).trans ((va_up_ne _ _ (by omega)).trans ho)
        have hrow : ctS (w + 1) = .inl (B.2.1 4, 4, .inr (.inr (.inr (.inr (va_up f i (some (adI7 q))))))) := by rw [ectS, va_up_self]
        have hFo : ctS q = .inr (2, [.ref (adI7 (q + 1)), .ref (adI7 (q + 3))]) := (congrFun ectS _).trans ((va_up_ne _ _ (by omega)).trans hFo)
        refine g_iinc (L' := [(1, .int (nI (i + 1))), (0, .ref (adI7 w))]) fx (nI (i + 1)) 1 dX6_init_32 rfl (gInc _) (by decide) rfl ?_
        refine g_goto fx 14 dX6_init_35 (by decide) ?_
        refine g_locals (L' := [(0, .ref (adI7 w)), (1, .int (nI (i + 1)))]) [1, 0] rfl ?_
        refine g_more (k1 := 1 + 5 * (i + 1)) (s1 := 4 + 30 * (i + 1)) (by omega) (by omega) ?_
        exact ih14 (i + 1) (q + 5) _ adI7 ctS (by omega) (by omega) ho hrow (fun j hj => by by_cases e : j = i; (rw [e, va_up_self, ← hq]); (rw [va_up_ne _ _ e]; exact hf j (by omega))) (fun j hj => by by_cases e : j = i; (rw [e, ← hq]; exact hF.other (fun r h1 h2 => by rw [ectS, va_up_ne _ _ (by omega)])); (exact (hFr j (by omega)).other (fun r h1 h2 => by rw [ectS, va_up_ne _ _ (by omega)]))) hfr hfra (by omega)
  refine g_locals (L' := [(0, .ref (ad_1 w)), (1, .int (nI 0))]) [1, 0] rfl ?_
  refine g_more (k1 := 1 + 5 * 0) (s1 := 4 + 30 * 0) (by omega) (by omega) ?_
  exact LP14 5 0 (w + 2) _ ad_1 _ (by omega) (by omega) ho hN_1 (fun j hj => absurd hj (by omega)) (fun j hj => absurd hj (by omega)) hfr hfra (by omega)
set_option maxHeartbeats 4000000 in
set_option maxRecDepth 100000 in
theorem c_X1_init (B : gB) (ad : Nat → Nat) (ct : Nat → va_E) (w : Nat) (ho : ct w = .inr (1, [.null, .null, .null, .int 0])) (v : Nat) (hvw : v < w) : Ctr B yX1_init cX1_init 3 none 3 60 62 384 ad ct (w + 1) [.ref (ad w), .ref (ad v)] (gPx (w + 63) (fun ad' ct' => (∀ r, r ≤ w → ad' r = ad r) ∧ (∀ r, r < w → ct' r = ct r) ∧ ct' w = .inr (1, [.ref (ad' (w + 1)), .ref (ad' (w + 2)), .ref (ad' v), .int 0]) ∧ ct' (w + 2) = .inl (B.2.1 0, 12, .inl (nF (fun _ => 0))) ∧ iRow B ad' ct' (w + 1) 12 (w + 3))) := by
  have hfr : ∀ r, r < w → ct r = ct r := fun _ _ => rfl
  have hfra : ∀ r, r ≤ w → ad r = ad r := fun _ _ => rfl
  refine Ctr.ofG (L := [(0, .ref (ad w)), (1, .ref (ad v))]) (by decide +kernel) rfl (Nat.le_of_ble_eq_true rfl) (fun E fx rt hnm => ?_)
  refine g_aload_n fx 0 dX1_init_0 rfl ?_
  refine g_objInit fx oiX1_3 ojI ojC (by decide) (by decide) dX1_init_1 ?_
  refine g_aload_n fx 0 dX1_init_4 rfl ?_
  refine g_bipush (v := nI 12) fx dX1_init_5 (by decide +kernel) ?_
  refine g_newq (N := 12) (t0 := 4) fx clX1_9 (by decide +kernel) rfl (nI_toInt (by omega)) (by omega) ⟨by dsimp only; omega, by dsimp only; omega⟩ dX1_init_7 (fun ad_1 ct_1 hA_1 hC_1 hN_1 => ?_)
  refine g_same (L' := [(0, .ref (ad_1 w)), (1, .ref (ad_1 v))]) (st' := [.ref (ad_1 (w + 1)), .ref (ad_1 w)]) (by rw [hA_1 w (by omega), hA_1 v (by omega)]) (by rw [hA_1 w (by omega)]) ?_
  have ho : ct_1 w = .inr (1, [.null, .null, .null, .int 0]) := (hC_1 w (by omega)).trans ho
  have hfra : ∀ r, r ≤ w → ad_1 r = ad r := fun r hp => (hA_1 r (by omega)).trans (hfra r hp)
  have hfr : ∀ r, r < w → ct_1 r = ct r := fun r hp => (hC_1 r (by omega)).trans (hfr r hp)
  refine g_putF (r := w) (fs' := [.ref (ad_1 (w + 1)), .null, .null, .int 0]) fx hnm lpX1_11 (by omega) ho rfl rfl (Nat.le_of_ble_eq_true rfl) rfl dX1_init_10 (fun cu1 ecu1 => ?_)
  have hfr : ∀ r, r < w → cu1 r = ct r := fun r hp => (congrFun ecu1 r).trans ((va_up_ne _ _ (by omega)).trans (hfr r hp))
  have ho : cu1 w = .inr (1, [.ref (ad_1 (w + 1)), .null, .null, .int 0]) := by rw [ecu1, va_up_self]
  have hN_1 : cu1 (w + 1) = .inl (B.2.1 4, 12, .inr (.inr (.inr (.inr (fun _ => none))))) := (congrFun ecu1 _).trans ((va_up_ne _ _ (by omega)).trans hN_1)
  refine g_aload_n fx 0 dX1_init_13 rfl ?_
  refine g_bipush (v := nI 12) fx dX1_init_14 (by decide +kernel) ?_
  refine g_newi (N := 12) fx (nI_toInt (by omega)) (by omega) ⟨by dsimp only; omega, by dsimp only; omega⟩ dX1_init_16 (fun ad_2 ct_2 hA_2 hC_2 hN_2 => ?_)
  refine g_same (L' := [(0, .ref (ad_2 w)), (1, .ref (ad_2 v))]) (st' := [.ref (ad_2 (w + 2)), .ref (ad_2 w)]) (by rw [hA_2 w (by omega), hA_2 v (by omega)]) (by rw [hA_2 w (by omega)]) ?_
  have ho : ct_2 w = .inr (1, [.ref (ad_2 (w + 1)), .null, .null, .int 0]) := (hC_2 w (by omega)).trans (ho.trans (by rw [hA_2 (w + 1) (by omega)]))
  have hN_1 : ct_2 (w + 1) = .inl (B.2.1 4, 12, .inr (.inr (.inr (.inr (fun _ => none))))) := (hC_2 (w + 1) (by omega)).trans hN_1
  have hfra : ∀ r, r ≤ w → ad_2 r = ad r := fun r hp => (hA_2 r (by omega)).trans (hfra r hp)
  have hfr : ∀ r, r < w → ct_2 r = ct r := fun r hp => (hC_2 r (by omega)).trans (hfr r hp)
  refine g_putF (r := w) (fs' := [.ref (ad_2 (w + 1)), .ref (ad_2 (w + 2)), .null, .int 0]) fx hnm lpX1_17 (by omega) ho rfl rfl (Nat.le_of_ble_eq_true rfl) rfl dX1_init_18 (fun cu2 ecu2 => ?_)
  have hfr : ∀ r, r < w → cu2 r = ct r := fun r hp => (congrFun ecu2 r).trans ((va_up_ne _ _ (by omega)).trans (hfr r hp))
  have ho : cu2 w = .inr (1, [.ref (ad_2 (w + 1)), .ref (ad_2 (w + 2)), .null, .int 0]) := by rw [ecu2, va_up_self]
  have hN_1 : cu2 (w + 1) = .inl (B.2.1 4, 12, .inr (.inr (.inr (.inr (fun _ => none))))) := (congrFun ecu2 _).trans ((va_up_ne _ _ (by omega)).trans hN_1)
  have hN_2 : cu2 (w + 2) = .inl (B.2.1 0, 12, .inl (nF (fun _ => 0))) := (congrFun ecu2 _).trans ((va_up_ne _ _ (by omega)).trans hN_2)
  refine g_aload_n fx 0 dX1_init_21 rfl ?_
  refine g_aload_n fx 1 dX1_init_22 rfl ?_
  refine g_putF (r := w) (fs' := [.ref (ad_2 (w + 1)), .ref (ad_2 (w + 2)), .ref (ad_2 v), .int 0]) fx hnm lpX1_21 (by omega) ho rfl rfl (Nat.le_of_ble_eq_true rfl) rfl dX1_init_23 (fun cu3 ecu3 => ?_)
  have hfr : ∀ r, r < w → cu3 r = ct r := fun r hp => (congrFun ecu3 r).trans ((va_up_ne _ _ (by omega)).trans (hfr r hp))
  have ho : cu3 w = .inr (1, [.ref (ad_2 (w + 1)), .ref (ad_2 (w + 2)), .ref (ad_2 v), .int 0]) := by rw [ecu3, va_up_self]
  have hN_1 : cu3 (w + 1) = .inl (B.2.1 4, 12, .inr (.inr (.inr (.inr (fun _ => none))))) := (congrFun ecu3 _).trans ((va_up_ne _ _ (by omega)).trans hN_1)
  have hN_2 : cu3 (w + 2) = .inl (B.2.1 0, 12, .inl (nF (fun _ => 0))) := (congrFun ecu3 _).trans ((va_up_ne _ _ (by omega)).trans hN_2)
  refine g_iconst (v := nI 0) fx dX1_init_26 (by decide +kernel) ?_
  refine g_istore_n (L' := [(2, .int (nI 0)), (0, .ref (ad_2 w)), (1, .ref (ad_2 v))]) fx dX1_init_27 (by decide) rfl ?_
  have LP28 : ∀ (M : Nat) (i q : Nat) (f : Nat → Option Nat) (ad1 : Nat → Nat) (ct1 : Nat → va_E), (i ≤ 12) → (q = w + 3 + 5 * i) → (ct1 w = .inr (1, [.ref (ad1 (w + 1)), .ref (ad1 (w + 2)), .ref (ad1 v), .int 0])) → (ct1 (w + 1) = .inl (B.2.1 4, 12, .inr (.inr (.inr (.inr f))))) → (ct1 (w + 2) = .inl (B.2.1 0, 12, .inl (nF (fun _ => 0)))) → (∀ j, j < i → f j = some (ad1 (w + 3 + 5 * j))) → (∀ j, j < i → isFr B ad1 ct1 (w + 3 + 5 * j) 0 0) → (∀ r, r < w → ct1 r = ct r) → (∀ r, r ≤ w → ad1 r = ad r) →  (12 - i) < M → G B 3 E ad1 ct1 q (2 + 5 * i) (24 + 30 * i) [(0, .ref (ad1 w)), (2, .int (nI i))] 28 [] := by
    intro M
    induction M with
    | zero => intro i q f ad1 ct1 _ _ _ _ _ _ _ _ _ hM; exact absurd hM (Nat.not_lt_zero _)
    | succ M ih =>
      intro i q f ad1 ct1 hi hq ho hrow hor hf hFr hfr hfra hM
      have ih28 := ih
      refine g_iload_n fx 1 dX1_init_28 rfl ?_
      refine g_bipush (v := nI 12) fx dX1_init_29 (by decide +kernel) ?_
      refine g_icmp_ge fx 53 dX1_init_31 (by decide) (fun c31 => ?_) (fun c31 => ?_)
      · skip
        have hie : i = 12 := by have := (nI_leI (by omega) (by omega)).mp c31; omega
        have hqe : q = w + 63 := by omega
        subst hqe
        refine g_more (k1 := 62) (s1 := 384) (by omega) (by omega) ?_
        refine g_vret fx rt dX1_init_53 ?_
        exact gPx.mk ⟨hfra, hfr, ho, hor, f, hrow, fun j hj => hf j (by omega), fun t ht => hFr t (by omega)⟩
      · skip
        have hil : i < 12 := (nI_ltI (by omega) (by omega)).mp (Int32.not_le.mp c31)
        refine g_aload_n fx 0 dX1_init_34 rfl ?_
        refine g_get (r := w) fx lkX1_11 (by omega) ho rfl dX1_init_35 ?_
        refine g_iload_n fx 1 dX1_init_38 rfl ?_
        refine g_newo fx nwX2 clX1_9 ⟨by dsimp only; omega, by dsimp only; omega⟩ dX1_init_39 (fun ad_9 ct_9 hA_9 hC_9 hN_9 => ?_)
        refine g_same (L' := [(0, .ref (ad_9 w)), (2, .int (nI i))]) (st' := [.ref (ad_9 q), .int (nI i), .ref (ad_9 (w + 1))]) (by rw [hA_9 w (by omega)]) (by rw [hA_9 (w + 1) (by omega)]) ?_
        have ho : ct_9 w = .inr (1, [.ref (ad_9 (w + 1)), .ref (ad_9 (w + 2)), .ref (ad_9 v), .int 0]) := (hC_9 w (by omega)).trans (ho.trans (by rw [hA_9 (w + 1) (by omega), hA_9 (w + 2) (by omega), hA_9 v (by omega)]))
        have hrow : ct_9 (w + 1) = .inl (B.2.1 4, 12, .inr (.inr (.inr (.inr f)))) := (hC_9 (w + 1) (by omega)).trans hrow
        have hor : ct_9 (w + 2) = .inl (B.2.1 0, 12, .inl (nF (fun _ => 0))) := (hC_9 (w + 2) (by omega)).trans hor
        have hfra : ∀ r, r ≤ w → ad_9 r = ad r := fun r hp => (hA_9 r (by omega)).trans (hfra r hp)
        have hfr : ∀ r, r < w → ct_9 r = ct r := fun r hp => (hC_9 r (by omega)).trans (hfr r hp)
        have hf : ∀ j, j < i → f j = some (ad_9 (w + 3 + 5 * j)) := fun j hj => by rw [hA_9 _ (by omega)]; exact hf j hj
        have hFr : ∀ j, j < i → isFr B ad_9 ct_9 (w + 3 + 5 * j) 0 0 := fun j hj => (hFr j hj).move (fun r h1 h2 => hA_9 r (by omega)) (fun r h1 h2 => hC_9 r (by omega))
        refine g_dup fx dX1_init_42 rfl ?_
        refine g_callIx (As := []) (rest := [.ref (ad_9 q), .int (nI i), .ref (ad_9 (w + 1))]) fx slX1_25 (c_X2_init B ad_9 ct_9 (q) hN_9) rfl rfl (Nat.le_of_ble_eq_true rfl) ⟨by dsimp only; omega, by dsimp only; omega⟩ ⟨by dsimp only; omega, by dsimp only; omega⟩ dX1_init_43 (fun adI7 ctI7 hz7 => ?_)
        obtain ⟨hAI7, hCI7, hF⟩ := hz7
        have ho : ctI7 w = .inr (1, [.ref (adI7 (w + 1)), .ref (adI7 (w + 2)), .ref (adI7 v), .int 0]) := (hCI7 w (by omega)).trans (ho.trans (by rw [hAI7 (w + 1) (by omega), hAI7 (w + 2) (by omega), hAI7 v (by omega)]))
        have hrow : ctI7 (w + 1) = .inl (B.2.1 4, 12, .inr (.inr (.inr (.inr f)))) := (hCI7 (w + 1) (by omega)).trans hrow
        have hor : ctI7 (w + 2) = .inl (B.2.1 0, 12, .inl (nF (fun _ => 0))) := (hCI7 (w + 2) (by omega)).trans hor
        have hfr : ∀ r, r < w → ctI7 r = ct r := fun r hp => (hCI7 r (by omega)).trans (hfr r hp)
        have hfra : ∀ r, r ≤ w → adI7 r = ad r := fun r hp => (hAI7 r (by omega)).trans (hfra r hp)
        have hF : isFr B adI7 ctI7 q 0 0 := hF
        have hFo := hF.1
        have hf : ∀ j, j < i → f j = some (adI7 (w + 3 + 5 * j)) := fun j hj => by rw [hAI7 _ (by omega)]; exact hf j hj
        have hFr : ∀ j, j < i → isFr B adI7 ctI7 (w + 3 + 5 * j) 0 0 := fun j hj => (hFr j hj).move (fun r h1 h2 => hAI7 r (by omega)) (fun r h1 h2 => hCI7 r (by omega))
        refine g_same (L' := [(0, .ref (adI7 w)), (2, .int (nI i))]) (st' := [.ref (adI7 q), .int (nI i), .ref (adI7 (w + 1))]) (by rw [hAI7 w (by omega)]) (by rw [hAI7 q (by omega), hAI7 (w + 1) (by omega)]) ?_
        refine g_aast (r := (w + 1)) (k := q) (j := i) (t0 := 4) fx rfl rfl (by omega) hrow (by omega) hFo (nI_toInt (by omega)) (by omega) dX1_init_46 (fun ctS ectS => ?_)
        have hfr : ∀ r, r < w → ctS r = ct r := fun r hp => (congrFun ectS r).trans ((va_up_ne _ _ (by omega)).trans (hfr r hp))
        have ho : ctS w = .inr (1, [.ref (adI7 (w + 1)), .ref (adI7 (w + 2)), .ref (adI7 v), .int 0]) := (congrFun ectS _).trans ((va_up_ne _ _ (by omega)).trans ho)
        have hrow : ctS (w + 1) = .inl (B.2.1 4, 12, .inr (.inr (.inr (.inr (va_up f i (some (adI7 q))))))) := by rw [ectS, va_up_self]
        have hor : ctS (w + 2) = .inl (B.2.1 0, 12, .inl (nF (fun _ => 0))) := (congrFun ectS _).trans ((va_up_ne _ _ (by omega)).trans hor)
        have hFo : ctS q = .inr (2, [.ref (adI7 (q + 1)), .ref (adI7 (q + 3))]) := (congrFun ectS _).trans ((va_up_ne _ _ (by omega)).trans hFo)
        refine g_iinc (L' := [(2, .int (nI (i + 1))), (0, .ref (adI7 w))]) fx (nI (i + 1)) 1 dX1_init_47 rfl (gInc _) (by decide) rfl ?_
        refine g_goto fx 28 dX1_init_50 (by decide) ?_
        refine g_locals (L' := [(0, .ref (adI7 w)), (2, .int (nI (i + 1)))]) [1, 0] rfl ?_
        refine g_more (k1 := 2 + 5 * (i + 1)) (s1 := 24 + 30 * (i + 1)) (by omega) (by omega) ?_
        exact ih28 (i + 1) (q + 5) _ adI7 ctS (by omega) (by omega) ho hrow hor (fun j hj => by by_cases e : j = i; (rw [e, va_up_self, ← hq]); (rw [va_up_ne _ _ e]; exact hf j (by omega))) (fun j hj => by by_cases e : j = i; (rw [e, ← hq]; exact hF.other (fun r h1 h2 => by rw [ectS, va_up_ne _ _ (by omega)])); (exact (hFr j (by omega)).other (fun r h1 h2 => by rw [ectS, va_up_ne _ _ (by omega)]))) hfr hfra (by omega)
  refine g_locals (L' := [(0, .ref (ad_2 w)), (2, .int (nI 0))]) [1, 0] rfl ?_
  refine g_more (k1 := 2 + 5 * 0) (s1 := 24 + 30 * 0) (by omega) (by omega) ?_
  exact LP28 13 0 (w + 3) _ ad_2 _ (by omega) (by omega) ho hN_1 hN_2 (fun j hj => absurd hj (by omega)) (fun j hj => absurd hj (by omega)) hfr hfra (by omega)
