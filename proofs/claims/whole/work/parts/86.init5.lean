def mF0 (k : Nat) : Int32 := if k = 4 then 1 else if k = 5 then 1 else if k = 12 then -1 else 0
set_option maxHeartbeats 4000000 in
set_option maxRecDepth 100000 in
theorem c_X12_init (B : gB) (ad : Nat → Nat) (ct : Nat → va_E) (ho : ct 0 = .inr (12, [.null, .null, .null, .null, .int 0, .int 0, .null, .int 0, .null, .null, .null, .int 0, .int 0, .int 0, .int 0, .null, .null, .null, .int 0, .int 0, .null, .null, .null, .null, .null, .int 0, .int 0, .int 0, .null, .null, .null, .null, .null, .null, .int 0, .null, .null, .null, .null, .null, .int 0, .null, .null, .null, .null, .int 0, .null])) : Ctr B yX12_init cX12_init 1 none 1 20 32 1062301 ad ct 1 [.ref (ad 0)] (gPx 33 (fun ad' ct' => ad' 0 = ad 0 ∧ ct' 0 = mObj ad' mF0 ∧ ct' 1 = .inl (B.2.1 0, 40, .inl (nF (fun _ => 0))) ∧ ct' 2 = .inl (B.2.1 0, 40, .inl (nF (fun _ => 0))) ∧ ct' 3 = .inl (B.2.1 0, 40, .inl (nF (fun _ => 0))) ∧ ct' 4 = .inl (B.2.1 0, 40, .inl (nF (fun _ => 0))) ∧ ct' 5 = .inl (B.2.1 0, 25, .inl (nF (fun _ => 0))) ∧ ct' 6 = .inl (B.2.1 0, 30, .inl (nF (fun _ => 0))) ∧ ct' 7 = .inl (B.2.1 0, 2, .inl (nF (fun _ => 0))) ∧ ct' 8 = .inl (B.2.1 0, 30, .inl (nF (fun _ => 0))) ∧ ct' 9 = .inl (B.2.1 0, 160, .inl (nF (fun _ => 0))) ∧ ct' 10 = .inl (B.2.1 0, 160, .inl (nF (fun _ => 0))) ∧ ct' 11 = .inl (B.2.1 1, 60001, .inr (.inl (lF (fun _ => 0)))) ∧ ct' 12 = .inl (B.2.1 0, 25, .inl (nF (fun _ => 0))) ∧ ct' 13 = .inl (B.2.1 0, 25, .inl (nF (fun _ => 0))) ∧ ct' 14 = .inl (B.2.1 0, 5, .inl (nF (fun _ => 0))) ∧ ct' 15 = .inl (B.2.1 0, 5, .inl (nF (fun _ => 0))) ∧ ct' 16 = .inl (B.2.1 2, 500000, .inl (nF (fun _ => 0))) ∧ ct' 17 = .inl (B.2.1 2, 20000, .inl (nF (fun _ => 0))) ∧ ct' 18 = .inl (B.2.1 0, 40, .inl (nF (fun _ => 0))) ∧ ct' 19 = .inl (B.2.1 0, 40, .inl (nF (fun _ => 0))) ∧ ct' 20 = .inl (B.2.1 0, 40, .inl (nF (fun _ => 0))) ∧ ct' 21 = .inl (B.2.1 0, 40, .inl (nF (fun _ => 0))) ∧ ct' 22 = .inl (B.2.1 0, 30, .inl (nF (fun _ => 0))) ∧ ct' 23 = .inl (B.2.1 0, 30, .inl (nF (fun _ => 0))) ∧ ct' 24 = .inl (B.2.1 1, 480016, .inr (.inl (lF (fun _ => 0)))) ∧ ct' 25 = .inl (B.2.1 0, 40, .inl (nF (fun _ => 0))) ∧ ct' 26 = .inl (B.2.1 0, 480, .inl (nF (fun _ => 0))) ∧ ct' 27 = .inl (B.2.1 0, 480, .inl (nF (fun _ => 0))) ∧ ct' 28 = .inl (B.2.1 0, 12, .inl (nF (fun _ => 0))) ∧ ct' 29 = .inl (B.2.1 0, 80, .inl (nF (fun _ => 0))) ∧ ct' 30 = .inl (B.2.1 0, 80, .inl (nF (fun _ => 0))) ∧ ct' 31 = .inl (B.2.1 0, 40, .inl (nF (fun _ => 0))) ∧ ct' 32 = .inl (B.2.1 0, 225, .inl (nF (fun _ => 0))))) := by
  have hfra : ∀ r, r < 1 → ad r = ad r := fun _ _ => rfl
  refine Ctr.ofG (L := [(0, .ref (ad 0))]) (by decide +kernel) rfl (Nat.le_of_ble_eq_true rfl) (fun E fx rt hnm => ?_)
  refine g_aload_n fx 0 dX12_init_0 rfl ?_
  refine g_objInit fx oiX12_1 ojI ojC (by decide) (by decide) dX12_init_1 ?_
  refine g_aload_n fx 0 dX12_init_4 rfl ?_
  refine g_bipush (v := nI 40) fx dX12_init_5 (by decide +kernel) ?_
  refine g_newi (N := 40) fx (nI_toInt (by omega)) (by omega) ⟨by dsimp only; omega, by dsimp only; omega⟩ dX12_init_7 (fun ad_1 ct_1 hA_1 hC_1 hN_1 => ?_)
  refine g_same (L' := [(0, .ref (ad_1 0))]) (st' := [.ref (ad_1 1), .ref (ad_1 0)]) (by rw [hA_1 0 (by decide)]) (by rw [hA_1 0 (by decide)]) ?_
  have ho : ct_1 0 = .inr (12, [.null, .null, .null, .null, .int 0, .int 0, .null, .int 0, .null, .null, .null, .int 0, .int 0, .int 0, .int 0, .null, .null, .null, .int 0, .int 0, .null, .null, .null, .null, .null, .int 0, .int 0, .int 0, .null, .null, .null, .null, .null, .null, .int 0, .null, .null, .null, .null, .null, .int 0, .null, .null, .null, .null, .int 0, .null]) := (hC_1 0 (by decide)).trans ho
  have hfra : ∀ r, r < 1 → ad_1 r = ad r := fun r hp => (hA_1 r (by omega)).trans (hfra r hp)
  refine g_putF (r := 0) (fs' := [.ref (ad_1 1), .null, .null, .null, .int 0, .int 0, .null, .int 0, .null, .null, .null, .int 0, .int 0, .int 0, .int 0, .null, .null, .null, .int 0, .int 0, .null, .null, .null, .null, .null, .int 0, .int 0, .int 0, .null, .null, .null, .null, .null, .null, .int 0, .null, .null, .null, .null, .null, .int 0, .null, .null, .null, .null, .int 0, .null]) fx hnm lpX12_7 (by decide) ho rfl rfl (Nat.le_of_ble_eq_true rfl) rfl dX12_init_9 (fun cu1 ecu1 => ?_)
  have ho : cu1 0 = .inr (12, [.ref (ad_1 1), .null, .null, .null, .int 0, .int 0, .null, .int 0, .null, .null, .null, .int 0, .int 0, .int 0, .int 0, .null, .null, .null, .int 0, .int 0, .null, .null, .null, .null, .null, .int 0, .int 0, .int 0, .null, .null, .null, .null, .null, .null, .int 0, .null, .null, .null, .null, .null, .int 0, .null, .null, .null, .null, .int 0, .null]) := by rw [ecu1, va_up_self]
  have hN_1 : cu1 1 = .inl (B.2.1 0, 40, .inl (nF (fun _ => 0))) := (congrFun ecu1 _).trans ((va_up_ne _ _ (by decide)).trans hN_1)
  refine g_aload_n fx 0 dX12_init_12 rfl ?_
  refine g_bipush (v := nI 40) fx dX12_init_13 (by decide +kernel) ?_
  refine g_newi (N := 40) fx (nI_toInt (by omega)) (by omega) ⟨by dsimp only; omega, by dsimp only; omega⟩ dX12_init_15 (fun ad_2 ct_2 hA_2 hC_2 hN_2 => ?_)
  refine g_same (L' := [(0, .ref (ad_2 0))]) (st' := [.ref (ad_2 2), .ref (ad_2 0)]) (by rw [hA_2 0 (by decide)]) (by rw [hA_2 0 (by decide)]) ?_
  have ho : ct_2 0 = .inr (12, [.ref (ad_2 1), .null, .null, .null, .int 0, .int 0, .null, .int 0, .null, .null, .null, .int 0, .int 0, .int 0, .int 0, .null, .null, .null, .int 0, .int 0, .null, .null, .null, .null, .null, .int 0, .int 0, .int 0, .null, .null, .null, .null, .null, .null, .int 0, .null, .null, .null, .null, .null, .int 0, .null, .null, .null, .null, .int 0, .null]) := (hC_2 0 (by decide)).trans (ho.trans (by rw [hA_2 1 (by decide)]))
  have hN_1 : ct_2 1 = .inl (B.2.1 0, 40, .inl (nF (fun _ => 0))) := (hC_2 1 (by decide)).trans hN_1
  have hfra : ∀ r, r < 1 → ad_2 r = ad r := fun r hp => (hA_2 r (by omega)).trans (hfra r hp)
  refine g_putF (r := 0) (fs' := [.ref (ad_2 1), .ref (ad_2 2), .null, .null, .int 0, .int 0, .null, .int 0, .null, .null, .null, .int 0, .int 0, .int 0, .int 0, .null, .null, .null, .int 0, .int 0, .null, .null, .null, .null, .null, .int 0, .int 0, .int 0, .null, .null, .null, .null, .null, .null, .int 0, .null, .null, .null, .null, .null, .int 0, .null, .null, .null, .null, .int 0, .null]) fx hnm lpX12_13 (by decide) ho rfl rfl (Nat.le_of_ble_eq_true rfl) rfl dX12_init_17 (fun cu2 ecu2 => ?_)
  have ho : cu2 0 = .inr (12, [.ref (ad_2 1), .ref (ad_2 2), .null, .null, .int 0, .int 0, .null, .int 0, .null, .null, .null, .int 0, .int 0, .int 0, .int 0, .null, .null, .null, .int 0, .int 0, .null, .null, .null, .null, .null, .int 0, .int 0, .int 0, .null, .null, .null, .null, .null, .null, .int 0, .null, .null, .null, .null, .null, .int 0, .null, .null, .null, .null, .int 0, .null]) := by rw [ecu2, va_up_self]
  have hN_1 : cu2 1 = .inl (B.2.1 0, 40, .inl (nF (fun _ => 0))) := (congrFun ecu2 _).trans ((va_up_ne _ _ (by decide)).trans hN_1)
  have hN_2 : cu2 2 = .inl (B.2.1 0, 40, .inl (nF (fun _ => 0))) := (congrFun ecu2 _).trans ((va_up_ne _ _ (by decide)).trans hN_2)
  refine g_aload_n fx 0 dX12_init_20 rfl ?_
  refine g_bipush (v := nI 40) fx dX12_init_21 (by decide +kernel) ?_
  refine g_newi (N := 40) fx (nI_toInt (by omega)) (by omega) ⟨by dsimp only; omega, by dsimp only; omega⟩ dX12_init_23 (fun ad_3 ct_3 hA_3 hC_3 hN_3 => ?_)
  refine g_same (L' := [(0, .ref (ad_3 0))]) (st' := [.ref (ad_3 3), .ref (ad_3 0)]) (by rw [hA_3 0 (by decide)]) (by rw [hA_3 0 (by decide)]) ?_
  have ho : ct_3 0 = .inr (12, [.ref (ad_3 1), .ref (ad_3 2), .null, .null, .int 0, .int 0, .null, .int 0, .null, .null, .null, .int 0, .int 0, .int 0, .int 0, .null, .null, .null, .int 0, .int 0, .null, .null, .null, .null, .null, .int 0, .int 0, .int 0, .null, .null, .null, .null, .null, .null, .int 0, .null, .null, .null, .null, .null, .int 0, .null, .null, .null, .null, .int 0, .null]) := (hC_3 0 (by decide)).trans (ho.trans (by rw [hA_3 1 (by decide), hA_3 2 (by decide)]))
  have hN_1 : ct_3 1 = .inl (B.2.1 0, 40, .inl (nF (fun _ => 0))) := (hC_3 1 (by decide)).trans hN_1
  have hN_2 : ct_3 2 = .inl (B.2.1 0, 40, .inl (nF (fun _ => 0))) := (hC_3 2 (by decide)).trans hN_2
  have hfra : ∀ r, r < 1 → ad_3 r = ad r := fun r hp => (hA_3 r (by omega)).trans (hfra r hp)
  refine g_putF (r := 0) (fs' := [.ref (ad_3 1), .ref (ad_3 2), .ref (ad_3 3), .null, .int 0, .int 0, .null, .int 0, .null, .null, .null, .int 0, .int 0, .int 0, .int 0, .null, .null, .null, .int 0, .int 0, .null, .null, .null, .null, .null, .int 0, .int 0, .int 0, .null, .null, .null, .null, .null, .null, .int 0, .null, .null, .null, .null, .null, .int 0, .null, .null, .null, .null, .int 0, .null]) fx hnm lpX12_16 (by decide) ho rfl rfl (Nat.le_of_ble_eq_true rfl) rfl dX12_init_25 (fun cu3 ecu3 => ?_)
  have ho : cu3 0 = .inr (12, [.ref (ad_3 1), .ref (ad_3 2), .ref (ad_3 3), .null, .int 0, .int 0, .null, .int 0, .null, .null, .null, .int 0, .int 0, .int 0, .int 0, .null, .null, .null, .int 0, .int 0, .null, .null, .null, .null, .null, .int 0, .int 0, .int 0, .null, .null, .null, .null, .null, .null, .int 0, .null, .null, .null, .null, .null, .int 0, .null, .null, .null, .null, .int 0, .null]) := by rw [ecu3, va_up_self]
  have hN_1 : cu3 1 = .inl (B.2.1 0, 40, .inl (nF (fun _ => 0))) := (congrFun ecu3 _).trans ((va_up_ne _ _ (by decide)).trans hN_1)
  have hN_2 : cu3 2 = .inl (B.2.1 0, 40, .inl (nF (fun _ => 0))) := (congrFun ecu3 _).trans ((va_up_ne _ _ (by decide)).trans hN_2)
  have hN_3 : cu3 3 = .inl (B.2.1 0, 40, .inl (nF (fun _ => 0))) := (congrFun ecu3 _).trans ((va_up_ne _ _ (by decide)).trans hN_3)
  refine g_aload_n fx 0 dX12_init_28 rfl ?_
  refine g_bipush (v := nI 40) fx dX12_init_29 (by decide +kernel) ?_
  refine g_newi (N := 40) fx (nI_toInt (by omega)) (by omega) ⟨by dsimp only; omega, by dsimp only; omega⟩ dX12_init_31 (fun ad_4 ct_4 hA_4 hC_4 hN_4 => ?_)
  refine g_same (L' := [(0, .ref (ad_4 0))]) (st' := [.ref (ad_4 4), .ref (ad_4 0)]) (by rw [hA_4 0 (by decide)]) (by rw [hA_4 0 (by decide)]) ?_
  have ho : ct_4 0 = .inr (12, [.ref (ad_4 1), .ref (ad_4 2), .ref (ad_4 3), .null, .int 0, .int 0, .null, .int 0, .null, .null, .null, .int 0, .int 0, .int 0, .int 0, .null, .null, .null, .int 0, .int 0, .null, .null, .null, .null, .null, .int 0, .int 0, .int 0, .null, .null, .null, .null, .null, .null, .int 0, .null, .null, .null, .null, .null, .int 0, .null, .null, .null, .null, .int 0, .null]) := (hC_4 0 (by decide)).trans (ho.trans (by rw [hA_4 1 (by decide), hA_4 2 (by decide), hA_4 3 (by decide)]))
  have hN_1 : ct_4 1 = .inl (B.2.1 0, 40, .inl (nF (fun _ => 0))) := (hC_4 1 (by decide)).trans hN_1
  have hN_2 : ct_4 2 = .inl (B.2.1 0, 40, .inl (nF (fun _ => 0))) := (hC_4 2 (by decide)).trans hN_2
  have hN_3 : ct_4 3 = .inl (B.2.1 0, 40, .inl (nF (fun _ => 0))) := (hC_4 3 (by decide)).trans hN_3
  have hfra : ∀ r, r < 1 → ad_4 r = ad r := fun r hp => (hA_4 r (by omega)).trans (hfra r hp)
  refine g_putF (r := 0) (fs' := [.ref (ad_4 1), .ref (ad_4 2), .ref (ad_4 3), .ref (ad_4 4), .int 0, .int 0, .null, .int 0, .null, .null, .null, .int 0, .int 0, .int 0, .int 0, .null, .null, .null, .int 0, .int 0, .null, .null, .null, .null, .null, .int 0, .int 0, .int 0, .null, .null, .null, .null, .null, .null, .int 0, .null, .null, .null, .null, .null, .int 0, .null, .null, .null, .null, .int 0, .null]) fx hnm lpX12_19 (by decide) ho rfl rfl (Nat.le_of_ble_eq_true rfl) rfl dX12_init_33 (fun cu4 ecu4 => ?_)
  have ho : cu4 0 = .inr (12, [.ref (ad_4 1), .ref (ad_4 2), .ref (ad_4 3), .ref (ad_4 4), .int 0, .int 0, .null, .int 0, .null, .null, .null, .int 0, .int 0, .int 0, .int 0, .null, .null, .null, .int 0, .int 0, .null, .null, .null, .null, .null, .int 0, .int 0, .int 0, .null, .null, .null, .null, .null, .null, .int 0, .null, .null, .null, .null, .null, .int 0, .null, .null, .null, .null, .int 0, .null]) := by rw [ecu4, va_up_self]
  have hN_1 : cu4 1 = .inl (B.2.1 0, 40, .inl (nF (fun _ => 0))) := (congrFun ecu4 _).trans ((va_up_ne _ _ (by decide)).trans hN_1)
  have hN_2 : cu4 2 = .inl (B.2.1 0, 40, .inl (nF (fun _ => 0))) := (congrFun ecu4 _).trans ((va_up_ne _ _ (by decide)).trans hN_2)
  have hN_3 : cu4 3 = .inl (B.2.1 0, 40, .inl (nF (fun _ => 0))) := (congrFun ecu4 _).trans ((va_up_ne _ _ (by decide)).trans hN_3)
  have hN_4 : cu4 4 = .inl (B.2.1 0, 40, .inl (nF (fun _ => 0))) := (congrFun ecu4 _).trans ((va_up_ne _ _ (by decide)).trans hN_4)
  refine g_aload_n fx 0 dX12_init_36 rfl ?_
  refine g_bipush (v := nI 25) fx dX12_init_37 (by decide +kernel) ?_
  refine g_newi (N := 25) fx (nI_toInt (by omega)) (by omega) ⟨by dsimp only; omega, by dsimp only; omega⟩ dX12_init_39 (fun ad_5 ct_5 hA_5 hC_5 hN_5 => ?_)
  refine g_same (L' := [(0, .ref (ad_5 0))]) (st' := [.ref (ad_5 5), .ref (ad_5 0)]) (by rw [hA_5 0 (by decide)]) (by rw [hA_5 0 (by decide)]) ?_
  have ho : ct_5 0 = .inr (12, [.ref (ad_5 1), .ref (ad_5 2), .ref (ad_5 3), .ref (ad_5 4), .int 0, .int 0, .null, .int 0, .null, .null, .null, .int 0, .int 0, .int 0, .int 0, .null, .null, .null, .int 0, .int 0, .null, .null, .null, .null, .null, .int 0, .int 0, .int 0, .null, .null, .null, .null, .null, .null, .int 0, .null, .null, .null, .null, .null, .int 0, .null, .null, .null, .null, .int 0, .null]) := (hC_5 0 (by decide)).trans (ho.trans (by rw [hA_5 1 (by decide), hA_5 2 (by decide), hA_5 3 (by decide), hA_5 4 (by decide)]))
  have hN_1 : ct_5 1 = .inl (B.2.1 0, 40, .inl (nF (fun _ => 0))) := (hC_5 1 (by decide)).trans hN_1
  have hN_2 : ct_5 2 = .inl (B.2.1 0, 40, .inl (nF (fun _ => 0))) := (hC_5 2 (by decide)).trans hN_2
  have hN_3 : ct_5 3 = .inl (B.2.1 0, 40, .inl (nF (fun _ => 0))) := (hC_5 3 (by decide)).trans hN_3
  have hN_4 : ct_5 4 = .inl (B.2.1 0, 40, .inl (nF (fun _ => 0))) := (hC_5 4 (by decide)).trans hN_4
  have hfra : ∀ r, r < 1 → ad_5 r = ad r := fun r hp => (hA_5 r (by omega)).trans (hfra r hp)
  refine g_putF (r := 0) (fs' := [.ref (ad_5 1), .ref (ad_5 2), .ref (ad_5 3), .ref (ad_5 4), .int 0, .int 0, .ref (ad_5 5), .int 0, .null, .null, .null, .int 0, .int 0, .int 0, .int 0, .null, .null, .null, .int 0, .int 0, .null, .null, .null, .null, .null, .int 0, .int 0, .int 0, .null, .null, .null, .null, .null, .null, .int 0, .null, .null, .null, .null, .null, .int 0, .null, .null, .null, .null, .int 0, .null]) fx hnm lpX12_22 (by decide) ho rfl rfl (Nat.le_of_ble_eq_true rfl) rfl dX12_init_41 (fun cu5 ecu5 => ?_)
  have ho : cu5 0 = .inr (12, [.ref (ad_5 1), .ref (ad_5 2), .ref (ad_5 3), .ref (ad_5 4), .int 0, .int 0, .ref (ad_5 5), .int 0, .null, .null, .null, .int 0, .int 0, .int 0, .int 0, .null, .null, .null, .int 0, .int 0, .null, .null, .null, .null, .null, .int 0, .int 0, .int 0, .null, .null, .null, .null, .null, .null, .int 0, .null, .null, .null, .null, .null, .int 0, .null, .null, .null, .null, .int 0, .null]) := by rw [ecu5, va_up_self]
  have hN_1 : cu5 1 = .inl (B.2.1 0, 40, .inl (nF (fun _ => 0))) := (congrFun ecu5 _).trans ((va_up_ne _ _ (by decide)).trans hN_1)
  have hN_2 : cu5 2 = .inl (B.2.1 0, 40, .inl (nF (fun _ => 0))) := (congrFun ecu5 _).trans ((va_up_ne _ _ (by decide)).trans hN_2)
  have hN_3 : cu5 3 = .inl (B.2.1 0, 40, .inl (nF (fun _ => 0))) := (congrFun ecu5 _).trans ((va_up_ne _ _ (by decide)).trans hN_3)
  have hN_4 : cu5 4 = .inl (B.2.1 0, 40, .inl (nF (fun _ => 0))) := (congrFun ecu5 _).trans ((va_up_ne _ _ (by decide)).trans hN_4)
  have hN_5 : cu5 5 = .inl (B.2.1 0, 25, .inl (nF (fun _ => 0))) := (congrFun ecu5 _).trans ((va_up_ne _ _ (by decide)).trans hN_5)
  refine g_aload_n fx 0 dX12_init_44 rfl ?_
  refine g_bipush (v := nI 30) fx dX12_init_45 (by decide +kernel) ?_
  refine g_newi (N := 30) fx (nI_toInt (by omega)) (by omega) ⟨by dsimp only; omega, by dsimp only; omega⟩ dX12_init_47 (fun ad_6 ct_6 hA_6 hC_6 hN_6 => ?_)
  refine g_same (L' := [(0, .ref (ad_6 0))]) (st' := [.ref (ad_6 6), .ref (ad_6 0)]) (by rw [hA_6 0 (by decide)]) (by rw [hA_6 0 (by decide)]) ?_
  have ho : ct_6 0 = .inr (12, [.ref (ad_6 1), .ref (ad_6 2), .ref (ad_6 3), .ref (ad_6 4), .int 0, .int 0, .ref (ad_6 5), .int 0, .null, .null, .null, .int 0, .int 0, .int 0, .int 0, .null, .null, .null, .int 0, .int 0, .null, .null, .null, .null, .null, .int 0, .int 0, .int 0, .null, .null, .null, .null, .null, .null, .int 0, .null, .null, .null, .null, .null, .int 0, .null, .null, .null, .null, .int 0, .null]) := (hC_6 0 (by decide)).trans (ho.trans (by rw [hA_6 1 (by decide), hA_6 2 (by decide), hA_6 3 (by decide), hA_6 4 (by decide), hA_6 5 (by decide)]))
  have hN_1 : ct_6 1 = .inl (B.2.1 0, 40, .inl (nF (fun _ => 0))) := (hC_6 1 (by decide)).trans hN_1
  have hN_2 : ct_6 2 = .inl (B.2.1 0, 40, .inl (nF (fun _ => 0))) := (hC_6 2 (by decide)).trans hN_2
  have hN_3 : ct_6 3 = .inl (B.2.1 0, 40, .inl (nF (fun _ => 0))) := (hC_6 3 (by decide)).trans hN_3
  have hN_4 : ct_6 4 = .inl (B.2.1 0, 40, .inl (nF (fun _ => 0))) := (hC_6 4 (by decide)).trans hN_4
  have hN_5 : ct_6 5 = .inl (B.2.1 0, 25, .inl (nF (fun _ => 0))) := (hC_6 5 (by decide)).trans hN_5
  have hfra : ∀ r, r < 1 → ad_6 r = ad r := fun r hp => (hA_6 r (by omega)).trans (hfra r hp)
  refine g_putF (r := 0) (fs' := [.ref (ad_6 1), .ref (ad_6 2), .ref (ad_6 3), .ref (ad_6 4), .int 0, .int 0, .ref (ad_6 5), .int 0, .ref (ad_6 6), .null, .null, .int 0, .int 0, .int 0, .int 0, .null, .null, .null, .int 0, .int 0, .null, .null, .null, .null, .null, .int 0, .int 0, .int 0, .null, .null, .null, .null, .null, .null, .int 0, .null, .null, .null, .null, .null, .int 0, .null, .null, .null, .null, .int 0, .null]) fx hnm lpX12_25 (by decide) ho rfl rfl (Nat.le_of_ble_eq_true rfl) rfl dX12_init_49 (fun cu6 ecu6 => ?_)
  have ho : cu6 0 = .inr (12, [.ref (ad_6 1), .ref (ad_6 2), .ref (ad_6 3), .ref (ad_6 4), .int 0, .int 0, .ref (ad_6 5), .int 0, .ref (ad_6 6), .null, .null, .int 0, .int 0, .int 0, .int 0, .null, .null, .null, .int 0, .int 0, .null, .null, .null, .null, .null, .int 0, .int 0, .int 0, .null, .null, .null, .null, .null, .null, .int 0, .null, .null, .null, .null, .null, .int 0, .null, .null, .null, .null, .int 0, .null]) := by rw [ecu6, va_up_self]
  have hN_1 : cu6 1 = .inl (B.2.1 0, 40, .inl (nF (fun _ => 0))) := (congrFun ecu6 _).trans ((va_up_ne _ _ (by decide)).trans hN_1)
  have hN_2 : cu6 2 = .inl (B.2.1 0, 40, .inl (nF (fun _ => 0))) := (congrFun ecu6 _).trans ((va_up_ne _ _ (by decide)).trans hN_2)
  have hN_3 : cu6 3 = .inl (B.2.1 0, 40, .inl (nF (fun _ => 0))) := (congrFun ecu6 _).trans ((va_up_ne _ _ (by decide)).trans hN_3)
  have hN_4 : cu6 4 = .inl (B.2.1 0, 40, .inl (nF (fun _ => 0))) := (congrFun ecu6 _).trans ((va_up_ne _ _ (by decide)).trans hN_4)
  have hN_5 : cu6 5 = .inl (B.2.1 0, 25, .inl (nF (fun _ => 0))) := (congrFun ecu6 _).trans ((va_up_ne _ _ (by decide)).trans hN_5)
  have hN_6 : cu6 6 = .inl (B.2.1 0, 30, .inl (nF (fun _ => 0))) := (congrFun ecu6 _).trans ((va_up_ne _ _ (by decide)).trans hN_6)
  refine g_aload_n fx 0 dX12_init_52 rfl ?_
  refine g_iconst (v := nI 2) fx dX12_init_53 (by decide +kernel) ?_
  refine g_newi (N := 2) fx (nI_toInt (by omega)) (by omega) ⟨by dsimp only; omega, by dsimp only; omega⟩ dX12_init_54 (fun ad_7 ct_7 hA_7 hC_7 hN_7 => ?_)
  refine g_same (L' := [(0, .ref (ad_7 0))]) (st' := [.ref (ad_7 7), .ref (ad_7 0)]) (by rw [hA_7 0 (by decide)]) (by rw [hA_7 0 (by decide)]) ?_
  have ho : ct_7 0 = .inr (12, [.ref (ad_7 1), .ref (ad_7 2), .ref (ad_7 3), .ref (ad_7 4), .int 0, .int 0, .ref (ad_7 5), .int 0, .ref (ad_7 6), .null, .null, .int 0, .int 0, .int 0, .int 0, .null, .null, .null, .int 0, .int 0, .null, .null, .null, .null, .null, .int 0, .int 0, .int 0, .null, .null, .null, .null, .null, .null, .int 0, .null, .null, .null, .null, .null, .int 0, .null, .null, .null, .null, .int 0, .null]) := (hC_7 0 (by decide)).trans (ho.trans (by rw [hA_7 1 (by decide), hA_7 2 (by decide), hA_7 3 (by decide), hA_7 4 (by decide), hA_7 5 (by decide), hA_7 6 (by decide)]))
  have hN_1 : ct_7 1 = .inl (B.2.1 0, 40, .inl (nF (fun _ => 0))) := (hC_7 1 (by decide)).trans hN_1
  have hN_2 : ct_7 2 = .inl (B.2.1 0, 40, .inl (nF (fun _ => 0))) := (hC_7 2 (by decide)).trans hN_2
  have hN_3 : ct_7 3 = .inl (B.2.1 0, 40, .inl (nF (fun _ => 0))) := (hC_7 3 (by decide)).trans hN_3
  have hN_4 : ct_7 4 = .inl (B.2.1 0, 40, .inl (nF (fun _ => 0))) := (hC_7 4 (by decide)).trans hN_4
  have hN_5 : ct_7 5 = .inl (B.2.1 0, 25, .inl (nF (fun _ => 0))) := (hC_7 5 (by decide)).trans hN_5
  have hN_6 : ct_7 6 = .inl (B.2.1 0, 30, .inl (nF (fun _ => 0))) := (hC_7 6 (by decide)).trans hN_6
  have hfra : ∀ r, r < 1 → ad_7 r = ad r := fun r hp => (hA_7 r (by omega)).trans (hfra r hp)
  refine g_putF (r := 0) (fs' := [.ref (ad_7 1), .ref (ad_7 2), .ref (ad_7 3), .ref (ad_7 4), .int 0, .int 0, .ref (ad_7 5), .int 0, .ref (ad_7 6), .ref (ad_7 7), .null, .int 0, .int 0, .int 0, .int 0, .null, .null, .null, .int 0, .int 0, .null, .null, .null, .null, .null, .int 0, .int 0, .int 0, .null, .null, .null, .null, .null, .null, .int 0, .null, .null, .null, .null, .null, .int 0, .null, .null, .null, .null, .int 0, .null]) fx hnm lpX12_28 (by decide) ho rfl rfl (Nat.le_of_ble_eq_true rfl) rfl dX12_init_56 (fun cu7 ecu7 => ?_)
  have ho : cu7 0 = .inr (12, [.ref (ad_7 1), .ref (ad_7 2), .ref (ad_7 3), .ref (ad_7 4), .int 0, .int 0, .ref (ad_7 5), .int 0, .ref (ad_7 6), .ref (ad_7 7), .null, .int 0, .int 0, .int 0, .int 0, .null, .null, .null, .int 0, .int 0, .null, .null, .null, .null, .null, .int 0, .int 0, .int 0, .null, .null, .null, .null, .null, .null, .int 0, .null, .null, .null, .null, .null, .int 0, .null, .null, .null, .null, .int 0, .null]) := by rw [ecu7, va_up_self]
  have hN_1 : cu7 1 = .inl (B.2.1 0, 40, .inl (nF (fun _ => 0))) := (congrFun ecu7 _).trans ((va_up_ne _ _ (by decide)).trans hN_1)
  have hN_2 : cu7 2 = .inl (B.2.1 0, 40, .inl (nF (fun _ => 0))) := (congrFun ecu7 _).trans ((va_up_ne _ _ (by decide)).trans hN_2)
  have hN_3 : cu7 3 = .inl (B.2.1 0, 40, .inl (nF (fun _ => 0))) := (congrFun ecu7 _).trans ((va_up_ne _ _ (by decide)).trans hN_3)
  have hN_4 : cu7 4 = .inl (B.2.1 0, 40, .inl (nF (fun _ => 0))) := (congrFun ecu7 _).trans ((va_up_ne _ _ (by decide)).trans hN_4)
  have hN_5 : cu7 5 = .inl (B.2.1 0, 25, .inl (nF (fun _ => 0))) := (congrFun ecu7 _).trans ((va_up_ne _ _ (by decide)).trans hN_5)
  have hN_6 : cu7 6 = .inl (B.2.1 0, 30, .inl (nF (fun _ => 0))) := (congrFun ecu7 _).trans ((va_up_ne _ _ (by decide)).trans hN_6)
  have hN_7 : cu7 7 = .inl (B.2.1 0, 2, .inl (nF (fun _ => 0))) := (congrFun ecu7 _).trans ((va_up_ne _ _ (by decide)).trans hN_7)
  refine g_aload_n fx 0 dX12_init_59 rfl ?_
  refine g_bipush (v := nI 30) fx dX12_init_60 (by decide +kernel) ?_
  refine g_newi (N := 30) fx (nI_toInt (by omega)) (by omega) ⟨by dsimp only; omega, by dsimp only; omega⟩ dX12_init_62 (fun ad_8 ct_8 hA_8 hC_8 hN_8 => ?_)
  refine g_same (L' := [(0, .ref (ad_8 0))]) (st' := [.ref (ad_8 8), .ref (ad_8 0)]) (by rw [hA_8 0 (by decide)]) (by rw [hA_8 0 (by decide)]) ?_
  have ho : ct_8 0 = .inr (12, [.ref (ad_8 1), .ref (ad_8 2), .ref (ad_8 3), .ref (ad_8 4), .int 0, .int 0, .ref (ad_8 5), .int 0, .ref (ad_8 6), .ref (ad_8 7), .null, .int 0, .int 0, .int 0, .int 0, .null, .null, .null, .int 0, .int 0, .null, .null, .null, .null, .null, .int 0, .int 0, .int 0, .null, .null, .null, .null, .null, .null, .int 0, .null, .null, .null, .null, .null, .int 0, .null, .null, .null, .null, .int 0, .null]) := (hC_8 0 (by decide)).trans (ho.trans (by rw [hA_8 1 (by decide), hA_8 2 (by decide), hA_8 3 (by decide), hA_8 4 (by decide), hA_8 5 (by decide), hA_8 6 (by decide), hA_8 7 (by decide)]))
  have hN_1 : ct_8 1 = .inl (B.2.1 0, 40, .inl (nF (fun _ => 0))) := (hC_8 1 (by decide)).trans hN_1
  have hN_2 : ct_8 2 = .inl (B.2.1 0, 40, .inl (nF (fun _ => 0))) := (hC_8 2 (by decide)).trans hN_2
  have hN_3 : ct_8 3 = .inl (B.2.1 0, 40, .inl (nF (fun _ => 0))) := (hC_8 3 (by decide)).trans hN_3
  have hN_4 : ct_8 4 = .inl (B.2.1 0, 40, .inl (nF (fun _ => 0))) := (hC_8 4 (by decide)).trans hN_4
  have hN_5 : ct_8 5 = .inl (B.2.1 0, 25, .inl (nF (fun _ => 0))) := (hC_8 5 (by decide)).trans hN_5
  have hN_6 : ct_8 6 = .inl (B.2.1 0, 30, .inl (nF (fun _ => 0))) := (hC_8 6 (by decide)).trans hN_6
  have hN_7 : ct_8 7 = .inl (B.2.1 0, 2, .inl (nF (fun _ => 0))) := (hC_8 7 (by decide)).trans hN_7
  have hfra : ∀ r, r < 1 → ad_8 r = ad r := fun r hp => (hA_8 r (by omega)).trans (hfra r hp)
  refine g_putF (r := 0) (fs' := [.ref (ad_8 1), .ref (ad_8 2), .ref (ad_8 3), .ref (ad_8 4), .int 0, .int 0, .ref (ad_8 5), .int 0, .ref (ad_8 6), .ref (ad_8 7), .ref (ad_8 8), .int 0, .int 0, .int 0, .int 0, .null, .null, .null, .int 0, .int 0, .null, .null, .null, .null, .null, .int 0, .int 0, .int 0, .null, .null, .null, .null, .null, .null, .int 0, .null, .null, .null, .null, .null, .int 0, .null, .null, .null, .null, .int 0, .null]) fx hnm lpX12_31 (by decide) ho rfl rfl (Nat.le_of_ble_eq_true rfl) rfl dX12_init_64 (fun cu8 ecu8 => ?_)
  have ho : cu8 0 = .inr (12, [.ref (ad_8 1), .ref (ad_8 2), .ref (ad_8 3), .ref (ad_8 4), .int 0, .int 0, .ref (ad_8 5), .int 0, .ref (ad_8 6), .ref (ad_8 7), .ref (ad_8 8), .int 0, .int 0, .int 0, .int 0, .null, .null, .null, .int 0, .int 0, .null, .null, .null, .null, .null, .int 0, .int 0, .int 0, .null, .null, .null, .null, .null, .null, .int 0, .null, .null, .null, .null, .null, .int 0, .null, .null, .null, .null, .int 0, .null]) := by rw [ecu8, va_up_self]
  have hN_1 : cu8 1 = .inl (B.2.1 0, 40, .inl (nF (fun _ => 0))) := (congrFun ecu8 _).trans ((va_up_ne _ _ (by decide)).trans hN_1)
  have hN_2 : cu8 2 = .inl (B.2.1 0, 40, .inl (nF (fun _ => 0))) := (congrFun ecu8 _).trans ((va_up_ne _ _ (by decide)).trans hN_2)
  have hN_3 : cu8 3 = .inl (B.2.1 0, 40, .inl (nF (fun _ => 0))) := (congrFun ecu8 _).trans ((va_up_ne _ _ (by decide)).trans hN_3)
  have hN_4 : cu8 4 = .inl (B.2.1 0, 40, .inl (nF (fun _ => 0))) := (congrFun ecu8 _).trans ((va_up_ne _ _ (by decide)).trans hN_4)
  have hN_5 : cu8 5 = .inl (B.2.1 0, 25, .inl (nF (fun _ => 0))) := (congrFun ecu8 _).trans ((va_up_ne _ _ (by decide)).trans hN_5)
  have hN_6 : cu8 6 = .inl (B.2.1 0, 30, .inl (nF (fun _ => 0))) := (congrFun ecu8 _).trans ((va_up_ne _ _ (by decide)).trans hN_6)
  have hN_7 : cu8 7 = .inl (B.2.1 0, 2, .inl (nF (fun _ => 0))) := (congrFun ecu8 _).trans ((va_up_ne _ _ (by decide)).trans hN_7)
  have hN_8 : cu8 8 = .inl (B.2.1 0, 30, .inl (nF (fun _ => 0))) := (congrFun ecu8 _).trans ((va_up_ne _ _ (by decide)).trans hN_8)
  refine g_aload_n fx 0 dX12_init_67 rfl ?_
  refine g_iconst (v := (-1)) fx dX12_init_68 (by decide +kernel) ?_
  refine g_put (r := 0) (fs' := [.ref (ad_8 1), .ref (ad_8 2), .ref (ad_8 3), .ref (ad_8 4), .int 0, .int 0, .ref (ad_8 5), .int 0, .ref (ad_8 6), .ref (ad_8 7), .ref (ad_8 8), .int 0, .int (-1), .int 0, .int 0, .null, .null, .null, .int 0, .int 0, .null, .null, .null, .null, .null, .int 0, .int 0, .int 0, .null, .null, .null, .null, .null, .null, .int 0, .null, .null, .null, .null, .null, .int 0, .null, .null, .null, .null, .int 0, .null]) fx lpX12_34 (by decide) ho rfl rfl (Nat.le_of_ble_eq_true rfl) rfl dX12_init_69 (fun cu9 ecu9 => ?_)
  have ho : cu9 0 = .inr (12, [.ref (ad_8 1), .ref (ad_8 2), .ref (ad_8 3), .ref (ad_8 4), .int 0, .int 0, .ref (ad_8 5), .int 0, .ref (ad_8 6), .ref (ad_8 7), .ref (ad_8 8), .int 0, .int (-1), .int 0, .int 0, .null, .null, .null, .int 0, .int 0, .null, .null, .null, .null, .null, .int 0, .int 0, .int 0, .null, .null, .null, .null, .null, .null, .int 0, .null, .null, .null, .null, .null, .int 0, .null, .null, .null, .null, .int 0, .null]) := by rw [ecu9, va_up_self]
  have hN_1 : cu9 1 = .inl (B.2.1 0, 40, .inl (nF (fun _ => 0))) := (congrFun ecu9 _).trans ((va_up_ne _ _ (by decide)).trans hN_1)
  have hN_2 : cu9 2 = .inl (B.2.1 0, 40, .inl (nF (fun _ => 0))) := (congrFun ecu9 _).trans ((va_up_ne _ _ (by decide)).trans hN_2)
  have hN_3 : cu9 3 = .inl (B.2.1 0, 40, .inl (nF (fun _ => 0))) := (congrFun ecu9 _).trans ((va_up_ne _ _ (by decide)).trans hN_3)
  have hN_4 : cu9 4 = .inl (B.2.1 0, 40, .inl (nF (fun _ => 0))) := (congrFun ecu9 _).trans ((va_up_ne _ _ (by decide)).trans hN_4)
  have hN_5 : cu9 5 = .inl (B.2.1 0, 25, .inl (nF (fun _ => 0))) := (congrFun ecu9 _).trans ((va_up_ne _ _ (by decide)).trans hN_5)
  have hN_6 : cu9 6 = .inl (B.2.1 0, 30, .inl (nF (fun _ => 0))) := (congrFun ecu9 _).trans ((va_up_ne _ _ (by decide)).trans hN_6)
  have hN_7 : cu9 7 = .inl (B.2.1 0, 2, .inl (nF (fun _ => 0))) := (congrFun ecu9 _).trans ((va_up_ne _ _ (by decide)).trans hN_7)
  have hN_8 : cu9 8 = .inl (B.2.1 0, 30, .inl (nF (fun _ => 0))) := (congrFun ecu9 _).trans ((va_up_ne _ _ (by decide)).trans hN_8)
  refine g_aload_n fx 0 dX12_init_72 rfl ?_
  refine g_sipush (v := nI 160) fx dX12_init_73 (by decide +kernel) ?_
  refine g_newi (N := 160) fx (nI_toInt (by omega)) (by omega) ⟨by dsimp only; omega, by dsimp only; omega⟩ dX12_init_76 (fun ad_9 ct_9 hA_9 hC_9 hN_9 => ?_)
  refine g_same (L' := [(0, .ref (ad_9 0))]) (st' := [.ref (ad_9 9), .ref (ad_9 0)]) (by rw [hA_9 0 (by decide)]) (by rw [hA_9 0 (by decide)]) ?_
  have ho : ct_9 0 = .inr (12, [.ref (ad_9 1), .ref (ad_9 2), .ref (ad_9 3), .ref (ad_9 4), .int 0, .int 0, .ref (ad_9 5), .int 0, .ref (ad_9 6), .ref (ad_9 7), .ref (ad_9 8), .int 0, .int (-1), .int 0, .int 0, .null, .null, .null, .int 0, .int 0, .null, .null, .null, .null, .null, .int 0, .int 0, .int 0, .null, .null, .null, .null, .null, .null, .int 0, .null, .null, .null, .null, .null, .int 0, .null, .null, .null, .null, .int 0, .null]) := (hC_9 0 (by decide)).trans (ho.trans (by rw [hA_9 1 (by decide), hA_9 2 (by decide), hA_9 3 (by decide), hA_9 4 (by decide), hA_9 5 (by decide), hA_9 6 (by decide), hA_9 7 (by decide), hA_9 8 (by decide)]))
  have hN_1 : ct_9 1 = .inl (B.2.1 0, 40, .inl (nF (fun _ => 0))) := (hC_9 1 (by decide)).trans hN_1
  have hN_2 : ct_9 2 = .inl (B.2.1 0, 40, .inl (nF (fun _ => 0))) := (hC_9 2 (by decide)).trans hN_2
  have hN_3 : ct_9 3 = .inl (B.2.1 0, 40, .inl (nF (fun _ => 0))) := (hC_9 3 (by decide)).trans hN_3
  have hN_4 : ct_9 4 = .inl (B.2.1 0, 40, .inl (nF (fun _ => 0))) := (hC_9 4 (by decide)).trans hN_4
  have hN_5 : ct_9 5 = .inl (B.2.1 0, 25, .inl (nF (fun _ => 0))) := (hC_9 5 (by decide)).trans hN_5
  have hN_6 : ct_9 6 = .inl (B.2.1 0, 30, .inl (nF (fun _ => 0))) := (hC_9 6 (by decide)).trans hN_6
  have hN_7 : ct_9 7 = .inl (B.2.1 0, 2, .inl (nF (fun _ => 0))) := (hC_9 7 (by decide)).trans hN_7
  have hN_8 : ct_9 8 = .inl (B.2.1 0, 30, .inl (nF (fun _ => 0))) := (hC_9 8 (by decide)).trans hN_8
  have hfra : ∀ r, r < 1 → ad_9 r = ad r := fun r hp => (hA_9 r (by omega)).trans (hfra r hp)
  refine g_putF (r := 0) (fs' := [.ref (ad_9 1), .ref (ad_9 2), .ref (ad_9 3), .ref (ad_9 4), .int 0, .int 0, .ref (ad_9 5), .int 0, .ref (ad_9 6), .ref (ad_9 7), .ref (ad_9 8), .int 0, .int (-1), .int 0, .int 0, .ref (ad_9 9), .null, .null, .int 0, .int 0, .null, .null, .null, .null, .null, .int 0, .int 0, .int 0, .null, .null, .null, .null, .null, .null, .int 0, .null, .null, .null, .null, .null, .int 0, .null, .null, .null, .null, .int 0, .null]) fx hnm lpX12_38 (by decide) ho rfl rfl (Nat.le_of_ble_eq_true rfl) rfl dX12_init_78 (fun cu10 ecu10 => ?_)
  have ho : cu10 0 = .inr (12, [.ref (ad_9 1), .ref (ad_9 2), .ref (ad_9 3), .ref (ad_9 4), .int 0, .int 0, .ref (ad_9 5), .int 0, .ref (ad_9 6), .ref (ad_9 7), .ref (ad_9 8), .int 0, .int (-1), .int 0, .int 0, .ref (ad_9 9), .null, .null, .int 0, .int 0, .null, .null, .null, .null, .null, .int 0, .int 0, .int 0, .null, .null, .null, .null, .null, .null, .int 0, .null, .null, .null, .null, .null, .int 0, .null, .null, .null, .null, .int 0, .null]) := by rw [ecu10, va_up_self]
  have hN_1 : cu10 1 = .inl (B.2.1 0, 40, .inl (nF (fun _ => 0))) := (congrFun ecu10 _).trans ((va_up_ne _ _ (by decide)).trans hN_1)
  have hN_2 : cu10 2 = .inl (B.2.1 0, 40, .inl (nF (fun _ => 0))) := (congrFun ecu10 _).trans ((va_up_ne _ _ (by decide)).trans hN_2)
  have hN_3 : cu10 3 = .inl (B.2.1 0, 40, .inl (nF (fun _ => 0))) := (congrFun ecu10 _).trans ((va_up_ne _ _ (by decide)).trans hN_3)
  have hN_4 : cu10 4 = .inl (B.2.1 0, 40, .inl (nF (fun _ => 0))) := (congrFun ecu10 _).trans ((va_up_ne _ _ (by decide)).trans hN_4)
  have hN_5 : cu10 5 = .inl (B.2.1 0, 25, .inl (nF (fun _ => 0))) := (congrFun ecu10 _).trans ((va_up_ne _ _ (by decide)).trans hN_5)
  have hN_6 : cu10 6 = .inl (B.2.1 0, 30, .inl (nF (fun _ => 0))) := (congrFun ecu10 _).trans ((va_up_ne _ _ (by decide)).trans hN_6)
  have hN_7 : cu10 7 = .inl (B.2.1 0, 2, .inl (nF (fun _ => 0))) := (congrFun ecu10 _).trans ((va_up_ne _ _ (by decide)).trans hN_7)
  have hN_8 : cu10 8 = .inl (B.2.1 0, 30, .inl (nF (fun _ => 0))) := (congrFun ecu10 _).trans ((va_up_ne _ _ (by decide)).trans hN_8)
  have hN_9 : cu10 9 = .inl (B.2.1 0, 160, .inl (nF (fun _ => 0))) := (congrFun ecu10 _).trans ((va_up_ne _ _ (by decide)).trans hN_9)
  refine g_aload_n fx 0 dX12_init_81 rfl ?_
  refine g_sipush (v := nI 160) fx dX12_init_82 (by decide +kernel) ?_
  refine g_newi (N := 160) fx (nI_toInt (by omega)) (by omega) ⟨by dsimp only; omega, by dsimp only; omega⟩ dX12_init_85 (fun ad_10 ct_10 hA_10 hC_10 hN_10 => ?_)
  refine g_same (L' := [(0, .ref (ad_10 0))]) (st' := [.ref (ad_10 10), .ref (ad_10 0)]) (by rw [hA_10 0 (by decide)]) (by rw [hA_10 0 (by decide)]) ?_
  have ho : ct_10 0 = .inr (12, [.ref (ad_10 1), .ref (ad_10 2), .ref (ad_10 3), .ref (ad_10 4), .int 0, .int 0, .ref (ad_10 5), .int 0, .ref (ad_10 6), .ref (ad_10 7), .ref (ad_10 8), .int 0, .int (-1), .int 0, .int 0, .ref (ad_10 9), .null, .null, .int 0, .int 0, .null, .null, .null, .null, .null, .int 0, .int 0, .int 0, .null, .null, .null, .null, .null, .null, .int 0, .null, .null, .null, .null, .null, .int 0, .null, .null, .null, .null, .int 0, .null]) := (hC_10 0 (by decide)).trans (ho.trans (by rw [hA_10 1 (by decide), hA_10 2 (by decide), hA_10 3 (by decide), hA_10 4 (by decide), hA_10 5 (by decide), hA_10 6 (by decide), hA_10 7 (by decide), hA_10 8 (by decide), hA_10 9 (by decide)]))
  have hN_1 : ct_10 1 = .inl (B.2.1 0, 40, .inl (nF (fun _ => 0))) := (hC_10 1 (by decide)).trans hN_1
  have hN_2 : ct_10 2 = .inl (B.2.1 0, 40, .inl (nF (fun _ => 0))) := (hC_10 2 (by decide)).trans hN_2
  have hN_3 : ct_10 3 = .inl (B.2.1 0, 40, .inl (nF (fun _ => 0))) := (hC_10 3 (by decide)).trans hN_3
  have hN_4 : ct_10 4 = .inl (B.2.1 0, 40, .inl (nF (fun _ => 0))) := (hC_10 4 (by decide)).trans hN_4
  have hN_5 : ct_10 5 = .inl (B.2.1 0, 25, .inl (nF (fun _ => 0))) := (hC_10 5 (by decide)).trans hN_5
  have hN_6 : ct_10 6 = .inl (B.2.1 0, 30, .inl (nF (fun _ => 0))) := (hC_10 6 (by decide)).trans hN_6
  have hN_7 : ct_10 7 = .inl (B.2.1 0, 2, .inl (nF (fun _ => 0))) := (hC_10 7 (by decide)).trans hN_7
  have hN_8 : ct_10 8 = .inl (B.2.1 0, 30, .inl (nF (fun _ => 0))) := (hC_10 8 (by decide)).trans hN_8
  have hN_9 : ct_10 9 = .inl (B.2.1 0, 160, .inl (nF (fun _ => 0))) := (hC_10 9 (by decide)).trans hN_9
  have hfra : ∀ r, r < 1 → ad_10 r = ad r := fun r hp => (hA_10 r (by omega)).trans (hfra r hp)
  refine g_putF (r := 0) (fs' := [.ref (ad_10 1), .ref (ad_10 2), .ref (ad_10 3), .ref (ad_10 4), .int 0, .int 0, .ref (ad_10 5), .int 0, .ref (ad_10 6), .ref (ad_10 7), .ref (ad_10 8), .int 0, .int (-1), .int 0, .int 0, .ref (ad_10 9), .ref (ad_10 10), .null, .int 0, .int 0, .null, .null, .null, .null, .null, .int 0, .int 0, .int 0, .null, .null, .null, .null, .null, .null, .int 0, .null, .null, .null, .null, .null, .int 0, .null, .null, .null, .null, .int 0, .null]) fx hnm lpX12_41 (by decide) ho rfl rfl (Nat.le_of_ble_eq_true rfl) rfl dX12_init_87 (fun cu11 ecu11 => ?_)
  have ho : cu11 0 = .inr (12, [.ref (ad_10 1), .ref (ad_10 2), .ref (ad_10 3), .ref (ad_10 4), .int 0, .int 0, .ref (ad_10 5), .int 0, .ref (ad_10 6), .ref (ad_10 7), .ref (ad_10 8), .int 0, .int (-1), .int 0, .int 0, .ref (ad_10 9), .ref (ad_10 10), .null, .int 0, .int 0, .null, .null, .null, .null, .null, .int 0, .int 0, .int 0, .null, .null, .null, .null, .null, .null, .int 0, .null, .null, .null, .null, .null, .int 0, .null, .null, .null, .null, .int 0, .null]) := by rw [ecu11, va_up_self]
  have hN_1 : cu11 1 = .inl (B.2.1 0, 40, .inl (nF (fun _ => 0))) := (congrFun ecu11 _).trans ((va_up_ne _ _ (by decide)).trans hN_1)
  have hN_2 : cu11 2 = .inl (B.2.1 0, 40, .inl (nF (fun _ => 0))) := (congrFun ecu11 _).trans ((va_up_ne _ _ (by decide)).trans hN_2)
  have hN_3 : cu11 3 = .inl (B.2.1 0, 40, .inl (nF (fun _ => 0))) := (congrFun ecu11 _).trans ((va_up_ne _ _ (by decide)).trans hN_3)
  have hN_4 : cu11 4 = .inl (B.2.1 0, 40, .inl (nF (fun _ => 0))) := (congrFun ecu11 _).trans ((va_up_ne _ _ (by decide)).trans hN_4)
  have hN_5 : cu11 5 = .inl (B.2.1 0, 25, .inl (nF (fun _ => 0))) := (congrFun ecu11 _).trans ((va_up_ne _ _ (by decide)).trans hN_5)
  have hN_6 : cu11 6 = .inl (B.2.1 0, 30, .inl (nF (fun _ => 0))) := (congrFun ecu11 _).trans ((va_up_ne _ _ (by decide)).trans hN_6)
  have hN_7 : cu11 7 = .inl (B.2.1 0, 2, .inl (nF (fun _ => 0))) := (congrFun ecu11 _).trans ((va_up_ne _ _ (by decide)).trans hN_7)
  have hN_8 : cu11 8 = .inl (B.2.1 0, 30, .inl (nF (fun _ => 0))) := (congrFun ecu11 _).trans ((va_up_ne _ _ (by decide)).trans hN_8)
  have hN_9 : cu11 9 = .inl (B.2.1 0, 160, .inl (nF (fun _ => 0))) := (congrFun ecu11 _).trans ((va_up_ne _ _ (by decide)).trans hN_9)
  have hN_10 : cu11 10 = .inl (B.2.1 0, 160, .inl (nF (fun _ => 0))) := (congrFun ecu11 _).trans ((va_up_ne _ _ (by decide)).trans hN_10)
  refine g_aload_n fx 0 dX12_init_90 rfl ?_
  refine g_ldc fx kcX12_44 dX12_init_91 ?_
  refine g_isi (y := nI 60001) (by decide) ?_
  refine g_newl (N := 60001) fx (nI_toInt (by omega)) (by omega) ⟨by dsimp only; omega, by dsimp only; omega⟩ dX12_init_93 (fun ad_11 ct_11 hA_11 hC_11 hN_11 => ?_)
  refine g_same (L' := [(0, .ref (ad_11 0))]) (st' := [.ref (ad_11 11), .ref (ad_11 0)]) (by rw [hA_11 0 (by decide)]) (by rw [hA_11 0 (by decide)]) ?_
  have ho : ct_11 0 = .inr (12, [.ref (ad_11 1), .ref (ad_11 2), .ref (ad_11 3), .ref (ad_11 4), .int 0, .int 0, .ref (ad_11 5), .int 0, .ref (ad_11 6), .ref (ad_11 7), .ref (ad_11 8), .int 0, .int (-1), .int 0, .int 0, .ref (ad_11 9), .ref (ad_11 10), .null, .int 0, .int 0, .null, .null, .null, .null, .null, .int 0, .int 0, .int 0, .null, .null, .null, .null, .null, .null, .int 0, .null, .null, .null, .null, .null, .int 0, .null, .null, .null, .null, .int 0, .null]) := (hC_11 0 (by decide)).trans (ho.trans (by rw [hA_11 1 (by decide), hA_11 2 (by decide), hA_11 3 (by decide), hA_11 4 (by decide), hA_11 5 (by decide), hA_11 6 (by decide), hA_11 7 (by decide), hA_11 8 (by decide), hA_11 9 (by decide), hA_11 10 (by decide)]))
  have hN_1 : ct_11 1 = .inl (B.2.1 0, 40, .inl (nF (fun _ => 0))) := (hC_11 1 (by decide)).trans hN_1
  have hN_2 : ct_11 2 = .inl (B.2.1 0, 40, .inl (nF (fun _ => 0))) := (hC_11 2 (by decide)).trans hN_2
  have hN_3 : ct_11 3 = .inl (B.2.1 0, 40, .inl (nF (fun _ => 0))) := (hC_11 3 (by decide)).trans hN_3
  have hN_4 : ct_11 4 = .inl (B.2.1 0, 40, .inl (nF (fun _ => 0))) := (hC_11 4 (by decide)).trans hN_4
  have hN_5 : ct_11 5 = .inl (B.2.1 0, 25, .inl (nF (fun _ => 0))) := (hC_11 5 (by decide)).trans hN_5
  have hN_6 : ct_11 6 = .inl (B.2.1 0, 30, .inl (nF (fun _ => 0))) := (hC_11 6 (by decide)).trans hN_6
  have hN_7 : ct_11 7 = .inl (B.2.1 0, 2, .inl (nF (fun _ => 0))) := (hC_11 7 (by decide)).trans hN_7
  have hN_8 : ct_11 8 = .inl (B.2.1 0, 30, .inl (nF (fun _ => 0))) := (hC_11 8 (by decide)).trans hN_8
  have hN_9 : ct_11 9 = .inl (B.2.1 0, 160, .inl (nF (fun _ => 0))) := (hC_11 9 (by decide)).trans hN_9
  have hN_10 : ct_11 10 = .inl (B.2.1 0, 160, .inl (nF (fun _ => 0))) := (hC_11 10 (by decide)).trans hN_10
  have hfra : ∀ r, r < 1 → ad_11 r = ad r := fun r hp => (hA_11 r (by omega)).trans (hfra r hp)
  refine g_putF (r := 0) (fs' := [.ref (ad_11 1), .ref (ad_11 2), .ref (ad_11 3), .ref (ad_11 4), .int 0, .int 0, .ref (ad_11 5), .int 0, .ref (ad_11 6), .ref (ad_11 7), .ref (ad_11 8), .int 0, .int (-1), .int 0, .int 0, .ref (ad_11 9), .ref (ad_11 10), .ref (ad_11 11), .int 0, .int 0, .null, .null, .null, .null, .null, .int 0, .int 0, .int 0, .null, .null, .null, .null, .null, .null, .int 0, .null, .null, .null, .null, .null, .int 0, .null, .null, .null, .null, .int 0, .null]) fx hnm lpX12_45 (by decide) ho rfl rfl (Nat.le_of_ble_eq_true rfl) rfl dX12_init_95 (fun cu12 ecu12 => ?_)
  have ho : cu12 0 = .inr (12, [.ref (ad_11 1), .ref (ad_11 2), .ref (ad_11 3), .ref (ad_11 4), .int 0, .int 0, .ref (ad_11 5), .int 0, .ref (ad_11 6), .ref (ad_11 7), .ref (ad_11 8), .int 0, .int (-1), .int 0, .int 0, .ref (ad_11 9), .ref (ad_11 10), .ref (ad_11 11), .int 0, .int 0, .null, .null, .null, .null, .null, .int 0, .int 0, .int 0, .null, .null, .null, .null, .null, .null, .int 0, .null, .null, .null, .null, .null, .int 0, .null, .null, .null, .null, .int 0, .null]) := by rw [ecu12, va_up_self]
  have hN_1 : cu12 1 = .inl (B.2.1 0, 40, .inl (nF (fun _ => 0))) := (congrFun ecu12 _).trans ((va_up_ne _ _ (by decide)).trans hN_1)
  have hN_2 : cu12 2 = .inl (B.2.1 0, 40, .inl (nF (fun _ => 0))) := (congrFun ecu12 _).trans ((va_up_ne _ _ (by decide)).trans hN_2)
  have hN_3 : cu12 3 = .inl (B.2.1 0, 40, .inl (nF (fun _ => 0))) := (congrFun ecu12 _).trans ((va_up_ne _ _ (by decide)).trans hN_3)
  have hN_4 : cu12 4 = .inl (B.2.1 0, 40, .inl (nF (fun _ => 0))) := (congrFun ecu12 _).trans ((va_up_ne _ _ (by decide)).trans hN_4)
  have hN_5 : cu12 5 = .inl (B.2.1 0, 25, .inl (nF (fun _ => 0))) := (congrFun ecu12 _).trans ((va_up_ne _ _ (by decide)).trans hN_5)
  have hN_6 : cu12 6 = .inl (B.2.1 0, 30, .inl (nF (fun _ => 0))) := (congrFun ecu12 _).trans ((va_up_ne _ _ (by decide)).trans hN_6)
  have hN_7 : cu12 7 = .inl (B.2.1 0, 2, .inl (nF (fun _ => 0))) := (congrFun ecu12 _).trans ((va_up_ne _ _ (by decide)).trans hN_7)
  have hN_8 : cu12 8 = .inl (B.2.1 0, 30, .inl (nF (fun _ => 0))) := (congrFun ecu12 _).trans ((va_up_ne _ _ (by decide)).trans hN_8)
  have hN_9 : cu12 9 = .inl (B.2.1 0, 160, .inl (nF (fun _ => 0))) := (congrFun ecu12 _).trans ((va_up_ne _ _ (by decide)).trans hN_9)
  have hN_10 : cu12 10 = .inl (B.2.1 0, 160, .inl (nF (fun _ => 0))) := (congrFun ecu12 _).trans ((va_up_ne _ _ (by decide)).trans hN_10)
  have hN_11 : cu12 11 = .inl (B.2.1 1, 60001, .inr (.inl (lF (fun _ => 0)))) := (congrFun ecu12 _).trans ((va_up_ne _ _ (by decide)).trans hN_11)
  refine g_aload_n fx 0 dX12_init_98 rfl ?_
  refine g_bipush (v := nI 25) fx dX12_init_99 (by decide +kernel) ?_
  refine g_newi (N := 25) fx (nI_toInt (by omega)) (by omega) ⟨by dsimp only; omega, by dsimp only; omega⟩ dX12_init_101 (fun ad_12 ct_12 hA_12 hC_12 hN_12 => ?_)
  refine g_same (L' := [(0, .ref (ad_12 0))]) (st' := [.ref (ad_12 12), .ref (ad_12 0)]) (by rw [hA_12 0 (by decide)]) (by rw [hA_12 0 (by decide)]) ?_
  have ho : ct_12 0 = .inr (12, [.ref (ad_12 1), .ref (ad_12 2), .ref (ad_12 3), .ref (ad_12 4), .int 0, .int 0, .ref (ad_12 5), .int 0, .ref (ad_12 6), .ref (ad_12 7), .ref (ad_12 8), .int 0, .int (-1), .int 0, .int 0, .ref (ad_12 9), .ref (ad_12 10), .ref (ad_12 11), .int 0, .int 0, .null, .null, .null, .null, .null, .int 0, .int 0, .int 0, .null, .null, .null, .null, .null, .null, .int 0, .null, .null, .null, .null, .null, .int 0, .null, .null, .null, .null, .int 0, .null]) := (hC_12 0 (by decide)).trans (ho.trans (by rw [hA_12 1 (by decide), hA_12 2 (by decide), hA_12 3 (by decide), hA_12 4 (by decide), hA_12 5 (by decide), hA_12 6 (by decide), hA_12 7 (by decide), hA_12 8 (by decide), hA_12 9 (by decide), hA_12 10 (by decide), hA_12 11 (by decide)]))
  have hN_1 : ct_12 1 = .inl (B.2.1 0, 40, .inl (nF (fun _ => 0))) := (hC_12 1 (by decide)).trans hN_1
  have hN_2 : ct_12 2 = .inl (B.2.1 0, 40, .inl (nF (fun _ => 0))) := (hC_12 2 (by decide)).trans hN_2
  have hN_3 : ct_12 3 = .inl (B.2.1 0, 40, .inl (nF (fun _ => 0))) := (hC_12 3 (by decide)).trans hN_3
  have hN_4 : ct_12 4 = .inl (B.2.1 0, 40, .inl (nF (fun _ => 0))) := (hC_12 4 (by decide)).trans hN_4
  have hN_5 : ct_12 5 = .inl (B.2.1 0, 25, .inl (nF (fun _ => 0))) := (hC_12 5 (by decide)).trans hN_5
  have hN_6 : ct_12 6 = .inl (B.2.1 0, 30, .inl (nF (fun _ => 0))) := (hC_12 6 (by decide)).trans hN_6
  have hN_7 : ct_12 7 = .inl (B.2.1 0, 2, .inl (nF (fun _ => 0))) := (hC_12 7 (by decide)).trans hN_7
  have hN_8 : ct_12 8 = .inl (B.2.1 0, 30, .inl (nF (fun _ => 0))) := (hC_12 8 (by decide)).trans hN_8
  have hN_9 : ct_12 9 = .inl (B.2.1 0, 160, .inl (nF (fun _ => 0))) := (hC_12 9 (by decide)).trans hN_9
  have hN_10 : ct_12 10 = .inl (B.2.1 0, 160, .inl (nF (fun _ => 0))) := (hC_12 10 (by decide)).trans hN_10
  have hN_11 : ct_12 11 = .inl (B.2.1 1, 60001, .inr (.inl (lF (fun _ => 0)))) := (hC_12 11 (by decide)).trans hN_11
  have hfra : ∀ r, r < 1 → ad_12 r = ad r := fun r hp => (hA_12 r (by omega)).trans (hfra r hp)
  refine g_putF (r := 0) (fs' := [.ref (ad_12 1), .ref (ad_12 2), .ref (ad_12 3), .ref (ad_12 4), .int 0, .int 0, .ref (ad_12 5), .int 0, .ref (ad_12 6), .ref (ad_12 7), .ref (ad_12 8), .int 0, .int (-1), .int 0, .int 0, .ref (ad_12 9), .ref (ad_12 10), .ref (ad_12 11), .int 0, .int 0, .ref (ad_12 12), .null, .null, .null, .null, .int 0, .int 0, .int 0, .null, .null, .null, .null, .null, .null, .int 0, .null, .null, .null, .null, .null, .int 0, .null, .null, .null, .null, .int 0, .null]) fx hnm lpX12_49 (by decide) ho rfl rfl (Nat.le_of_ble_eq_true rfl) rfl dX12_init_103 (fun cu13 ecu13 => ?_)
  have ho : cu13 0 = .inr (12, [.ref (ad_12 1), .ref (ad_12 2), .ref (ad_12 3), .ref (ad_12 4), .int 0, .int 0, .ref (ad_12 5), .int 0, .ref (ad_12 6), .ref (ad_12 7), .ref (ad_12 8), .int 0, .int (-1), .int 0, .int 0, .ref (ad_12 9), .ref (ad_12 10), .ref (ad_12 11), .int 0, .int 0, .ref (ad_12 12), .null, .null, .null, .null, .int 0, .int 0, .int 0, .null, .null, .null, .null, .null, .null, .int 0, .null, .null, .null, .null, .null, .int 0, .null, .null, .null, .null, .int 0, .null]) := by rw [ecu13, va_up_self]
  have hN_1 : cu13 1 = .inl (B.2.1 0, 40, .inl (nF (fun _ => 0))) := (congrFun ecu13 _).trans ((va_up_ne _ _ (by decide)).trans hN_1)
  have hN_2 : cu13 2 = .inl (B.2.1 0, 40, .inl (nF (fun _ => 0))) := (congrFun ecu13 _).trans ((va_up_ne _ _ (by decide)).trans hN_2)
  have hN_3 : cu13 3 = .inl (B.2.1 0, 40, .inl (nF (fun _ => 0))) := (congrFun ecu13 _).trans ((va_up_ne _ _ (by decide)).trans hN_3)
  have hN_4 : cu13 4 = .inl (B.2.1 0, 40, .inl (nF (fun _ => 0))) := (congrFun ecu13 _).trans ((va_up_ne _ _ (by decide)).trans hN_4)
  have hN_5 : cu13 5 = .inl (B.2.1 0, 25, .inl (nF (fun _ => 0))) := (congrFun ecu13 _).trans ((va_up_ne _ _ (by decide)).trans hN_5)
  have hN_6 : cu13 6 = .inl (B.2.1 0, 30, .inl (nF (fun _ => 0))) := (congrFun ecu13 _).trans ((va_up_ne _ _ (by decide)).trans hN_6)
  have hN_7 : cu13 7 = .inl (B.2.1 0, 2, .inl (nF (fun _ => 0))) := (congrFun ecu13 _).trans ((va_up_ne _ _ (by decide)).trans hN_7)
  have hN_8 : cu13 8 = .inl (B.2.1 0, 30, .inl (nF (fun _ => 0))) := (congrFun ecu13 _).trans ((va_up_ne _ _ (by decide)).trans hN_8)
  have hN_9 : cu13 9 = .inl (B.2.1 0, 160, .inl (nF (fun _ => 0))) := (congrFun ecu13 _).trans ((va_up_ne _ _ (by decide)).trans hN_9)
  have hN_10 : cu13 10 = .inl (B.2.1 0, 160, .inl (nF (fun _ => 0))) := (congrFun ecu13 _).trans ((va_up_ne _ _ (by decide)).trans hN_10)
  have hN_11 : cu13 11 = .inl (B.2.1 1, 60001, .inr (.inl (lF (fun _ => 0)))) := (congrFun ecu13 _).trans ((va_up_ne _ _ (by decide)).trans hN_11)
  have hN_12 : cu13 12 = .inl (B.2.1 0, 25, .inl (nF (fun _ => 0))) := (congrFun ecu13 _).trans ((va_up_ne _ _ (by decide)).trans hN_12)
  refine g_aload_n fx 0 dX12_init_106 rfl ?_
  refine g_bipush (v := nI 25) fx dX12_init_107 (by decide +kernel) ?_
  refine g_newi (N := 25) fx (nI_toInt (by omega)) (by omega) ⟨by dsimp only; omega, by dsimp only; omega⟩ dX12_init_109 (fun ad_13 ct_13 hA_13 hC_13 hN_13 => ?_)
  refine g_same (L' := [(0, .ref (ad_13 0))]) (st' := [.ref (ad_13 13), .ref (ad_13 0)]) (by rw [hA_13 0 (by decide)]) (by rw [hA_13 0 (by decide)]) ?_
  have ho : ct_13 0 = .inr (12, [.ref (ad_13 1), .ref (ad_13 2), .ref (ad_13 3), .ref (ad_13 4), .int 0, .int 0, .ref (ad_13 5), .int 0, .ref (ad_13 6), .ref (ad_13 7), .ref (ad_13 8), .int 0, .int (-1), .int 0, .int 0, .ref (ad_13 9), .ref (ad_13 10), .ref (ad_13 11), .int 0, .int 0, .ref (ad_13 12), .null, .null, .null, .null, .int 0, .int 0, .int 0, .null, .null, .null, .null, .null, .null, .int 0, .null, .null, .null, .null, .null, .int 0, .null, .null, .null, .null, .int 0, .null]) := (hC_13 0 (by decide)).trans (ho.trans (by rw [hA_13 1 (by decide), hA_13 2 (by decide), hA_13 3 (by decide), hA_13 4 (by decide), hA_13 5 (by decide), hA_13 6 (by decide), hA_13 7 (by decide), hA_13 8 (by decide), hA_13 9 (by decide), hA_13 10 (by decide), hA_13 11 (by decide), hA_13 12 (by decide)]))
  have hN_1 : ct_13 1 = .inl (B.2.1 0, 40, .inl (nF (fun _ => 0))) := (hC_13 1 (by decide)).trans hN_1
  have hN_2 : ct_13 2 = .inl (B.2.1 0, 40, .inl (nF (fun _ => 0))) := (hC_13 2 (by decide)).trans hN_2
  have hN_3 : ct_13 3 = .inl (B.2.1 0, 40, .inl (nF (fun _ => 0))) := (hC_13 3 (by decide)).trans hN_3
  have hN_4 : ct_13 4 = .inl (B.2.1 0, 40, .inl (nF (fun _ => 0))) := (hC_13 4 (by decide)).trans hN_4
  have hN_5 : ct_13 5 = .inl (B.2.1 0, 25, .inl (nF (fun _ => 0))) := (hC_13 5 (by decide)).trans hN_5
  have hN_6 : ct_13 6 = .inl (B.2.1 0, 30, .inl (nF (fun _ => 0))) := (hC_13 6 (by decide)).trans hN_6
  have hN_7 : ct_13 7 = .inl (B.2.1 0, 2, .inl (nF (fun _ => 0))) := (hC_13 7 (by decide)).trans hN_7
  have hN_8 : ct_13 8 = .inl (B.2.1 0, 30, .inl (nF (fun _ => 0))) := (hC_13 8 (by decide)).trans hN_8
  have hN_9 : ct_13 9 = .inl (B.2.1 0, 160, .inl (nF (fun _ => 0))) := (hC_13 9 (by decide)).trans hN_9
  have hN_10 : ct_13 10 = .inl (B.2.1 0, 160, .inl (nF (fun _ => 0))) := (hC_13 10 (by decide)).trans hN_10
  have hN_11 : ct_13 11 = .inl (B.2.1 1, 60001, .inr (.inl (lF (fun _ => 0)))) := (hC_13 11 (by decide)).trans hN_11
  have hN_12 : ct_13 12 = .inl (B.2.1 0, 25, .inl (nF (fun _ => 0))) := (hC_13 12 (by decide)).trans hN_12
  have hfra : ∀ r, r < 1 → ad_13 r = ad r := fun r hp => (hA_13 r (by omega)).trans (hfra r hp)
  refine g_putF (r := 0) (fs' := [.ref (ad_13 1), .ref (ad_13 2), .ref (ad_13 3), .ref (ad_13 4), .int 0, .int 0, .ref (ad_13 5), .int 0, .ref (ad_13 6), .ref (ad_13 7), .ref (ad_13 8), .int 0, .int (-1), .int 0, .int 0, .ref (ad_13 9), .ref (ad_13 10), .ref (ad_13 11), .int 0, .int 0, .ref (ad_13 12), .ref (ad_13 13), .null, .null, .null, .int 0, .int 0, .int 0, .null, .null, .null, .null, .null, .null, .int 0, .null, .null, .null, .null, .null, .int 0, .null, .null, .null, .null, .int 0, .null]) fx hnm lpX12_52 (by decide) ho rfl rfl (Nat.le_of_ble_eq_true rfl) rfl dX12_init_111 (fun cu14 ecu14 => ?_)
  have ho : cu14 0 = .inr (12, [.ref (ad_13 1), .ref (ad_13 2), .ref (ad_13 3), .ref (ad_13 4), .int 0, .int 0, .ref (ad_13 5), .int 0, .ref (ad_13 6), .ref (ad_13 7), .ref (ad_13 8), .int 0, .int (-1), .int 0, .int 0, .ref (ad_13 9), .ref (ad_13 10), .ref (ad_13 11), .int 0, .int 0, .ref (ad_13 12), .ref (ad_13 13), .null, .null, .null, .int 0, .int 0, .int 0, .null, .null, .null, .null, .null, .null, .int 0, .null, .null, .null, .null, .null, .int 0, .null, .null, .null, .null, .int 0, .null]) := by rw [ecu14, va_up_self]
  have hN_1 : cu14 1 = .inl (B.2.1 0, 40, .inl (nF (fun _ => 0))) := (congrFun ecu14 _).trans ((va_up_ne _ _ (by decide)).trans hN_1)
  have hN_2 : cu14 2 = .inl (B.2.1 0, 40, .inl (nF (fun _ => 0))) := (congrFun ecu14 _).trans ((va_up_ne _ _ (by decide)).trans hN_2)
  have hN_3 : cu14 3 = .inl (B.2.1 0, 40, .inl (nF (fun _ => 0))) := (congrFun ecu14 _).trans ((va_up_ne _ _ (by decide)).trans hN_3)
  have hN_4 : cu14 4 = .inl (B.2.1 0, 40, .inl (nF (fun _ => 0))) := (congrFun ecu14 _).trans ((va_up_ne _ _ (by decide)).trans hN_4)
  have hN_5 : cu14 5 = .inl (B.2.1 0, 25, .inl (nF (fun _ => 0))) := (congrFun ecu14 _).trans ((va_up_ne _ _ (by decide)).trans hN_5)
  have hN_6 : cu14 6 = .inl (B.2.1 0, 30, .inl (nF (fun _ => 0))) := (congrFun ecu14 _).trans ((va_up_ne _ _ (by decide)).trans hN_6)
  have hN_7 : cu14 7 = .inl (B.2.1 0, 2, .inl (nF (fun _ => 0))) := (congrFun ecu14 _).trans ((va_up_ne _ _ (by decide)).trans hN_7)
  have hN_8 : cu14 8 = .inl (B.2.1 0, 30, .inl (nF (fun _ => 0))) := (congrFun ecu14 _).trans ((va_up_ne _ _ (by decide)).trans hN_8)
  have hN_9 : cu14 9 = .inl (B.2.1 0, 160, .inl (nF (fun _ => 0))) := (congrFun ecu14 _).trans ((va_up_ne _ _ (by decide)).trans hN_9)
  have hN_10 : cu14 10 = .inl (B.2.1 0, 160, .inl (nF (fun _ => 0))) := (congrFun ecu14 _).trans ((va_up_ne _ _ (by decide)).trans hN_10)
  have hN_11 : cu14 11 = .inl (B.2.1 1, 60001, .inr (.inl (lF (fun _ => 0)))) := (congrFun ecu14 _).trans ((va_up_ne _ _ (by decide)).trans hN_11)
  have hN_12 : cu14 12 = .inl (B.2.1 0, 25, .inl (nF (fun _ => 0))) := (congrFun ecu14 _).trans ((va_up_ne _ _ (by decide)).trans hN_12)
  have hN_13 : cu14 13 = .inl (B.2.1 0, 25, .inl (nF (fun _ => 0))) := (congrFun ecu14 _).trans ((va_up_ne _ _ (by decide)).trans hN_13)
  refine g_aload_n fx 0 dX12_init_114 rfl ?_
  refine g_iconst (v := nI 5) fx dX12_init_115 (by decide +kernel) ?_
  refine g_newi (N := 5) fx (nI_toInt (by omega)) (by omega) ⟨by dsimp only; omega, by dsimp only; omega⟩ dX12_init_116 (fun ad_14 ct_14 hA_14 hC_14 hN_14 => ?_)
  refine g_same (L' := [(0, .ref (ad_14 0))]) (st' := [.ref (ad_14 14), .ref (ad_14 0)]) (by rw [hA_14 0 (by decide)]) (by rw [hA_14 0 (by decide)]) ?_
  have ho : ct_14 0 = .inr (12, [.ref (ad_14 1), .ref (ad_14 2), .ref (ad_14 3), .ref (ad_14 4), .int 0, .int 0, .ref (ad_14 5), .int 0, .ref (ad_14 6), .ref (ad_14 7), .ref (ad_14 8), .int 0, .int (-1), .int 0, .int 0, .ref (ad_14 9), .ref (ad_14 10), .ref (ad_14 11), .int 0, .int 0, .ref (ad_14 12), .ref (ad_14 13), .null, .null, .null, .int 0, .int 0, .int 0, .null, .null, .null, .null, .null, .null, .int 0, .null, .null, .null, .null, .null, .int 0, .null, .null, .null, .null, .int 0, .null]) := (hC_14 0 (by decide)).trans (ho.trans (by rw [hA_14 1 (by decide), hA_14 2 (by decide), hA_14 3 (by decide), hA_14 4 (by decide), hA_14 5 (by decide), hA_14 6 (by decide), hA_14 7 (by decide), hA_14 8 (by decide), hA_14 9 (by decide), hA_14 10 (by decide), hA_14 11 (by decide), hA_14 12 (by decide), hA_14 13 (by decide)]))
  have hN_1 : ct_14 1 = .inl (B.2.1 0, 40, .inl (nF (fun _ => 0))) := (hC_14 1 (by decide)).trans hN_1
  have hN_2 : ct_14 2 = .inl (B.2.1 0, 40, .inl (nF (fun _ => 0))) := (hC_14 2 (by decide)).trans hN_2
  have hN_3 : ct_14 3 = .inl (B.2.1 0, 40, .inl (nF (fun _ => 0))) := (hC_14 3 (by decide)).trans hN_3
  have hN_4 : ct_14 4 = .inl (B.2.1 0, 40, .inl (nF (fun _ => 0))) := (hC_14 4 (by decide)).trans hN_4
  have hN_5 : ct_14 5 = .inl (B.2.1 0, 25, .inl (nF (fun _ => 0))) := (hC_14 5 (by decide)).trans hN_5
  have hN_6 : ct_14 6 = .inl (B.2.1 0, 30, .inl (nF (fun _ => 0))) := (hC_14 6 (by decide)).trans hN_6
  have hN_7 : ct_14 7 = .inl (B.2.1 0, 2, .inl (nF (fun _ => 0))) := (hC_14 7 (by decide)).trans hN_7
  have hN_8 : ct_14 8 = .inl (B.2.1 0, 30, .inl (nF (fun _ => 0))) := (hC_14 8 (by decide)).trans hN_8
  have hN_9 : ct_14 9 = .inl (B.2.1 0, 160, .inl (nF (fun _ => 0))) := (hC_14 9 (by decide)).trans hN_9
  have hN_10 : ct_14 10 = .inl (B.2.1 0, 160, .inl (nF (fun _ => 0))) := (hC_14 10 (by decide)).trans hN_10
  have hN_11 : ct_14 11 = .inl (B.2.1 1, 60001, .inr (.inl (lF (fun _ => 0)))) := (hC_14 11 (by decide)).trans hN_11
  have hN_12 : ct_14 12 = .inl (B.2.1 0, 25, .inl (nF (fun _ => 0))) := (hC_14 12 (by decide)).trans hN_12
  have hN_13 : ct_14 13 = .inl (B.2.1 0, 25, .inl (nF (fun _ => 0))) := (hC_14 13 (by decide)).trans hN_13
  have hfra : ∀ r, r < 1 → ad_14 r = ad r := fun r hp => (hA_14 r (by omega)).trans (hfra r hp)
  refine g_putF (r := 0) (fs' := [.ref (ad_14 1), .ref (ad_14 2), .ref (ad_14 3), .ref (ad_14 4), .int 0, .int 0, .ref (ad_14 5), .int 0, .ref (ad_14 6), .ref (ad_14 7), .ref (ad_14 8), .int 0, .int (-1), .int 0, .int 0, .ref (ad_14 9), .ref (ad_14 10), .ref (ad_14 11), .int 0, .int 0, .ref (ad_14 12), .ref (ad_14 13), .ref (ad_14 14), .null, .null, .int 0, .int 0, .int 0, .null, .null, .null, .null, .null, .null, .int 0, .null, .null, .null, .null, .null, .int 0, .null, .null, .null, .null, .int 0, .null]) fx hnm lpX12_55 (by decide) ho rfl rfl (Nat.le_of_ble_eq_true rfl) rfl dX12_init_118 (fun cu15 ecu15 => ?_)
  have ho : cu15 0 = .inr (12, [.ref (ad_14 1), .ref (ad_14 2), .ref (ad_14 3), .ref (ad_14 4), .int 0, .int 0, .ref (ad_14 5), .int 0, .ref (ad_14 6), .ref (ad_14 7), .ref (ad_14 8), .int 0, .int (-1), .int 0, .int 0, .ref (ad_14 9), .ref (ad_14 10), .ref (ad_14 11), .int 0, .int 0, .ref (ad_14 12), .ref (ad_14 13), .ref (ad_14 14), .null, .null, .int 0, .int 0, .int 0, .null, .null, .null, .null, .null, .null, .int 0, .null, .null, .null, .null, .null, .int 0, .null, .null, .null, .null, .int 0, .null]) := by rw [ecu15, va_up_self]
  have hN_1 : cu15 1 = .inl (B.2.1 0, 40, .inl (nF (fun _ => 0))) := (congrFun ecu15 _).trans ((va_up_ne _ _ (by decide)).trans hN_1)
  have hN_2 : cu15 2 = .inl (B.2.1 0, 40, .inl (nF (fun _ => 0))) := (congrFun ecu15 _).trans ((va_up_ne _ _ (by decide)).trans hN_2)
  have hN_3 : cu15 3 = .inl (B.2.1 0, 40, .inl (nF (fun _ => 0))) := (congrFun ecu15 _).trans ((va_up_ne _ _ (by decide)).trans hN_3)
  have hN_4 : cu15 4 = .inl (B.2.1 0, 40, .inl (nF (fun _ => 0))) := (congrFun ecu15 _).trans ((va_up_ne _ _ (by decide)).trans hN_4)
  have hN_5 : cu15 5 = .inl (B.2.1 0, 25, .inl (nF (fun _ => 0))) := (congrFun ecu15 _).trans ((va_up_ne _ _ (by decide)).trans hN_5)
  have hN_6 : cu15 6 = .inl (B.2.1 0, 30, .inl (nF (fun _ => 0))) := (congrFun ecu15 _).trans ((va_up_ne _ _ (by decide)).trans hN_6)
  have hN_7 : cu15 7 = .inl (B.2.1 0, 2, .inl (nF (fun _ => 0))) := (congrFun ecu15 _).trans ((va_up_ne _ _ (by decide)).trans hN_7)
  have hN_8 : cu15 8 = .inl (B.2.1 0, 30, .inl (nF (fun _ => 0))) := (congrFun ecu15 _).trans ((va_up_ne _ _ (by decide)).trans hN_8)
  have hN_9 : cu15 9 = .inl (B.2.1 0, 160, .inl (nF (fun _ => 0))) := (congrFun ecu15 _).trans ((va_up_ne _ _ (by decide)).trans hN_9)
  have hN_10 : cu15 10 = .inl (B.2.1 0, 160, .inl (nF (fun _ => 0))) := (congrFun ecu15 _).trans ((va_up_ne _ _ (by decide)).trans hN_10)
  have hN_11 : cu15 11 = .inl (B.2.1 1, 60001, .inr (.inl (lF (fun _ => 0)))) := (congrFun ecu15 _).trans ((va_up_ne _ _ (by decide)).trans hN_11)
  have hN_12 : cu15 12 = .inl (B.2.1 0, 25, .inl (nF (fun _ => 0))) := (congrFun ecu15 _).trans ((va_up_ne _ _ (by decide)).trans hN_12)
  have hN_13 : cu15 13 = .inl (B.2.1 0, 25, .inl (nF (fun _ => 0))) := (congrFun ecu15 _).trans ((va_up_ne _ _ (by decide)).trans hN_13)
  have hN_14 : cu15 14 = .inl (B.2.1 0, 5, .inl (nF (fun _ => 0))) := (congrFun ecu15 _).trans ((va_up_ne _ _ (by decide)).trans hN_14)
  refine g_aload_n fx 0 dX12_init_121 rfl ?_
  refine g_iconst (v := nI 5) fx dX12_init_122 (by decide +kernel) ?_
  refine g_newi (N := 5) fx (nI_toInt (by omega)) (by omega) ⟨by dsimp only; omega, by dsimp only; omega⟩ dX12_init_123 (fun ad_15 ct_15 hA_15 hC_15 hN_15 => ?_)
  refine g_same (L' := [(0, .ref (ad_15 0))]) (st' := [.ref (ad_15 15), .ref (ad_15 0)]) (by rw [hA_15 0 (by decide)]) (by rw [hA_15 0 (by decide)]) ?_
  have ho : ct_15 0 = .inr (12, [.ref (ad_15 1), .ref (ad_15 2), .ref (ad_15 3), .ref (ad_15 4), .int 0, .int 0, .ref (ad_15 5), .int 0, .ref (ad_15 6), .ref (ad_15 7), .ref (ad_15 8), .int 0, .int (-1), .int 0, .int 0, .ref (ad_15 9), .ref (ad_15 10), .ref (ad_15 11), .int 0, .int 0, .ref (ad_15 12), .ref (ad_15 13), .ref (ad_15 14), .null, .null, .int 0, .int 0, .int 0, .null, .null, .null, .null, .null, .null, .int 0, .null, .null, .null, .null, .null, .int 0, .null, .null, .null, .null, .int 0, .null]) := (hC_15 0 (by decide)).trans (ho.trans (by rw [hA_15 1 (by decide), hA_15 2 (by decide), hA_15 3 (by decide), hA_15 4 (by decide), hA_15 5 (by decide), hA_15 6 (by decide), hA_15 7 (by decide), hA_15 8 (by decide), hA_15 9 (by decide), hA_15 10 (by decide), hA_15 11 (by decide), hA_15 12 (by decide), hA_15 13 (by decide), hA_15 14 (by decide)]))
  have hN_1 : ct_15 1 = .inl (B.2.1 0, 40, .inl (nF (fun _ => 0))) := (hC_15 1 (by decide)).trans hN_1
  have hN_2 : ct_15 2 = .inl (B.2.1 0, 40, .inl (nF (fun _ => 0))) := (hC_15 2 (by decide)).trans hN_2
  have hN_3 : ct_15 3 = .inl (B.2.1 0, 40, .inl (nF (fun _ => 0))) := (hC_15 3 (by decide)).trans hN_3
  have hN_4 : ct_15 4 = .inl (B.2.1 0, 40, .inl (nF (fun _ => 0))) := (hC_15 4 (by decide)).trans hN_4
  have hN_5 : ct_15 5 = .inl (B.2.1 0, 25, .inl (nF (fun _ => 0))) := (hC_15 5 (by decide)).trans hN_5
  have hN_6 : ct_15 6 = .inl (B.2.1 0, 30, .inl (nF (fun _ => 0))) := (hC_15 6 (by decide)).trans hN_6
  have hN_7 : ct_15 7 = .inl (B.2.1 0, 2, .inl (nF (fun _ => 0))) := (hC_15 7 (by decide)).trans hN_7
  have hN_8 : ct_15 8 = .inl (B.2.1 0, 30, .inl (nF (fun _ => 0))) := (hC_15 8 (by decide)).trans hN_8
  have hN_9 : ct_15 9 = .inl (B.2.1 0, 160, .inl (nF (fun _ => 0))) := (hC_15 9 (by decide)).trans hN_9
  have hN_10 : ct_15 10 = .inl (B.2.1 0, 160, .inl (nF (fun _ => 0))) := (hC_15 10 (by decide)).trans hN_10
  have hN_11 : ct_15 11 = .inl (B.2.1 1, 60001, .inr (.inl (lF (fun _ => 0)))) := (hC_15 11 (by decide)).trans hN_11
  have hN_12 : ct_15 12 = .inl (B.2.1 0, 25, .inl (nF (fun _ => 0))) := (hC_15 12 (by decide)).trans hN_12
  have hN_13 : ct_15 13 = .inl (B.2.1 0, 25, .inl (nF (fun _ => 0))) := (hC_15 13 (by decide)).trans hN_13
  have hN_14 : ct_15 14 = .inl (B.2.1 0, 5, .inl (nF (fun _ => 0))) := (hC_15 14 (by decide)).trans hN_14
  have hfra : ∀ r, r < 1 → ad_15 r = ad r := fun r hp => (hA_15 r (by omega)).trans (hfra r hp)
  refine g_putF (r := 0) (fs' := [.ref (ad_15 1), .ref (ad_15 2), .ref (ad_15 3), .ref (ad_15 4), .int 0, .int 0, .ref (ad_15 5), .int 0, .ref (ad_15 6), .ref (ad_15 7), .ref (ad_15 8), .int 0, .int (-1), .int 0, .int 0, .ref (ad_15 9), .ref (ad_15 10), .ref (ad_15 11), .int 0, .int 0, .ref (ad_15 12), .ref (ad_15 13), .ref (ad_15 14), .ref (ad_15 15), .null, .int 0, .int 0, .int 0, .null, .null, .null, .null, .null, .null, .int 0, .null, .null, .null, .null, .null, .int 0, .null, .null, .null, .null, .int 0, .null]) fx hnm lpX12_58 (by decide) ho rfl rfl (Nat.le_of_ble_eq_true rfl) rfl dX12_init_125 (fun cu16 ecu16 => ?_)
  have ho : cu16 0 = .inr (12, [.ref (ad_15 1), .ref (ad_15 2), .ref (ad_15 3), .ref (ad_15 4), .int 0, .int 0, .ref (ad_15 5), .int 0, .ref (ad_15 6), .ref (ad_15 7), .ref (ad_15 8), .int 0, .int (-1), .int 0, .int 0, .ref (ad_15 9), .ref (ad_15 10), .ref (ad_15 11), .int 0, .int 0, .ref (ad_15 12), .ref (ad_15 13), .ref (ad_15 14), .ref (ad_15 15), .null, .int 0, .int 0, .int 0, .null, .null, .null, .null, .null, .null, .int 0, .null, .null, .null, .null, .null, .int 0, .null, .null, .null, .null, .int 0, .null]) := by rw [ecu16, va_up_self]
  have hN_1 : cu16 1 = .inl (B.2.1 0, 40, .inl (nF (fun _ => 0))) := (congrFun ecu16 _).trans ((va_up_ne _ _ (by decide)).trans hN_1)
  have hN_2 : cu16 2 = .inl (B.2.1 0, 40, .inl (nF (fun _ => 0))) := (congrFun ecu16 _).trans ((va_up_ne _ _ (by decide)).trans hN_2)
  have hN_3 : cu16 3 = .inl (B.2.1 0, 40, .inl (nF (fun _ => 0))) := (congrFun ecu16 _).trans ((va_up_ne _ _ (by decide)).trans hN_3)
  have hN_4 : cu16 4 = .inl (B.2.1 0, 40, .inl (nF (fun _ => 0))) := (congrFun ecu16 _).trans ((va_up_ne _ _ (by decide)).trans hN_4)
  have hN_5 : cu16 5 = .inl (B.2.1 0, 25, .inl (nF (fun _ => 0))) := (congrFun ecu16 _).trans ((va_up_ne _ _ (by decide)).trans hN_5)
  have hN_6 : cu16 6 = .inl (B.2.1 0, 30, .inl (nF (fun _ => 0))) := (congrFun ecu16 _).trans ((va_up_ne _ _ (by decide)).trans hN_6)
  have hN_7 : cu16 7 = .inl (B.2.1 0, 2, .inl (nF (fun _ => 0))) := (congrFun ecu16 _).trans ((va_up_ne _ _ (by decide)).trans hN_7)
  have hN_8 : cu16 8 = .inl (B.2.1 0, 30, .inl (nF (fun _ => 0))) := (congrFun ecu16 _).trans ((va_up_ne _ _ (by decide)).trans hN_8)
  have hN_9 : cu16 9 = .inl (B.2.1 0, 160, .inl (nF (fun _ => 0))) := (congrFun ecu16 _).trans ((va_up_ne _ _ (by decide)).trans hN_9)
  have hN_10 : cu16 10 = .inl (B.2.1 0, 160, .inl (nF (fun _ => 0))) := (congrFun ecu16 _).trans ((va_up_ne _ _ (by decide)).trans hN_10)
  have hN_11 : cu16 11 = .inl (B.2.1 1, 60001, .inr (.inl (lF (fun _ => 0)))) := (congrFun ecu16 _).trans ((va_up_ne _ _ (by decide)).trans hN_11)
  have hN_12 : cu16 12 = .inl (B.2.1 0, 25, .inl (nF (fun _ => 0))) := (congrFun ecu16 _).trans ((va_up_ne _ _ (by decide)).trans hN_12)
  have hN_13 : cu16 13 = .inl (B.2.1 0, 25, .inl (nF (fun _ => 0))) := (congrFun ecu16 _).trans ((va_up_ne _ _ (by decide)).trans hN_13)
  have hN_14 : cu16 14 = .inl (B.2.1 0, 5, .inl (nF (fun _ => 0))) := (congrFun ecu16 _).trans ((va_up_ne _ _ (by decide)).trans hN_14)
  have hN_15 : cu16 15 = .inl (B.2.1 0, 5, .inl (nF (fun _ => 0))) := (congrFun ecu16 _).trans ((va_up_ne _ _ (by decide)).trans hN_15)
  refine g_aload_n fx 0 dX12_init_128 rfl ?_
  refine g_ldc fx kcX12_61 dX12_init_129 ?_
  refine g_isi (y := nI 500000) (by decide) ?_
  refine g_newb (N := 500000) fx (nI_toInt (by omega)) (by omega) ⟨by dsimp only; omega, by dsimp only; omega⟩ dX12_init_131 (fun ad_16 ct_16 hA_16 hC_16 hN_16 => ?_)
  refine g_same (L' := [(0, .ref (ad_16 0))]) (st' := [.ref (ad_16 16), .ref (ad_16 0)]) (by rw [hA_16 0 (by decide)]) (by rw [hA_16 0 (by decide)]) ?_
  have ho : ct_16 0 = .inr (12, [.ref (ad_16 1), .ref (ad_16 2), .ref (ad_16 3), .ref (ad_16 4), .int 0, .int 0, .ref (ad_16 5), .int 0, .ref (ad_16 6), .ref (ad_16 7), .ref (ad_16 8), .int 0, .int (-1), .int 0, .int 0, .ref (ad_16 9), .ref (ad_16 10), .ref (ad_16 11), .int 0, .int 0, .ref (ad_16 12), .ref (ad_16 13), .ref (ad_16 14), .ref (ad_16 15), .null, .int 0, .int 0, .int 0, .null, .null, .null, .null, .null, .null, .int 0, .null, .null, .null, .null, .null, .int 0, .null, .null, .null, .null, .int 0, .null]) := (hC_16 0 (by decide)).trans (ho.trans (by rw [hA_16 1 (by decide), hA_16 2 (by decide), hA_16 3 (by decide), hA_16 4 (by decide), hA_16 5 (by decide), hA_16 6 (by decide), hA_16 7 (by decide), hA_16 8 (by decide), hA_16 9 (by decide), hA_16 10 (by decide), hA_16 11 (by decide), hA_16 12 (by decide), hA_16 13 (by decide), hA_16 14 (by decide), hA_16 15 (by decide)]))
  have hN_1 : ct_16 1 = .inl (B.2.1 0, 40, .inl (nF (fun _ => 0))) := (hC_16 1 (by decide)).trans hN_1
  have hN_2 : ct_16 2 = .inl (B.2.1 0, 40, .inl (nF (fun _ => 0))) := (hC_16 2 (by decide)).trans hN_2
  have hN_3 : ct_16 3 = .inl (B.2.1 0, 40, .inl (nF (fun _ => 0))) := (hC_16 3 (by decide)).trans hN_3
  have hN_4 : ct_16 4 = .inl (B.2.1 0, 40, .inl (nF (fun _ => 0))) := (hC_16 4 (by decide)).trans hN_4
  have hN_5 : ct_16 5 = .inl (B.2.1 0, 25, .inl (nF (fun _ => 0))) := (hC_16 5 (by decide)).trans hN_5
  have hN_6 : ct_16 6 = .inl (B.2.1 0, 30, .inl (nF (fun _ => 0))) := (hC_16 6 (by decide)).trans hN_6
  have hN_7 : ct_16 7 = .inl (B.2.1 0, 2, .inl (nF (fun _ => 0))) := (hC_16 7 (by decide)).trans hN_7
  have hN_8 : ct_16 8 = .inl (B.2.1 0, 30, .inl (nF (fun _ => 0))) := (hC_16 8 (by decide)).trans hN_8
  have hN_9 : ct_16 9 = .inl (B.2.1 0, 160, .inl (nF (fun _ => 0))) := (hC_16 9 (by decide)).trans hN_9
  have hN_10 : ct_16 10 = .inl (B.2.1 0, 160, .inl (nF (fun _ => 0))) := (hC_16 10 (by decide)).trans hN_10
  have hN_11 : ct_16 11 = .inl (B.2.1 1, 60001, .inr (.inl (lF (fun _ => 0)))) := (hC_16 11 (by decide)).trans hN_11
  have hN_12 : ct_16 12 = .inl (B.2.1 0, 25, .inl (nF (fun _ => 0))) := (hC_16 12 (by decide)).trans hN_12
  have hN_13 : ct_16 13 = .inl (B.2.1 0, 25, .inl (nF (fun _ => 0))) := (hC_16 13 (by decide)).trans hN_13
  have hN_14 : ct_16 14 = .inl (B.2.1 0, 5, .inl (nF (fun _ => 0))) := (hC_16 14 (by decide)).trans hN_14
  have hN_15 : ct_16 15 = .inl (B.2.1 0, 5, .inl (nF (fun _ => 0))) := (hC_16 15 (by decide)).trans hN_15
  have hfra : ∀ r, r < 1 → ad_16 r = ad r := fun r hp => (hA_16 r (by omega)).trans (hfra r hp)
  refine g_putF (r := 0) (fs' := [.ref (ad_16 1), .ref (ad_16 2), .ref (ad_16 3), .ref (ad_16 4), .int 0, .int 0, .ref (ad_16 5), .int 0, .ref (ad_16 6), .ref (ad_16 7), .ref (ad_16 8), .int 0, .int (-1), .int 0, .int 0, .ref (ad_16 9), .ref (ad_16 10), .ref (ad_16 11), .int 0, .int 0, .ref (ad_16 12), .ref (ad_16 13), .ref (ad_16 14), .ref (ad_16 15), .ref (ad_16 16), .int 0, .int 0, .int 0, .null, .null, .null, .null, .null, .null, .int 0, .null, .null, .null, .null, .null, .int 0, .null, .null, .null, .null, .int 0, .null]) fx hnm lpX12_62 (by decide) ho rfl rfl (Nat.le_of_ble_eq_true rfl) rfl dX12_init_133 (fun cu17 ecu17 => ?_)
  have ho : cu17 0 = .inr (12, [.ref (ad_16 1), .ref (ad_16 2), .ref (ad_16 3), .ref (ad_16 4), .int 0, .int 0, .ref (ad_16 5), .int 0, .ref (ad_16 6), .ref (ad_16 7), .ref (ad_16 8), .int 0, .int (-1), .int 0, .int 0, .ref (ad_16 9), .ref (ad_16 10), .ref (ad_16 11), .int 0, .int 0, .ref (ad_16 12), .ref (ad_16 13), .ref (ad_16 14), .ref (ad_16 15), .ref (ad_16 16), .int 0, .int 0, .int 0, .null, .null, .null, .null, .null, .null, .int 0, .null, .null, .null, .null, .null, .int 0, .null, .null, .null, .null, .int 0, .null]) := by rw [ecu17, va_up_self]
  have hN_1 : cu17 1 = .inl (B.2.1 0, 40, .inl (nF (fun _ => 0))) := (congrFun ecu17 _).trans ((va_up_ne _ _ (by decide)).trans hN_1)
  have hN_2 : cu17 2 = .inl (B.2.1 0, 40, .inl (nF (fun _ => 0))) := (congrFun ecu17 _).trans ((va_up_ne _ _ (by decide)).trans hN_2)
  have hN_3 : cu17 3 = .inl (B.2.1 0, 40, .inl (nF (fun _ => 0))) := (congrFun ecu17 _).trans ((va_up_ne _ _ (by decide)).trans hN_3)
  have hN_4 : cu17 4 = .inl (B.2.1 0, 40, .inl (nF (fun _ => 0))) := (congrFun ecu17 _).trans ((va_up_ne _ _ (by decide)).trans hN_4)
  have hN_5 : cu17 5 = .inl (B.2.1 0, 25, .inl (nF (fun _ => 0))) := (congrFun ecu17 _).trans ((va_up_ne _ _ (by decide)).trans hN_5)
  have hN_6 : cu17 6 = .inl (B.2.1 0, 30, .inl (nF (fun _ => 0))) := (congrFun ecu17 _).trans ((va_up_ne _ _ (by decide)).trans hN_6)
  have hN_7 : cu17 7 = .inl (B.2.1 0, 2, .inl (nF (fun _ => 0))) := (congrFun ecu17 _).trans ((va_up_ne _ _ (by decide)).trans hN_7)
  have hN_8 : cu17 8 = .inl (B.2.1 0, 30, .inl (nF (fun _ => 0))) := (congrFun ecu17 _).trans ((va_up_ne _ _ (by decide)).trans hN_8)
  have hN_9 : cu17 9 = .inl (B.2.1 0, 160, .inl (nF (fun _ => 0))) := (congrFun ecu17 _).trans ((va_up_ne _ _ (by decide)).trans hN_9)
  have hN_10 : cu17 10 = .inl (B.2.1 0, 160, .inl (nF (fun _ => 0))) := (congrFun ecu17 _).trans ((va_up_ne _ _ (by decide)).trans hN_10)
  have hN_11 : cu17 11 = .inl (B.2.1 1, 60001, .inr (.inl (lF (fun _ => 0)))) := (congrFun ecu17 _).trans ((va_up_ne _ _ (by decide)).trans hN_11)
  have hN_12 : cu17 12 = .inl (B.2.1 0, 25, .inl (nF (fun _ => 0))) := (congrFun ecu17 _).trans ((va_up_ne _ _ (by decide)).trans hN_12)
  have hN_13 : cu17 13 = .inl (B.2.1 0, 25, .inl (nF (fun _ => 0))) := (congrFun ecu17 _).trans ((va_up_ne _ _ (by decide)).trans hN_13)
  have hN_14 : cu17 14 = .inl (B.2.1 0, 5, .inl (nF (fun _ => 0))) := (congrFun ecu17 _).trans ((va_up_ne _ _ (by decide)).trans hN_14)
  have hN_15 : cu17 15 = .inl (B.2.1 0, 5, .inl (nF (fun _ => 0))) := (congrFun ecu17 _).trans ((va_up_ne _ _ (by decide)).trans hN_15)
  have hN_16 : cu17 16 = .inl (B.2.1 2, 500000, .inl (nF (fun _ => 0))) := (congrFun ecu17 _).trans ((va_up_ne _ _ (by decide)).trans hN_16)
  refine g_aload_n fx 0 dX12_init_136 rfl ?_
  refine g_sipush (v := nI 20000) fx dX12_init_137 (by decide +kernel) ?_
  refine g_newb (N := 20000) fx (nI_toInt (by omega)) (by omega) ⟨by dsimp only; omega, by dsimp only; omega⟩ dX12_init_140 (fun ad_17 ct_17 hA_17 hC_17 hN_17 => ?_)
  refine g_same (L' := [(0, .ref (ad_17 0))]) (st' := [.ref (ad_17 17), .ref (ad_17 0)]) (by rw [hA_17 0 (by decide)]) (by rw [hA_17 0 (by decide)]) ?_
  have ho : ct_17 0 = .inr (12, [.ref (ad_17 1), .ref (ad_17 2), .ref (ad_17 3), .ref (ad_17 4), .int 0, .int 0, .ref (ad_17 5), .int 0, .ref (ad_17 6), .ref (ad_17 7), .ref (ad_17 8), .int 0, .int (-1), .int 0, .int 0, .ref (ad_17 9), .ref (ad_17 10), .ref (ad_17 11), .int 0, .int 0, .ref (ad_17 12), .ref (ad_17 13), .ref (ad_17 14), .ref (ad_17 15), .ref (ad_17 16), .int 0, .int 0, .int 0, .null, .null, .null, .null, .null, .null, .int 0, .null, .null, .null, .null, .null, .int 0, .null, .null, .null, .null, .int 0, .null]) := (hC_17 0 (by decide)).trans (ho.trans (by rw [hA_17 1 (by decide), hA_17 2 (by decide), hA_17 3 (by decide), hA_17 4 (by decide), hA_17 5 (by decide), hA_17 6 (by decide), hA_17 7 (by decide), hA_17 8 (by decide), hA_17 9 (by decide), hA_17 10 (by decide), hA_17 11 (by decide), hA_17 12 (by decide), hA_17 13 (by decide), hA_17 14 (by decide), hA_17 15 (by decide), hA_17 16 (by decide)]))
  have hN_1 : ct_17 1 = .inl (B.2.1 0, 40, .inl (nF (fun _ => 0))) := (hC_17 1 (by decide)).trans hN_1
  have hN_2 : ct_17 2 = .inl (B.2.1 0, 40, .inl (nF (fun _ => 0))) := (hC_17 2 (by decide)).trans hN_2
  have hN_3 : ct_17 3 = .inl (B.2.1 0, 40, .inl (nF (fun _ => 0))) := (hC_17 3 (by decide)).trans hN_3
  have hN_4 : ct_17 4 = .inl (B.2.1 0, 40, .inl (nF (fun _ => 0))) := (hC_17 4 (by decide)).trans hN_4
  have hN_5 : ct_17 5 = .inl (B.2.1 0, 25, .inl (nF (fun _ => 0))) := (hC_17 5 (by decide)).trans hN_5
  have hN_6 : ct_17 6 = .inl (B.2.1 0, 30, .inl (nF (fun _ => 0))) := (hC_17 6 (by decide)).trans hN_6
  have hN_7 : ct_17 7 = .inl (B.2.1 0, 2, .inl (nF (fun _ => 0))) := (hC_17 7 (by decide)).trans hN_7
  have hN_8 : ct_17 8 = .inl (B.2.1 0, 30, .inl (nF (fun _ => 0))) := (hC_17 8 (by decide)).trans hN_8
  have hN_9 : ct_17 9 = .inl (B.2.1 0, 160, .inl (nF (fun _ => 0))) := (hC_17 9 (by decide)).trans hN_9
  have hN_10 : ct_17 10 = .inl (B.2.1 0, 160, .inl (nF (fun _ => 0))) := (hC_17 10 (by decide)).trans hN_10
  have hN_11 : ct_17 11 = .inl (B.2.1 1, 60001, .inr (.inl (lF (fun _ => 0)))) := (hC_17 11 (by decide)).trans hN_11
  have hN_12 : ct_17 12 = .inl (B.2.1 0, 25, .inl (nF (fun _ => 0))) := (hC_17 12 (by decide)).trans hN_12
  have hN_13 : ct_17 13 = .inl (B.2.1 0, 25, .inl (nF (fun _ => 0))) := (hC_17 13 (by decide)).trans hN_13
  have hN_14 : ct_17 14 = .inl (B.2.1 0, 5, .inl (nF (fun _ => 0))) := (hC_17 14 (by decide)).trans hN_14
  have hN_15 : ct_17 15 = .inl (B.2.1 0, 5, .inl (nF (fun _ => 0))) := (hC_17 15 (by decide)).trans hN_15
  have hN_16 : ct_17 16 = .inl (B.2.1 2, 500000, .inl (nF (fun _ => 0))) := (hC_17 16 (by decide)).trans hN_16
  have hfra : ∀ r, r < 1 → ad_17 r = ad r := fun r hp => (hA_17 r (by omega)).trans (hfra r hp)
  refine g_putF (r := 0) (fs' := [.ref (ad_17 1), .ref (ad_17 2), .ref (ad_17 3), .ref (ad_17 4), .int 0, .int 0, .ref (ad_17 5), .int 0, .ref (ad_17 6), .ref (ad_17 7), .ref (ad_17 8), .int 0, .int (-1), .int 0, .int 0, .ref (ad_17 9), .ref (ad_17 10), .ref (ad_17 11), .int 0, .int 0, .ref (ad_17 12), .ref (ad_17 13), .ref (ad_17 14), .ref (ad_17 15), .ref (ad_17 16), .int 0, .int 0, .int 0, .ref (ad_17 17), .null, .null, .null, .null, .null, .int 0, .null, .null, .null, .null, .null, .int 0, .null, .null, .null, .null, .int 0, .null]) fx hnm lpX12_66 (by decide) ho rfl rfl (Nat.le_of_ble_eq_true rfl) rfl dX12_init_142 (fun cu18 ecu18 => ?_)
  have ho : cu18 0 = .inr (12, [.ref (ad_17 1), .ref (ad_17 2), .ref (ad_17 3), .ref (ad_17 4), .int 0, .int 0, .ref (ad_17 5), .int 0, .ref (ad_17 6), .ref (ad_17 7), .ref (ad_17 8), .int 0, .int (-1), .int 0, .int 0, .ref (ad_17 9), .ref (ad_17 10), .ref (ad_17 11), .int 0, .int 0, .ref (ad_17 12), .ref (ad_17 13), .ref (ad_17 14), .ref (ad_17 15), .ref (ad_17 16), .int 0, .int 0, .int 0, .ref (ad_17 17), .null, .null, .null, .null, .null, .int 0, .null, .null, .null, .null, .null, .int 0, .null, .null, .null, .null, .int 0, .null]) := by rw [ecu18, va_up_self]
  have hN_1 : cu18 1 = .inl (B.2.1 0, 40, .inl (nF (fun _ => 0))) := (congrFun ecu18 _).trans ((va_up_ne _ _ (by decide)).trans hN_1)
  have hN_2 : cu18 2 = .inl (B.2.1 0, 40, .inl (nF (fun _ => 0))) := (congrFun ecu18 _).trans ((va_up_ne _ _ (by decide)).trans hN_2)
  have hN_3 : cu18 3 = .inl (B.2.1 0, 40, .inl (nF (fun _ => 0))) := (congrFun ecu18 _).trans ((va_up_ne _ _ (by decide)).trans hN_3)
  have hN_4 : cu18 4 = .inl (B.2.1 0, 40, .inl (nF (fun _ => 0))) := (congrFun ecu18 _).trans ((va_up_ne _ _ (by decide)).trans hN_4)
  have hN_5 : cu18 5 = .inl (B.2.1 0, 25, .inl (nF (fun _ => 0))) := (congrFun ecu18 _).trans ((va_up_ne _ _ (by decide)).trans hN_5)
  have hN_6 : cu18 6 = .inl (B.2.1 0, 30, .inl (nF (fun _ => 0))) := (congrFun ecu18 _).trans ((va_up_ne _ _ (by decide)).trans hN_6)
  have hN_7 : cu18 7 = .inl (B.2.1 0, 2, .inl (nF (fun _ => 0))) := (congrFun ecu18 _).trans ((va_up_ne _ _ (by decide)).trans hN_7)
  have hN_8 : cu18 8 = .inl (B.2.1 0, 30, .inl (nF (fun _ => 0))) := (congrFun ecu18 _).trans ((va_up_ne _ _ (by decide)).trans hN_8)
  have hN_9 : cu18 9 = .inl (B.2.1 0, 160, .inl (nF (fun _ => 0))) := (congrFun ecu18 _).trans ((va_up_ne _ _ (by decide)).trans hN_9)
  have hN_10 : cu18 10 = .inl (B.2.1 0, 160, .inl (nF (fun _ => 0))) := (congrFun ecu18 _).trans ((va_up_ne _ _ (by decide)).trans hN_10)
  have hN_11 : cu18 11 = .inl (B.2.1 1, 60001, .inr (.inl (lF (fun _ => 0)))) := (congrFun ecu18 _).trans ((va_up_ne _ _ (by decide)).trans hN_11)
  have hN_12 : cu18 12 = .inl (B.2.1 0, 25, .inl (nF (fun _ => 0))) := (congrFun ecu18 _).trans ((va_up_ne _ _ (by decide)).trans hN_12)
  have hN_13 : cu18 13 = .inl (B.2.1 0, 25, .inl (nF (fun _ => 0))) := (congrFun ecu18 _).trans ((va_up_ne _ _ (by decide)).trans hN_13)
  have hN_14 : cu18 14 = .inl (B.2.1 0, 5, .inl (nF (fun _ => 0))) := (congrFun ecu18 _).trans ((va_up_ne _ _ (by decide)).trans hN_14)
  have hN_15 : cu18 15 = .inl (B.2.1 0, 5, .inl (nF (fun _ => 0))) := (congrFun ecu18 _).trans ((va_up_ne _ _ (by decide)).trans hN_15)
  have hN_16 : cu18 16 = .inl (B.2.1 2, 500000, .inl (nF (fun _ => 0))) := (congrFun ecu18 _).trans ((va_up_ne _ _ (by decide)).trans hN_16)
  have hN_17 : cu18 17 = .inl (B.2.1 2, 20000, .inl (nF (fun _ => 0))) := (congrFun ecu18 _).trans ((va_up_ne _ _ (by decide)).trans hN_17)
  refine g_aload_n fx 0 dX12_init_145 rfl ?_
  refine g_bipush (v := nI 40) fx dX12_init_146 (by decide +kernel) ?_
  refine g_newi (N := 40) fx (nI_toInt (by omega)) (by omega) ⟨by dsimp only; omega, by dsimp only; omega⟩ dX12_init_148 (fun ad_18 ct_18 hA_18 hC_18 hN_18 => ?_)
  refine g_same (L' := [(0, .ref (ad_18 0))]) (st' := [.ref (ad_18 18), .ref (ad_18 0)]) (by rw [hA_18 0 (by decide)]) (by rw [hA_18 0 (by decide)]) ?_
  have ho : ct_18 0 = .inr (12, [.ref (ad_18 1), .ref (ad_18 2), .ref (ad_18 3), .ref (ad_18 4), .int 0, .int 0, .ref (ad_18 5), .int 0, .ref (ad_18 6), .ref (ad_18 7), .ref (ad_18 8), .int 0, .int (-1), .int 0, .int 0, .ref (ad_18 9), .ref (ad_18 10), .ref (ad_18 11), .int 0, .int 0, .ref (ad_18 12), .ref (ad_18 13), .ref (ad_18 14), .ref (ad_18 15), .ref (ad_18 16), .int 0, .int 0, .int 0, .ref (ad_18 17), .null, .null, .null, .null, .null, .int 0, .null, .null, .null, .null, .null, .int 0, .null, .null, .null, .null, .int 0, .null]) := (hC_18 0 (by decide)).trans (ho.trans (by rw [hA_18 1 (by decide), hA_18 2 (by decide), hA_18 3 (by decide), hA_18 4 (by decide), hA_18 5 (by decide), hA_18 6 (by decide), hA_18 7 (by decide), hA_18 8 (by decide), hA_18 9 (by decide), hA_18 10 (by decide), hA_18 11 (by decide), hA_18 12 (by decide), hA_18 13 (by decide), hA_18 14 (by decide), hA_18 15 (by decide), hA_18 16 (by decide), hA_18 17 (by decide)]))
  have hN_1 : ct_18 1 = .inl (B.2.1 0, 40, .inl (nF (fun _ => 0))) := (hC_18 1 (by decide)).trans hN_1
  have hN_2 : ct_18 2 = .inl (B.2.1 0, 40, .inl (nF (fun _ => 0))) := (hC_18 2 (by decide)).trans hN_2
  have hN_3 : ct_18 3 = .inl (B.2.1 0, 40, .inl (nF (fun _ => 0))) := (hC_18 3 (by decide)).trans hN_3
  have hN_4 : ct_18 4 = .inl (B.2.1 0, 40, .inl (nF (fun _ => 0))) := (hC_18 4 (by decide)).trans hN_4
  have hN_5 : ct_18 5 = .inl (B.2.1 0, 25, .inl (nF (fun _ => 0))) := (hC_18 5 (by decide)).trans hN_5
  have hN_6 : ct_18 6 = .inl (B.2.1 0, 30, .inl (nF (fun _ => 0))) := (hC_18 6 (by decide)).trans hN_6
  have hN_7 : ct_18 7 = .inl (B.2.1 0, 2, .inl (nF (fun _ => 0))) := (hC_18 7 (by decide)).trans hN_7
  have hN_8 : ct_18 8 = .inl (B.2.1 0, 30, .inl (nF (fun _ => 0))) := (hC_18 8 (by decide)).trans hN_8
  have hN_9 : ct_18 9 = .inl (B.2.1 0, 160, .inl (nF (fun _ => 0))) := (hC_18 9 (by decide)).trans hN_9
  have hN_10 : ct_18 10 = .inl (B.2.1 0, 160, .inl (nF (fun _ => 0))) := (hC_18 10 (by decide)).trans hN_10
  have hN_11 : ct_18 11 = .inl (B.2.1 1, 60001, .inr (.inl (lF (fun _ => 0)))) := (hC_18 11 (by decide)).trans hN_11
  have hN_12 : ct_18 12 = .inl (B.2.1 0, 25, .inl (nF (fun _ => 0))) := (hC_18 12 (by decide)).trans hN_12
  have hN_13 : ct_18 13 = .inl (B.2.1 0, 25, .inl (nF (fun _ => 0))) := (hC_18 13 (by decide)).trans hN_13
  have hN_14 : ct_18 14 = .inl (B.2.1 0, 5, .inl (nF (fun _ => 0))) := (hC_18 14 (by decide)).trans hN_14
  have hN_15 : ct_18 15 = .inl (B.2.1 0, 5, .inl (nF (fun _ => 0))) := (hC_18 15 (by decide)).trans hN_15
  have hN_16 : ct_18 16 = .inl (B.2.1 2, 500000, .inl (nF (fun _ => 0))) := (hC_18 16 (by decide)).trans hN_16
  have hN_17 : ct_18 17 = .inl (B.2.1 2, 20000, .inl (nF (fun _ => 0))) := (hC_18 17 (by decide)).trans hN_17
  have hfra : ∀ r, r < 1 → ad_18 r = ad r := fun r hp => (hA_18 r (by omega)).trans (hfra r hp)
  refine g_putF (r := 0) (fs' := [.ref (ad_18 1), .ref (ad_18 2), .ref (ad_18 3), .ref (ad_18 4), .int 0, .int 0, .ref (ad_18 5), .int 0, .ref (ad_18 6), .ref (ad_18 7), .ref (ad_18 8), .int 0, .int (-1), .int 0, .int 0, .ref (ad_18 9), .ref (ad_18 10), .ref (ad_18 11), .int 0, .int 0, .ref (ad_18 12), .ref (ad_18 13), .ref (ad_18 14), .ref (ad_18 15), .ref (ad_18 16), .int 0, .int 0, .int 0, .ref (ad_18 17), .ref (ad_18 18), .null, .null, .null, .null, .int 0, .null, .null, .null, .null, .null, .int 0, .null, .null, .null, .null, .int 0, .null]) fx hnm lpX12_69 (by decide) ho rfl rfl (Nat.le_of_ble_eq_true rfl) rfl dX12_init_150 (fun cu19 ecu19 => ?_)
  have ho : cu19 0 = .inr (12, [.ref (ad_18 1), .ref (ad_18 2), .ref (ad_18 3), .ref (ad_18 4), .int 0, .int 0, .ref (ad_18 5), .int 0, .ref (ad_18 6), .ref (ad_18 7), .ref (ad_18 8), .int 0, .int (-1), .int 0, .int 0, .ref (ad_18 9), .ref (ad_18 10), .ref (ad_18 11), .int 0, .int 0, .ref (ad_18 12), .ref (ad_18 13), .ref (ad_18 14), .ref (ad_18 15), .ref (ad_18 16), .int 0, .int 0, .int 0, .ref (ad_18 17), .ref (ad_18 18), .null, .null, .null, .null, .int 0, .null, .null, .null, .null, .null, .int 0, .null, .null, .null, .null, .int 0, .null]) := by rw [ecu19, va_up_self]
  have hN_1 : cu19 1 = .inl (B.2.1 0, 40, .inl (nF (fun _ => 0))) := (congrFun ecu19 _).trans ((va_up_ne _ _ (by decide)).trans hN_1)
  have hN_2 : cu19 2 = .inl (B.2.1 0, 40, .inl (nF (fun _ => 0))) := (congrFun ecu19 _).trans ((va_up_ne _ _ (by decide)).trans hN_2)
  have hN_3 : cu19 3 = .inl (B.2.1 0, 40, .inl (nF (fun _ => 0))) := (congrFun ecu19 _).trans ((va_up_ne _ _ (by decide)).trans hN_3)
  have hN_4 : cu19 4 = .inl (B.2.1 0, 40, .inl (nF (fun _ => 0))) := (congrFun ecu19 _).trans ((va_up_ne _ _ (by decide)).trans hN_4)
  have hN_5 : cu19 5 = .inl (B.2.1 0, 25, .inl (nF (fun _ => 0))) := (congrFun ecu19 _).trans ((va_up_ne _ _ (by decide)).trans hN_5)
  have hN_6 : cu19 6 = .inl (B.2.1 0, 30, .inl (nF (fun _ => 0))) := (congrFun ecu19 _).trans ((va_up_ne _ _ (by decide)).trans hN_6)
  have hN_7 : cu19 7 = .inl (B.2.1 0, 2, .inl (nF (fun _ => 0))) := (congrFun ecu19 _).trans ((va_up_ne _ _ (by decide)).trans hN_7)
  have hN_8 : cu19 8 = .inl (B.2.1 0, 30, .inl (nF (fun _ => 0))) := (congrFun ecu19 _).trans ((va_up_ne _ _ (by decide)).trans hN_8)
  have hN_9 : cu19 9 = .inl (B.2.1 0, 160, .inl (nF (fun _ => 0))) := (congrFun ecu19 _).trans ((va_up_ne _ _ (by decide)).trans hN_9)
  have hN_10 : cu19 10 = .inl (B.2.1 0, 160, .inl (nF (fun _ => 0))) := (congrFun ecu19 _).trans ((va_up_ne _ _ (by decide)).trans hN_10)
  have hN_11 : cu19 11 = .inl (B.2.1 1, 60001, .inr (.inl (lF (fun _ => 0)))) := (congrFun ecu19 _).trans ((va_up_ne _ _ (by decide)).trans hN_11)
  have hN_12 : cu19 12 = .inl (B.2.1 0, 25, .inl (nF (fun _ => 0))) := (congrFun ecu19 _).trans ((va_up_ne _ _ (by decide)).trans hN_12)
  have hN_13 : cu19 13 = .inl (B.2.1 0, 25, .inl (nF (fun _ => 0))) := (congrFun ecu19 _).trans ((va_up_ne _ _ (by decide)).trans hN_13)
  have hN_14 : cu19 14 = .inl (B.2.1 0, 5, .inl (nF (fun _ => 0))) := (congrFun ecu19 _).trans ((va_up_ne _ _ (by decide)).trans hN_14)
  have hN_15 : cu19 15 = .inl (B.2.1 0, 5, .inl (nF (fun _ => 0))) := (congrFun ecu19 _).trans ((va_up_ne _ _ (by decide)).trans hN_15)
  have hN_16 : cu19 16 = .inl (B.2.1 2, 500000, .inl (nF (fun _ => 0))) := (congrFun ecu19 _).trans ((va_up_ne _ _ (by decide)).trans hN_16)
  have hN_17 : cu19 17 = .inl (B.2.1 2, 20000, .inl (nF (fun _ => 0))) := (congrFun ecu19 _).trans ((va_up_ne _ _ (by decide)).trans hN_17)
  have hN_18 : cu19 18 = .inl (B.2.1 0, 40, .inl (nF (fun _ => 0))) := (congrFun ecu19 _).trans ((va_up_ne _ _ (by decide)).trans hN_18)
  refine g_aload_n fx 0 dX12_init_153 rfl ?_
  refine g_bipush (v := nI 40) fx dX12_init_154 (by decide +kernel) ?_
  refine g_newi (N := 40) fx (nI_toInt (by omega)) (by omega) ⟨by dsimp only; omega, by dsimp only; omega⟩ dX12_init_156 (fun ad_19 ct_19 hA_19 hC_19 hN_19 => ?_)
  refine g_same (L' := [(0, .ref (ad_19 0))]) (st' := [.ref (ad_19 19), .ref (ad_19 0)]) (by rw [hA_19 0 (by decide)]) (by rw [hA_19 0 (by decide)]) ?_
  have ho : ct_19 0 = .inr (12, [.ref (ad_19 1), .ref (ad_19 2), .ref (ad_19 3), .ref (ad_19 4), .int 0, .int 0, .ref (ad_19 5), .int 0, .ref (ad_19 6), .ref (ad_19 7), .ref (ad_19 8), .int 0, .int (-1), .int 0, .int 0, .ref (ad_19 9), .ref (ad_19 10), .ref (ad_19 11), .int 0, .int 0, .ref (ad_19 12), .ref (ad_19 13), .ref (ad_19 14), .ref (ad_19 15), .ref (ad_19 16), .int 0, .int 0, .int 0, .ref (ad_19 17), .ref (ad_19 18), .null, .null, .null, .null, .int 0, .null, .null, .null, .null, .null, .int 0, .null, .null, .null, .null, .int 0, .null]) := (hC_19 0 (by decide)).trans (ho.trans (by rw [hA_19 1 (by decide), hA_19 2 (by decide), hA_19 3 (by decide), hA_19 4 (by decide), hA_19 5 (by decide), hA_19 6 (by decide), hA_19 7 (by decide), hA_19 8 (by decide), hA_19 9 (by decide), hA_19 10 (by decide), hA_19 11 (by decide), hA_19 12 (by decide), hA_19 13 (by decide), hA_19 14 (by decide), hA_19 15 (by decide), hA_19 16 (by decide), hA_19 17 (by decide), hA_19 18 (by decide)]))
  have hN_1 : ct_19 1 = .inl (B.2.1 0, 40, .inl (nF (fun _ => 0))) := (hC_19 1 (by decide)).trans hN_1
  have hN_2 : ct_19 2 = .inl (B.2.1 0, 40, .inl (nF (fun _ => 0))) := (hC_19 2 (by decide)).trans hN_2
  have hN_3 : ct_19 3 = .inl (B.2.1 0, 40, .inl (nF (fun _ => 0))) := (hC_19 3 (by decide)).trans hN_3
  have hN_4 : ct_19 4 = .inl (B.2.1 0, 40, .inl (nF (fun _ => 0))) := (hC_19 4 (by decide)).trans hN_4
  have hN_5 : ct_19 5 = .inl (B.2.1 0, 25, .inl (nF (fun _ => 0))) := (hC_19 5 (by decide)).trans hN_5
  have hN_6 : ct_19 6 = .inl (B.2.1 0, 30, .inl (nF (fun _ => 0))) := (hC_19 6 (by decide)).trans hN_6
  have hN_7 : ct_19 7 = .inl (B.2.1 0, 2, .inl (nF (fun _ => 0))) := (hC_19 7 (by decide)).trans hN_7
  have hN_8 : ct_19 8 = .inl (B.2.1 0, 30, .inl (nF (fun _ => 0))) := (hC_19 8 (by decide)).trans hN_8
  have hN_9 : ct_19 9 = .inl (B.2.1 0, 160, .inl (nF (fun _ => 0))) := (hC_19 9 (by decide)).trans hN_9
  have hN_10 : ct_19 10 = .inl (B.2.1 0, 160, .inl (nF (fun _ => 0))) := (hC_19 10 (by decide)).trans hN_10
  have hN_11 : ct_19 11 = .inl (B.2.1 1, 60001, .inr (.inl (lF (fun _ => 0)))) := (hC_19 11 (by decide)).trans hN_11
  have hN_12 : ct_19 12 = .inl (B.2.1 0, 25, .inl (nF (fun _ => 0))) := (hC_19 12 (by decide)).trans hN_12
  have hN_13 : ct_19 13 = .inl (B.2.1 0, 25, .inl (nF (fun _ => 0))) := (hC_19 13 (by decide)).trans hN_13
  have hN_14 : ct_19 14 = .inl (B.2.1 0, 5, .inl (nF (fun _ => 0))) := (hC_19 14 (by decide)).trans hN_14
  have hN_15 : ct_19 15 = .inl (B.2.1 0, 5, .inl (nF (fun _ => 0))) := (hC_19 15 (by decide)).trans hN_15
  have hN_16 : ct_19 16 = .inl (B.2.1 2, 500000, .inl (nF (fun _ => 0))) := (hC_19 16 (by decide)).trans hN_16
  have hN_17 : ct_19 17 = .inl (B.2.1 2, 20000, .inl (nF (fun _ => 0))) := (hC_19 17 (by decide)).trans hN_17
  have hN_18 : ct_19 18 = .inl (B.2.1 0, 40, .inl (nF (fun _ => 0))) := (hC_19 18 (by decide)).trans hN_18
  have hfra : ∀ r, r < 1 → ad_19 r = ad r := fun r hp => (hA_19 r (by omega)).trans (hfra r hp)
  refine g_putF (r := 0) (fs' := [.ref (ad_19 1), .ref (ad_19 2), .ref (ad_19 3), .ref (ad_19 4), .int 0, .int 0, .ref (ad_19 5), .int 0, .ref (ad_19 6), .ref (ad_19 7), .ref (ad_19 8), .int 0, .int (-1), .int 0, .int 0, .ref (ad_19 9), .ref (ad_19 10), .ref (ad_19 11), .int 0, .int 0, .ref (ad_19 12), .ref (ad_19 13), .ref (ad_19 14), .ref (ad_19 15), .ref (ad_19 16), .int 0, .int 0, .int 0, .ref (ad_19 17), .ref (ad_19 18), .ref (ad_19 19), .null, .null, .null, .int 0, .null, .null, .null, .null, .null, .int 0, .null, .null, .null, .null, .int 0, .null]) fx hnm lpX12_72 (by decide) ho rfl rfl (Nat.le_of_ble_eq_true rfl) rfl dX12_init_158 (fun cu20 ecu20 => ?_)
  have ho : cu20 0 = .inr (12, [.ref (ad_19 1), .ref (ad_19 2), .ref (ad_19 3), .ref (ad_19 4), .int 0, .int 0, .ref (ad_19 5), .int 0, .ref (ad_19 6), .ref (ad_19 7), .ref (ad_19 8), .int 0, .int (-1), .int 0, .int 0, .ref (ad_19 9), .ref (ad_19 10), .ref (ad_19 11), .int 0, .int 0, .ref (ad_19 12), .ref (ad_19 13), .ref (ad_19 14), .ref (ad_19 15), .ref (ad_19 16), .int 0, .int 0, .int 0, .ref (ad_19 17), .ref (ad_19 18), .ref (ad_19 19), .null, .null, .null, .int 0, .null, .null, .null, .null, .null, .int 0, .null, .null, .null, .null, .int 0, .null]) := by rw [ecu20, va_up_self]
  have hN_1 : cu20 1 = .inl (B.2.1 0, 40, .inl (nF (fun _ => 0))) := (congrFun ecu20 _).trans ((va_up_ne _ _ (by decide)).trans hN_1)
  have hN_2 : cu20 2 = .inl (B.2.1 0, 40, .inl (nF (fun _ => 0))) := (congrFun ecu20 _).trans ((va_up_ne _ _ (by decide)).trans hN_2)
  have hN_3 : cu20 3 = .inl (B.2.1 0, 40, .inl (nF (fun _ => 0))) := (congrFun ecu20 _).trans ((va_up_ne _ _ (by decide)).trans hN_3)
  have hN_4 : cu20 4 = .inl (B.2.1 0, 40, .inl (nF (fun _ => 0))) := (congrFun ecu20 _).trans ((va_up_ne _ _ (by decide)).trans hN_4)
  have hN_5 : cu20 5 = .inl (B.2.1 0, 25, .inl (nF (fun _ => 0))) := (congrFun ecu20 _).trans ((va_up_ne _ _ (by decide)).trans hN_5)
  have hN_6 : cu20 6 = .inl (B.2.1 0, 30, .inl (nF (fun _ => 0))) := (congrFun ecu20 _).trans ((va_up_ne _ _ (by decide)).trans hN_6)
  have hN_7 : cu20 7 = .inl (B.2.1 0, 2, .inl (nF (fun _ => 0))) := (congrFun ecu20 _).trans ((va_up_ne _ _ (by decide)).trans hN_7)
  have hN_8 : cu20 8 = .inl (B.2.1 0, 30, .inl (nF (fun _ => 0))) := (congrFun ecu20 _).trans ((va_up_ne _ _ (by decide)).trans hN_8)
  have hN_9 : cu20 9 = .inl (B.2.1 0, 160, .inl (nF (fun _ => 0))) := (congrFun ecu20 _).trans ((va_up_ne _ _ (by decide)).trans hN_9)
  have hN_10 : cu20 10 = .inl (B.2.1 0, 160, .inl (nF (fun _ => 0))) := (congrFun ecu20 _).trans ((va_up_ne _ _ (by decide)).trans hN_10)
  have hN_11 : cu20 11 = .inl (B.2.1 1, 60001, .inr (.inl (lF (fun _ => 0)))) := (congrFun ecu20 _).trans ((va_up_ne _ _ (by decide)).trans hN_11)
  have hN_12 : cu20 12 = .inl (B.2.1 0, 25, .inl (nF (fun _ => 0))) := (congrFun ecu20 _).trans ((va_up_ne _ _ (by decide)).trans hN_12)
  have hN_13 : cu20 13 = .inl (B.2.1 0, 25, .inl (nF (fun _ => 0))) := (congrFun ecu20 _).trans ((va_up_ne _ _ (by decide)).trans hN_13)
  have hN_14 : cu20 14 = .inl (B.2.1 0, 5, .inl (nF (fun _ => 0))) := (congrFun ecu20 _).trans ((va_up_ne _ _ (by decide)).trans hN_14)
  have hN_15 : cu20 15 = .inl (B.2.1 0, 5, .inl (nF (fun _ => 0))) := (congrFun ecu20 _).trans ((va_up_ne _ _ (by decide)).trans hN_15)
  have hN_16 : cu20 16 = .inl (B.2.1 2, 500000, .inl (nF (fun _ => 0))) := (congrFun ecu20 _).trans ((va_up_ne _ _ (by decide)).trans hN_16)
  have hN_17 : cu20 17 = .inl (B.2.1 2, 20000, .inl (nF (fun _ => 0))) := (congrFun ecu20 _).trans ((va_up_ne _ _ (by decide)).trans hN_17)
  have hN_18 : cu20 18 = .inl (B.2.1 0, 40, .inl (nF (fun _ => 0))) := (congrFun ecu20 _).trans ((va_up_ne _ _ (by decide)).trans hN_18)
  have hN_19 : cu20 19 = .inl (B.2.1 0, 40, .inl (nF (fun _ => 0))) := (congrFun ecu20 _).trans ((va_up_ne _ _ (by decide)).trans hN_19)
  refine g_aload_n fx 0 dX12_init_161 rfl ?_
  refine g_bipush (v := nI 40) fx dX12_init_162 (by decide +kernel) ?_
  refine g_newi (N := 40) fx (nI_toInt (by omega)) (by omega) ⟨by dsimp only; omega, by dsimp only; omega⟩ dX12_init_164 (fun ad_20 ct_20 hA_20 hC_20 hN_20 => ?_)
  refine g_same (L' := [(0, .ref (ad_20 0))]) (st' := [.ref (ad_20 20), .ref (ad_20 0)]) (by rw [hA_20 0 (by decide)]) (by rw [hA_20 0 (by decide)]) ?_
  have ho : ct_20 0 = .inr (12, [.ref (ad_20 1), .ref (ad_20 2), .ref (ad_20 3), .ref (ad_20 4), .int 0, .int 0, .ref (ad_20 5), .int 0, .ref (ad_20 6), .ref (ad_20 7), .ref (ad_20 8), .int 0, .int (-1), .int 0, .int 0, .ref (ad_20 9), .ref (ad_20 10), .ref (ad_20 11), .int 0, .int 0, .ref (ad_20 12), .ref (ad_20 13), .ref (ad_20 14), .ref (ad_20 15), .ref (ad_20 16), .int 0, .int 0, .int 0, .ref (ad_20 17), .ref (ad_20 18), .ref (ad_20 19), .null, .null, .null, .int 0, .null, .null, .null, .null, .null, .int 0, .null, .null, .null, .null, .int 0, .null]) := (hC_20 0 (by decide)).trans (ho.trans (by rw [hA_20 1 (by decide), hA_20 2 (by decide), hA_20 3 (by decide), hA_20 4 (by decide), hA_20 5 (by decide), hA_20 6 (by decide), hA_20 7 (by decide), hA_20 8 (by decide), hA_20 9 (by decide), hA_20 10 (by decide), hA_20 11 (by decide), hA_20 12 (by decide), hA_20 13 (by decide), hA_20 14 (by decide), hA_20 15 (by decide), hA_20 16 (by decide), hA_20 17 (by decide), hA_20 18 (by decide), hA_20 19 (by decide)]))
  have hN_1 : ct_20 1 = .inl (B.2.1 0, 40, .inl (nF (fun _ => 0))) := (hC_20 1 (by decide)).trans hN_1
  have hN_2 : ct_20 2 = .inl (B.2.1 0, 40, .inl (nF (fun _ => 0))) := (hC_20 2 (by decide)).trans hN_2
  have hN_3 : ct_20 3 = .inl (B.2.1 0, 40, .inl (nF (fun _ => 0))) := (hC_20 3 (by decide)).trans hN_3
  have hN_4 : ct_20 4 = .inl (B.2.1 0, 40, .inl (nF (fun _ => 0))) := (hC_20 4 (by decide)).trans hN_4
  have hN_5 : ct_20 5 = .inl (B.2.1 0, 25, .inl (nF (fun _ => 0))) := (hC_20 5 (by decide)).trans hN_5
  have hN_6 : ct_20 6 = .inl (B.2.1 0, 30, .inl (nF (fun _ => 0))) := (hC_20 6 (by decide)).trans hN_6
  have hN_7 : ct_20 7 = .inl (B.2.1 0, 2, .inl (nF (fun _ => 0))) := (hC_20 7 (by decide)).trans hN_7
  have hN_8 : ct_20 8 = .inl (B.2.1 0, 30, .inl (nF (fun _ => 0))) := (hC_20 8 (by decide)).trans hN_8
  have hN_9 : ct_20 9 = .inl (B.2.1 0, 160, .inl (nF (fun _ => 0))) := (hC_20 9 (by decide)).trans hN_9
  have hN_10 : ct_20 10 = .inl (B.2.1 0, 160, .inl (nF (fun _ => 0))) := (hC_20 10 (by decide)).trans hN_10
  have hN_11 : ct_20 11 = .inl (B.2.1 1, 60001, .inr (.inl (lF (fun _ => 0)))) := (hC_20 11 (by decide)).trans hN_11
  have hN_12 : ct_20 12 = .inl (B.2.1 0, 25, .inl (nF (fun _ => 0))) := (hC_20 12 (by decide)).trans hN_12
  have hN_13 : ct_20 13 = .inl (B.2.1 0, 25, .inl (nF (fun _ => 0))) := (hC_20 13 (by decide)).trans hN_13
  have hN_14 : ct_20 14 = .inl (B.2.1 0, 5, .inl (nF (fun _ => 0))) := (hC_20 14 (by decide)).trans hN_14
  have hN_15 : ct_20 15 = .inl (B.2.1 0, 5, .inl (nF (fun _ => 0))) := (hC_20 15 (by decide)).trans hN_15
  have hN_16 : ct_20 16 = .inl (B.2.1 2, 500000, .inl (nF (fun _ => 0))) := (hC_20 16 (by decide)).trans hN_16
  have hN_17 : ct_20 17 = .inl (B.2.1 2, 20000, .inl (nF (fun _ => 0))) := (hC_20 17 (by decide)).trans hN_17
  have hN_18 : ct_20 18 = .inl (B.2.1 0, 40, .inl (nF (fun _ => 0))) := (hC_20 18 (by decide)).trans hN_18
  have hN_19 : ct_20 19 = .inl (B.2.1 0, 40, .inl (nF (fun _ => 0))) := (hC_20 19 (by decide)).trans hN_19
  have hfra : ∀ r, r < 1 → ad_20 r = ad r := fun r hp => (hA_20 r (by omega)).trans (hfra r hp)
  refine g_putF (r := 0) (fs' := [.ref (ad_20 1), .ref (ad_20 2), .ref (ad_20 3), .ref (ad_20 4), .int 0, .int 0, .ref (ad_20 5), .int 0, .ref (ad_20 6), .ref (ad_20 7), .ref (ad_20 8), .int 0, .int (-1), .int 0, .int 0, .ref (ad_20 9), .ref (ad_20 10), .ref (ad_20 11), .int 0, .int 0, .ref (ad_20 12), .ref (ad_20 13), .ref (ad_20 14), .ref (ad_20 15), .ref (ad_20 16), .int 0, .int 0, .int 0, .ref (ad_20 17), .ref (ad_20 18), .ref (ad_20 19), .ref (ad_20 20), .null, .null, .int 0, .null, .null, .null, .null, .null, .int 0, .null, .null, .null, .null, .int 0, .null]) fx hnm lpX12_75 (by decide) ho rfl rfl (Nat.le_of_ble_eq_true rfl) rfl dX12_init_166 (fun cu21 ecu21 => ?_)
  have ho : cu21 0 = .inr (12, [.ref (ad_20 1), .ref (ad_20 2), .ref (ad_20 3), .ref (ad_20 4), .int 0, .int 0, .ref (ad_20 5), .int 0, .ref (ad_20 6), .ref (ad_20 7), .ref (ad_20 8), .int 0, .int (-1), .int 0, .int 0, .ref (ad_20 9), .ref (ad_20 10), .ref (ad_20 11), .int 0, .int 0, .ref (ad_20 12), .ref (ad_20 13), .ref (ad_20 14), .ref (ad_20 15), .ref (ad_20 16), .int 0, .int 0, .int 0, .ref (ad_20 17), .ref (ad_20 18), .ref (ad_20 19), .ref (ad_20 20), .null, .null, .int 0, .null, .null, .null, .null, .null, .int 0, .null, .null, .null, .null, .int 0, .null]) := by rw [ecu21, va_up_self]
  have hN_1 : cu21 1 = .inl (B.2.1 0, 40, .inl (nF (fun _ => 0))) := (congrFun ecu21 _).trans ((va_up_ne _ _ (by decide)).trans hN_1)
  have hN_2 : cu21 2 = .inl (B.2.1 0, 40, .inl (nF (fun _ => 0))) := (congrFun ecu21 _).trans ((va_up_ne _ _ (by decide)).trans hN_2)
  have hN_3 : cu21 3 = .inl (B.2.1 0, 40, .inl (nF (fun _ => 0))) := (congrFun ecu21 _).trans ((va_up_ne _ _ (by decide)).trans hN_3)
  have hN_4 : cu21 4 = .inl (B.2.1 0, 40, .inl (nF (fun _ => 0))) := (congrFun ecu21 _).trans ((va_up_ne _ _ (by decide)).trans hN_4)
  have hN_5 : cu21 5 = .inl (B.2.1 0, 25, .inl (nF (fun _ => 0))) := (congrFun ecu21 _).trans ((va_up_ne _ _ (by decide)).trans hN_5)
  have hN_6 : cu21 6 = .inl (B.2.1 0, 30, .inl (nF (fun _ => 0))) := (congrFun ecu21 _).trans ((va_up_ne _ _ (by decide)).trans hN_6)
  have hN_7 : cu21 7 = .inl (B.2.1 0, 2, .inl (nF (fun _ => 0))) := (congrFun ecu21 _).trans ((va_up_ne _ _ (by decide)).trans hN_7)
  have hN_8 : cu21 8 = .inl (B.2.1 0, 30, .inl (nF (fun _ => 0))) := (congrFun ecu21 _).trans ((va_up_ne _ _ (by decide)).trans hN_8)
  have hN_9 : cu21 9 = .inl (B.2.1 0, 160, .inl (nF (fun _ => 0))) := (congrFun ecu21 _).trans ((va_up_ne _ _ (by decide)).trans hN_9)
  have hN_10 : cu21 10 = .inl (B.2.1 0, 160, .inl (nF (fun _ => 0))) := (congrFun ecu21 _).trans ((va_up_ne _ _ (by decide)).trans hN_10)
  have hN_11 : cu21 11 = .inl (B.2.1 1, 60001, .inr (.inl (lF (fun _ => 0)))) := (congrFun ecu21 _).trans ((va_up_ne _ _ (by decide)).trans hN_11)
  have hN_12 : cu21 12 = .inl (B.2.1 0, 25, .inl (nF (fun _ => 0))) := (congrFun ecu21 _).trans ((va_up_ne _ _ (by decide)).trans hN_12)
  have hN_13 : cu21 13 = .inl (B.2.1 0, 25, .inl (nF (fun _ => 0))) := (congrFun ecu21 _).trans ((va_up_ne _ _ (by decide)).trans hN_13)
  have hN_14 : cu21 14 = .inl (B.2.1 0, 5, .inl (nF (fun _ => 0))) := (congrFun ecu21 _).trans ((va_up_ne _ _ (by decide)).trans hN_14)
  have hN_15 : cu21 15 = .inl (B.2.1 0, 5, .inl (nF (fun _ => 0))) := (congrFun ecu21 _).trans ((va_up_ne _ _ (by decide)).trans hN_15)
  have hN_16 : cu21 16 = .inl (B.2.1 2, 500000, .inl (nF (fun _ => 0))) := (congrFun ecu21 _).trans ((va_up_ne _ _ (by decide)).trans hN_16)
  have hN_17 : cu21 17 = .inl (B.2.1 2, 20000, .inl (nF (fun _ => 0))) := (congrFun ecu21 _).trans ((va_up_ne _ _ (by decide)).trans hN_17)
  have hN_18 : cu21 18 = .inl (B.2.1 0, 40, .inl (nF (fun _ => 0))) := (congrFun ecu21 _).trans ((va_up_ne _ _ (by decide)).trans hN_18)
  have hN_19 : cu21 19 = .inl (B.2.1 0, 40, .inl (nF (fun _ => 0))) := (congrFun ecu21 _).trans ((va_up_ne _ _ (by decide)).trans hN_19)
  have hN_20 : cu21 20 = .inl (B.2.1 0, 40, .inl (nF (fun _ => 0))) := (congrFun ecu21 _).trans ((va_up_ne _ _ (by decide)).trans hN_20)
  refine g_aload_n fx 0 dX12_init_169 rfl ?_
  refine g_bipush (v := nI 40) fx dX12_init_170 (by decide +kernel) ?_
  refine g_newi (N := 40) fx (nI_toInt (by omega)) (by omega) ⟨by dsimp only; omega, by dsimp only; omega⟩ dX12_init_172 (fun ad_21 ct_21 hA_21 hC_21 hN_21 => ?_)
  refine g_same (L' := [(0, .ref (ad_21 0))]) (st' := [.ref (ad_21 21), .ref (ad_21 0)]) (by rw [hA_21 0 (by decide)]) (by rw [hA_21 0 (by decide)]) ?_
  have ho : ct_21 0 = .inr (12, [.ref (ad_21 1), .ref (ad_21 2), .ref (ad_21 3), .ref (ad_21 4), .int 0, .int 0, .ref (ad_21 5), .int 0, .ref (ad_21 6), .ref (ad_21 7), .ref (ad_21 8), .int 0, .int (-1), .int 0, .int 0, .ref (ad_21 9), .ref (ad_21 10), .ref (ad_21 11), .int 0, .int 0, .ref (ad_21 12), .ref (ad_21 13), .ref (ad_21 14), .ref (ad_21 15), .ref (ad_21 16), .int 0, .int 0, .int 0, .ref (ad_21 17), .ref (ad_21 18), .ref (ad_21 19), .ref (ad_21 20), .null, .null, .int 0, .null, .null, .null, .null, .null, .int 0, .null, .null, .null, .null, .int 0, .null]) := (hC_21 0 (by decide)).trans (ho.trans (by rw [hA_21 1 (by decide), hA_21 2 (by decide), hA_21 3 (by decide), hA_21 4 (by decide), hA_21 5 (by decide), hA_21 6 (by decide), hA_21 7 (by decide), hA_21 8 (by decide), hA_21 9 (by decide), hA_21 10 (by decide), hA_21 11 (by decide), hA_21 12 (by decide), hA_21 13 (by decide), hA_21 14 (by decide), hA_21 15 (by decide), hA_21 16 (by decide), hA_21 17 (by decide), hA_21 18 (by decide), hA_21 19 (by decide), hA_21 20 (by decide)]))
  have hN_1 : ct_21 1 = .inl (B.2.1 0, 40, .inl (nF (fun _ => 0))) := (hC_21 1 (by decide)).trans hN_1
  have hN_2 : ct_21 2 = .inl (B.2.1 0, 40, .inl (nF (fun _ => 0))) := (hC_21 2 (by decide)).trans hN_2
  have hN_3 : ct_21 3 = .inl (B.2.1 0, 40, .inl (nF (fun _ => 0))) := (hC_21 3 (by decide)).trans hN_3
  have hN_4 : ct_21 4 = .inl (B.2.1 0, 40, .inl (nF (fun _ => 0))) := (hC_21 4 (by decide)).trans hN_4
  have hN_5 : ct_21 5 = .inl (B.2.1 0, 25, .inl (nF (fun _ => 0))) := (hC_21 5 (by decide)).trans hN_5
  have hN_6 : ct_21 6 = .inl (B.2.1 0, 30, .inl (nF (fun _ => 0))) := (hC_21 6 (by decide)).trans hN_6
  have hN_7 : ct_21 7 = .inl (B.2.1 0, 2, .inl (nF (fun _ => 0))) := (hC_21 7 (by decide)).trans hN_7
  have hN_8 : ct_21 8 = .inl (B.2.1 0, 30, .inl (nF (fun _ => 0))) := (hC_21 8 (by decide)).trans hN_8
  have hN_9 : ct_21 9 = .inl (B.2.1 0, 160, .inl (nF (fun _ => 0))) := (hC_21 9 (by decide)).trans hN_9
  have hN_10 : ct_21 10 = .inl (B.2.1 0, 160, .inl (nF (fun _ => 0))) := (hC_21 10 (by decide)).trans hN_10
  have hN_11 : ct_21 11 = .inl (B.2.1 1, 60001, .inr (.inl (lF (fun _ => 0)))) := (hC_21 11 (by decide)).trans hN_11
  have hN_12 : ct_21 12 = .inl (B.2.1 0, 25, .inl (nF (fun _ => 0))) := (hC_21 12 (by decide)).trans hN_12
  have hN_13 : ct_21 13 = .inl (B.2.1 0, 25, .inl (nF (fun _ => 0))) := (hC_21 13 (by decide)).trans hN_13
  have hN_14 : ct_21 14 = .inl (B.2.1 0, 5, .inl (nF (fun _ => 0))) := (hC_21 14 (by decide)).trans hN_14
  have hN_15 : ct_21 15 = .inl (B.2.1 0, 5, .inl (nF (fun _ => 0))) := (hC_21 15 (by decide)).trans hN_15
  have hN_16 : ct_21 16 = .inl (B.2.1 2, 500000, .inl (nF (fun _ => 0))) := (hC_21 16 (by decide)).trans hN_16
  have hN_17 : ct_21 17 = .inl (B.2.1 2, 20000, .inl (nF (fun _ => 0))) := (hC_21 17 (by decide)).trans hN_17
  have hN_18 : ct_21 18 = .inl (B.2.1 0, 40, .inl (nF (fun _ => 0))) := (hC_21 18 (by decide)).trans hN_18
  have hN_19 : ct_21 19 = .inl (B.2.1 0, 40, .inl (nF (fun _ => 0))) := (hC_21 19 (by decide)).trans hN_19
  have hN_20 : ct_21 20 = .inl (B.2.1 0, 40, .inl (nF (fun _ => 0))) := (hC_21 20 (by decide)).trans hN_20
  have hfra : ∀ r, r < 1 → ad_21 r = ad r := fun r hp => (hA_21 r (by omega)).trans (hfra r hp)
  refine g_putF (r := 0) (fs' := [.ref (ad_21 1), .ref (ad_21 2), .ref (ad_21 3), .ref (ad_21 4), .int 0, .int 0, .ref (ad_21 5), .int 0, .ref (ad_21 6), .ref (ad_21 7), .ref (ad_21 8), .int 0, .int (-1), .int 0, .int 0, .ref (ad_21 9), .ref (ad_21 10), .ref (ad_21 11), .int 0, .int 0, .ref (ad_21 12), .ref (ad_21 13), .ref (ad_21 14), .ref (ad_21 15), .ref (ad_21 16), .int 0, .int 0, .int 0, .ref (ad_21 17), .ref (ad_21 18), .ref (ad_21 19), .ref (ad_21 20), .ref (ad_21 21), .null, .int 0, .null, .null, .null, .null, .null, .int 0, .null, .null, .null, .null, .int 0, .null]) fx hnm lpX12_78 (by decide) ho rfl rfl (Nat.le_of_ble_eq_true rfl) rfl dX12_init_174 (fun cu22 ecu22 => ?_)
  have ho : cu22 0 = .inr (12, [.ref (ad_21 1), .ref (ad_21 2), .ref (ad_21 3), .ref (ad_21 4), .int 0, .int 0, .ref (ad_21 5), .int 0, .ref (ad_21 6), .ref (ad_21 7), .ref (ad_21 8), .int 0, .int (-1), .int 0, .int 0, .ref (ad_21 9), .ref (ad_21 10), .ref (ad_21 11), .int 0, .int 0, .ref (ad_21 12), .ref (ad_21 13), .ref (ad_21 14), .ref (ad_21 15), .ref (ad_21 16), .int 0, .int 0, .int 0, .ref (ad_21 17), .ref (ad_21 18), .ref (ad_21 19), .ref (ad_21 20), .ref (ad_21 21), .null, .int 0, .null, .null, .null, .null, .null, .int 0, .null, .null, .null, .null, .int 0, .null]) := by rw [ecu22, va_up_self]
  have hN_1 : cu22 1 = .inl (B.2.1 0, 40, .inl (nF (fun _ => 0))) := (congrFun ecu22 _).trans ((va_up_ne _ _ (by decide)).trans hN_1)
  have hN_2 : cu22 2 = .inl (B.2.1 0, 40, .inl (nF (fun _ => 0))) := (congrFun ecu22 _).trans ((va_up_ne _ _ (by decide)).trans hN_2)
  have hN_3 : cu22 3 = .inl (B.2.1 0, 40, .inl (nF (fun _ => 0))) := (congrFun ecu22 _).trans ((va_up_ne _ _ (by decide)).trans hN_3)
  have hN_4 : cu22 4 = .inl (B.2.1 0, 40, .inl (nF (fun _ => 0))) := (congrFun ecu22 _).trans ((va_up_ne _ _ (by decide)).trans hN_4)
  have hN_5 : cu22 5 = .inl (B.2.1 0, 25, .inl (nF (fun _ => 0))) := (congrFun ecu22 _).trans ((va_up_ne _ _ (by decide)).trans hN_5)
  have hN_6 : cu22 6 = .inl (B.2.1 0, 30, .inl (nF (fun _ => 0))) := (congrFun ecu22 _).trans ((va_up_ne _ _ (by decide)).trans hN_6)
  have hN_7 : cu22 7 = .inl (B.2.1 0, 2, .inl (nF (fun _ => 0))) := (congrFun ecu22 _).trans ((va_up_ne _ _ (by decide)).trans hN_7)
  have hN_8 : cu22 8 = .inl (B.2.1 0, 30, .inl (nF (fun _ => 0))) := (congrFun ecu22 _).trans ((va_up_ne _ _ (by decide)).trans hN_8)
  have hN_9 : cu22 9 = .inl (B.2.1 0, 160, .inl (nF (fun _ => 0))) := (congrFun ecu22 _).trans ((va_up_ne _ _ (by decide)).trans hN_9)
  have hN_10 : cu22 10 = .inl (B.2.1 0, 160, .inl (nF (fun _ => 0))) := (congrFun ecu22 _).trans ((va_up_ne _ _ (by decide)).trans hN_10)
  have hN_11 : cu22 11 = .inl (B.2.1 1, 60001, .inr (.inl (lF (fun _ => 0)))) := (congrFun ecu22 _).trans ((va_up_ne _ _ (by decide)).trans hN_11)
  have hN_12 : cu22 12 = .inl (B.2.1 0, 25, .inl (nF (fun _ => 0))) := (congrFun ecu22 _).trans ((va_up_ne _ _ (by decide)).trans hN_12)
  have hN_13 : cu22 13 = .inl (B.2.1 0, 25, .inl (nF (fun _ => 0))) := (congrFun ecu22 _).trans ((va_up_ne _ _ (by decide)).trans hN_13)
  have hN_14 : cu22 14 = .inl (B.2.1 0, 5, .inl (nF (fun _ => 0))) := (congrFun ecu22 _).trans ((va_up_ne _ _ (by decide)).trans hN_14)
  have hN_15 : cu22 15 = .inl (B.2.1 0, 5, .inl (nF (fun _ => 0))) := (congrFun ecu22 _).trans ((va_up_ne _ _ (by decide)).trans hN_15)
  have hN_16 : cu22 16 = .inl (B.2.1 2, 500000, .inl (nF (fun _ => 0))) := (congrFun ecu22 _).trans ((va_up_ne _ _ (by decide)).trans hN_16)
  have hN_17 : cu22 17 = .inl (B.2.1 2, 20000, .inl (nF (fun _ => 0))) := (congrFun ecu22 _).trans ((va_up_ne _ _ (by decide)).trans hN_17)
  have hN_18 : cu22 18 = .inl (B.2.1 0, 40, .inl (nF (fun _ => 0))) := (congrFun ecu22 _).trans ((va_up_ne _ _ (by decide)).trans hN_18)
  have hN_19 : cu22 19 = .inl (B.2.1 0, 40, .inl (nF (fun _ => 0))) := (congrFun ecu22 _).trans ((va_up_ne _ _ (by decide)).trans hN_19)
  have hN_20 : cu22 20 = .inl (B.2.1 0, 40, .inl (nF (fun _ => 0))) := (congrFun ecu22 _).trans ((va_up_ne _ _ (by decide)).trans hN_20)
  have hN_21 : cu22 21 = .inl (B.2.1 0, 40, .inl (nF (fun _ => 0))) := (congrFun ecu22 _).trans ((va_up_ne _ _ (by decide)).trans hN_21)
  refine g_aload_n fx 0 dX12_init_177 rfl ?_
  refine g_bipush (v := nI 30) fx dX12_init_178 (by decide +kernel) ?_
  refine g_newi (N := 30) fx (nI_toInt (by omega)) (by omega) ⟨by dsimp only; omega, by dsimp only; omega⟩ dX12_init_180 (fun ad_22 ct_22 hA_22 hC_22 hN_22 => ?_)
  refine g_same (L' := [(0, .ref (ad_22 0))]) (st' := [.ref (ad_22 22), .ref (ad_22 0)]) (by rw [hA_22 0 (by decide)]) (by rw [hA_22 0 (by decide)]) ?_
  have ho : ct_22 0 = .inr (12, [.ref (ad_22 1), .ref (ad_22 2), .ref (ad_22 3), .ref (ad_22 4), .int 0, .int 0, .ref (ad_22 5), .int 0, .ref (ad_22 6), .ref (ad_22 7), .ref (ad_22 8), .int 0, .int (-1), .int 0, .int 0, .ref (ad_22 9), .ref (ad_22 10), .ref (ad_22 11), .int 0, .int 0, .ref (ad_22 12), .ref (ad_22 13), .ref (ad_22 14), .ref (ad_22 15), .ref (ad_22 16), .int 0, .int 0, .int 0, .ref (ad_22 17), .ref (ad_22 18), .ref (ad_22 19), .ref (ad_22 20), .ref (ad_22 21), .null, .int 0, .null, .null, .null, .null, .null, .int 0, .null, .null, .null, .null, .int 0, .null]) := (hC_22 0 (by decide)).trans (ho.trans (by rw [hA_22 1 (by decide), hA_22 2 (by decide), hA_22 3 (by decide), hA_22 4 (by decide), hA_22 5 (by decide), hA_22 6 (by decide), hA_22 7 (by decide), hA_22 8 (by decide), hA_22 9 (by decide), hA_22 10 (by decide), hA_22 11 (by decide), hA_22 12 (by decide), hA_22 13 (by decide), hA_22 14 (by decide), hA_22 15 (by decide), hA_22 16 (by decide), hA_22 17 (by decide), hA_22 18 (by decide), hA_22 19 (by decide), hA_22 20 (by decide), hA_22 21 (by decide)]))
  have hN_1 : ct_22 1 = .inl (B.2.1 0, 40, .inl (nF (fun _ => 0))) := (hC_22 1 (by decide)).trans hN_1
  have hN_2 : ct_22 2 = .inl (B.2.1 0, 40, .inl (nF (fun _ => 0))) := (hC_22 2 (by decide)).trans hN_2
  have hN_3 : ct_22 3 = .inl (B.2.1 0, 40, .inl (nF (fun _ => 0))) := (hC_22 3 (by decide)).trans hN_3
  have hN_4 : ct_22 4 = .inl (B.2.1 0, 40, .inl (nF (fun _ => 0))) := (hC_22 4 (by decide)).trans hN_4
  have hN_5 : ct_22 5 = .inl (B.2.1 0, 25, .inl (nF (fun _ => 0))) := (hC_22 5 (by decide)).trans hN_5
  have hN_6 : ct_22 6 = .inl (B.2.1 0, 30, .inl (nF (fun _ => 0))) := (hC_22 6 (by decide)).trans hN_6
  have hN_7 : ct_22 7 = .inl (B.2.1 0, 2, .inl (nF (fun _ => 0))) := (hC_22 7 (by decide)).trans hN_7
  have hN_8 : ct_22 8 = .inl (B.2.1 0, 30, .inl (nF (fun _ => 0))) := (hC_22 8 (by decide)).trans hN_8
  have hN_9 : ct_22 9 = .inl (B.2.1 0, 160, .inl (nF (fun _ => 0))) := (hC_22 9 (by decide)).trans hN_9
  have hN_10 : ct_22 10 = .inl (B.2.1 0, 160, .inl (nF (fun _ => 0))) := (hC_22 10 (by decide)).trans hN_10
  have hN_11 : ct_22 11 = .inl (B.2.1 1, 60001, .inr (.inl (lF (fun _ => 0)))) := (hC_22 11 (by decide)).trans hN_11
  have hN_12 : ct_22 12 = .inl (B.2.1 0, 25, .inl (nF (fun _ => 0))) := (hC_22 12 (by decide)).trans hN_12
  have hN_13 : ct_22 13 = .inl (B.2.1 0, 25, .inl (nF (fun _ => 0))) := (hC_22 13 (by decide)).trans hN_13
  have hN_14 : ct_22 14 = .inl (B.2.1 0, 5, .inl (nF (fun _ => 0))) := (hC_22 14 (by decide)).trans hN_14
  have hN_15 : ct_22 15 = .inl (B.2.1 0, 5, .inl (nF (fun _ => 0))) := (hC_22 15 (by decide)).trans hN_15
  have hN_16 : ct_22 16 = .inl (B.2.1 2, 500000, .inl (nF (fun _ => 0))) := (hC_22 16 (by decide)).trans hN_16
  have hN_17 : ct_22 17 = .inl (B.2.1 2, 20000, .inl (nF (fun _ => 0))) := (hC_22 17 (by decide)).trans hN_17
  have hN_18 : ct_22 18 = .inl (B.2.1 0, 40, .inl (nF (fun _ => 0))) := (hC_22 18 (by decide)).trans hN_18
  have hN_19 : ct_22 19 = .inl (B.2.1 0, 40, .inl (nF (fun _ => 0))) := (hC_22 19 (by decide)).trans hN_19
  have hN_20 : ct_22 20 = .inl (B.2.1 0, 40, .inl (nF (fun _ => 0))) := (hC_22 20 (by decide)).trans hN_20
  have hN_21 : ct_22 21 = .inl (B.2.1 0, 40, .inl (nF (fun _ => 0))) := (hC_22 21 (by decide)).trans hN_21
  have hfra : ∀ r, r < 1 → ad_22 r = ad r := fun r hp => (hA_22 r (by omega)).trans (hfra r hp)
  refine g_putF (r := 0) (fs' := [.ref (ad_22 1), .ref (ad_22 2), .ref (ad_22 3), .ref (ad_22 4), .int 0, .int 0, .ref (ad_22 5), .int 0, .ref (ad_22 6), .ref (ad_22 7), .ref (ad_22 8), .int 0, .int (-1), .int 0, .int 0, .ref (ad_22 9), .ref (ad_22 10), .ref (ad_22 11), .int 0, .int 0, .ref (ad_22 12), .ref (ad_22 13), .ref (ad_22 14), .ref (ad_22 15), .ref (ad_22 16), .int 0, .int 0, .int 0, .ref (ad_22 17), .ref (ad_22 18), .ref (ad_22 19), .ref (ad_22 20), .ref (ad_22 21), .ref (ad_22 22), .int 0, .null, .null, .null, .null, .null, .int 0, .null, .null, .null, .null, .int 0, .null]) fx hnm lpX12_81 (by decide) ho rfl rfl (Nat.le_of_ble_eq_true rfl) rfl dX12_init_182 (fun cu23 ecu23 => ?_)
  have ho : cu23 0 = .inr (12, [.ref (ad_22 1), .ref (ad_22 2), .ref (ad_22 3), .ref (ad_22 4), .int 0, .int 0, .ref (ad_22 5), .int 0, .ref (ad_22 6), .ref (ad_22 7), .ref (ad_22 8), .int 0, .int (-1), .int 0, .int 0, .ref (ad_22 9), .ref (ad_22 10), .ref (ad_22 11), .int 0, .int 0, .ref (ad_22 12), .ref (ad_22 13), .ref (ad_22 14), .ref (ad_22 15), .ref (ad_22 16), .int 0, .int 0, .int 0, .ref (ad_22 17), .ref (ad_22 18), .ref (ad_22 19), .ref (ad_22 20), .ref (ad_22 21), .ref (ad_22 22), .int 0, .null, .null, .null, .null, .null, .int 0, .null, .null, .null, .null, .int 0, .null]) := by rw [ecu23, va_up_self]
  have hN_1 : cu23 1 = .inl (B.2.1 0, 40, .inl (nF (fun _ => 0))) := (congrFun ecu23 _).trans ((va_up_ne _ _ (by decide)).trans hN_1)
  have hN_2 : cu23 2 = .inl (B.2.1 0, 40, .inl (nF (fun _ => 0))) := (congrFun ecu23 _).trans ((va_up_ne _ _ (by decide)).trans hN_2)
  have hN_3 : cu23 3 = .inl (B.2.1 0, 40, .inl (nF (fun _ => 0))) := (congrFun ecu23 _).trans ((va_up_ne _ _ (by decide)).trans hN_3)
  have hN_4 : cu23 4 = .inl (B.2.1 0, 40, .inl (nF (fun _ => 0))) := (congrFun ecu23 _).trans ((va_up_ne _ _ (by decide)).trans hN_4)
  have hN_5 : cu23 5 = .inl (B.2.1 0, 25, .inl (nF (fun _ => 0))) := (congrFun ecu23 _).trans ((va_up_ne _ _ (by decide)).trans hN_5)
  have hN_6 : cu23 6 = .inl (B.2.1 0, 30, .inl (nF (fun _ => 0))) := (congrFun ecu23 _).trans ((va_up_ne _ _ (by decide)).trans hN_6)
  have hN_7 : cu23 7 = .inl (B.2.1 0, 2, .inl (nF (fun _ => 0))) := (congrFun ecu23 _).trans ((va_up_ne _ _ (by decide)).trans hN_7)
  have hN_8 : cu23 8 = .inl (B.2.1 0, 30, .inl (nF (fun _ => 0))) := (congrFun ecu23 _).trans ((va_up_ne _ _ (by decide)).trans hN_8)
  have hN_9 : cu23 9 = .inl (B.2.1 0, 160, .inl (nF (fun _ => 0))) := (congrFun ecu23 _).trans ((va_up_ne _ _ (by decide)).trans hN_9)
  have hN_10 : cu23 10 = .inl (B.2.1 0, 160, .inl (nF (fun _ => 0))) := (congrFun ecu23 _).trans ((va_up_ne _ _ (by decide)).trans hN_10)
  have hN_11 : cu23 11 = .inl (B.2.1 1, 60001, .inr (.inl (lF (fun _ => 0)))) := (congrFun ecu23 _).trans ((va_up_ne _ _ (by decide)).trans hN_11)
  have hN_12 : cu23 12 = .inl (B.2.1 0, 25, .inl (nF (fun _ => 0))) := (congrFun ecu23 _).trans ((va_up_ne _ _ (by decide)).trans hN_12)
  have hN_13 : cu23 13 = .inl (B.2.1 0, 25, .inl (nF (fun _ => 0))) := (congrFun ecu23 _).trans ((va_up_ne _ _ (by decide)).trans hN_13)
  have hN_14 : cu23 14 = .inl (B.2.1 0, 5, .inl (nF (fun _ => 0))) := (congrFun ecu23 _).trans ((va_up_ne _ _ (by decide)).trans hN_14)
  have hN_15 : cu23 15 = .inl (B.2.1 0, 5, .inl (nF (fun _ => 0))) := (congrFun ecu23 _).trans ((va_up_ne _ _ (by decide)).trans hN_15)
  have hN_16 : cu23 16 = .inl (B.2.1 2, 500000, .inl (nF (fun _ => 0))) := (congrFun ecu23 _).trans ((va_up_ne _ _ (by decide)).trans hN_16)
  have hN_17 : cu23 17 = .inl (B.2.1 2, 20000, .inl (nF (fun _ => 0))) := (congrFun ecu23 _).trans ((va_up_ne _ _ (by decide)).trans hN_17)
  have hN_18 : cu23 18 = .inl (B.2.1 0, 40, .inl (nF (fun _ => 0))) := (congrFun ecu23 _).trans ((va_up_ne _ _ (by decide)).trans hN_18)
  have hN_19 : cu23 19 = .inl (B.2.1 0, 40, .inl (nF (fun _ => 0))) := (congrFun ecu23 _).trans ((va_up_ne _ _ (by decide)).trans hN_19)
  have hN_20 : cu23 20 = .inl (B.2.1 0, 40, .inl (nF (fun _ => 0))) := (congrFun ecu23 _).trans ((va_up_ne _ _ (by decide)).trans hN_20)
  have hN_21 : cu23 21 = .inl (B.2.1 0, 40, .inl (nF (fun _ => 0))) := (congrFun ecu23 _).trans ((va_up_ne _ _ (by decide)).trans hN_21)
  have hN_22 : cu23 22 = .inl (B.2.1 0, 30, .inl (nF (fun _ => 0))) := (congrFun ecu23 _).trans ((va_up_ne _ _ (by decide)).trans hN_22)
  refine g_aload_n fx 0 dX12_init_185 rfl ?_
  refine g_bipush (v := nI 30) fx dX12_init_186 (by decide +kernel) ?_
  refine g_newi (N := 30) fx (nI_toInt (by omega)) (by omega) ⟨by dsimp only; omega, by dsimp only; omega⟩ dX12_init_188 (fun ad_23 ct_23 hA_23 hC_23 hN_23 => ?_)
  refine g_same (L' := [(0, .ref (ad_23 0))]) (st' := [.ref (ad_23 23), .ref (ad_23 0)]) (by rw [hA_23 0 (by decide)]) (by rw [hA_23 0 (by decide)]) ?_
  have ho : ct_23 0 = .inr (12, [.ref (ad_23 1), .ref (ad_23 2), .ref (ad_23 3), .ref (ad_23 4), .int 0, .int 0, .ref (ad_23 5), .int 0, .ref (ad_23 6), .ref (ad_23 7), .ref (ad_23 8), .int 0, .int (-1), .int 0, .int 0, .ref (ad_23 9), .ref (ad_23 10), .ref (ad_23 11), .int 0, .int 0, .ref (ad_23 12), .ref (ad_23 13), .ref (ad_23 14), .ref (ad_23 15), .ref (ad_23 16), .int 0, .int 0, .int 0, .ref (ad_23 17), .ref (ad_23 18), .ref (ad_23 19), .ref (ad_23 20), .ref (ad_23 21), .ref (ad_23 22), .int 0, .null, .null, .null, .null, .null, .int 0, .null, .null, .null, .null, .int 0, .null]) := (hC_23 0 (by decide)).trans (ho.trans (by rw [hA_23 1 (by decide), hA_23 2 (by decide), hA_23 3 (by decide), hA_23 4 (by decide), hA_23 5 (by decide), hA_23 6 (by decide), hA_23 7 (by decide), hA_23 8 (by decide), hA_23 9 (by decide), hA_23 10 (by decide), hA_23 11 (by decide), hA_23 12 (by decide), hA_23 13 (by decide), hA_23 14 (by decide), hA_23 15 (by decide), hA_23 16 (by decide), hA_23 17 (by decide), hA_23 18 (by decide), hA_23 19 (by decide), hA_23 20 (by decide), hA_23 21 (by decide), hA_23 22 (by decide)]))
  have hN_1 : ct_23 1 = .inl (B.2.1 0, 40, .inl (nF (fun _ => 0))) := (hC_23 1 (by decide)).trans hN_1
  have hN_2 : ct_23 2 = .inl (B.2.1 0, 40, .inl (nF (fun _ => 0))) := (hC_23 2 (by decide)).trans hN_2
  have hN_3 : ct_23 3 = .inl (B.2.1 0, 40, .inl (nF (fun _ => 0))) := (hC_23 3 (by decide)).trans hN_3
  have hN_4 : ct_23 4 = .inl (B.2.1 0, 40, .inl (nF (fun _ => 0))) := (hC_23 4 (by decide)).trans hN_4
  have hN_5 : ct_23 5 = .inl (B.2.1 0, 25, .inl (nF (fun _ => 0))) := (hC_23 5 (by decide)).trans hN_5
  have hN_6 : ct_23 6 = .inl (B.2.1 0, 30, .inl (nF (fun _ => 0))) := (hC_23 6 (by decide)).trans hN_6
  have hN_7 : ct_23 7 = .inl (B.2.1 0, 2, .inl (nF (fun _ => 0))) := (hC_23 7 (by decide)).trans hN_7
  have hN_8 : ct_23 8 = .inl (B.2.1 0, 30, .inl (nF (fun _ => 0))) := (hC_23 8 (by decide)).trans hN_8
  have hN_9 : ct_23 9 = .inl (B.2.1 0, 160, .inl (nF (fun _ => 0))) := (hC_23 9 (by decide)).trans hN_9
  have hN_10 : ct_23 10 = .inl (B.2.1 0, 160, .inl (nF (fun _ => 0))) := (hC_23 10 (by decide)).trans hN_10
  have hN_11 : ct_23 11 = .inl (B.2.1 1, 60001, .inr (.inl (lF (fun _ => 0)))) := (hC_23 11 (by decide)).trans hN_11
  have hN_12 : ct_23 12 = .inl (B.2.1 0, 25, .inl (nF (fun _ => 0))) := (hC_23 12 (by decide)).trans hN_12
  have hN_13 : ct_23 13 = .inl (B.2.1 0, 25, .inl (nF (fun _ => 0))) := (hC_23 13 (by decide)).trans hN_13
  have hN_14 : ct_23 14 = .inl (B.2.1 0, 5, .inl (nF (fun _ => 0))) := (hC_23 14 (by decide)).trans hN_14
  have hN_15 : ct_23 15 = .inl (B.2.1 0, 5, .inl (nF (fun _ => 0))) := (hC_23 15 (by decide)).trans hN_15
  have hN_16 : ct_23 16 = .inl (B.2.1 2, 500000, .inl (nF (fun _ => 0))) := (hC_23 16 (by decide)).trans hN_16
  have hN_17 : ct_23 17 = .inl (B.2.1 2, 20000, .inl (nF (fun _ => 0))) := (hC_23 17 (by decide)).trans hN_17
  have hN_18 : ct_23 18 = .inl (B.2.1 0, 40, .inl (nF (fun _ => 0))) := (hC_23 18 (by decide)).trans hN_18
  have hN_19 : ct_23 19 = .inl (B.2.1 0, 40, .inl (nF (fun _ => 0))) := (hC_23 19 (by decide)).trans hN_19
  have hN_20 : ct_23 20 = .inl (B.2.1 0, 40, .inl (nF (fun _ => 0))) := (hC_23 20 (by decide)).trans hN_20
  have hN_21 : ct_23 21 = .inl (B.2.1 0, 40, .inl (nF (fun _ => 0))) := (hC_23 21 (by decide)).trans hN_21
  have hN_22 : ct_23 22 = .inl (B.2.1 0, 30, .inl (nF (fun _ => 0))) := (hC_23 22 (by decide)).trans hN_22
  have hfra : ∀ r, r < 1 → ad_23 r = ad r := fun r hp => (hA_23 r (by omega)).trans (hfra r hp)
  refine g_putF (r := 0) (fs' := [.ref (ad_23 1), .ref (ad_23 2), .ref (ad_23 3), .ref (ad_23 4), .int 0, .int 0, .ref (ad_23 5), .int 0, .ref (ad_23 6), .ref (ad_23 7), .ref (ad_23 8), .int 0, .int (-1), .int 0, .int 0, .ref (ad_23 9), .ref (ad_23 10), .ref (ad_23 11), .int 0, .int 0, .ref (ad_23 12), .ref (ad_23 13), .ref (ad_23 14), .ref (ad_23 15), .ref (ad_23 16), .int 0, .int 0, .int 0, .ref (ad_23 17), .ref (ad_23 18), .ref (ad_23 19), .ref (ad_23 20), .ref (ad_23 21), .ref (ad_23 22), .int 0, .ref (ad_23 23), .null, .null, .null, .null, .int 0, .null, .null, .null, .null, .int 0, .null]) fx hnm lpX12_84 (by decide) ho rfl rfl (Nat.le_of_ble_eq_true rfl) rfl dX12_init_190 (fun cu24 ecu24 => ?_)
  have ho : cu24 0 = .inr (12, [.ref (ad_23 1), .ref (ad_23 2), .ref (ad_23 3), .ref (ad_23 4), .int 0, .int 0, .ref (ad_23 5), .int 0, .ref (ad_23 6), .ref (ad_23 7), .ref (ad_23 8), .int 0, .int (-1), .int 0, .int 0, .ref (ad_23 9), .ref (ad_23 10), .ref (ad_23 11), .int 0, .int 0, .ref (ad_23 12), .ref (ad_23 13), .ref (ad_23 14), .ref (ad_23 15), .ref (ad_23 16), .int 0, .int 0, .int 0, .ref (ad_23 17), .ref (ad_23 18), .ref (ad_23 19), .ref (ad_23 20), .ref (ad_23 21), .ref (ad_23 22), .int 0, .ref (ad_23 23), .null, .null, .null, .null, .int 0, .null, .null, .null, .null, .int 0, .null]) := by rw [ecu24, va_up_self]
  have hN_1 : cu24 1 = .inl (B.2.1 0, 40, .inl (nF (fun _ => 0))) := (congrFun ecu24 _).trans ((va_up_ne _ _ (by decide)).trans hN_1)
  have hN_2 : cu24 2 = .inl (B.2.1 0, 40, .inl (nF (fun _ => 0))) := (congrFun ecu24 _).trans ((va_up_ne _ _ (by decide)).trans hN_2)
  have hN_3 : cu24 3 = .inl (B.2.1 0, 40, .inl (nF (fun _ => 0))) := (congrFun ecu24 _).trans ((va_up_ne _ _ (by decide)).trans hN_3)
  have hN_4 : cu24 4 = .inl (B.2.1 0, 40, .inl (nF (fun _ => 0))) := (congrFun ecu24 _).trans ((va_up_ne _ _ (by decide)).trans hN_4)
  have hN_5 : cu24 5 = .inl (B.2.1 0, 25, .inl (nF (fun _ => 0))) := (congrFun ecu24 _).trans ((va_up_ne _ _ (by decide)).trans hN_5)
  have hN_6 : cu24 6 = .inl (B.2.1 0, 30, .inl (nF (fun _ => 0))) := (congrFun ecu24 _).trans ((va_up_ne _ _ (by decide)).trans hN_6)
  have hN_7 : cu24 7 = .inl (B.2.1 0, 2, .inl (nF (fun _ => 0))) := (congrFun ecu24 _).trans ((va_up_ne _ _ (by decide)).trans hN_7)
  have hN_8 : cu24 8 = .inl (B.2.1 0, 30, .inl (nF (fun _ => 0))) := (congrFun ecu24 _).trans ((va_up_ne _ _ (by decide)).trans hN_8)
  have hN_9 : cu24 9 = .inl (B.2.1 0, 160, .inl (nF (fun _ => 0))) := (congrFun ecu24 _).trans ((va_up_ne _ _ (by decide)).trans hN_9)
  have hN_10 : cu24 10 = .inl (B.2.1 0, 160, .inl (nF (fun _ => 0))) := (congrFun ecu24 _).trans ((va_up_ne _ _ (by decide)).trans hN_10)
  have hN_11 : cu24 11 = .inl (B.2.1 1, 60001, .inr (.inl (lF (fun _ => 0)))) := (congrFun ecu24 _).trans ((va_up_ne _ _ (by decide)).trans hN_11)
  have hN_12 : cu24 12 = .inl (B.2.1 0, 25, .inl (nF (fun _ => 0))) := (congrFun ecu24 _).trans ((va_up_ne _ _ (by decide)).trans hN_12)
  have hN_13 : cu24 13 = .inl (B.2.1 0, 25, .inl (nF (fun _ => 0))) := (congrFun ecu24 _).trans ((va_up_ne _ _ (by decide)).trans hN_13)
  have hN_14 : cu24 14 = .inl (B.2.1 0, 5, .inl (nF (fun _ => 0))) := (congrFun ecu24 _).trans ((va_up_ne _ _ (by decide)).trans hN_14)
  have hN_15 : cu24 15 = .inl (B.2.1 0, 5, .inl (nF (fun _ => 0))) := (congrFun ecu24 _).trans ((va_up_ne _ _ (by decide)).trans hN_15)
  have hN_16 : cu24 16 = .inl (B.2.1 2, 500000, .inl (nF (fun _ => 0))) := (congrFun ecu24 _).trans ((va_up_ne _ _ (by decide)).trans hN_16)
  have hN_17 : cu24 17 = .inl (B.2.1 2, 20000, .inl (nF (fun _ => 0))) := (congrFun ecu24 _).trans ((va_up_ne _ _ (by decide)).trans hN_17)
  have hN_18 : cu24 18 = .inl (B.2.1 0, 40, .inl (nF (fun _ => 0))) := (congrFun ecu24 _).trans ((va_up_ne _ _ (by decide)).trans hN_18)
  have hN_19 : cu24 19 = .inl (B.2.1 0, 40, .inl (nF (fun _ => 0))) := (congrFun ecu24 _).trans ((va_up_ne _ _ (by decide)).trans hN_19)
  have hN_20 : cu24 20 = .inl (B.2.1 0, 40, .inl (nF (fun _ => 0))) := (congrFun ecu24 _).trans ((va_up_ne _ _ (by decide)).trans hN_20)
  have hN_21 : cu24 21 = .inl (B.2.1 0, 40, .inl (nF (fun _ => 0))) := (congrFun ecu24 _).trans ((va_up_ne _ _ (by decide)).trans hN_21)
  have hN_22 : cu24 22 = .inl (B.2.1 0, 30, .inl (nF (fun _ => 0))) := (congrFun ecu24 _).trans ((va_up_ne _ _ (by decide)).trans hN_22)
  have hN_23 : cu24 23 = .inl (B.2.1 0, 30, .inl (nF (fun _ => 0))) := (congrFun ecu24 _).trans ((va_up_ne _ _ (by decide)).trans hN_23)
  refine g_aload_n fx 0 dX12_init_193 rfl ?_
  refine g_ldc fx kcX12_87 dX12_init_194 ?_
  refine g_isi (y := nI 480016) (by decide) ?_
  refine g_newl (N := 480016) fx (nI_toInt (by omega)) (by omega) ⟨by dsimp only; omega, by dsimp only; omega⟩ dX12_init_196 (fun ad_24 ct_24 hA_24 hC_24 hN_24 => ?_)
  refine g_same (L' := [(0, .ref (ad_24 0))]) (st' := [.ref (ad_24 24), .ref (ad_24 0)]) (by rw [hA_24 0 (by decide)]) (by rw [hA_24 0 (by decide)]) ?_
  have ho : ct_24 0 = .inr (12, [.ref (ad_24 1), .ref (ad_24 2), .ref (ad_24 3), .ref (ad_24 4), .int 0, .int 0, .ref (ad_24 5), .int 0, .ref (ad_24 6), .ref (ad_24 7), .ref (ad_24 8), .int 0, .int (-1), .int 0, .int 0, .ref (ad_24 9), .ref (ad_24 10), .ref (ad_24 11), .int 0, .int 0, .ref (ad_24 12), .ref (ad_24 13), .ref (ad_24 14), .ref (ad_24 15), .ref (ad_24 16), .int 0, .int 0, .int 0, .ref (ad_24 17), .ref (ad_24 18), .ref (ad_24 19), .ref (ad_24 20), .ref (ad_24 21), .ref (ad_24 22), .int 0, .ref (ad_24 23), .null, .null, .null, .null, .int 0, .null, .null, .null, .null, .int 0, .null]) := (hC_24 0 (by decide)).trans (ho.trans (by rw [hA_24 1 (by decide), hA_24 2 (by decide), hA_24 3 (by decide), hA_24 4 (by decide), hA_24 5 (by decide), hA_24 6 (by decide), hA_24 7 (by decide), hA_24 8 (by decide), hA_24 9 (by decide), hA_24 10 (by decide), hA_24 11 (by decide), hA_24 12 (by decide), hA_24 13 (by decide), hA_24 14 (by decide), hA_24 15 (by decide), hA_24 16 (by decide), hA_24 17 (by decide), hA_24 18 (by decide), hA_24 19 (by decide), hA_24 20 (by decide), hA_24 21 (by decide), hA_24 22 (by decide), hA_24 23 (by decide)]))
  have hN_1 : ct_24 1 = .inl (B.2.1 0, 40, .inl (nF (fun _ => 0))) := (hC_24 1 (by decide)).trans hN_1
  have hN_2 : ct_24 2 = .inl (B.2.1 0, 40, .inl (nF (fun _ => 0))) := (hC_24 2 (by decide)).trans hN_2
  have hN_3 : ct_24 3 = .inl (B.2.1 0, 40, .inl (nF (fun _ => 0))) := (hC_24 3 (by decide)).trans hN_3
  have hN_4 : ct_24 4 = .inl (B.2.1 0, 40, .inl (nF (fun _ => 0))) := (hC_24 4 (by decide)).trans hN_4
  have hN_5 : ct_24 5 = .inl (B.2.1 0, 25, .inl (nF (fun _ => 0))) := (hC_24 5 (by decide)).trans hN_5
  have hN_6 : ct_24 6 = .inl (B.2.1 0, 30, .inl (nF (fun _ => 0))) := (hC_24 6 (by decide)).trans hN_6
  have hN_7 : ct_24 7 = .inl (B.2.1 0, 2, .inl (nF (fun _ => 0))) := (hC_24 7 (by decide)).trans hN_7
  have hN_8 : ct_24 8 = .inl (B.2.1 0, 30, .inl (nF (fun _ => 0))) := (hC_24 8 (by decide)).trans hN_8
  have hN_9 : ct_24 9 = .inl (B.2.1 0, 160, .inl (nF (fun _ => 0))) := (hC_24 9 (by decide)).trans hN_9
  have hN_10 : ct_24 10 = .inl (B.2.1 0, 160, .inl (nF (fun _ => 0))) := (hC_24 10 (by decide)).trans hN_10
  have hN_11 : ct_24 11 = .inl (B.2.1 1, 60001, .inr (.inl (lF (fun _ => 0)))) := (hC_24 11 (by decide)).trans hN_11
  have hN_12 : ct_24 12 = .inl (B.2.1 0, 25, .inl (nF (fun _ => 0))) := (hC_24 12 (by decide)).trans hN_12
  have hN_13 : ct_24 13 = .inl (B.2.1 0, 25, .inl (nF (fun _ => 0))) := (hC_24 13 (by decide)).trans hN_13
  have hN_14 : ct_24 14 = .inl (B.2.1 0, 5, .inl (nF (fun _ => 0))) := (hC_24 14 (by decide)).trans hN_14
  have hN_15 : ct_24 15 = .inl (B.2.1 0, 5, .inl (nF (fun _ => 0))) := (hC_24 15 (by decide)).trans hN_15
  have hN_16 : ct_24 16 = .inl (B.2.1 2, 500000, .inl (nF (fun _ => 0))) := (hC_24 16 (by decide)).trans hN_16
  have hN_17 : ct_24 17 = .inl (B.2.1 2, 20000, .inl (nF (fun _ => 0))) := (hC_24 17 (by decide)).trans hN_17
  have hN_18 : ct_24 18 = .inl (B.2.1 0, 40, .inl (nF (fun _ => 0))) := (hC_24 18 (by decide)).trans hN_18
  have hN_19 : ct_24 19 = .inl (B.2.1 0, 40, .inl (nF (fun _ => 0))) := (hC_24 19 (by decide)).trans hN_19
  have hN_20 : ct_24 20 = .inl (B.2.1 0, 40, .inl (nF (fun _ => 0))) := (hC_24 20 (by decide)).trans hN_20
  have hN_21 : ct_24 21 = .inl (B.2.1 0, 40, .inl (nF (fun _ => 0))) := (hC_24 21 (by decide)).trans hN_21
  have hN_22 : ct_24 22 = .inl (B.2.1 0, 30, .inl (nF (fun _ => 0))) := (hC_24 22 (by decide)).trans hN_22
  have hN_23 : ct_24 23 = .inl (B.2.1 0, 30, .inl (nF (fun _ => 0))) := (hC_24 23 (by decide)).trans hN_23
  have hfra : ∀ r, r < 1 → ad_24 r = ad r := fun r hp => (hA_24 r (by omega)).trans (hfra r hp)
  refine g_putF (r := 0) (fs' := [.ref (ad_24 1), .ref (ad_24 2), .ref (ad_24 3), .ref (ad_24 4), .int 0, .int 0, .ref (ad_24 5), .int 0, .ref (ad_24 6), .ref (ad_24 7), .ref (ad_24 8), .int 0, .int (-1), .int 0, .int 0, .ref (ad_24 9), .ref (ad_24 10), .ref (ad_24 11), .int 0, .int 0, .ref (ad_24 12), .ref (ad_24 13), .ref (ad_24 14), .ref (ad_24 15), .ref (ad_24 16), .int 0, .int 0, .int 0, .ref (ad_24 17), .ref (ad_24 18), .ref (ad_24 19), .ref (ad_24 20), .ref (ad_24 21), .ref (ad_24 22), .int 0, .ref (ad_24 23), .ref (ad_24 24), .null, .null, .null, .int 0, .null, .null, .null, .null, .int 0, .null]) fx hnm lpX12_88 (by decide) ho rfl rfl (Nat.le_of_ble_eq_true rfl) rfl dX12_init_198 (fun cu25 ecu25 => ?_)
  have ho : cu25 0 = .inr (12, [.ref (ad_24 1), .ref (ad_24 2), .ref (ad_24 3), .ref (ad_24 4), .int 0, .int 0, .ref (ad_24 5), .int 0, .ref (ad_24 6), .ref (ad_24 7), .ref (ad_24 8), .int 0, .int (-1), .int 0, .int 0, .ref (ad_24 9), .ref (ad_24 10), .ref (ad_24 11), .int 0, .int 0, .ref (ad_24 12), .ref (ad_24 13), .ref (ad_24 14), .ref (ad_24 15), .ref (ad_24 16), .int 0, .int 0, .int 0, .ref (ad_24 17), .ref (ad_24 18), .ref (ad_24 19), .ref (ad_24 20), .ref (ad_24 21), .ref (ad_24 22), .int 0, .ref (ad_24 23), .ref (ad_24 24), .null, .null, .null, .int 0, .null, .null, .null, .null, .int 0, .null]) := by rw [ecu25, va_up_self]
  have hN_1 : cu25 1 = .inl (B.2.1 0, 40, .inl (nF (fun _ => 0))) := (congrFun ecu25 _).trans ((va_up_ne _ _ (by decide)).trans hN_1)
  have hN_2 : cu25 2 = .inl (B.2.1 0, 40, .inl (nF (fun _ => 0))) := (congrFun ecu25 _).trans ((va_up_ne _ _ (by decide)).trans hN_2)
  have hN_3 : cu25 3 = .inl (B.2.1 0, 40, .inl (nF (fun _ => 0))) := (congrFun ecu25 _).trans ((va_up_ne _ _ (by decide)).trans hN_3)
  have hN_4 : cu25 4 = .inl (B.2.1 0, 40, .inl (nF (fun _ => 0))) := (congrFun ecu25 _).trans ((va_up_ne _ _ (by decide)).trans hN_4)
  have hN_5 : cu25 5 = .inl (B.2.1 0, 25, .inl (nF (fun _ => 0))) := (congrFun ecu25 _).trans ((va_up_ne _ _ (by decide)).trans hN_5)
  have hN_6 : cu25 6 = .inl (B.2.1 0, 30, .inl (nF (fun _ => 0))) := (congrFun ecu25 _).trans ((va_up_ne _ _ (by decide)).trans hN_6)
  have hN_7 : cu25 7 = .inl (B.2.1 0, 2, .inl (nF (fun _ => 0))) := (congrFun ecu25 _).trans ((va_up_ne _ _ (by decide)).trans hN_7)
  have hN_8 : cu25 8 = .inl (B.2.1 0, 30, .inl (nF (fun _ => 0))) := (congrFun ecu25 _).trans ((va_up_ne _ _ (by decide)).trans hN_8)
  have hN_9 : cu25 9 = .inl (B.2.1 0, 160, .inl (nF (fun _ => 0))) := (congrFun ecu25 _).trans ((va_up_ne _ _ (by decide)).trans hN_9)
  have hN_10 : cu25 10 = .inl (B.2.1 0, 160, .inl (nF (fun _ => 0))) := (congrFun ecu25 _).trans ((va_up_ne _ _ (by decide)).trans hN_10)
  have hN_11 : cu25 11 = .inl (B.2.1 1, 60001, .inr (.inl (lF (fun _ => 0)))) := (congrFun ecu25 _).trans ((va_up_ne _ _ (by decide)).trans hN_11)
  have hN_12 : cu25 12 = .inl (B.2.1 0, 25, .inl (nF (fun _ => 0))) := (congrFun ecu25 _).trans ((va_up_ne _ _ (by decide)).trans hN_12)
  have hN_13 : cu25 13 = .inl (B.2.1 0, 25, .inl (nF (fun _ => 0))) := (congrFun ecu25 _).trans ((va_up_ne _ _ (by decide)).trans hN_13)
  have hN_14 : cu25 14 = .inl (B.2.1 0, 5, .inl (nF (fun _ => 0))) := (congrFun ecu25 _).trans ((va_up_ne _ _ (by decide)).trans hN_14)
  have hN_15 : cu25 15 = .inl (B.2.1 0, 5, .inl (nF (fun _ => 0))) := (congrFun ecu25 _).trans ((va_up_ne _ _ (by decide)).trans hN_15)
  have hN_16 : cu25 16 = .inl (B.2.1 2, 500000, .inl (nF (fun _ => 0))) := (congrFun ecu25 _).trans ((va_up_ne _ _ (by decide)).trans hN_16)
  have hN_17 : cu25 17 = .inl (B.2.1 2, 20000, .inl (nF (fun _ => 0))) := (congrFun ecu25 _).trans ((va_up_ne _ _ (by decide)).trans hN_17)
  have hN_18 : cu25 18 = .inl (B.2.1 0, 40, .inl (nF (fun _ => 0))) := (congrFun ecu25 _).trans ((va_up_ne _ _ (by decide)).trans hN_18)
  have hN_19 : cu25 19 = .inl (B.2.1 0, 40, .inl (nF (fun _ => 0))) := (congrFun ecu25 _).trans ((va_up_ne _ _ (by decide)).trans hN_19)
  have hN_20 : cu25 20 = .inl (B.2.1 0, 40, .inl (nF (fun _ => 0))) := (congrFun ecu25 _).trans ((va_up_ne _ _ (by decide)).trans hN_20)
  have hN_21 : cu25 21 = .inl (B.2.1 0, 40, .inl (nF (fun _ => 0))) := (congrFun ecu25 _).trans ((va_up_ne _ _ (by decide)).trans hN_21)
  have hN_22 : cu25 22 = .inl (B.2.1 0, 30, .inl (nF (fun _ => 0))) := (congrFun ecu25 _).trans ((va_up_ne _ _ (by decide)).trans hN_22)
  have hN_23 : cu25 23 = .inl (B.2.1 0, 30, .inl (nF (fun _ => 0))) := (congrFun ecu25 _).trans ((va_up_ne _ _ (by decide)).trans hN_23)
  have hN_24 : cu25 24 = .inl (B.2.1 1, 480016, .inr (.inl (lF (fun _ => 0)))) := (congrFun ecu25 _).trans ((va_up_ne _ _ (by decide)).trans hN_24)
  refine g_aload_n fx 0 dX12_init_201 rfl ?_
  refine g_bipush (v := nI 40) fx dX12_init_202 (by decide +kernel) ?_
  refine g_newi (N := 40) fx (nI_toInt (by omega)) (by omega) ⟨by dsimp only; omega, by dsimp only; omega⟩ dX12_init_204 (fun ad_25 ct_25 hA_25 hC_25 hN_25 => ?_)
  refine g_same (L' := [(0, .ref (ad_25 0))]) (st' := [.ref (ad_25 25), .ref (ad_25 0)]) (by rw [hA_25 0 (by decide)]) (by rw [hA_25 0 (by decide)]) ?_
  have ho : ct_25 0 = .inr (12, [.ref (ad_25 1), .ref (ad_25 2), .ref (ad_25 3), .ref (ad_25 4), .int 0, .int 0, .ref (ad_25 5), .int 0, .ref (ad_25 6), .ref (ad_25 7), .ref (ad_25 8), .int 0, .int (-1), .int 0, .int 0, .ref (ad_25 9), .ref (ad_25 10), .ref (ad_25 11), .int 0, .int 0, .ref (ad_25 12), .ref (ad_25 13), .ref (ad_25 14), .ref (ad_25 15), .ref (ad_25 16), .int 0, .int 0, .int 0, .ref (ad_25 17), .ref (ad_25 18), .ref (ad_25 19), .ref (ad_25 20), .ref (ad_25 21), .ref (ad_25 22), .int 0, .ref (ad_25 23), .ref (ad_25 24), .null, .null, .null, .int 0, .null, .null, .null, .null, .int 0, .null]) := (hC_25 0 (by decide)).trans (ho.trans (by rw [hA_25 1 (by decide), hA_25 2 (by decide), hA_25 3 (by decide), hA_25 4 (by decide), hA_25 5 (by decide), hA_25 6 (by decide), hA_25 7 (by decide), hA_25 8 (by decide), hA_25 9 (by decide), hA_25 10 (by decide), hA_25 11 (by decide), hA_25 12 (by decide), hA_25 13 (by decide), hA_25 14 (by decide), hA_25 15 (by decide), hA_25 16 (by decide), hA_25 17 (by decide), hA_25 18 (by decide), hA_25 19 (by decide), hA_25 20 (by decide), hA_25 21 (by decide), hA_25 22 (by decide), hA_25 23 (by decide), hA_25 24 (by decide)]))
  have hN_1 : ct_25 1 = .inl (B.2.1 0, 40, .inl (nF (fun _ => 0))) := (hC_25 1 (by decide)).trans hN_1
  have hN_2 : ct_25 2 = .inl (B.2.1 0, 40, .inl (nF (fun _ => 0))) := (hC_25 2 (by decide)).trans hN_2
  have hN_3 : ct_25 3 = .inl (B.2.1 0, 40, .inl (nF (fun _ => 0))) := (hC_25 3 (by decide)).trans hN_3
  have hN_4 : ct_25 4 = .inl (B.2.1 0, 40, .inl (nF (fun _ => 0))) := (hC_25 4 (by decide)).trans hN_4
  have hN_5 : ct_25 5 = .inl (B.2.1 0, 25, .inl (nF (fun _ => 0))) := (hC_25 5 (by decide)).trans hN_5
  have hN_6 : ct_25 6 = .inl (B.2.1 0, 30, .inl (nF (fun _ => 0))) := (hC_25 6 (by decide)).trans hN_6
  have hN_7 : ct_25 7 = .inl (B.2.1 0, 2, .inl (nF (fun _ => 0))) := (hC_25 7 (by decide)).trans hN_7
  have hN_8 : ct_25 8 = .inl (B.2.1 0, 30, .inl (nF (fun _ => 0))) := (hC_25 8 (by decide)).trans hN_8
  have hN_9 : ct_25 9 = .inl (B.2.1 0, 160, .inl (nF (fun _ => 0))) := (hC_25 9 (by decide)).trans hN_9
  have hN_10 : ct_25 10 = .inl (B.2.1 0, 160, .inl (nF (fun _ => 0))) := (hC_25 10 (by decide)).trans hN_10
  have hN_11 : ct_25 11 = .inl (B.2.1 1, 60001, .inr (.inl (lF (fun _ => 0)))) := (hC_25 11 (by decide)).trans hN_11
  have hN_12 : ct_25 12 = .inl (B.2.1 0, 25, .inl (nF (fun _ => 0))) := (hC_25 12 (by decide)).trans hN_12
  have hN_13 : ct_25 13 = .inl (B.2.1 0, 25, .inl (nF (fun _ => 0))) := (hC_25 13 (by decide)).trans hN_13
  have hN_14 : ct_25 14 = .inl (B.2.1 0, 5, .inl (nF (fun _ => 0))) := (hC_25 14 (by decide)).trans hN_14
  have hN_15 : ct_25 15 = .inl (B.2.1 0, 5, .inl (nF (fun _ => 0))) := (hC_25 15 (by decide)).trans hN_15
  have hN_16 : ct_25 16 = .inl (B.2.1 2, 500000, .inl (nF (fun _ => 0))) := (hC_25 16 (by decide)).trans hN_16
  have hN_17 : ct_25 17 = .inl (B.2.1 2, 20000, .inl (nF (fun _ => 0))) := (hC_25 17 (by decide)).trans hN_17
  have hN_18 : ct_25 18 = .inl (B.2.1 0, 40, .inl (nF (fun _ => 0))) := (hC_25 18 (by decide)).trans hN_18
  have hN_19 : ct_25 19 = .inl (B.2.1 0, 40, .inl (nF (fun _ => 0))) := (hC_25 19 (by decide)).trans hN_19
  have hN_20 : ct_25 20 = .inl (B.2.1 0, 40, .inl (nF (fun _ => 0))) := (hC_25 20 (by decide)).trans hN_20
  have hN_21 : ct_25 21 = .inl (B.2.1 0, 40, .inl (nF (fun _ => 0))) := (hC_25 21 (by decide)).trans hN_21
  have hN_22 : ct_25 22 = .inl (B.2.1 0, 30, .inl (nF (fun _ => 0))) := (hC_25 22 (by decide)).trans hN_22
  have hN_23 : ct_25 23 = .inl (B.2.1 0, 30, .inl (nF (fun _ => 0))) := (hC_25 23 (by decide)).trans hN_23
  have hN_24 : ct_25 24 = .inl (B.2.1 1, 480016, .inr (.inl (lF (fun _ => 0)))) := (hC_25 24 (by decide)).trans hN_24
  have hfra : ∀ r, r < 1 → ad_25 r = ad r := fun r hp => (hA_25 r (by omega)).trans (hfra r hp)
  refine g_putF (r := 0) (fs' := [.ref (ad_25 1), .ref (ad_25 2), .ref (ad_25 3), .ref (ad_25 4), .int 0, .int 0, .ref (ad_25 5), .int 0, .ref (ad_25 6), .ref (ad_25 7), .ref (ad_25 8), .int 0, .int (-1), .int 0, .int 0, .ref (ad_25 9), .ref (ad_25 10), .ref (ad_25 11), .int 0, .int 0, .ref (ad_25 12), .ref (ad_25 13), .ref (ad_25 14), .ref (ad_25 15), .ref (ad_25 16), .int 0, .int 0, .int 0, .ref (ad_25 17), .ref (ad_25 18), .ref (ad_25 19), .ref (ad_25 20), .ref (ad_25 21), .ref (ad_25 22), .int 0, .ref (ad_25 23), .ref (ad_25 24), .ref (ad_25 25), .null, .null, .int 0, .null, .null, .null, .null, .int 0, .null]) fx hnm lpX12_91 (by decide) ho rfl rfl (Nat.le_of_ble_eq_true rfl) rfl dX12_init_206 (fun cu26 ecu26 => ?_)
  have ho : cu26 0 = .inr (12, [.ref (ad_25 1), .ref (ad_25 2), .ref (ad_25 3), .ref (ad_25 4), .int 0, .int 0, .ref (ad_25 5), .int 0, .ref (ad_25 6), .ref (ad_25 7), .ref (ad_25 8), .int 0, .int (-1), .int 0, .int 0, .ref (ad_25 9), .ref (ad_25 10), .ref (ad_25 11), .int 0, .int 0, .ref (ad_25 12), .ref (ad_25 13), .ref (ad_25 14), .ref (ad_25 15), .ref (ad_25 16), .int 0, .int 0, .int 0, .ref (ad_25 17), .ref (ad_25 18), .ref (ad_25 19), .ref (ad_25 20), .ref (ad_25 21), .ref (ad_25 22), .int 0, .ref (ad_25 23), .ref (ad_25 24), .ref (ad_25 25), .null, .null, .int 0, .null, .null, .null, .null, .int 0, .null]) := by rw [ecu26, va_up_self]
  have hN_1 : cu26 1 = .inl (B.2.1 0, 40, .inl (nF (fun _ => 0))) := (congrFun ecu26 _).trans ((va_up_ne _ _ (by decide)).trans hN_1)
  have hN_2 : cu26 2 = .inl (B.2.1 0, 40, .inl (nF (fun _ => 0))) := (congrFun ecu26 _).trans ((va_up_ne _ _ (by decide)).trans hN_2)
  have hN_3 : cu26 3 = .inl (B.2.1 0, 40, .inl (nF (fun _ => 0))) := (congrFun ecu26 _).trans ((va_up_ne _ _ (by decide)).trans hN_3)
  have hN_4 : cu26 4 = .inl (B.2.1 0, 40, .inl (nF (fun _ => 0))) := (congrFun ecu26 _).trans ((va_up_ne _ _ (by decide)).trans hN_4)
  have hN_5 : cu26 5 = .inl (B.2.1 0, 25, .inl (nF (fun _ => 0))) := (congrFun ecu26 _).trans ((va_up_ne _ _ (by decide)).trans hN_5)
  have hN_6 : cu26 6 = .inl (B.2.1 0, 30, .inl (nF (fun _ => 0))) := (congrFun ecu26 _).trans ((va_up_ne _ _ (by decide)).trans hN_6)
  have hN_7 : cu26 7 = .inl (B.2.1 0, 2, .inl (nF (fun _ => 0))) := (congrFun ecu26 _).trans ((va_up_ne _ _ (by decide)).trans hN_7)
  have hN_8 : cu26 8 = .inl (B.2.1 0, 30, .inl (nF (fun _ => 0))) := (congrFun ecu26 _).trans ((va_up_ne _ _ (by decide)).trans hN_8)
  have hN_9 : cu26 9 = .inl (B.2.1 0, 160, .inl (nF (fun _ => 0))) := (congrFun ecu26 _).trans ((va_up_ne _ _ (by decide)).trans hN_9)
  have hN_10 : cu26 10 = .inl (B.2.1 0, 160, .inl (nF (fun _ => 0))) := (congrFun ecu26 _).trans ((va_up_ne _ _ (by decide)).trans hN_10)
  have hN_11 : cu26 11 = .inl (B.2.1 1, 60001, .inr (.inl (lF (fun _ => 0)))) := (congrFun ecu26 _).trans ((va_up_ne _ _ (by decide)).trans hN_11)
  have hN_12 : cu26 12 = .inl (B.2.1 0, 25, .inl (nF (fun _ => 0))) := (congrFun ecu26 _).trans ((va_up_ne _ _ (by decide)).trans hN_12)
  have hN_13 : cu26 13 = .inl (B.2.1 0, 25, .inl (nF (fun _ => 0))) := (congrFun ecu26 _).trans ((va_up_ne _ _ (by decide)).trans hN_13)
  have hN_14 : cu26 14 = .inl (B.2.1 0, 5, .inl (nF (fun _ => 0))) := (congrFun ecu26 _).trans ((va_up_ne _ _ (by decide)).trans hN_14)
  have hN_15 : cu26 15 = .inl (B.2.1 0, 5, .inl (nF (fun _ => 0))) := (congrFun ecu26 _).trans ((va_up_ne _ _ (by decide)).trans hN_15)
  have hN_16 : cu26 16 = .inl (B.2.1 2, 500000, .inl (nF (fun _ => 0))) := (congrFun ecu26 _).trans ((va_up_ne _ _ (by decide)).trans hN_16)
  have hN_17 : cu26 17 = .inl (B.2.1 2, 20000, .inl (nF (fun _ => 0))) := (congrFun ecu26 _).trans ((va_up_ne _ _ (by decide)).trans hN_17)
  have hN_18 : cu26 18 = .inl (B.2.1 0, 40, .inl (nF (fun _ => 0))) := (congrFun ecu26 _).trans ((va_up_ne _ _ (by decide)).trans hN_18)
  have hN_19 : cu26 19 = .inl (B.2.1 0, 40, .inl (nF (fun _ => 0))) := (congrFun ecu26 _).trans ((va_up_ne _ _ (by decide)).trans hN_19)
  have hN_20 : cu26 20 = .inl (B.2.1 0, 40, .inl (nF (fun _ => 0))) := (congrFun ecu26 _).trans ((va_up_ne _ _ (by decide)).trans hN_20)
  have hN_21 : cu26 21 = .inl (B.2.1 0, 40, .inl (nF (fun _ => 0))) := (congrFun ecu26 _).trans ((va_up_ne _ _ (by decide)).trans hN_21)
  have hN_22 : cu26 22 = .inl (B.2.1 0, 30, .inl (nF (fun _ => 0))) := (congrFun ecu26 _).trans ((va_up_ne _ _ (by decide)).trans hN_22)
  have hN_23 : cu26 23 = .inl (B.2.1 0, 30, .inl (nF (fun _ => 0))) := (congrFun ecu26 _).trans ((va_up_ne _ _ (by decide)).trans hN_23)
  have hN_24 : cu26 24 = .inl (B.2.1 1, 480016, .inr (.inl (lF (fun _ => 0)))) := (congrFun ecu26 _).trans ((va_up_ne _ _ (by decide)).trans hN_24)
  have hN_25 : cu26 25 = .inl (B.2.1 0, 40, .inl (nF (fun _ => 0))) := (congrFun ecu26 _).trans ((va_up_ne _ _ (by decide)).trans hN_25)
  refine g_aload_n fx 0 dX12_init_209 rfl ?_
  refine g_sipush (v := nI 480) fx dX12_init_210 (by decide +kernel) ?_
  refine g_newi (N := 480) fx (nI_toInt (by omega)) (by omega) ⟨by dsimp only; omega, by dsimp only; omega⟩ dX12_init_213 (fun ad_26 ct_26 hA_26 hC_26 hN_26 => ?_)
  refine g_same (L' := [(0, .ref (ad_26 0))]) (st' := [.ref (ad_26 26), .ref (ad_26 0)]) (by rw [hA_26 0 (by decide)]) (by rw [hA_26 0 (by decide)]) ?_
  have ho : ct_26 0 = .inr (12, [.ref (ad_26 1), .ref (ad_26 2), .ref (ad_26 3), .ref (ad_26 4), .int 0, .int 0, .ref (ad_26 5), .int 0, .ref (ad_26 6), .ref (ad_26 7), .ref (ad_26 8), .int 0, .int (-1), .int 0, .int 0, .ref (ad_26 9), .ref (ad_26 10), .ref (ad_26 11), .int 0, .int 0, .ref (ad_26 12), .ref (ad_26 13), .ref (ad_26 14), .ref (ad_26 15), .ref (ad_26 16), .int 0, .int 0, .int 0, .ref (ad_26 17), .ref (ad_26 18), .ref (ad_26 19), .ref (ad_26 20), .ref (ad_26 21), .ref (ad_26 22), .int 0, .ref (ad_26 23), .ref (ad_26 24), .ref (ad_26 25), .null, .null, .int 0, .null, .null, .null, .null, .int 0, .null]) := (hC_26 0 (by decide)).trans (ho.trans (by rw [hA_26 1 (by decide), hA_26 2 (by decide), hA_26 3 (by decide), hA_26 4 (by decide), hA_26 5 (by decide), hA_26 6 (by decide), hA_26 7 (by decide), hA_26 8 (by decide), hA_26 9 (by decide), hA_26 10 (by decide), hA_26 11 (by decide), hA_26 12 (by decide), hA_26 13 (by decide), hA_26 14 (by decide), hA_26 15 (by decide), hA_26 16 (by decide), hA_26 17 (by decide), hA_26 18 (by decide), hA_26 19 (by decide), hA_26 20 (by decide), hA_26 21 (by decide), hA_26 22 (by decide), hA_26 23 (by decide), hA_26 24 (by decide), hA_26 25 (by decide)]))
  have hN_1 : ct_26 1 = .inl (B.2.1 0, 40, .inl (nF (fun _ => 0))) := (hC_26 1 (by decide)).trans hN_1
  have hN_2 : ct_26 2 = .inl (B.2.1 0, 40, .inl (nF (fun _ => 0))) := (hC_26 2 (by decide)).trans hN_2
  have hN_3 : ct_26 3 = .inl (B.2.1 0, 40, .inl (nF (fun _ => 0))) := (hC_26 3 (by decide)).trans hN_3
  have hN_4 : ct_26 4 = .inl (B.2.1 0, 40, .inl (nF (fun _ => 0))) := (hC_26 4 (by decide)).trans hN_4
  have hN_5 : ct_26 5 = .inl (B.2.1 0, 25, .inl (nF (fun _ => 0))) := (hC_26 5 (by decide)).trans hN_5
  have hN_6 : ct_26 6 = .inl (B.2.1 0, 30, .inl (nF (fun _ => 0))) := (hC_26 6 (by decide)).trans hN_6
  have hN_7 : ct_26 7 = .inl (B.2.1 0, 2, .inl (nF (fun _ => 0))) := (hC_26 7 (by decide)).trans hN_7
  have hN_8 : ct_26 8 = .inl (B.2.1 0, 30, .inl (nF (fun _ => 0))) := (hC_26 8 (by decide)).trans hN_8
  have hN_9 : ct_26 9 = .inl (B.2.1 0, 160, .inl (nF (fun _ => 0))) := (hC_26 9 (by decide)).trans hN_9
  have hN_10 : ct_26 10 = .inl (B.2.1 0, 160, .inl (nF (fun _ => 0))) := (hC_26 10 (by decide)).trans hN_10
  have hN_11 : ct_26 11 = .inl (B.2.1 1, 60001, .inr (.inl (lF (fun _ => 0)))) := (hC_26 11 (by decide)).trans hN_11
  have hN_12 : ct_26 12 = .inl (B.2.1 0, 25, .inl (nF (fun _ => 0))) := (hC_26 12 (by decide)).trans hN_12
  have hN_13 : ct_26 13 = .inl (B.2.1 0, 25, .inl (nF (fun _ => 0))) := (hC_26 13 (by decide)).trans hN_13
  have hN_14 : ct_26 14 = .inl (B.2.1 0, 5, .inl (nF (fun _ => 0))) := (hC_26 14 (by decide)).trans hN_14
  have hN_15 : ct_26 15 = .inl (B.2.1 0, 5, .inl (nF (fun _ => 0))) := (hC_26 15 (by decide)).trans hN_15
  have hN_16 : ct_26 16 = .inl (B.2.1 2, 500000, .inl (nF (fun _ => 0))) := (hC_26 16 (by decide)).trans hN_16
  have hN_17 : ct_26 17 = .inl (B.2.1 2, 20000, .inl (nF (fun _ => 0))) := (hC_26 17 (by decide)).trans hN_17
  have hN_18 : ct_26 18 = .inl (B.2.1 0, 40, .inl (nF (fun _ => 0))) := (hC_26 18 (by decide)).trans hN_18
  have hN_19 : ct_26 19 = .inl (B.2.1 0, 40, .inl (nF (fun _ => 0))) := (hC_26 19 (by decide)).trans hN_19
  have hN_20 : ct_26 20 = .inl (B.2.1 0, 40, .inl (nF (fun _ => 0))) := (hC_26 20 (by decide)).trans hN_20
  have hN_21 : ct_26 21 = .inl (B.2.1 0, 40, .inl (nF (fun _ => 0))) := (hC_26 21 (by decide)).trans hN_21
  have hN_22 : ct_26 22 = .inl (B.2.1 0, 30, .inl (nF (fun _ => 0))) := (hC_26 22 (by decide)).trans hN_22
  have hN_23 : ct_26 23 = .inl (B.2.1 0, 30, .inl (nF (fun _ => 0))) := (hC_26 23 (by decide)).trans hN_23
  have hN_24 : ct_26 24 = .inl (B.2.1 1, 480016, .inr (.inl (lF (fun _ => 0)))) := (hC_26 24 (by decide)).trans hN_24
  have hN_25 : ct_26 25 = .inl (B.2.1 0, 40, .inl (nF (fun _ => 0))) := (hC_26 25 (by decide)).trans hN_25
  have hfra : ∀ r, r < 1 → ad_26 r = ad r := fun r hp => (hA_26 r (by omega)).trans (hfra r hp)
  refine g_putF (r := 0) (fs' := [.ref (ad_26 1), .ref (ad_26 2), .ref (ad_26 3), .ref (ad_26 4), .int 0, .int 0, .ref (ad_26 5), .int 0, .ref (ad_26 6), .ref (ad_26 7), .ref (ad_26 8), .int 0, .int (-1), .int 0, .int 0, .ref (ad_26 9), .ref (ad_26 10), .ref (ad_26 11), .int 0, .int 0, .ref (ad_26 12), .ref (ad_26 13), .ref (ad_26 14), .ref (ad_26 15), .ref (ad_26 16), .int 0, .int 0, .int 0, .ref (ad_26 17), .ref (ad_26 18), .ref (ad_26 19), .ref (ad_26 20), .ref (ad_26 21), .ref (ad_26 22), .int 0, .ref (ad_26 23), .ref (ad_26 24), .ref (ad_26 25), .ref (ad_26 26), .null, .int 0, .null, .null, .null, .null, .int 0, .null]) fx hnm lpX12_94 (by decide) ho rfl rfl (Nat.le_of_ble_eq_true rfl) rfl dX12_init_215 (fun cu27 ecu27 => ?_)
  have ho : cu27 0 = .inr (12, [.ref (ad_26 1), .ref (ad_26 2), .ref (ad_26 3), .ref (ad_26 4), .int 0, .int 0, .ref (ad_26 5), .int 0, .ref (ad_26 6), .ref (ad_26 7), .ref (ad_26 8), .int 0, .int (-1), .int 0, .int 0, .ref (ad_26 9), .ref (ad_26 10), .ref (ad_26 11), .int 0, .int 0, .ref (ad_26 12), .ref (ad_26 13), .ref (ad_26 14), .ref (ad_26 15), .ref (ad_26 16), .int 0, .int 0, .int 0, .ref (ad_26 17), .ref (ad_26 18), .ref (ad_26 19), .ref (ad_26 20), .ref (ad_26 21), .ref (ad_26 22), .int 0, .ref (ad_26 23), .ref (ad_26 24), .ref (ad_26 25), .ref (ad_26 26), .null, .int 0, .null, .null, .null, .null, .int 0, .null]) := by rw [ecu27, va_up_self]
  have hN_1 : cu27 1 = .inl (B.2.1 0, 40, .inl (nF (fun _ => 0))) := (congrFun ecu27 _).trans ((va_up_ne _ _ (by decide)).trans hN_1)
  have hN_2 : cu27 2 = .inl (B.2.1 0, 40, .inl (nF (fun _ => 0))) := (congrFun ecu27 _).trans ((va_up_ne _ _ (by decide)).trans hN_2)
  have hN_3 : cu27 3 = .inl (B.2.1 0, 40, .inl (nF (fun _ => 0))) := (congrFun ecu27 _).trans ((va_up_ne _ _ (by decide)).trans hN_3)
  have hN_4 : cu27 4 = .inl (B.2.1 0, 40, .inl (nF (fun _ => 0))) := (congrFun ecu27 _).trans ((va_up_ne _ _ (by decide)).trans hN_4)
  have hN_5 : cu27 5 = .inl (B.2.1 0, 25, .inl (nF (fun _ => 0))) := (congrFun ecu27 _).trans ((va_up_ne _ _ (by decide)).trans hN_5)
  have hN_6 : cu27 6 = .inl (B.2.1 0, 30, .inl (nF (fun _ => 0))) := (congrFun ecu27 _).trans ((va_up_ne _ _ (by decide)).trans hN_6)
  have hN_7 : cu27 7 = .inl (B.2.1 0, 2, .inl (nF (fun _ => 0))) := (congrFun ecu27 _).trans ((va_up_ne _ _ (by decide)).trans hN_7)
  have hN_8 : cu27 8 = .inl (B.2.1 0, 30, .inl (nF (fun _ => 0))) := (congrFun ecu27 _).trans ((va_up_ne _ _ (by decide)).trans hN_8)
  have hN_9 : cu27 9 = .inl (B.2.1 0, 160, .inl (nF (fun _ => 0))) := (congrFun ecu27 _).trans ((va_up_ne _ _ (by decide)).trans hN_9)
  have hN_10 : cu27 10 = .inl (B.2.1 0, 160, .inl (nF (fun _ => 0))) := (congrFun ecu27 _).trans ((va_up_ne _ _ (by decide)).trans hN_10)
  have hN_11 : cu27 11 = .inl (B.2.1 1, 60001, .inr (.inl (lF (fun _ => 0)))) := (congrFun ecu27 _).trans ((va_up_ne _ _ (by decide)).trans hN_11)
  have hN_12 : cu27 12 = .inl (B.2.1 0, 25, .inl (nF (fun _ => 0))) := (congrFun ecu27 _).trans ((va_up_ne _ _ (by decide)).trans hN_12)
  have hN_13 : cu27 13 = .inl (B.2.1 0, 25, .inl (nF (fun _ => 0))) := (congrFun ecu27 _).trans ((va_up_ne _ _ (by decide)).trans hN_13)
  have hN_14 : cu27 14 = .inl (B.2.1 0, 5, .inl (nF (fun _ => 0))) := (congrFun ecu27 _).trans ((va_up_ne _ _ (by decide)).trans hN_14)
  have hN_15 : cu27 15 = .inl (B.2.1 0, 5, .inl (nF (fun _ => 0))) := (congrFun ecu27 _).trans ((va_up_ne _ _ (by decide)).trans hN_15)
  have hN_16 : cu27 16 = .inl (B.2.1 2, 500000, .inl (nF (fun _ => 0))) := (congrFun ecu27 _).trans ((va_up_ne _ _ (by decide)).trans hN_16)
  have hN_17 : cu27 17 = .inl (B.2.1 2, 20000, .inl (nF (fun _ => 0))) := (congrFun ecu27 _).trans ((va_up_ne _ _ (by decide)).trans hN_17)
  have hN_18 : cu27 18 = .inl (B.2.1 0, 40, .inl (nF (fun _ => 0))) := (congrFun ecu27 _).trans ((va_up_ne _ _ (by decide)).trans hN_18)
  have hN_19 : cu27 19 = .inl (B.2.1 0, 40, .inl (nF (fun _ => 0))) := (congrFun ecu27 _).trans ((va_up_ne _ _ (by decide)).trans hN_19)
  have hN_20 : cu27 20 = .inl (B.2.1 0, 40, .inl (nF (fun _ => 0))) := (congrFun ecu27 _).trans ((va_up_ne _ _ (by decide)).trans hN_20)
  have hN_21 : cu27 21 = .inl (B.2.1 0, 40, .inl (nF (fun _ => 0))) := (congrFun ecu27 _).trans ((va_up_ne _ _ (by decide)).trans hN_21)
  have hN_22 : cu27 22 = .inl (B.2.1 0, 30, .inl (nF (fun _ => 0))) := (congrFun ecu27 _).trans ((va_up_ne _ _ (by decide)).trans hN_22)
  have hN_23 : cu27 23 = .inl (B.2.1 0, 30, .inl (nF (fun _ => 0))) := (congrFun ecu27 _).trans ((va_up_ne _ _ (by decide)).trans hN_23)
  have hN_24 : cu27 24 = .inl (B.2.1 1, 480016, .inr (.inl (lF (fun _ => 0)))) := (congrFun ecu27 _).trans ((va_up_ne _ _ (by decide)).trans hN_24)
  have hN_25 : cu27 25 = .inl (B.2.1 0, 40, .inl (nF (fun _ => 0))) := (congrFun ecu27 _).trans ((va_up_ne _ _ (by decide)).trans hN_25)
  have hN_26 : cu27 26 = .inl (B.2.1 0, 480, .inl (nF (fun _ => 0))) := (congrFun ecu27 _).trans ((va_up_ne _ _ (by decide)).trans hN_26)
  refine g_aload_n fx 0 dX12_init_218 rfl ?_
  refine g_sipush (v := nI 480) fx dX12_init_219 (by decide +kernel) ?_
  refine g_newi (N := 480) fx (nI_toInt (by omega)) (by omega) ⟨by dsimp only; omega, by dsimp only; omega⟩ dX12_init_222 (fun ad_27 ct_27 hA_27 hC_27 hN_27 => ?_)
  refine g_same (L' := [(0, .ref (ad_27 0))]) (st' := [.ref (ad_27 27), .ref (ad_27 0)]) (by rw [hA_27 0 (by decide)]) (by rw [hA_27 0 (by decide)]) ?_
  have ho : ct_27 0 = .inr (12, [.ref (ad_27 1), .ref (ad_27 2), .ref (ad_27 3), .ref (ad_27 4), .int 0, .int 0, .ref (ad_27 5), .int 0, .ref (ad_27 6), .ref (ad_27 7), .ref (ad_27 8), .int 0, .int (-1), .int 0, .int 0, .ref (ad_27 9), .ref (ad_27 10), .ref (ad_27 11), .int 0, .int 0, .ref (ad_27 12), .ref (ad_27 13), .ref (ad_27 14), .ref (ad_27 15), .ref (ad_27 16), .int 0, .int 0, .int 0, .ref (ad_27 17), .ref (ad_27 18), .ref (ad_27 19), .ref (ad_27 20), .ref (ad_27 21), .ref (ad_27 22), .int 0, .ref (ad_27 23), .ref (ad_27 24), .ref (ad_27 25), .ref (ad_27 26), .null, .int 0, .null, .null, .null, .null, .int 0, .null]) := (hC_27 0 (by decide)).trans (ho.trans (by rw [hA_27 1 (by decide), hA_27 2 (by decide), hA_27 3 (by decide), hA_27 4 (by decide), hA_27 5 (by decide), hA_27 6 (by decide), hA_27 7 (by decide), hA_27 8 (by decide), hA_27 9 (by decide), hA_27 10 (by decide), hA_27 11 (by decide), hA_27 12 (by decide), hA_27 13 (by decide), hA_27 14 (by decide), hA_27 15 (by decide), hA_27 16 (by decide), hA_27 17 (by decide), hA_27 18 (by decide), hA_27 19 (by decide), hA_27 20 (by decide), hA_27 21 (by decide), hA_27 22 (by decide), hA_27 23 (by decide), hA_27 24 (by decide), hA_27 25 (by decide), hA_27 26 (by decide)]))
  have hN_1 : ct_27 1 = .inl (B.2.1 0, 40, .inl (nF (fun _ => 0))) := (hC_27 1 (by decide)).trans hN_1
  have hN_2 : ct_27 2 = .inl (B.2.1 0, 40, .inl (nF (fun _ => 0))) := (hC_27 2 (by decide)).trans hN_2
  have hN_3 : ct_27 3 = .inl (B.2.1 0, 40, .inl (nF (fun _ => 0))) := (hC_27 3 (by decide)).trans hN_3
  have hN_4 : ct_27 4 = .inl (B.2.1 0, 40, .inl (nF (fun _ => 0))) := (hC_27 4 (by decide)).trans hN_4
  have hN_5 : ct_27 5 = .inl (B.2.1 0, 25, .inl (nF (fun _ => 0))) := (hC_27 5 (by decide)).trans hN_5
  have hN_6 : ct_27 6 = .inl (B.2.1 0, 30, .inl (nF (fun _ => 0))) := (hC_27 6 (by decide)).trans hN_6
  have hN_7 : ct_27 7 = .inl (B.2.1 0, 2, .inl (nF (fun _ => 0))) := (hC_27 7 (by decide)).trans hN_7
  have hN_8 : ct_27 8 = .inl (B.2.1 0, 30, .inl (nF (fun _ => 0))) := (hC_27 8 (by decide)).trans hN_8
  have hN_9 : ct_27 9 = .inl (B.2.1 0, 160, .inl (nF (fun _ => 0))) := (hC_27 9 (by decide)).trans hN_9
  have hN_10 : ct_27 10 = .inl (B.2.1 0, 160, .inl (nF (fun _ => 0))) := (hC_27 10 (by decide)).trans hN_10
  have hN_11 : ct_27 11 = .inl (B.2.1 1, 60001, .inr (.inl (lF (fun _ => 0)))) := (hC_27 11 (by decide)).trans hN_11
  have hN_12 : ct_27 12 = .inl (B.2.1 0, 25, .inl (nF (fun _ => 0))) := (hC_27 12 (by decide)).trans hN_12
  have hN_13 : ct_27 13 = .inl (B.2.1 0, 25, .inl (nF (fun _ => 0))) := (hC_27 13 (by decide)).trans hN_13
  have hN_14 : ct_27 14 = .inl (B.2.1 0, 5, .inl (nF (fun _ => 0))) := (hC_27 14 (by decide)).trans hN_14
  have hN_15 : ct_27 15 = .inl (B.2.1 0, 5, .inl (nF (fun _ => 0))) := (hC_27 15 (by decide)).trans hN_15
  have hN_16 : ct_27 16 = .inl (B.2.1 2, 500000, .inl (nF (fun _ => 0))) := (hC_27 16 (by decide)).trans hN_16
  have hN_17 : ct_27 17 = .inl (B.2.1 2, 20000, .inl (nF (fun _ => 0))) := (hC_27 17 (by decide)).trans hN_17
  have hN_18 : ct_27 18 = .inl (B.2.1 0, 40, .inl (nF (fun _ => 0))) := (hC_27 18 (by decide)).trans hN_18
  have hN_19 : ct_27 19 = .inl (B.2.1 0, 40, .inl (nF (fun _ => 0))) := (hC_27 19 (by decide)).trans hN_19
  have hN_20 : ct_27 20 = .inl (B.2.1 0, 40, .inl (nF (fun _ => 0))) := (hC_27 20 (by decide)).trans hN_20
  have hN_21 : ct_27 21 = .inl (B.2.1 0, 40, .inl (nF (fun _ => 0))) := (hC_27 21 (by decide)).trans hN_21
  have hN_22 : ct_27 22 = .inl (B.2.1 0, 30, .inl (nF (fun _ => 0))) := (hC_27 22 (by decide)).trans hN_22
  have hN_23 : ct_27 23 = .inl (B.2.1 0, 30, .inl (nF (fun _ => 0))) := (hC_27 23 (by decide)).trans hN_23
  have hN_24 : ct_27 24 = .inl (B.2.1 1, 480016, .inr (.inl (lF (fun _ => 0)))) := (hC_27 24 (by decide)).trans hN_24
  have hN_25 : ct_27 25 = .inl (B.2.1 0, 40, .inl (nF (fun _ => 0))) := (hC_27 25 (by decide)).trans hN_25
  have hN_26 : ct_27 26 = .inl (B.2.1 0, 480, .inl (nF (fun _ => 0))) := (hC_27 26 (by decide)).trans hN_26
  have hfra : ∀ r, r < 1 → ad_27 r = ad r := fun r hp => (hA_27 r (by omega)).trans (hfra r hp)
  refine g_putF (r := 0) (fs' := [.ref (ad_27 1), .ref (ad_27 2), .ref (ad_27 3), .ref (ad_27 4), .int 0, .int 0, .ref (ad_27 5), .int 0, .ref (ad_27 6), .ref (ad_27 7), .ref (ad_27 8), .int 0, .int (-1), .int 0, .int 0, .ref (ad_27 9), .ref (ad_27 10), .ref (ad_27 11), .int 0, .int 0, .ref (ad_27 12), .ref (ad_27 13), .ref (ad_27 14), .ref (ad_27 15), .ref (ad_27 16), .int 0, .int 0, .int 0, .ref (ad_27 17), .ref (ad_27 18), .ref (ad_27 19), .ref (ad_27 20), .ref (ad_27 21), .ref (ad_27 22), .int 0, .ref (ad_27 23), .ref (ad_27 24), .ref (ad_27 25), .ref (ad_27 26), .ref (ad_27 27), .int 0, .null, .null, .null, .null, .int 0, .null]) fx hnm lpX12_97 (by decide) ho rfl rfl (Nat.le_of_ble_eq_true rfl) rfl dX12_init_224 (fun cu28 ecu28 => ?_)
  have ho : cu28 0 = .inr (12, [.ref (ad_27 1), .ref (ad_27 2), .ref (ad_27 3), .ref (ad_27 4), .int 0, .int 0, .ref (ad_27 5), .int 0, .ref (ad_27 6), .ref (ad_27 7), .ref (ad_27 8), .int 0, .int (-1), .int 0, .int 0, .ref (ad_27 9), .ref (ad_27 10), .ref (ad_27 11), .int 0, .int 0, .ref (ad_27 12), .ref (ad_27 13), .ref (ad_27 14), .ref (ad_27 15), .ref (ad_27 16), .int 0, .int 0, .int 0, .ref (ad_27 17), .ref (ad_27 18), .ref (ad_27 19), .ref (ad_27 20), .ref (ad_27 21), .ref (ad_27 22), .int 0, .ref (ad_27 23), .ref (ad_27 24), .ref (ad_27 25), .ref (ad_27 26), .ref (ad_27 27), .int 0, .null, .null, .null, .null, .int 0, .null]) := by rw [ecu28, va_up_self]
  have hN_1 : cu28 1 = .inl (B.2.1 0, 40, .inl (nF (fun _ => 0))) := (congrFun ecu28 _).trans ((va_up_ne _ _ (by decide)).trans hN_1)
  have hN_2 : cu28 2 = .inl (B.2.1 0, 40, .inl (nF (fun _ => 0))) := (congrFun ecu28 _).trans ((va_up_ne _ _ (by decide)).trans hN_2)
  have hN_3 : cu28 3 = .inl (B.2.1 0, 40, .inl (nF (fun _ => 0))) := (congrFun ecu28 _).trans ((va_up_ne _ _ (by decide)).trans hN_3)
  have hN_4 : cu28 4 = .inl (B.2.1 0, 40, .inl (nF (fun _ => 0))) := (congrFun ecu28 _).trans ((va_up_ne _ _ (by decide)).trans hN_4)
  have hN_5 : cu28 5 = .inl (B.2.1 0, 25, .inl (nF (fun _ => 0))) := (congrFun ecu28 _).trans ((va_up_ne _ _ (by decide)).trans hN_5)
  have hN_6 : cu28 6 = .inl (B.2.1 0, 30, .inl (nF (fun _ => 0))) := (congrFun ecu28 _).trans ((va_up_ne _ _ (by decide)).trans hN_6)
  have hN_7 : cu28 7 = .inl (B.2.1 0, 2, .inl (nF (fun _ => 0))) := (congrFun ecu28 _).trans ((va_up_ne _ _ (by decide)).trans hN_7)
  have hN_8 : cu28 8 = .inl (B.2.1 0, 30, .inl (nF (fun _ => 0))) := (congrFun ecu28 _).trans ((va_up_ne _ _ (by decide)).trans hN_8)
  have hN_9 : cu28 9 = .inl (B.2.1 0, 160, .inl (nF (fun _ => 0))) := (congrFun ecu28 _).trans ((va_up_ne _ _ (by decide)).trans hN_9)
  have hN_10 : cu28 10 = .inl (B.2.1 0, 160, .inl (nF (fun _ => 0))) := (congrFun ecu28 _).trans ((va_up_ne _ _ (by decide)).trans hN_10)
  have hN_11 : cu28 11 = .inl (B.2.1 1, 60001, .inr (.inl (lF (fun _ => 0)))) := (congrFun ecu28 _).trans ((va_up_ne _ _ (by decide)).trans hN_11)
  have hN_12 : cu28 12 = .inl (B.2.1 0, 25, .inl (nF (fun _ => 0))) := (congrFun ecu28 _).trans ((va_up_ne _ _ (by decide)).trans hN_12)
  have hN_13 : cu28 13 = .inl (B.2.1 0, 25, .inl (nF (fun _ => 0))) := (congrFun ecu28 _).trans ((va_up_ne _ _ (by decide)).trans hN_13)
  have hN_14 : cu28 14 = .inl (B.2.1 0, 5, .inl (nF (fun _ => 0))) := (congrFun ecu28 _).trans ((va_up_ne _ _ (by decide)).trans hN_14)
  have hN_15 : cu28 15 = .inl (B.2.1 0, 5, .inl (nF (fun _ => 0))) := (congrFun ecu28 _).trans ((va_up_ne _ _ (by decide)).trans hN_15)
  have hN_16 : cu28 16 = .inl (B.2.1 2, 500000, .inl (nF (fun _ => 0))) := (congrFun ecu28 _).trans ((va_up_ne _ _ (by decide)).trans hN_16)
  have hN_17 : cu28 17 = .inl (B.2.1 2, 20000, .inl (nF (fun _ => 0))) := (congrFun ecu28 _).trans ((va_up_ne _ _ (by decide)).trans hN_17)
  have hN_18 : cu28 18 = .inl (B.2.1 0, 40, .inl (nF (fun _ => 0))) := (congrFun ecu28 _).trans ((va_up_ne _ _ (by decide)).trans hN_18)
  have hN_19 : cu28 19 = .inl (B.2.1 0, 40, .inl (nF (fun _ => 0))) := (congrFun ecu28 _).trans ((va_up_ne _ _ (by decide)).trans hN_19)
  have hN_20 : cu28 20 = .inl (B.2.1 0, 40, .inl (nF (fun _ => 0))) := (congrFun ecu28 _).trans ((va_up_ne _ _ (by decide)).trans hN_20)
  have hN_21 : cu28 21 = .inl (B.2.1 0, 40, .inl (nF (fun _ => 0))) := (congrFun ecu28 _).trans ((va_up_ne _ _ (by decide)).trans hN_21)
  have hN_22 : cu28 22 = .inl (B.2.1 0, 30, .inl (nF (fun _ => 0))) := (congrFun ecu28 _).trans ((va_up_ne _ _ (by decide)).trans hN_22)
  have hN_23 : cu28 23 = .inl (B.2.1 0, 30, .inl (nF (fun _ => 0))) := (congrFun ecu28 _).trans ((va_up_ne _ _ (by decide)).trans hN_23)
  have hN_24 : cu28 24 = .inl (B.2.1 1, 480016, .inr (.inl (lF (fun _ => 0)))) := (congrFun ecu28 _).trans ((va_up_ne _ _ (by decide)).trans hN_24)
  have hN_25 : cu28 25 = .inl (B.2.1 0, 40, .inl (nF (fun _ => 0))) := (congrFun ecu28 _).trans ((va_up_ne _ _ (by decide)).trans hN_25)
  have hN_26 : cu28 26 = .inl (B.2.1 0, 480, .inl (nF (fun _ => 0))) := (congrFun ecu28 _).trans ((va_up_ne _ _ (by decide)).trans hN_26)
  have hN_27 : cu28 27 = .inl (B.2.1 0, 480, .inl (nF (fun _ => 0))) := (congrFun ecu28 _).trans ((va_up_ne _ _ (by decide)).trans hN_27)
  refine g_aload_n fx 0 dX12_init_227 rfl ?_
  refine g_bipush (v := nI 12) fx dX12_init_228 (by decide +kernel) ?_
  refine g_newi (N := 12) fx (nI_toInt (by omega)) (by omega) ⟨by dsimp only; omega, by dsimp only; omega⟩ dX12_init_230 (fun ad_28 ct_28 hA_28 hC_28 hN_28 => ?_)
  refine g_same (L' := [(0, .ref (ad_28 0))]) (st' := [.ref (ad_28 28), .ref (ad_28 0)]) (by rw [hA_28 0 (by decide)]) (by rw [hA_28 0 (by decide)]) ?_
  have ho : ct_28 0 = .inr (12, [.ref (ad_28 1), .ref (ad_28 2), .ref (ad_28 3), .ref (ad_28 4), .int 0, .int 0, .ref (ad_28 5), .int 0, .ref (ad_28 6), .ref (ad_28 7), .ref (ad_28 8), .int 0, .int (-1), .int 0, .int 0, .ref (ad_28 9), .ref (ad_28 10), .ref (ad_28 11), .int 0, .int 0, .ref (ad_28 12), .ref (ad_28 13), .ref (ad_28 14), .ref (ad_28 15), .ref (ad_28 16), .int 0, .int 0, .int 0, .ref (ad_28 17), .ref (ad_28 18), .ref (ad_28 19), .ref (ad_28 20), .ref (ad_28 21), .ref (ad_28 22), .int 0, .ref (ad_28 23), .ref (ad_28 24), .ref (ad_28 25), .ref (ad_28 26), .ref (ad_28 27), .int 0, .null, .null, .null, .null, .int 0, .null]) := (hC_28 0 (by decide)).trans (ho.trans (by rw [hA_28 1 (by decide), hA_28 2 (by decide), hA_28 3 (by decide), hA_28 4 (by decide), hA_28 5 (by decide), hA_28 6 (by decide), hA_28 7 (by decide), hA_28 8 (by decide), hA_28 9 (by decide), hA_28 10 (by decide), hA_28 11 (by decide), hA_28 12 (by decide), hA_28 13 (by decide), hA_28 14 (by decide), hA_28 15 (by decide), hA_28 16 (by decide), hA_28 17 (by decide), hA_28 18 (by decide), hA_28 19 (by decide), hA_28 20 (by decide), hA_28 21 (by decide), hA_28 22 (by decide), hA_28 23 (by decide), hA_28 24 (by decide), hA_28 25 (by decide), hA_28 26 (by decide), hA_28 27 (by decide)]))
  have hN_1 : ct_28 1 = .inl (B.2.1 0, 40, .inl (nF (fun _ => 0))) := (hC_28 1 (by decide)).trans hN_1
  have hN_2 : ct_28 2 = .inl (B.2.1 0, 40, .inl (nF (fun _ => 0))) := (hC_28 2 (by decide)).trans hN_2
  have hN_3 : ct_28 3 = .inl (B.2.1 0, 40, .inl (nF (fun _ => 0))) := (hC_28 3 (by decide)).trans hN_3
  have hN_4 : ct_28 4 = .inl (B.2.1 0, 40, .inl (nF (fun _ => 0))) := (hC_28 4 (by decide)).trans hN_4
  have hN_5 : ct_28 5 = .inl (B.2.1 0, 25, .inl (nF (fun _ => 0))) := (hC_28 5 (by decide)).trans hN_5
  have hN_6 : ct_28 6 = .inl (B.2.1 0, 30, .inl (nF (fun _ => 0))) := (hC_28 6 (by decide)).trans hN_6
  have hN_7 : ct_28 7 = .inl (B.2.1 0, 2, .inl (nF (fun _ => 0))) := (hC_28 7 (by decide)).trans hN_7
  have hN_8 : ct_28 8 = .inl (B.2.1 0, 30, .inl (nF (fun _ => 0))) := (hC_28 8 (by decide)).trans hN_8
  have hN_9 : ct_28 9 = .inl (B.2.1 0, 160, .inl (nF (fun _ => 0))) := (hC_28 9 (by decide)).trans hN_9
  have hN_10 : ct_28 10 = .inl (B.2.1 0, 160, .inl (nF (fun _ => 0))) := (hC_28 10 (by decide)).trans hN_10
  have hN_11 : ct_28 11 = .inl (B.2.1 1, 60001, .inr (.inl (lF (fun _ => 0)))) := (hC_28 11 (by decide)).trans hN_11
  have hN_12 : ct_28 12 = .inl (B.2.1 0, 25, .inl (nF (fun _ => 0))) := (hC_28 12 (by decide)).trans hN_12
  have hN_13 : ct_28 13 = .inl (B.2.1 0, 25, .inl (nF (fun _ => 0))) := (hC_28 13 (by decide)).trans hN_13
  have hN_14 : ct_28 14 = .inl (B.2.1 0, 5, .inl (nF (fun _ => 0))) := (hC_28 14 (by decide)).trans hN_14
  have hN_15 : ct_28 15 = .inl (B.2.1 0, 5, .inl (nF (fun _ => 0))) := (hC_28 15 (by decide)).trans hN_15
  have hN_16 : ct_28 16 = .inl (B.2.1 2, 500000, .inl (nF (fun _ => 0))) := (hC_28 16 (by decide)).trans hN_16
  have hN_17 : ct_28 17 = .inl (B.2.1 2, 20000, .inl (nF (fun _ => 0))) := (hC_28 17 (by decide)).trans hN_17
  have hN_18 : ct_28 18 = .inl (B.2.1 0, 40, .inl (nF (fun _ => 0))) := (hC_28 18 (by decide)).trans hN_18
  have hN_19 : ct_28 19 = .inl (B.2.1 0, 40, .inl (nF (fun _ => 0))) := (hC_28 19 (by decide)).trans hN_19
  have hN_20 : ct_28 20 = .inl (B.2.1 0, 40, .inl (nF (fun _ => 0))) := (hC_28 20 (by decide)).trans hN_20
  have hN_21 : ct_28 21 = .inl (B.2.1 0, 40, .inl (nF (fun _ => 0))) := (hC_28 21 (by decide)).trans hN_21
  have hN_22 : ct_28 22 = .inl (B.2.1 0, 30, .inl (nF (fun _ => 0))) := (hC_28 22 (by decide)).trans hN_22
  have hN_23 : ct_28 23 = .inl (B.2.1 0, 30, .inl (nF (fun _ => 0))) := (hC_28 23 (by decide)).trans hN_23
  have hN_24 : ct_28 24 = .inl (B.2.1 1, 480016, .inr (.inl (lF (fun _ => 0)))) := (hC_28 24 (by decide)).trans hN_24
  have hN_25 : ct_28 25 = .inl (B.2.1 0, 40, .inl (nF (fun _ => 0))) := (hC_28 25 (by decide)).trans hN_25
  have hN_26 : ct_28 26 = .inl (B.2.1 0, 480, .inl (nF (fun _ => 0))) := (hC_28 26 (by decide)).trans hN_26
  have hN_27 : ct_28 27 = .inl (B.2.1 0, 480, .inl (nF (fun _ => 0))) := (hC_28 27 (by decide)).trans hN_27
  have hfra : ∀ r, r < 1 → ad_28 r = ad r := fun r hp => (hA_28 r (by omega)).trans (hfra r hp)
  refine g_putF (r := 0) (fs' := [.ref (ad_28 1), .ref (ad_28 2), .ref (ad_28 3), .ref (ad_28 4), .int 0, .int 0, .ref (ad_28 5), .int 0, .ref (ad_28 6), .ref (ad_28 7), .ref (ad_28 8), .int 0, .int (-1), .int 0, .int 0, .ref (ad_28 9), .ref (ad_28 10), .ref (ad_28 11), .int 0, .int 0, .ref (ad_28 12), .ref (ad_28 13), .ref (ad_28 14), .ref (ad_28 15), .ref (ad_28 16), .int 0, .int 0, .int 0, .ref (ad_28 17), .ref (ad_28 18), .ref (ad_28 19), .ref (ad_28 20), .ref (ad_28 21), .ref (ad_28 22), .int 0, .ref (ad_28 23), .ref (ad_28 24), .ref (ad_28 25), .ref (ad_28 26), .ref (ad_28 27), .int 0, .ref (ad_28 28), .null, .null, .null, .int 0, .null]) fx hnm lpX12_100 (by decide) ho rfl rfl (Nat.le_of_ble_eq_true rfl) rfl dX12_init_232 (fun cu29 ecu29 => ?_)
  have ho : cu29 0 = .inr (12, [.ref (ad_28 1), .ref (ad_28 2), .ref (ad_28 3), .ref (ad_28 4), .int 0, .int 0, .ref (ad_28 5), .int 0, .ref (ad_28 6), .ref (ad_28 7), .ref (ad_28 8), .int 0, .int (-1), .int 0, .int 0, .ref (ad_28 9), .ref (ad_28 10), .ref (ad_28 11), .int 0, .int 0, .ref (ad_28 12), .ref (ad_28 13), .ref (ad_28 14), .ref (ad_28 15), .ref (ad_28 16), .int 0, .int 0, .int 0, .ref (ad_28 17), .ref (ad_28 18), .ref (ad_28 19), .ref (ad_28 20), .ref (ad_28 21), .ref (ad_28 22), .int 0, .ref (ad_28 23), .ref (ad_28 24), .ref (ad_28 25), .ref (ad_28 26), .ref (ad_28 27), .int 0, .ref (ad_28 28), .null, .null, .null, .int 0, .null]) := by rw [ecu29, va_up_self]
  have hN_1 : cu29 1 = .inl (B.2.1 0, 40, .inl (nF (fun _ => 0))) := (congrFun ecu29 _).trans ((va_up_ne _ _ (by decide)).trans hN_1)
  have hN_2 : cu29 2 = .inl (B.2.1 0, 40, .inl (nF (fun _ => 0))) := (congrFun ecu29 _).trans ((va_up_ne _ _ (by decide)).trans hN_2)
  have hN_3 : cu29 3 = .inl (B.2.1 0, 40, .inl (nF (fun _ => 0))) := (congrFun ecu29 _).trans ((va_up_ne _ _ (by decide)).trans hN_3)
  have hN_4 : cu29 4 = .inl (B.2.1 0, 40, .inl (nF (fun _ => 0))) := (congrFun ecu29 _).trans ((va_up_ne _ _ (by decide)).trans hN_4)
  have hN_5 : cu29 5 = .inl (B.2.1 0, 25, .inl (nF (fun _ => 0))) := (congrFun ecu29 _).trans ((va_up_ne _ _ (by decide)).trans hN_5)
  have hN_6 : cu29 6 = .inl (B.2.1 0, 30, .inl (nF (fun _ => 0))) := (congrFun ecu29 _).trans ((va_up_ne _ _ (by decide)).trans hN_6)
  have hN_7 : cu29 7 = .inl (B.2.1 0, 2, .inl (nF (fun _ => 0))) := (congrFun ecu29 _).trans ((va_up_ne _ _ (by decide)).trans hN_7)
  have hN_8 : cu29 8 = .inl (B.2.1 0, 30, .inl (nF (fun _ => 0))) := (congrFun ecu29 _).trans ((va_up_ne _ _ (by decide)).trans hN_8)
  have hN_9 : cu29 9 = .inl (B.2.1 0, 160, .inl (nF (fun _ => 0))) := (congrFun ecu29 _).trans ((va_up_ne _ _ (by decide)).trans hN_9)
  have hN_10 : cu29 10 = .inl (B.2.1 0, 160, .inl (nF (fun _ => 0))) := (congrFun ecu29 _).trans ((va_up_ne _ _ (by decide)).trans hN_10)
  have hN_11 : cu29 11 = .inl (B.2.1 1, 60001, .inr (.inl (lF (fun _ => 0)))) := (congrFun ecu29 _).trans ((va_up_ne _ _ (by decide)).trans hN_11)
  have hN_12 : cu29 12 = .inl (B.2.1 0, 25, .inl (nF (fun _ => 0))) := (congrFun ecu29 _).trans ((va_up_ne _ _ (by decide)).trans hN_12)
  have hN_13 : cu29 13 = .inl (B.2.1 0, 25, .inl (nF (fun _ => 0))) := (congrFun ecu29 _).trans ((va_up_ne _ _ (by decide)).trans hN_13)
  have hN_14 : cu29 14 = .inl (B.2.1 0, 5, .inl (nF (fun _ => 0))) := (congrFun ecu29 _).trans ((va_up_ne _ _ (by decide)).trans hN_14)
  have hN_15 : cu29 15 = .inl (B.2.1 0, 5, .inl (nF (fun _ => 0))) := (congrFun ecu29 _).trans ((va_up_ne _ _ (by decide)).trans hN_15)
  have hN_16 : cu29 16 = .inl (B.2.1 2, 500000, .inl (nF (fun _ => 0))) := (congrFun ecu29 _).trans ((va_up_ne _ _ (by decide)).trans hN_16)
  have hN_17 : cu29 17 = .inl (B.2.1 2, 20000, .inl (nF (fun _ => 0))) := (congrFun ecu29 _).trans ((va_up_ne _ _ (by decide)).trans hN_17)
  have hN_18 : cu29 18 = .inl (B.2.1 0, 40, .inl (nF (fun _ => 0))) := (congrFun ecu29 _).trans ((va_up_ne _ _ (by decide)).trans hN_18)
  have hN_19 : cu29 19 = .inl (B.2.1 0, 40, .inl (nF (fun _ => 0))) := (congrFun ecu29 _).trans ((va_up_ne _ _ (by decide)).trans hN_19)
  have hN_20 : cu29 20 = .inl (B.2.1 0, 40, .inl (nF (fun _ => 0))) := (congrFun ecu29 _).trans ((va_up_ne _ _ (by decide)).trans hN_20)
  have hN_21 : cu29 21 = .inl (B.2.1 0, 40, .inl (nF (fun _ => 0))) := (congrFun ecu29 _).trans ((va_up_ne _ _ (by decide)).trans hN_21)
  have hN_22 : cu29 22 = .inl (B.2.1 0, 30, .inl (nF (fun _ => 0))) := (congrFun ecu29 _).trans ((va_up_ne _ _ (by decide)).trans hN_22)
  have hN_23 : cu29 23 = .inl (B.2.1 0, 30, .inl (nF (fun _ => 0))) := (congrFun ecu29 _).trans ((va_up_ne _ _ (by decide)).trans hN_23)
  have hN_24 : cu29 24 = .inl (B.2.1 1, 480016, .inr (.inl (lF (fun _ => 0)))) := (congrFun ecu29 _).trans ((va_up_ne _ _ (by decide)).trans hN_24)
  have hN_25 : cu29 25 = .inl (B.2.1 0, 40, .inl (nF (fun _ => 0))) := (congrFun ecu29 _).trans ((va_up_ne _ _ (by decide)).trans hN_25)
  have hN_26 : cu29 26 = .inl (B.2.1 0, 480, .inl (nF (fun _ => 0))) := (congrFun ecu29 _).trans ((va_up_ne _ _ (by decide)).trans hN_26)
  have hN_27 : cu29 27 = .inl (B.2.1 0, 480, .inl (nF (fun _ => 0))) := (congrFun ecu29 _).trans ((va_up_ne _ _ (by decide)).trans hN_27)
  have hN_28 : cu29 28 = .inl (B.2.1 0, 12, .inl (nF (fun _ => 0))) := (congrFun ecu29 _).trans ((va_up_ne _ _ (by decide)).trans hN_28)
  refine g_aload_n fx 0 dX12_init_235 rfl ?_
  refine g_bipush (v := nI 80) fx dX12_init_236 (by decide +kernel) ?_
  refine g_newi (N := 80) fx (nI_toInt (by omega)) (by omega) ⟨by dsimp only; omega, by dsimp only; omega⟩ dX12_init_238 (fun ad_29 ct_29 hA_29 hC_29 hN_29 => ?_)
  refine g_same (L' := [(0, .ref (ad_29 0))]) (st' := [.ref (ad_29 29), .ref (ad_29 0)]) (by rw [hA_29 0 (by decide)]) (by rw [hA_29 0 (by decide)]) ?_
  have ho : ct_29 0 = .inr (12, [.ref (ad_29 1), .ref (ad_29 2), .ref (ad_29 3), .ref (ad_29 4), .int 0, .int 0, .ref (ad_29 5), .int 0, .ref (ad_29 6), .ref (ad_29 7), .ref (ad_29 8), .int 0, .int (-1), .int 0, .int 0, .ref (ad_29 9), .ref (ad_29 10), .ref (ad_29 11), .int 0, .int 0, .ref (ad_29 12), .ref (ad_29 13), .ref (ad_29 14), .ref (ad_29 15), .ref (ad_29 16), .int 0, .int 0, .int 0, .ref (ad_29 17), .ref (ad_29 18), .ref (ad_29 19), .ref (ad_29 20), .ref (ad_29 21), .ref (ad_29 22), .int 0, .ref (ad_29 23), .ref (ad_29 24), .ref (ad_29 25), .ref (ad_29 26), .ref (ad_29 27), .int 0, .ref (ad_29 28), .null, .null, .null, .int 0, .null]) := (hC_29 0 (by decide)).trans (ho.trans (by rw [hA_29 1 (by decide), hA_29 2 (by decide), hA_29 3 (by decide), hA_29 4 (by decide), hA_29 5 (by decide), hA_29 6 (by decide), hA_29 7 (by decide), hA_29 8 (by decide), hA_29 9 (by decide), hA_29 10 (by decide), hA_29 11 (by decide), hA_29 12 (by decide), hA_29 13 (by decide), hA_29 14 (by decide), hA_29 15 (by decide), hA_29 16 (by decide), hA_29 17 (by decide), hA_29 18 (by decide), hA_29 19 (by decide), hA_29 20 (by decide), hA_29 21 (by decide), hA_29 22 (by decide), hA_29 23 (by decide), hA_29 24 (by decide), hA_29 25 (by decide), hA_29 26 (by decide), hA_29 27 (by decide), hA_29 28 (by decide)]))
  have hN_1 : ct_29 1 = .inl (B.2.1 0, 40, .inl (nF (fun _ => 0))) := (hC_29 1 (by decide)).trans hN_1
  have hN_2 : ct_29 2 = .inl (B.2.1 0, 40, .inl (nF (fun _ => 0))) := (hC_29 2 (by decide)).trans hN_2
  have hN_3 : ct_29 3 = .inl (B.2.1 0, 40, .inl (nF (fun _ => 0))) := (hC_29 3 (by decide)).trans hN_3
  have hN_4 : ct_29 4 = .inl (B.2.1 0, 40, .inl (nF (fun _ => 0))) := (hC_29 4 (by decide)).trans hN_4
  have hN_5 : ct_29 5 = .inl (B.2.1 0, 25, .inl (nF (fun _ => 0))) := (hC_29 5 (by decide)).trans hN_5
  have hN_6 : ct_29 6 = .inl (B.2.1 0, 30, .inl (nF (fun _ => 0))) := (hC_29 6 (by decide)).trans hN_6
  have hN_7 : ct_29 7 = .inl (B.2.1 0, 2, .inl (nF (fun _ => 0))) := (hC_29 7 (by decide)).trans hN_7
  have hN_8 : ct_29 8 = .inl (B.2.1 0, 30, .inl (nF (fun _ => 0))) := (hC_29 8 (by decide)).trans hN_8
  have hN_9 : ct_29 9 = .inl (B.2.1 0, 160, .inl (nF (fun _ => 0))) := (hC_29 9 (by decide)).trans hN_9
  have hN_10 : ct_29 10 = .inl (B.2.1 0, 160, .inl (nF (fun _ => 0))) := (hC_29 10 (by decide)).trans hN_10
  have hN_11 : ct_29 11 = .inl (B.2.1 1, 60001, .inr (.inl (lF (fun _ => 0)))) := (hC_29 11 (by decide)).trans hN_11
  have hN_12 : ct_29 12 = .inl (B.2.1 0, 25, .inl (nF (fun _ => 0))) := (hC_29 12 (by decide)).trans hN_12
  have hN_13 : ct_29 13 = .inl (B.2.1 0, 25, .inl (nF (fun _ => 0))) := (hC_29 13 (by decide)).trans hN_13
  have hN_14 : ct_29 14 = .inl (B.2.1 0, 5, .inl (nF (fun _ => 0))) := (hC_29 14 (by decide)).trans hN_14
  have hN_15 : ct_29 15 = .inl (B.2.1 0, 5, .inl (nF (fun _ => 0))) := (hC_29 15 (by decide)).trans hN_15
  have hN_16 : ct_29 16 = .inl (B.2.1 2, 500000, .inl (nF (fun _ => 0))) := (hC_29 16 (by decide)).trans hN_16
  have hN_17 : ct_29 17 = .inl (B.2.1 2, 20000, .inl (nF (fun _ => 0))) := (hC_29 17 (by decide)).trans hN_17
  have hN_18 : ct_29 18 = .inl (B.2.1 0, 40, .inl (nF (fun _ => 0))) := (hC_29 18 (by decide)).trans hN_18
  have hN_19 : ct_29 19 = .inl (B.2.1 0, 40, .inl (nF (fun _ => 0))) := (hC_29 19 (by decide)).trans hN_19
  have hN_20 : ct_29 20 = .inl (B.2.1 0, 40, .inl (nF (fun _ => 0))) := (hC_29 20 (by decide)).trans hN_20
  have hN_21 : ct_29 21 = .inl (B.2.1 0, 40, .inl (nF (fun _ => 0))) := (hC_29 21 (by decide)).trans hN_21
  have hN_22 : ct_29 22 = .inl (B.2.1 0, 30, .inl (nF (fun _ => 0))) := (hC_29 22 (by decide)).trans hN_22
  have hN_23 : ct_29 23 = .inl (B.2.1 0, 30, .inl (nF (fun _ => 0))) := (hC_29 23 (by decide)).trans hN_23
  have hN_24 : ct_29 24 = .inl (B.2.1 1, 480016, .inr (.inl (lF (fun _ => 0)))) := (hC_29 24 (by decide)).trans hN_24
  have hN_25 : ct_29 25 = .inl (B.2.1 0, 40, .inl (nF (fun _ => 0))) := (hC_29 25 (by decide)).trans hN_25
  have hN_26 : ct_29 26 = .inl (B.2.1 0, 480, .inl (nF (fun _ => 0))) := (hC_29 26 (by decide)).trans hN_26
  have hN_27 : ct_29 27 = .inl (B.2.1 0, 480, .inl (nF (fun _ => 0))) := (hC_29 27 (by decide)).trans hN_27
  have hN_28 : ct_29 28 = .inl (B.2.1 0, 12, .inl (nF (fun _ => 0))) := (hC_29 28 (by decide)).trans hN_28
  have hfra : ∀ r, r < 1 → ad_29 r = ad r := fun r hp => (hA_29 r (by omega)).trans (hfra r hp)
  refine g_putF (r := 0) (fs' := [.ref (ad_29 1), .ref (ad_29 2), .ref (ad_29 3), .ref (ad_29 4), .int 0, .int 0, .ref (ad_29 5), .int 0, .ref (ad_29 6), .ref (ad_29 7), .ref (ad_29 8), .int 0, .int (-1), .int 0, .int 0, .ref (ad_29 9), .ref (ad_29 10), .ref (ad_29 11), .int 0, .int 0, .ref (ad_29 12), .ref (ad_29 13), .ref (ad_29 14), .ref (ad_29 15), .ref (ad_29 16), .int 0, .int 0, .int 0, .ref (ad_29 17), .ref (ad_29 18), .ref (ad_29 19), .ref (ad_29 20), .ref (ad_29 21), .ref (ad_29 22), .int 0, .ref (ad_29 23), .ref (ad_29 24), .ref (ad_29 25), .ref (ad_29 26), .ref (ad_29 27), .int 0, .ref (ad_29 28), .ref (ad_29 29), .null, .null, .int 0, .null]) fx hnm lpX12_103 (by decide) ho rfl rfl (Nat.le_of_ble_eq_true rfl) rfl dX12_init_240 (fun cu30 ecu30 => ?_)
  have ho : cu30 0 = .inr (12, [.ref (ad_29 1), .ref (ad_29 2), .ref (ad_29 3), .ref (ad_29 4), .int 0, .int 0, .ref (ad_29 5), .int 0, .ref (ad_29 6), .ref (ad_29 7), .ref (ad_29 8), .int 0, .int (-1), .int 0, .int 0, .ref (ad_29 9), .ref (ad_29 10), .ref (ad_29 11), .int 0, .int 0, .ref (ad_29 12), .ref (ad_29 13), .ref (ad_29 14), .ref (ad_29 15), .ref (ad_29 16), .int 0, .int 0, .int 0, .ref (ad_29 17), .ref (ad_29 18), .ref (ad_29 19), .ref (ad_29 20), .ref (ad_29 21), .ref (ad_29 22), .int 0, .ref (ad_29 23), .ref (ad_29 24), .ref (ad_29 25), .ref (ad_29 26), .ref (ad_29 27), .int 0, .ref (ad_29 28), .ref (ad_29 29), .null, .null, .int 0, .null]) := by rw [ecu30, va_up_self]
  have hN_1 : cu30 1 = .inl (B.2.1 0, 40, .inl (nF (fun _ => 0))) := (congrFun ecu30 _).trans ((va_up_ne _ _ (by decide)).trans hN_1)
  have hN_2 : cu30 2 = .inl (B.2.1 0, 40, .inl (nF (fun _ => 0))) := (congrFun ecu30 _).trans ((va_up_ne _ _ (by decide)).trans hN_2)
  have hN_3 : cu30 3 = .inl (B.2.1 0, 40, .inl (nF (fun _ => 0))) := (congrFun ecu30 _).trans ((va_up_ne _ _ (by decide)).trans hN_3)
  have hN_4 : cu30 4 = .inl (B.2.1 0, 40, .inl (nF (fun _ => 0))) := (congrFun ecu30 _).trans ((va_up_ne _ _ (by decide)).trans hN_4)
  have hN_5 : cu30 5 = .inl (B.2.1 0, 25, .inl (nF (fun _ => 0))) := (congrFun ecu30 _).trans ((va_up_ne _ _ (by decide)).trans hN_5)
  have hN_6 : cu30 6 = .inl (B.2.1 0, 30, .inl (nF (fun _ => 0))) := (congrFun ecu30 _).trans ((va_up_ne _ _ (by decide)).trans hN_6)
  have hN_7 : cu30 7 = .inl (B.2.1 0, 2, .inl (nF (fun _ => 0))) := (congrFun ecu30 _).trans ((va_up_ne _ _ (by decide)).trans hN_7)
  have hN_8 : cu30 8 = .inl (B.2.1 0, 30, .inl (nF (fun _ => 0))) := (congrFun ecu30 _).trans ((va_up_ne _ _ (by decide)).trans hN_8)
  have hN_9 : cu30 9 = .inl (B.2.1 0, 160, .inl (nF (fun _ => 0))) := (congrFun ecu30 _).trans ((va_up_ne _ _ (by decide)).trans hN_9)
  have hN_10 : cu30 10 = .inl (B.2.1 0, 160, .inl (nF (fun _ => 0))) := (congrFun ecu30 _).trans ((va_up_ne _ _ (by decide)).trans hN_10)
  have hN_11 : cu30 11 = .inl (B.2.1 1, 60001, .inr (.inl (lF (fun _ => 0)))) := (congrFun ecu30 _).trans ((va_up_ne _ _ (by decide)).trans hN_11)
  have hN_12 : cu30 12 = .inl (B.2.1 0, 25, .inl (nF (fun _ => 0))) := (congrFun ecu30 _).trans ((va_up_ne _ _ (by decide)).trans hN_12)
  have hN_13 : cu30 13 = .inl (B.2.1 0, 25, .inl (nF (fun _ => 0))) := (congrFun ecu30 _).trans ((va_up_ne _ _ (by decide)).trans hN_13)
  have hN_14 : cu30 14 = .inl (B.2.1 0, 5, .inl (nF (fun _ => 0))) := (congrFun ecu30 _).trans ((va_up_ne _ _ (by decide)).trans hN_14)
  have hN_15 : cu30 15 = .inl (B.2.1 0, 5, .inl (nF (fun _ => 0))) := (congrFun ecu30 _).trans ((va_up_ne _ _ (by decide)).trans hN_15)
  have hN_16 : cu30 16 = .inl (B.2.1 2, 500000, .inl (nF (fun _ => 0))) := (congrFun ecu30 _).trans ((va_up_ne _ _ (by decide)).trans hN_16)
  have hN_17 : cu30 17 = .inl (B.2.1 2, 20000, .inl (nF (fun _ => 0))) := (congrFun ecu30 _).trans ((va_up_ne _ _ (by decide)).trans hN_17)
  have hN_18 : cu30 18 = .inl (B.2.1 0, 40, .inl (nF (fun _ => 0))) := (congrFun ecu30 _).trans ((va_up_ne _ _ (by decide)).trans hN_18)
  have hN_19 : cu30 19 = .inl (B.2.1 0, 40, .inl (nF (fun _ => 0))) := (congrFun ecu30 _).trans ((va_up_ne _ _ (by decide)).trans hN_19)
  have hN_20 : cu30 20 = .inl (B.2.1 0, 40, .inl (nF (fun _ => 0))) := (congrFun ecu30 _).trans ((va_up_ne _ _ (by decide)).trans hN_20)
  have hN_21 : cu30 21 = .inl (B.2.1 0, 40, .inl (nF (fun _ => 0))) := (congrFun ecu30 _).trans ((va_up_ne _ _ (by decide)).trans hN_21)
  have hN_22 : cu30 22 = .inl (B.2.1 0, 30, .inl (nF (fun _ => 0))) := (congrFun ecu30 _).trans ((va_up_ne _ _ (by decide)).trans hN_22)
  have hN_23 : cu30 23 = .inl (B.2.1 0, 30, .inl (nF (fun _ => 0))) := (congrFun ecu30 _).trans ((va_up_ne _ _ (by decide)).trans hN_23)
  have hN_24 : cu30 24 = .inl (B.2.1 1, 480016, .inr (.inl (lF (fun _ => 0)))) := (congrFun ecu30 _).trans ((va_up_ne _ _ (by decide)).trans hN_24)
  have hN_25 : cu30 25 = .inl (B.2.1 0, 40, .inl (nF (fun _ => 0))) := (congrFun ecu30 _).trans ((va_up_ne _ _ (by decide)).trans hN_25)
  have hN_26 : cu30 26 = .inl (B.2.1 0, 480, .inl (nF (fun _ => 0))) := (congrFun ecu30 _).trans ((va_up_ne _ _ (by decide)).trans hN_26)
  have hN_27 : cu30 27 = .inl (B.2.1 0, 480, .inl (nF (fun _ => 0))) := (congrFun ecu30 _).trans ((va_up_ne _ _ (by decide)).trans hN_27)
  have hN_28 : cu30 28 = .inl (B.2.1 0, 12, .inl (nF (fun _ => 0))) := (congrFun ecu30 _).trans ((va_up_ne _ _ (by decide)).trans hN_28)
  have hN_29 : cu30 29 = .inl (B.2.1 0, 80, .inl (nF (fun _ => 0))) := (congrFun ecu30 _).trans ((va_up_ne _ _ (by decide)).trans hN_29)
  refine g_aload_n fx 0 dX12_init_243 rfl ?_
  refine g_bipush (v := nI 80) fx dX12_init_244 (by decide +kernel) ?_
  refine g_newi (N := 80) fx (nI_toInt (by omega)) (by omega) ⟨by dsimp only; omega, by dsimp only; omega⟩ dX12_init_246 (fun ad_30 ct_30 hA_30 hC_30 hN_30 => ?_)
  refine g_same (L' := [(0, .ref (ad_30 0))]) (st' := [.ref (ad_30 30), .ref (ad_30 0)]) (by rw [hA_30 0 (by decide)]) (by rw [hA_30 0 (by decide)]) ?_
  have ho : ct_30 0 = .inr (12, [.ref (ad_30 1), .ref (ad_30 2), .ref (ad_30 3), .ref (ad_30 4), .int 0, .int 0, .ref (ad_30 5), .int 0, .ref (ad_30 6), .ref (ad_30 7), .ref (ad_30 8), .int 0, .int (-1), .int 0, .int 0, .ref (ad_30 9), .ref (ad_30 10), .ref (ad_30 11), .int 0, .int 0, .ref (ad_30 12), .ref (ad_30 13), .ref (ad_30 14), .ref (ad_30 15), .ref (ad_30 16), .int 0, .int 0, .int 0, .ref (ad_30 17), .ref (ad_30 18), .ref (ad_30 19), .ref (ad_30 20), .ref (ad_30 21), .ref (ad_30 22), .int 0, .ref (ad_30 23), .ref (ad_30 24), .ref (ad_30 25), .ref (ad_30 26), .ref (ad_30 27), .int 0, .ref (ad_30 28), .ref (ad_30 29), .null, .null, .int 0, .null]) := (hC_30 0 (by decide)).trans (ho.trans (by rw [hA_30 1 (by decide), hA_30 2 (by decide), hA_30 3 (by decide), hA_30 4 (by decide), hA_30 5 (by decide), hA_30 6 (by decide), hA_30 7 (by decide), hA_30 8 (by decide), hA_30 9 (by decide), hA_30 10 (by decide), hA_30 11 (by decide), hA_30 12 (by decide), hA_30 13 (by decide), hA_30 14 (by decide), hA_30 15 (by decide), hA_30 16 (by decide), hA_30 17 (by decide), hA_30 18 (by decide), hA_30 19 (by decide), hA_30 20 (by decide), hA_30 21 (by decide), hA_30 22 (by decide), hA_30 23 (by decide), hA_30 24 (by decide), hA_30 25 (by decide), hA_30 26 (by decide), hA_30 27 (by decide), hA_30 28 (by decide), hA_30 29 (by decide)]))
  have hN_1 : ct_30 1 = .inl (B.2.1 0, 40, .inl (nF (fun _ => 0))) := (hC_30 1 (by decide)).trans hN_1
  have hN_2 : ct_30 2 = .inl (B.2.1 0, 40, .inl (nF (fun _ => 0))) := (hC_30 2 (by decide)).trans hN_2
  have hN_3 : ct_30 3 = .inl (B.2.1 0, 40, .inl (nF (fun _ => 0))) := (hC_30 3 (by decide)).trans hN_3
  have hN_4 : ct_30 4 = .inl (B.2.1 0, 40, .inl (nF (fun _ => 0))) := (hC_30 4 (by decide)).trans hN_4
  have hN_5 : ct_30 5 = .inl (B.2.1 0, 25, .inl (nF (fun _ => 0))) := (hC_30 5 (by decide)).trans hN_5
  have hN_6 : ct_30 6 = .inl (B.2.1 0, 30, .inl (nF (fun _ => 0))) := (hC_30 6 (by decide)).trans hN_6
  have hN_7 : ct_30 7 = .inl (B.2.1 0, 2, .inl (nF (fun _ => 0))) := (hC_30 7 (by decide)).trans hN_7
  have hN_8 : ct_30 8 = .inl (B.2.1 0, 30, .inl (nF (fun _ => 0))) := (hC_30 8 (by decide)).trans hN_8
  have hN_9 : ct_30 9 = .inl (B.2.1 0, 160, .inl (nF (fun _ => 0))) := (hC_30 9 (by decide)).trans hN_9
  have hN_10 : ct_30 10 = .inl (B.2.1 0, 160, .inl (nF (fun _ => 0))) := (hC_30 10 (by decide)).trans hN_10
  have hN_11 : ct_30 11 = .inl (B.2.1 1, 60001, .inr (.inl (lF (fun _ => 0)))) := (hC_30 11 (by decide)).trans hN_11
  have hN_12 : ct_30 12 = .inl (B.2.1 0, 25, .inl (nF (fun _ => 0))) := (hC_30 12 (by decide)).trans hN_12
  have hN_13 : ct_30 13 = .inl (B.2.1 0, 25, .inl (nF (fun _ => 0))) := (hC_30 13 (by decide)).trans hN_13
  have hN_14 : ct_30 14 = .inl (B.2.1 0, 5, .inl (nF (fun _ => 0))) := (hC_30 14 (by decide)).trans hN_14
  have hN_15 : ct_30 15 = .inl (B.2.1 0, 5, .inl (nF (fun _ => 0))) := (hC_30 15 (by decide)).trans hN_15
  have hN_16 : ct_30 16 = .inl (B.2.1 2, 500000, .inl (nF (fun _ => 0))) := (hC_30 16 (by decide)).trans hN_16
  have hN_17 : ct_30 17 = .inl (B.2.1 2, 20000, .inl (nF (fun _ => 0))) := (hC_30 17 (by decide)).trans hN_17
  have hN_18 : ct_30 18 = .inl (B.2.1 0, 40, .inl (nF (fun _ => 0))) := (hC_30 18 (by decide)).trans hN_18
  have hN_19 : ct_30 19 = .inl (B.2.1 0, 40, .inl (nF (fun _ => 0))) := (hC_30 19 (by decide)).trans hN_19
  have hN_20 : ct_30 20 = .inl (B.2.1 0, 40, .inl (nF (fun _ => 0))) := (hC_30 20 (by decide)).trans hN_20
  have hN_21 : ct_30 21 = .inl (B.2.1 0, 40, .inl (nF (fun _ => 0))) := (hC_30 21 (by decide)).trans hN_21
  have hN_22 : ct_30 22 = .inl (B.2.1 0, 30, .inl (nF (fun _ => 0))) := (hC_30 22 (by decide)).trans hN_22
  have hN_23 : ct_30 23 = .inl (B.2.1 0, 30, .inl (nF (fun _ => 0))) := (hC_30 23 (by decide)).trans hN_23
  have hN_24 : ct_30 24 = .inl (B.2.1 1, 480016, .inr (.inl (lF (fun _ => 0)))) := (hC_30 24 (by decide)).trans hN_24
  have hN_25 : ct_30 25 = .inl (B.2.1 0, 40, .inl (nF (fun _ => 0))) := (hC_30 25 (by decide)).trans hN_25
  have hN_26 : ct_30 26 = .inl (B.2.1 0, 480, .inl (nF (fun _ => 0))) := (hC_30 26 (by decide)).trans hN_26
  have hN_27 : ct_30 27 = .inl (B.2.1 0, 480, .inl (nF (fun _ => 0))) := (hC_30 27 (by decide)).trans hN_27
  have hN_28 : ct_30 28 = .inl (B.2.1 0, 12, .inl (nF (fun _ => 0))) := (hC_30 28 (by decide)).trans hN_28
  have hN_29 : ct_30 29 = .inl (B.2.1 0, 80, .inl (nF (fun _ => 0))) := (hC_30 29 (by decide)).trans hN_29
  have hfra : ∀ r, r < 1 → ad_30 r = ad r := fun r hp => (hA_30 r (by omega)).trans (hfra r hp)
  refine g_putF (r := 0) (fs' := [.ref (ad_30 1), .ref (ad_30 2), .ref (ad_30 3), .ref (ad_30 4), .int 0, .int 0, .ref (ad_30 5), .int 0, .ref (ad_30 6), .ref (ad_30 7), .ref (ad_30 8), .int 0, .int (-1), .int 0, .int 0, .ref (ad_30 9), .ref (ad_30 10), .ref (ad_30 11), .int 0, .int 0, .ref (ad_30 12), .ref (ad_30 13), .ref (ad_30 14), .ref (ad_30 15), .ref (ad_30 16), .int 0, .int 0, .int 0, .ref (ad_30 17), .ref (ad_30 18), .ref (ad_30 19), .ref (ad_30 20), .ref (ad_30 21), .ref (ad_30 22), .int 0, .ref (ad_30 23), .ref (ad_30 24), .ref (ad_30 25), .ref (ad_30 26), .ref (ad_30 27), .int 0, .ref (ad_30 28), .ref (ad_30 29), .ref (ad_30 30), .null, .int 0, .null]) fx hnm lpX12_106 (by decide) ho rfl rfl (Nat.le_of_ble_eq_true rfl) rfl dX12_init_248 (fun cu31 ecu31 => ?_)
  have ho : cu31 0 = .inr (12, [.ref (ad_30 1), .ref (ad_30 2), .ref (ad_30 3), .ref (ad_30 4), .int 0, .int 0, .ref (ad_30 5), .int 0, .ref (ad_30 6), .ref (ad_30 7), .ref (ad_30 8), .int 0, .int (-1), .int 0, .int 0, .ref (ad_30 9), .ref (ad_30 10), .ref (ad_30 11), .int 0, .int 0, .ref (ad_30 12), .ref (ad_30 13), .ref (ad_30 14), .ref (ad_30 15), .ref (ad_30 16), .int 0, .int 0, .int 0, .ref (ad_30 17), .ref (ad_30 18), .ref (ad_30 19), .ref (ad_30 20), .ref (ad_30 21), .ref (ad_30 22), .int 0, .ref (ad_30 23), .ref (ad_30 24), .ref (ad_30 25), .ref (ad_30 26), .ref (ad_30 27), .int 0, .ref (ad_30 28), .ref (ad_30 29), .ref (ad_30 30), .null, .int 0, .null]) := by rw [ecu31, va_up_self]
  have hN_1 : cu31 1 = .inl (B.2.1 0, 40, .inl (nF (fun _ => 0))) := (congrFun ecu31 _).trans ((va_up_ne _ _ (by decide)).trans hN_1)
  have hN_2 : cu31 2 = .inl (B.2.1 0, 40, .inl (nF (fun _ => 0))) := (congrFun ecu31 _).trans ((va_up_ne _ _ (by decide)).trans hN_2)
  have hN_3 : cu31 3 = .inl (B.2.1 0, 40, .inl (nF (fun _ => 0))) := (congrFun ecu31 _).trans ((va_up_ne _ _ (by decide)).trans hN_3)
  have hN_4 : cu31 4 = .inl (B.2.1 0, 40, .inl (nF (fun _ => 0))) := (congrFun ecu31 _).trans ((va_up_ne _ _ (by decide)).trans hN_4)
  have hN_5 : cu31 5 = .inl (B.2.1 0, 25, .inl (nF (fun _ => 0))) := (congrFun ecu31 _).trans ((va_up_ne _ _ (by decide)).trans hN_5)
  have hN_6 : cu31 6 = .inl (B.2.1 0, 30, .inl (nF (fun _ => 0))) := (congrFun ecu31 _).trans ((va_up_ne _ _ (by decide)).trans hN_6)
  have hN_7 : cu31 7 = .inl (B.2.1 0, 2, .inl (nF (fun _ => 0))) := (congrFun ecu31 _).trans ((va_up_ne _ _ (by decide)).trans hN_7)
  have hN_8 : cu31 8 = .inl (B.2.1 0, 30, .inl (nF (fun _ => 0))) := (congrFun ecu31 _).trans ((va_up_ne _ _ (by decide)).trans hN_8)
  have hN_9 : cu31 9 = .inl (B.2.1 0, 160, .inl (nF (fun _ => 0))) := (congrFun ecu31 _).trans ((va_up_ne _ _ (by decide)).trans hN_9)
  have hN_10 : cu31 10 = .inl (B.2.1 0, 160, .inl (nF (fun _ => 0))) := (congrFun ecu31 _).trans ((va_up_ne _ _ (by decide)).trans hN_10)
  have hN_11 : cu31 11 = .inl (B.2.1 1, 60001, .inr (.inl (lF (fun _ => 0)))) := (congrFun ecu31 _).trans ((va_up_ne _ _ (by decide)).trans hN_11)
  have hN_12 : cu31 12 = .inl (B.2.1 0, 25, .inl (nF (fun _ => 0))) := (congrFun ecu31 _).trans ((va_up_ne _ _ (by decide)).trans hN_12)
  have hN_13 : cu31 13 = .inl (B.2.1 0, 25, .inl (nF (fun _ => 0))) := (congrFun ecu31 _).trans ((va_up_ne _ _ (by decide)).trans hN_13)
  have hN_14 : cu31 14 = .inl (B.2.1 0, 5, .inl (nF (fun _ => 0))) := (congrFun ecu31 _).trans ((va_up_ne _ _ (by decide)).trans hN_14)
  have hN_15 : cu31 15 = .inl (B.2.1 0, 5, .inl (nF (fun _ => 0))) := (congrFun ecu31 _).trans ((va_up_ne _ _ (by decide)).trans hN_15)
  have hN_16 : cu31 16 = .inl (B.2.1 2, 500000, .inl (nF (fun _ => 0))) := (congrFun ecu31 _).trans ((va_up_ne _ _ (by decide)).trans hN_16)
  have hN_17 : cu31 17 = .inl (B.2.1 2, 20000, .inl (nF (fun _ => 0))) := (congrFun ecu31 _).trans ((va_up_ne _ _ (by decide)).trans hN_17)
  have hN_18 : cu31 18 = .inl (B.2.1 0, 40, .inl (nF (fun _ => 0))) := (congrFun ecu31 _).trans ((va_up_ne _ _ (by decide)).trans hN_18)
  have hN_19 : cu31 19 = .inl (B.2.1 0, 40, .inl (nF (fun _ => 0))) := (congrFun ecu31 _).trans ((va_up_ne _ _ (by decide)).trans hN_19)
  have hN_20 : cu31 20 = .inl (B.2.1 0, 40, .inl (nF (fun _ => 0))) := (congrFun ecu31 _).trans ((va_up_ne _ _ (by decide)).trans hN_20)
  have hN_21 : cu31 21 = .inl (B.2.1 0, 40, .inl (nF (fun _ => 0))) := (congrFun ecu31 _).trans ((va_up_ne _ _ (by decide)).trans hN_21)
  have hN_22 : cu31 22 = .inl (B.2.1 0, 30, .inl (nF (fun _ => 0))) := (congrFun ecu31 _).trans ((va_up_ne _ _ (by decide)).trans hN_22)
  have hN_23 : cu31 23 = .inl (B.2.1 0, 30, .inl (nF (fun _ => 0))) := (congrFun ecu31 _).trans ((va_up_ne _ _ (by decide)).trans hN_23)
  have hN_24 : cu31 24 = .inl (B.2.1 1, 480016, .inr (.inl (lF (fun _ => 0)))) := (congrFun ecu31 _).trans ((va_up_ne _ _ (by decide)).trans hN_24)
  have hN_25 : cu31 25 = .inl (B.2.1 0, 40, .inl (nF (fun _ => 0))) := (congrFun ecu31 _).trans ((va_up_ne _ _ (by decide)).trans hN_25)
  have hN_26 : cu31 26 = .inl (B.2.1 0, 480, .inl (nF (fun _ => 0))) := (congrFun ecu31 _).trans ((va_up_ne _ _ (by decide)).trans hN_26)
  have hN_27 : cu31 27 = .inl (B.2.1 0, 480, .inl (nF (fun _ => 0))) := (congrFun ecu31 _).trans ((va_up_ne _ _ (by decide)).trans hN_27)
  have hN_28 : cu31 28 = .inl (B.2.1 0, 12, .inl (nF (fun _ => 0))) := (congrFun ecu31 _).trans ((va_up_ne _ _ (by decide)).trans hN_28)
  have hN_29 : cu31 29 = .inl (B.2.1 0, 80, .inl (nF (fun _ => 0))) := (congrFun ecu31 _).trans ((va_up_ne _ _ (by decide)).trans hN_29)
  have hN_30 : cu31 30 = .inl (B.2.1 0, 80, .inl (nF (fun _ => 0))) := (congrFun ecu31 _).trans ((va_up_ne _ _ (by decide)).trans hN_30)
  refine g_aload_n fx 0 dX12_init_251 rfl ?_
  refine g_bipush (v := nI 40) fx dX12_init_252 (by decide +kernel) ?_
  refine g_newi (N := 40) fx (nI_toInt (by omega)) (by omega) ⟨by dsimp only; omega, by dsimp only; omega⟩ dX12_init_254 (fun ad_31 ct_31 hA_31 hC_31 hN_31 => ?_)
  refine g_same (L' := [(0, .ref (ad_31 0))]) (st' := [.ref (ad_31 31), .ref (ad_31 0)]) (by rw [hA_31 0 (by decide)]) (by rw [hA_31 0 (by decide)]) ?_
  have ho : ct_31 0 = .inr (12, [.ref (ad_31 1), .ref (ad_31 2), .ref (ad_31 3), .ref (ad_31 4), .int 0, .int 0, .ref (ad_31 5), .int 0, .ref (ad_31 6), .ref (ad_31 7), .ref (ad_31 8), .int 0, .int (-1), .int 0, .int 0, .ref (ad_31 9), .ref (ad_31 10), .ref (ad_31 11), .int 0, .int 0, .ref (ad_31 12), .ref (ad_31 13), .ref (ad_31 14), .ref (ad_31 15), .ref (ad_31 16), .int 0, .int 0, .int 0, .ref (ad_31 17), .ref (ad_31 18), .ref (ad_31 19), .ref (ad_31 20), .ref (ad_31 21), .ref (ad_31 22), .int 0, .ref (ad_31 23), .ref (ad_31 24), .ref (ad_31 25), .ref (ad_31 26), .ref (ad_31 27), .int 0, .ref (ad_31 28), .ref (ad_31 29), .ref (ad_31 30), .null, .int 0, .null]) := (hC_31 0 (by decide)).trans (ho.trans (by rw [hA_31 1 (by decide), hA_31 2 (by decide), hA_31 3 (by decide), hA_31 4 (by decide), hA_31 5 (by decide), hA_31 6 (by decide), hA_31 7 (by decide), hA_31 8 (by decide), hA_31 9 (by decide), hA_31 10 (by decide), hA_31 11 (by decide), hA_31 12 (by decide), hA_31 13 (by decide), hA_31 14 (by decide), hA_31 15 (by decide), hA_31 16 (by decide), hA_31 17 (by decide), hA_31 18 (by decide), hA_31 19 (by decide), hA_31 20 (by decide), hA_31 21 (by decide), hA_31 22 (by decide), hA_31 23 (by decide), hA_31 24 (by decide), hA_31 25 (by decide), hA_31 26 (by decide), hA_31 27 (by decide), hA_31 28 (by decide), hA_31 29 (by decide), hA_31 30 (by decide)]))
  have hN_1 : ct_31 1 = .inl (B.2.1 0, 40, .inl (nF (fun _ => 0))) := (hC_31 1 (by decide)).trans hN_1
  have hN_2 : ct_31 2 = .inl (B.2.1 0, 40, .inl (nF (fun _ => 0))) := (hC_31 2 (by decide)).trans hN_2
  have hN_3 : ct_31 3 = .inl (B.2.1 0, 40, .inl (nF (fun _ => 0))) := (hC_31 3 (by decide)).trans hN_3
  have hN_4 : ct_31 4 = .inl (B.2.1 0, 40, .inl (nF (fun _ => 0))) := (hC_31 4 (by decide)).trans hN_4
  have hN_5 : ct_31 5 = .inl (B.2.1 0, 25, .inl (nF (fun _ => 0))) := (hC_31 5 (by decide)).trans hN_5
  have hN_6 : ct_31 6 = .inl (B.2.1 0, 30, .inl (nF (fun _ => 0))) := (hC_31 6 (by decide)).trans hN_6
  have hN_7 : ct_31 7 = .inl (B.2.1 0, 2, .inl (nF (fun _ => 0))) := (hC_31 7 (by decide)).trans hN_7
  have hN_8 : ct_31 8 = .inl (B.2.1 0, 30, .inl (nF (fun _ => 0))) := (hC_31 8 (by decide)).trans hN_8
  have hN_9 : ct_31 9 = .inl (B.2.1 0, 160, .inl (nF (fun _ => 0))) := (hC_31 9 (by decide)).trans hN_9
  have hN_10 : ct_31 10 = .inl (B.2.1 0, 160, .inl (nF (fun _ => 0))) := (hC_31 10 (by decide)).trans hN_10
  have hN_11 : ct_31 11 = .inl (B.2.1 1, 60001, .inr (.inl (lF (fun _ => 0)))) := (hC_31 11 (by decide)).trans hN_11
  have hN_12 : ct_31 12 = .inl (B.2.1 0, 25, .inl (nF (fun _ => 0))) := (hC_31 12 (by decide)).trans hN_12
  have hN_13 : ct_31 13 = .inl (B.2.1 0, 25, .inl (nF (fun _ => 0))) := (hC_31 13 (by decide)).trans hN_13
  have hN_14 : ct_31 14 = .inl (B.2.1 0, 5, .inl (nF (fun _ => 0))) := (hC_31 14 (by decide)).trans hN_14
  have hN_15 : ct_31 15 = .inl (B.2.1 0, 5, .inl (nF (fun _ => 0))) := (hC_31 15 (by decide)).trans hN_15
  have hN_16 : ct_31 16 = .inl (B.2.1 2, 500000, .inl (nF (fun _ => 0))) := (hC_31 16 (by decide)).trans hN_16
  have hN_17 : ct_31 17 = .inl (B.2.1 2, 20000, .inl (nF (fun _ => 0))) := (hC_31 17 (by decide)).trans hN_17
  have hN_18 : ct_31 18 = .inl (B.2.1 0, 40, .inl (nF (fun _ => 0))) := (hC_31 18 (by decide)).trans hN_18
  have hN_19 : ct_31 19 = .inl (B.2.1 0, 40, .inl (nF (fun _ => 0))) := (hC_31 19 (by decide)).trans hN_19
  have hN_20 : ct_31 20 = .inl (B.2.1 0, 40, .inl (nF (fun _ => 0))) := (hC_31 20 (by decide)).trans hN_20
  have hN_21 : ct_31 21 = .inl (B.2.1 0, 40, .inl (nF (fun _ => 0))) := (hC_31 21 (by decide)).trans hN_21
  have hN_22 : ct_31 22 = .inl (B.2.1 0, 30, .inl (nF (fun _ => 0))) := (hC_31 22 (by decide)).trans hN_22
  have hN_23 : ct_31 23 = .inl (B.2.1 0, 30, .inl (nF (fun _ => 0))) := (hC_31 23 (by decide)).trans hN_23
  have hN_24 : ct_31 24 = .inl (B.2.1 1, 480016, .inr (.inl (lF (fun _ => 0)))) := (hC_31 24 (by decide)).trans hN_24
  have hN_25 : ct_31 25 = .inl (B.2.1 0, 40, .inl (nF (fun _ => 0))) := (hC_31 25 (by decide)).trans hN_25
  have hN_26 : ct_31 26 = .inl (B.2.1 0, 480, .inl (nF (fun _ => 0))) := (hC_31 26 (by decide)).trans hN_26
  have hN_27 : ct_31 27 = .inl (B.2.1 0, 480, .inl (nF (fun _ => 0))) := (hC_31 27 (by decide)).trans hN_27
  have hN_28 : ct_31 28 = .inl (B.2.1 0, 12, .inl (nF (fun _ => 0))) := (hC_31 28 (by decide)).trans hN_28
  have hN_29 : ct_31 29 = .inl (B.2.1 0, 80, .inl (nF (fun _ => 0))) := (hC_31 29 (by decide)).trans hN_29
  have hN_30 : ct_31 30 = .inl (B.2.1 0, 80, .inl (nF (fun _ => 0))) := (hC_31 30 (by decide)).trans hN_30
  have hfra : ∀ r, r < 1 → ad_31 r = ad r := fun r hp => (hA_31 r (by omega)).trans (hfra r hp)
  refine g_putF (r := 0) (fs' := [.ref (ad_31 1), .ref (ad_31 2), .ref (ad_31 3), .ref (ad_31 4), .int 0, .int 0, .ref (ad_31 5), .int 0, .ref (ad_31 6), .ref (ad_31 7), .ref (ad_31 8), .int 0, .int (-1), .int 0, .int 0, .ref (ad_31 9), .ref (ad_31 10), .ref (ad_31 11), .int 0, .int 0, .ref (ad_31 12), .ref (ad_31 13), .ref (ad_31 14), .ref (ad_31 15), .ref (ad_31 16), .int 0, .int 0, .int 0, .ref (ad_31 17), .ref (ad_31 18), .ref (ad_31 19), .ref (ad_31 20), .ref (ad_31 21), .ref (ad_31 22), .int 0, .ref (ad_31 23), .ref (ad_31 24), .ref (ad_31 25), .ref (ad_31 26), .ref (ad_31 27), .int 0, .ref (ad_31 28), .ref (ad_31 29), .ref (ad_31 30), .ref (ad_31 31), .int 0, .null]) fx hnm lpX12_109 (by decide) ho rfl rfl (Nat.le_of_ble_eq_true rfl) rfl dX12_init_256 (fun cu32 ecu32 => ?_)
  have ho : cu32 0 = .inr (12, [.ref (ad_31 1), .ref (ad_31 2), .ref (ad_31 3), .ref (ad_31 4), .int 0, .int 0, .ref (ad_31 5), .int 0, .ref (ad_31 6), .ref (ad_31 7), .ref (ad_31 8), .int 0, .int (-1), .int 0, .int 0, .ref (ad_31 9), .ref (ad_31 10), .ref (ad_31 11), .int 0, .int 0, .ref (ad_31 12), .ref (ad_31 13), .ref (ad_31 14), .ref (ad_31 15), .ref (ad_31 16), .int 0, .int 0, .int 0, .ref (ad_31 17), .ref (ad_31 18), .ref (ad_31 19), .ref (ad_31 20), .ref (ad_31 21), .ref (ad_31 22), .int 0, .ref (ad_31 23), .ref (ad_31 24), .ref (ad_31 25), .ref (ad_31 26), .ref (ad_31 27), .int 0, .ref (ad_31 28), .ref (ad_31 29), .ref (ad_31 30), .ref (ad_31 31), .int 0, .null]) := by rw [ecu32, va_up_self]
  have hN_1 : cu32 1 = .inl (B.2.1 0, 40, .inl (nF (fun _ => 0))) := (congrFun ecu32 _).trans ((va_up_ne _ _ (by decide)).trans hN_1)
  have hN_2 : cu32 2 = .inl (B.2.1 0, 40, .inl (nF (fun _ => 0))) := (congrFun ecu32 _).trans ((va_up_ne _ _ (by decide)).trans hN_2)
  have hN_3 : cu32 3 = .inl (B.2.1 0, 40, .inl (nF (fun _ => 0))) := (congrFun ecu32 _).trans ((va_up_ne _ _ (by decide)).trans hN_3)
  have hN_4 : cu32 4 = .inl (B.2.1 0, 40, .inl (nF (fun _ => 0))) := (congrFun ecu32 _).trans ((va_up_ne _ _ (by decide)).trans hN_4)
  have hN_5 : cu32 5 = .inl (B.2.1 0, 25, .inl (nF (fun _ => 0))) := (congrFun ecu32 _).trans ((va_up_ne _ _ (by decide)).trans hN_5)
  have hN_6 : cu32 6 = .inl (B.2.1 0, 30, .inl (nF (fun _ => 0))) := (congrFun ecu32 _).trans ((va_up_ne _ _ (by decide)).trans hN_6)
  have hN_7 : cu32 7 = .inl (B.2.1 0, 2, .inl (nF (fun _ => 0))) := (congrFun ecu32 _).trans ((va_up_ne _ _ (by decide)).trans hN_7)
  have hN_8 : cu32 8 = .inl (B.2.1 0, 30, .inl (nF (fun _ => 0))) := (congrFun ecu32 _).trans ((va_up_ne _ _ (by decide)).trans hN_8)
  have hN_9 : cu32 9 = .inl (B.2.1 0, 160, .inl (nF (fun _ => 0))) := (congrFun ecu32 _).trans ((va_up_ne _ _ (by decide)).trans hN_9)
  have hN_10 : cu32 10 = .inl (B.2.1 0, 160, .inl (nF (fun _ => 0))) := (congrFun ecu32 _).trans ((va_up_ne _ _ (by decide)).trans hN_10)
  have hN_11 : cu32 11 = .inl (B.2.1 1, 60001, .inr (.inl (lF (fun _ => 0)))) := (congrFun ecu32 _).trans ((va_up_ne _ _ (by decide)).trans hN_11)
  have hN_12 : cu32 12 = .inl (B.2.1 0, 25, .inl (nF (fun _ => 0))) := (congrFun ecu32 _).trans ((va_up_ne _ _ (by decide)).trans hN_12)
  have hN_13 : cu32 13 = .inl (B.2.1 0, 25, .inl (nF (fun _ => 0))) := (congrFun ecu32 _).trans ((va_up_ne _ _ (by decide)).trans hN_13)
  have hN_14 : cu32 14 = .inl (B.2.1 0, 5, .inl (nF (fun _ => 0))) := (congrFun ecu32 _).trans ((va_up_ne _ _ (by decide)).trans hN_14)
  have hN_15 : cu32 15 = .inl (B.2.1 0, 5, .inl (nF (fun _ => 0))) := (congrFun ecu32 _).trans ((va_up_ne _ _ (by decide)).trans hN_15)
  have hN_16 : cu32 16 = .inl (B.2.1 2, 500000, .inl (nF (fun _ => 0))) := (congrFun ecu32 _).trans ((va_up_ne _ _ (by decide)).trans hN_16)
  have hN_17 : cu32 17 = .inl (B.2.1 2, 20000, .inl (nF (fun _ => 0))) := (congrFun ecu32 _).trans ((va_up_ne _ _ (by decide)).trans hN_17)
  have hN_18 : cu32 18 = .inl (B.2.1 0, 40, .inl (nF (fun _ => 0))) := (congrFun ecu32 _).trans ((va_up_ne _ _ (by decide)).trans hN_18)
  have hN_19 : cu32 19 = .inl (B.2.1 0, 40, .inl (nF (fun _ => 0))) := (congrFun ecu32 _).trans ((va_up_ne _ _ (by decide)).trans hN_19)
  have hN_20 : cu32 20 = .inl (B.2.1 0, 40, .inl (nF (fun _ => 0))) := (congrFun ecu32 _).trans ((va_up_ne _ _ (by decide)).trans hN_20)
  have hN_21 : cu32 21 = .inl (B.2.1 0, 40, .inl (nF (fun _ => 0))) := (congrFun ecu32 _).trans ((va_up_ne _ _ (by decide)).trans hN_21)
  have hN_22 : cu32 22 = .inl (B.2.1 0, 30, .inl (nF (fun _ => 0))) := (congrFun ecu32 _).trans ((va_up_ne _ _ (by decide)).trans hN_22)
  have hN_23 : cu32 23 = .inl (B.2.1 0, 30, .inl (nF (fun _ => 0))) := (congrFun ecu32 _).trans ((va_up_ne _ _ (by decide)).trans hN_23)
  have hN_24 : cu32 24 = .inl (B.2.1 1, 480016, .inr (.inl (lF (fun _ => 0)))) := (congrFun ecu32 _).trans ((va_up_ne _ _ (by decide)).trans hN_24)
  have hN_25 : cu32 25 = .inl (B.2.1 0, 40, .inl (nF (fun _ => 0))) := (congrFun ecu32 _).trans ((va_up_ne _ _ (by decide)).trans hN_25)
  have hN_26 : cu32 26 = .inl (B.2.1 0, 480, .inl (nF (fun _ => 0))) := (congrFun ecu32 _).trans ((va_up_ne _ _ (by decide)).trans hN_26)
  have hN_27 : cu32 27 = .inl (B.2.1 0, 480, .inl (nF (fun _ => 0))) := (congrFun ecu32 _).trans ((va_up_ne _ _ (by decide)).trans hN_27)
  have hN_28 : cu32 28 = .inl (B.2.1 0, 12, .inl (nF (fun _ => 0))) := (congrFun ecu32 _).trans ((va_up_ne _ _ (by decide)).trans hN_28)
  have hN_29 : cu32 29 = .inl (B.2.1 0, 80, .inl (nF (fun _ => 0))) := (congrFun ecu32 _).trans ((va_up_ne _ _ (by decide)).trans hN_29)
  have hN_30 : cu32 30 = .inl (B.2.1 0, 80, .inl (nF (fun _ => 0))) := (congrFun ecu32 _).trans ((va_up_ne _ _ (by decide)).trans hN_30)
  have hN_31 : cu32 31 = .inl (B.2.1 0, 40, .inl (nF (fun _ => 0))) := (congrFun ecu32 _).trans ((va_up_ne _ _ (by decide)).trans hN_31)
  refine g_aload_n fx 0 dX12_init_259 rfl ?_
  refine g_sipush (v := nI 225) fx dX12_init_260 (by decide +kernel) ?_
  refine g_newi (N := 225) fx (nI_toInt (by omega)) (by omega) ⟨by dsimp only; omega, by dsimp only; omega⟩ dX12_init_263 (fun ad_32 ct_32 hA_32 hC_32 hN_32 => ?_)
  refine g_same (L' := [(0, .ref (ad_32 0))]) (st' := [.ref (ad_32 32), .ref (ad_32 0)]) (by rw [hA_32 0 (by decide)]) (by rw [hA_32 0 (by decide)]) ?_
  have ho : ct_32 0 = .inr (12, [.ref (ad_32 1), .ref (ad_32 2), .ref (ad_32 3), .ref (ad_32 4), .int 0, .int 0, .ref (ad_32 5), .int 0, .ref (ad_32 6), .ref (ad_32 7), .ref (ad_32 8), .int 0, .int (-1), .int 0, .int 0, .ref (ad_32 9), .ref (ad_32 10), .ref (ad_32 11), .int 0, .int 0, .ref (ad_32 12), .ref (ad_32 13), .ref (ad_32 14), .ref (ad_32 15), .ref (ad_32 16), .int 0, .int 0, .int 0, .ref (ad_32 17), .ref (ad_32 18), .ref (ad_32 19), .ref (ad_32 20), .ref (ad_32 21), .ref (ad_32 22), .int 0, .ref (ad_32 23), .ref (ad_32 24), .ref (ad_32 25), .ref (ad_32 26), .ref (ad_32 27), .int 0, .ref (ad_32 28), .ref (ad_32 29), .ref (ad_32 30), .ref (ad_32 31), .int 0, .null]) := (hC_32 0 (by decide)).trans (ho.trans (by rw [hA_32 1 (by decide), hA_32 2 (by decide), hA_32 3 (by decide), hA_32 4 (by decide), hA_32 5 (by decide), hA_32 6 (by decide), hA_32 7 (by decide), hA_32 8 (by decide), hA_32 9 (by decide), hA_32 10 (by decide), hA_32 11 (by decide), hA_32 12 (by decide), hA_32 13 (by decide), hA_32 14 (by decide), hA_32 15 (by decide), hA_32 16 (by decide), hA_32 17 (by decide), hA_32 18 (by decide), hA_32 19 (by decide), hA_32 20 (by decide), hA_32 21 (by decide), hA_32 22 (by decide), hA_32 23 (by decide), hA_32 24 (by decide), hA_32 25 (by decide), hA_32 26 (by decide), hA_32 27 (by decide), hA_32 28 (by decide), hA_32 29 (by decide), hA_32 30 (by decide), hA_32 31 (by decide)]))
  have hN_1 : ct_32 1 = .inl (B.2.1 0, 40, .inl (nF (fun _ => 0))) := (hC_32 1 (by decide)).trans hN_1
  have hN_2 : ct_32 2 = .inl (B.2.1 0, 40, .inl (nF (fun _ => 0))) := (hC_32 2 (by decide)).trans hN_2
  have hN_3 : ct_32 3 = .inl (B.2.1 0, 40, .inl (nF (fun _ => 0))) := (hC_32 3 (by decide)).trans hN_3
  have hN_4 : ct_32 4 = .inl (B.2.1 0, 40, .inl (nF (fun _ => 0))) := (hC_32 4 (by decide)).trans hN_4
  have hN_5 : ct_32 5 = .inl (B.2.1 0, 25, .inl (nF (fun _ => 0))) := (hC_32 5 (by decide)).trans hN_5
  have hN_6 : ct_32 6 = .inl (B.2.1 0, 30, .inl (nF (fun _ => 0))) := (hC_32 6 (by decide)).trans hN_6
  have hN_7 : ct_32 7 = .inl (B.2.1 0, 2, .inl (nF (fun _ => 0))) := (hC_32 7 (by decide)).trans hN_7
  have hN_8 : ct_32 8 = .inl (B.2.1 0, 30, .inl (nF (fun _ => 0))) := (hC_32 8 (by decide)).trans hN_8
  have hN_9 : ct_32 9 = .inl (B.2.1 0, 160, .inl (nF (fun _ => 0))) := (hC_32 9 (by decide)).trans hN_9
  have hN_10 : ct_32 10 = .inl (B.2.1 0, 160, .inl (nF (fun _ => 0))) := (hC_32 10 (by decide)).trans hN_10
  have hN_11 : ct_32 11 = .inl (B.2.1 1, 60001, .inr (.inl (lF (fun _ => 0)))) := (hC_32 11 (by decide)).trans hN_11
  have hN_12 : ct_32 12 = .inl (B.2.1 0, 25, .inl (nF (fun _ => 0))) := (hC_32 12 (by decide)).trans hN_12
  have hN_13 : ct_32 13 = .inl (B.2.1 0, 25, .inl (nF (fun _ => 0))) := (hC_32 13 (by decide)).trans hN_13
  have hN_14 : ct_32 14 = .inl (B.2.1 0, 5, .inl (nF (fun _ => 0))) := (hC_32 14 (by decide)).trans hN_14
  have hN_15 : ct_32 15 = .inl (B.2.1 0, 5, .inl (nF (fun _ => 0))) := (hC_32 15 (by decide)).trans hN_15
  have hN_16 : ct_32 16 = .inl (B.2.1 2, 500000, .inl (nF (fun _ => 0))) := (hC_32 16 (by decide)).trans hN_16
  have hN_17 : ct_32 17 = .inl (B.2.1 2, 20000, .inl (nF (fun _ => 0))) := (hC_32 17 (by decide)).trans hN_17
  have hN_18 : ct_32 18 = .inl (B.2.1 0, 40, .inl (nF (fun _ => 0))) := (hC_32 18 (by decide)).trans hN_18
  have hN_19 : ct_32 19 = .inl (B.2.1 0, 40, .inl (nF (fun _ => 0))) := (hC_32 19 (by decide)).trans hN_19
  have hN_20 : ct_32 20 = .inl (B.2.1 0, 40, .inl (nF (fun _ => 0))) := (hC_32 20 (by decide)).trans hN_20
  have hN_21 : ct_32 21 = .inl (B.2.1 0, 40, .inl (nF (fun _ => 0))) := (hC_32 21 (by decide)).trans hN_21
  have hN_22 : ct_32 22 = .inl (B.2.1 0, 30, .inl (nF (fun _ => 0))) := (hC_32 22 (by decide)).trans hN_22
  have hN_23 : ct_32 23 = .inl (B.2.1 0, 30, .inl (nF (fun _ => 0))) := (hC_32 23 (by decide)).trans hN_23
  have hN_24 : ct_32 24 = .inl (B.2.1 1, 480016, .inr (.inl (lF (fun _ => 0)))) := (hC_32 24 (by decide)).trans hN_24
  have hN_25 : ct_32 25 = .inl (B.2.1 0, 40, .inl (nF (fun _ => 0))) := (hC_32 25 (by decide)).trans hN_25
  have hN_26 : ct_32 26 = .inl (B.2.1 0, 480, .inl (nF (fun _ => 0))) := (hC_32 26 (by decide)).trans hN_26
  have hN_27 : ct_32 27 = .inl (B.2.1 0, 480, .inl (nF (fun _ => 0))) := (hC_32 27 (by decide)).trans hN_27
  have hN_28 : ct_32 28 = .inl (B.2.1 0, 12, .inl (nF (fun _ => 0))) := (hC_32 28 (by decide)).trans hN_28
  have hN_29 : ct_32 29 = .inl (B.2.1 0, 80, .inl (nF (fun _ => 0))) := (hC_32 29 (by decide)).trans hN_29
  have hN_30 : ct_32 30 = .inl (B.2.1 0, 80, .inl (nF (fun _ => 0))) := (hC_32 30 (by decide)).trans hN_30
  have hN_31 : ct_32 31 = .inl (B.2.1 0, 40, .inl (nF (fun _ => 0))) := (hC_32 31 (by decide)).trans hN_31
  have hfra : ∀ r, r < 1 → ad_32 r = ad r := fun r hp => (hA_32 r (by omega)).trans (hfra r hp)
  refine g_putF (r := 0) (fs' := [.ref (ad_32 1), .ref (ad_32 2), .ref (ad_32 3), .ref (ad_32 4), .int 0, .int 0, .ref (ad_32 5), .int 0, .ref (ad_32 6), .ref (ad_32 7), .ref (ad_32 8), .int 0, .int (-1), .int 0, .int 0, .ref (ad_32 9), .ref (ad_32 10), .ref (ad_32 11), .int 0, .int 0, .ref (ad_32 12), .ref (ad_32 13), .ref (ad_32 14), .ref (ad_32 15), .ref (ad_32 16), .int 0, .int 0, .int 0, .ref (ad_32 17), .ref (ad_32 18), .ref (ad_32 19), .ref (ad_32 20), .ref (ad_32 21), .ref (ad_32 22), .int 0, .ref (ad_32 23), .ref (ad_32 24), .ref (ad_32 25), .ref (ad_32 26), .ref (ad_32 27), .int 0, .ref (ad_32 28), .ref (ad_32 29), .ref (ad_32 30), .ref (ad_32 31), .int 0, .ref (ad_32 32)]) fx hnm lpX12_112 (by decide) ho rfl rfl (Nat.le_of_ble_eq_true rfl) rfl dX12_init_265 (fun cu33 ecu33 => ?_)
  have ho : cu33 0 = .inr (12, [.ref (ad_32 1), .ref (ad_32 2), .ref (ad_32 3), .ref (ad_32 4), .int 0, .int 0, .ref (ad_32 5), .int 0, .ref (ad_32 6), .ref (ad_32 7), .ref (ad_32 8), .int 0, .int (-1), .int 0, .int 0, .ref (ad_32 9), .ref (ad_32 10), .ref (ad_32 11), .int 0, .int 0, .ref (ad_32 12), .ref (ad_32 13), .ref (ad_32 14), .ref (ad_32 15), .ref (ad_32 16), .int 0, .int 0, .int 0, .ref (ad_32 17), .ref (ad_32 18), .ref (ad_32 19), .ref (ad_32 20), .ref (ad_32 21), .ref (ad_32 22), .int 0, .ref (ad_32 23), .ref (ad_32 24), .ref (ad_32 25), .ref (ad_32 26), .ref (ad_32 27), .int 0, .ref (ad_32 28), .ref (ad_32 29), .ref (ad_32 30), .ref (ad_32 31), .int 0, .ref (ad_32 32)]) := by rw [ecu33, va_up_self]
  have hN_1 : cu33 1 = .inl (B.2.1 0, 40, .inl (nF (fun _ => 0))) := (congrFun ecu33 _).trans ((va_up_ne _ _ (by decide)).trans hN_1)
  have hN_2 : cu33 2 = .inl (B.2.1 0, 40, .inl (nF (fun _ => 0))) := (congrFun ecu33 _).trans ((va_up_ne _ _ (by decide)).trans hN_2)
  have hN_3 : cu33 3 = .inl (B.2.1 0, 40, .inl (nF (fun _ => 0))) := (congrFun ecu33 _).trans ((va_up_ne _ _ (by decide)).trans hN_3)
  have hN_4 : cu33 4 = .inl (B.2.1 0, 40, .inl (nF (fun _ => 0))) := (congrFun ecu33 _).trans ((va_up_ne _ _ (by decide)).trans hN_4)
  have hN_5 : cu33 5 = .inl (B.2.1 0, 25, .inl (nF (fun _ => 0))) := (congrFun ecu33 _).trans ((va_up_ne _ _ (by decide)).trans hN_5)
  have hN_6 : cu33 6 = .inl (B.2.1 0, 30, .inl (nF (fun _ => 0))) := (congrFun ecu33 _).trans ((va_up_ne _ _ (by decide)).trans hN_6)
  have hN_7 : cu33 7 = .inl (B.2.1 0, 2, .inl (nF (fun _ => 0))) := (congrFun ecu33 _).trans ((va_up_ne _ _ (by decide)).trans hN_7)
  have hN_8 : cu33 8 = .inl (B.2.1 0, 30, .inl (nF (fun _ => 0))) := (congrFun ecu33 _).trans ((va_up_ne _ _ (by decide)).trans hN_8)
  have hN_9 : cu33 9 = .inl (B.2.1 0, 160, .inl (nF (fun _ => 0))) := (congrFun ecu33 _).trans ((va_up_ne _ _ (by decide)).trans hN_9)
  have hN_10 : cu33 10 = .inl (B.2.1 0, 160, .inl (nF (fun _ => 0))) := (congrFun ecu33 _).trans ((va_up_ne _ _ (by decide)).trans hN_10)
  have hN_11 : cu33 11 = .inl (B.2.1 1, 60001, .inr (.inl (lF (fun _ => 0)))) := (congrFun ecu33 _).trans ((va_up_ne _ _ (by decide)).trans hN_11)
  have hN_12 : cu33 12 = .inl (B.2.1 0, 25, .inl (nF (fun _ => 0))) := (congrFun ecu33 _).trans ((va_up_ne _ _ (by decide)).trans hN_12)
  have hN_13 : cu33 13 = .inl (B.2.1 0, 25, .inl (nF (fun _ => 0))) := (congrFun ecu33 _).trans ((va_up_ne _ _ (by decide)).trans hN_13)
  have hN_14 : cu33 14 = .inl (B.2.1 0, 5, .inl (nF (fun _ => 0))) := (congrFun ecu33 _).trans ((va_up_ne _ _ (by decide)).trans hN_14)
  have hN_15 : cu33 15 = .inl (B.2.1 0, 5, .inl (nF (fun _ => 0))) := (congrFun ecu33 _).trans ((va_up_ne _ _ (by decide)).trans hN_15)
  have hN_16 : cu33 16 = .inl (B.2.1 2, 500000, .inl (nF (fun _ => 0))) := (congrFun ecu33 _).trans ((va_up_ne _ _ (by decide)).trans hN_16)
  have hN_17 : cu33 17 = .inl (B.2.1 2, 20000, .inl (nF (fun _ => 0))) := (congrFun ecu33 _).trans ((va_up_ne _ _ (by decide)).trans hN_17)
  have hN_18 : cu33 18 = .inl (B.2.1 0, 40, .inl (nF (fun _ => 0))) := (congrFun ecu33 _).trans ((va_up_ne _ _ (by decide)).trans hN_18)
  have hN_19 : cu33 19 = .inl (B.2.1 0, 40, .inl (nF (fun _ => 0))) := (congrFun ecu33 _).trans ((va_up_ne _ _ (by decide)).trans hN_19)
  have hN_20 : cu33 20 = .inl (B.2.1 0, 40, .inl (nF (fun _ => 0))) := (congrFun ecu33 _).trans ((va_up_ne _ _ (by decide)).trans hN_20)
  have hN_21 : cu33 21 = .inl (B.2.1 0, 40, .inl (nF (fun _ => 0))) := (congrFun ecu33 _).trans ((va_up_ne _ _ (by decide)).trans hN_21)
  have hN_22 : cu33 22 = .inl (B.2.1 0, 30, .inl (nF (fun _ => 0))) := (congrFun ecu33 _).trans ((va_up_ne _ _ (by decide)).trans hN_22)
  have hN_23 : cu33 23 = .inl (B.2.1 0, 30, .inl (nF (fun _ => 0))) := (congrFun ecu33 _).trans ((va_up_ne _ _ (by decide)).trans hN_23)
  have hN_24 : cu33 24 = .inl (B.2.1 1, 480016, .inr (.inl (lF (fun _ => 0)))) := (congrFun ecu33 _).trans ((va_up_ne _ _ (by decide)).trans hN_24)
  have hN_25 : cu33 25 = .inl (B.2.1 0, 40, .inl (nF (fun _ => 0))) := (congrFun ecu33 _).trans ((va_up_ne _ _ (by decide)).trans hN_25)
  have hN_26 : cu33 26 = .inl (B.2.1 0, 480, .inl (nF (fun _ => 0))) := (congrFun ecu33 _).trans ((va_up_ne _ _ (by decide)).trans hN_26)
  have hN_27 : cu33 27 = .inl (B.2.1 0, 480, .inl (nF (fun _ => 0))) := (congrFun ecu33 _).trans ((va_up_ne _ _ (by decide)).trans hN_27)
  have hN_28 : cu33 28 = .inl (B.2.1 0, 12, .inl (nF (fun _ => 0))) := (congrFun ecu33 _).trans ((va_up_ne _ _ (by decide)).trans hN_28)
  have hN_29 : cu33 29 = .inl (B.2.1 0, 80, .inl (nF (fun _ => 0))) := (congrFun ecu33 _).trans ((va_up_ne _ _ (by decide)).trans hN_29)
  have hN_30 : cu33 30 = .inl (B.2.1 0, 80, .inl (nF (fun _ => 0))) := (congrFun ecu33 _).trans ((va_up_ne _ _ (by decide)).trans hN_30)
  have hN_31 : cu33 31 = .inl (B.2.1 0, 40, .inl (nF (fun _ => 0))) := (congrFun ecu33 _).trans ((va_up_ne _ _ (by decide)).trans hN_31)
  have hN_32 : cu33 32 = .inl (B.2.1 0, 225, .inl (nF (fun _ => 0))) := (congrFun ecu33 _).trans ((va_up_ne _ _ (by decide)).trans hN_32)
  refine g_aload_n fx 0 dX12_init_268 rfl ?_
  refine g_iconst (v := nI 1) fx dX12_init_269 (by decide +kernel) ?_
  refine g_put (r := 0) (fs' := [.ref (ad_32 1), .ref (ad_32 2), .ref (ad_32 3), .ref (ad_32 4), .int (nI 1), .int 0, .ref (ad_32 5), .int 0, .ref (ad_32 6), .ref (ad_32 7), .ref (ad_32 8), .int 0, .int (-1), .int 0, .int 0, .ref (ad_32 9), .ref (ad_32 10), .ref (ad_32 11), .int 0, .int 0, .ref (ad_32 12), .ref (ad_32 13), .ref (ad_32 14), .ref (ad_32 15), .ref (ad_32 16), .int 0, .int 0, .int 0, .ref (ad_32 17), .ref (ad_32 18), .ref (ad_32 19), .ref (ad_32 20), .ref (ad_32 21), .ref (ad_32 22), .int 0, .ref (ad_32 23), .ref (ad_32 24), .ref (ad_32 25), .ref (ad_32 26), .ref (ad_32 27), .int 0, .ref (ad_32 28), .ref (ad_32 29), .ref (ad_32 30), .ref (ad_32 31), .int 0, .ref (ad_32 32)]) fx lpX12_115 (by decide) ho rfl rfl (Nat.le_of_ble_eq_true rfl) rfl dX12_init_270 (fun cu34 ecu34 => ?_)
  have ho : cu34 0 = .inr (12, [.ref (ad_32 1), .ref (ad_32 2), .ref (ad_32 3), .ref (ad_32 4), .int (nI 1), .int 0, .ref (ad_32 5), .int 0, .ref (ad_32 6), .ref (ad_32 7), .ref (ad_32 8), .int 0, .int (-1), .int 0, .int 0, .ref (ad_32 9), .ref (ad_32 10), .ref (ad_32 11), .int 0, .int 0, .ref (ad_32 12), .ref (ad_32 13), .ref (ad_32 14), .ref (ad_32 15), .ref (ad_32 16), .int 0, .int 0, .int 0, .ref (ad_32 17), .ref (ad_32 18), .ref (ad_32 19), .ref (ad_32 20), .ref (ad_32 21), .ref (ad_32 22), .int 0, .ref (ad_32 23), .ref (ad_32 24), .ref (ad_32 25), .ref (ad_32 26), .ref (ad_32 27), .int 0, .ref (ad_32 28), .ref (ad_32 29), .ref (ad_32 30), .ref (ad_32 31), .int 0, .ref (ad_32 32)]) := by rw [ecu34, va_up_self]
  have hN_1 : cu34 1 = .inl (B.2.1 0, 40, .inl (nF (fun _ => 0))) := (congrFun ecu34 _).trans ((va_up_ne _ _ (by decide)).trans hN_1)
  have hN_2 : cu34 2 = .inl (B.2.1 0, 40, .inl (nF (fun _ => 0))) := (congrFun ecu34 _).trans ((va_up_ne _ _ (by decide)).trans hN_2)
  have hN_3 : cu34 3 = .inl (B.2.1 0, 40, .inl (nF (fun _ => 0))) := (congrFun ecu34 _).trans ((va_up_ne _ _ (by decide)).trans hN_3)
  have hN_4 : cu34 4 = .inl (B.2.1 0, 40, .inl (nF (fun _ => 0))) := (congrFun ecu34 _).trans ((va_up_ne _ _ (by decide)).trans hN_4)
  have hN_5 : cu34 5 = .inl (B.2.1 0, 25, .inl (nF (fun _ => 0))) := (congrFun ecu34 _).trans ((va_up_ne _ _ (by decide)).trans hN_5)
  have hN_6 : cu34 6 = .inl (B.2.1 0, 30, .inl (nF (fun _ => 0))) := (congrFun ecu34 _).trans ((va_up_ne _ _ (by decide)).trans hN_6)
  have hN_7 : cu34 7 = .inl (B.2.1 0, 2, .inl (nF (fun _ => 0))) := (congrFun ecu34 _).trans ((va_up_ne _ _ (by decide)).trans hN_7)
  have hN_8 : cu34 8 = .inl (B.2.1 0, 30, .inl (nF (fun _ => 0))) := (congrFun ecu34 _).trans ((va_up_ne _ _ (by decide)).trans hN_8)
  have hN_9 : cu34 9 = .inl (B.2.1 0, 160, .inl (nF (fun _ => 0))) := (congrFun ecu34 _).trans ((va_up_ne _ _ (by decide)).trans hN_9)
  have hN_10 : cu34 10 = .inl (B.2.1 0, 160, .inl (nF (fun _ => 0))) := (congrFun ecu34 _).trans ((va_up_ne _ _ (by decide)).trans hN_10)
  have hN_11 : cu34 11 = .inl (B.2.1 1, 60001, .inr (.inl (lF (fun _ => 0)))) := (congrFun ecu34 _).trans ((va_up_ne _ _ (by decide)).trans hN_11)
  have hN_12 : cu34 12 = .inl (B.2.1 0, 25, .inl (nF (fun _ => 0))) := (congrFun ecu34 _).trans ((va_up_ne _ _ (by decide)).trans hN_12)
  have hN_13 : cu34 13 = .inl (B.2.1 0, 25, .inl (nF (fun _ => 0))) := (congrFun ecu34 _).trans ((va_up_ne _ _ (by decide)).trans hN_13)
  have hN_14 : cu34 14 = .inl (B.2.1 0, 5, .inl (nF (fun _ => 0))) := (congrFun ecu34 _).trans ((va_up_ne _ _ (by decide)).trans hN_14)
  have hN_15 : cu34 15 = .inl (B.2.1 0, 5, .inl (nF (fun _ => 0))) := (congrFun ecu34 _).trans ((va_up_ne _ _ (by decide)).trans hN_15)
  have hN_16 : cu34 16 = .inl (B.2.1 2, 500000, .inl (nF (fun _ => 0))) := (congrFun ecu34 _).trans ((va_up_ne _ _ (by decide)).trans hN_16)
  have hN_17 : cu34 17 = .inl (B.2.1 2, 20000, .inl (nF (fun _ => 0))) := (congrFun ecu34 _).trans ((va_up_ne _ _ (by decide)).trans hN_17)
  have hN_18 : cu34 18 = .inl (B.2.1 0, 40, .inl (nF (fun _ => 0))) := (congrFun ecu34 _).trans ((va_up_ne _ _ (by decide)).trans hN_18)
  have hN_19 : cu34 19 = .inl (B.2.1 0, 40, .inl (nF (fun _ => 0))) := (congrFun ecu34 _).trans ((va_up_ne _ _ (by decide)).trans hN_19)
  have hN_20 : cu34 20 = .inl (B.2.1 0, 40, .inl (nF (fun _ => 0))) := (congrFun ecu34 _).trans ((va_up_ne _ _ (by decide)).trans hN_20)
  have hN_21 : cu34 21 = .inl (B.2.1 0, 40, .inl (nF (fun _ => 0))) := (congrFun ecu34 _).trans ((va_up_ne _ _ (by decide)).trans hN_21)
  have hN_22 : cu34 22 = .inl (B.2.1 0, 30, .inl (nF (fun _ => 0))) := (congrFun ecu34 _).trans ((va_up_ne _ _ (by decide)).trans hN_22)
  have hN_23 : cu34 23 = .inl (B.2.1 0, 30, .inl (nF (fun _ => 0))) := (congrFun ecu34 _).trans ((va_up_ne _ _ (by decide)).trans hN_23)
  have hN_24 : cu34 24 = .inl (B.2.1 1, 480016, .inr (.inl (lF (fun _ => 0)))) := (congrFun ecu34 _).trans ((va_up_ne _ _ (by decide)).trans hN_24)
  have hN_25 : cu34 25 = .inl (B.2.1 0, 40, .inl (nF (fun _ => 0))) := (congrFun ecu34 _).trans ((va_up_ne _ _ (by decide)).trans hN_25)
  have hN_26 : cu34 26 = .inl (B.2.1 0, 480, .inl (nF (fun _ => 0))) := (congrFun ecu34 _).trans ((va_up_ne _ _ (by decide)).trans hN_26)
  have hN_27 : cu34 27 = .inl (B.2.1 0, 480, .inl (nF (fun _ => 0))) := (congrFun ecu34 _).trans ((va_up_ne _ _ (by decide)).trans hN_27)
  have hN_28 : cu34 28 = .inl (B.2.1 0, 12, .inl (nF (fun _ => 0))) := (congrFun ecu34 _).trans ((va_up_ne _ _ (by decide)).trans hN_28)
  have hN_29 : cu34 29 = .inl (B.2.1 0, 80, .inl (nF (fun _ => 0))) := (congrFun ecu34 _).trans ((va_up_ne _ _ (by decide)).trans hN_29)
  have hN_30 : cu34 30 = .inl (B.2.1 0, 80, .inl (nF (fun _ => 0))) := (congrFun ecu34 _).trans ((va_up_ne _ _ (by decide)).trans hN_30)
  have hN_31 : cu34 31 = .inl (B.2.1 0, 40, .inl (nF (fun _ => 0))) := (congrFun ecu34 _).trans ((va_up_ne _ _ (by decide)).trans hN_31)
  have hN_32 : cu34 32 = .inl (B.2.1 0, 225, .inl (nF (fun _ => 0))) := (congrFun ecu34 _).trans ((va_up_ne _ _ (by decide)).trans hN_32)
  refine g_aload_n fx 0 dX12_init_273 rfl ?_
  refine g_iconst (v := nI 1) fx dX12_init_274 (by decide +kernel) ?_
  refine g_put (r := 0) (fs' := [.ref (ad_32 1), .ref (ad_32 2), .ref (ad_32 3), .ref (ad_32 4), .int (nI 1), .int (nI 1), .ref (ad_32 5), .int 0, .ref (ad_32 6), .ref (ad_32 7), .ref (ad_32 8), .int 0, .int (-1), .int 0, .int 0, .ref (ad_32 9), .ref (ad_32 10), .ref (ad_32 11), .int 0, .int 0, .ref (ad_32 12), .ref (ad_32 13), .ref (ad_32 14), .ref (ad_32 15), .ref (ad_32 16), .int 0, .int 0, .int 0, .ref (ad_32 17), .ref (ad_32 18), .ref (ad_32 19), .ref (ad_32 20), .ref (ad_32 21), .ref (ad_32 22), .int 0, .ref (ad_32 23), .ref (ad_32 24), .ref (ad_32 25), .ref (ad_32 26), .ref (ad_32 27), .int 0, .ref (ad_32 28), .ref (ad_32 29), .ref (ad_32 30), .ref (ad_32 31), .int 0, .ref (ad_32 32)]) fx lpX12_118 (by decide) ho rfl rfl (Nat.le_of_ble_eq_true rfl) rfl dX12_init_275 (fun cu35 ecu35 => ?_)
  have ho : cu35 0 = .inr (12, [.ref (ad_32 1), .ref (ad_32 2), .ref (ad_32 3), .ref (ad_32 4), .int (nI 1), .int (nI 1), .ref (ad_32 5), .int 0, .ref (ad_32 6), .ref (ad_32 7), .ref (ad_32 8), .int 0, .int (-1), .int 0, .int 0, .ref (ad_32 9), .ref (ad_32 10), .ref (ad_32 11), .int 0, .int 0, .ref (ad_32 12), .ref (ad_32 13), .ref (ad_32 14), .ref (ad_32 15), .ref (ad_32 16), .int 0, .int 0, .int 0, .ref (ad_32 17), .ref (ad_32 18), .ref (ad_32 19), .ref (ad_32 20), .ref (ad_32 21), .ref (ad_32 22), .int 0, .ref (ad_32 23), .ref (ad_32 24), .ref (ad_32 25), .ref (ad_32 26), .ref (ad_32 27), .int 0, .ref (ad_32 28), .ref (ad_32 29), .ref (ad_32 30), .ref (ad_32 31), .int 0, .ref (ad_32 32)]) := by rw [ecu35, va_up_self]
  have hN_1 : cu35 1 = .inl (B.2.1 0, 40, .inl (nF (fun _ => 0))) := (congrFun ecu35 _).trans ((va_up_ne _ _ (by decide)).trans hN_1)
  have hN_2 : cu35 2 = .inl (B.2.1 0, 40, .inl (nF (fun _ => 0))) := (congrFun ecu35 _).trans ((va_up_ne _ _ (by decide)).trans hN_2)
  have hN_3 : cu35 3 = .inl (B.2.1 0, 40, .inl (nF (fun _ => 0))) := (congrFun ecu35 _).trans ((va_up_ne _ _ (by decide)).trans hN_3)
  have hN_4 : cu35 4 = .inl (B.2.1 0, 40, .inl (nF (fun _ => 0))) := (congrFun ecu35 _).trans ((va_up_ne _ _ (by decide)).trans hN_4)
  have hN_5 : cu35 5 = .inl (B.2.1 0, 25, .inl (nF (fun _ => 0))) := (congrFun ecu35 _).trans ((va_up_ne _ _ (by decide)).trans hN_5)
  have hN_6 : cu35 6 = .inl (B.2.1 0, 30, .inl (nF (fun _ => 0))) := (congrFun ecu35 _).trans ((va_up_ne _ _ (by decide)).trans hN_6)
  have hN_7 : cu35 7 = .inl (B.2.1 0, 2, .inl (nF (fun _ => 0))) := (congrFun ecu35 _).trans ((va_up_ne _ _ (by decide)).trans hN_7)
  have hN_8 : cu35 8 = .inl (B.2.1 0, 30, .inl (nF (fun _ => 0))) := (congrFun ecu35 _).trans ((va_up_ne _ _ (by decide)).trans hN_8)
  have hN_9 : cu35 9 = .inl (B.2.1 0, 160, .inl (nF (fun _ => 0))) := (congrFun ecu35 _).trans ((va_up_ne _ _ (by decide)).trans hN_9)
  have hN_10 : cu35 10 = .inl (B.2.1 0, 160, .inl (nF (fun _ => 0))) := (congrFun ecu35 _).trans ((va_up_ne _ _ (by decide)).trans hN_10)
  have hN_11 : cu35 11 = .inl (B.2.1 1, 60001, .inr (.inl (lF (fun _ => 0)))) := (congrFun ecu35 _).trans ((va_up_ne _ _ (by decide)).trans hN_11)
  have hN_12 : cu35 12 = .inl (B.2.1 0, 25, .inl (nF (fun _ => 0))) := (congrFun ecu35 _).trans ((va_up_ne _ _ (by decide)).trans hN_12)
  have hN_13 : cu35 13 = .inl (B.2.1 0, 25, .inl (nF (fun _ => 0))) := (congrFun ecu35 _).trans ((va_up_ne _ _ (by decide)).trans hN_13)
  have hN_14 : cu35 14 = .inl (B.2.1 0, 5, .inl (nF (fun _ => 0))) := (congrFun ecu35 _).trans ((va_up_ne _ _ (by decide)).trans hN_14)
  have hN_15 : cu35 15 = .inl (B.2.1 0, 5, .inl (nF (fun _ => 0))) := (congrFun ecu35 _).trans ((va_up_ne _ _ (by decide)).trans hN_15)
  have hN_16 : cu35 16 = .inl (B.2.1 2, 500000, .inl (nF (fun _ => 0))) := (congrFun ecu35 _).trans ((va_up_ne _ _ (by decide)).trans hN_16)
  have hN_17 : cu35 17 = .inl (B.2.1 2, 20000, .inl (nF (fun _ => 0))) := (congrFun ecu35 _).trans ((va_up_ne _ _ (by decide)).trans hN_17)
  have hN_18 : cu35 18 = .inl (B.2.1 0, 40, .inl (nF (fun _ => 0))) := (congrFun ecu35 _).trans ((va_up_ne _ _ (by decide)).trans hN_18)
  have hN_19 : cu35 19 = .inl (B.2.1 0, 40, .inl (nF (fun _ => 0))) := (congrFun ecu35 _).trans ((va_up_ne _ _ (by decide)).trans hN_19)
  have hN_20 : cu35 20 = .inl (B.2.1 0, 40, .inl (nF (fun _ => 0))) := (congrFun ecu35 _).trans ((va_up_ne _ _ (by decide)).trans hN_20)
  have hN_21 : cu35 21 = .inl (B.2.1 0, 40, .inl (nF (fun _ => 0))) := (congrFun ecu35 _).trans ((va_up_ne _ _ (by decide)).trans hN_21)
  have hN_22 : cu35 22 = .inl (B.2.1 0, 30, .inl (nF (fun _ => 0))) := (congrFun ecu35 _).trans ((va_up_ne _ _ (by decide)).trans hN_22)
  have hN_23 : cu35 23 = .inl (B.2.1 0, 30, .inl (nF (fun _ => 0))) := (congrFun ecu35 _).trans ((va_up_ne _ _ (by decide)).trans hN_23)
  have hN_24 : cu35 24 = .inl (B.2.1 1, 480016, .inr (.inl (lF (fun _ => 0)))) := (congrFun ecu35 _).trans ((va_up_ne _ _ (by decide)).trans hN_24)
  have hN_25 : cu35 25 = .inl (B.2.1 0, 40, .inl (nF (fun _ => 0))) := (congrFun ecu35 _).trans ((va_up_ne _ _ (by decide)).trans hN_25)
  have hN_26 : cu35 26 = .inl (B.2.1 0, 480, .inl (nF (fun _ => 0))) := (congrFun ecu35 _).trans ((va_up_ne _ _ (by decide)).trans hN_26)
  have hN_27 : cu35 27 = .inl (B.2.1 0, 480, .inl (nF (fun _ => 0))) := (congrFun ecu35 _).trans ((va_up_ne _ _ (by decide)).trans hN_27)
  have hN_28 : cu35 28 = .inl (B.2.1 0, 12, .inl (nF (fun _ => 0))) := (congrFun ecu35 _).trans ((va_up_ne _ _ (by decide)).trans hN_28)
  have hN_29 : cu35 29 = .inl (B.2.1 0, 80, .inl (nF (fun _ => 0))) := (congrFun ecu35 _).trans ((va_up_ne _ _ (by decide)).trans hN_29)
  have hN_30 : cu35 30 = .inl (B.2.1 0, 80, .inl (nF (fun _ => 0))) := (congrFun ecu35 _).trans ((va_up_ne _ _ (by decide)).trans hN_30)
  have hN_31 : cu35 31 = .inl (B.2.1 0, 40, .inl (nF (fun _ => 0))) := (congrFun ecu35 _).trans ((va_up_ne _ _ (by decide)).trans hN_31)
  have hN_32 : cu35 32 = .inl (B.2.1 0, 225, .inl (nF (fun _ => 0))) := (congrFun ecu35 _).trans ((va_up_ne _ _ (by decide)).trans hN_32)
  refine g_more (k1 := 32) (s1 := 1062301) (by omega) (by omega) ?_
  refine g_vret fx rt dX12_init_278 ?_
  exact gPx.mk ⟨hfra 0 (by decide), ho, hN_1, hN_2, hN_3, hN_4, hN_5, hN_6, hN_7, hN_8, hN_9, hN_10, hN_11, hN_12, hN_13, hN_14, hN_15, hN_16, hN_17, hN_18, hN_19, hN_20, hN_21, hN_22, hN_23, hN_24, hN_25, hN_26, hN_27, hN_28, hN_29, hN_30, hN_31, hN_32⟩
