/-! what is made at the start -/
theorem arrV_cg {cI : ClassId} {N : Nat} {f g : Nat → Value} (h : ∀ j, j < N → f j = g j) : arrV cI N f = arrV cI N g := by
  unfold arrV
  congr 2
  funext j
  exact h j.1 j.2
theorem g_reent {B : gB} {nL : Nat} {E : gE} {ad : Nat → Nat} {ct : Nat → va_E} {n k0 s0 : Nat} {L : List (Nat × Value)} {pc : Nat} {st : List Value} (r : Nat) {cA : ClassId} {N : Nat} {f f' : Nat → Option Nat} (h : ct r = .inl (cA, N, .inr (.inr (.inr (.inr f))))) (hf : ∀ j, j < N → f j = f' j) (k : G B nL E ad (va_up ct r (.inl (cA, N, .inr (.inr (.inr (.inr f')))))) n k0 s0 L pc st) : G B nL E ad ct n k0 s0 L pc st := by
  intro ls H locs hl w
  refine k ls H locs hl ⟨fun i q hi => ?_, ⟨fun i j p q hp hq e => ?_, fun i q hi => ?_⟩, w.2.2⟩
  · obtain ⟨a, rfl⟩ := gw_in hi
    have h1 := w.1 i _ (gw_at a)
    by_cases e : i = r
    · subst e
      rw [va_up_self]
      rw [h] at h1
      show H[ad i]? = some (vp_cell _ _)
      have h2 : H[ad i]? = some (vp_cell cA (N, .inr (.inr (.inr (.inr f))))) := h1
      rw [h2, vp_cell_q, vp_cell_q, arrV_cg (fun j hj => by rw [hf j hj])]
    · rw [va_up_ne _ _ e]; exact h1
  · obtain ⟨a, rfl⟩ := gw_in hp
    obtain ⟨b, rfl⟩ := gw_in hq
    exact w.2.1.1 i j _ _ (gw_at a) (gw_at b) e
  · obtain ⟨a, rfl⟩ := gw_in hi
    exact w.2.1.2 i (ad i, ct i) (gw_at a)
theorem isW.zero {B : gB} {ad : Nat → Nat} {ct : Nat → va_E} {w : Nat} (h1 : ct w = .inr (10, [.ref (ad (w + 1)), .int 0])) (h2 : ct (w + 1) = .inl (B.2.1 1, 12, .inr (.inl (lF (fun _ => 0))))) : isW B ad ct w 0 :=
  ⟨0, fun _ => 0, ⟨h1, h2, by decide, fun _ => (show 0 < 4294967296 by decide), fun _ _ => rfl⟩, Or.inl rfl, bval_zero 12 (fun _ _ => rfl)⟩
set_option maxHeartbeats 4000000 in
set_option maxRecDepth 100000 in
theorem c_X10_init (B : gB) (ad : Nat → Nat) (ct : Nat → va_E) (w : Nat) (ho : ct w = .inr (10, [.null, .int 0])) : Ctr B yX10_init cX10_init 1 none 1 20 1 12 ad ct (w + 1) [.ref (ad w)] (gPx (w + 2) (fun ad' ct' => (∀ r, r ≤ w → ad' r = ad r) ∧ (∀ r, r < w → ct' r = ct r) ∧ isW B ad' ct' w 0 ∧ ct' w = .inr (10, [.ref (ad' (w + 1)), .int 0]))) := by
  have hfr : ∀ r, r < w → ct r = ct r := fun _ _ => rfl
  have hfra : ∀ r, r ≤ w → ad r = ad r := fun _ _ => rfl
  refine Ctr.ofG (L := [(0, .ref (ad w))]) (by decide +kernel) rfl (Nat.le_of_ble_eq_true rfl) (fun E fx rt hnm => ?_)
  refine g_aload_n fx 0 dX10_init_0 rfl ?_
  refine g_objInit fx oiX10_3 ojI ojC (by decide) (by decide) dX10_init_1 ?_
  refine g_aload_n fx 0 dX10_init_4 rfl ?_
  refine g_bipush (v := nI 12) fx dX10_init_5 (by decide +kernel) ?_
  refine g_newl (N := 12) fx (nI_toInt (by omega)) (by omega) ⟨by dsimp only; omega, by dsimp only; omega⟩ dX10_init_7 (fun ad_1 ct_1 hA_1 hC_1 hN_1 => ?_)
  refine g_same (L' := [(0, .ref (ad_1 w))]) (st' := [.ref (ad_1 (w + 1)), .ref (ad_1 w)]) (by rw [hA_1 w (by omega)]) (by rw [hA_1 w (by omega)]) ?_
  have ho : ct_1 w = .inr (10, [.null, .int 0]) := (hC_1 w (by omega)).trans ho
  have hfra : ∀ r, r ≤ w → ad_1 r = ad r := fun r hp => (hA_1 r (by omega)).trans (hfra r hp)
  have hfr : ∀ r, r < w → ct_1 r = ct r := fun r hp => (hC_1 r (by omega)).trans (hfr r hp)
  refine g_putF (r := w) (fs' := [.ref (ad_1 (w + 1)), .int 0]) fx hnm lpX10_11 (by omega) ho rfl rfl (Nat.le_of_ble_eq_true rfl) rfl dX10_init_9 (fun cu1 ecu1 => ?_)
  have hfr : ∀ r, r < w → cu1 r = ct r := fun r hp => (congrFun ecu1 r).trans ((va_up_ne _ _ (by omega)).trans (hfr r hp))
  have ho : cu1 w = .inr (10, [.ref (ad_1 (w + 1)), .int 0]) := by rw [ecu1, va_up_self]
  have hN_1 : cu1 (w + 1) = .inl (B.2.1 1, 12, .inr (.inl (lF (fun _ => 0)))) := (congrFun ecu1 _).trans ((va_up_ne _ _ (by omega)).trans hN_1)
  refine g_more (k1 := 1) (s1 := 12) (by omega) (by omega) ?_
  refine g_vret fx rt dX10_init_12 ?_
  exact gPx.mk ⟨hfra, hfr, isW.zero ho hN_1, ho⟩
set_option maxHeartbeats 4000000 in
set_option maxRecDepth 100000 in
theorem c_X3_init (B : gB) (ad : Nat → Nat) (ct : Nat → va_E) (w : Nat) (ho : ct w = .inr (3, [.null, .int 0, .int 0])) : Ctr B yX3_init cX3_init 1 none 1 20 1 25 ad ct (w + 1) [.ref (ad w)] (gPx (w + 2) (fun ad' ct' => (∀ r, r ≤ w → ad' r = ad r) ∧ (∀ r, r < w → ct' r = ct r) ∧ ct' w = .inr (3, [.ref (ad' (w + 1)), .int (nI 1), .int (nI 1)]) ∧ ct' (w + 1) = .inl (B.2.1 0, 25, .inl (nF (fun _ => 0))))) := by
  have hfr : ∀ r, r < w → ct r = ct r := fun _ _ => rfl
  have hfra : ∀ r, r ≤ w → ad r = ad r := fun _ _ => rfl
  refine Ctr.ofG (L := [(0, .ref (ad w))]) (by decide +kernel) rfl (Nat.le_of_ble_eq_true rfl) (fun E fx rt hnm => ?_)
  refine g_aload_n fx 0 dX3_init_0 rfl ?_
  refine g_objInit fx oiX3_3 ojI ojC (by decide) (by decide) dX3_init_1 ?_
  refine g_aload_n fx 0 dX3_init_4 rfl ?_
  refine g_bipush (v := nI 25) fx dX3_init_5 (by decide +kernel) ?_
  refine g_newi (N := 25) fx (nI_toInt (by omega)) (by omega) ⟨by dsimp only; omega, by dsimp only; omega⟩ dX3_init_7 (fun ad_1 ct_1 hA_1 hC_1 hN_1 => ?_)
  refine g_same (L' := [(0, .ref (ad_1 w))]) (st' := [.ref (ad_1 (w + 1)), .ref (ad_1 w)]) (by rw [hA_1 w (by omega)]) (by rw [hA_1 w (by omega)]) ?_
  have ho : ct_1 w = .inr (3, [.null, .int 0, .int 0]) := (hC_1 w (by omega)).trans ho
  have hfra : ∀ r, r ≤ w → ad_1 r = ad r := fun r hp => (hA_1 r (by omega)).trans (hfra r hp)
  have hfr : ∀ r, r < w → ct_1 r = ct r := fun r hp => (hC_1 r (by omega)).trans (hfr r hp)
  refine g_putF (r := w) (fs' := [.ref (ad_1 (w + 1)), .int 0, .int 0]) fx hnm lpX3_9 (by omega) ho rfl rfl (Nat.le_of_ble_eq_true rfl) rfl dX3_init_9 (fun cu1 ecu1 => ?_)
  have hfr : ∀ r, r < w → cu1 r = ct r := fun r hp => (congrFun ecu1 r).trans ((va_up_ne _ _ (by omega)).trans (hfr r hp))
  have ho : cu1 w = .inr (3, [.ref (ad_1 (w + 1)), .int 0, .int 0]) := by rw [ecu1, va_up_self]
  have hN_1 : cu1 (w + 1) = .inl (B.2.1 0, 25, .inl (nF (fun _ => 0))) := (congrFun ecu1 _).trans ((va_up_ne _ _ (by omega)).trans hN_1)
  refine g_aload_n fx 0 dX3_init_12 rfl ?_
  refine g_iconst (v := nI 1) fx dX3_init_13 (by decide +kernel) ?_
  refine g_put (r := w) (fs' := [.ref (ad_1 (w + 1)), .int (nI 1), .int 0]) fx lpX3_15 (by omega) ho rfl rfl (Nat.le_of_ble_eq_true rfl) rfl dX3_init_14 (fun cu2 ecu2 => ?_)
  have hfr : ∀ r, r < w → cu2 r = ct r := fun r hp => (congrFun ecu2 r).trans ((va_up_ne _ _ (by omega)).trans (hfr r hp))
  have ho : cu2 w = .inr (3, [.ref (ad_1 (w + 1)), .int (nI 1), .int 0]) := by rw [ecu2, va_up_self]
  have hN_1 : cu2 (w + 1) = .inl (B.2.1 0, 25, .inl (nF (fun _ => 0))) := (congrFun ecu2 _).trans ((va_up_ne _ _ (by omega)).trans hN_1)
  refine g_aload_n fx 0 dX3_init_17 rfl ?_
  refine g_iconst (v := nI 1) fx dX3_init_18 (by decide +kernel) ?_
  refine g_put (r := w) (fs' := [.ref (ad_1 (w + 1)), .int (nI 1), .int (nI 1)]) fx lpX3_19 (by omega) ho rfl rfl (Nat.le_of_ble_eq_true rfl) rfl dX3_init_19 (fun cu3 ecu3 => ?_)
  have hfr : ∀ r, r < w → cu3 r = ct r := fun r hp => (congrFun ecu3 r).trans ((va_up_ne _ _ (by omega)).trans (hfr r hp))
  have ho : cu3 w = .inr (3, [.ref (ad_1 (w + 1)), .int (nI 1), .int (nI 1)]) := by rw [ecu3, va_up_self]
  have hN_1 : cu3 (w + 1) = .inl (B.2.1 0, 25, .inl (nF (fun _ => 0))) := (congrFun ecu3 _).trans ((va_up_ne _ _ (by omega)).trans hN_1)
  refine g_more (k1 := 1) (s1 := 25) (by omega) (by omega) ?_
  refine g_vret fx rt dX3_init_22 ?_
  exact gPx.mk ⟨hfra, hfr, ho, hN_1⟩
set_option maxHeartbeats 4000000 in
set_option maxRecDepth 100000 in
theorem c_X4_init (B : gB) (ad : Nat → Nat) (ct : Nat → va_E) (w : Nat) (ho : ct w = .inr (4, [.null, .null, .int 0])) : Ctr B yX4_init cX4_init 1 none 1 20 2 128 ad ct (w + 1) [.ref (ad w)] (gPx (w + 3) (fun ad' ct' => (∀ r, r ≤ w → ad' r = ad r) ∧ (∀ r, r < w → ct' r = ct r) ∧ ct' w = .inr (4, [.ref (ad' (w + 1)), .ref (ad' (w + 2)), .int (nI 0)]) ∧ ct' (w + 1) = .inl (B.2.1 0, 64, .inl (nF (fun _ => 0))) ∧ ct' (w + 2) = .inl (B.2.1 0, 64, .inl (nF (fun _ => 0))))) := by
  have hfr : ∀ r, r < w → ct r = ct r := fun _ _ => rfl
  have hfra : ∀ r, r ≤ w → ad r = ad r := fun _ _ => rfl
  refine Ctr.ofG (L := [(0, .ref (ad w))]) (by decide +kernel) rfl (Nat.le_of_ble_eq_true rfl) (fun E fx rt hnm => ?_)
  refine g_aload_n fx 0 dX4_init_0 rfl ?_
  refine g_objInit fx oiX4_1 ojI ojC (by decide) (by decide) dX4_init_1 ?_
  refine g_aload_n fx 0 dX4_init_4 rfl ?_
  refine g_bipush (v := nI 64) fx dX4_init_5 (by decide +kernel) ?_
  refine g_newi (N := 64) fx (nI_toInt (by omega)) (by omega) ⟨by dsimp only; omega, by dsimp only; omega⟩ dX4_init_7 (fun ad_1 ct_1 hA_1 hC_1 hN_1 => ?_)
  refine g_same (L' := [(0, .ref (ad_1 w))]) (st' := [.ref (ad_1 (w + 1)), .ref (ad_1 w)]) (by rw [hA_1 w (by omega)]) (by rw [hA_1 w (by omega)]) ?_
  have ho : ct_1 w = .inr (4, [.null, .null, .int 0]) := (hC_1 w (by omega)).trans ho
  have hfra : ∀ r, r ≤ w → ad_1 r = ad r := fun r hp => (hA_1 r (by omega)).trans (hfra r hp)
  have hfr : ∀ r, r < w → ct_1 r = ct r := fun r hp => (hC_1 r (by omega)).trans (hfr r hp)
  refine g_put (r := w) (fs' := [.ref (ad_1 (w + 1)), .null, .int 0]) fx lpX4_7 (by omega) ho rfl rfl (Nat.le_of_ble_eq_true rfl) rfl dX4_init_9 (fun cu1 ecu1 => ?_)
  have hfr : ∀ r, r < w → cu1 r = ct r := fun r hp => (congrFun ecu1 r).trans ((va_up_ne _ _ (by omega)).trans (hfr r hp))
  have ho : cu1 w = .inr (4, [.ref (ad_1 (w + 1)), .null, .int 0]) := by rw [ecu1, va_up_self]
  have hN_1 : cu1 (w + 1) = .inl (B.2.1 0, 64, .inl (nF (fun _ => 0))) := (congrFun ecu1 _).trans ((va_up_ne _ _ (by omega)).trans hN_1)
  refine g_aload_n fx 0 dX4_init_12 rfl ?_
  refine g_bipush (v := nI 64) fx dX4_init_13 (by decide +kernel) ?_
  refine g_newi (N := 64) fx (nI_toInt (by omega)) (by omega) ⟨by dsimp only; omega, by dsimp only; omega⟩ dX4_init_15 (fun ad_2 ct_2 hA_2 hC_2 hN_2 => ?_)
  refine g_same (L' := [(0, .ref (ad_2 w))]) (st' := [.ref (ad_2 (w + 2)), .ref (ad_2 w)]) (by rw [hA_2 w (by omega)]) (by rw [hA_2 w (by omega)]) ?_
  have ho : ct_2 w = .inr (4, [.ref (ad_2 (w + 1)), .null, .int 0]) := (hC_2 w (by omega)).trans (ho.trans (by rw [hA_2 (w + 1) (by omega)]))
  have hN_1 : ct_2 (w + 1) = .inl (B.2.1 0, 64, .inl (nF (fun _ => 0))) := (hC_2 (w + 1) (by omega)).trans hN_1
  have hfra : ∀ r, r ≤ w → ad_2 r = ad r := fun r hp => (hA_2 r (by omega)).trans (hfra r hp)
  have hfr : ∀ r, r < w → ct_2 r = ct r := fun r hp => (hC_2 r (by omega)).trans (hfr r hp)
  refine g_put (r := w) (fs' := [.ref (ad_2 (w + 1)), .ref (ad_2 (w + 2)), .int 0]) fx lpX4_13 (by omega) ho rfl rfl (Nat.le_of_ble_eq_true rfl) rfl dX4_init_17 (fun cu2 ecu2 => ?_)
  have hfr : ∀ r, r < w → cu2 r = ct r := fun r hp => (congrFun ecu2 r).trans ((va_up_ne _ _ (by omega)).trans (hfr r hp))
  have ho : cu2 w = .inr (4, [.ref (ad_2 (w + 1)), .ref (ad_2 (w + 2)), .int 0]) := by rw [ecu2, va_up_self]
  have hN_1 : cu2 (w + 1) = .inl (B.2.1 0, 64, .inl (nF (fun _ => 0))) := (congrFun ecu2 _).trans ((va_up_ne _ _ (by omega)).trans hN_1)
  have hN_2 : cu2 (w + 2) = .inl (B.2.1 0, 64, .inl (nF (fun _ => 0))) := (congrFun ecu2 _).trans ((va_up_ne _ _ (by omega)).trans hN_2)
  refine g_more (k1 := 2) (s1 := 128) (by omega) (by omega) ?_
  refine g_vret fx rt dX4_init_20 ?_
  exact gPx.mk ⟨hfra, hfr, ho, hN_1, hN_2⟩
set_option maxHeartbeats 4000000 in
set_option maxRecDepth 100000 in
theorem c_X5_init (B : gB) (ad : Nat → Nat) (ct : Nat → va_E) (w : Nat) (ho : ct w = .inr (5, [.null, .int 0])) (m : Nat) (hm : m ≤ 1000) : Ctr B yX5_init cX5_init 2 none 1 21 1 m ad ct (w + 1) [.ref (ad w), .int (nI m)] (gPx (w + 2) (fun ad' ct' => (∀ r, r ≤ w → ad' r = ad r) ∧ (∀ r, r < w → ct' r = ct r) ∧ ct' w = .inr (5, [.ref (ad' (w + 1)), .int (nI 0)]) ∧ ct' (w + 1) = .inl (B.2.1 0, m, .inl (nF (fun _ => 0))))) := by
  have hfr : ∀ r, r < w → ct r = ct r := fun _ _ => rfl
  have hfra : ∀ r, r ≤ w → ad r = ad r := fun _ _ => rfl
  refine Ctr.ofG (L := [(0, .ref (ad w)), (1, .int (nI m))]) (by decide +kernel) rfl (Nat.le_of_ble_eq_true rfl) (fun E fx rt hnm => ?_)
  refine g_aload_n fx 0 dX5_init_0 rfl ?_
  refine g_objInit fx oiX5_1 ojI ojC (by dsimp only; decide) (by dsimp only; decide) dX5_init_1 ?_
  refine g_aload_n fx 0 dX5_init_4 rfl ?_
  refine g_iconst (v := nI 0) fx dX5_init_5 (by decide +kernel) ?_
  refine g_iload_n fx 1 dX5_init_6 rfl ?_
  refine g_callSip (As := [.int (nI 0), .int (nI m)]) (rest := [.ref (ad w)]) fx slX5_7 (c_J9_max_7cf53 B ad ct (w + 1) (nI 0) (nI m)) rfl rfl (Nat.le_of_ble_eq_true rfl) ⟨by dsimp only; omega, by dsimp only; omega⟩ ⟨by dsimp only; omega, by dsimp only; omega⟩ dX5_init_7 (fun q1 hq1 => ?_)
  rw [mx_nI (by omega) (by omega), Nat.max_eq_right (by omega)] at hq1
  refine g_isi (y := nI m) hq1 ?_
  refine g_newi (N := m) fx (nI_toInt (by omega)) (by omega) ⟨by dsimp only; omega, by dsimp only; omega⟩ dX5_init_10 (fun ad_1 ct_1 hA_1 hC_1 hN_1 => ?_)
  refine g_same (L' := [(0, .ref (ad_1 w)), (1, .int (nI m))]) (st' := [.ref (ad_1 (w + 1)), .ref (ad_1 w)]) (by rw [hA_1 w (by omega)]) (by rw [hA_1 w (by omega)]) ?_
  have ho : ct_1 w = .inr (5, [.null, .int 0]) := (hC_1 w (by omega)).trans ho
  have hfra : ∀ r, r ≤ w → ad_1 r = ad r := fun r hp => (hA_1 r (by omega)).trans (hfra r hp)
  have hfr : ∀ r, r < w → ct_1 r = ct r := fun r hp => (hC_1 r (by omega)).trans (hfr r hp)
  refine g_putF (r := w) (fs' := [.ref (ad_1 (w + 1)), .int 0]) fx hnm lpX5_13 (by omega) ho rfl rfl (Nat.le_of_ble_eq_true rfl) rfl dX5_init_12 (fun cu2 ecu2 => ?_)
  have hfr : ∀ r, r < w → cu2 r = ct r := fun r hp => (congrFun ecu2 r).trans ((va_up_ne _ _ (by omega)).trans (hfr r hp))
  have ho : cu2 w = .inr (5, [.ref (ad_1 (w + 1)), .int 0]) := by rw [ecu2, va_up_self]
  have hN_1 : cu2 (w + 1) = .inl (B.2.1 0, m, .inl (nF (fun _ => 0))) := (congrFun ecu2 _).trans ((va_up_ne _ _ (by omega)).trans hN_1)
  refine g_more (k1 := 1) (s1 := m) (by omega) (by omega) ?_
  refine g_vret fx rt dX5_init_15 ?_
  exact gPx.mk ⟨hfra, hfr, ho, hN_1⟩
set_option maxHeartbeats 4000000 in
set_option maxRecDepth 100000 in
theorem c_X0_init (B : gB) (ad : Nat → Nat) (ct : Nat → va_E) (w : Nat) (ho : ct w = .inr (0, [.null, .int 0, .int 0, .int 0, .int 0])) : Ctr B yX0_init cX0_init 1 none 1 20 1 0 ad ct (w + 1) [.ref (ad w)] (gPx (w + 2) (fun ad' ct' => (∀ r, r ≤ w → ad' r = ad r) ∧ (∀ r, r < w → ct' r = ct r) ∧ ct' w = .inr (0, [.ref (ad' (w + 1)), .int (nI 0), .int (nI 0), .int (nI 0), .int (nI 0)]) ∧ ct' (w + 1) = .inl (B.2.1 1, 0, .inr (.inl (lF (fun _ => 0)))))) := by
  have hfr : ∀ r, r < w → ct r = ct r := fun _ _ => rfl
  have hfra : ∀ r, r ≤ w → ad r = ad r := fun _ _ => rfl
  refine Ctr.ofG (L := [(0, .ref (ad w))]) (by decide +kernel) rfl (Nat.le_of_ble_eq_true rfl) (fun E fx rt hnm => ?_)
  refine g_aload_n fx 0 dX0_init_0 rfl ?_
  refine g_objInit fx oiX0_1 ojI ojC (by decide) (by decide) dX0_init_1 ?_
  refine g_aload_n fx 0 dX0_init_4 rfl ?_
  refine g_iconst (v := nI 0) fx dX0_init_5 (by decide +kernel) ?_
  refine g_newl (N := 0) fx (nI_toInt (by omega)) (by omega) ⟨by dsimp only; omega, by dsimp only; omega⟩ dX0_init_6 (fun ad_1 ct_1 hA_1 hC_1 hN_1 => ?_)
  refine g_same (L' := [(0, .ref (ad_1 w))]) (st' := [.ref (ad_1 (w + 1)), .ref (ad_1 w)]) (by rw [hA_1 w (by omega)]) (by rw [hA_1 w (by omega)]) ?_
  have ho : ct_1 w = .inr (0, [.null, .int 0, .int 0, .int 0, .int 0]) := (hC_1 w (by omega)).trans ho
  have hfra : ∀ r, r ≤ w → ad_1 r = ad r := fun r hp => (hA_1 r (by omega)).trans (hfra r hp)
  have hfr : ∀ r, r < w → ct_1 r = ct r := fun r hp => (hC_1 r (by omega)).trans (hfr r hp)
  refine g_put (r := w) (fs' := [.ref (ad_1 (w + 1)), .int 0, .int 0, .int 0, .int 0]) fx lpX0_7 (by omega) ho rfl rfl (Nat.le_of_ble_eq_true rfl) rfl dX0_init_8 (fun cu1 ecu1 => ?_)
  have hfr : ∀ r, r < w → cu1 r = ct r := fun r hp => (congrFun ecu1 r).trans ((va_up_ne _ _ (by omega)).trans (hfr r hp))
  have ho : cu1 w = .inr (0, [.ref (ad_1 (w + 1)), .int 0, .int 0, .int 0, .int 0]) := by rw [ecu1, va_up_self]
  have hN_1 : cu1 (w + 1) = .inl (B.2.1 1, 0, .inr (.inl (lF (fun _ => 0)))) := (congrFun ecu1 _).trans ((va_up_ne _ _ (by omega)).trans hN_1)
  refine g_more (k1 := 1) (s1 := 0) (by omega) (by omega) ?_
  refine g_vret fx rt dX0_init_11 ?_
  exact gPx.mk ⟨hfra, hfr, ho, hN_1⟩
set_option maxHeartbeats 4000000 in
set_option maxRecDepth 100000 in
theorem c_X2_init (B : gB) (ad : Nat → Nat) (ct : Nat → va_E) (w : Nat) (ho : ct w = .inr (2, [.null, .null])) : Ctr B yX2_init cX2_init 1 none 2 40 4 28 ad ct (w + 1) [.ref (ad w)] (gPx (w + 5) (fun ad' ct' => (∀ r, r ≤ w → ad' r = ad r) ∧ (∀ r, r < w → ct' r = ct r) ∧ ct' w = .inr (2, [.ref (ad' (w + 1)), .ref (ad' (w + 3))]) ∧ isW B ad' ct' (w + 1) 0 ∧ isW B ad' ct' (w + 3) 0)) := by
  have hfr : ∀ r, r < w → ct r = ct r := fun _ _ => rfl
  have hfra : ∀ r, r ≤ w → ad r = ad r := fun _ _ => rfl
  refine Ctr.ofG (L := [(0, .ref (ad w))]) (by decide +kernel) rfl (Nat.le_of_ble_eq_true rfl) (fun E fx rt hnm => ?_)
  refine g_aload_n fx 0 dX2_init_0 rfl ?_
  refine g_objInit fx oiX2_1 ojI ojC (by decide) (by decide) dX2_init_1 ?_
  refine g_aload_n fx 0 dX2_init_4 rfl ?_
  refine g_newo fx nwX10 clX2_7 ⟨by dsimp only; omega, by dsimp only; omega⟩ dX2_init_5 (fun ad_1 ct_1 hA_1 hC_1 hN_1 => ?_)
  refine g_same (L' := [(0, .ref (ad_1 w))]) (st' := [.ref (ad_1 (w + 1)), .ref (ad_1 w)]) (by rw [hA_1 w (by omega)]) (by rw [hA_1 w (by omega)]) ?_
  have ho : ct_1 w = .inr (2, [.null, .null]) := (hC_1 w (by omega)).trans ho
  have hfra : ∀ r, r ≤ w → ad_1 r = ad r := fun r hp => (hA_1 r (by omega)).trans (hfra r hp)
  have hfr : ∀ r, r < w → ct_1 r = ct r := fun r hp => (hC_1 r (by omega)).trans (hfr r hp)
  refine g_dup fx dX2_init_8 rfl ?_
  refine g_callIx (As := []) (rest := [.ref (ad_1 (w + 1)), .ref (ad_1 w)]) fx slX2_9 (c_X10_init B ad_1 ct_1 (w + 1) hN_1) rfl rfl (Nat.le_of_ble_eq_true rfl) ⟨by dsimp only; omega, by dsimp only; omega⟩ ⟨by dsimp only; omega, by dsimp only; omega⟩ dX2_init_9 (fun adI1 ctI1 hz1 => ?_)
  obtain ⟨hAI1, hCI1, hW1, _⟩ := hz1
  have ho : ctI1 w = .inr (2, [.null, .null]) := (hCI1 w (by omega)).trans ho
  have hfr : ∀ r, r < w → ctI1 r = ct r := fun r hp => (hCI1 r (by omega)).trans (hfr r hp)
  have hfra : ∀ r, r ≤ w → adI1 r = ad r := fun r hp => (hAI1 r (by omega)).trans (hfra r hp)
  refine g_same (L' := [(0, .ref (adI1 w))]) (st' := [.ref (adI1 (w + 1)), .ref (adI1 w)]) (by rw [hAI1 w (by omega)]) (by rw [hAI1 (w + 1) (by omega), hAI1 w (by omega)]) ?_
  refine g_putF (r := w) (fs' := [.ref (adI1 (w + 1)), .null]) fx hnm lpX2_10 (by omega) ho rfl rfl (Nat.le_of_ble_eq_true rfl) rfl dX2_init_12 (fun ctP ectP => ?_)
  have hfr : ∀ r, r < w → ctP r = ct r := fun r hp => (congrFun ectP r).trans ((va_up_ne _ _ (by omega)).trans (hfr r hp))
  have ho : ctP w = .inr (2, [.ref (adI1 (w + 1)), .null]) := by rw [ectP, va_up_self]
  have hW1 := hW1.frame (ct' := ctP) (by rw [ectP, va_up_ne _ _ (by omega)]) (by rw [ectP, va_up_ne _ _ (by omega)])
  refine g_aload_n fx 0 dX2_init_15 rfl ?_
  refine g_newo fx nwX10 clX2_7 ⟨by dsimp only; omega, by dsimp only; omega⟩ dX2_init_16 (fun ad_2 ct_2 hA_2 hC_2 hN_2 => ?_)
  refine g_same (L' := [(0, .ref (ad_2 w))]) (st' := [.ref (ad_2 (w + 3)), .ref (ad_2 w)]) (by rw [hA_2 w (by omega)]) (by rw [hA_2 w (by omega)]) ?_
  have ho : ct_2 w = .inr (2, [.ref (ad_2 (w + 1)), .null]) := (hC_2 w (by omega)).trans (ho.trans (by rw [hA_2 (w + 1) (by omega)]))
  have hfra : ∀ r, r ≤ w → ad_2 r = ad r := fun r hp => (hA_2 r (by omega)).trans (hfra r hp)
  have hfr : ∀ r, r < w → ct_2 r = ct r := fun r hp => (hC_2 r (by omega)).trans (hfr r hp)
  have hW1 := hW1.move (ad' := ad_2) (ct' := ct_2) (hA_2 _ (by omega)) (hC_2 _ (by omega)) (hC_2 _ (by omega))
  refine g_dup fx dX2_init_19 rfl ?_
  refine g_callIx (As := []) (rest := [.ref (ad_2 (w + 3)), .ref (ad_2 w)]) fx slX2_9 (c_X10_init B ad_2 ct_2 (w + 3) hN_2) rfl rfl (Nat.le_of_ble_eq_true rfl) ⟨by dsimp only; omega, by dsimp only; omega⟩ ⟨by dsimp only; omega, by dsimp only; omega⟩ dX2_init_20 (fun adI2 ctI2 hz2 => ?_)
  obtain ⟨hAI2, hCI2, hW3, _⟩ := hz2
  have ho : ctI2 w = .inr (2, [.ref (adI2 (w + 1)), .null]) := (hCI2 w (by omega)).trans (ho.trans (by rw [hAI2 (w + 1) (by omega)]))
  have hfr : ∀ r, r < w → ctI2 r = ct r := fun r hp => (hCI2 r (by omega)).trans (hfr r hp)
  have hfra : ∀ r, r ≤ w → adI2 r = ad r := fun r hp => (hAI2 r (by omega)).trans (hfra r hp)
  refine g_same (L' := [(0, .ref (adI2 w))]) (st' := [.ref (adI2 (w + 3)), .ref (adI2 w)]) (by rw [hAI2 w (by omega)]) (by rw [hAI2 (w + 3) (by omega), hAI2 w (by omega)]) ?_
  have hW1 := hW1.move (ad' := adI2) (ct' := ctI2) (hAI2 _ (by omega)) (hCI2 _ (by omega)) (hCI2 _ (by omega))
  refine g_putF (r := w) (fs' := [.ref (adI2 (w + 1)), .ref (adI2 (w + 3))]) fx hnm lpX2_16 (by omega) ho rfl rfl (Nat.le_of_ble_eq_true rfl) rfl dX2_init_23 (fun ctQ ectQ => ?_)
  have hfr : ∀ r, r < w → ctQ r = ct r := fun r hp => (congrFun ectQ r).trans ((va_up_ne _ _ (by omega)).trans (hfr r hp))
  have ho : ctQ w = .inr (2, [.ref (adI2 (w + 1)), .ref (adI2 (w + 3))]) := by rw [ectQ, va_up_self]
  have hW1 := hW1.frame (ct' := ctQ) (by rw [ectQ, va_up_ne _ _ (by omega)]) (by rw [ectQ, va_up_ne _ _ (by omega)])
  have hW3 := hW3.frame (ct' := ctQ) (by rw [ectQ, va_up_ne _ _ (by omega)]) (by rw [ectQ, va_up_ne _ _ (by omega)])
  refine g_more (k1 := 4) (s1 := 28) (by omega) (by omega) ?_
  refine g_vret fx rt dX2_init_26 ?_
  exact gPx.mk ⟨hfra, hfr, ho, hW1, hW3⟩
set_option maxHeartbeats 4000000 in
set_option maxRecDepth 100000 in
theorem c_X7_init (B : gB) (ad : Nat → Nat) (ct : Nat → va_E) (w : Nat) (ho : ct w = .inr (7, [.null, .null])) : Ctr B yX7_init cX7_init 1 none 2 40 4 28 ad ct (w + 1) [.ref (ad w)] (gPx (w + 5) (fun ad' ct' => (∀ r, r ≤ w → ad' r = ad r) ∧ (∀ r, r < w → ct' r = ct r) ∧ ct' w = .inr (7, [.ref (ad' (w + 1)), .ref (ad' (w + 3))]) ∧ isW B ad' ct' (w + 1) 0 ∧ isW B ad' ct' (w + 3) 0)) := by
  have hfr : ∀ r, r < w → ct r = ct r := fun _ _ => rfl
  have hfra : ∀ r, r ≤ w → ad r = ad r := fun _ _ => rfl
  refine Ctr.ofG (L := [(0, .ref (ad w))]) (by decide +kernel) rfl (Nat.le_of_ble_eq_true rfl) (fun E fx rt hnm => ?_)
  refine g_aload_n fx 0 dX7_init_0 rfl ?_
  refine g_objInit fx oiX7_1 ojI ojC (by decide) (by decide) dX7_init_1 ?_
  refine g_aload_n fx 0 dX7_init_4 rfl ?_
  refine g_newo fx nwX10 clX7_7 ⟨by dsimp only; omega, by dsimp only; omega⟩ dX7_init_5 (fun ad_1 ct_1 hA_1 hC_1 hN_1 => ?_)
  refine g_same (L' := [(0, .ref (ad_1 w))]) (st' := [.ref (ad_1 (w + 1)), .ref (ad_1 w)]) (by rw [hA_1 w (by omega)]) (by rw [hA_1 w (by omega)]) ?_
  have ho : ct_1 w = .inr (7, [.null, .null]) := (hC_1 w (by omega)).trans ho
  have hfra : ∀ r, r ≤ w → ad_1 r = ad r := fun r hp => (hA_1 r (by omega)).trans (hfra r hp)
  have hfr : ∀ r, r < w → ct_1 r = ct r := fun r hp => (hC_1 r (by omega)).trans (hfr r hp)
  refine g_dup fx dX7_init_8 rfl ?_
  refine g_callIx (As := []) (rest := [.ref (ad_1 (w + 1)), .ref (ad_1 w)]) fx slX7_9 (c_X10_init B ad_1 ct_1 (w + 1) hN_1) rfl rfl (Nat.le_of_ble_eq_true rfl) ⟨by dsimp only; omega, by dsimp only; omega⟩ ⟨by dsimp only; omega, by dsimp only; omega⟩ dX7_init_9 (fun adI1 ctI1 hz1 => ?_)
  obtain ⟨hAI1, hCI1, hW1, _⟩ := hz1
  have ho : ctI1 w = .inr (7, [.null, .null]) := (hCI1 w (by omega)).trans ho
  have hfr : ∀ r, r < w → ctI1 r = ct r := fun r hp => (hCI1 r (by omega)).trans (hfr r hp)
  have hfra : ∀ r, r ≤ w → adI1 r = ad r := fun r hp => (hAI1 r (by omega)).trans (hfra r hp)
  refine g_same (L' := [(0, .ref (adI1 w))]) (st' := [.ref (adI1 (w + 1)), .ref (adI1 w)]) (by rw [hAI1 w (by omega)]) (by rw [hAI1 (w + 1) (by omega), hAI1 w (by omega)]) ?_
  refine g_putF (r := w) (fs' := [.ref (adI1 (w + 1)), .null]) fx hnm lpX7_10 (by omega) ho rfl rfl (Nat.le_of_ble_eq_true rfl) rfl dX7_init_12 (fun ctP ectP => ?_)
  have hfr : ∀ r, r < w → ctP r = ct r := fun r hp => (congrFun ectP r).trans ((va_up_ne _ _ (by omega)).trans (hfr r hp))
  have ho : ctP w = .inr (7, [.ref (adI1 (w + 1)), .null]) := by rw [ectP, va_up_self]
  have hW1 := hW1.frame (ct' := ctP) (by rw [ectP, va_up_ne _ _ (by omega)]) (by rw [ectP, va_up_ne _ _ (by omega)])
  refine g_aload_n fx 0 dX7_init_15 rfl ?_
  refine g_newo fx nwX10 clX7_7 ⟨by dsimp only; omega, by dsimp only; omega⟩ dX7_init_16 (fun ad_2 ct_2 hA_2 hC_2 hN_2 => ?_)
  refine g_same (L' := [(0, .ref (ad_2 w))]) (st' := [.ref (ad_2 (w + 3)), .ref (ad_2 w)]) (by rw [hA_2 w (by omega)]) (by rw [hA_2 w (by omega)]) ?_
  have ho : ct_2 w = .inr (7, [.ref (ad_2 (w + 1)), .null]) := (hC_2 w (by omega)).trans (ho.trans (by rw [hA_2 (w + 1) (by omega)]))
  have hfra : ∀ r, r ≤ w → ad_2 r = ad r := fun r hp => (hA_2 r (by omega)).trans (hfra r hp)
  have hfr : ∀ r, r < w → ct_2 r = ct r := fun r hp => (hC_2 r (by omega)).trans (hfr r hp)
  have hW1 := hW1.move (ad' := ad_2) (ct' := ct_2) (hA_2 _ (by omega)) (hC_2 _ (by omega)) (hC_2 _ (by omega))
  refine g_dup fx dX7_init_19 rfl ?_
  refine g_callIx (As := []) (rest := [.ref (ad_2 (w + 3)), .ref (ad_2 w)]) fx slX7_9 (c_X10_init B ad_2 ct_2 (w + 3) hN_2) rfl rfl (Nat.le_of_ble_eq_true rfl) ⟨by dsimp only; omega, by dsimp only; omega⟩ ⟨by dsimp only; omega, by dsimp only; omega⟩ dX7_init_20 (fun adI2 ctI2 hz2 => ?_)
  obtain ⟨hAI2, hCI2, hW3, _⟩ := hz2
  have ho : ctI2 w = .inr (7, [.ref (adI2 (w + 1)), .null]) := (hCI2 w (by omega)).trans (ho.trans (by rw [hAI2 (w + 1) (by omega)]))
  have hfr : ∀ r, r < w → ctI2 r = ct r := fun r hp => (hCI2 r (by omega)).trans (hfr r hp)
  have hfra : ∀ r, r ≤ w → adI2 r = ad r := fun r hp => (hAI2 r (by omega)).trans (hfra r hp)
  refine g_same (L' := [(0, .ref (adI2 w))]) (st' := [.ref (adI2 (w + 3)), .ref (adI2 w)]) (by rw [hAI2 w (by omega)]) (by rw [hAI2 (w + 3) (by omega), hAI2 w (by omega)]) ?_
  have hW1 := hW1.move (ad' := adI2) (ct' := ctI2) (hAI2 _ (by omega)) (hCI2 _ (by omega)) (hCI2 _ (by omega))
  refine g_putF (r := w) (fs' := [.ref (adI2 (w + 1)), .ref (adI2 (w + 3))]) fx hnm lpX7_16 (by omega) ho rfl rfl (Nat.le_of_ble_eq_true rfl) rfl dX7_init_23 (fun ctQ ectQ => ?_)
  have hfr : ∀ r, r < w → ctQ r = ct r := fun r hp => (congrFun ectQ r).trans ((va_up_ne _ _ (by omega)).trans (hfr r hp))
  have ho : ctQ w = .inr (7, [.ref (adI2 (w + 1)), .ref (adI2 (w + 3))]) := by rw [ectQ, va_up_self]
  have hW1 := hW1.frame (ct' := ctQ) (by rw [ectQ, va_up_ne _ _ (by omega)]) (by rw [ectQ, va_up_ne _ _ (by omega)])
  have hW3 := hW3.frame (ct' := ctQ) (by rw [ectQ, va_up_ne _ _ (by omega)]) (by rw [ectQ, va_up_ne _ _ (by omega)])
  refine g_more (k1 := 4) (s1 := 28) (by omega) (by omega) ?_
  refine g_vret fx rt dX7_init_26 ?_
  exact gPx.mk ⟨hfra, hfr, ho, hW1, hW3⟩
set_option maxHeartbeats 4000000 in
set_option maxRecDepth 100000 in
theorem c_X8_init (B : gB) (ad : Nat → Nat) (ct : Nat → va_E) (w : Nat) (ho : ct w = .inr (8, [.null, .null, .int 0, .int 0, .int 0, .long 0, .long 0])) : Ctr B yX8_init cX8_init 1 none 2 40 6 262 ad ct (w + 1) [.ref (ad w)] (gPx (w + 7) (fun ad' ct' => (∀ r, r ≤ w → ad' r = ad r) ∧ (∀ r, r < w → ct' r = ct r) ∧ ct' w = .inr (8, [.ref (ad' (w + 1)), .ref (ad' (w + 4)), .int (nI 0), .int (nI 0), .int (nI 0), .long (lN 0), .long (lN 0)]) ∧ ct' (w + 1) = .inr (4, [.ref (ad' (w + 2)), .ref (ad' (w + 3)), .int (nI 0)]) ∧ ct' (w + 2) = .inl (B.2.1 0, 64, .inl (nF (fun _ => 0))) ∧ ct' (w + 3) = .inl (B.2.1 0, 64, .inl (nF (fun _ => 0))) ∧ ct' (w + 4) = .inr (4, [.ref (ad' (w + 5)), .ref (ad' (w + 6)), .int (nI 0)]) ∧ ct' (w + 5) = .inl (B.2.1 0, 64, .inl (nF (fun _ => 0))) ∧ ct' (w + 6) = .inl (B.2.1 0, 64, .inl (nF (fun _ => 0))))) := by
  have hfr : ∀ r, r < w → ct r = ct r := fun _ _ => rfl
  have hfra : ∀ r, r ≤ w → ad r = ad r := fun _ _ => rfl
  refine Ctr.ofG (L := [(0, .ref (ad w))]) (by decide +kernel) rfl (Nat.le_of_ble_eq_true rfl) (fun E fx rt hnm => ?_)
  refine g_aload_n fx 0 dX8_init_0 rfl ?_
  refine g_objInit fx oiX8_1 ojI ojC (by decide) (by decide) dX8_init_1 ?_
  refine g_aload_n fx 0 dX8_init_4 rfl ?_
  refine g_newo fx nwX4 clX8_7 ⟨by dsimp only; omega, by dsimp only; omega⟩ dX8_init_5 (fun ad_1 ct_1 hA_1 hC_1 hN_1 => ?_)
  refine g_same (L' := [(0, .ref (ad_1 w))]) (st' := [.ref (ad_1 (w + 1)), .ref (ad_1 w)]) (by rw [hA_1 w (by omega)]) (by rw [hA_1 w (by omega)]) ?_
  have ho : ct_1 w = .inr (8, [.null, .null, .int 0, .int 0, .int 0, .long 0, .long 0]) := (hC_1 w (by omega)).trans ho
  have hfra : ∀ r, r ≤ w → ad_1 r = ad r := fun r hp => (hA_1 r (by omega)).trans (hfra r hp)
  have hfr : ∀ r, r < w → ct_1 r = ct r := fun r hp => (hC_1 r (by omega)).trans (hfr r hp)
  refine g_dup fx dX8_init_8 rfl ?_
  refine g_callIx (As := []) (rest := [.ref (ad_1 (w + 1)), .ref (ad_1 w)]) fx slX8_9 (c_X4_init B ad_1 ct_1 (w + 1) hN_1) rfl rfl (Nat.le_of_ble_eq_true rfl) ⟨by dsimp only; omega, by dsimp only; omega⟩ ⟨by dsimp only; omega, by dsimp only; omega⟩ dX8_init_9 (fun adI1 ctI1 hz1 => ?_)
  obtain ⟨hAI1, hCI1, hHa1, hHb1, hHc1⟩ := hz1
  have ho : ctI1 w = .inr (8, [.null, .null, .int 0, .int 0, .int 0, .long 0, .long 0]) := (hCI1 w (by omega)).trans ho
  have hfr : ∀ r, r < w → ctI1 r = ct r := fun r hp => (hCI1 r (by omega)).trans (hfr r hp)
  have hfra : ∀ r, r ≤ w → adI1 r = ad r := fun r hp => (hAI1 r (by omega)).trans (hfra r hp)
  refine g_same (L' := [(0, .ref (adI1 w))]) (st' := [.ref (adI1 (w + 1)), .ref (adI1 w)]) (by rw [hAI1 w (by omega)]) (by rw [hAI1 (w + 1) (by omega), hAI1 w (by omega)]) ?_
  refine g_putF (r := w) (fs' := [.ref (adI1 (w + 1)), .null, .int 0, .int 0, .int 0, .long 0, .long 0]) fx hnm lpX8_10 (by omega) ho rfl rfl (Nat.le_of_ble_eq_true rfl) rfl dX8_init_12 (fun cu1 ecu1 => ?_)
  have hfr : ∀ r, r < w → cu1 r = ct r := fun r hp => (congrFun ecu1 r).trans ((va_up_ne _ _ (by omega)).trans (hfr r hp))
  have ho : cu1 w = .inr (8, [.ref (adI1 (w + 1)), .null, .int 0, .int 0, .int 0, .long 0, .long 0]) := by rw [ecu1, va_up_self]
  have hHa1 : cu1 (w + 1) = .inr (4, [.ref (adI1 (w + 2)), .ref (adI1 (w + 3)), .int (nI 0)]) := (congrFun ecu1 _).trans ((va_up_ne _ _ (by omega)).trans hHa1)
  have hHb1 : cu1 (w + 2) = .inl (B.2.1 0, 64, .inl (nF (fun _ => 0))) := (congrFun ecu1 _).trans ((va_up_ne _ _ (by omega)).trans hHb1)
  have hHc1 : cu1 (w + 3) = .inl (B.2.1 0, 64, .inl (nF (fun _ => 0))) := (congrFun ecu1 _).trans ((va_up_ne _ _ (by omega)).trans hHc1)
  refine g_aload_n fx 0 dX8_init_15 rfl ?_
  refine g_newo fx nwX4 clX8_7 ⟨by dsimp only; omega, by dsimp only; omega⟩ dX8_init_16 (fun ad_2 ct_2 hA_2 hC_2 hN_2 => ?_)
  refine g_same (L' := [(0, .ref (ad_2 w))]) (st' := [.ref (ad_2 (w + 4)), .ref (ad_2 w)]) (by rw [hA_2 w (by omega)]) (by rw [hA_2 w (by omega)]) ?_
  have ho : ct_2 w = .inr (8, [.ref (ad_2 (w + 1)), .null, .int 0, .int 0, .int 0, .long 0, .long 0]) := (hC_2 w (by omega)).trans (ho.trans (by rw [hA_2 (w + 1) (by omega)]))
  have hHa1 : ct_2 (w + 1) = .inr (4, [.ref (ad_2 (w + 2)), .ref (ad_2 (w + 3)), .int (nI 0)]) := (hC_2 (w + 1) (by omega)).trans (hHa1.trans (by rw [hA_2 (w + 2) (by omega), hA_2 (w + 3) (by omega)]))
  have hHb1 : ct_2 (w + 2) = .inl (B.2.1 0, 64, .inl (nF (fun _ => 0))) := (hC_2 (w + 2) (by omega)).trans hHb1
  have hHc1 : ct_2 (w + 3) = .inl (B.2.1 0, 64, .inl (nF (fun _ => 0))) := (hC_2 (w + 3) (by omega)).trans hHc1
  have hfra : ∀ r, r ≤ w → ad_2 r = ad r := fun r hp => (hA_2 r (by omega)).trans (hfra r hp)
  have hfr : ∀ r, r < w → ct_2 r = ct r := fun r hp => (hC_2 r (by omega)).trans (hfr r hp)
  refine g_dup fx dX8_init_19 rfl ?_
  refine g_callIx (As := []) (rest := [.ref (ad_2 (w + 4)), .ref (ad_2 w)]) fx slX8_9 (c_X4_init B ad_2 ct_2 (w + 4) hN_2) rfl rfl (Nat.le_of_ble_eq_true rfl) ⟨by dsimp only; omega, by dsimp only; omega⟩ ⟨by dsimp only; omega, by dsimp only; omega⟩ dX8_init_20 (fun adI2 ctI2 hz2 => ?_)
  obtain ⟨hAI2, hCI2, hHa4, hHb4, hHc4⟩ := hz2
  have ho : ctI2 w = .inr (8, [.ref (adI2 (w + 1)), .null, .int 0, .int 0, .int 0, .long 0, .long 0]) := (hCI2 w (by omega)).trans (ho.trans (by rw [hAI2 (w + 1) (by omega)]))
  have hHa1 : ctI2 (w + 1) = .inr (4, [.ref (adI2 (w + 2)), .ref (adI2 (w + 3)), .int (nI 0)]) := (hCI2 (w + 1) (by omega)).trans (hHa1.trans (by rw [hAI2 (w + 2) (by omega), hAI2 (w + 3) (by omega)]))
  have hHb1 : ctI2 (w + 2) = .inl (B.2.1 0, 64, .inl (nF (fun _ => 0))) := (hCI2 (w + 2) (by omega)).trans hHb1
  have hHc1 : ctI2 (w + 3) = .inl (B.2.1 0, 64, .inl (nF (fun _ => 0))) := (hCI2 (w + 3) (by omega)).trans hHc1
  have hfr : ∀ r, r < w → ctI2 r = ct r := fun r hp => (hCI2 r (by omega)).trans (hfr r hp)
  have hfra : ∀ r, r ≤ w → adI2 r = ad r := fun r hp => (hAI2 r (by omega)).trans (hfra r hp)
  refine g_same (L' := [(0, .ref (adI2 w))]) (st' := [.ref (adI2 (w + 4)), .ref (adI2 w)]) (by rw [hAI2 w (by omega)]) (by rw [hAI2 (w + 4) (by omega), hAI2 w (by omega)]) ?_
  refine g_putF (r := w) (fs' := [.ref (adI2 (w + 1)), .ref (adI2 (w + 4)), .int 0, .int 0, .int 0, .long 0, .long 0]) fx hnm lpX8_16 (by omega) ho rfl rfl (Nat.le_of_ble_eq_true rfl) rfl dX8_init_23 (fun cu2 ecu2 => ?_)
  have hfr : ∀ r, r < w → cu2 r = ct r := fun r hp => (congrFun ecu2 r).trans ((va_up_ne _ _ (by omega)).trans (hfr r hp))
  have ho : cu2 w = .inr (8, [.ref (adI2 (w + 1)), .ref (adI2 (w + 4)), .int 0, .int 0, .int 0, .long 0, .long 0]) := by rw [ecu2, va_up_self]
  have hHa1 : cu2 (w + 1) = .inr (4, [.ref (adI2 (w + 2)), .ref (adI2 (w + 3)), .int (nI 0)]) := (congrFun ecu2 _).trans ((va_up_ne _ _ (by omega)).trans hHa1)
  have hHb1 : cu2 (w + 2) = .inl (B.2.1 0, 64, .inl (nF (fun _ => 0))) := (congrFun ecu2 _).trans ((va_up_ne _ _ (by omega)).trans hHb1)
  have hHc1 : cu2 (w + 3) = .inl (B.2.1 0, 64, .inl (nF (fun _ => 0))) := (congrFun ecu2 _).trans ((va_up_ne _ _ (by omega)).trans hHc1)
  have hHa4 : cu2 (w + 4) = .inr (4, [.ref (adI2 (w + 5)), .ref (adI2 (w + 6)), .int (nI 0)]) := (congrFun ecu2 _).trans ((va_up_ne _ _ (by omega)).trans hHa4)
  have hHb4 : cu2 (w + 5) = .inl (B.2.1 0, 64, .inl (nF (fun _ => 0))) := (congrFun ecu2 _).trans ((va_up_ne _ _ (by omega)).trans hHb4)
  have hHc4 : cu2 (w + 6) = .inl (B.2.1 0, 64, .inl (nF (fun _ => 0))) := (congrFun ecu2 _).trans ((va_up_ne _ _ (by omega)).trans hHc4)
  refine g_more (k1 := 6) (s1 := 262) (by omega) (by omega) ?_
  refine g_vret fx rt dX8_init_26 ?_
  exact gPx.mk ⟨hfra, hfr, ho, hHa1, hHb1, hHc1, hHa4, hHb4, hHc4⟩
