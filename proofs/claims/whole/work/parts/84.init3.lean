def tri : Nat → Nat
  | 0 => 0
  | n + 1 => tri n + (n + 1)
theorem tri_eq : ∀ n, n * (n + 1) / 2 = tri n
  | 0 => rfl
  | n + 1 => by
    have ih := tri_eq n
    have e : (n + 1) * (n + 1 + 1) = n * (n + 1) + 2 * (n + 1) := by grind
    show _ = tri n + (n + 1)
    rw [e]
    omega
theorem tri_le {a b : Nat} (h : a ≤ b) : tri a ≤ tri b := by
  induction b with
  | zero => rw [show a = 0 by omega]; exact Nat.le_refl _
  | succ b ih =>
    by_cases q : a = b + 1
    · rw [q]; exact Nat.le_refl _
    · exact Nat.le_trans (ih (by omega)) (Nat.le_add_right _ _)
theorem tri_pred {n : Nat} (h : 0 < n) : tri n = tri (n - 1) + n := by
  obtain ⟨m, rfl⟩ : ∃ m, n = m + 1 := ⟨n - 1, by omega⟩
  rfl
theorem ch_tri {n k : Nat} (hk : 0 < k) (hn : k < n) : ch (n - 1) (k - 1) + ch (n - 1) k = ch n k := by
  obtain ⟨m, rfl⟩ : ∃ m, n = m + 1 := ⟨n - 1, by omega⟩
  obtain ⟨j, rfl⟩ : ∃ j, k = j + 1 := ⟨k - 1, by omega⟩
  rfl
def iWk (B : gB) (ad : Nat → Nat) (ct : Nat → va_E) (w : Nat) : Prop := (∃ gt : Nat → Nat, ct (w + 1) = .inl (B.2.1 1, 1891, .inr (.inl (lF gt))) ∧ ∀ a b, a ≤ 60 → b ≤ a → gt (a * (a + 1) / 2 + b) = ch a b) ∧ ct (w + 2) = .inl (B.2.1 0, 5, .inl (nF (fun _ => 0))) ∧ ct (w + 3) = .inl (B.2.1 0, 5, .inl (nF (fun _ => 0))) ∧ ct (w + 4) = .inl (B.2.1 0, 25, .inl (nF (fun _ => 0))) ∧ (∃ f : Nat → Option Nat, ct (w + 5) = .inl (B.2.1 3, 26, .inr (.inr (.inr (.inr f)))) ∧ ∀ j, j < 26 → f j = some (ad (w + 16 + 2 * j))) ∧ ∀ i, i < 31 → isW B ad ct (w + 6 + 2 * i) 0
set_option maxHeartbeats 4000000 in
set_option maxRecDepth 100000 in
theorem c_X9_init (B : gB) (ad : Nat → Nat) (ct : Nat → va_E) (w : Nat) (ho : ct w = .inr (9, [.null, .null, .null, .null, .null, .int 0, .int 0, .int 0, .int 0, .null, .null, .null, .null, .null, .null])) : Ctr B yX9_init cX9_init 5 none 2 40 67 2386 ad ct (w + 1) [.ref (ad w)] (gPx (w + 68) (fun ad' ct' => (∀ r, r ≤ w → ad' r = ad r) ∧ (∀ r, r < w → ct' r = ct r) ∧ ct' w = .inr (9, [.ref (ad' (w + 1)), .ref (ad' (w + 2)), .ref (ad' (w + 3)), .ref (ad' (w + 4)), .ref (ad' (w + 5)), .int 0, .int 0, .int 0, .int 0, .null, .ref (ad' (w + 6)), .ref (ad' (w + 8)), .ref (ad' (w + 10)), .ref (ad' (w + 12)), .ref (ad' (w + 14))]) ∧ iWk B ad' ct' w)) := by
  have hfr : ∀ r, r < w → ct r = ct r := fun _ _ => rfl
  have hfra : ∀ r, r ≤ w → ad r = ad r := fun _ _ => rfl
  refine Ctr.ofG (L := [(0, .ref (ad w))]) (by decide +kernel) rfl (Nat.le_of_ble_eq_true rfl) (fun E fx rt hnm => ?_)
  refine g_aload_n fx 0 dX9_init_0 rfl ?_
  refine g_objInit fx oiX9_3 ojI ojC (by decide) (by decide) dX9_init_1 ?_
  refine g_aload_n fx 0 dX9_init_4 rfl ?_
  refine g_sipush (v := nI 1891) fx dX9_init_5 (by decide +kernel) ?_
  refine g_newl (N := 1891) fx (nI_toInt (by omega)) (by omega) ⟨by dsimp only; omega, by dsimp only; omega⟩ dX9_init_8 (fun ad_1 ct_1 hA_1 hC_1 hN_1 => ?_)
  refine g_same (L' := [(0, .ref (ad_1 w))]) (st' := [.ref (ad_1 (w + 1)), .ref (ad_1 w)]) (by rw [hA_1 w (by omega)]) (by rw [hA_1 w (by omega)]) ?_
  have ho : ct_1 w = .inr (9, [.null, .null, .null, .null, .null, .int 0, .int 0, .int 0, .int 0, .null, .null, .null, .null, .null, .null]) := (hC_1 w (by omega)).trans ho
  have hfra : ∀ r, r ≤ w → ad_1 r = ad r := fun r hp => (hA_1 r (by omega)).trans (hfra r hp)
  have hfr : ∀ r, r < w → ct_1 r = ct r := fun r hp => (hC_1 r (by omega)).trans (hfr r hp)
  refine g_putF (r := w) (fs' := [.ref (ad_1 (w + 1)), .null, .null, .null, .null, .int 0, .int 0, .int 0, .int 0, .null, .null, .null, .null, .null, .null]) fx hnm lpX9_9 (by omega) ho rfl rfl (Nat.le_of_ble_eq_true rfl) rfl dX9_init_10 (fun cu1 ecu1 => ?_)
  have hfr : ∀ r, r < w → cu1 r = ct r := fun r hp => (congrFun ecu1 r).trans ((va_up_ne _ _ (by omega)).trans (hfr r hp))
  have ho : cu1 w = .inr (9, [.ref (ad_1 (w + 1)), .null, .null, .null, .null, .int 0, .int 0, .int 0, .int 0, .null, .null, .null, .null, .null, .null]) := by rw [ecu1, va_up_self]
  have hN_1 : cu1 (w + 1) = .inl (B.2.1 1, 1891, .inr (.inl (lF (fun _ => 0)))) := (congrFun ecu1 _).trans ((va_up_ne _ _ (by omega)).trans hN_1)
  refine g_aload_n fx 0 dX9_init_13 rfl ?_
  refine g_iconst (v := nI 5) fx dX9_init_14 (by decide +kernel) ?_
  refine g_newi (N := 5) fx (nI_toInt (by omega)) (by omega) ⟨by dsimp only; omega, by dsimp only; omega⟩ dX9_init_15 (fun ad_2 ct_2 hA_2 hC_2 hN_2 => ?_)
  refine g_same (L' := [(0, .ref (ad_2 w))]) (st' := [.ref (ad_2 (w + 2)), .ref (ad_2 w)]) (by rw [hA_2 w (by omega)]) (by rw [hA_2 w (by omega)]) ?_
  have ho : ct_2 w = .inr (9, [.ref (ad_2 (w + 1)), .null, .null, .null, .null, .int 0, .int 0, .int 0, .int 0, .null, .null, .null, .null, .null, .null]) := (hC_2 w (by omega)).trans (ho.trans (by rw [hA_2 (w + 1) (by omega)]))
  have hN_1 : ct_2 (w + 1) = .inl (B.2.1 1, 1891, .inr (.inl (lF (fun _ => 0)))) := (hC_2 (w + 1) (by omega)).trans hN_1
  have hfra : ∀ r, r ≤ w → ad_2 r = ad r := fun r hp => (hA_2 r (by omega)).trans (hfra r hp)
  have hfr : ∀ r, r < w → ct_2 r = ct r := fun r hp => (hC_2 r (by omega)).trans (hfr r hp)
  refine g_putF (r := w) (fs' := [.ref (ad_2 (w + 1)), .ref (ad_2 (w + 2)), .null, .null, .null, .int 0, .int 0, .int 0, .int 0, .null, .null, .null, .null, .null, .null]) fx hnm lpX9_15 (by omega) ho rfl rfl (Nat.le_of_ble_eq_true rfl) rfl dX9_init_17 (fun cu2 ecu2 => ?_)
  have hfr : ∀ r, r < w → cu2 r = ct r := fun r hp => (congrFun ecu2 r).trans ((va_up_ne _ _ (by omega)).trans (hfr r hp))
  have ho : cu2 w = .inr (9, [.ref (ad_2 (w + 1)), .ref (ad_2 (w + 2)), .null, .null, .null, .int 0, .int 0, .int 0, .int 0, .null, .null, .null, .null, .null, .null]) := by rw [ecu2, va_up_self]
  have hN_1 : cu2 (w + 1) = .inl (B.2.1 1, 1891, .inr (.inl (lF (fun _ => 0)))) := (congrFun ecu2 _).trans ((va_up_ne _ _ (by omega)).trans hN_1)
  have hN_2 : cu2 (w + 2) = .inl (B.2.1 0, 5, .inl (nF (fun _ => 0))) := (congrFun ecu2 _).trans ((va_up_ne _ _ (by omega)).trans hN_2)
  refine g_aload_n fx 0 dX9_init_20 rfl ?_
  refine g_iconst (v := nI 5) fx dX9_init_21 (by decide +kernel) ?_
  refine g_newi (N := 5) fx (nI_toInt (by omega)) (by omega) ⟨by dsimp only; omega, by dsimp only; omega⟩ dX9_init_22 (fun ad_3 ct_3 hA_3 hC_3 hN_3 => ?_)
  refine g_same (L' := [(0, .ref (ad_3 w))]) (st' := [.ref (ad_3 (w + 3)), .ref (ad_3 w)]) (by rw [hA_3 w (by omega)]) (by rw [hA_3 w (by omega)]) ?_
  have ho : ct_3 w = .inr (9, [.ref (ad_3 (w + 1)), .ref (ad_3 (w + 2)), .null, .null, .null, .int 0, .int 0, .int 0, .int 0, .null, .null, .null, .null, .null, .null]) := (hC_3 w (by omega)).trans (ho.trans (by rw [hA_3 (w + 1) (by omega), hA_3 (w + 2) (by omega)]))
  have hN_1 : ct_3 (w + 1) = .inl (B.2.1 1, 1891, .inr (.inl (lF (fun _ => 0)))) := (hC_3 (w + 1) (by omega)).trans hN_1
  have hN_2 : ct_3 (w + 2) = .inl (B.2.1 0, 5, .inl (nF (fun _ => 0))) := (hC_3 (w + 2) (by omega)).trans hN_2
  have hfra : ∀ r, r ≤ w → ad_3 r = ad r := fun r hp => (hA_3 r (by omega)).trans (hfra r hp)
  have hfr : ∀ r, r < w → ct_3 r = ct r := fun r hp => (hC_3 r (by omega)).trans (hfr r hp)
  refine g_putF (r := w) (fs' := [.ref (ad_3 (w + 1)), .ref (ad_3 (w + 2)), .ref (ad_3 (w + 3)), .null, .null, .int 0, .int 0, .int 0, .int 0, .null, .null, .null, .null, .null, .null]) fx hnm lpX9_19 (by omega) ho rfl rfl (Nat.le_of_ble_eq_true rfl) rfl dX9_init_24 (fun cu3 ecu3 => ?_)
  have hfr : ∀ r, r < w → cu3 r = ct r := fun r hp => (congrFun ecu3 r).trans ((va_up_ne _ _ (by omega)).trans (hfr r hp))
  have ho : cu3 w = .inr (9, [.ref (ad_3 (w + 1)), .ref (ad_3 (w + 2)), .ref (ad_3 (w + 3)), .null, .null, .int 0, .int 0, .int 0, .int 0, .null, .null, .null, .null, .null, .null]) := by rw [ecu3, va_up_self]
  have hN_1 : cu3 (w + 1) = .inl (B.2.1 1, 1891, .inr (.inl (lF (fun _ => 0)))) := (congrFun ecu3 _).trans ((va_up_ne _ _ (by omega)).trans hN_1)
  have hN_2 : cu3 (w + 2) = .inl (B.2.1 0, 5, .inl (nF (fun _ => 0))) := (congrFun ecu3 _).trans ((va_up_ne _ _ (by omega)).trans hN_2)
  have hN_3 : cu3 (w + 3) = .inl (B.2.1 0, 5, .inl (nF (fun _ => 0))) := (congrFun ecu3 _).trans ((va_up_ne _ _ (by omega)).trans hN_3)
  refine g_aload_n fx 0 dX9_init_27 rfl ?_
  refine g_bipush (v := nI 25) fx dX9_init_28 (by decide +kernel) ?_
  refine g_newi (N := 25) fx (nI_toInt (by omega)) (by omega) ⟨by dsimp only; omega, by dsimp only; omega⟩ dX9_init_30 (fun ad_4 ct_4 hA_4 hC_4 hN_4 => ?_)
  refine g_same (L' := [(0, .ref (ad_4 w))]) (st' := [.ref (ad_4 (w + 4)), .ref (ad_4 w)]) (by rw [hA_4 w (by omega)]) (by rw [hA_4 w (by omega)]) ?_
  have ho : ct_4 w = .inr (9, [.ref (ad_4 (w + 1)), .ref (ad_4 (w + 2)), .ref (ad_4 (w + 3)), .null, .null, .int 0, .int 0, .int 0, .int 0, .null, .null, .null, .null, .null, .null]) := (hC_4 w (by omega)).trans (ho.trans (by rw [hA_4 (w + 1) (by omega), hA_4 (w + 2) (by omega), hA_4 (w + 3) (by omega)]))
  have hN_1 : ct_4 (w + 1) = .inl (B.2.1 1, 1891, .inr (.inl (lF (fun _ => 0)))) := (hC_4 (w + 1) (by omega)).trans hN_1
  have hN_2 : ct_4 (w + 2) = .inl (B.2.1 0, 5, .inl (nF (fun _ => 0))) := (hC_4 (w + 2) (by omega)).trans hN_2
  have hN_3 : ct_4 (w + 3) = .inl (B.2.1 0, 5, .inl (nF (fun _ => 0))) := (hC_4 (w + 3) (by omega)).trans hN_3
  have hfra : ∀ r, r ≤ w → ad_4 r = ad r := fun r hp => (hA_4 r (by omega)).trans (hfra r hp)
  have hfr : ∀ r, r < w → ct_4 r = ct r := fun r hp => (hC_4 r (by omega)).trans (hfr r hp)
  refine g_putF (r := w) (fs' := [.ref (ad_4 (w + 1)), .ref (ad_4 (w + 2)), .ref (ad_4 (w + 3)), .ref (ad_4 (w + 4)), .null, .int 0, .int 0, .int 0, .int 0, .null, .null, .null, .null, .null, .null]) fx hnm lpX9_22 (by omega) ho rfl rfl (Nat.le_of_ble_eq_true rfl) rfl dX9_init_32 (fun cu4 ecu4 => ?_)
  have hfr : ∀ r, r < w → cu4 r = ct r := fun r hp => (congrFun ecu4 r).trans ((va_up_ne _ _ (by omega)).trans (hfr r hp))
  have ho : cu4 w = .inr (9, [.ref (ad_4 (w + 1)), .ref (ad_4 (w + 2)), .ref (ad_4 (w + 3)), .ref (ad_4 (w + 4)), .null, .int 0, .int 0, .int 0, .int 0, .null, .null, .null, .null, .null, .null]) := by rw [ecu4, va_up_self]
  have hN_1 : cu4 (w + 1) = .inl (B.2.1 1, 1891, .inr (.inl (lF (fun _ => 0)))) := (congrFun ecu4 _).trans ((va_up_ne _ _ (by omega)).trans hN_1)
  have hN_2 : cu4 (w + 2) = .inl (B.2.1 0, 5, .inl (nF (fun _ => 0))) := (congrFun ecu4 _).trans ((va_up_ne _ _ (by omega)).trans hN_2)
  have hN_3 : cu4 (w + 3) = .inl (B.2.1 0, 5, .inl (nF (fun _ => 0))) := (congrFun ecu4 _).trans ((va_up_ne _ _ (by omega)).trans hN_3)
  have hN_4 : cu4 (w + 4) = .inl (B.2.1 0, 25, .inl (nF (fun _ => 0))) := (congrFun ecu4 _).trans ((va_up_ne _ _ (by omega)).trans hN_4)
  refine g_aload_n fx 0 dX9_init_35 rfl ?_
  refine g_bipush (v := nI 26) fx dX9_init_36 (by decide +kernel) ?_
  refine g_newq (N := 26) (t0 := 3) fx clX9_25 (by decide +kernel) rfl (nI_toInt (by omega)) (by omega) ⟨by dsimp only; omega, by dsimp only; omega⟩ dX9_init_38 (fun ad_5 ct_5 hA_5 hC_5 hN_5 => ?_)
  refine g_same (L' := [(0, .ref (ad_5 w))]) (st' := [.ref (ad_5 (w + 5)), .ref (ad_5 w)]) (by rw [hA_5 w (by omega)]) (by rw [hA_5 w (by omega)]) ?_
  have ho : ct_5 w = .inr (9, [.ref (ad_5 (w + 1)), .ref (ad_5 (w + 2)), .ref (ad_5 (w + 3)), .ref (ad_5 (w + 4)), .null, .int 0, .int 0, .int 0, .int 0, .null, .null, .null, .null, .null, .null]) := (hC_5 w (by omega)).trans (ho.trans (by rw [hA_5 (w + 1) (by omega), hA_5 (w + 2) (by omega), hA_5 (w + 3) (by omega), hA_5 (w + 4) (by omega)]))
  have hN_1 : ct_5 (w + 1) = .inl (B.2.1 1, 1891, .inr (.inl (lF (fun _ => 0)))) := (hC_5 (w + 1) (by omega)).trans hN_1
  have hN_2 : ct_5 (w + 2) = .inl (B.2.1 0, 5, .inl (nF (fun _ => 0))) := (hC_5 (w + 2) (by omega)).trans hN_2
  have hN_3 : ct_5 (w + 3) = .inl (B.2.1 0, 5, .inl (nF (fun _ => 0))) := (hC_5 (w + 3) (by omega)).trans hN_3
  have hN_4 : ct_5 (w + 4) = .inl (B.2.1 0, 25, .inl (nF (fun _ => 0))) := (hC_5 (w + 4) (by omega)).trans hN_4
  have hfra : ∀ r, r ≤ w → ad_5 r = ad r := fun r hp => (hA_5 r (by omega)).trans (hfra r hp)
  have hfr : ∀ r, r < w → ct_5 r = ct r := fun r hp => (hC_5 r (by omega)).trans (hfr r hp)
  refine g_putF (r := w) (fs' := [.ref (ad_5 (w + 1)), .ref (ad_5 (w + 2)), .ref (ad_5 (w + 3)), .ref (ad_5 (w + 4)), .ref (ad_5 (w + 5)), .int 0, .int 0, .int 0, .int 0, .null, .null, .null, .null, .null, .null]) fx hnm lpX9_27 (by omega) ho rfl rfl (Nat.le_of_ble_eq_true rfl) rfl dX9_init_41 (fun cuW ecuW => ?_)
  have hfr : ∀ r, r < w → cuW r = ct r := fun r hp => (congrFun ecuW r).trans ((va_up_ne _ _ (by omega)).trans (hfr r hp))
  have ho : cuW w = .inr (9, [.ref (ad_5 (w + 1)), .ref (ad_5 (w + 2)), .ref (ad_5 (w + 3)), .ref (ad_5 (w + 4)), .ref (ad_5 (w + 5)), .int 0, .int 0, .int 0, .int 0, .null, .null, .null, .null, .null, .null]) := by rw [ecuW, va_up_self]
  have hN_1 : cuW (w + 1) = .inl (B.2.1 1, 1891, .inr (.inl (lF (fun _ => 0)))) := (congrFun ecuW _).trans ((va_up_ne _ _ (by omega)).trans hN_1)
  have hN_2 : cuW (w + 2) = .inl (B.2.1 0, 5, .inl (nF (fun _ => 0))) := (congrFun ecuW _).trans ((va_up_ne _ _ (by omega)).trans hN_2)
  have hN_3 : cuW (w + 3) = .inl (B.2.1 0, 5, .inl (nF (fun _ => 0))) := (congrFun ecuW _).trans ((va_up_ne _ _ (by omega)).trans hN_3)
  have hN_4 : cuW (w + 4) = .inl (B.2.1 0, 25, .inl (nF (fun _ => 0))) := (congrFun ecuW _).trans ((va_up_ne _ _ (by omega)).trans hN_4)
  have hN_5 : cuW (w + 5) = .inl (B.2.1 3, 26, .inr (.inr (.inr (.inr (fun _ => none))))) := (congrFun ecuW _).trans ((va_up_ne _ _ (by omega)).trans hN_5)
  have hWs : ∀ j, j < 0 → isW B ad_5 cuW (w + 6 + 2 * j) 0 := fun j hj => absurd hj (Nat.not_lt_zero _)
  refine g_aload_n fx 0 dX9_init_44 rfl ?_
  refine g_newo fx nwX10 clX9_25 ⟨by dsimp only; omega, by dsimp only; omega⟩ dX9_init_45 (fun ad_20 ct_20 hA_20 hC_20 hN_20 => ?_)
  refine g_same (L' := [(0, .ref (ad_20 w))]) (st' := [.ref (ad_20 (w + 6)), .ref (ad_20 w)]) (by rw [hA_20 w (by omega)]) (by rw [hA_20 w (by omega)]) ?_
  have ho : ct_20 w = .inr (9, [.ref (ad_20 (w + 1)), .ref (ad_20 (w + 2)), .ref (ad_20 (w + 3)), .ref (ad_20 (w + 4)), .ref (ad_20 (w + 5)), .int 0, .int 0, .int 0, .int 0, .null, .null, .null, .null, .null, .null]) := (hC_20 w (by omega)).trans (ho.trans (by rw [hA_20 (w + 1) (by omega), hA_20 (w + 2) (by omega), hA_20 (w + 3) (by omega), hA_20 (w + 4) (by omega), hA_20 (w + 5) (by omega)]))
  have hN_1 : ct_20 (w + 1) = .inl (B.2.1 1, 1891, .inr (.inl (lF (fun _ => 0)))) := (hC_20 (w + 1) (by omega)).trans hN_1
  have hN_2 : ct_20 (w + 2) = .inl (B.2.1 0, 5, .inl (nF (fun _ => 0))) := (hC_20 (w + 2) (by omega)).trans hN_2
  have hN_3 : ct_20 (w + 3) = .inl (B.2.1 0, 5, .inl (nF (fun _ => 0))) := (hC_20 (w + 3) (by omega)).trans hN_3
  have hN_4 : ct_20 (w + 4) = .inl (B.2.1 0, 25, .inl (nF (fun _ => 0))) := (hC_20 (w + 4) (by omega)).trans hN_4
  have hN_5 : ct_20 (w + 5) = .inl (B.2.1 3, 26, .inr (.inr (.inr (.inr (fun _ => none))))) := (hC_20 (w + 5) (by omega)).trans hN_5
  have hfra : ∀ r, r ≤ w → ad_20 r = ad r := fun r hp => (hA_20 r (by omega)).trans (hfra r hp)
  have hfr : ∀ r, r < w → ct_20 r = ct r := fun r hp => (hC_20 r (by omega)).trans (hfr r hp)
  have hWs : ∀ j, j < 0 → isW B ad_20 ct_20 (w + 6 + 2 * j) 0 := fun j hj => (hWs j hj).move (hA_20 _ (by omega)) (hC_20 _ (by omega)) (hC_20 _ (by omega))
  refine g_dup fx dX9_init_48 rfl ?_
  refine g_callIx (As := []) (rest := [.ref (ad_20 (w + 6)), .ref (ad_20 w)]) fx slX9_31 (c_X10_init B ad_20 ct_20 (w + 6) hN_20) rfl rfl (Nat.le_of_ble_eq_true rfl) ⟨by dsimp only; omega, by dsimp only; omega⟩ ⟨by dsimp only; omega, by dsimp only; omega⟩ dX9_init_49 (fun adI10 ctI10 hz10 => ?_)
  obtain ⟨hAI10, hCI10, hWn, _⟩ := hz10
  have ho : ctI10 w = .inr (9, [.ref (adI10 (w + 1)), .ref (adI10 (w + 2)), .ref (adI10 (w + 3)), .ref (adI10 (w + 4)), .ref (adI10 (w + 5)), .int 0, .int 0, .int 0, .int 0, .null, .null, .null, .null, .null, .null]) := (hCI10 w (by omega)).trans (ho.trans (by rw [hAI10 (w + 1) (by omega), hAI10 (w + 2) (by omega), hAI10 (w + 3) (by omega), hAI10 (w + 4) (by omega), hAI10 (w + 5) (by omega)]))
  have hN_1 : ctI10 (w + 1) = .inl (B.2.1 1, 1891, .inr (.inl (lF (fun _ => 0)))) := (hCI10 (w + 1) (by omega)).trans hN_1
  have hN_2 : ctI10 (w + 2) = .inl (B.2.1 0, 5, .inl (nF (fun _ => 0))) := (hCI10 (w + 2) (by omega)).trans hN_2
  have hN_3 : ctI10 (w + 3) = .inl (B.2.1 0, 5, .inl (nF (fun _ => 0))) := (hCI10 (w + 3) (by omega)).trans hN_3
  have hN_4 : ctI10 (w + 4) = .inl (B.2.1 0, 25, .inl (nF (fun _ => 0))) := (hCI10 (w + 4) (by omega)).trans hN_4
  have hN_5 : ctI10 (w + 5) = .inl (B.2.1 3, 26, .inr (.inr (.inr (.inr (fun _ => none))))) := (hCI10 (w + 5) (by omega)).trans hN_5
  have hfr : ∀ r, r < w → ctI10 r = ct r := fun r hp => (hCI10 r (by omega)).trans (hfr r hp)
  have hfra : ∀ r, r ≤ w → adI10 r = ad r := fun r hp => (hAI10 r (by omega)).trans (hfra r hp)
  have hWs : ∀ j, j < 1 → isW B adI10 ctI10 (w + 6 + 2 * j) 0 := fun j hj => by by_cases e : j = 0; (subst e; exact hWn); (exact (hWs j (by omega)).move (hAI10 _ (by omega)) (hCI10 _ (by omega)) (hCI10 _ (by omega)))
  refine g_same (L' := [(0, .ref (adI10 w))]) (st' := [.ref (adI10 (w + 6)), .ref (adI10 w)]) (by rw [hAI10 w (by omega)]) (by rw [hAI10 (w + 6) (by omega), hAI10 w (by omega)]) ?_
  refine g_putF (r := w) (fs' := [.ref (adI10 (w + 1)), .ref (adI10 (w + 2)), .ref (adI10 (w + 3)), .ref (adI10 (w + 4)), .ref (adI10 (w + 5)), .int 0, .int 0, .int 0, .int 0, .null, .ref (adI10 (w + 6)), .null, .null, .null, .null]) fx hnm lpX9_32 (by omega) ho rfl rfl (Nat.le_of_ble_eq_true rfl) rfl dX9_init_52 (fun cuP0 ecuP0 => ?_)
  have hfr : ∀ r, r < w → cuP0 r = ct r := fun r hp => (congrFun ecuP0 r).trans ((va_up_ne _ _ (by omega)).trans (hfr r hp))
  have ho : cuP0 w = .inr (9, [.ref (adI10 (w + 1)), .ref (adI10 (w + 2)), .ref (adI10 (w + 3)), .ref (adI10 (w + 4)), .ref (adI10 (w + 5)), .int 0, .int 0, .int 0, .int 0, .null, .ref (adI10 (w + 6)), .null, .null, .null, .null]) := by rw [ecuP0, va_up_self]
  have hN_1 : cuP0 (w + 1) = .inl (B.2.1 1, 1891, .inr (.inl (lF (fun _ => 0)))) := (congrFun ecuP0 _).trans ((va_up_ne _ _ (by omega)).trans hN_1)
  have hN_2 : cuP0 (w + 2) = .inl (B.2.1 0, 5, .inl (nF (fun _ => 0))) := (congrFun ecuP0 _).trans ((va_up_ne _ _ (by omega)).trans hN_2)
  have hN_3 : cuP0 (w + 3) = .inl (B.2.1 0, 5, .inl (nF (fun _ => 0))) := (congrFun ecuP0 _).trans ((va_up_ne _ _ (by omega)).trans hN_3)
  have hN_4 : cuP0 (w + 4) = .inl (B.2.1 0, 25, .inl (nF (fun _ => 0))) := (congrFun ecuP0 _).trans ((va_up_ne _ _ (by omega)).trans hN_4)
  have hN_5 : cuP0 (w + 5) = .inl (B.2.1 3, 26, .inr (.inr (.inr (.inr (fun _ => none))))) := (congrFun ecuP0 _).trans ((va_up_ne _ _ (by omega)).trans hN_5)
  have hWs : ∀ j, j < 1 → isW B adI10 cuP0 (w + 6 + 2 * j) 0 := fun j hj => (hWs j hj).frame (by rw [ecuP0, va_up_ne _ _ (by omega)]) (by rw [ecuP0, va_up_ne _ _ (by omega)])
  refine g_aload_n fx 0 dX9_init_55 rfl ?_
  refine g_newo fx nwX10 clX9_25 ⟨by dsimp only; omega, by dsimp only; omega⟩ dX9_init_56 (fun ad_21 ct_21 hA_21 hC_21 hN_21 => ?_)
  refine g_same (L' := [(0, .ref (ad_21 w))]) (st' := [.ref (ad_21 (w + 8)), .ref (ad_21 w)]) (by rw [hA_21 w (by omega)]) (by rw [hA_21 w (by omega)]) ?_
  have ho : ct_21 w = .inr (9, [.ref (ad_21 (w + 1)), .ref (ad_21 (w + 2)), .ref (ad_21 (w + 3)), .ref (ad_21 (w + 4)), .ref (ad_21 (w + 5)), .int 0, .int 0, .int 0, .int 0, .null, .ref (ad_21 (w + 6)), .null, .null, .null, .null]) := (hC_21 w (by omega)).trans (ho.trans (by rw [hA_21 (w + 1) (by omega), hA_21 (w + 2) (by omega), hA_21 (w + 3) (by omega), hA_21 (w + 4) (by omega), hA_21 (w + 5) (by omega), hA_21 (w + 6) (by omega)]))
  have hN_1 : ct_21 (w + 1) = .inl (B.2.1 1, 1891, .inr (.inl (lF (fun _ => 0)))) := (hC_21 (w + 1) (by omega)).trans hN_1
  have hN_2 : ct_21 (w + 2) = .inl (B.2.1 0, 5, .inl (nF (fun _ => 0))) := (hC_21 (w + 2) (by omega)).trans hN_2
  have hN_3 : ct_21 (w + 3) = .inl (B.2.1 0, 5, .inl (nF (fun _ => 0))) := (hC_21 (w + 3) (by omega)).trans hN_3
  have hN_4 : ct_21 (w + 4) = .inl (B.2.1 0, 25, .inl (nF (fun _ => 0))) := (hC_21 (w + 4) (by omega)).trans hN_4
  have hN_5 : ct_21 (w + 5) = .inl (B.2.1 3, 26, .inr (.inr (.inr (.inr (fun _ => none))))) := (hC_21 (w + 5) (by omega)).trans hN_5
  have hfra : ∀ r, r ≤ w → ad_21 r = ad r := fun r hp => (hA_21 r (by omega)).trans (hfra r hp)
  have hfr : ∀ r, r < w → ct_21 r = ct r := fun r hp => (hC_21 r (by omega)).trans (hfr r hp)
  have hWs : ∀ j, j < 1 → isW B ad_21 ct_21 (w + 6 + 2 * j) 0 := fun j hj => (hWs j hj).move (hA_21 _ (by omega)) (hC_21 _ (by omega)) (hC_21 _ (by omega))
  refine g_dup fx dX9_init_59 rfl ?_
  refine g_callIx (As := []) (rest := [.ref (ad_21 (w + 8)), .ref (ad_21 w)]) fx slX9_31 (c_X10_init B ad_21 ct_21 (w + 8) hN_21) rfl rfl (Nat.le_of_ble_eq_true rfl) ⟨by dsimp only; omega, by dsimp only; omega⟩ ⟨by dsimp only; omega, by dsimp only; omega⟩ dX9_init_60 (fun adI11 ctI11 hz11 => ?_)
  obtain ⟨hAI11, hCI11, hWn, _⟩ := hz11
  have ho : ctI11 w = .inr (9, [.ref (adI11 (w + 1)), .ref (adI11 (w + 2)), .ref (adI11 (w + 3)), .ref (adI11 (w + 4)), .ref (adI11 (w + 5)), .int 0, .int 0, .int 0, .int 0, .null, .ref (adI11 (w + 6)), .null, .null, .null, .null]) := (hCI11 w (by omega)).trans (ho.trans (by rw [hAI11 (w + 1) (by omega), hAI11 (w + 2) (by omega), hAI11 (w + 3) (by omega), hAI11 (w + 4) (by omega), hAI11 (w + 5) (by omega), hAI11 (w + 6) (by omega)]))
  have hN_1 : ctI11 (w + 1) = .inl (B.2.1 1, 1891, .inr (.inl (lF (fun _ => 0)))) := (hCI11 (w + 1) (by omega)).trans hN_1
  have hN_2 : ctI11 (w + 2) = .inl (B.2.1 0, 5, .inl (nF (fun _ => 0))) := (hCI11 (w + 2) (by omega)).trans hN_2
  have hN_3 : ctI11 (w + 3) = .inl (B.2.1 0, 5, .inl (nF (fun _ => 0))) := (hCI11 (w + 3) (by omega)).trans hN_3
  have hN_4 : ctI11 (w + 4) = .inl (B.2.1 0, 25, .inl (nF (fun _ => 0))) := (hCI11 (w + 4) (by omega)).trans hN_4
  have hN_5 : ctI11 (w + 5) = .inl (B.2.1 3, 26, .inr (.inr (.inr (.inr (fun _ => none))))) := (hCI11 (w + 5) (by omega)).trans hN_5
  have hfr : ∀ r, r < w → ctI11 r = ct r := fun r hp => (hCI11 r (by omega)).trans (hfr r hp)
  have hfra : ∀ r, r ≤ w → adI11 r = ad r := fun r hp => (hAI11 r (by omega)).trans (hfra r hp)
  have hWs : ∀ j, j < 2 → isW B adI11 ctI11 (w + 6 + 2 * j) 0 := fun j hj => by by_cases e : j = 1; (subst e; exact hWn); (exact (hWs j (by omega)).move (hAI11 _ (by omega)) (hCI11 _ (by omega)) (hCI11 _ (by omega)))
  refine g_same (L' := [(0, .ref (adI11 w))]) (st' := [.ref (adI11 (w + 8)), .ref (adI11 w)]) (by rw [hAI11 w (by omega)]) (by rw [hAI11 (w + 8) (by omega), hAI11 w (by omega)]) ?_
  refine g_putF (r := w) (fs' := [.ref (adI11 (w + 1)), .ref (adI11 (w + 2)), .ref (adI11 (w + 3)), .ref (adI11 (w + 4)), .ref (adI11 (w + 5)), .int 0, .int 0, .int 0, .int 0, .null, .ref (adI11 (w + 6)), .ref (adI11 (w + 8)), .null, .null, .null]) fx hnm lpX9_36 (by omega) ho rfl rfl (Nat.le_of_ble_eq_true rfl) rfl dX9_init_63 (fun cuP1 ecuP1 => ?_)
  have hfr : ∀ r, r < w → cuP1 r = ct r := fun r hp => (congrFun ecuP1 r).trans ((va_up_ne _ _ (by omega)).trans (hfr r hp))
  have ho : cuP1 w = .inr (9, [.ref (adI11 (w + 1)), .ref (adI11 (w + 2)), .ref (adI11 (w + 3)), .ref (adI11 (w + 4)), .ref (adI11 (w + 5)), .int 0, .int 0, .int 0, .int 0, .null, .ref (adI11 (w + 6)), .ref (adI11 (w + 8)), .null, .null, .null]) := by rw [ecuP1, va_up_self]
  have hN_1 : cuP1 (w + 1) = .inl (B.2.1 1, 1891, .inr (.inl (lF (fun _ => 0)))) := (congrFun ecuP1 _).trans ((va_up_ne _ _ (by omega)).trans hN_1)
  have hN_2 : cuP1 (w + 2) = .inl (B.2.1 0, 5, .inl (nF (fun _ => 0))) := (congrFun ecuP1 _).trans ((va_up_ne _ _ (by omega)).trans hN_2)
  have hN_3 : cuP1 (w + 3) = .inl (B.2.1 0, 5, .inl (nF (fun _ => 0))) := (congrFun ecuP1 _).trans ((va_up_ne _ _ (by omega)).trans hN_3)
  have hN_4 : cuP1 (w + 4) = .inl (B.2.1 0, 25, .inl (nF (fun _ => 0))) := (congrFun ecuP1 _).trans ((va_up_ne _ _ (by omega)).trans hN_4)
  have hN_5 : cuP1 (w + 5) = .inl (B.2.1 3, 26, .inr (.inr (.inr (.inr (fun _ => none))))) := (congrFun ecuP1 _).trans ((va_up_ne _ _ (by omega)).trans hN_5)
  have hWs : ∀ j, j < 2 → isW B adI11 cuP1 (w + 6 + 2 * j) 0 := fun j hj => (hWs j hj).frame (by rw [ecuP1, va_up_ne _ _ (by omega)]) (by rw [ecuP1, va_up_ne _ _ (by omega)])
  refine g_aload_n fx 0 dX9_init_66 rfl ?_
  refine g_newo fx nwX10 clX9_25 ⟨by dsimp only; omega, by dsimp only; omega⟩ dX9_init_67 (fun ad_22 ct_22 hA_22 hC_22 hN_22 => ?_)
  refine g_same (L' := [(0, .ref (ad_22 w))]) (st' := [.ref (ad_22 (w + 10)), .ref (ad_22 w)]) (by rw [hA_22 w (by omega)]) (by rw [hA_22 w (by omega)]) ?_
  have ho : ct_22 w = .inr (9, [.ref (ad_22 (w + 1)), .ref (ad_22 (w + 2)), .ref (ad_22 (w + 3)), .ref (ad_22 (w + 4)), .ref (ad_22 (w + 5)), .int 0, .int 0, .int 0, .int 0, .null, .ref (ad_22 (w + 6)), .ref (ad_22 (w + 8)), .null, .null, .null]) := (hC_22 w (by omega)).trans (ho.trans (by rw [hA_22 (w + 1) (by omega), hA_22 (w + 2) (by omega), hA_22 (w + 3) (by omega), hA_22 (w + 4) (by omega), hA_22 (w + 5) (by omega), hA_22 (w + 6) (by omega), hA_22 (w + 8) (by omega)]))
  have hN_1 : ct_22 (w + 1) = .inl (B.2.1 1, 1891, .inr (.inl (lF (fun _ => 0)))) := (hC_22 (w + 1) (by omega)).trans hN_1
  have hN_2 : ct_22 (w + 2) = .inl (B.2.1 0, 5, .inl (nF (fun _ => 0))) := (hC_22 (w + 2) (by omega)).trans hN_2
  have hN_3 : ct_22 (w + 3) = .inl (B.2.1 0, 5, .inl (nF (fun _ => 0))) := (hC_22 (w + 3) (by omega)).trans hN_3
  have hN_4 : ct_22 (w + 4) = .inl (B.2.1 0, 25, .inl (nF (fun _ => 0))) := (hC_22 (w + 4) (by omega)).trans hN_4
  have hN_5 : ct_22 (w + 5) = .inl (B.2.1 3, 26, .inr (.inr (.inr (.inr (fun _ => none))))) := (hC_22 (w + 5) (by omega)).trans hN_5
  have hfra : ∀ r, r ≤ w → ad_22 r = ad r := fun r hp => (hA_22 r (by omega)).trans (hfra r hp)
  have hfr : ∀ r, r < w → ct_22 r = ct r := fun r hp => (hC_22 r (by omega)).trans (hfr r hp)
  have hWs : ∀ j, j < 2 → isW B ad_22 ct_22 (w + 6 + 2 * j) 0 := fun j hj => (hWs j hj).move (hA_22 _ (by omega)) (hC_22 _ (by omega)) (hC_22 _ (by omega))
  refine g_dup fx dX9_init_70 rfl ?_
  refine g_callIx (As := []) (rest := [.ref (ad_22 (w + 10)), .ref (ad_22 w)]) fx slX9_31 (c_X10_init B ad_22 ct_22 (w + 10) hN_22) rfl rfl (Nat.le_of_ble_eq_true rfl) ⟨by dsimp only; omega, by dsimp only; omega⟩ ⟨by dsimp only; omega, by dsimp only; omega⟩ dX9_init_71 (fun adI12 ctI12 hz12 => ?_)
  obtain ⟨hAI12, hCI12, hWn, _⟩ := hz12
  have ho : ctI12 w = .inr (9, [.ref (adI12 (w + 1)), .ref (adI12 (w + 2)), .ref (adI12 (w + 3)), .ref (adI12 (w + 4)), .ref (adI12 (w + 5)), .int 0, .int 0, .int 0, .int 0, .null, .ref (adI12 (w + 6)), .ref (adI12 (w + 8)), .null, .null, .null]) := (hCI12 w (by omega)).trans (ho.trans (by rw [hAI12 (w + 1) (by omega), hAI12 (w + 2) (by omega), hAI12 (w + 3) (by omega), hAI12 (w + 4) (by omega), hAI12 (w + 5) (by omega), hAI12 (w + 6) (by omega), hAI12 (w + 8) (by omega)]))
  have hN_1 : ctI12 (w + 1) = .inl (B.2.1 1, 1891, .inr (.inl (lF (fun _ => 0)))) := (hCI12 (w + 1) (by omega)).trans hN_1
  have hN_2 : ctI12 (w + 2) = .inl (B.2.1 0, 5, .inl (nF (fun _ => 0))) := (hCI12 (w + 2) (by omega)).trans hN_2
  have hN_3 : ctI12 (w + 3) = .inl (B.2.1 0, 5, .inl (nF (fun _ => 0))) := (hCI12 (w + 3) (by omega)).trans hN_3
  have hN_4 : ctI12 (w + 4) = .inl (B.2.1 0, 25, .inl (nF (fun _ => 0))) := (hCI12 (w + 4) (by omega)).trans hN_4
  have hN_5 : ctI12 (w + 5) = .inl (B.2.1 3, 26, .inr (.inr (.inr (.inr (fun _ => none))))) := (hCI12 (w + 5) (by omega)).trans hN_5
  have hfr : ∀ r, r < w → ctI12 r = ct r := fun r hp => (hCI12 r (by omega)).trans (hfr r hp)
  have hfra : ∀ r, r ≤ w → adI12 r = ad r := fun r hp => (hAI12 r (by omega)).trans (hfra r hp)
  have hWs : ∀ j, j < 3 → isW B adI12 ctI12 (w + 6 + 2 * j) 0 := fun j hj => by by_cases e : j = 2; (subst e; exact hWn); (exact (hWs j (by omega)).move (hAI12 _ (by omega)) (hCI12 _ (by omega)) (hCI12 _ (by omega)))
  refine g_same (L' := [(0, .ref (adI12 w))]) (st' := [.ref (adI12 (w + 10)), .ref (adI12 w)]) (by rw [hAI12 w (by omega)]) (by rw [hAI12 (w + 10) (by omega), hAI12 w (by omega)]) ?_
  refine g_putF (r := w) (fs' := [.ref (adI12 (w + 1)), .ref (adI12 (w + 2)), .ref (adI12 (w + 3)), .ref (adI12 (w + 4)), .ref (adI12 (w + 5)), .int 0, .int 0, .int 0, .int 0, .null, .ref (adI12 (w + 6)), .ref (adI12 (w + 8)), .ref (adI12 (w + 10)), .null, .null]) fx hnm lpX9_39 (by omega) ho rfl rfl (Nat.le_of_ble_eq_true rfl) rfl dX9_init_74 (fun cuP2 ecuP2 => ?_)
  have hfr : ∀ r, r < w → cuP2 r = ct r := fun r hp => (congrFun ecuP2 r).trans ((va_up_ne _ _ (by omega)).trans (hfr r hp))
  have ho : cuP2 w = .inr (9, [.ref (adI12 (w + 1)), .ref (adI12 (w + 2)), .ref (adI12 (w + 3)), .ref (adI12 (w + 4)), .ref (adI12 (w + 5)), .int 0, .int 0, .int 0, .int 0, .null, .ref (adI12 (w + 6)), .ref (adI12 (w + 8)), .ref (adI12 (w + 10)), .null, .null]) := by rw [ecuP2, va_up_self]
  have hN_1 : cuP2 (w + 1) = .inl (B.2.1 1, 1891, .inr (.inl (lF (fun _ => 0)))) := (congrFun ecuP2 _).trans ((va_up_ne _ _ (by omega)).trans hN_1)
  have hN_2 : cuP2 (w + 2) = .inl (B.2.1 0, 5, .inl (nF (fun _ => 0))) := (congrFun ecuP2 _).trans ((va_up_ne _ _ (by omega)).trans hN_2)
  have hN_3 : cuP2 (w + 3) = .inl (B.2.1 0, 5, .inl (nF (fun _ => 0))) := (congrFun ecuP2 _).trans ((va_up_ne _ _ (by omega)).trans hN_3)
  have hN_4 : cuP2 (w + 4) = .inl (B.2.1 0, 25, .inl (nF (fun _ => 0))) := (congrFun ecuP2 _).trans ((va_up_ne _ _ (by omega)).trans hN_4)
  have hN_5 : cuP2 (w + 5) = .inl (B.2.1 3, 26, .inr (.inr (.inr (.inr (fun _ => none))))) := (congrFun ecuP2 _).trans ((va_up_ne _ _ (by omega)).trans hN_5)
  have hWs : ∀ j, j < 3 → isW B adI12 cuP2 (w + 6 + 2 * j) 0 := fun j hj => (hWs j hj).frame (by rw [ecuP2, va_up_ne _ _ (by omega)]) (by rw [ecuP2, va_up_ne _ _ (by omega)])
  refine g_aload_n fx 0 dX9_init_77 rfl ?_
  refine g_newo fx nwX10 clX9_25 ⟨by dsimp only; omega, by dsimp only; omega⟩ dX9_init_78 (fun ad_23 ct_23 hA_23 hC_23 hN_23 => ?_)
  refine g_same (L' := [(0, .ref (ad_23 w))]) (st' := [.ref (ad_23 (w + 12)), .ref (ad_23 w)]) (by rw [hA_23 w (by omega)]) (by rw [hA_23 w (by omega)]) ?_
  have ho : ct_23 w = .inr (9, [.ref (ad_23 (w + 1)), .ref (ad_23 (w + 2)), .ref (ad_23 (w + 3)), .ref (ad_23 (w + 4)), .ref (ad_23 (w + 5)), .int 0, .int 0, .int 0, .int 0, .null, .ref (ad_23 (w + 6)), .ref (ad_23 (w + 8)), .ref (ad_23 (w + 10)), .null, .null]) := (hC_23 w (by omega)).trans (ho.trans (by rw [hA_23 (w + 1) (by omega), hA_23 (w + 2) (by omega), hA_23 (w + 3) (by omega), hA_23 (w + 4) (by omega), hA_23 (w + 5) (by omega), hA_23 (w + 6) (by omega), hA_23 (w + 8) (by omega), hA_23 (w + 10) (by omega)]))
  have hN_1 : ct_23 (w + 1) = .inl (B.2.1 1, 1891, .inr (.inl (lF (fun _ => 0)))) := (hC_23 (w + 1) (by omega)).trans hN_1
  have hN_2 : ct_23 (w + 2) = .inl (B.2.1 0, 5, .inl (nF (fun _ => 0))) := (hC_23 (w + 2) (by omega)).trans hN_2
  have hN_3 : ct_23 (w + 3) = .inl (B.2.1 0, 5, .inl (nF (fun _ => 0))) := (hC_23 (w + 3) (by omega)).trans hN_3
  have hN_4 : ct_23 (w + 4) = .inl (B.2.1 0, 25, .inl (nF (fun _ => 0))) := (hC_23 (w + 4) (by omega)).trans hN_4
  have hN_5 : ct_23 (w + 5) = .inl (B.2.1 3, 26, .inr (.inr (.inr (.inr (fun _ => none))))) := (hC_23 (w + 5) (by omega)).trans hN_5
  have hfra : ∀ r, r ≤ w → ad_23 r = ad r := fun r hp => (hA_23 r (by omega)).trans (hfra r hp)
  have hfr : ∀ r, r < w → ct_23 r = ct r := fun r hp => (hC_23 r (by omega)).trans (hfr r hp)
  have hWs : ∀ j, j < 3 → isW B ad_23 ct_23 (w + 6 + 2 * j) 0 := fun j hj => (hWs j hj).move (hA_23 _ (by omega)) (hC_23 _ (by omega)) (hC_23 _ (by omega))
  refine g_dup fx dX9_init_81 rfl ?_
  refine g_callIx (As := []) (rest := [.ref (ad_23 (w + 12)), .ref (ad_23 w)]) fx slX9_31 (c_X10_init B ad_23 ct_23 (w + 12) hN_23) rfl rfl (Nat.le_of_ble_eq_true rfl) ⟨by dsimp only; omega, by dsimp only; omega⟩ ⟨by dsimp only; omega, by dsimp only; omega⟩ dX9_init_82 (fun adI13 ctI13 hz13 => ?_)
  obtain ⟨hAI13, hCI13, hWn, _⟩ := hz13
  have ho : ctI13 w = .inr (9, [.ref (adI13 (w + 1)), .ref (adI13 (w + 2)), .ref (adI13 (w + 3)), .ref (adI13 (w + 4)), .ref (adI13 (w + 5)), .int 0, .int 0, .int 0, .int 0, .null, .ref (adI13 (w + 6)), .ref (adI13 (w + 8)), .ref (adI13 (w + 10)), .null, .null]) := (hCI13 w (by omega)).trans (ho.trans (by rw [hAI13 (w + 1) (by omega), hAI13 (w + 2) (by omega), hAI13 (w + 3) (by omega), hAI13 (w + 4) (by omega), hAI13 (w + 5) (by omega), hAI13 (w + 6) (by omega), hAI13 (w + 8) (by omega), hAI13 (w + 10) (by omega)]))
  have hN_1 : ctI13 (w + 1) = .inl (B.2.1 1, 1891, .inr (.inl (lF (fun _ => 0)))) := (hCI13 (w + 1) (by omega)).trans hN_1
  have hN_2 : ctI13 (w + 2) = .inl (B.2.1 0, 5, .inl (nF (fun _ => 0))) := (hCI13 (w + 2) (by omega)).trans hN_2
  have hN_3 : ctI13 (w + 3) = .inl (B.2.1 0, 5, .inl (nF (fun _ => 0))) := (hCI13 (w + 3) (by omega)).trans hN_3
  have hN_4 : ctI13 (w + 4) = .inl (B.2.1 0, 25, .inl (nF (fun _ => 0))) := (hCI13 (w + 4) (by omega)).trans hN_4
  have hN_5 : ctI13 (w + 5) = .inl (B.2.1 3, 26, .inr (.inr (.inr (.inr (fun _ => none))))) := (hCI13 (w + 5) (by omega)).trans hN_5
  have hfr : ∀ r, r < w → ctI13 r = ct r := fun r hp => (hCI13 r (by omega)).trans (hfr r hp)
  have hfra : ∀ r, r ≤ w → adI13 r = ad r := fun r hp => (hAI13 r (by omega)).trans (hfra r hp)
  have hWs : ∀ j, j < 4 → isW B adI13 ctI13 (w + 6 + 2 * j) 0 := fun j hj => by by_cases e : j = 3; (subst e; exact hWn); (exact (hWs j (by omega)).move (hAI13 _ (by omega)) (hCI13 _ (by omega)) (hCI13 _ (by omega)))
  refine g_same (L' := [(0, .ref (adI13 w))]) (st' := [.ref (adI13 (w + 12)), .ref (adI13 w)]) (by rw [hAI13 w (by omega)]) (by rw [hAI13 (w + 12) (by omega), hAI13 w (by omega)]) ?_
  refine g_putF (r := w) (fs' := [.ref (adI13 (w + 1)), .ref (adI13 (w + 2)), .ref (adI13 (w + 3)), .ref (adI13 (w + 4)), .ref (adI13 (w + 5)), .int 0, .int 0, .int 0, .int 0, .null, .ref (adI13 (w + 6)), .ref (adI13 (w + 8)), .ref (adI13 (w + 10)), .ref (adI13 (w + 12)), .null]) fx hnm lpX9_42 (by omega) ho rfl rfl (Nat.le_of_ble_eq_true rfl) rfl dX9_init_85 (fun cuP3 ecuP3 => ?_)
  have hfr : ∀ r, r < w → cuP3 r = ct r := fun r hp => (congrFun ecuP3 r).trans ((va_up_ne _ _ (by omega)).trans (hfr r hp))
  have ho : cuP3 w = .inr (9, [.ref (adI13 (w + 1)), .ref (adI13 (w + 2)), .ref (adI13 (w + 3)), .ref (adI13 (w + 4)), .ref (adI13 (w + 5)), .int 0, .int 0, .int 0, .int 0, .null, .ref (adI13 (w + 6)), .ref (adI13 (w + 8)), .ref (adI13 (w + 10)), .ref (adI13 (w + 12)), .null]) := by rw [ecuP3, va_up_self]
  have hN_1 : cuP3 (w + 1) = .inl (B.2.1 1, 1891, .inr (.inl (lF (fun _ => 0)))) := (congrFun ecuP3 _).trans ((va_up_ne _ _ (by omega)).trans hN_1)
  have hN_2 : cuP3 (w + 2) = .inl (B.2.1 0, 5, .inl (nF (fun _ => 0))) := (congrFun ecuP3 _).trans ((va_up_ne _ _ (by omega)).trans hN_2)
  have hN_3 : cuP3 (w + 3) = .inl (B.2.1 0, 5, .inl (nF (fun _ => 0))) := (congrFun ecuP3 _).trans ((va_up_ne _ _ (by omega)).trans hN_3)
  have hN_4 : cuP3 (w + 4) = .inl (B.2.1 0, 25, .inl (nF (fun _ => 0))) := (congrFun ecuP3 _).trans ((va_up_ne _ _ (by omega)).trans hN_4)
  have hN_5 : cuP3 (w + 5) = .inl (B.2.1 3, 26, .inr (.inr (.inr (.inr (fun _ => none))))) := (congrFun ecuP3 _).trans ((va_up_ne _ _ (by omega)).trans hN_5)
  have hWs : ∀ j, j < 4 → isW B adI13 cuP3 (w + 6 + 2 * j) 0 := fun j hj => (hWs j hj).frame (by rw [ecuP3, va_up_ne _ _ (by omega)]) (by rw [ecuP3, va_up_ne _ _ (by omega)])
  refine g_aload_n fx 0 dX9_init_88 rfl ?_
  refine g_newo fx nwX10 clX9_25 ⟨by dsimp only; omega, by dsimp only; omega⟩ dX9_init_89 (fun ad_24 ct_24 hA_24 hC_24 hN_24 => ?_)
  refine g_same (L' := [(0, .ref (ad_24 w))]) (st' := [.ref (ad_24 (w + 14)), .ref (ad_24 w)]) (by rw [hA_24 w (by omega)]) (by rw [hA_24 w (by omega)]) ?_
  have ho : ct_24 w = .inr (9, [.ref (ad_24 (w + 1)), .ref (ad_24 (w + 2)), .ref (ad_24 (w + 3)), .ref (ad_24 (w + 4)), .ref (ad_24 (w + 5)), .int 0, .int 0, .int 0, .int 0, .null, .ref (ad_24 (w + 6)), .ref (ad_24 (w + 8)), .ref (ad_24 (w + 10)), .ref (ad_24 (w + 12)), .null]) := (hC_24 w (by omega)).trans (ho.trans (by rw [hA_24 (w + 1) (by omega), hA_24 (w + 2) (by omega), hA_24 (w + 3) (by omega), hA_24 (w + 4) (by omega), hA_24 (w + 5) (by omega), hA_24 (w + 6) (by omega), hA_24 (w + 8) (by omega), hA_24 (w + 10) (by omega), hA_24 (w + 12) (by omega)]))
  have hN_1 : ct_24 (w + 1) = .inl (B.2.1 1, 1891, .inr (.inl (lF (fun _ => 0)))) := (hC_24 (w + 1) (by omega)).trans hN_1
  have hN_2 : ct_24 (w + 2) = .inl (B.2.1 0, 5, .inl (nF (fun _ => 0))) := (hC_24 (w + 2) (by omega)).trans hN_2
  have hN_3 : ct_24 (w + 3) = .inl (B.2.1 0, 5, .inl (nF (fun _ => 0))) := (hC_24 (w + 3) (by omega)).trans hN_3
  have hN_4 : ct_24 (w + 4) = .inl (B.2.1 0, 25, .inl (nF (fun _ => 0))) := (hC_24 (w + 4) (by omega)).trans hN_4
  have hN_5 : ct_24 (w + 5) = .inl (B.2.1 3, 26, .inr (.inr (.inr (.inr (fun _ => none))))) := (hC_24 (w + 5) (by omega)).trans hN_5
  have hfra : ∀ r, r ≤ w → ad_24 r = ad r := fun r hp => (hA_24 r (by omega)).trans (hfra r hp)
  have hfr : ∀ r, r < w → ct_24 r = ct r := fun r hp => (hC_24 r (by omega)).trans (hfr r hp)
  have hWs : ∀ j, j < 4 → isW B ad_24 ct_24 (w + 6 + 2 * j) 0 := fun j hj => (hWs j hj).move (hA_24 _ (by omega)) (hC_24 _ (by omega)) (hC_24 _ (by omega))
  refine g_dup fx dX9_init_92 rfl ?_
  refine g_callIx (As := []) (rest := [.ref (ad_24 (w + 14)), .ref (ad_24 w)]) fx slX9_31 (c_X10_init B ad_24 ct_24 (w + 14) hN_24) rfl rfl (Nat.le_of_ble_eq_true rfl) ⟨by dsimp only; omega, by dsimp only; omega⟩ ⟨by dsimp only; omega, by dsimp only; omega⟩ dX9_init_93 (fun adI14 ctI14 hz14 => ?_)
  obtain ⟨hAI14, hCI14, hWn, _⟩ := hz14
  have ho : ctI14 w = .inr (9, [.ref (adI14 (w + 1)), .ref (adI14 (w + 2)), .ref (adI14 (w + 3)), .ref (adI14 (w + 4)), .ref (adI14 (w + 5)), .int 0, .int 0, .int 0, .int 0, .null, .ref (adI14 (w + 6)), .ref (adI14 (w + 8)), .ref (adI14 (w + 10)), .ref (adI14 (w + 12)), .null]) := (hCI14 w (by omega)).trans (ho.trans (by rw [hAI14 (w + 1) (by omega), hAI14 (w + 2) (by omega), hAI14 (w + 3) (by omega), hAI14 (w + 4) (by omega), hAI14 (w + 5) (by omega), hAI14 (w + 6) (by omega), hAI14 (w + 8) (by omega), hAI14 (w + 10) (by omega), hAI14 (w + 12) (by omega)]))
  have hN_1 : ctI14 (w + 1) = .inl (B.2.1 1, 1891, .inr (.inl (lF (fun _ => 0)))) := (hCI14 (w + 1) (by omega)).trans hN_1
  have hN_2 : ctI14 (w + 2) = .inl (B.2.1 0, 5, .inl (nF (fun _ => 0))) := (hCI14 (w + 2) (by omega)).trans hN_2
  have hN_3 : ctI14 (w + 3) = .inl (B.2.1 0, 5, .inl (nF (fun _ => 0))) := (hCI14 (w + 3) (by omega)).trans hN_3
  have hN_4 : ctI14 (w + 4) = .inl (B.2.1 0, 25, .inl (nF (fun _ => 0))) := (hCI14 (w + 4) (by omega)).trans hN_4
  have hN_5 : ctI14 (w + 5) = .inl (B.2.1 3, 26, .inr (.inr (.inr (.inr (fun _ => none))))) := (hCI14 (w + 5) (by omega)).trans hN_5
  have hfr : ∀ r, r < w → ctI14 r = ct r := fun r hp => (hCI14 r (by omega)).trans (hfr r hp)
  have hfra : ∀ r, r ≤ w → adI14 r = ad r := fun r hp => (hAI14 r (by omega)).trans (hfra r hp)
  have hWs : ∀ j, j < 5 → isW B adI14 ctI14 (w + 6 + 2 * j) 0 := fun j hj => by by_cases e : j = 4; (subst e; exact hWn); (exact (hWs j (by omega)).move (hAI14 _ (by omega)) (hCI14 _ (by omega)) (hCI14 _ (by omega)))
  refine g_same (L' := [(0, .ref (adI14 w))]) (st' := [.ref (adI14 (w + 14)), .ref (adI14 w)]) (by rw [hAI14 w (by omega)]) (by rw [hAI14 (w + 14) (by omega), hAI14 w (by omega)]) ?_
  refine g_putF (r := w) (fs' := [.ref (adI14 (w + 1)), .ref (adI14 (w + 2)), .ref (adI14 (w + 3)), .ref (adI14 (w + 4)), .ref (adI14 (w + 5)), .int 0, .int 0, .int 0, .int 0, .null, .ref (adI14 (w + 6)), .ref (adI14 (w + 8)), .ref (adI14 (w + 10)), .ref (adI14 (w + 12)), .ref (adI14 (w + 14))]) fx hnm lpX9_45 (by omega) ho rfl rfl (Nat.le_of_ble_eq_true rfl) rfl dX9_init_96 (fun cuP4 ecuP4 => ?_)
  have hfr : ∀ r, r < w → cuP4 r = ct r := fun r hp => (congrFun ecuP4 r).trans ((va_up_ne _ _ (by omega)).trans (hfr r hp))
  have ho : cuP4 w = .inr (9, [.ref (adI14 (w + 1)), .ref (adI14 (w + 2)), .ref (adI14 (w + 3)), .ref (adI14 (w + 4)), .ref (adI14 (w + 5)), .int 0, .int 0, .int 0, .int 0, .null, .ref (adI14 (w + 6)), .ref (adI14 (w + 8)), .ref (adI14 (w + 10)), .ref (adI14 (w + 12)), .ref (adI14 (w + 14))]) := by rw [ecuP4, va_up_self]
  have hN_1 : cuP4 (w + 1) = .inl (B.2.1 1, 1891, .inr (.inl (lF (fun _ => 0)))) := (congrFun ecuP4 _).trans ((va_up_ne _ _ (by omega)).trans hN_1)
  have hN_2 : cuP4 (w + 2) = .inl (B.2.1 0, 5, .inl (nF (fun _ => 0))) := (congrFun ecuP4 _).trans ((va_up_ne _ _ (by omega)).trans hN_2)
  have hN_3 : cuP4 (w + 3) = .inl (B.2.1 0, 5, .inl (nF (fun _ => 0))) := (congrFun ecuP4 _).trans ((va_up_ne _ _ (by omega)).trans hN_3)
  have hN_4 : cuP4 (w + 4) = .inl (B.2.1 0, 25, .inl (nF (fun _ => 0))) := (congrFun ecuP4 _).trans ((va_up_ne _ _ (by omega)).trans hN_4)
  have hN_5 : cuP4 (w + 5) = .inl (B.2.1 3, 26, .inr (.inr (.inr (.inr (fun _ => none))))) := (congrFun ecuP4 _).trans ((va_up_ne _ _ (by omega)).trans hN_5)
  have hWs : ∀ j, j < 5 → isW B adI14 cuP4 (w + 6 + 2 * j) 0 := fun j hj => (hWs j hj).frame (by rw [ecuP4, va_up_ne _ _ (by omega)]) (by rw [ecuP4, va_up_ne _ _ (by omega)])
  refine g_iconst (v := nI 0) fx dX9_init_99 (by decide +kernel) ?_
  refine g_istore_n (L' := [(1, .int (nI 0)), (0, .ref (adI14 w))]) fx dX9_init_100 (by decide) rfl ?_
  have LP101 : ∀ (M : Nat) (i q : Nat) (f : Nat → Option Nat) (ad1 : Nat → Nat) (ct1 : Nat → va_E), (i ≤ 26) → (q = w + 16 + 2 * i) → (ct1 w = .inr (9, [.ref (ad1 (w + 1)), .ref (ad1 (w + 2)), .ref (ad1 (w + 3)), .ref (ad1 (w + 4)), .ref (ad1 (w + 5)), .int 0, .int 0, .int 0, .int 0, .null, .ref (ad1 (w + 6)), .ref (ad1 (w + 8)), .ref (ad1 (w + 10)), .ref (ad1 (w + 12)), .ref (ad1 (w + 14))])) → (ct1 (w + 5) = .inl (B.2.1 3, 26, .inr (.inr (.inr (.inr f))))) → (ct1 (w + 1) = .inl (B.2.1 1, 1891, .inr (.inl (lF (fun _ => 0))))) → (ct1 (w + 2) = .inl (B.2.1 0, 5, .inl (nF (fun _ => 0)))) → (ct1 (w + 3) = .inl (B.2.1 0, 5, .inl (nF (fun _ => 0)))) → (ct1 (w + 4) = .inl (B.2.1 0, 25, .inl (nF (fun _ => 0)))) → (∀ j, j < i → f j = some (ad1 (w + 16 + 2 * j))) → (∀ j, j < 5 + i → isW B ad1 ct1 (w + 6 + 2 * j) 0) → (∀ r, r < w → ct1 r = ct r) → (∀ r, r ≤ w → ad1 r = ad r) →  (26 - i) < M → G B 5 E ad1 ct1 q (15 + 2 * i) (2022 + 14 * i) [(0, .ref (ad1 w)), (1, .int (nI i))] 101 [] := by
    intro M
    induction M with
    | zero => intro i q f ad1 ct1 _ _ _ _ _ _ _ _ _ _ _ _ hM; exact absurd hM (Nat.not_lt_zero _)
    | succ M ih =>
      intro i q f ad1 ct1 hi hq ho hrow hN_1 hN_2 hN_3 hN_4 hf hWs hfr hfra hM
      have ih101 := ih
      refine g_iload_n fx 1 dX9_init_101 rfl ?_
      refine g_bipush (v := nI 25) fx dX9_init_102 (by decide +kernel) ?_
      refine g_icmp_gt fx 126 dX9_init_104 (by decide) (fun c104 => ?_) (fun c104 => ?_)
      · skip
        have hie : i = 26 := by have := (nI_ltI (by omega) (by omega)).mp c104; omega
        have hqe : q = w + 68 := by omega
        subst hqe
        refine g_iconst (v := nI 0) fx dX9_init_126 (by decide +kernel) ?_
        refine g_istore_n (L' := [(1, .int (nI 0)), (0, .ref (ad1 w))]) fx dX9_init_127 (by decide) rfl ?_
        refine g_iconst (v := nI 0) fx dX9_init_128 (by decide +kernel) ?_
        refine g_istore_n (L' := [(2, .int (nI 0)), (1, .int (nI 0)), (0, .ref (ad1 w))]) fx dX9_init_129 (by decide) rfl ?_
        have LP130 : ∀ (M : Nat) (nn : Nat) (gt : Nat → Nat) (ct2 : Nat → va_E), (nn ≤ 61) → (ct2 (w + 1) = .inl (B.2.1 1, 1891, .inr (.inl (lF gt)))) → (ct2 w = .inr (9, [.ref (ad1 (w + 1)), .ref (ad1 (w + 2)), .ref (ad1 (w + 3)), .ref (ad1 (w + 4)), .ref (ad1 (w + 5)), .int 0, .int 0, .int 0, .int 0, .null, .ref (ad1 (w + 6)), .ref (ad1 (w + 8)), .ref (ad1 (w + 10)), .ref (ad1 (w + 12)), .ref (ad1 (w + 14))])) → (∀ a b, a < nn → b ≤ a → gt (tri a + b) = ch a b) → (∀ r, r ≠ w + 1 → ct2 r = ct1 r) → (∀ r, r < w → ct2 r = ct r) →  (61 - nn) < M → G B 5 E ad1 ct2 (w + 68) (15 + 2 * i) (2022 + 14 * i) [(0, .ref (ad1 w)), (1, .int (nI (tri nn))), (2, .int (nI nn))] 130 [] := by
          intro M
          induction M with
          | zero => intro nn gt ct2 _ _ _ _ _ _ hM; exact absurd hM (Nat.not_lt_zero _)
          | succ M ih =>
            intro nn gt ct2 hnn hT ho htr hs2 hfr hM
            have ih130 := ih
            refine g_iload_n fx 2 dX9_init_130 rfl ?_
            refine g_bipush (v := nI 60) fx dX9_init_131 (by decide +kernel) ?_
            refine g_icmp_gt fx 208 dX9_init_133 (by decide) (fun c133 => ?_) (fun c133 => ?_)
            · skip
              have hne : nn = 61 := by have := (nI_ltI (by omega) (by omega)).mp c133; omega
              subst hne
              refine g_more (k1 := 67) (s1 := 2386) (by omega) (by omega) ?_
              refine g_vret fx rt dX9_init_208 ?_
              exact gPx.mk ⟨hfra, hfr, ho, ⟨gt, hT, fun a b h1 h2 => by rw [tri_eq]; exact htr a b (by omega) h2⟩, (hs2 _ (by omega)).trans hN_2, (hs2 _ (by omega)).trans hN_3, (hs2 _ (by omega)).trans hN_4, ⟨f, (hs2 _ (by omega)).trans hrow, fun j hj => hf j (by omega)⟩, fun i hi => (hWs i (by omega)).frame (hs2 _ (by omega)) (hs2 _ (by omega))⟩
            · skip
              have hnl : nn < 61 := Nat.lt_succ_of_le (Nat.le_of_not_lt (fun z => c133 ((nI_ltI (by omega) (by omega)).mpr z)))
              have ht1 := tri_le (show nn + 1 ≤ 61 by omega)
              have ht2 : tri (nn + 1) = tri nn + (nn + 1) := rfl
              have ht3 : tri 61 = 1891 := by decide
              refine g_iconst (v := nI 0) fx dX9_init_136 (by decide +kernel) ?_
              refine g_istore_n (L' := [(3, .int (nI 0)), (0, .ref (ad1 w)), (1, .int (nI (tri nn))), (2, .int (nI nn))]) fx dX9_init_137 (by decide) rfl ?_
              have LP138 : ∀ (M : Nat) (k : Nat) (gt : Nat → Nat) (ct2 : Nat → va_E), (k ≤ nn + 1) → (ct2 (w + 1) = .inl (B.2.1 1, 1891, .inr (.inl (lF gt)))) → (ct2 w = .inr (9, [.ref (ad1 (w + 1)), .ref (ad1 (w + 2)), .ref (ad1 (w + 3)), .ref (ad1 (w + 4)), .ref (ad1 (w + 5)), .int 0, .int 0, .int 0, .int 0, .null, .ref (ad1 (w + 6)), .ref (ad1 (w + 8)), .ref (ad1 (w + 10)), .ref (ad1 (w + 12)), .ref (ad1 (w + 14))])) → (∀ a b, a < nn → b ≤ a → gt (tri a + b) = ch a b) → (∀ b, b < k → gt (tri nn + b) = ch nn b) → (∀ r, r ≠ w + 1 → ct2 r = ct1 r) → (∀ r, r < w → ct2 r = ct r) →  (nn + 1 - k) < M → G B 5 E ad1 ct2 (w + 68) (15 + 2 * i) (2022 + 14 * i) [(0, .ref (ad1 w)), (1, .int (nI (tri nn + k))), (2, .int (nI nn)), (3, .int (nI k))] 138 [] := by
                intro M
                induction M with
                | zero => intro k gt ct2 _ _ _ _ _ _ _ hM; exact absurd hM (Nat.not_lt_zero _)
                | succ M ih =>
                  intro k gt ct2 hk hT ho htr htk hs2 hfr hM
                  have ih138 := ih
                  refine g_iload_n fx 3 dX9_init_138 rfl ?_
                  refine g_iload_n fx 2 dX9_init_139 rfl ?_
                  refine g_icmp_gt fx 202 dX9_init_140 (by decide) (fun c140 => ?_) (fun c140 => ?_)
                  · skip
                    have hke : k = nn + 1 := by have := (nI_ltI (by omega) (by omega)).mp c140; omega
                    refine g_iinc (L' := [(2, .int (nI (nn + 1))), (0, .ref (ad1 w)), (1, .int (nI (tri nn + k))), (3, .int (nI k))]) fx (nI (nn + 1)) 2 dX9_init_202 rfl (gInc _) (by decide) rfl ?_
                    refine g_goto fx 130 dX9_init_205 (by decide) ?_
                    refine g_locals (L' := [(0, .ref (ad1 w)), (1, .int (nI (tri nn + k))), (2, .int (nI (nn + 1)))]) [1, 2, 0] rfl ?_
                    skip
                    refine g_relocal (L' := [(0, .ref (ad1 w)), (1, .int (nI (tri (nn + 1)))), (2, .int (nI (nn + 1)))]) (by rw [hke]; rfl) ?_
                    exact ih130 (nn + 1) _ _ (by omega) hT ho (fun a b h1 h2 => by by_cases e : a = nn; (rw [e] at h2 ⊢; exact htk b (by omega)); (exact htr a b (by omega) h2)) hs2 hfr (by omega)
                  · skip
                    have hkl : k ≤ nn := Nat.le_of_not_lt (fun z => c140 ((nI_ltI (by omega) (by omega)).mpr z))
                    refine g_iload_n fx 3 dX9_init_143 rfl ?_
                    refine g_if_eq fx 152 dX9_init_144 (by decide) (fun c144 => ?_) (fun c144 => ?_)
                    · skip
                      have hed : ch nn k = 1 := by rw [show k = 0 from (nI_eq (b := 0) (by omega) (by omega)).mp c144, ch_0]
                      refine g_iconst (v := nI 1) fx dX9_init_152 (by decide +kernel) ?_
                      refine g_goto fx 157 dX9_init_153 (by decide) ?_
                      refine g_istore (L' := [(4, .int (nI 1)), (0, .ref (ad1 w)), (1, .int (nI (tri nn + k))), (2, .int (nI nn)), (3, .int (nI k))]) fx dX9_init_157 (by decide) rfl ?_
                      refine g_aload_n fx 1 dX9_init_159 rfl ?_
                      refine g_get (r := w) fx lkX9_9 (by omega) ho rfl dX9_init_160 ?_
                      refine g_iload_n fx 2 dX9_init_163 rfl ?_
                      refine g_iload fx 0 dX9_init_164 rfl ?_
                      refine g_if_eq fx 173 dX9_init_166 (by decide) (fun c166 => ?_) (fun c166 => ?_)
                      · exact absurd c166 (by decide)
                      refine g_lconst (v := lN 1) fx dX9_init_169 (by decide +kernel) ?_
                      refine g_isl (y := lN (ch nn k)) (by rw [hed]) ?_
                      refine g_goto fx 192 dX9_init_170 (by decide) ?_
                      refine g_last (r := w + 1) (j := (tri nn + k)) fx (by omega) hT (nI_toInt (by omega)) (by omega) dX9_init_192 (fun ctT ectT => ?_)
                      have hfr : ∀ r, r < w → ctT r = ct r := fun r hp => (congrFun ectT r).trans ((va_up_ne _ _ (by omega)).trans (hfr r hp))
                      have ho : ctT w = .inr (9, [.ref (ad1 (w + 1)), .ref (ad1 (w + 2)), .ref (ad1 (w + 3)), .ref (ad1 (w + 4)), .ref (ad1 (w + 5)), .int 0, .int 0, .int 0, .int 0, .null, .ref (ad1 (w + 6)), .ref (ad1 (w + 8)), .ref (ad1 (w + 10)), .ref (ad1 (w + 12)), .ref (ad1 (w + 14))]) := (congrFun ectT _).trans ((va_up_ne _ _ (by omega)).trans ho)
                      have hT : ctT (w + 1) = .inl (B.2.1 1, 1891, .inr (.inl (lF (va_up gt (tri nn + k) (ch nn k))))) := by rw [ectT, va_up_self, lF_up]
                      have hs2 : ∀ r, r ≠ w + 1 → ctT r = ct1 r := fun r h => by rw [ectT, va_up_ne _ _ h]; exact hs2 r h
                      refine g_iinc (L' := [(1, .int (nI (tri nn + (k + 1)))), (4, .int (nI 1)), (0, .ref (ad1 w)), (2, .int (nI nn)), (3, .int (nI k))]) fx (nI (tri nn + (k + 1))) 2 dX9_init_193 rfl (by rw [gInc, Nat.add_assoc]) (by decide) rfl ?_
                      refine g_iinc (L' := [(3, .int (nI (k + 1))), (1, .int (nI (tri nn + (k + 1)))), (4, .int (nI 1)), (0, .ref (ad1 w)), (2, .int (nI nn))]) fx (nI (k + 1)) 4 dX9_init_196 rfl (gInc _) (by decide) rfl ?_
                      refine g_goto fx 138 dX9_init_199 (by decide) ?_
                      refine g_locals (L' := [(0, .ref (ad1 w)), (1, .int (nI (tri nn + (k + 1)))), (2, .int (nI nn)), (3, .int (nI (k + 1)))]) [3, 1, 4, 0] rfl ?_
                      exact ih138 (k + 1) _ _ (by omega) hT ho (fun a b h1 h2 => by rw [va_up_ne _ _ (by have := tri_le (show a + 1 ≤ nn by omega); have e2 : tri (a + 1) = tri a + (a + 1) := rfl; omega)]; exact htr a b h1 h2) (fun b hb => by by_cases e : b = k; (rw [e, va_up_self]); (rw [va_up_ne _ _ (by omega)]; exact htk b (by omega))) hs2 hfr (by omega)
                    · skip
                      have hk0 : 0 < k := Nat.pos_of_ne_zero (fun z => c144 (by rw [z]; decide))
                      refine g_iload_n fx 3 dX9_init_147 rfl ?_
                      refine g_iload_n fx 2 dX9_init_148 rfl ?_
                      refine g_icmp_ne fx 156 dX9_init_149 (by decide) (fun c149 => ?_) (fun c149 => ?_)
                      · skip
                        have hkn : k < nn := by have : k ≠ nn := fun e => c149 (by rw [e]); omega
                        have htp := tri_pred (show 0 < nn by omega)
                        refine g_iconst (v := nI 0) fx dX9_init_156 (by decide +kernel) ?_
                        refine g_istore (L' := [(4, .int (nI 0)), (0, .ref (ad1 w)), (1, .int (nI (tri nn + k))), (2, .int (nI nn)), (3, .int (nI k))]) fx dX9_init_157 (by decide) rfl ?_
                        refine g_aload_n fx 1 dX9_init_159 rfl ?_
                        refine g_get (r := w) fx lkX9_9 (by omega) ho rfl dX9_init_160 ?_
                        refine g_iload_n fx 2 dX9_init_163 rfl ?_
                        refine g_iload fx 0 dX9_init_164 rfl ?_
                        refine g_if_eq fx 173 dX9_init_166 (by decide) (fun c166 => ?_) (fun c166 => ?_)
                        rotate_left
                        · exact absurd (by decide) c166
                        refine g_aload_n fx 1 dX9_init_173 rfl ?_
                        refine g_get (r := w) fx lkX9_9 (by omega) ho rfl dX9_init_174 ?_
                        refine g_iload_n fx 2 dX9_init_177 rfl ?_
                        refine g_iload_n fx 3 dX9_init_178 rfl ?_
                        refine g_isubN fx dX9_init_179 (by omega) ?_
                        refine g_iconst (v := nI 1) fx dX9_init_180 (by decide +kernel) ?_
                        refine g_isubN fx dX9_init_181 (by omega) ?_
                        refine g_lald (r := w + 1) (j := (((tri nn + k) - nn) - 1)) fx (by omega) hT (nI_toInt (by omega)) (by omega) dX9_init_182 ?_
                        refine g_isl (y := lN (gt (((tri nn + k) - nn) - 1))) rfl ?_
                        refine g_isl (y := lN (ch (nn - 1) (k - 1))) (by rw [show tri nn + k - nn - 1 = tri (nn - 1) + (k - 1) by omega, htr (nn - 1) (k - 1) (by omega) (by omega)]) ?_
                        refine g_aload_n fx 1 dX9_init_183 rfl ?_
                        refine g_get (r := w) fx lkX9_9 (by omega) ho rfl dX9_init_184 ?_
                        refine g_iload_n fx 2 dX9_init_187 rfl ?_
                        refine g_iload_n fx 3 dX9_init_188 rfl ?_
                        refine g_isubN fx dX9_init_189 (by omega) ?_
                        refine g_lald (r := w + 1) (j := ((tri nn + k) - nn)) fx (by omega) hT (nI_toInt (by omega)) (by omega) dX9_init_190 ?_
                        refine g_isl (y := lN (gt ((tri nn + k) - nn))) rfl ?_
                        refine g_isl (y := lN (ch (nn - 1) k)) (by rw [show tri nn + k - nn = tri (nn - 1) + k by omega, htr (nn - 1) k (by omega) (by omega)]) ?_
                        refine g_ladd fx dX9_init_191 ?_
                        refine g_isl (y := lN (ch nn k)) (by rw [lN_add, ch_tri hk0 hkn]) ?_
                        refine g_last (r := w + 1) (j := (tri nn + k)) fx (by omega) hT (nI_toInt (by omega)) (by omega) dX9_init_192 (fun ctT ectT => ?_)
                        have hfr : ∀ r, r < w → ctT r = ct r := fun r hp => (congrFun ectT r).trans ((va_up_ne _ _ (by omega)).trans (hfr r hp))
                        have ho : ctT w = .inr (9, [.ref (ad1 (w + 1)), .ref (ad1 (w + 2)), .ref (ad1 (w + 3)), .ref (ad1 (w + 4)), .ref (ad1 (w + 5)), .int 0, .int 0, .int 0, .int 0, .null, .ref (ad1 (w + 6)), .ref (ad1 (w + 8)), .ref (ad1 (w + 10)), .ref (ad1 (w + 12)), .ref (ad1 (w + 14))]) := (congrFun ectT _).trans ((va_up_ne _ _ (by omega)).trans ho)
                        have hT : ctT (w + 1) = .inl (B.2.1 1, 1891, .inr (.inl (lF (va_up gt (tri nn + k) (ch nn k))))) := by rw [ectT, va_up_self, lF_up]
                        have hs2 : ∀ r, r ≠ w + 1 → ctT r = ct1 r := fun r h => by rw [ectT, va_up_ne _ _ h]; exact hs2 r h
                        refine g_iinc (L' := [(1, .int (nI (tri nn + (k + 1)))), (4, .int (nI 0)), (0, .ref (ad1 w)), (2, .int (nI nn)), (3, .int (nI k))]) fx (nI (tri nn + (k + 1))) 2 dX9_init_193 rfl (by rw [gInc, Nat.add_assoc]) (by decide) rfl ?_
                        refine g_iinc (L' := [(3, .int (nI (k + 1))), (1, .int (nI (tri nn + (k + 1)))), (4, .int (nI 0)), (0, .ref (ad1 w)), (2, .int (nI nn))]) fx (nI (k + 1)) 4 dX9_init_196 rfl (gInc _) (by decide) rfl ?_
                        refine g_goto fx 138 dX9_init_199 (by decide) ?_
                        refine g_locals (L' := [(0, .ref (ad1 w)), (1, .int (nI (tri nn + (k + 1)))), (2, .int (nI nn)), (3, .int (nI (k + 1)))]) [3, 1, 4, 0] rfl ?_
                        exact ih138 (k + 1) _ _ (by omega) hT ho (fun a b h1 h2 => by rw [va_up_ne _ _ (by have := tri_le (show a + 1 ≤ nn by omega); have e2 : tri (a + 1) = tri a + (a + 1) := rfl; omega)]; exact htr a b h1 h2) (fun b hb => by by_cases e : b = k; (rw [e, va_up_self]); (rw [va_up_ne _ _ (by omega)]; exact htk b (by omega))) hs2 hfr (by omega)
                      · skip
                        have hed : ch nn k = 1 := by rw [show k = nn from (nI_eq (by omega) (by omega)).mp c149, ch_self]
                        refine g_iconst (v := nI 1) fx dX9_init_152 (by decide +kernel) ?_
                        refine g_goto fx 157 dX9_init_153 (by decide) ?_
                        refine g_istore (L' := [(4, .int (nI 1)), (0, .ref (ad1 w)), (1, .int (nI (tri nn + k))), (2, .int (nI nn)), (3, .int (nI k))]) fx dX9_init_157 (by decide) rfl ?_
                        refine g_aload_n fx 1 dX9_init_159 rfl ?_
                        refine g_get (r := w) fx lkX9_9 (by omega) ho rfl dX9_init_160 ?_
                        refine g_iload_n fx 2 dX9_init_163 rfl ?_
                        refine g_iload fx 0 dX9_init_164 rfl ?_
                        refine g_if_eq fx 173 dX9_init_166 (by decide) (fun c166 => ?_) (fun c166 => ?_)
                        · exact absurd c166 (by decide)
                        refine g_lconst (v := lN 1) fx dX9_init_169 (by decide +kernel) ?_
                        refine g_isl (y := lN (ch nn k)) (by rw [hed]) ?_
                        refine g_goto fx 192 dX9_init_170 (by decide) ?_
                        refine g_last (r := w + 1) (j := (tri nn + k)) fx (by omega) hT (nI_toInt (by omega)) (by omega) dX9_init_192 (fun ctT ectT => ?_)
                        have hfr : ∀ r, r < w → ctT r = ct r := fun r hp => (congrFun ectT r).trans ((va_up_ne _ _ (by omega)).trans (hfr r hp))
                        have ho : ctT w = .inr (9, [.ref (ad1 (w + 1)), .ref (ad1 (w + 2)), .ref (ad1 (w + 3)), .ref (ad1 (w + 4)), .ref (ad1 (w + 5)), .int 0, .int 0, .int 0, .int 0, .null, .ref (ad1 (w + 6)), .ref (ad1 (w + 8)), .ref (ad1 (w + 10)), .ref (ad1 (w + 12)), .ref (ad1 (w + 14))]) := (congrFun ectT _).trans ((va_up_ne _ _ (by omega)).trans ho)
                        have hT : ctT (w + 1) = .inl (B.2.1 1, 1891, .inr (.inl (lF (va_up gt (tri nn + k) (ch nn k))))) := by rw [ectT, va_up_self, lF_up]
                        have hs2 : ∀ r, r ≠ w + 1 → ctT r = ct1 r := fun r h => by rw [ectT, va_up_ne _ _ h]; exact hs2 r h
                        refine g_iinc (L' := [(1, .int (nI (tri nn + (k + 1)))), (4, .int (nI 1)), (0, .ref (ad1 w)), (2, .int (nI nn)), (3, .int (nI k))]) fx (nI (tri nn + (k + 1))) 2 dX9_init_193 rfl (by rw [gInc, Nat.add_assoc]) (by decide) rfl ?_
                        refine g_iinc (L' := [(3, .int (nI (k + 1))), (1, .int (nI (tri nn + (k + 1)))), (4, .int (nI 1)), (0, .ref (ad1 w)), (2, .int (nI nn))]) fx (nI (k + 1)) 4 dX9_init_196 rfl (gInc _) (by decide) rfl ?_
                        refine g_goto fx 138 dX9_init_199 (by decide) ?_
                        refine g_locals (L' := [(0, .ref (ad1 w)), (1, .int (nI (tri nn + (k + 1)))), (2, .int (nI nn)), (3, .int (nI (k + 1)))]) [3, 1, 4, 0] rfl ?_
                        exact ih138 (k + 1) _ _ (by omega) hT ho (fun a b h1 h2 => by rw [va_up_ne _ _ (by have := tri_le (show a + 1 ≤ nn by omega); have e2 : tri (a + 1) = tri a + (a + 1) := rfl; omega)]; exact htr a b h1 h2) (fun b hb => by by_cases e : b = k; (rw [e, va_up_self]); (rw [va_up_ne _ _ (by omega)]; exact htk b (by omega))) hs2 hfr (by omega)
              refine g_locals (L' := [(0, .ref (ad1 w)), (1, .int (nI (tri nn))), (2, .int (nI nn)), (3, .int (nI 0))]) [1, 2, 3, 0] rfl ?_
              exact LP138 (nn + 2) 0 gt ct2 (by omega) hT ho htr (fun b hb => absurd hb (by omega)) hs2 hfr (by omega)
        refine g_locals (L' := [(0, .ref (ad1 w)), (1, .int (nI 0)), (2, .int (nI 0))]) [2, 1, 0] rfl ?_
        exact LP130 62 0 _ ct1 (by omega) hN_1 ho (fun a b h => absurd h (by omega)) (fun _ _ => rfl) hfr (by omega)
      · skip
        have hil : i < 26 := Nat.lt_succ_of_le (Nat.le_of_not_lt (fun z => c104 ((nI_ltI (by omega) (by omega)).mpr z)))
        refine g_aload_n fx 0 dX9_init_107 rfl ?_
        refine g_get (r := w) fx lkX9_27 (by omega) ho rfl dX9_init_108 ?_
        refine g_iload_n fx 1 dX9_init_111 rfl ?_
        refine g_newo fx nwX10 clX9_25 ⟨by dsimp only; omega, by dsimp only; omega⟩ dX9_init_112 (fun ad_9 ct_9 hA_9 hC_9 hN_9 => ?_)
        refine g_same (L' := [(0, .ref (ad_9 w)), (1, .int (nI i))]) (st' := [.ref (ad_9 q), .int (nI i), .ref (ad_9 (w + 5))]) (by rw [hA_9 w (by omega)]) (by rw [hA_9 (w + 5) (by omega)]) ?_
        have ho : ct_9 w = .inr (9, [.ref (ad_9 (w + 1)), .ref (ad_9 (w + 2)), .ref (ad_9 (w + 3)), .ref (ad_9 (w + 4)), .ref (ad_9 (w + 5)), .int 0, .int 0, .int 0, .int 0, .null, .ref (ad_9 (w + 6)), .ref (ad_9 (w + 8)), .ref (ad_9 (w + 10)), .ref (ad_9 (w + 12)), .ref (ad_9 (w + 14))]) := (hC_9 w (by omega)).trans (ho.trans (by rw [hA_9 (w + 1) (by omega), hA_9 (w + 2) (by omega), hA_9 (w + 3) (by omega), hA_9 (w + 4) (by omega), hA_9 (w + 5) (by omega), hA_9 (w + 6) (by omega), hA_9 (w + 8) (by omega), hA_9 (w + 10) (by omega), hA_9 (w + 12) (by omega), hA_9 (w + 14) (by omega)]))
        have hrow : ct_9 (w + 5) = .inl (B.2.1 3, 26, .inr (.inr (.inr (.inr f)))) := (hC_9 (w + 5) (by omega)).trans hrow
        have hN_1 : ct_9 (w + 1) = .inl (B.2.1 1, 1891, .inr (.inl (lF (fun _ => 0)))) := (hC_9 (w + 1) (by omega)).trans hN_1
        have hN_2 : ct_9 (w + 2) = .inl (B.2.1 0, 5, .inl (nF (fun _ => 0))) := (hC_9 (w + 2) (by omega)).trans hN_2
        have hN_3 : ct_9 (w + 3) = .inl (B.2.1 0, 5, .inl (nF (fun _ => 0))) := (hC_9 (w + 3) (by omega)).trans hN_3
        have hN_4 : ct_9 (w + 4) = .inl (B.2.1 0, 25, .inl (nF (fun _ => 0))) := (hC_9 (w + 4) (by omega)).trans hN_4
        have hfra : ∀ r, r ≤ w → ad_9 r = ad r := fun r hp => (hA_9 r (by omega)).trans (hfra r hp)
        have hfr : ∀ r, r < w → ct_9 r = ct r := fun r hp => (hC_9 r (by omega)).trans (hfr r hp)
        have hWs : ∀ j, j < 5 + i → isW B ad_9 ct_9 (w + 6 + 2 * j) 0 := fun j hj => (hWs j hj).move (hA_9 _ (by omega)) (hC_9 _ (by omega)) (hC_9 _ (by omega))
        have hf : ∀ j, j < i → f j = some (ad_9 (w + 16 + 2 * j)) := fun j hj => by rw [hA_9 _ (by omega)]; exact hf j hj
        refine g_dup fx dX9_init_115 rfl ?_
        refine g_callIx (As := []) (rest := [.ref (ad_9 q), .int (nI i), .ref (ad_9 (w + 5))]) fx slX9_31 (c_X10_init B ad_9 ct_9 (q) hN_9) rfl rfl (Nat.le_of_ble_eq_true rfl) ⟨by dsimp only; omega, by dsimp only; omega⟩ ⟨by dsimp only; omega, by dsimp only; omega⟩ dX9_init_116 (fun adI7 ctI7 hz7 => ?_)
        obtain ⟨hAI7, hCI7, hWn, hWo⟩ := hz7
        have ho : ctI7 w = .inr (9, [.ref (adI7 (w + 1)), .ref (adI7 (w + 2)), .ref (adI7 (w + 3)), .ref (adI7 (w + 4)), .ref (adI7 (w + 5)), .int 0, .int 0, .int 0, .int 0, .null, .ref (adI7 (w + 6)), .ref (adI7 (w + 8)), .ref (adI7 (w + 10)), .ref (adI7 (w + 12)), .ref (adI7 (w + 14))]) := (hCI7 w (by omega)).trans (ho.trans (by rw [hAI7 (w + 1) (by omega), hAI7 (w + 2) (by omega), hAI7 (w + 3) (by omega), hAI7 (w + 4) (by omega), hAI7 (w + 5) (by omega), hAI7 (w + 6) (by omega), hAI7 (w + 8) (by omega), hAI7 (w + 10) (by omega), hAI7 (w + 12) (by omega), hAI7 (w + 14) (by omega)]))
        have hrow : ctI7 (w + 5) = .inl (B.2.1 3, 26, .inr (.inr (.inr (.inr f)))) := (hCI7 (w + 5) (by omega)).trans hrow
        have hN_1 : ctI7 (w + 1) = .inl (B.2.1 1, 1891, .inr (.inl (lF (fun _ => 0)))) := (hCI7 (w + 1) (by omega)).trans hN_1
        have hN_2 : ctI7 (w + 2) = .inl (B.2.1 0, 5, .inl (nF (fun _ => 0))) := (hCI7 (w + 2) (by omega)).trans hN_2
        have hN_3 : ctI7 (w + 3) = .inl (B.2.1 0, 5, .inl (nF (fun _ => 0))) := (hCI7 (w + 3) (by omega)).trans hN_3
        have hN_4 : ctI7 (w + 4) = .inl (B.2.1 0, 25, .inl (nF (fun _ => 0))) := (hCI7 (w + 4) (by omega)).trans hN_4
        have hfr : ∀ r, r < w → ctI7 r = ct r := fun r hp => (hCI7 r (by omega)).trans (hfr r hp)
        have hfra : ∀ r, r ≤ w → adI7 r = ad r := fun r hp => (hAI7 r (by omega)).trans (hfra r hp)
        have hWs : ∀ j, j < 5 + (i + 1) → isW B adI7 ctI7 (w + 6 + 2 * j) 0 := fun j hj => by
          by_cases e : j = 5 + i
          · rw [e, show w + 6 + 2 * (5 + i) = q by omega]; exact hWn
          · exact (hWs j (by omega)).move (hAI7 _ (by omega)) (hCI7 _ (by omega)) (hCI7 _ (by omega))
        have hf : ∀ j, j < i → f j = some (adI7 (w + 16 + 2 * j)) := fun j hj => by rw [hAI7 _ (by omega)]; exact hf j hj
        refine g_same (L' := [(0, .ref (adI7 w)), (1, .int (nI i))]) (st' := [.ref (adI7 q), .int (nI i), .ref (adI7 (w + 5))]) (by rw [hAI7 w (by omega)]) (by rw [hAI7 q (by omega), hAI7 (w + 5) (by omega)]) ?_
        refine g_aast (r := (w + 5)) (k := q) (j := i) (t0 := 3) fx rfl rfl (by omega) hrow (by omega) hWo (nI_toInt (by omega)) (by omega) dX9_init_119 (fun ctS ectS => ?_)
        have hfr : ∀ r, r < w → ctS r = ct r := fun r hp => (congrFun ectS r).trans ((va_up_ne _ _ (by omega)).trans (hfr r hp))
        have ho : ctS w = .inr (9, [.ref (adI7 (w + 1)), .ref (adI7 (w + 2)), .ref (adI7 (w + 3)), .ref (adI7 (w + 4)), .ref (adI7 (w + 5)), .int 0, .int 0, .int 0, .int 0, .null, .ref (adI7 (w + 6)), .ref (adI7 (w + 8)), .ref (adI7 (w + 10)), .ref (adI7 (w + 12)), .ref (adI7 (w + 14))]) := (congrFun ectS _).trans ((va_up_ne _ _ (by omega)).trans ho)
        have hrow : ctS (w + 5) = .inl (B.2.1 3, 26, .inr (.inr (.inr (.inr (va_up f i (some (adI7 q))))))) := by rw [ectS, va_up_self]
        have hN_1 : ctS (w + 1) = .inl (B.2.1 1, 1891, .inr (.inl (lF (fun _ => 0)))) := (congrFun ectS _).trans ((va_up_ne _ _ (by omega)).trans hN_1)
        have hN_2 : ctS (w + 2) = .inl (B.2.1 0, 5, .inl (nF (fun _ => 0))) := (congrFun ectS _).trans ((va_up_ne _ _ (by omega)).trans hN_2)
        have hN_3 : ctS (w + 3) = .inl (B.2.1 0, 5, .inl (nF (fun _ => 0))) := (congrFun ectS _).trans ((va_up_ne _ _ (by omega)).trans hN_3)
        have hN_4 : ctS (w + 4) = .inl (B.2.1 0, 25, .inl (nF (fun _ => 0))) := (congrFun ectS _).trans ((va_up_ne _ _ (by omega)).trans hN_4)
        have hWo : ctS q = .inr (10, [.ref (adI7 (q + 1)), .int 0]) := (congrFun ectS _).trans ((va_up_ne _ _ (by omega)).trans hWo)
        have hWs : ∀ j, j < 5 + (i + 1) → isW B adI7 ctS (w + 6 + 2 * j) 0 := fun j hj => (hWs j hj).frame (by rw [ectS, va_up_ne _ _ (by omega)]) (by rw [ectS, va_up_ne _ _ (by omega)])
        refine g_iinc (L' := [(1, .int (nI (i + 1))), (0, .ref (adI7 w))]) fx (nI (i + 1)) 1 dX9_init_120 rfl (gInc _) (by decide) rfl ?_
        refine g_goto fx 101 dX9_init_123 (by decide) ?_
        refine g_locals (L' := [(0, .ref (adI7 w)), (1, .int (nI (i + 1)))]) [1, 0] rfl ?_
        refine g_more (k1 := 15 + 2 * (i + 1)) (s1 := 2022 + 14 * (i + 1)) (by omega) (by omega) ?_
        exact ih101 (i + 1) (q + 2) _ adI7 ctS (by omega) (by omega) ho hrow hN_1 hN_2 hN_3 hN_4 (fun j hj => by by_cases e : j = i; (rw [e, va_up_self, ← hq]); (rw [va_up_ne _ _ e]; exact hf j (by omega))) hWs hfr hfra (by omega)
  refine g_locals (L' := [(0, .ref (adI14 w)), (1, .int (nI 0))]) [1, 0] rfl ?_
  refine g_more (k1 := 15 + 2 * 0) (s1 := 2022 + 14 * 0) (by omega) (by omega) ?_
  exact LP101 27 0 (w + 16) _ adI14 _ (by omega) (by omega) ho hN_5 hN_1 hN_2 hN_3 hN_4 (fun j hj => absurd hj (by omega)) hWs hfr hfra (by omega)
