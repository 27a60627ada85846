def rnL (a need : Nat) : Nat := if need ≤ a then a else max need (2 * a)
theorem mx_nI {a b : Nat} (ha : a < 2 ^ 31) (hb : b < 2 ^ 31) : (if nI a < nI b then nI b else nI a) = nI (max a b) := by
  by_cases q : a < b
  · rw [if_pos ((nI_ltI ha hb).mpr q), Nat.max_eq_right (by omega)]
  · rw [if_neg (fun w => q ((nI_ltI ha hb).mp w)), Nat.max_eq_left (by omega)]
set_option maxHeartbeats 4000000 in
set_option maxRecDepth 100000 in
theorem c_X0_renew (B : gB) (ad : Nat → Nat) (ct : Nat → va_E) (n : Nat) (R C X R0 C0 sd0 cn0 NL : Nat) (g : Nat → Nat) (hn : 178 ≤ n) (hk : ct 79 = .inr (0, [.ref (ad 80), .int (nI R0), .int (nI C0), .int (nI sd0), .int (nI cn0)])) (hkr : ct 80 = .inl (B.2.1 1, NL, .inr (.inl (lF g)))) (hR5 : R ≤ 5) (hC5 : C ≤ 5) (hX : X ≤ 20000) (hNL : NL ≤ 120000) : Ctr B yX0_renew cX0_renew 5 none 1 21 1 (2 * ((rnL NL (((R * C + 9) / 10) * X)) - NL)) ad ct n [.ref (ad 79), .int (nI R), .int (nI C), .int (nI X)] (gPx n (fun ad' ct' => ∃ g', (∀ r, r ≠ 80 → ad' r = ad r) ∧ ct' 79 = .inr (0, [.ref (ad' 80), .int (nI R), .int (nI C), .int (nI ((R * C + 9) / 10)), .int (nI 0)]) ∧ ct' 80 = .inl (B.2.1 1, (rnL NL (((R * C + 9) / 10) * X)), .inr (.inl (lF g'))) ∧ ∀ r, r ≠ 79 → r ≠ 80 → ct' r = ct r)) := by
  have hfr : ∀ r, r ≠ 79 ∧ r < n → ct r = ct r := fun _ _ => rfl
  have hfra : ∀ r, r < n → ad r = ad r := fun _ _ => rfl
  have hRC : R * C ≤ 25 := Nat.mul_le_mul hR5 hC5
  have hsd : ((R * C + 9) / 10) ≤ 3 := by omega
  have hne : (((R * C + 9) / 10) * X) ≤ 60000 := Nat.mul_le_mul hsd hX
  refine Ctr.ofG (L := [(0, .ref (ad 79)), (1, .int (nI R)), (2, .int (nI C)), (3, .int (nI X))]) (by decide +kernel) rfl (Nat.le_of_ble_eq_true rfl) (fun E fx rt hnm => ?_)
  refine g_aload_n fx 0 dX0_renew_0 rfl ?_
  refine g_iload_n fx 1 dX0_renew_1 rfl ?_
  refine g_put (r := 79) (fs' := [.ref (ad 80), .int (nI R), .int (nI C0), .int (nI sd0), .int (nI cn0)]) fx lpX0_13 (by omega) hk rfl rfl (Nat.le_of_ble_eq_true rfl) rfl dX0_renew_2 (fun cu1 ecu1 => ?_)
  have hfr : ∀ r, r ≠ 79 ∧ r < n → cu1 r = ct r := fun r hp => (congrFun ecu1 r).trans ((va_up_ne _ _ (by omega)).trans (hfr r hp))
  have hk : cu1 79 = .inr (0, [.ref (ad 80), .int (nI R), .int (nI C0), .int (nI sd0), .int (nI cn0)]) := by rw [ecu1, va_up_self]
  have hkr : cu1 80 = .inl (B.2.1 1, NL, .inr (.inl (lF g))) := (congrFun ecu1 _).trans ((va_up_ne _ _ (by omega)).trans hkr)
  refine g_aload_n fx 0 dX0_renew_5 rfl ?_
  refine g_iload_n fx 2 dX0_renew_6 rfl ?_
  refine g_put (r := 79) (fs' := [.ref (ad 80), .int (nI R), .int (nI C), .int (nI sd0), .int (nI cn0)]) fx lpX0_17 (by omega) hk rfl rfl (Nat.le_of_ble_eq_true rfl) rfl dX0_renew_7 (fun cu2 ecu2 => ?_)
  have hfr : ∀ r, r ≠ 79 ∧ r < n → cu2 r = ct r := fun r hp => (congrFun ecu2 r).trans ((va_up_ne _ _ (by omega)).trans (hfr r hp))
  have hk : cu2 79 = .inr (0, [.ref (ad 80), .int (nI R), .int (nI C), .int (nI sd0), .int (nI cn0)]) := by rw [ecu2, va_up_self]
  have hkr : cu2 80 = .inl (B.2.1 1, NL, .inr (.inl (lF g))) := (congrFun ecu2 _).trans ((va_up_ne _ _ (by omega)).trans hkr)
  refine g_aload_n fx 0 dX0_renew_10 rfl ?_
  refine g_aload_n fx 0 dX0_renew_11 rfl ?_
  refine g_get (r := 79) fx lkX0_13 (by omega) hk rfl dX0_renew_12 ?_
  refine g_aload_n fx 0 dX0_renew_15 rfl ?_
  refine g_get (r := 79) fx lkX0_17 (by omega) hk rfl dX0_renew_16 ?_
  refine g_imulN fx dX0_renew_19 ?_
  refine g_bipush (v := nI 10) fx dX0_renew_20 (by decide +kernel) ?_
  refine g_iaddN fx dX0_renew_22 ?_
  refine g_iconst (v := nI 1) fx dX0_renew_23 (by decide +kernel) ?_
  refine g_isub fx dX0_renew_24 ?_
  refine g_isi (y := nI (R * C + 9)) (by rw [show R * C + 10 = (R * C + 9) + 1 by omega]; exact pk_sub (by omega)) ?_
  refine g_bipush (v := nI 10) fx dX0_renew_25 (by decide +kernel) ?_
  refine g_idiv fx dX0_renew_27 (by decide) ?_
  refine g_isi (y := nI ((R * C + 9) / 10)) (pk_div (by omega) (by decide) (by decide)) ?_
  refine g_put (r := 79) (fs' := [.ref (ad 80), .int (nI R), .int (nI C), .int (nI ((R * C + 9) / 10)), .int (nI cn0)]) fx lpX0_20 (by omega) hk rfl rfl (Nat.le_of_ble_eq_true rfl) rfl dX0_renew_28 (fun cu3 ecu3 => ?_)
  have hfr : ∀ r, r ≠ 79 ∧ r < n → cu3 r = ct r := fun r hp => (congrFun ecu3 r).trans ((va_up_ne _ _ (by omega)).trans (hfr r hp))
  have hk : cu3 79 = .inr (0, [.ref (ad 80), .int (nI R), .int (nI C), .int (nI ((R * C + 9) / 10)), .int (nI cn0)]) := by rw [ecu3, va_up_self]
  have hkr : cu3 80 = .inl (B.2.1 1, NL, .inr (.inl (lF g))) := (congrFun ecu3 _).trans ((va_up_ne _ _ (by omega)).trans hkr)
  refine g_aload_n fx 0 dX0_renew_31 rfl ?_
  refine g_iconst (v := nI 0) fx dX0_renew_32 (by decide +kernel) ?_
  refine g_put (r := 79) (fs' := [.ref (ad 80), .int (nI R), .int (nI C), .int (nI ((R * C + 9) / 10)), .int (nI 0)]) fx lpX0_23 (by omega) hk rfl rfl (Nat.le_of_ble_eq_true rfl) rfl dX0_renew_33 (fun cu4 ecu4 => ?_)
  have hfr : ∀ r, r ≠ 79 ∧ r < n → cu4 r = ct r := fun r hp => (congrFun ecu4 r).trans ((va_up_ne _ _ (by omega)).trans (hfr r hp))
  have hk : cu4 79 = .inr (0, [.ref (ad 80), .int (nI R), .int (nI C), .int (nI ((R * C + 9) / 10)), .int (nI 0)]) := by rw [ecu4, va_up_self]
  have hkr : cu4 80 = .inl (B.2.1 1, NL, .inr (.inl (lF g))) := (congrFun ecu4 _).trans ((va_up_ne _ _ (by omega)).trans hkr)
  have hfrT : ∀ r, r ≠ 79 → cu4 r = ct r := fun r h => by rw [ecu4, va_up_ne _ _ h, ecu3, va_up_ne _ _ h, ecu2, va_up_ne _ _ h, ecu1, va_up_ne _ _ h]
  refine g_aload_n fx 0 dX0_renew_36 rfl ?_
  refine g_get (r := 79) fx lkX0_20 (by omega) hk rfl dX0_renew_37 ?_
  refine g_iload_n fx 3 dX0_renew_40 rfl ?_
  refine g_imulN fx dX0_renew_41 ?_
  refine g_istore (L' := [(4, .int (nI (((R * C + 9) / 10) * X))), (0, .ref (ad 79)), (1, .int (nI R)), (2, .int (nI C)), (3, .int (nI X))]) fx dX0_renew_42 (by decide) rfl ?_
  refine g_iload fx 0 dX0_renew_44 rfl ?_
  refine g_aload_n fx 1 dX0_renew_46 rfl ?_
  refine g_get (r := 79) fx lkX0_7 (by omega) hk rfl dX0_renew_47 ?_
  refine g_alen (r := 80) (t0 := 1) fx rfl (by omega) hkr dX0_renew_50 ?_
  refine g_icmp_le fx 72 dX0_renew_51 (by decide) (fun c51 => ?_) (fun c51 => ?_)
  · skip
    have hle : (((R * C + 9) / 10) * X) ≤ NL := (nI_leI (by omega) (by omega)).mp c51
    have hrl : (rnL NL (((R * C + 9) / 10) * X)) = NL := if_pos hle
    refine g_more (k1 := 1) (s1 := (2 * ((rnL NL (((R * C + 9) / 10) * X)) - NL))) (by omega) (by omega) ?_
    refine g_vret fx rt dX0_renew_72 ?_
    rw [hrl]
    exact gPx.mk ⟨g, fun _ _ => rfl, hk, hkr, fun r h1 h2 => hfrT r h1⟩
  · skip
    have hgt : NL < (((R * C + 9) / 10) * X) := (nI_ltI (by omega) (by omega)).mp (Int32.not_le.mp c51)
    have hrl : (rnL NL (((R * C + 9) / 10) * X)) = max (((R * C + 9) / 10) * X) (2 * NL) := if_neg (by omega)
    have hmx : max (((R * C + 9) / 10) * X) (2 * NL) ≤ 120000 := Nat.max_le.mpr ⟨by omega, by omega⟩
    refine g_aload_n fx 1 dX0_renew_54 rfl ?_
    refine g_iload fx 0 dX0_renew_55 rfl ?_
    refine g_iconst (v := nI 2) fx dX0_renew_57 (by decide +kernel) ?_
    refine g_aload_n fx 1 dX0_renew_58 rfl ?_
    refine g_get (r := 79) fx lkX0_7 (by omega) hk rfl dX0_renew_59 ?_
    refine g_alen (r := 80) (t0 := 1) fx rfl (by omega) hkr dX0_renew_62 ?_
    refine g_imulN fx dX0_renew_63 ?_
    refine g_callSip (As := [.int (nI (((R * C + 9) / 10) * X)), .int (nI (2 * NL))]) (rest := [.ref (ad 79)]) fx slX0_26 (c_J9_max_7cf53 B ad cu4 n (nI (((R * C + 9) / 10) * X)) (nI (2 * NL))) rfl rfl (Nat.le_of_ble_eq_true rfl) ⟨by dsimp only; omega, by dsimp only; omega⟩ ⟨by dsimp only; omega, by dsimp only; omega⟩ dX0_renew_64 (fun q1 hq1 => ?_)
    rw [mx_nI (by omega) (by omega), ← hrl] at hq1
    refine g_isi (y := nI (rnL NL (((R * C + 9) / 10) * X))) hq1 ?_
    have hr1 : (rnL NL (((R * C + 9) / 10) * X)) ≤ 120000 := by omega
    have hr2 : 2 * NL ≤ (rnL NL (((R * C + 9) / 10) * X)) := by rw [hrl]; exact Nat.le_max_right _ _
    refine g_newl (N := (rnL NL (((R * C + 9) / 10) * X))) fx (nI_toInt (by omega)) (by omega) ⟨by dsimp only; omega, by dsimp only; omega⟩ dX0_renew_67 (fun ad_1 ct_1 hA_1 hC_1 hN_1 => ?_)
    refine g_same (L' := [(4, .int (nI (((R * C + 9) / 10) * X))), (0, .ref (ad_1 79)), (1, .int (nI R)), (2, .int (nI C)), (3, .int (nI X))]) (st' := [.ref (ad_1 n), .ref (ad_1 79)]) (by rw [hA_1 79 (by omega)]) (by rw [hA_1 79 (by omega)]) ?_
    have hk : ct_1 79 = .inr (0, [.ref (ad_1 80), .int (nI R), .int (nI C), .int (nI ((R * C + 9) / 10)), .int (nI 0)]) := (hC_1 79 (by omega)).trans (hk.trans (by rw [hA_1 80 (by omega)]))
    have hkr : ct_1 80 = .inl (B.2.1 1, NL, .inr (.inl (lF g))) := (hC_1 80 (by omega)).trans hkr
    have hfra : ∀ r, r < n → ad_1 r = ad r := fun r hp => (hA_1 r (by omega)).trans (hfra r hp)
    have hfr : ∀ r, r ≠ 79 ∧ r < n → ct_1 r = ct r := fun r hp => (hC_1 r (by omega)).trans (hfr r hp)
    refine g_put (r := 79) (fs' := [.ref (ad_1 n), .int (nI R), .int (nI C), .int (nI ((R * C + 9) / 10)), .int (nI 0)]) fx lpX0_7 (by omega) hk rfl rfl (Nat.le_of_ble_eq_true rfl) rfl dX0_renew_69 (fun cu6 ecu6 => ?_)
    have hfr : ∀ r, r ≠ 79 ∧ r < n → cu6 r = ct r := fun r hp => (congrFun ecu6 r).trans ((va_up_ne _ _ (by omega)).trans (hfr r hp))
    have hk : cu6 79 = .inr (0, [.ref (ad_1 n), .int (nI R), .int (nI C), .int (nI ((R * C + 9) / 10)), .int (nI 0)]) := by rw [ecu6, va_up_self]
    have hkr : cu6 80 = .inl (B.2.1 1, NL, .inr (.inl (lF g))) := (congrFun ecu6 _).trans ((va_up_ne _ _ (by omega)).trans hkr)
    have hN_1 : cu6 n = .inl (B.2.1 1, (rnL NL (((R * C + 9) / 10) * X)), .inr (.inl (lF (fun _ => 0)))) := (congrFun ecu6 _).trans ((va_up_ne _ _ (by omega)).trans hN_1)
    refine g_drop (ad2 := va_up ad 80 (ad_1 n)) (ct2 := va_up (va_up ct 79 (.inr (0, [.ref (ad_1 n), .int (nI R), .int (nI C), .int (nI ((R * C + 9) / 10)), .int (nI 0)]))) 80 (.inl (B.2.1 1, (rnL NL (((R * C + 9) / 10) * X)), .inr (.inl (lF (fun _ => 0)))))) 80 (by omega) (fun k h1 h2 => by rw [va_up_ne _ _ h2]; exact (hfra k h1).symm) (fun k h1 h2 => ?_) (va_up_self _ _ _) (by rw [va_up_self]; exact hN_1.symm) ?_
    · rw [va_up_ne _ _ h2]
      by_cases q : k = 79
      · subst q; rw [va_up_self]; exact hk.symm
      · rw [va_up_ne _ _ q]; exact (hfr k ⟨q, h1⟩).symm
    refine g_more (k1 := 1) (s1 := (2 * ((rnL NL (((R * C + 9) / 10) * X)) - NL))) (by omega) (by omega) ?_
    refine g_vret fx rt dX0_renew_72 ?_
    refine gPx.mk ⟨fun _ => 0, fun r h => va_up_ne _ _ h, ?_, va_up_self _ _ _, fun r h1 h2 => by rw [va_up_ne _ _ h2, va_up_ne _ _ h1]⟩
    rw [va_up_ne _ _ (by decide), va_up_self, va_up_self]
