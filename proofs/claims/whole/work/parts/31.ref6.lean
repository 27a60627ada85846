theorem g_relocal {B : gB} {nL : Nat} {E : gE} {ad : Nat → Nat} {ct : Nat → va_E} {n k0 s0 : Nat} {L L' : List (Nat × Value)} {pc : Nat} {st : List Value} (h : L = L') (k : G B nL E ad ct n k0 s0 L' pc st) : G B nL E ad ct n k0 s0 L pc st := h ▸ k
theorem toN {x : Int32} {lo hi : Int} (h : lo ≤ x.toInt ∧ x.toInt ≤ hi) (h0 : 0 ≤ lo) : ∃ k : Nat, (lo ≤ (k : Int) ∧ (k : Int) ≤ hi) ∧ x = nI k := ⟨x.toInt.toNat, by omega, tI (by omega)⟩
theorem add_sub3 {T v w : Nat} (h : w ≤ T) : nI T + (nI v - nI w) = nI (T - w + v) := by
  rw [← nI_add, ← pk_sub h]
  simp only [Int32.sub_eq_add_neg]
  ac_rfl
theorem rm1' {m : Nat} {R : Int32} (hR : R = nI m) (h : m < 2 ^ 31) : ((R - 1).toInt64).toInt = (m : Int) - 1 := by rw [hR]; exact rm1 h
set_option maxHeartbeats 4000000 in
set_option maxRecDepth 100000 in
theorem c_X12_cell (B : gB) (ad : Nat → Nat) (ct : Nat → va_E) (n : Nat) (f : Nat → Int32) (gc : Nat → Nat) (hn : 33 ≤ n) (h0 : ct 0 = mObj ad f) (hc : ct 5 = .inl (B.2.1 0, 25, .inl (nF gc))) (R C : Nat) (hR : f 4 = nI R) (hC : f 5 = nI C) (hR5 : R ≤ 5) (hC5 : C ≤ 5) (hgb : ∀ j, j < 25 → gc j ≤ 60) (T : Nat) (hT : f 7 = nI T) (hT60 : T ≤ 60) (hle : ∀ i j, i < R → j < C → gc (C * i + j) ≤ T) (x y z : Int32) : Ctr B yX12_cell cX12_cell 6 (some .int) 1 25 0 0 ad ct n [.ref (ad 0), .int x, .int y, .int z] (gPi ad n (fun q ct' => (¬ (((0 : Int) ≤ x.toInt ∧ x.toInt ≤ (R : Int) - 1) ∧ ((0 : Int) ≤ y.toInt ∧ y.toInt ≤ (C : Int) - 1)) ∧ q = -1 ∧ ct' = ct) ∨ ((((0 : Int) ≤ x.toInt ∧ x.toInt ≤ (R : Int) - 1) ∧ ((0 : Int) ≤ y.toInt ∧ y.toInt ≤ (C : Int) - 1)) ∧ ¬ ((0 : Int) ≤ z.toInt ∧ z.toInt ≤ 60) ∧ q = -2 ∧ ct' = ct) ∨ ∃ i j v : Nat, x = nI i ∧ i < R ∧ y = nI j ∧ j < C ∧ z = nI v ∧ v ≤ 60 ∧ ((60 < T - gc (C * i + j) + v ∧ q = -4 ∧ ct' = ct) ∨ (T - gc (C * i + j) + v ≤ 60 ∧ q = nI (gc (C * i + j)) ∧ ct' 0 = mObj ad (va_up f 7 (nI (T - gc (C * i + j) + v))) ∧ ct' 5 = .inl (B.2.1 0, 25, .inl (nF (va_up gc (C * i + j) v))) ∧ ∀ r, r ≠ 0 → r ≠ 5 → ct' r = ct r)))) := by
  have hfr : ∀ r, r ≠ 0 → r ≠ 5 → ct r = ct r := fun _ _ _ => rfl
  refine Ctr.ofG (L := [(0, .ref (ad 0)), (1, .int x), (2, .int y), (3, .int z)]) (by decide +kernel) rfl (Nat.le_of_ble_eq_true rfl) (fun E fx rt hnm => ?_)
  refine g_iload_n fx 1 dX12_cell_0 rfl ?_
  refine g_i2l fx dX12_cell_1 ?_
  refine g_lconst (v := lN 0) fx dX12_cell_2 (by decide +kernel) ?_
  refine g_aload_n fx 0 dX12_cell_3 rfl ?_
  refine g_get (r := 0) fx lkX12_115 (by omega) h0 rfl dX12_cell_4 ?_
  refine g_isi (y := nI R) hR ?_
  refine g_iconst (v := nI 1) fx dX12_cell_7 (by decide +kernel) ?_
  refine g_isub fx dX12_cell_8 ?_
  refine g_i2l fx dX12_cell_9 ?_
  refine g_callSip (As := [.long x.toInt64, .long (lN 0), .long (((nI R) - (nI 1)).toInt64)]) (rest := []) fx slX12_159 (c_in B ad ct n x (lN 0) (nI R - nI 1).toInt64 0 ((R : Int) - 1) (by decide) (rm1 (by omega))) rfl rfl (Nat.le_of_ble_eq_true rfl) ⟨by decide, by decide⟩ ⟨by decide, by decide⟩ dX12_cell_10 (fun q1 hq1 => ?_)
  refine g_if_eq fx 32 dX12_cell_13 (by decide) (fun c13 => ?_) (fun c13 => ?_)
  · skip
    have hA : ¬ (((0 : Int) ≤ x.toInt ∧ x.toInt ≤ (R : Int) - 1) ∧ ((0 : Int) ≤ y.toInt ∧ y.toInt ≤ (C : Int) - 1)) := fun w => if01_z.mp (hq1 ▸ c13) w.1
    refine g_iconst (v := (-1)) fx dX12_cell_32 (by decide +kernel) ?_
    refine g_iret fx rt dX12_cell_33 ?_
    exact gPi.mk (Or.inl ⟨hA, rfl, rfl⟩)
  · skip
    have hx := if01_n.mp (hq1 ▸ c13)
    refine g_iload_n fx 2 dX12_cell_16 rfl ?_
    refine g_i2l fx dX12_cell_17 ?_
    refine g_lconst (v := lN 0) fx dX12_cell_18 (by decide +kernel) ?_
    refine g_aload_n fx 0 dX12_cell_19 rfl ?_
    refine g_get (r := 0) fx lkX12_118 (by omega) h0 rfl dX12_cell_20 ?_
    refine g_isi (y := nI C) hC ?_
    refine g_iconst (v := nI 1) fx dX12_cell_23 (by decide +kernel) ?_
    refine g_isub fx dX12_cell_24 ?_
    refine g_i2l fx dX12_cell_25 ?_
    refine g_callSip (As := [.long y.toInt64, .long (lN 0), .long (((nI C) - (nI 1)).toInt64)]) (rest := []) fx slX12_159 (c_in B ad ct n y (lN 0) (nI C - nI 1).toInt64 0 ((C : Int) - 1) (by decide) (rm1 (by omega))) rfl rfl (Nat.le_of_ble_eq_true rfl) ⟨by decide, by decide⟩ ⟨by decide, by decide⟩ dX12_cell_26 (fun q2 hq2 => ?_)
    refine g_if_ne fx 34 dX12_cell_29 (by decide) (fun c29 => ?_) (fun c29 => ?_)
    · skip
      have hP1 : ((0 : Int) ≤ x.toInt ∧ x.toInt ≤ (R : Int) - 1) ∧ ((0 : Int) ≤ y.toInt ∧ y.toInt ≤ (C : Int) - 1) := ⟨hx, if01_n.mp (hq2 ▸ c29)⟩
      obtain ⟨i, hi, exi⟩ := toN hP1.1 (by omega)
      obtain ⟨j, hj, eyj⟩ := toN hP1.2 (by omega)
      refine g_relocal (L' := [(0, .ref (ad 0)), (1, .int (nI i)), (2, .int (nI j)), (3, .int z)]) (by rw [exi, eyj]) ?_
      refine g_iload_n fx 3 dX12_cell_34 rfl ?_
      refine g_i2l fx dX12_cell_35 ?_
      refine g_lconst (v := lN 0) fx dX12_cell_36 (by decide +kernel) ?_
      refine g_ldc2 fx kcX12_166 dX12_cell_37 ?_
      refine g_callSip (As := [.long z.toInt64, .long (lN 0), .long 60]) (rest := []) fx slX12_159 (c_in B ad ct n z (lN 0) (60) 0 60 (by decide) (by decide)) rfl rfl (Nat.le_of_ble_eq_true rfl) ⟨by decide, by decide⟩ ⟨by decide, by decide⟩ dX12_cell_40 (fun q3 hq3 => ?_)
      refine g_if_ne fx 49 dX12_cell_43 (by decide) (fun c43 => ?_) (fun c43 => ?_)
      · skip
        have hP2 : (0 : Int) ≤ z.toInt ∧ z.toInt ≤ 60 := if01_n.mp (hq3 ▸ c43)
        obtain ⟨v, hv, ezv⟩ := toN hP2 (by omega)
        have hix : C * i + j < 25 := by have : C * i ≤ C * 4 := Nat.mul_le_mul_left _ (by omega); omega
        have hwT := hle i j (by omega) (by omega)
        have hw60 := hgb (C * i + j) hix
        refine g_relocal (L' := [(0, .ref (ad 0)), (1, .int (nI i)), (2, .int (nI j)), (3, .int (nI v))]) (by rw [ezv]) ?_
        refine g_aload_n fx 0 dX12_cell_49 rfl ?_
        refine g_get (r := 0) fx lkX12_118 (by omega) h0 rfl dX12_cell_50 ?_
        refine g_isi (y := nI C) hC ?_
        refine g_iload_n fx 1 dX12_cell_53 rfl ?_
        refine g_imulN fx dX12_cell_54 ?_
        refine g_iload_n fx 2 dX12_cell_55 rfl ?_
        refine g_iaddN fx dX12_cell_56 ?_
        refine g_istore (L' := [(4, .int (nI ((C * i) + j))), (0, .ref (ad 0)), (1, .int (nI i)), (2, .int (nI j)), (3, .int (nI v))]) fx dX12_cell_57 (by decide) rfl ?_
        refine g_aload_n fx 1 dX12_cell_59 rfl ?_
        refine g_get (r := 0) fx lkX12_22 (by omega) h0 rfl dX12_cell_60 ?_
        refine g_iload fx 0 dX12_cell_63 rfl ?_
        refine g_iald (r := 5) (j := C * i + j) fx (by omega) hc (nI_toInt (by omega)) hix dX12_cell_65 ?_
        refine g_isi (y := nI (gc (C * i + j))) rfl ?_
        refine g_istore (L' := [(5, .int (nI (gc (C * i + j)))), (4, .int (nI ((C * i) + j))), (0, .ref (ad 0)), (1, .int (nI i)), (2, .int (nI j)), (3, .int (nI v))]) fx dX12_cell_66 (by decide) rfl ?_
        refine g_aload_n fx 2 dX12_cell_68 rfl ?_
        refine g_get (r := 0) fx lkX12_163 (by omega) h0 rfl dX12_cell_69 ?_
        refine g_isi (y := nI T) hT ?_
        refine g_iload fx 0 dX12_cell_72 rfl ?_
        refine g_isubN fx dX12_cell_74 hwT ?_
        refine g_iload_n fx 5 dX12_cell_75 rfl ?_
        refine g_iaddN fx dX12_cell_76 ?_
        refine g_bipush (v := nI 60) fx dX12_cell_77 (by decide +kernel) ?_
        refine g_icmp_le fx 85 dX12_cell_79 (by decide) (fun c79 => ?_) (fun c79 => ?_)
        · skip
          have hfull : T - gc (C * i + j) + v ≤ 60 := (nI_leI (by omega) (by omega)).mp c79
          refine g_aload_n fx 2 dX12_cell_85 rfl ?_
          refine g_dup fx dX12_cell_86 rfl ?_
          refine g_get (r := 0) fx lkX12_163 (by omega) h0 rfl dX12_cell_87 ?_
          refine g_isi (y := nI T) hT ?_
          refine g_iload_n fx 5 dX12_cell_90 rfl ?_
          refine g_iload fx 0 dX12_cell_91 rfl ?_
          refine g_isub fx dX12_cell_93 ?_
          refine g_iadd fx dX12_cell_94 ?_
          refine g_isi (y := nI (T - gc (C * i + j) + v)) (add_sub3 hwT) ?_
          refine g_put (r := 0) (fs' := mFs ad (va_up f 7 (nI (T - gc (C * i + j) + v)))) fx lpX12_163 (by omega) h0 rfl rfl (Nat.le_of_ble_eq_true rfl) rfl dX12_cell_95 (fun cu4 ecu4 => ?_)
          have hfr : ∀ r, r ≠ 0 → r ≠ 5 → cu4 r = ct r := fun r _ _ => (congrFun ecu4 r).trans ((va_up_ne _ _ (by assumption)).trans (hfr r (by assumption) (by assumption)))
          have h0 : cu4 0 = mObj ad (va_up f 7 (nI (T - gc (C * i + j) + v))) := by rw [ecu4, va_up_self]
          have hc : cu4 5 = .inl (B.2.1 0, 25, .inl (nF gc)) := (congrFun ecu4 _).trans ((va_up_ne _ _ (by omega)).trans hc)
          refine g_aload_n fx 2 dX12_cell_98 rfl ?_
          refine g_get (r := 0) fx lkX12_22 (by omega) h0 rfl dX12_cell_99 ?_
          refine g_iload fx 1 dX12_cell_102 rfl ?_
          refine g_iload_n fx 5 dX12_cell_104 rfl ?_
          refine g_iast (r := 5) (j := (C * i + j)) fx (by omega) hc (nI_toInt (by omega)) hix dX12_cell_105 (fun cu5 ecu5 => ?_)
          have hfr : ∀ r, r ≠ 0 → r ≠ 5 → cu5 r = ct r := fun r _ _ => (congrFun ecu5 r).trans ((va_up_ne _ _ (by assumption)).trans (hfr r (by assumption) (by assumption)))
          have h0 : cu5 0 = mObj ad (va_up f 7 (nI (T - gc (C * i + j) + v))) := (congrFun ecu5 _).trans ((va_up_ne _ _ (by omega)).trans h0)
          have hc : cu5 5 = .inl (B.2.1 0, 25, .inl (nF (va_up gc (C * i + j) v))) := by rw [ecu5, va_up_self, nF_up]
          refine g_iload fx 0 dX12_cell_106 rfl ?_
          refine g_iret fx rt dX12_cell_108 ?_
          exact gPi.mk (Or.inr (Or.inr ⟨i, j, v, exi, by omega, eyj, by omega, ezv, by omega, Or.inr ⟨hfull, rfl, h0, hc, hfr⟩⟩))
        · skip
          have hfull : 60 < T - gc (C * i + j) + v := Nat.lt_of_not_le (fun w => c79 ((nI_leI (by omega) (by omega)).mpr w))
          refine g_bipush (v := (-4)) fx dX12_cell_82 (by decide +kernel) ?_
          refine g_iret fx rt dX12_cell_84 ?_
          exact gPi.mk (Or.inr (Or.inr ⟨i, j, v, exi, by omega, eyj, by omega, ezv, by omega, Or.inl ⟨hfull, rfl, rfl⟩⟩))
      · skip
        have hA : ¬ ((0 : Int) ≤ z.toInt ∧ z.toInt ≤ 60) := if01_z.mp (hq3 ▸ c43)
        refine g_bipush (v := (-2)) fx dX12_cell_46 (by decide +kernel) ?_
        refine g_iret fx rt dX12_cell_48 ?_
        exact gPi.mk (Or.inr (Or.inl ⟨hP1, hA, rfl, rfl⟩))
    · skip
      have hA : ¬ (((0 : Int) ≤ x.toInt ∧ x.toInt ≤ (R : Int) - 1) ∧ ((0 : Int) ≤ y.toInt ∧ y.toInt ≤ (C : Int) - 1)) := fun w => if01_z.mp (hq2 ▸ c29) w.2
      refine g_iconst (v := (-1)) fx dX12_cell_32 (by decide +kernel) ?_
      refine g_iret fx rt dX12_cell_33 ?_
      exact gPi.mk (Or.inl ⟨hA, rfl, rfl⟩)
set_option maxHeartbeats 4000000 in
set_option maxRecDepth 100000 in
theorem c_X12_sample (B : gB) (ad : Nat → Nat) (ct : Nat → va_E) (n : Nat) (f : Nat → Int32) (fs : Nat → Int32) (km : Nat → Nat) (hn : 33 ≤ n) (h0 : ct 0 = mObj ad f) (hs : ct 6 = .inl (B.2.1 0, 30, .inl fs)) (hm : ct 7 = .inl (B.2.1 0, 2, .inl (nF km))) (hk15 : ∀ w, w < 2 → km w ≤ 15) (x v : Int32) : Ctr B yX12_sample cX12_sample 3 (some .int) 1 25 0 0 ad ct n [.ref (ad 0), .int x, .int v] (gPi ad n (fun q ct' => (¬ ((0 : Int) ≤ x.toInt ∧ x.toInt ≤ 1) ∧ q = -1 ∧ ct' = ct) ∨ (((0 : Int) ≤ x.toInt ∧ x.toInt ≤ 1) ∧ ¬ ((-1000 : Int) ≤ v.toInt ∧ v.toInt ≤ 1000) ∧ q = -2 ∧ ct' = ct) ∨ (((-1000 : Int) ≤ v.toInt ∧ v.toInt ≤ 1000) ∧ ∃ w : Nat, x = nI w ∧ w < 2 ∧ ((km w = 15 ∧ q = -4 ∧ ct' = ct) ∨ (km w < 15 ∧ q = nI (km w + 1) ∧ ct' 6 = .inl (B.2.1 0, 30, .inl (va_up fs (15 * w + km w) v)) ∧ ct' 7 = .inl (B.2.1 0, 2, .inl (nF (va_up km w (km w + 1)))) ∧ ∀ r, r ≠ 6 → r ≠ 7 → ct' r = ct r))))) := by
  have hfr : ∀ r, r ≠ 6 → r ≠ 7 → ct r = ct r := fun _ _ _ => rfl
  refine Ctr.ofG (L := [(0, .ref (ad 0)), (1, .int x), (2, .int v)]) (by decide +kernel) rfl (Nat.le_of_ble_eq_true rfl) (fun E fx rt hnm => ?_)
  refine g_iload_n fx 1 dX12_sample_0 rfl ?_
  refine g_i2l fx dX12_sample_1 ?_
  refine g_lconst (v := lN 0) fx dX12_sample_2 (by decide +kernel) ?_
  refine g_lconst (v := lN 1) fx dX12_sample_3 (by decide +kernel) ?_
  refine g_callSip (As := [.long x.toInt64, .long (lN 0), .long (lN 1)]) (rest := []) fx slX12_159 (c_in B ad ct n x (lN 0) (lN 1) 0 1 (by decide) (by decide)) rfl rfl (Nat.le_of_ble_eq_true rfl) ⟨by decide, by decide⟩ ⟨by decide, by decide⟩ dX12_sample_4 (fun q1 hq1 => ?_)
  refine g_if_ne fx 12 dX12_sample_7 (by decide) (fun c7 => ?_) (fun c7 => ?_)
  · skip
    have hP1 : (0 : Int) ≤ x.toInt ∧ x.toInt ≤ 1 := if01_n.mp (hq1 ▸ c7)
    obtain ⟨w, hw, exw⟩ := toN hP1 (by omega)
    have hkw := hk15 w (by omega)
    refine g_relocal (L' := [(0, .ref (ad 0)), (1, .int (nI w)), (2, .int v)]) (by rw [exw]) ?_
    refine g_iload_n fx 2 dX12_sample_12 rfl ?_
    refine g_i2l fx dX12_sample_13 ?_
    refine g_ldc2 fx kcX12_177 dX12_sample_14 ?_
    refine g_ldc2 fx kcX12_179 dX12_sample_17 ?_
    refine g_callSip (As := [.long v.toInt64, .long (-1000), .long 1000]) (rest := []) fx slX12_159 (c_in B ad ct n v (-1000) (1000) (-1000) 1000 (by decide) (by decide)) rfl rfl (Nat.le_of_ble_eq_true rfl) ⟨by decide, by decide⟩ ⟨by decide, by decide⟩ dX12_sample_20 (fun q2 hq2 => ?_)
    refine g_if_ne fx 29 dX12_sample_23 (by decide) (fun c23 => ?_) (fun c23 => ?_)
    · skip
      have hP2 : (-1000 : Int) ≤ v.toInt ∧ v.toInt ≤ 1000 := if01_n.mp (hq2 ▸ c23)
      refine g_aload_n fx 0 dX12_sample_29 rfl ?_
      refine g_get (r := 0) fx lkX12_28 (by omega) h0 rfl dX12_sample_30 ?_
      refine g_iload_n fx 1 dX12_sample_33 rfl ?_
      refine g_iald (r := 7) (j := w) fx (by omega) hm (nI_toInt (by omega)) (by omega) dX12_sample_34 ?_
      refine g_isi (y := nI (km w)) rfl ?_
      refine g_bipush (v := nI 15) fx dX12_sample_35 (by decide +kernel) ?_
      refine g_icmp_ne fx 43 dX12_sample_37 (by decide) (fun c37 => ?_) (fun c37 => ?_)
      · skip
        have hfull : km w < 15 := Nat.lt_of_le_of_ne hkw (fun e => c37 (by rw [e]))
        refine g_aload_n fx 0 dX12_sample_43 rfl ?_
        refine g_get (r := 0) fx lkX12_25 (by omega) h0 rfl dX12_sample_44 ?_
        refine g_bipush (v := nI 15) fx dX12_sample_47 (by decide +kernel) ?_
        refine g_iload_n fx 1 dX12_sample_49 rfl ?_
        refine g_imulN fx dX12_sample_50 ?_
        refine g_aload_n fx 0 dX12_sample_51 rfl ?_
        refine g_get (r := 0) fx lkX12_28 (by omega) h0 rfl dX12_sample_52 ?_
        refine g_iload_n fx 1 dX12_sample_55 rfl ?_
        refine g_iald (r := 7) (j := w) fx (by omega) hm (nI_toInt (by omega)) (by omega) dX12_sample_56 ?_
        refine g_isi (y := nI (km w)) rfl ?_
        refine g_iaddN fx dX12_sample_57 ?_
        refine g_iload_n fx 2 dX12_sample_58 rfl ?_
        refine g_iast (r := 6) (j := (15 * w + km w)) fx (by omega) hs (nI_toInt (by omega)) (by omega) dX12_sample_59 (fun cu3 ecu3 => ?_)
        have hfr : ∀ r, r ≠ 6 → r ≠ 7 → cu3 r = ct r := fun r _ _ => (congrFun ecu3 r).trans ((va_up_ne _ _ (by assumption)).trans (hfr r (by assumption) (by assumption)))
        have h0 : cu3 0 = mObj ad f := (congrFun ecu3 _).trans ((va_up_ne _ _ (by omega)).trans h0)
        have hs : cu3 6 = .inl (B.2.1 0, 30, .inl (va_up fs (15 * w + km w) v)) := by rw [ecu3, va_up_self]
        have hm : cu3 7 = .inl (B.2.1 0, 2, .inl (nF km)) := (congrFun ecu3 _).trans ((va_up_ne _ _ (by omega)).trans hm)
        refine g_aload_n fx 0 dX12_sample_60 rfl ?_
        refine g_get (r := 0) fx lkX12_28 (by omega) h0 rfl dX12_sample_61 ?_
        refine g_iload_n fx 1 dX12_sample_64 rfl ?_
        refine g_dup2_11 fx dX12_sample_65 rfl rfl ?_
        refine g_iald (r := 7) (j := w) fx (by omega) hm (nI_toInt (by omega)) (by omega) dX12_sample_66 ?_
        refine g_isi (y := nI (km w)) rfl ?_
        refine g_iconst (v := nI 1) fx dX12_sample_67 (by decide +kernel) ?_
        refine g_iaddN fx dX12_sample_68 ?_
        refine g_iast (r := 7) (j := w) fx (by omega) hm (nI_toInt (by omega)) (by omega) dX12_sample_69 (fun cu4 ecu4 => ?_)
        have hfr : ∀ r, r ≠ 6 → r ≠ 7 → cu4 r = ct r := fun r _ _ => (congrFun ecu4 r).trans ((va_up_ne _ _ (by assumption)).trans (hfr r (by assumption) (by assumption)))
        have h0 : cu4 0 = mObj ad f := (congrFun ecu4 _).trans ((va_up_ne _ _ (by omega)).trans h0)
        have hs : cu4 6 = .inl (B.2.1 0, 30, .inl (va_up fs (15 * w + km w) v)) := (congrFun ecu4 _).trans ((va_up_ne _ _ (by omega)).trans hs)
        have hm : cu4 7 = .inl (B.2.1 0, 2, .inl (nF (va_up km w ((km w) + 1)))) := by rw [ecu4, va_up_self, nF_up]
        refine g_aload_n fx 0 dX12_sample_70 rfl ?_
        refine g_get (r := 0) fx lkX12_28 (by omega) h0 rfl dX12_sample_71 ?_
        refine g_iload_n fx 1 dX12_sample_74 rfl ?_
        refine g_iald (r := 7) (j := w) fx (by omega) hm (nI_toInt (by omega)) (by omega) dX12_sample_75 ?_
        refine g_isi (y := nI (km w + 1)) (congrArg nI (va_up_self _ _ _)) ?_
        refine g_iret fx rt dX12_sample_76 ?_
        exact gPi.mk (Or.inr (Or.inr ⟨hP2, w, exw, by omega, Or.inr ⟨hfull, rfl, hs, hm, hfr⟩⟩))
      · skip
        have hfull : km w = 15 := (nI_eq (by omega) (by omega)).mp c37
        refine g_bipush (v := (-4)) fx dX12_sample_40 (by decide +kernel) ?_
        refine g_iret fx rt dX12_sample_42 ?_
        exact gPi.mk (Or.inr (Or.inr ⟨hP2, w, exw, by omega, Or.inl ⟨hfull, rfl, rfl⟩⟩))
    · skip
      have hA : ¬ ((-1000 : Int) ≤ v.toInt ∧ v.toInt ≤ 1000) := if01_z.mp (hq2 ▸ c23)
      refine g_bipush (v := (-2)) fx dX12_sample_26 (by decide +kernel) ?_
      refine g_iret fx rt dX12_sample_28 ?_
      exact gPi.mk (Or.inr (Or.inl ⟨hP1, hA, rfl, rfl⟩))
  · skip
    have hA : ¬ ((0 : Int) ≤ x.toInt ∧ x.toInt ≤ 1) := if01_z.mp (hq1 ▸ c7)
    refine g_iconst (v := (-1)) fx dX12_sample_10 (by decide +kernel) ?_
    refine g_iret fx rt dX12_sample_11 ?_
    exact gPi.mk (Or.inl ⟨hA, rfl, rfl⟩)
set_option maxHeartbeats 4000000 in
set_option maxRecDepth 100000 in
theorem c_X12_pair (B : gB) (ad : Nat → Nat) (ct : Nat → va_E) (n : Nat) (f : Nat → Int32) (fd : Nat → Int32) (hn : 33 ≤ n) (h0 : ct 0 = mObj ad f) (hd : ct 8 = .inl (B.2.1 0, 30, .inl fd)) (kp : Nat) (hkp : f 11 = nI kp) (hkp30 : kp ≤ 30) (x y : Int32) : Ctr B yX12_pair cX12_pair 3 (some .int) 1 25 0 0 ad ct n [.ref (ad 0), .int x, .int y] (gPi ad n (fun q ct' => (¬ (((-1000 : Int) ≤ x.toInt ∧ x.toInt ≤ 1000) ∧ ((-1000 : Int) ≤ y.toInt ∧ y.toInt ≤ 1000)) ∧ q = -2 ∧ ct' = ct) ∨ ((((-1000 : Int) ≤ x.toInt ∧ x.toInt ≤ 1000) ∧ ((-1000 : Int) ≤ y.toInt ∧ y.toInt ≤ 1000)) ∧ ((kp = 30 ∧ q = -4 ∧ ct' = ct) ∨ (kp < 30 ∧ q = nI (kp + 1) ∧ ct' 0 = mObj ad (va_up f 11 (nI (kp + 1))) ∧ ct' 8 = .inl (B.2.1 0, 30, .inl (va_up fd kp (x - y))) ∧ ∀ r, r ≠ 0 → r ≠ 8 → ct' r = ct r))))) := by
  have hfr : ∀ r, r ≠ 0 → r ≠ 8 → ct r = ct r := fun _ _ _ => rfl
  refine Ctr.ofG (L := [(0, .ref (ad 0)), (1, .int x), (2, .int y)]) (by decide +kernel) rfl (Nat.le_of_ble_eq_true rfl) (fun E fx rt hnm => ?_)
  refine g_iload_n fx 1 dX12_pair_0 rfl ?_
  refine g_i2l fx dX12_pair_1 ?_
  refine g_ldc2 fx kcX12_177 dX12_pair_2 ?_
  refine g_ldc2 fx kcX12_179 dX12_pair_5 ?_
  refine g_callSip (As := [.long x.toInt64, .long (-1000), .long 1000]) (rest := []) fx slX12_159 (c_in B ad ct n x (-1000) (1000) (-1000) 1000 (by decide) (by decide)) rfl rfl (Nat.le_of_ble_eq_true rfl) ⟨by decide, by decide⟩ ⟨by decide, by decide⟩ dX12_pair_8 (fun q1 hq1 => ?_)
  refine g_if_eq fx 28 dX12_pair_11 (by decide) (fun c11 => ?_) (fun c11 => ?_)
  · skip
    have hA : ¬ (((-1000 : Int) ≤ x.toInt ∧ x.toInt ≤ 1000) ∧ ((-1000 : Int) ≤ y.toInt ∧ y.toInt ≤ 1000)) := fun w => if01_z.mp (hq1 ▸ c11) w.1
    refine g_bipush (v := (-2)) fx dX12_pair_28 (by decide +kernel) ?_
    refine g_iret fx rt dX12_pair_30 ?_
    exact gPi.mk (Or.inl ⟨hA, rfl, rfl⟩)
  · skip
    have hx := if01_n.mp (hq1 ▸ c11)
    refine g_iload_n fx 2 dX12_pair_14 rfl ?_
    refine g_i2l fx dX12_pair_15 ?_
    refine g_ldc2 fx kcX12_177 dX12_pair_16 ?_
    refine g_ldc2 fx kcX12_179 dX12_pair_19 ?_
    refine g_callSip (As := [.long y.toInt64, .long (-1000), .long 1000]) (rest := []) fx slX12_159 (c_in B ad ct n y (-1000) (1000) (-1000) 1000 (by decide) (by decide)) rfl rfl (Nat.le_of_ble_eq_true rfl) ⟨by decide, by decide⟩ ⟨by decide, by decide⟩ dX12_pair_22 (fun q2 hq2 => ?_)
    refine g_if_ne fx 31 dX12_pair_25 (by decide) (fun c25 => ?_) (fun c25 => ?_)
    · skip
      have hP : ((-1000 : Int) ≤ x.toInt ∧ x.toInt ≤ 1000) ∧ ((-1000 : Int) ≤ y.toInt ∧ y.toInt ≤ 1000) := ⟨hx, if01_n.mp (hq2 ▸ c25)⟩
      refine g_aload_n fx 0 dX12_pair_31 rfl ?_
      refine g_get (r := 0) fx lkX12_181 (by omega) h0 rfl dX12_pair_32 ?_
      refine g_isi (y := nI kp) hkp ?_
      refine g_bipush (v := nI 30) fx dX12_pair_35 (by decide +kernel) ?_
      refine g_icmp_ne fx 43 dX12_pair_37 (by decide) (fun c37 => ?_) (fun c37 => ?_)
      · skip
        have hfull : kp < 30 := Nat.lt_of_le_of_ne hkp30 (fun e => c37 (by rw [e]))
        refine g_aload_n fx 0 dX12_pair_43 rfl ?_
        refine g_get (r := 0) fx lkX12_31 (by omega) h0 rfl dX12_pair_44 ?_
        refine g_aload_n fx 0 dX12_pair_47 rfl ?_
        refine g_get (r := 0) fx lkX12_181 (by omega) h0 rfl dX12_pair_48 ?_
        refine g_isi (y := nI kp) hkp ?_
        refine g_iload_n fx 1 dX12_pair_51 rfl ?_
        refine g_iload_n fx 2 dX12_pair_52 rfl ?_
        refine g_isub fx dX12_pair_53 ?_
        refine g_iast (r := 8) (j := kp) fx (by omega) hd (nI_toInt (by omega)) (by omega) dX12_pair_54 (fun cu3 ecu3 => ?_)
        have hfr : ∀ r, r ≠ 0 → r ≠ 8 → cu3 r = ct r := fun r _ _ => (congrFun ecu3 r).trans ((va_up_ne _ _ (by assumption)).trans (hfr r (by assumption) (by assumption)))
        have h0 : cu3 0 = mObj ad f := (congrFun ecu3 _).trans ((va_up_ne _ _ (by omega)).trans h0)
        have hd : cu3 8 = .inl (B.2.1 0, 30, .inl (va_up fd kp (x - y))) := by rw [ecu3, va_up_self]
        refine g_aload_n fx 0 dX12_pair_55 rfl ?_
        refine g_dup fx dX12_pair_56 rfl ?_
        refine g_get (r := 0) fx lkX12_181 (by omega) h0 rfl dX12_pair_57 ?_
        refine g_isi (y := nI kp) hkp ?_
        refine g_iconst (v := nI 1) fx dX12_pair_60 (by decide +kernel) ?_
        refine g_iaddN fx dX12_pair_61 ?_
        refine g_put (r := 0) (fs' := mFs ad (va_up f 11 (nI (kp + 1)))) fx lpX12_181 (by omega) h0 rfl rfl (Nat.le_of_ble_eq_true rfl) rfl dX12_pair_62 (fun cu4 ecu4 => ?_)
        have hfr : ∀ r, r ≠ 0 → r ≠ 8 → cu4 r = ct r := fun r _ _ => (congrFun ecu4 r).trans ((va_up_ne _ _ (by assumption)).trans (hfr r (by assumption) (by assumption)))
        have h0 : cu4 0 = mObj ad (va_up f 11 (nI (kp + 1))) := by rw [ecu4, va_up_self]
        have hd : cu4 8 = .inl (B.2.1 0, 30, .inl (va_up fd kp (x - y))) := (congrFun ecu4 _).trans ((va_up_ne _ _ (by omega)).trans hd)
        refine g_aload_n fx 0 dX12_pair_65 rfl ?_
        refine g_get (r := 0) fx lkX12_181 (by omega) h0 rfl dX12_pair_66 ?_
        refine g_isi (y := nI (kp + 1)) (va_up_self _ _ _) ?_
        refine g_iret fx rt dX12_pair_69 ?_
        exact gPi.mk (Or.inr ⟨hP, Or.inr ⟨hfull, rfl, h0, hd, hfr⟩⟩)
      · skip
        have hfull : kp = 30 := (nI_eq (by omega) (by omega)).mp c37
        refine g_bipush (v := (-4)) fx dX12_pair_40 (by decide +kernel) ?_
        refine g_iret fx rt dX12_pair_42 ?_
        exact gPi.mk (Or.inr ⟨hP, Or.inl ⟨hfull, rfl, rfl⟩⟩)
    · skip
      have hA : ¬ (((-1000 : Int) ≤ x.toInt ∧ x.toInt ≤ 1000) ∧ ((-1000 : Int) ≤ y.toInt ∧ y.toInt ≤ 1000)) := fun w => if01_z.mp (hq2 ▸ c25) w.2
      refine g_bipush (v := (-2)) fx dX12_pair_28 (by decide +kernel) ?_
      refine g_iret fx rt dX12_pair_30 ?_
      exact gPi.mk (Or.inl ⟨hA, rfl, rfl⟩)
set_option maxHeartbeats 4000000 in
set_option maxRecDepth 100000 in
theorem c_X12_claim (B : gB) (ad : Nat → Nat) (ct : Nat → va_E) (n : Nat) (f : Nat → Int32) (fd : Nat → Int32) (hn : 33 ≤ n) (h0 : ct 0 = mObj ad f) (hd : ct 31 = .inl (B.2.1 0, 40, .inl fd)) (kc : Nat) (hkc : f 45 = nI kc) (hkc40 : kc ≤ 40) (x : Int32) : Ctr B yX12_claim cX12_claim 2 (some .int) 1 25 0 0 ad ct n [.ref (ad 0), .int x] (gPi ad n (fun q ct' => (¬ ((0 : Int) ≤ x.toInt ∧ x.toInt ≤ 65535) ∧ q = -2 ∧ ct' = ct) ∨ (((0 : Int) ≤ x.toInt ∧ x.toInt ≤ 65535) ∧ ((kc = 40 ∧ q = -4 ∧ ct' = ct) ∨ (kc < 40 ∧ q = nI (kc + 1) ∧ ct' 0 = mObj ad (va_up f 45 (nI (kc + 1))) ∧ ct' 31 = .inl (B.2.1 0, 40, .inl (va_up fd kc x)) ∧ ∀ r, r ≠ 0 → r ≠ 31 → ct' r = ct r))))) := by
  have hfr : ∀ r, r ≠ 0 → r ≠ 31 → ct r = ct r := fun _ _ _ => rfl
  refine Ctr.ofG (L := [(0, .ref (ad 0)), (1, .int x)]) (by decide +kernel) rfl (Nat.le_of_ble_eq_true rfl) (fun E fx rt hnm => ?_)
  refine g_iload_n fx 1 dX12_claim_0 rfl ?_
  refine g_i2l fx dX12_claim_1 ?_
  refine g_lconst (v := lN 0) fx dX12_claim_2 (by decide +kernel) ?_
  refine g_ldc2 fx kcX12_318 dX12_claim_3 ?_
  refine g_callSip (As := [.long x.toInt64, .long (lN 0), .long 65535]) (rest := []) fx slX12_159 (c_in B ad ct n x (lN 0) (65535) 0 65535 (by decide) (by decide)) rfl rfl (Nat.le_of_ble_eq_true rfl) ⟨by decide, by decide⟩ ⟨by decide, by decide⟩ dX12_claim_6 (fun q1 hq1 => ?_)
  refine g_if_ne fx 15 dX12_claim_9 (by decide) (fun c9 => ?_) (fun c9 => ?_)
  · skip
    have hP : (0 : Int) ≤ x.toInt ∧ x.toInt ≤ 65535 := if01_n.mp (hq1 ▸ c9)
    refine g_aload_n fx 0 dX12_claim_15 rfl ?_
    refine g_get (r := 0) fx lkX12_187 (by omega) h0 rfl dX12_claim_16 ?_
    refine g_isi (y := nI kc) hkc ?_
    refine g_bipush (v := nI 40) fx dX12_claim_19 (by decide +kernel) ?_
    refine g_icmp_ne fx 27 dX12_claim_21 (by decide) (fun c21 => ?_) (fun c21 => ?_)
    · skip
      have hfull : kc < 40 := Nat.lt_of_le_of_ne hkc40 (fun e => c21 (by rw [e]))
      refine g_aload_n fx 0 dX12_claim_27 rfl ?_
      refine g_get (r := 0) fx lkX12_109 (by omega) h0 rfl dX12_claim_28 ?_
      refine g_aload_n fx 0 dX12_claim_31 rfl ?_
      refine g_get (r := 0) fx lkX12_187 (by omega) h0 rfl dX12_claim_32 ?_
      refine g_isi (y := nI kc) hkc ?_
      refine g_iload_n fx 1 dX12_claim_35 rfl ?_
      refine g_iast (r := 31) (j := kc) fx (by omega) hd (nI_toInt (by omega)) (by omega) dX12_claim_36 (fun cu2 ecu2 => ?_)
      have hfr : ∀ r, r ≠ 0 → r ≠ 31 → cu2 r = ct r := fun r _ _ => (congrFun ecu2 r).trans ((va_up_ne _ _ (by assumption)).trans (hfr r (by assumption) (by assumption)))
      have h0 : cu2 0 = mObj ad f := (congrFun ecu2 _).trans ((va_up_ne _ _ (by omega)).trans h0)
      have hd : cu2 31 = .inl (B.2.1 0, 40, .inl (va_up fd kc x)) := by rw [ecu2, va_up_self]
      refine g_aload_n fx 0 dX12_claim_37 rfl ?_
      refine g_dup fx dX12_claim_38 rfl ?_
      refine g_get (r := 0) fx lkX12_187 (by omega) h0 rfl dX12_claim_39 ?_
      refine g_isi (y := nI kc) hkc ?_
      refine g_iconst (v := nI 1) fx dX12_claim_42 (by decide +kernel) ?_
      refine g_iaddN fx dX12_claim_43 ?_
      refine g_put (r := 0) (fs' := mFs ad (va_up f 45 (nI (kc + 1)))) fx lpX12_187 (by omega) h0 rfl rfl (Nat.le_of_ble_eq_true rfl) rfl dX12_claim_44 (fun cu3 ecu3 => ?_)
      have hfr : ∀ r, r ≠ 0 → r ≠ 31 → cu3 r = ct r := fun r _ _ => (congrFun ecu3 r).trans ((va_up_ne _ _ (by assumption)).trans (hfr r (by assumption) (by assumption)))
      have h0 : cu3 0 = mObj ad (va_up f 45 (nI (kc + 1))) := by rw [ecu3, va_up_self]
      have hd : cu3 31 = .inl (B.2.1 0, 40, .inl (va_up fd kc x)) := (congrFun ecu3 _).trans ((va_up_ne _ _ (by omega)).trans hd)
      refine g_aload_n fx 0 dX12_claim_47 rfl ?_
      refine g_get (r := 0) fx lkX12_187 (by omega) h0 rfl dX12_claim_48 ?_
      refine g_isi (y := nI (kc + 1)) (va_up_self _ _ _) ?_
      refine g_iret fx rt dX12_claim_51 ?_
      exact gPi.mk (Or.inr ⟨hP, Or.inr ⟨hfull, rfl, h0, hd, hfr⟩⟩)
    · skip
      have hfull : kc = 40 := (nI_eq (by omega) (by omega)).mp c21
      refine g_bipush (v := (-4)) fx dX12_claim_24 (by decide +kernel) ?_
      refine g_iret fx rt dX12_claim_26 ?_
      exact gPi.mk (Or.inr ⟨hP, Or.inl ⟨hfull, rfl, rfl⟩⟩)
  · skip
    have hA : ¬ ((0 : Int) ≤ x.toInt ∧ x.toInt ≤ 65535) := if01_z.mp (hq1 ▸ c9)
    refine g_bipush (v := (-2)) fx dX12_claim_12 (by decide +kernel) ?_
    refine g_iret fx rt dX12_claim_14 ?_
    exact gPi.mk (Or.inl ⟨hA, rfl, rfl⟩)
set_option maxHeartbeats 4000000 in
set_option maxRecDepth 100000 in
theorem c_X12_clear (B : gB) (ad : Nat → Nat) (ct : Nat → va_E) (n : Nat) (f : Nat → Int32) (km : Nat → Nat) (hn : 33 ≤ n) (h0 : ct 0 = mObj ad f) (hm : ct 7 = .inl (B.2.1 0, 2, .inl (nF km))) (x : Int32) : Ctr B yX12_clear cX12_clear 3 (some .int) 0 0 0 0 ad ct n [.ref (ad 0), .int x] (gPi ad n (fun q ct' => (x.toInt = 0 ∧ q = nI (km 0 + km 1) ∧ ct' 0 = mObj ad f ∧ ct' 7 = .inl (B.2.1 0, 2, .inl (nF (va_up (va_up km 0 0) 1 0))) ∧ ∀ r, r ≠ 0 → r ≠ 7 → ct' r = ct r) ∨ (x.toInt = 1 ∧ q = f 11 ∧ ct' 0 = mObj ad (va_up f 11 (nI 0)) ∧ ct' 7 = .inl (B.2.1 0, 2, .inl (nF km)) ∧ ∀ r, r ≠ 0 → r ≠ 7 → ct' r = ct r) ∨ (x.toInt = 2 ∧ q = f 40 ∧ ct' 0 = mObj ad (va_up f 40 (nI 0)) ∧ ct' 7 = .inl (B.2.1 0, 2, .inl (nF km)) ∧ ∀ r, r ≠ 0 → r ≠ 7 → ct' r = ct r) ∨ (x.toInt = 3 ∧ q = f 45 ∧ ct' 0 = mObj ad (va_up f 45 (nI 0)) ∧ ct' 7 = .inl (B.2.1 0, 2, .inl (nF km)) ∧ ∀ r, r ≠ 0 → r ≠ 7 → ct' r = ct r) ∨ ((x.toInt < 0 ∨ 3 < x.toInt) ∧ q = -1 ∧ ct' = ct))) := by
  have hfr : ∀ r, r ≠ 0 → r ≠ 7 → ct r = ct r := fun _ _ _ => rfl
  refine Ctr.ofG (L := [(0, .ref (ad 0)), (1, .int x)]) (by decide +kernel) rfl (Nat.le_of_ble_eq_true rfl) (fun E fx rt hnm => ?_)
  refine g_iload_n fx 1 dX12_clear_0 rfl ?_
  by_cases hsw1 : x.toInt < 0 ∨ 3 < x.toInt
  · refine g_tableOut fx 98 dX12_clear_1 hsw1 (by decide) ?_
    refine g_iconst (v := (-1)) fx dX12_clear_98 (by decide +kernel) ?_
    refine g_iret fx rt dX12_clear_99 ?_
    exact gPi.mk (Or.inr (Or.inr (Or.inr (Or.inr ⟨hsw1, rfl, rfl⟩))))
  · have hsv : x.toInt = 0 ∨ x.toInt = 1 ∨ x.toInt = 2 ∨ x.toInt = 3 := by omega
    rcases hsv with hsv | hsv | hsv | hsv
    · refine g_tableIn fx 32 dX12_clear_1 (by rw [hsv]; decide) (by rw [hsv]; decide) (off := 31) (by rw [hsv]; rfl) (by decide) ?_
      refine g_aload_n fx 0 dX12_clear_32 rfl ?_
      refine g_get (r := 0) fx lkX12_28 (by omega) h0 rfl dX12_clear_33 ?_
      refine g_iconst (v := nI 0) fx dX12_clear_36 (by decide +kernel) ?_
      refine g_iald (r := 7) (j := 0) fx (by omega) hm (nI_toInt (by omega)) (by omega) dX12_clear_37 ?_
      refine g_isi (y := nI (km 0)) rfl ?_
      refine g_aload_n fx 0 dX12_clear_38 rfl ?_
      refine g_get (r := 0) fx lkX12_28 (by omega) h0 rfl dX12_clear_39 ?_
      refine g_iconst (v := nI 1) fx dX12_clear_42 (by decide +kernel) ?_
      refine g_iald (r := 7) (j := 1) fx (by omega) hm (nI_toInt (by omega)) (by omega) dX12_clear_43 ?_
      refine g_isi (y := nI (km 1)) rfl ?_
      refine g_iaddN fx dX12_clear_44 ?_
      refine g_istore_n (L' := [(2, .int (nI ((km 0) + (km 1)))), (0, .ref (ad 0)), (1, .int x)]) fx dX12_clear_45 (by decide) rfl ?_
      refine g_aload_n fx 1 dX12_clear_46 rfl ?_
      refine g_get (r := 0) fx lkX12_28 (by omega) h0 rfl dX12_clear_47 ?_
      refine g_iconst (v := nI 0) fx dX12_clear_50 (by decide +kernel) ?_
      refine g_iconst (v := nI 0) fx dX12_clear_51 (by decide +kernel) ?_
      refine g_iast (r := 7) (j := 0) fx (by omega) hm (nI_toInt (by omega)) (by omega) dX12_clear_52 (fun cu1 ecu1 => ?_)
      have hfr : ∀ r, r ≠ 0 → r ≠ 7 → cu1 r = ct r := fun r _ _ => (congrFun ecu1 r).trans ((va_up_ne _ _ (by assumption)).trans (hfr r (by assumption) (by assumption)))
      have h0 : cu1 0 = mObj ad f := (congrFun ecu1 _).trans ((va_up_ne _ _ (by omega)).trans h0)
      have hm : cu1 7 = .inl (B.2.1 0, 2, .inl (nF (va_up km 0 0))) := by rw [ecu1, va_up_self, nF_up]
      refine g_aload_n fx 1 dX12_clear_53 rfl ?_
      refine g_get (r := 0) fx lkX12_28 (by omega) h0 rfl dX12_clear_54 ?_
      refine g_iconst (v := nI 1) fx dX12_clear_57 (by decide +kernel) ?_
      refine g_iconst (v := nI 0) fx dX12_clear_58 (by decide +kernel) ?_
      refine g_iast (r := 7) (j := 1) fx (by omega) hm (nI_toInt (by omega)) (by omega) dX12_clear_59 (fun cu2 ecu2 => ?_)
      have hfr : ∀ r, r ≠ 0 → r ≠ 7 → cu2 r = ct r := fun r _ _ => (congrFun ecu2 r).trans ((va_up_ne _ _ (by assumption)).trans (hfr r (by assumption) (by assumption)))
      have h0 : cu2 0 = mObj ad f := (congrFun ecu2 _).trans ((va_up_ne _ _ (by omega)).trans h0)
      have hm : cu2 7 = .inl (B.2.1 0, 2, .inl (nF (va_up (va_up km 0 0) 1 0))) := by rw [ecu2, va_up_self, nF_up]
      refine g_iload_n fx 0 dX12_clear_60 rfl ?_
      refine g_iret fx rt dX12_clear_61 ?_
      exact gPi.mk (Or.inl ⟨hsv, rfl, h0, hm, hfr⟩)
    · refine g_tableIn fx 62 dX12_clear_1 (by rw [hsv]; decide) (by rw [hsv]; decide) (off := 61) (by rw [hsv]; rfl) (by decide) ?_
      refine g_aload_n fx 0 dX12_clear_62 rfl ?_
      refine g_get (r := 0) fx lkX12_181 (by omega) h0 rfl dX12_clear_63 ?_
      refine g_istore_n (L' := [(2, .int (f 11)), (0, .ref (ad 0)), (1, .int x)]) fx dX12_clear_66 (by decide) rfl ?_
      refine g_aload_n fx 1 dX12_clear_67 rfl ?_
      refine g_iconst (v := nI 0) fx dX12_clear_68 (by decide +kernel) ?_
      refine g_put (r := 0) (fs' := mFs ad (va_up f 11 (nI 0))) fx lpX12_181 (by omega) h0 rfl rfl (Nat.le_of_ble_eq_true rfl) rfl dX12_clear_69 (fun cu3 ecu3 => ?_)
      have hfr : ∀ r, r ≠ 0 → r ≠ 7 → cu3 r = ct r := fun r _ _ => (congrFun ecu3 r).trans ((va_up_ne _ _ (by assumption)).trans (hfr r (by assumption) (by assumption)))
      have h0 : cu3 0 = mObj ad (va_up f 11 (nI 0)) := by rw [ecu3, va_up_self]
      have hm : cu3 7 = .inl (B.2.1 0, 2, .inl (nF km)) := (congrFun ecu3 _).trans ((va_up_ne _ _ (by omega)).trans hm)
      refine g_iload_n fx 0 dX12_clear_72 rfl ?_
      refine g_iret fx rt dX12_clear_73 ?_
      exact gPi.mk (Or.inr (Or.inl ⟨hsv, rfl, h0, hm, hfr⟩))
    · refine g_tableIn fx 74 dX12_clear_1 (by rw [hsv]; decide) (by rw [hsv]; decide) (off := 73) (by rw [hsv]; rfl) (by decide) ?_
      refine g_aload_n fx 0 dX12_clear_74 rfl ?_
      refine g_get (r := 0) fx lkX12_184 (by omega) h0 rfl dX12_clear_75 ?_
      refine g_istore_n (L' := [(2, .int (f 40)), (0, .ref (ad 0)), (1, .int x)]) fx dX12_clear_78 (by decide) rfl ?_
      refine g_aload_n fx 1 dX12_clear_79 rfl ?_
      refine g_iconst (v := nI 0) fx dX12_clear_80 (by decide +kernel) ?_
      refine g_put (r := 0) (fs' := mFs ad (va_up f 40 (nI 0))) fx lpX12_184 (by omega) h0 rfl rfl (Nat.le_of_ble_eq_true rfl) rfl dX12_clear_81 (fun cu4 ecu4 => ?_)
      have hfr : ∀ r, r ≠ 0 → r ≠ 7 → cu4 r = ct r := fun r _ _ => (congrFun ecu4 r).trans ((va_up_ne _ _ (by assumption)).trans (hfr r (by assumption) (by assumption)))
      have h0 : cu4 0 = mObj ad (va_up f 40 (nI 0)) := by rw [ecu4, va_up_self]
      have hm : cu4 7 = .inl (B.2.1 0, 2, .inl (nF km)) := (congrFun ecu4 _).trans ((va_up_ne _ _ (by omega)).trans hm)
      refine g_iload_n fx 0 dX12_clear_84 rfl ?_
      refine g_iret fx rt dX12_clear_85 ?_
      exact gPi.mk (Or.inr (Or.inr (Or.inl ⟨hsv, rfl, h0, hm, hfr⟩)))
    · refine g_tableIn fx 86 dX12_clear_1 (by rw [hsv]; decide) (by rw [hsv]; decide) (off := 85) (by rw [hsv]; rfl) (by decide) ?_
      refine g_aload_n fx 0 dX12_clear_86 rfl ?_
      refine g_get (r := 0) fx lkX12_187 (by omega) h0 rfl dX12_clear_87 ?_
      refine g_istore_n (L' := [(2, .int (f 45)), (0, .ref (ad 0)), (1, .int x)]) fx dX12_clear_90 (by decide) rfl ?_
      refine g_aload_n fx 1 dX12_clear_91 rfl ?_
      refine g_iconst (v := nI 0) fx dX12_clear_92 (by decide +kernel) ?_
      refine g_put (r := 0) (fs' := mFs ad (va_up f 45 (nI 0))) fx lpX12_187 (by omega) h0 rfl rfl (Nat.le_of_ble_eq_true rfl) rfl dX12_clear_93 (fun cu5 ecu5 => ?_)
      have hfr : ∀ r, r ≠ 0 → r ≠ 7 → cu5 r = ct r := fun r _ _ => (congrFun ecu5 r).trans ((va_up_ne _ _ (by assumption)).trans (hfr r (by assumption) (by assumption)))
      have h0 : cu5 0 = mObj ad (va_up f 45 (nI 0)) := by rw [ecu5, va_up_self]
      have hm : cu5 7 = .inl (B.2.1 0, 2, .inl (nF km)) := (congrFun ecu5 _).trans ((va_up_ne _ _ (by omega)).trans hm)
      refine g_iload_n fx 0 dX12_clear_96 rfl ?_
      refine g_iret fx rt dX12_clear_97 ?_
      exact gPi.mk (Or.inr (Or.inr (Or.inr (Or.inl ⟨hsv, rfl, h0, hm, hfr⟩))))
