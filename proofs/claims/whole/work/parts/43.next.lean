theorem fac_mul : ∀ a b, fac a * fac b ≤ fac (a + b)
  | a, 0 => by rw [show fac 0 = 1 from rfl, Nat.mul_one]; exact Nat.le_refl _
  | a, b + 1 => by
    show fac a * (fac b * (b + 1)) ≤ fac (a + b) * (a + b + 1)
    rw [← Nat.mul_assoc]
    exact Nat.mul_le_mul (fac_mul a b) (by omega)
theorem fac_mono {a b : Nat} (h : a ≤ b) : fac a ≤ fac b := by
  obtain ⟨d, rfl⟩ := Nat.exists_eq_add_of_le h
  exact Nat.le_trans (Nat.le_mul_of_pos_right _ (fac_pos d)) (fac_mul a d)
theorem facP_le {c : Nat → Nat} : ∀ n, facP c n ≤ fac (sumF c n)
  | 0 => Nat.le_refl _
  | n + 1 => Nat.le_trans (Nat.mul_le_mul_right _ (facP_le n)) (fac_mul _ _)
theorem facP_congr {c e : Nat → Nat} : ∀ n, (∀ i, i < n → c i = e i) → facP c n = facP e n
  | 0, _ => rfl
  | n + 1, h => by show facP c n * fac (c n) = facP e n * fac (e n); rw [facP_congr n (fun i hi => h i (by omega)), h n (by omega)]
theorem fac60 : fac 60 < 2 ^ 273 := by decide +kernel
set_option maxHeartbeats 4000000 in
set_option maxRecDepth 100000 in
theorem c_X12_firstTable (B : gB) (ad : Nat → Nat) (ct : Nat → va_E) (n : Nat) (f : Nat → Int32) (gc v h rm cm : Nat → Nat) (hn : 33 ≤ n) (h0 : ct 0 = mObj ad f) (hc : ct 5 = .inl (B.2.1 0, 25, .inl (nF gc))) (hv : ct 12 = .inl (B.2.1 0, 25, .inl (nF v))) (hh : ct 13 = .inl (B.2.1 0, 25, .inl (nF h))) (hrm : ct 14 = .inl (B.2.1 0, 5, .inl (nF rm))) (hcm : ct 15 = .inl (B.2.1 0, 5, .inl (nF cm))) (R C : Nat) (hR : f 4 = nI R) (hC : f 5 = nI C) (hR5 : R ≤ 5) (hC5 : C ≤ 5) (hCp : 0 < C) (hgb : ∀ j, j < 25 → gc j ≤ 60) (hr60 : ∀ r, r < R → (fun r => sumF (fun k => gc (C * r + k)) C) r ≤ 60) (hc60 : ∀ c, c < C → (fun c => sumF (fun k => gc (C * k + c)) R) c ≤ 60) : Ctr B yX12_firstTable cX12_firstTable 2 none 3 72 0 0 ad ct n [.ref (ad 0)] (gPv ad n (fun ct' => ∃ v' h' rm' cm', ct' 12 = .inl (B.2.1 0, 25, .inl (nF v')) ∧ ct' 13 = .inl (B.2.1 0, 25, .inl (nF h')) ∧ ct' 14 = .inl (B.2.1 0, 5, .inl (nF rm')) ∧ ct' 15 = .inl (B.2.1 0, 5, .inl (nF cm')) ∧ (∀ r, r < R → rm' r = (fun r => sumF (fun k => gc (C * r + k)) C) r) ∧ (∀ c, c < C → cm' c = (fun c => sumF (fun k => gc (C * k + c)) R) c) ∧ (∀ j, j < C * R → v' j = tLo C rm' cm' v' j ∧ h' j = tHi C rm' cm' v' j) ∧ Val C rm' cm' (C * R) v' ∧ ∀ r, r ≠ 12 → r ≠ 13 → r ≠ 14 → r ≠ 15 → ct' r = ct r)) := by
  have hfr : ∀ r, r ≠ 12 → r ≠ 13 → r ≠ 14 → r ≠ 15 → ct r = ct r := fun _ _ _ _ _ => rfl
  refine Ctr.ofG (L := [(0, .ref (ad 0))]) (by decide +kernel) rfl (Nat.le_of_ble_eq_true rfl) (fun E fx rt hnm => ?_)
  refine g_iconst (v := nI 0) fx dX12_firstTable_0 (by decide +kernel) ?_
  refine g_istore_n (L' := [(1, .int (nI 0)), (0, .ref (ad 0))]) fx dX12_firstTable_1 (by decide) rfl ?_
  have LP2 : ∀ (M : Nat) (i : Nat) (ct1 : Nat → va_E) (rm1 : Nat → Nat), (i ≤ R) → (∀ r, r < i → rm1 r = (fun r => sumF (fun k => gc (C * r + k)) C) r) → (ct1 0 = mObj ad f) → (ct1 5 = .inl (B.2.1 0, 25, .inl (nF gc))) → (ct1 12 = .inl (B.2.1 0, 25, .inl (nF v))) → (ct1 13 = .inl (B.2.1 0, 25, .inl (nF h))) → (ct1 14 = .inl (B.2.1 0, 5, .inl (nF rm1))) → (ct1 15 = .inl (B.2.1 0, 5, .inl (nF cm))) → (∀ r, r ≠ 12 → r ≠ 13 → r ≠ 14 → r ≠ 15 → ct1 r = ct r) →  (R - i) < M → G B 2 E ad ct1 n 0 0 [(0, .ref (ad 0)), (1, .int (nI i))] 2 [] := by
    intro M
    induction M with
    | zero => intro i ct1 rm1 _ _ _ _ _ _ _ _ _ hM; exact absurd hM (Nat.not_lt_zero _)
    | succ M ih =>
      intro i ct1 rm1 hi he h0 hc hv hh hrm hcm hfr hM
      have ih2 := ih
      refine g_iload_n fx 1 dX12_firstTable_2 rfl ?_
      refine g_aload_n fx 0 dX12_firstTable_3 rfl ?_
      refine g_get (r := 0) fx lkX12_115 (by omega) h0 rfl dX12_firstTable_4 ?_
      refine g_isi (y := nI R) hR ?_
      refine g_icmp_ge fx 27 dX12_firstTable_7 (by decide) (fun c7 => ?_) (fun c7 => ?_)
      · skip
        have hiR : i = R := by have := (nI_leI (by omega) (by omega)).mp c7; omega
        rw [hiR] at he
        refine g_iconst (v := nI 0) fx dX12_firstTable_27 (by decide +kernel) ?_
        refine g_istore_n (L' := [(1, .int (nI 0)), (0, .ref (ad 0))]) fx dX12_firstTable_28 (by decide) rfl ?_
        have LP29 : ∀ (M : Nat) (i2 : Nat) (ct2 : Nat → va_E) (cm1 : Nat → Nat), (i2 ≤ C) → (∀ c, c < i2 → cm1 c = (fun c => sumF (fun k => gc (C * k + c)) R) c) → (ct2 0 = mObj ad f) → (ct2 5 = .inl (B.2.1 0, 25, .inl (nF gc))) → (ct2 12 = .inl (B.2.1 0, 25, .inl (nF v))) → (ct2 13 = .inl (B.2.1 0, 25, .inl (nF h))) → (ct2 14 = .inl (B.2.1 0, 5, .inl (nF rm1))) → (ct2 15 = .inl (B.2.1 0, 5, .inl (nF cm1))) → (∀ r, r ≠ 12 → r ≠ 13 → r ≠ 14 → r ≠ 15 → ct2 r = ct r) →  (C - i2) < M → G B 2 E ad ct2 n 0 0 [(0, .ref (ad 0)), (1, .int (nI i2))] 29 [] := by
          intro M
          induction M with
          | zero => intro i2 ct2 cm1 _ _ _ _ _ _ _ _ _ hM; exact absurd hM (Nat.not_lt_zero _)
          | succ M ih =>
            intro i2 ct2 cm1 hi2 he2 h0 hc hv hh hrm hcm hfr hM
            have ih29 := ih
            refine g_iload_n fx 1 dX12_firstTable_29 rfl ?_
            refine g_aload_n fx 0 dX12_firstTable_30 rfl ?_
            refine g_get (r := 0) fx lkX12_118 (by omega) h0 rfl dX12_firstTable_31 ?_
            refine g_isi (y := nI C) hC ?_
            refine g_icmp_ge fx 54 dX12_firstTable_34 (by decide) (fun c34 => ?_) (fun c34 => ?_)
            · skip
              have hiC : i2 = C := by have := (nI_leI (by omega) (by omega)).mp c34; omega
              rw [hiC] at he2
              have hsum : sumF rm1 R = sumF cm1 C := by rw [sumF_congr R he, sumF_congr C he2]; exact sum_swap R
              refine g_aload_n fx 0 dX12_firstTable_54 rfl ?_
              refine g_iconst (v := nI 0) fx dX12_firstTable_55 (by decide +kernel) ?_
              refine g_callVv (As := [.int (nI 0)]) (rest := []) fx slX12_197 (c_X12_openFrom B ad ct2 n f v h rm1 cm1 hn h0 hv hh hrm hcm R C hR hC hR5 hC5 hCp 0 (Nat.zero_le _) (fun r hr => by rw [he r hr]; exact hr60 r hr) (fun c hc => by rw [he2 c hc]; exact hc60 c hc) hsum (fun j hj => absurd hj (by omega))) (by omega) h0 rfl rfl rfl (Nat.le_of_ble_eq_true rfl) ⟨by decide, by decide⟩ ⟨by decide, by decide⟩ dX12_firstTable_56 (fun ct3 hz3 => ?_)
              obtain ⟨v3, h3, hv, hh, ⟨-, -, hop, hvl⟩, hs3⟩ := hz3
              have hrm : ct3 14 = .inl (B.2.1 0, 5, .inl (nF rm1)) := (hs3 14 (by decide) (by decide)).trans hrm
              have hcm : ct3 15 = .inl (B.2.1 0, 5, .inl (nF cm1)) := (hs3 15 (by decide) (by decide)).trans hcm
              have hfr : ∀ r, r ≠ 12 → r ≠ 13 → r ≠ 14 → r ≠ 15 → ct3 r = ct r := fun r q1 q2 q3 q4 => (hs3 r q1 q2).trans (hfr r q1 q2 q3 q4)
              refine g_vret fx rt dX12_firstTable_59 ?_
              exact gPv.mk ⟨v3, h3, rm1, cm1, hv, hh, hrm, hcm, he, he2, fun j hj => hop j (Nat.zero_le _) hj, hvl, hfr⟩
            · skip
              have hlt3 : i2 < C := by have := (nI_ltI (by omega) (by omega)).mp (Int32.not_le.mp c34); omega
              refine g_aload_n fx 0 dX12_firstTable_37 rfl ?_
              refine g_get (r := 0) fx lkX12_58 (by omega) h0 rfl dX12_firstTable_38 ?_
              refine g_iload_n fx 1 dX12_firstTable_41 rfl ?_
              refine g_aload_n fx 0 dX12_firstTable_42 rfl ?_
              refine g_iload_n fx 1 dX12_firstTable_43 rfl ?_
              refine g_callVip (As := [.int (nI i2)]) (rest := [.int (nI i2), .ref (ad 15)]) fx slX12_174 (c_X12_marginOfColumn B ad ct2 n f gc hn h0 hc R C hR hC hR5 hC5 hgb i2 hlt3) (by omega) h0 rfl rfl rfl (Nat.le_of_ble_eq_true rfl) ⟨by decide, by decide⟩ ⟨by decide, by decide⟩ dX12_firstTable_44 (fun q2 hq2 => ?_)
              obtain rfl := hq2
              refine g_iast (r := 15) (j := i2) fx (by omega) hcm (nI_toInt (by omega)) (by omega) dX12_firstTable_47 (fun cu2 ecu2 => ?_)
              have hfr : ∀ r, r ≠ 12 → r ≠ 13 → r ≠ 14 → r ≠ 15 → cu2 r = ct r := fun r _ _ _ _ => (congrFun ecu2 r).trans ((va_up_ne _ _ (by assumption)).trans (hfr r (by assumption) (by assumption) (by assumption) (by assumption)))
              have h0 : cu2 0 = mObj ad f := (congrFun ecu2 _).trans ((va_up_ne _ _ (by omega)).trans h0)
              have hv : cu2 12 = .inl (B.2.1 0, 25, .inl (nF v)) := (congrFun ecu2 _).trans ((va_up_ne _ _ (by omega)).trans hv)
              have hh : cu2 13 = .inl (B.2.1 0, 25, .inl (nF h)) := (congrFun ecu2 _).trans ((va_up_ne _ _ (by omega)).trans hh)
              have hrm : cu2 14 = .inl (B.2.1 0, 5, .inl (nF rm1)) := (congrFun ecu2 _).trans ((va_up_ne _ _ (by omega)).trans hrm)
              have hcm : cu2 15 = .inl (B.2.1 0, 5, .inl (nF (va_up cm1 i2 (sumF (fun k => gc (C * k + i2)) R)))) := by rw [ecu2, va_up_self, nF_up]
              have hc : cu2 5 = .inl (B.2.1 0, 25, .inl (nF gc)) := (congrFun ecu2 _).trans ((va_up_ne _ _ (by omega)).trans hc)
              refine g_iinc (L' := [(1, .int (nI (i2 + 1))), (0, .ref (ad 0))]) fx (nI (i2 + 1)) 1 dX12_firstTable_48 rfl (gInc _) (by decide) rfl ?_
              refine g_goto fx 29 dX12_firstTable_51 (by decide) ?_
              refine g_locals (L' := [(0, .ref (ad 0)), (1, .int (nI (i2 + 1)))]) [1, 0] rfl ?_
              exact ih (i2 + 1) _ _ hlt3 (fun r hr => by by_cases q : r = i2; (rw [q, va_up_self]); (rw [va_up_ne _ _ q]; exact he2 r (by omega))) h0 hc hv hh hrm hcm hfr (by omega)
        refine g_locals (L' := [(0, .ref (ad 0)), (1, .int (nI 0))]) [1, 0] rfl ?_
        exact LP29 (C + 1) 0 ct1 cm (by omega) (fun r hr => absurd hr (by omega)) h0 hc hv hh hrm hcm hfr (by omega)
      · skip
        have hlt2 : i < R := by have := (nI_ltI (by omega) (by omega)).mp (Int32.not_le.mp c7); omega
        refine g_aload_n fx 0 dX12_firstTable_10 rfl ?_
        refine g_get (r := 0) fx lkX12_55 (by omega) h0 rfl dX12_firstTable_11 ?_
        refine g_iload_n fx 1 dX12_firstTable_14 rfl ?_
        refine g_aload_n fx 0 dX12_firstTable_15 rfl ?_
        refine g_iload_n fx 1 dX12_firstTable_16 rfl ?_
        refine g_callVip (As := [.int (nI i)]) (rest := [.int (nI i), .ref (ad 14)]) fx slX12_170 (c_X12_marginOfRow B ad ct1 n f gc hn h0 hc R C hR hC hR5 hC5 hgb i hlt2) (by omega) h0 rfl rfl rfl (Nat.le_of_ble_eq_true rfl) ⟨by decide, by decide⟩ ⟨by decide, by decide⟩ dX12_firstTable_17 (fun q1 hq1 => ?_)
        obtain rfl := hq1
        refine g_iast (r := 14) (j := i) fx (by omega) hrm (nI_toInt (by omega)) (by omega) dX12_firstTable_20 (fun cu4 ecu4 => ?_)
        have hfr : ∀ r, r ≠ 12 → r ≠ 13 → r ≠ 14 → r ≠ 15 → cu4 r = ct r := fun r _ _ _ _ => (congrFun ecu4 r).trans ((va_up_ne _ _ (by assumption)).trans (hfr r (by assumption) (by assumption) (by assumption) (by assumption)))
        have h0 : cu4 0 = mObj ad f := (congrFun ecu4 _).trans ((va_up_ne _ _ (by omega)).trans h0)
        have hv : cu4 12 = .inl (B.2.1 0, 25, .inl (nF v)) := (congrFun ecu4 _).trans ((va_up_ne _ _ (by omega)).trans hv)
        have hh : cu4 13 = .inl (B.2.1 0, 25, .inl (nF h)) := (congrFun ecu4 _).trans ((va_up_ne _ _ (by omega)).trans hh)
        have hrm : cu4 14 = .inl (B.2.1 0, 5, .inl (nF (va_up rm1 i (sumF (fun k => gc (C * i + k)) C)))) := by rw [ecu4, va_up_self, nF_up]
        have hcm : cu4 15 = .inl (B.2.1 0, 5, .inl (nF cm)) := (congrFun ecu4 _).trans ((va_up_ne _ _ (by omega)).trans hcm)
        have hc : cu4 5 = .inl (B.2.1 0, 25, .inl (nF gc)) := (congrFun ecu4 _).trans ((va_up_ne _ _ (by omega)).trans hc)
        refine g_iinc (L' := [(1, .int (nI (i + 1))), (0, .ref (ad 0))]) fx (nI (i + 1)) 1 dX12_firstTable_21 rfl (gInc _) (by decide) rfl ?_
        refine g_goto fx 2 dX12_firstTable_24 (by decide) ?_
        refine g_locals (L' := [(0, .ref (ad 0)), (1, .int (nI (i + 1)))]) [1, 0] rfl ?_
        exact ih (i + 1) _ _ hlt2 (fun r hr => by by_cases q : r = i; (rw [q, va_up_self]); (rw [va_up_ne _ _ q]; exact he r (by omega))) h0 hc hv hh hrm hcm hfr (by omega)
  refine g_locals (L' := [(0, .ref (ad 0)), (1, .int (nI 0))]) [1, 0] rfl ?_
  exact LP2 (R + 1) 0 ct rm (by omega) (fun r hr => absurd hr (by omega)) h0 hc hv hh hrm hcm hfr (by omega)
set_option maxHeartbeats 4000000 in
set_option maxRecDepth 100000 in
theorem c_X12_nextTable (B : gB) (ad : Nat → Nat) (ct : Nat → va_E) (n : Nat) (f : Nat → Int32) (v h rm cm : Nat → Nat) (hn : 33 ≤ n) (h0 : ct 0 = mObj ad f) (hv : ct 12 = .inl (B.2.1 0, 25, .inl (nF v))) (hh : ct 13 = .inl (B.2.1 0, 25, .inl (nF h))) (hrm : ct 14 = .inl (B.2.1 0, 5, .inl (nF rm))) (hcm : ct 15 = .inl (B.2.1 0, 5, .inl (nF cm))) (R C : Nat) (hR : f 4 = nI R) (hC : f 5 = nI C) (hR5 : R ≤ 5) (hC5 : C ≤ 5) (hCp : 0 < C) (hr60 : ∀ r, r < R → rm r ≤ 60) (hc60 : ∀ c, c < C → cm c ≤ 60) (hsum : sumF rm R = sumF cm C) (hval : Val C rm cm (C * R) v) (hhi : ∀ j, j < C * R → h j = tHi C rm cm v j) : Ctr B yX12_nextTable cX12_nextTable 2 (some .boolean) 3 72 0 0 ad ct n [.ref (ad 0)] (gPi ad n (fun q ct' => (q = 0 ∧ ct' = ct ∧ ∀ j, j < C * R → v j = h j) ∨ (q = 1 ∧ ∃ a v' h', a < C * R ∧ (∀ j, a < j → j < C * R → v j = h j) ∧ (∀ j, j < a → v' j = v j) ∧ v' a = v a + 1 ∧ (∀ j, a < j → j < C * R → v' j = tLo C rm cm v' j) ∧ (∀ j, j < C * R → h' j = tHi C rm cm v' j) ∧ Val C rm cm (C * R) v' ∧ ct' 12 = .inl (B.2.1 0, 25, .inl (nF v')) ∧ ct' 13 = .inl (B.2.1 0, 25, .inl (nF h')) ∧ ∀ r, r ≠ 12 → r ≠ 13 → ct' r = ct r))) := by
  have hfr : ∀ r, r ≠ 12 → r ≠ 13 → ct r = ct r := fun _ _ _ => rfl
  have h25 : C * R ≤ 25 := Nat.mul_le_mul hC5 hR5
  have hmc : R * C = C * R := Nat.mul_comm _ _
  have hb60 : ∀ j, j < C * R → tHi C rm cm v j ≤ 60 := fun j hj => by have := hr60 (j / C) ((Nat.div_lt_iff_lt_mul hCp).mpr (by rw [Nat.mul_comm]; exact hj)); unfold tHi tRest; omega
  refine Ctr.ofG (L := [(0, .ref (ad 0))]) (by decide +kernel) rfl (Nat.le_of_ble_eq_true rfl) (fun E fx rt hnm => ?_)
  refine g_aload_n fx 0 dX12_nextTable_0 rfl ?_
  refine g_get (r := 0) fx lkX12_115 (by omega) h0 rfl dX12_nextTable_1 ?_
  refine g_isi (y := nI R) hR ?_
  refine g_aload_n fx 0 dX12_nextTable_4 rfl ?_
  refine g_get (r := 0) fx lkX12_118 (by omega) h0 rfl dX12_nextTable_5 ?_
  refine g_isi (y := nI C) hC ?_
  refine g_imulN fx dX12_nextTable_8 ?_
  refine g_iconst (v := nI 1) fx dX12_nextTable_9 (by decide +kernel) ?_
  refine g_isub fx dX12_nextTable_10 ?_
  refine g_istore_n (L' := [(1, .int ((nI (R * C)) - (nI 1))), (0, .ref (ad 0))]) fx dX12_nextTable_11 (by decide) rfl ?_
  have LP12 : ∀ (M : Nat) (k : Nat), (k ≤ R * C) → (∀ j, k ≤ j → j < C * R → v j = h j) →  k < M → G B 2 E ad ct n 0 0 [(0, .ref (ad 0)), (1, .int (nI k - nI 1))] 12 [] := by
    intro M
    induction M with
    | zero => intro k _ _ hM; exact absurd hM (Nat.not_lt_zero _)
    | succ M ih =>
      intro k hk hj hM
      have ih12 := ih
      refine g_iload_n fx 1 dX12_nextTable_12 rfl ?_
      refine g_if_lt fx 37 dX12_nextTable_13 (by decide) (fun c13 => ?_) (fun c13 => ?_)
      · skip
        have hk0 := (m1_neg (by omega)).mp c13
        have hcase : k = 0 ∨ (0 < k ∧ v (k - 1) ≠ h (k - 1)) := Or.inl hk0
        refine g_iload_n fx 1 dX12_nextTable_37 rfl ?_
        refine g_if_ge fx 43 dX12_nextTable_38 (by decide) (fun c38 => ?_) (fun c38 => ?_)
        · skip
          have hk1 : 0 < k := Nat.pos_of_ne_zero (fun q => Int32.not_lt.mpr c38 ((m1_neg (by omega)).mpr q))
          have hne : v (k - 1) ≠ h (k - 1) := by rcases hcase with q | q; (omega); (exact q.2)
          have hv60 := hb60 (k - 1) (by omega)
          have hvv := (hval (k - 1) (by omega))
          have hhh := hhi (k - 1) (by omega)
          refine g_aload_n fx 0 dX12_nextTable_43 rfl ?_
          refine g_get (r := 0) fx lkX12_49 (by omega) h0 rfl dX12_nextTable_44 ?_
          refine g_iload_n fx 1 dX12_nextTable_47 rfl ?_
          refine g_dup2_11 fx dX12_nextTable_48 rfl rfl ?_
          refine g_iald (r := 12) (j := k - 1) fx (by omega) hv (m1_ix hk1 (by omega)) (by omega) dX12_nextTable_49 ?_
          refine g_isi (y := nI (v (k - 1))) rfl ?_
          refine g_iconst (v := nI 1) fx dX12_nextTable_50 (by decide +kernel) ?_
          refine g_iaddN fx dX12_nextTable_51 ?_
          refine g_iast (r := 12) (j := (k - 1)) fx (by omega) hv (m1_ix hk1 (by omega)) (by omega) dX12_nextTable_52 (fun cu1 ecu1 => ?_)
          have hfr : ∀ r, r ≠ 12 → r ≠ 13 → cu1 r = ct r := fun r _ _ => (congrFun ecu1 r).trans ((va_up_ne _ _ (by assumption)).trans (hfr r (by assumption) (by assumption)))
          have h0 : cu1 0 = mObj ad f := (congrFun ecu1 _).trans ((va_up_ne _ _ (by omega)).trans h0)
          have hv : cu1 12 = .inl (B.2.1 0, 25, .inl (nF (va_up v (k - 1) ((v (k - 1)) + 1)))) := by rw [ecu1, va_up_self, nF_up]
          have hh : cu1 13 = .inl (B.2.1 0, 25, .inl (nF h)) := (congrFun ecu1 _).trans ((va_up_ne _ _ (by omega)).trans hh)
          have hrm : cu1 14 = .inl (B.2.1 0, 5, .inl (nF rm)) := (congrFun ecu1 _).trans ((va_up_ne _ _ (by omega)).trans hrm)
          have hcm : cu1 15 = .inl (B.2.1 0, 5, .inl (nF cm)) := (congrFun ecu1 _).trans ((va_up_ne _ _ (by omega)).trans hcm)
          have hvk : Val C rm cm k (va_up v (k - 1) (v (k - 1) + 1)) := by
            have q := val_next (w := va_up v (k - 1) (v (k - 1) + 1)) hCp (hval.mono (show k - 1 ≤ C * R by omega)) (fun i hi => va_up_ne _ _ (by omega)) (by rw [va_up_self]; omega) (by rw [va_up_self]; omega)
            rw [show k - 1 + 1 = k by omega] at q; exact q
          refine g_aload_n fx 0 dX12_nextTable_53 rfl ?_
          refine g_iload_n fx 1 dX12_nextTable_54 rfl ?_
          refine g_iconst (v := nI 1) fx dX12_nextTable_55 (by decide +kernel) ?_
          refine g_iadd fx dX12_nextTable_56 ?_
          refine g_isi (y := nI k) m1_p1 ?_
          refine g_callVv (As := [.int (nI k)]) (rest := []) fx slX12_197 (c_X12_openFrom B ad cu1 n f (va_up v (k - 1) (v (k - 1) + 1)) h rm cm hn h0 hv hh hrm hcm R C hR hC hR5 hC5 hCp k (by omega) hr60 hc60 hsum hvk) (by omega) h0 rfl rfl rfl (Nat.le_of_ble_eq_true rfl) ⟨by decide, by decide⟩ ⟨by decide, by decide⟩ dX12_nextTable_57 (fun ct3 hz3 => ?_)
          obtain ⟨v3, h3, hv, hh, ⟨hp1, hp2, hop, hvl⟩, hs3⟩ := hz3
          have hfr : ∀ r, r ≠ 12 → r ≠ 13 → ct3 r = ct r := fun r q1 q2 => (hs3 r q1 q2).trans (hfr r q1 q2)
          refine g_iconst (v := nI 1) fx dX12_nextTable_60 (by decide +kernel) ?_
          refine g_zret fx rt dX12_nextTable_61 rfl ?_
          have hpv : ∀ j, j < k - 1 → v3 j = v j := fun j hj2 => by rw [hp1 j (by omega), va_up_ne _ _ (by omega)]
          refine gPi.mk (Or.inr ⟨rfl, k - 1, v3, h3, by omega, fun j q1 q2 => hj j (by omega) q2, hpv, by rw [hp1 (k - 1) (by omega), va_up_self], fun j q1 q2 => (hop j (by omega) q2).1, fun j q2 => ?_, hvl, hv, hh, hfr⟩)
          by_cases q : k ≤ j
          · exact (hop j q q2).2
          · rw [hp2 j (by omega), hhi j q2]
            refine tHi_congr hCp (fun i hi => ?_)
            exact (hpv i (by omega)).symm
        · skip
          have hk1 : k = 0 := (m1_neg (by omega)).mp (Int32.not_le.mp c38)
          refine g_iconst (v := nI 0) fx dX12_nextTable_41 (by decide +kernel) ?_
          refine g_zret fx rt dX12_nextTable_42 rfl ?_
          exact gPi.mk (Or.inl ⟨rfl, rfl, fun j hj2 => hj j (by omega) hj2⟩)
      · skip
        have hk0 : 0 < k := Nat.pos_of_ne_zero (fun q => c13 ((m1_neg (by omega)).mpr q))
        have hv60 := hb60 (k - 1) (by omega)
        have hvv := (hval (k - 1) (by omega)).2
        have hhh := hhi (k - 1) (by omega)
        refine g_aload_n fx 0 dX12_nextTable_16 rfl ?_
        refine g_get (r := 0) fx lkX12_49 (by omega) h0 rfl dX12_nextTable_17 ?_
        refine g_iload_n fx 1 dX12_nextTable_20 rfl ?_
        refine g_iald (r := 12) (j := k - 1) fx (by omega) hv (m1_ix hk0 (by omega)) (by omega) dX12_nextTable_21 ?_
        refine g_isi (y := nI (v (k - 1))) rfl ?_
        refine g_aload_n fx 0 dX12_nextTable_22 rfl ?_
        refine g_get (r := 0) fx lkX12_52 (by omega) h0 rfl dX12_nextTable_23 ?_
        refine g_iload_n fx 1 dX12_nextTable_26 rfl ?_
        refine g_iald (r := 13) (j := k - 1) fx (by omega) hh (m1_ix hk0 (by omega)) (by omega) dX12_nextTable_27 ?_
        refine g_isi (y := nI (h (k - 1))) rfl ?_
        refine g_icmp_ne fx 37 dX12_nextTable_28 (by decide) (fun c28 => ?_) (fun c28 => ?_)
        · skip
          have hcase : k = 0 ∨ (0 < k ∧ v (k - 1) ≠ h (k - 1)) := Or.inr ⟨hk0, fun q => c28 (by rw [q])⟩
          refine g_iload_n fx 1 dX12_nextTable_37 rfl ?_
          refine g_if_ge fx 43 dX12_nextTable_38 (by decide) (fun c38 => ?_) (fun c38 => ?_)
          · skip
            have hk1 : 0 < k := Nat.pos_of_ne_zero (fun q => Int32.not_lt.mpr c38 ((m1_neg (by omega)).mpr q))
            have hne : v (k - 1) ≠ h (k - 1) := by rcases hcase with q | q; (omega); (exact q.2)
            have hv60 := hb60 (k - 1) (by omega)
            have hvv := (hval (k - 1) (by omega))
            have hhh := hhi (k - 1) (by omega)
            refine g_aload_n fx 0 dX12_nextTable_43 rfl ?_
            refine g_get (r := 0) fx lkX12_49 (by omega) h0 rfl dX12_nextTable_44 ?_
            refine g_iload_n fx 1 dX12_nextTable_47 rfl ?_
            refine g_dup2_11 fx dX12_nextTable_48 rfl rfl ?_
            refine g_iald (r := 12) (j := k - 1) fx (by omega) hv (m1_ix hk1 (by omega)) (by omega) dX12_nextTable_49 ?_
            refine g_isi (y := nI (v (k - 1))) rfl ?_
            refine g_iconst (v := nI 1) fx dX12_nextTable_50 (by decide +kernel) ?_
            refine g_iaddN fx dX12_nextTable_51 ?_
            refine g_iast (r := 12) (j := (k - 1)) fx (by omega) hv (m1_ix hk1 (by omega)) (by omega) dX12_nextTable_52 (fun cu2 ecu2 => ?_)
            have hfr : ∀ r, r ≠ 12 → r ≠ 13 → cu2 r = ct r := fun r _ _ => (congrFun ecu2 r).trans ((va_up_ne _ _ (by assumption)).trans (hfr r (by assumption) (by assumption)))
            have h0 : cu2 0 = mObj ad f := (congrFun ecu2 _).trans ((va_up_ne _ _ (by omega)).trans h0)
            have hv : cu2 12 = .inl (B.2.1 0, 25, .inl (nF (va_up v (k - 1) ((v (k - 1)) + 1)))) := by rw [ecu2, va_up_self, nF_up]
            have hh : cu2 13 = .inl (B.2.1 0, 25, .inl (nF h)) := (congrFun ecu2 _).trans ((va_up_ne _ _ (by omega)).trans hh)
            have hrm : cu2 14 = .inl (B.2.1 0, 5, .inl (nF rm)) := (congrFun ecu2 _).trans ((va_up_ne _ _ (by omega)).trans hrm)
            have hcm : cu2 15 = .inl (B.2.1 0, 5, .inl (nF cm)) := (congrFun ecu2 _).trans ((va_up_ne _ _ (by omega)).trans hcm)
            have hvk : Val C rm cm k (va_up v (k - 1) (v (k - 1) + 1)) := by
              have q := val_next (w := va_up v (k - 1) (v (k - 1) + 1)) hCp (hval.mono (show k - 1 ≤ C * R by omega)) (fun i hi => va_up_ne _ _ (by omega)) (by rw [va_up_self]; omega) (by rw [va_up_self]; omega)
              rw [show k - 1 + 1 = k by omega] at q; exact q
            refine g_aload_n fx 0 dX12_nextTable_53 rfl ?_
            refine g_iload_n fx 1 dX12_nextTable_54 rfl ?_
            refine g_iconst (v := nI 1) fx dX12_nextTable_55 (by decide +kernel) ?_
            refine g_iadd fx dX12_nextTable_56 ?_
            refine g_isi (y := nI k) m1_p1 ?_
            refine g_callVv (As := [.int (nI k)]) (rest := []) fx slX12_197 (c_X12_openFrom B ad cu2 n f (va_up v (k - 1) (v (k - 1) + 1)) h rm cm hn h0 hv hh hrm hcm R C hR hC hR5 hC5 hCp k (by omega) hr60 hc60 hsum hvk) (by omega) h0 rfl rfl rfl (Nat.le_of_ble_eq_true rfl) ⟨by decide, by decide⟩ ⟨by decide, by decide⟩ dX12_nextTable_57 (fun ct3 hz3 => ?_)
            obtain ⟨v3, h3, hv, hh, ⟨hp1, hp2, hop, hvl⟩, hs3⟩ := hz3
            have hfr : ∀ r, r ≠ 12 → r ≠ 13 → ct3 r = ct r := fun r q1 q2 => (hs3 r q1 q2).trans (hfr r q1 q2)
            refine g_iconst (v := nI 1) fx dX12_nextTable_60 (by decide +kernel) ?_
            refine g_zret fx rt dX12_nextTable_61 rfl ?_
            have hpv : ∀ j, j < k - 1 → v3 j = v j := fun j hj2 => by rw [hp1 j (by omega), va_up_ne _ _ (by omega)]
            refine gPi.mk (Or.inr ⟨rfl, k - 1, v3, h3, by omega, fun j q1 q2 => hj j (by omega) q2, hpv, by rw [hp1 (k - 1) (by omega), va_up_self], fun j q1 q2 => (hop j (by omega) q2).1, fun j q2 => ?_, hvl, hv, hh, hfr⟩)
            by_cases q : k ≤ j
            · exact (hop j q q2).2
            · rw [hp2 j (by omega), hhi j q2]
              refine tHi_congr hCp (fun i hi => ?_)
              exact (hpv i (by omega)).symm
          · skip
            have hk1 : k = 0 := (m1_neg (by omega)).mp (Int32.not_le.mp c38)
            refine g_iconst (v := nI 0) fx dX12_nextTable_41 (by decide +kernel) ?_
            refine g_zret fx rt dX12_nextTable_42 rfl ?_
            exact gPi.mk (Or.inl ⟨rfl, rfl, fun j hj2 => hj j (by omega) hj2⟩)
        · skip
          have hgk : v (k - 1) = h (k - 1) := (nI_eq (by omega) (by omega)).mp c28
          refine g_iinc (L' := [(1, .int (nI (k - 1) - nI 1)), (0, .ref (ad 0))]) fx (nI (k - 1) - nI 1) 1 dX12_nextTable_31 rfl (m1_dec hk0) (by decide) rfl ?_
          refine g_goto fx 12 dX12_nextTable_34 (by decide) ?_
          refine g_locals (L' := [(0, .ref (ad 0)), (1, .int (nI (k - 1) - nI 1))]) [1, 0] rfl ?_
          exact ih (k - 1) (by omega) (fun j q1 q2 => by by_cases q : j = k - 1; (rw [q]; exact hgk); (exact hj j (by omega) q2)) (by omega)
  refine g_locals (L' := [(0, .ref (ad 0)), (1, .int ((nI (R * C)) - (nI 1)))]) [1, 0] rfl ?_
  exact LP12 (R * C + 1) (R * C) (by omega) (fun j q1 q2 => absurd q2 (by omega)) (by omega)
set_option maxHeartbeats 4000000 in
set_option maxRecDepth 100000 in
theorem c_X12_weigh (B : gB) (ad : Nat → Nat) (ct : Nat → va_E) (n : Nat) (f : Nat → Int32) (gt g c : Nat → Nat) (hn : 33 ≤ n) (h0 : ct 0 = mObj ad f) (r s : Nat) (hnr : r < n) (hns : s < n) (hr18 : r ≠ 18) (hrs : r ≠ s) (hr0 : r ≠ 0) (htp : ct 18 = .inl (B.2.1 0, 40, .inl (nF gt))) (hs : ct s = .inl (B.2.1 0, 25, .inl (nF c))) (hr : ct r = .inl (B.2.1 0, 40, .inl (nF g))) (hok : okN gt 0) (R C : Nat) (hR : f 4 = nI R) (hC : f 5 = nI C) (hR5 : R ≤ 5) (hC5 : C ≤ 5) (hcb : ∀ j, j < C * R → c j ≤ 60) : Ctr B yX12_weigh cX12_weigh 5 none 1 25 0 0 ad ct n [.ref (ad 0), .ref (ad s), .ref (ad r)] (gPv ad n (fun ct' => ∃ g', ct' = va_up ct r (.inl (B.2.1 0, 40, .inl (nF g'))) ∧ okN g' 0 ∧ nv g' 0 = nv gt 0 / facP c (C * R))) := by
  have h25 : C * R ≤ 25 := Nat.mul_le_mul hC5 hR5
  have hmc : R * C = C * R := Nat.mul_comm _ _
  refine Ctr.ofG (L := [(0, .ref (ad 0)), (1, .ref (ad s)), (2, .ref (ad r))]) (by decide +kernel) rfl (Nat.le_of_ble_eq_true rfl) (fun E fx rt hnm => ?_)
  refine g_aload_n fx 0 dX12_weigh_0 rfl ?_
  refine g_get (r := 0) fx lkX12_69 (by omega) h0 rfl dX12_weigh_1 ?_
  refine g_iconst (v := nI 0) fx dX12_weigh_4 (by decide +kernel) ?_
  refine g_aload_n fx 2 dX12_weigh_5 rfl ?_
  refine g_iconst (v := nI 0) fx dX12_weigh_6 (by decide +kernel) ?_
  refine g_callSv (As := [.ref (ad 18), .int (nI 0), .ref (ad r), .int (nI 0)]) (rest := []) fx slX12_151 (c_X12_copy B ad ct n r 0 40 g hnr (by omega) (by decide) hr 18 0 40 gt (by omega) (by omega) (by decide) htp hr18) rfl rfl (Nat.le_of_ble_eq_true rfl) ⟨by decide, by decide⟩ ⟨by decide, by decide⟩ dX12_weigh_7 (fun ct1 hz1 => ?_)
  obtain ⟨g1, hct, -, hc1⟩ := hz1
  have hok1 : okN g1 0 := fun j hj => by rw [hc1 j hj]; exact hok j hj
  have hv1 : nv g1 0 = nv gt 0 := bval_congr 40 (fun j hj => hc1 j hj)
  have h0 : ct1 0 = mObj ad f := (congrFun hct _).trans ((va_up_ne _ _ (by omega)).trans h0)
  have htp : ct1 18 = .inl (B.2.1 0, 40, .inl (nF gt)) := (congrFun hct _).trans ((va_up_ne _ _ (by omega)).trans htp)
  have hs : ct1 s = .inl (B.2.1 0, 25, .inl (nF c)) := (congrFun hct _).trans ((va_up_ne _ _ (by omega)).trans hs)
  have hr : ct1 r = .inl (B.2.1 0, 40, .inl (nF g1)) := by rw [hct, va_up_self]
  refine g_iconst (v := nI 0) fx dX12_weigh_10 (by decide +kernel) ?_
  refine g_istore_n (L' := [(3, .int (nI 0)), (0, .ref (ad 0)), (1, .ref (ad s)), (2, .ref (ad r))]) fx dX12_weigh_11 (by decide) rfl ?_
  have LP12 : ∀ (M : Nat) (k : Nat) (ct2 : Nat → va_E) (g2 : Nat → Nat), (k ≤ C * R) → (okN g2 0) → (nv g2 0 = nv gt 0 / facP c k) → (ct2 0 = mObj ad f) → (ct2 s = .inl (B.2.1 0, 25, .inl (nF c))) → (ct2 r = .inl (B.2.1 0, 40, .inl (nF g2))) → (ct2 = va_up ct r (.inl (B.2.1 0, 40, .inl (nF g2)))) →  (C * R - k) < M → G B 5 E ad ct2 n 0 0 [(0, .ref (ad 0)), (1, .ref (ad s)), (2, .ref (ad r)), (3, .int (nI k))] 12 [] := by
    intro M
    induction M with
    | zero => intro k ct2 g2 _ _ _ _ _ _ _ hM; exact absurd hM (Nat.not_lt_zero _)
    | succ M ih =>
      intro k ct2 g2 hk hok2 hv2 h0 hs hr hct hM
      have ih12 := ih
      refine g_iload_n fx 3 dX12_weigh_12 rfl ?_
      refine g_aload_n fx 0 dX12_weigh_13 rfl ?_
      refine g_get (r := 0) fx lkX12_115 (by omega) h0 rfl dX12_weigh_14 ?_
      refine g_isi (y := nI R) hR ?_
      refine g_aload_n fx 0 dX12_weigh_17 rfl ?_
      refine g_get (r := 0) fx lkX12_118 (by omega) h0 rfl dX12_weigh_18 ?_
      refine g_isi (y := nI C) hC ?_
      refine g_imulN fx dX12_weigh_21 ?_
      refine g_icmp_ge fx 55 dX12_weigh_22 (by decide) (fun c22 => ?_) (fun c22 => ?_)
      · skip
        have hke : k = C * R := by have := (nI_leI (by omega) (by omega)).mp c22; omega
        refine g_vret fx rt dX12_weigh_55 ?_
        rw [hke] at hv2
        exact gPv.mk ⟨g2, hct, hok2, hv2⟩
      · skip
        have hlt2 : k < C * R := by have := (nI_ltI (by omega) (by omega)).mp (Int32.not_le.mp c22); omega
        have hck := hcb k hlt2
        refine g_iconst (v := nI 2) fx dX12_weigh_25 (by decide +kernel) ?_
        refine g_istore (L' := [(4, .int (nI 2)), (0, .ref (ad 0)), (1, .ref (ad s)), (2, .ref (ad r)), (3, .int (nI k))]) fx dX12_weigh_26 (by decide) rfl ?_
        have LP28 : ∀ (M : Nat) (m : Nat) (ct3 : Nat → va_E) (g3 : Nat → Nat), (2 ≤ m) → (m ≤ max (c k + 1) 2) → (okN g3 0) → (nv g3 0 = nv gt 0 / (facP c k * fac (m - 1))) → (ct3 0 = mObj ad f) → (ct3 s = .inl (B.2.1 0, 25, .inl (nF c))) → (ct3 r = .inl (B.2.1 0, 40, .inl (nF g3))) → (ct3 = va_up ct r (.inl (B.2.1 0, 40, .inl (nF g3)))) →  (64 - m) < M → G B 5 E ad ct3 n 0 0 [(0, .ref (ad 0)), (1, .ref (ad s)), (2, .ref (ad r)), (3, .int (nI k)), (4, .int (nI m))] 28 [] := by
          intro M
          induction M with
          | zero => intro m ct3 g3 _ _ _ _ _ _ _ _ hM; exact absurd hM (Nat.not_lt_zero _)
          | succ M ih =>
            intro m ct3 g3 hm1 hm2 hok3 hv3 h0 hs hr hct hM
            have ih28 := ih
            refine g_iload fx 4 dX12_weigh_28 rfl ?_
            refine g_aload_n fx 1 dX12_weigh_30 rfl ?_
            refine g_iload_n fx 3 dX12_weigh_31 rfl ?_
            refine g_iald (r := s) (j := k) fx (by omega) hs (nI_toInt (by omega)) (by omega) dX12_weigh_32 ?_
            refine g_isi (y := nI (c k)) rfl ?_
            refine g_icmp_gt fx 49 dX12_weigh_33 (by decide) (fun c33 => ?_) (fun c33 => ?_)
            · skip
              have hgt : c k < m := (nI_ltI (by omega) (by omega)).mp c33
              have hfin : nv g3 0 = nv gt 0 / facP c (k + 1) := by
                rw [hv3, facP_step]
                congr 2
                by_cases q : c k = 0
                · rw [q, show m - 1 = 1 by omega]; rfl
                · rw [show m - 1 = c k by omega]
              refine g_iinc (L' := [(3, .int (nI (k + 1))), (0, .ref (ad 0)), (1, .ref (ad s)), (2, .ref (ad r)), (4, .int (nI m))]) fx (nI (k + 1)) 3 dX12_weigh_49 rfl (gInc _) (by decide) rfl ?_
              refine g_goto fx 12 dX12_weigh_52 (by decide) ?_
              refine g_locals (L' := [(0, .ref (ad 0)), (1, .ref (ad s)), (2, .ref (ad r)), (3, .int (nI (k + 1)))]) [1, 2, 3, 0] rfl ?_
              exact ih12 (k + 1) _ g3 hlt2 hok3 hfin h0 hs hr hct (by omega)
            · skip
              have hle : m ≤ c k := Nat.le_of_not_lt (fun q => c33 ((nI_ltI (by omega) (by omega)).mpr q))
              have hfm : fac (m - 1) * m = fac m := by
                obtain ⟨z, rfl⟩ : ∃ z, m = z + 1 := ⟨m - 1, by omega⟩
                rw [Nat.add_sub_cancel]; rfl
              refine g_aload_n fx 2 dX12_weigh_36 rfl ?_
              refine g_iconst (v := nI 0) fx dX12_weigh_37 (by decide +kernel) ?_
              refine g_iload fx 4 dX12_weigh_38 rfl ?_
              refine g_callSv (As := [.ref (ad r), .int (nI 0), .int (nI m)]) (rest := []) fx slX12_207 (c_X12_divide B ad ct3 n r 0 40 g3 hnr (by omega) (by decide) hr m (by omega) (by omega) hok3) rfl rfl (Nat.le_of_ble_eq_true rfl) ⟨by decide, by decide⟩ ⟨by decide, by decide⟩ dX12_weigh_40 (fun ct4 hz4 => ?_)
              obtain ⟨g4, e4, -, hok4, hv4⟩ := hz4
              have hct : ct4 = va_up ct r (.inl (B.2.1 0, 40, .inl (nF g4))) := by rw [e4, hct, bx_uu]
              have h0 : ct4 0 = mObj ad f := by rw [e4, va_up_ne _ _ (Ne.symm hr0)]; exact h0
              have hs : ct4 s = .inl (B.2.1 0, 25, .inl (nF c)) := by rw [e4, va_up_ne _ _ (Ne.symm hrs)]; exact hs
              have hr : ct4 r = .inl (B.2.1 0, 40, .inl (nF g4)) := by rw [e4, va_up_self]
              refine g_iinc (L' := [(4, .int (nI (m + 1))), (0, .ref (ad 0)), (1, .ref (ad s)), (2, .ref (ad r)), (3, .int (nI k))]) fx (nI (m + 1)) 4 dX12_weigh_43 rfl (gInc _) (by decide) rfl ?_
              refine g_goto fx 28 dX12_weigh_46 (by decide) ?_
              refine g_locals (L' := [(0, .ref (ad 0)), (1, .ref (ad s)), (2, .ref (ad r)), (3, .int (nI k)), (4, .int (nI (m + 1)))]) [1, 2, 3, 4, 0] rfl ?_
              exact ih (m + 1) _ g4 (by omega) (by omega) hok4 (by rw [hv4, hv3, Nat.div_div_eq_div_mul, Nat.mul_assoc, hfm, Nat.add_sub_cancel]) h0 hs hr hct (by omega)
        refine g_locals (L' := [(0, .ref (ad 0)), (1, .ref (ad s)), (2, .ref (ad r)), (3, .int (nI k)), (4, .int (nI 2))]) [1, 2, 3, 4, 0] rfl ?_
        exact LP28 65 2 ct2 g2 (by omega) (by omega) hok2 (by rw [hv2, show fac (2 - 1) = 1 from rfl, Nat.mul_one]) h0 hs hr hct (by omega)
  refine g_locals (L' := [(0, .ref (ad 0)), (1, .ref (ad s)), (2, .ref (ad r)), (3, .int (nI 0))]) [1, 2, 3, 0] rfl ?_
  exact LP12 (C * R + 1) 0 ct1 g1 (by omega) hok1 (by rw [hv1]; show _ = nv gt 0 / 1; rw [Nat.div_one]) h0 hs hr hct (by omega)
