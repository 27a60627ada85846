theorem i64_le {x : Int32} {c : Int64} : c ≤ x.toInt64 ↔ c.toInt ≤ x.toInt := by rw [Int64.le_iff_toInt_le, Int32.toInt_toInt64]
theorem i64_ge {x : Int32} {c : Int64} : x.toInt64 ≤ c ↔ x.toInt ≤ c.toInt := by rw [Int64.le_iff_toInt_le, Int32.toInt_toInt64]
theorem c_in (B : gB) (ad : Nat → Nat) (ct : Nat → va_E) (n : Nat) (x : Int32) (LO HI : Int64) (lo hi : Int) (h1 : LO.toInt = lo) (h2 : HI.toInt = hi) : Ctr B yX12_in cX12_in 6 (some .boolean) 0 0 0 0 ad ct n [.long x.toInt64, .long LO, .long HI] (gPip ad ct n (fun r => r = if lo ≤ x.toInt ∧ x.toInt ≤ hi then 1 else 0)) := by
  have h := c_X12_in B ad ct n x.toInt64 LO HI
  have e : (LO ≤ x.toInt64 ∧ x.toInt64 ≤ HI) ↔ (lo ≤ x.toInt ∧ x.toInt ≤ hi) := by rw [i64_le, i64_ge, h1, h2]
  simp only [e] at h
  exact h
theorem rm1 {m : Nat} (h : m < 2 ^ 31) : ((nI m - nI 1).toInt64).toInt = (m : Int) - 1 := by rw [Int32.toInt_toInt64, m1_toInt h]
theorem tI {x : Int32} {k : Nat} (h : x.toInt = (k : Int)) : x = nI k := by
  have h1 : k < 2 ^ 31 := by have := Int32.toInt_lt x; omega
  exact Int32.toInt_inj.mp (by rw [h, nI_toInt h1])
/-- sums along a row, down a column -/
def sumF (f : Nat → Nat) : Nat → Nat
  | 0 => 0
  | k + 1 => sumF f k + f k
theorem sumF_congr {f g : Nat → Nat} : ∀ n, (∀ i, i < n → f i = g i) → sumF f n = sumF g n
  | 0, _ => rfl
  | n + 1, h => by show sumF f n + f n = sumF g n + g n; rw [sumF_congr n (fun i hi => h i (by omega)), h n (by omega)]
theorem sumF_le {f : Nat → Nat} {b : Nat} : ∀ n, (∀ i, i < n → f i ≤ b) → sumF f n ≤ n * b
  | 0, _ => by simp [sumF]
  | n + 1, h => by show sumF f n + f n ≤ (n + 1) * b; rw [Nat.add_mul]; have := sumF_le n (fun i hi => h i (by omega)); have := h n (by omega); omega
def toldM (f fm : Nat → Int32) (x : Int) : Int32 := if x = 0 then fm 0 else if x = 1 then fm 1 else if x = 2 then f 11 else if x = 3 then f 40 else if x = 4 then f 45 else if x = 5 then f 4 else if x = 6 then f 5 else if x = 7 then f 25 else -2
def resultM (f : Nat → Int32) (x : Int32) : Int32 := if f 12 < 0 then -1000000003 else if x = 0 then f 12 else if x = 1 then f 13 else if x = 2 then f 14 else -1000000002
set_option maxHeartbeats 4000000 in
set_option maxRecDepth 100000 in
theorem c_X12_table (B : gB) (ad : Nat → Nat) (ct : Nat → va_E) (n : Nat) (f : Nat → Int32) (gc : Nat → Nat) (hn : 33 ≤ n) (h0 : ct 0 = mObj ad f) (hc : ct 5 = .inl (B.2.1 0, 25, .inl (nF gc))) (x y : Int32) : Ctr B yX12_table cX12_table 4 (some .int) 1 25 0 0 ad ct n [.ref (ad 0), .int x, .int y] (gPi ad n (fun q ct' => if (1 ≤ x.toInt ∧ x.toInt ≤ 5) ∧ (1 ≤ y.toInt ∧ y.toInt ≤ 5) then q = 1 ∧ ct' 0 = mObj ad (va_up (va_up (va_up f 4 x) 5 y) 7 (nI 0)) ∧ (∃ g', ct' 5 = .inl (B.2.1 0, 25, .inl (nF g')) ∧ ∀ j, j < 25 → g' j = 0) ∧ (∀ r, r ≠ 0 → r ≠ 5 → ct' r = ct r) else q = -2 ∧ ct' = ct)) := by
  have hfr : ∀ r, r ≠ 0 → r ≠ 5 → ct r = ct r := fun _ _ _ => rfl
  refine Ctr.ofG (L := [(0, .ref (ad 0)), (1, .int x), (2, .int y)]) (by decide +kernel) rfl (Nat.le_of_ble_eq_true rfl) (fun E fx rt hnm => ?_)
  refine g_iload_n fx 1 dX12_table_0 rfl ?_
  refine g_i2l fx dX12_table_1 ?_
  refine g_lconst (v := 1) fx dX12_table_2 (by decide +kernel) ?_
  refine g_ldc2 fx kcX12_157 dX12_table_3 ?_
  refine g_callSip (As := [.long x.toInt64, .long 1, .long 5]) (rest := []) fx slX12_159 (c_in B ad ct n x 1 5 1 5 (by decide) (by decide)) rfl rfl (Nat.le_of_ble_eq_true rfl) ⟨by decide, by decide⟩ ⟨by decide, by decide⟩ dX12_table_6 (fun q1 hq1 => ?_)
  refine g_if_eq fx 24 dX12_table_9 (by decide) (fun c9 => ?_) (fun c9 => ?_)
  · skip
    have hA : ¬ ((1 ≤ x.toInt ∧ x.toInt ≤ 5) ∧ (1 ≤ y.toInt ∧ y.toInt ≤ 5)) := fun z => if01_z.mp (hq1 ▸ c9) z.1
    refine g_bipush (v := (-2)) fx dX12_table_24 (by decide +kernel) ?_
    refine g_iret fx rt dX12_table_26 ?_
    refine gPi.mk ?_
    rw [if_neg hA]
    exact ⟨rfl, rfl⟩
  · skip
    have hx := if01_n.mp (hq1 ▸ c9)
    refine g_iload_n fx 2 dX12_table_12 rfl ?_
    refine g_i2l fx dX12_table_13 ?_
    refine g_lconst (v := 1) fx dX12_table_14 (by decide +kernel) ?_
    refine g_ldc2 fx kcX12_157 dX12_table_15 ?_
    refine g_callSip (As := [.long y.toInt64, .long 1, .long 5]) (rest := []) fx slX12_159 (c_in B ad ct n y 1 5 1 5 (by decide) (by decide)) rfl rfl (Nat.le_of_ble_eq_true rfl) ⟨by decide, by decide⟩ ⟨by decide, by decide⟩ dX12_table_18 (fun q2 hq2 => ?_)
    refine g_if_ne fx 27 dX12_table_21 (by decide) (fun c21 => ?_) (fun c21 => ?_)
    · skip
      have hA : (1 ≤ x.toInt ∧ x.toInt ≤ 5) ∧ (1 ≤ y.toInt ∧ y.toInt ≤ 5) := ⟨hx, if01_n.mp (hq2 ▸ c21)⟩
      refine g_aload_n fx 0 dX12_table_27 rfl ?_
      refine g_iload_n fx 1 dX12_table_28 rfl ?_
      refine g_put (r := 0) (fs' := mFs ad (va_up f 4 x)) fx lpX12_115 (by omega) h0 rfl rfl (Nat.le_of_ble_eq_true rfl) rfl dX12_table_29 (fun ctA ectA => ?_)
      have hfr : ∀ r, r ≠ 0 → r ≠ 5 → ctA r = ct r := fun r _ _ => (congrFun ectA r).trans ((va_up_ne _ _ (by assumption)).trans (hfr r (by assumption) (by assumption)))
      have h0 : ctA 0 = mObj ad (va_up f 4 x) := by rw [ectA, va_up_self]
      have hc : ctA 5 = .inl (B.2.1 0, 25, .inl (nF gc)) := (congrFun ectA _).trans ((va_up_ne _ _ (by omega)).trans hc)
      refine g_aload_n fx 0 dX12_table_32 rfl ?_
      refine g_iload_n fx 2 dX12_table_33 rfl ?_
      refine g_put (r := 0) (fs' := mFs ad (va_up (va_up f 4 x) 5 y)) fx lpX12_118 (by omega) h0 rfl rfl (Nat.le_of_ble_eq_true rfl) rfl dX12_table_34 (fun ctB ectB => ?_)
      have hfr : ∀ r, r ≠ 0 → r ≠ 5 → ctB r = ct r := fun r _ _ => (congrFun ectB r).trans ((va_up_ne _ _ (by assumption)).trans (hfr r (by assumption) (by assumption)))
      have h0 : ctB 0 = mObj ad (va_up (va_up f 4 x) 5 y) := by rw [ectB, va_up_self]
      have hc : ctB 5 = .inl (B.2.1 0, 25, .inl (nF gc)) := (congrFun ectB _).trans ((va_up_ne _ _ (by omega)).trans hc)
      refine g_iconst (v := nI 0) fx dX12_table_37 (by decide +kernel) ?_
      refine g_istore_n (L' := [(3, .int (nI 0)), (0, .ref (ad 0)), (1, .int x), (2, .int y)]) fx dX12_table_38 (by decide) rfl ?_
      have LP39 : ∀ (M : Nat) (k : Nat) (ct1 : Nat → va_E) (g1 : Nat → Nat), (k ≤ 25) → (∀ j, j < k → g1 j = 0) → (ct1 0 = mObj ad (va_up (va_up f 4 x) 5 y)) → (ct1 5 = .inl (B.2.1 0, 25, .inl (nF g1))) → (∀ r, r ≠ 0 → r ≠ 5 → ct1 r = ct r) →  (25 - k) < M → G B 4 E ad ct1 n 0 0 [(0, .ref (ad 0)), (3, .int (nI k))] 39 [] := by
        intro M
        induction M with
        | zero => intro k ct1 g1 _ _ _ _ _ hM; exact absurd hM (Nat.not_lt_zero _)
        | succ M ih =>
          intro k ct1 g1 hk hz h0 hc hfr hM
          have ih39 := ih
          refine g_iload_n fx 1 dX12_table_39 rfl ?_
          refine g_bipush (v := nI 25) fx dX12_table_40 (by decide +kernel) ?_
          refine g_icmp_ge fx 58 dX12_table_42 (by decide) (fun c42 => ?_) (fun c42 => ?_)
          · skip
            have hk25 : k = 25 := by have := (nI_leI (by omega) (by omega)).mp c42; omega
            rw [hk25] at hz
            refine g_aload_n fx 0 dX12_table_58 rfl ?_
            refine g_iconst (v := nI 0) fx dX12_table_59 (by decide +kernel) ?_
            refine g_put (r := 0) (fs' := mFs ad (va_up (va_up (va_up f 4 x) 5 y) 7 (nI 0))) fx lpX12_163 (by omega) h0 rfl rfl (Nat.le_of_ble_eq_true rfl) rfl dX12_table_60 (fun cu3 ecu3 => ?_)
            have hfr : ∀ r, r ≠ 0 → r ≠ 5 → cu3 r = ct r := fun r _ _ => (congrFun ecu3 r).trans ((va_up_ne _ _ (by assumption)).trans (hfr r (by assumption) (by assumption)))
            have h0 : cu3 0 = mObj ad (va_up (va_up (va_up f 4 x) 5 y) 7 (nI 0)) := by rw [ecu3, va_up_self]
            have hc : cu3 5 = .inl (B.2.1 0, 25, .inl (nF g1)) := (congrFun ecu3 _).trans ((va_up_ne _ _ (by omega)).trans hc)
            refine g_iconst (v := 1) fx dX12_table_63 (by decide +kernel) ?_
            refine g_iret fx rt dX12_table_64 ?_
            refine gPi.mk ?_
            rw [if_pos hA]
            exact ⟨rfl, h0, ⟨g1, hc, hz⟩, hfr⟩
          · skip
            have hlt2 : k < 25 := by have := (nI_ltI (by omega) (by omega)).mp (Int32.not_le.mp c42); omega
            refine g_aload_n fx 0 dX12_table_45 rfl ?_
            refine g_get (r := 0) fx lkX12_22 (by omega) h0 rfl dX12_table_46 ?_
            refine g_iload_n fx 1 dX12_table_49 rfl ?_
            refine g_iconst (v := nI 0) fx dX12_table_50 (by decide +kernel) ?_
            refine g_iast (r := 5) (j := k) fx (by omega) hc (nI_toInt (by omega)) (by omega) dX12_table_51 (fun cu4 ecu4 => ?_)
            have hfr : ∀ r, r ≠ 0 → r ≠ 5 → cu4 r = ct r := fun r _ _ => (congrFun ecu4 r).trans ((va_up_ne _ _ (by assumption)).trans (hfr r (by assumption) (by assumption)))
            have h0 : cu4 0 = mObj ad (va_up (va_up f 4 x) 5 y) := (congrFun ecu4 _).trans ((va_up_ne _ _ (by omega)).trans h0)
            have hc : cu4 5 = .inl (B.2.1 0, 25, .inl (nF (va_up g1 k 0))) := by rw [ecu4, va_up_self, nF_up]
            refine g_iinc (L' := [(3, .int (nI (k + 1))), (0, .ref (ad 0))]) fx (nI (k + 1)) 1 dX12_table_52 rfl (gInc _) (by decide) rfl ?_
            refine g_goto fx 39 dX12_table_55 (by decide) ?_
            refine g_locals (L' := [(0, .ref (ad 0)), (3, .int (nI (k + 1)))]) [1, 0] rfl ?_
            exact ih (k + 1) _ _ hlt2 (fun j hj => by unfold va_up; split; rfl; exact hz j (by omega)) h0 hc hfr (by omega)
      refine g_locals (L' := [(0, .ref (ad 0)), (3, .int (nI 0))]) [1, 0] rfl ?_
      exact LP39 26 0 ctB gc (by omega) (fun j hj => absurd hj (by omega)) h0 hc hfr (by omega)
    · skip
      have hA : ¬ ((1 ≤ x.toInt ∧ x.toInt ≤ 5) ∧ (1 ≤ y.toInt ∧ y.toInt ≤ 5)) := fun z => if01_z.mp (hq2 ▸ c21) z.2
      refine g_bipush (v := (-2)) fx dX12_table_24 (by decide +kernel) ?_
      refine g_iret fx rt dX12_table_26 ?_
      refine gPi.mk ?_
      rw [if_neg hA]
      exact ⟨rfl, rfl⟩
set_option maxHeartbeats 4000000 in
set_option maxRecDepth 100000 in
theorem c_X12_marginOfRow (B : gB) (ad : Nat → Nat) (ct : Nat → va_E) (n : Nat) (f : Nat → Int32) (gc : Nat → Nat) (hn : 33 ≤ n) (h0 : ct 0 = mObj ad f) (hc : ct 5 = .inl (B.2.1 0, 25, .inl (nF gc))) (R C : Nat) (hR : f 4 = nI R) (hC : f 5 = nI C) (hR5 : R ≤ 5) (hC5 : C ≤ 5) (hgb : ∀ j, j < 25 → gc j ≤ 60) (i : Nat) (hi : i < R) : Ctr B yX12_marginOfRow cX12_marginOfRow 4 (some .int) 0 0 0 0 ad ct n [.ref (ad 0), .int (nI i)] (gPip ad ct n (fun q => q = nI (sumF (fun k => gc (C * i + k)) C))) := by
  refine Ctr.ofG (L := [(0, .ref (ad 0)), (1, .int (nI i))]) (by decide +kernel) rfl (Nat.le_of_ble_eq_true rfl) (fun E fx rt hnm => ?_)
  refine g_iconst (v := nI 0) fx dX12_marginOfRow_0 (by decide +kernel) ?_
  refine g_istore_n (L' := [(2, .int (nI 0)), (0, .ref (ad 0)), (1, .int (nI i))]) fx dX12_marginOfRow_1 (by decide) rfl ?_
  refine g_iconst (v := nI 0) fx dX12_marginOfRow_2 (by decide +kernel) ?_
  refine g_istore_n (L' := [(3, .int (nI 0)), (2, .int (nI 0)), (0, .ref (ad 0)), (1, .int (nI i))]) fx dX12_marginOfRow_3 (by decide) rfl ?_
  have LP4 : ∀ (M : Nat) (k : Nat), (k ≤ C) →  (C - k) < M → G B 4 E ad ct n 0 0 [(0, .ref (ad 0)), (1, .int (nI i)), (2, .int (nI (sumF (fun k => gc (C * i + k)) k))), (3, .int (nI k))] 4 [] := by
    intro M
    induction M with
    | zero => intro k _ hM; exact absurd hM (Nat.not_lt_zero _)
    | succ M ih =>
      intro k hk hM
      have ih4 := ih
      refine g_iload_n fx 3 dX12_marginOfRow_4 rfl ?_
      refine g_aload_n fx 0 dX12_marginOfRow_5 rfl ?_
      refine g_get (r := 0) fx lkX12_118 (by omega) h0 rfl dX12_marginOfRow_6 ?_
      refine g_isi (y := nI C) hC ?_
      refine g_icmp_ge fx 34 dX12_marginOfRow_9 (by decide) (fun c9 => ?_) (fun c9 => ?_)
      · skip
        have hkk : k = C := by have := (nI_leI (by omega) (by omega)).mp c9; omega
        refine g_iload_n fx 2 dX12_marginOfRow_34 rfl ?_
        refine g_iret fx rt dX12_marginOfRow_35 ?_
        refine gPip.mk ?_
        rw [hkk]
      · skip
        have hlt2 : k < C := by have := (nI_ltI (by omega) (by omega)).mp (Int32.not_le.mp c9); omega
        have hix : C * i + k < 25 := by have : C * i ≤ C * 4 := Nat.mul_le_mul_left _ (by omega); omega
        refine g_iload_n fx 2 dX12_marginOfRow_12 rfl ?_
        refine g_aload_n fx 0 dX12_marginOfRow_13 rfl ?_
        refine g_get (r := 0) fx lkX12_22 (by omega) h0 rfl dX12_marginOfRow_14 ?_
        refine g_aload_n fx 0 dX12_marginOfRow_17 rfl ?_
        refine g_get (r := 0) fx lkX12_118 (by omega) h0 rfl dX12_marginOfRow_18 ?_
        refine g_isi (y := nI C) hC ?_
        refine g_iload_n fx 1 dX12_marginOfRow_21 rfl ?_
        refine g_imulN fx dX12_marginOfRow_22 ?_
        refine g_iload_n fx 3 dX12_marginOfRow_23 rfl ?_
        refine g_iaddN fx dX12_marginOfRow_24 ?_
        refine g_iald (r := 5) (j := C * i + k) fx (by omega) hc (nI_toInt (by omega)) hix dX12_marginOfRow_25 ?_
        refine g_isi (y := nI (gc (C * i + k))) rfl ?_
        refine g_iaddN fx dX12_marginOfRow_26 ?_
        refine g_istore_n (L' := [(2, .int (nI (sumF (fun k => gc (C * i + k)) (k + 1)))), (0, .ref (ad 0)), (1, .int (nI i)), (3, .int (nI k))]) fx dX12_marginOfRow_27 (by decide) rfl ?_
        refine g_iinc (L' := [(3, .int (nI (k + 1))), (2, .int (nI (sumF (fun k => gc (C * i + k)) (k + 1)))), (0, .ref (ad 0)), (1, .int (nI i))]) fx (nI (k + 1)) 3 dX12_marginOfRow_28 rfl (gInc _) (by decide) rfl ?_
        refine g_goto fx 4 dX12_marginOfRow_31 (by decide) ?_
        refine g_locals (L' := [(0, .ref (ad 0)), (1, .int (nI i)), (2, .int (nI (sumF (fun k => gc (C * i + k)) (k + 1)))), (3, .int (nI (k + 1)))]) [2, 3, 1, 0] rfl ?_
        exact ih (k + 1) hlt2 (by omega)
  refine g_locals (L' := [(0, .ref (ad 0)), (1, .int (nI i)), (2, .int (nI 0)), (3, .int (nI 0))]) [2, 3, 1, 0] rfl ?_
  exact LP4 (C + 1) 0 (by omega) (by omega)
set_option maxHeartbeats 4000000 in
set_option maxRecDepth 100000 in
theorem c_X12_marginOfColumn (B : gB) (ad : Nat → Nat) (ct : Nat → va_E) (n : Nat) (f : Nat → Int32) (gc : Nat → Nat) (hn : 33 ≤ n) (h0 : ct 0 = mObj ad f) (hc : ct 5 = .inl (B.2.1 0, 25, .inl (nF gc))) (R C : Nat) (hR : f 4 = nI R) (hC : f 5 = nI C) (hR5 : R ≤ 5) (hC5 : C ≤ 5) (hgb : ∀ j, j < 25 → gc j ≤ 60) (i : Nat) (hi : i < C) : Ctr B yX12_marginOfColumn cX12_marginOfColumn 4 (some .int) 0 0 0 0 ad ct n [.ref (ad 0), .int (nI i)] (gPip ad ct n (fun q => q = nI (sumF (fun k => gc (C * k + i)) R))) := by
  refine Ctr.ofG (L := [(0, .ref (ad 0)), (1, .int (nI i))]) (by decide +kernel) rfl (Nat.le_of_ble_eq_true rfl) (fun E fx rt hnm => ?_)
  refine g_iconst (v := nI 0) fx dX12_marginOfColumn_0 (by decide +kernel) ?_
  refine g_istore_n (L' := [(2, .int (nI 0)), (0, .ref (ad 0)), (1, .int (nI i))]) fx dX12_marginOfColumn_1 (by decide) rfl ?_
  refine g_iconst (v := nI 0) fx dX12_marginOfColumn_2 (by decide +kernel) ?_
  refine g_istore_n (L' := [(3, .int (nI 0)), (2, .int (nI 0)), (0, .ref (ad 0)), (1, .int (nI i))]) fx dX12_marginOfColumn_3 (by decide) rfl ?_
  have LP4 : ∀ (M : Nat) (k : Nat), (k ≤ R) →  (R - k) < M → G B 4 E ad ct n 0 0 [(0, .ref (ad 0)), (1, .int (nI i)), (2, .int (nI (sumF (fun k => gc (C * k + i)) k))), (3, .int (nI k))] 4 [] := by
    intro M
    induction M with
    | zero => intro k _ hM; exact absurd hM (Nat.not_lt_zero _)
    | succ M ih =>
      intro k hk hM
      have ih4 := ih
      refine g_iload_n fx 3 dX12_marginOfColumn_4 rfl ?_
      refine g_aload_n fx 0 dX12_marginOfColumn_5 rfl ?_
      refine g_get (r := 0) fx lkX12_115 (by omega) h0 rfl dX12_marginOfColumn_6 ?_
      refine g_isi (y := nI R) hR ?_
      refine g_icmp_ge fx 34 dX12_marginOfColumn_9 (by decide) (fun c9 => ?_) (fun c9 => ?_)
      · skip
        have hkk : k = R := by have := (nI_leI (by omega) (by omega)).mp c9; omega
        refine g_iload_n fx 2 dX12_marginOfColumn_34 rfl ?_
        refine g_iret fx rt dX12_marginOfColumn_35 ?_
        refine gPip.mk ?_
        rw [hkk]
      · skip
        have hlt2 : k < R := by have := (nI_ltI (by omega) (by omega)).mp (Int32.not_le.mp c9); omega
        have hix : C * k + i < 25 := by have : C * k ≤ C * 4 := Nat.mul_le_mul_left _ (by omega); omega
        refine g_iload_n fx 2 dX12_marginOfColumn_12 rfl ?_
        refine g_aload_n fx 0 dX12_marginOfColumn_13 rfl ?_
        refine g_get (r := 0) fx lkX12_22 (by omega) h0 rfl dX12_marginOfColumn_14 ?_
        refine g_aload_n fx 0 dX12_marginOfColumn_17 rfl ?_
        refine g_get (r := 0) fx lkX12_118 (by omega) h0 rfl dX12_marginOfColumn_18 ?_
        refine g_isi (y := nI C) hC ?_
        refine g_iload_n fx 3 dX12_marginOfColumn_21 rfl ?_
        refine g_imulN fx dX12_marginOfColumn_22 ?_
        refine g_iload_n fx 1 dX12_marginOfColumn_23 rfl ?_
        refine g_iaddN fx dX12_marginOfColumn_24 ?_
        refine g_iald (r := 5) (j := C * k + i) fx (by omega) hc (nI_toInt (by omega)) hix dX12_marginOfColumn_25 ?_
        refine g_isi (y := nI (gc (C * k + i))) rfl ?_
        refine g_iaddN fx dX12_marginOfColumn_26 ?_
        refine g_istore_n (L' := [(2, .int (nI (sumF (fun k => gc (C * k + i)) (k + 1)))), (0, .ref (ad 0)), (1, .int (nI i)), (3, .int (nI k))]) fx dX12_marginOfColumn_27 (by decide) rfl ?_
        refine g_iinc (L' := [(3, .int (nI (k + 1))), (2, .int (nI (sumF (fun k => gc (C * k + i)) (k + 1)))), (0, .ref (ad 0)), (1, .int (nI i))]) fx (nI (k + 1)) 3 dX12_marginOfColumn_28 rfl (gInc _) (by decide) rfl ?_
        refine g_goto fx 4 dX12_marginOfColumn_31 (by decide) ?_
        refine g_locals (L' := [(0, .ref (ad 0)), (1, .int (nI i)), (2, .int (nI (sumF (fun k => gc (C * k + i)) (k + 1)))), (3, .int (nI (k + 1)))]) [2, 3, 1, 0] rfl ?_
        exact ih (k + 1) hlt2 (by omega)
  refine g_locals (L' := [(0, .ref (ad 0)), (1, .int (nI i)), (2, .int (nI 0)), (3, .int (nI 0))]) [2, 3, 1, 0] rfl ?_
  exact LP4 (R + 1) 0 (by omega) (by omega)
set_option maxHeartbeats 4000000 in
set_option maxRecDepth 100000 in
theorem c_X12_told (B : gB) (ad : Nat → Nat) (ct : Nat → va_E) (n : Nat) (f : Nat → Int32) (fm : Nat → Int32) (hn : 33 ≤ n) (h0 : ct 0 = mObj ad f) (hm : ct 7 = .inl (B.2.1 0, 2, .inl fm)) (x : Int32) : Ctr B yX12_told cX12_told 2 (some .int) 0 0 0 0 ad ct n [.ref (ad 0), .int x] (gPip ad ct n (fun q => q = toldM f fm x.toInt)) := by
  refine Ctr.ofG (L := [(0, .ref (ad 0)), (1, .int x)]) (by decide +kernel) rfl (Nat.le_of_ble_eq_true rfl) (fun E fx rt hnm => ?_)
  refine g_iload_n fx 1 dX12_told_0 rfl ?_
  by_cases hsw1 : x.toInt < 0 ∨ 7 < x.toInt
  · refine g_tableOut fx 92 dX12_told_1 hsw1 (by decide) ?_
    refine g_bipush (v := (-2)) fx dX12_told_92 (by decide +kernel) ?_
    refine g_iret fx rt dX12_told_94 ?_
    refine gPip.mk ?_
    unfold toldM
    rw [if_neg (by omega), if_neg (by omega), if_neg (by omega), if_neg (by omega), if_neg (by omega), if_neg (by omega), if_neg (by omega), if_neg (by omega)]
  · have hsv : x.toInt = 0 ∨ x.toInt = 1 ∨ x.toInt = 2 ∨ x.toInt = 3 ∨ x.toInt = 4 ∨ x.toInt = 5 ∨ x.toInt = 6 ∨ x.toInt = 7 := by omega
    rcases hsv with hsv | hsv | hsv | hsv | hsv | hsv | hsv | hsv
    · refine g_tableIn fx 48 dX12_told_1 (by rw [hsv]; decide) (by rw [hsv]; decide) (off := 47) (by rw [hsv]; rfl) (by decide) ?_
      refine g_aload_n fx 0 dX12_told_48 rfl ?_
      refine g_get (r := 0) fx lkX12_28 (by omega) h0 rfl dX12_told_49 ?_
      refine g_iconst (v := 0) fx dX12_told_52 (by decide +kernel) ?_
      refine g_iald (r := 7) (j := 0) fx (by omega) hm rfl (by omega) dX12_told_53 ?_
      refine g_iret fx rt dX12_told_54 ?_
      refine gPip.mk ?_
      simp [toldM, hsv]
    · refine g_tableIn fx 55 dX12_told_1 (by rw [hsv]; decide) (by rw [hsv]; decide) (off := 54) (by rw [hsv]; rfl) (by decide) ?_
      refine g_aload_n fx 0 dX12_told_55 rfl ?_
      refine g_get (r := 0) fx lkX12_28 (by omega) h0 rfl dX12_told_56 ?_
      refine g_iconst (v := 1) fx dX12_told_59 (by decide +kernel) ?_
      refine g_iald (r := 7) (j := 1) fx (by omega) hm rfl (by omega) dX12_told_60 ?_
      refine g_iret fx rt dX12_told_61 ?_
      refine gPip.mk ?_
      simp [toldM, hsv]
    · refine g_tableIn fx 62 dX12_told_1 (by rw [hsv]; decide) (by rw [hsv]; decide) (off := 61) (by rw [hsv]; rfl) (by decide) ?_
      refine g_aload_n fx 0 dX12_told_62 rfl ?_
      refine g_get (r := 0) fx lkX12_181 (by omega) h0 rfl dX12_told_63 ?_
      refine g_iret fx rt dX12_told_66 ?_
      refine gPip.mk ?_
      simp [toldM, hsv]
    · refine g_tableIn fx 67 dX12_told_1 (by rw [hsv]; decide) (by rw [hsv]; decide) (off := 66) (by rw [hsv]; rfl) (by decide) ?_
      refine g_aload_n fx 0 dX12_told_67 rfl ?_
      refine g_get (r := 0) fx lkX12_184 (by omega) h0 rfl dX12_told_68 ?_
      refine g_iret fx rt dX12_told_71 ?_
      refine gPip.mk ?_
      simp [toldM, hsv]
    · refine g_tableIn fx 72 dX12_told_1 (by rw [hsv]; decide) (by rw [hsv]; decide) (off := 71) (by rw [hsv]; rfl) (by decide) ?_
      refine g_aload_n fx 0 dX12_told_72 rfl ?_
      refine g_get (r := 0) fx lkX12_187 (by omega) h0 rfl dX12_told_73 ?_
      refine g_iret fx rt dX12_told_76 ?_
      refine gPip.mk ?_
      simp [toldM, hsv]
    · refine g_tableIn fx 77 dX12_told_1 (by rw [hsv]; decide) (by rw [hsv]; decide) (off := 76) (by rw [hsv]; rfl) (by decide) ?_
      refine g_aload_n fx 0 dX12_told_77 rfl ?_
      refine g_get (r := 0) fx lkX12_115 (by omega) h0 rfl dX12_told_78 ?_
      refine g_iret fx rt dX12_told_81 ?_
      refine gPip.mk ?_
      simp [toldM, hsv]
    · refine g_tableIn fx 82 dX12_told_1 (by rw [hsv]; decide) (by rw [hsv]; decide) (off := 81) (by rw [hsv]; rfl) (by decide) ?_
      refine g_aload_n fx 0 dX12_told_82 rfl ?_
      refine g_get (r := 0) fx lkX12_118 (by omega) h0 rfl dX12_told_83 ?_
      refine g_iret fx rt dX12_told_86 ?_
      refine gPip.mk ?_
      simp [toldM, hsv]
    · refine g_tableIn fx 87 dX12_told_1 (by rw [hsv]; decide) (by rw [hsv]; decide) (off := 86) (by rw [hsv]; rfl) (by decide) ?_
      refine g_aload_n fx 0 dX12_told_87 rfl ?_
      refine g_get (r := 0) fx lkX12_228 (by omega) h0 rfl dX12_told_88 ?_
      refine g_iret fx rt dX12_told_91 ?_
      refine gPip.mk ?_
      simp [toldM, hsv]
set_option maxHeartbeats 4000000 in
set_option maxRecDepth 100000 in
theorem c_X12_result (B : gB) (ad : Nat → Nat) (ct : Nat → va_E) (n : Nat) (f : Nat → Int32) (hn : 33 ≤ n) (h0 : ct 0 = mObj ad f) (x : Int32) : Ctr B yX12_result cX12_result 2 (some .int) 0 0 0 0 ad ct n [.ref (ad 0), .int x] (gPip ad ct n (fun q => q = resultM f x)) := by
  refine Ctr.ofG (L := [(0, .ref (ad 0)), (1, .int x)]) (by decide +kernel) rfl (Nat.le_of_ble_eq_true rfl) (fun E fx rt hnm => ?_)
  refine g_aload_n fx 0 dX12_result_0 rfl ?_
  refine g_get (r := 0) fx lkX12_34 (by omega) h0 rfl dX12_result_1 ?_
  refine g_if_ge fx 11 dX12_result_4 (by decide) (fun c4 => ?_) (fun c4 => ?_)
  · skip
    refine g_iload_n fx 1 dX12_result_11 rfl ?_
    refine g_if_ne fx 22 dX12_result_12 (by decide) (fun c12 => ?_) (fun c12 => ?_)
    · skip
      refine g_iload_n fx 1 dX12_result_22 rfl ?_
      refine g_iconst (v := 1) fx dX12_result_23 (by decide +kernel) ?_
      refine g_icmp_ne fx 34 dX12_result_24 (by decide) (fun c24 => ?_) (fun c24 => ?_)
      · skip
        refine g_iload_n fx 1 dX12_result_34 rfl ?_
        refine g_iconst (v := 2) fx dX12_result_35 (by decide +kernel) ?_
        refine g_icmp_ne fx 46 dX12_result_36 (by decide) (fun c36 => ?_) (fun c36 => ?_)
        · skip
          refine g_ldcw fx kcX12_307 dX12_result_46 ?_
          refine g_iret fx rt dX12_result_49 ?_
          refine gPip.mk ?_
          unfold resultM
          rw [if_neg (Int32.not_lt.mpr c4)]
          first | (rw [if_pos c12]; done) | (rw [if_neg c12, if_pos c24]; done) | (rw [if_neg c12, if_neg c24, if_pos c36]; done) | (rw [if_neg c12, if_neg c24, if_neg c36]; done)
        · skip
          refine g_aload_n fx 0 dX12_result_39 rfl ?_
          refine g_get (r := 0) fx lkX12_240 (by omega) h0 rfl dX12_result_40 ?_
          refine g_goto fx 49 dX12_result_43 (by decide) ?_
          refine g_iret fx rt dX12_result_49 ?_
          refine gPip.mk ?_
          unfold resultM
          rw [if_neg (Int32.not_lt.mpr c4)]
          first | (rw [if_pos c12]; done) | (rw [if_neg c12, if_pos c24]; done) | (rw [if_neg c12, if_neg c24, if_pos c36]; done) | (rw [if_neg c12, if_neg c24, if_neg c36]; done)
      · skip
        refine g_aload_n fx 0 dX12_result_27 rfl ?_
        refine g_get (r := 0) fx lkX12_237 (by omega) h0 rfl dX12_result_28 ?_
        refine g_goto fx 49 dX12_result_31 (by decide) ?_
        refine g_iret fx rt dX12_result_49 ?_
        refine gPip.mk ?_
        unfold resultM
        rw [if_neg (Int32.not_lt.mpr c4)]
        first | (rw [if_pos c12]; done) | (rw [if_neg c12, if_pos c24]; done) | (rw [if_neg c12, if_neg c24, if_pos c36]; done) | (rw [if_neg c12, if_neg c24, if_neg c36]; done)
    · skip
      refine g_aload_n fx 0 dX12_result_15 rfl ?_
      refine g_get (r := 0) fx lkX12_34 (by omega) h0 rfl dX12_result_16 ?_
      refine g_goto fx 49 dX12_result_19 (by decide) ?_
      refine g_iret fx rt dX12_result_49 ?_
      refine gPip.mk ?_
      unfold resultM
      rw [if_neg (Int32.not_lt.mpr c4)]
      first | (rw [if_pos c12]; done) | (rw [if_neg c12, if_pos c24]; done) | (rw [if_neg c12, if_neg c24, if_pos c36]; done) | (rw [if_neg c12, if_neg c24, if_neg c36]; done)
  · skip
    refine g_ldcw fx kcX12_268 dX12_result_7 ?_
    refine g_iret fx rt dX12_result_10 ?_
    refine gPip.mk ?_
    unfold resultM
    rw [if_pos (Int32.not_le.mp c4)]
