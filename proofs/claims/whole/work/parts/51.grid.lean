theorem toR {x : Int32} {R : Nat} (h : 0 ≤ x.toInt ∧ x.toInt < (R : Int)) : ∃ i : Nat, i < R ∧ x = nI i := by
  obtain ⟨k, h1, h2⟩ := toN (x := x) (lo := 0) (hi := (R : Int) - 1) ⟨h.1, by omega⟩ (by omega)
  exact ⟨k, by omega, h2⟩
theorem inR {i R : Nat} (h : i < R) (hR : R < 2 ^ 31) : 0 ≤ (nI i).toInt ∧ (nI i).toInt < (R : Int) := by
  rw [nI_toInt (by omega)]; omega
theorem sum25 {gk : Nat → Nat} {i : Nat} (hb : ∀ j, j < 25 → gk j ≤ 60) (hi : i ≤ 25) : sumF gk i ≤ 1500 := by
  have := sumF_le (f := gk) (b := 60) i (fun j hj => hb j (by omega)); omega
set_option maxHeartbeats 4000000 in
set_option maxRecDepth 100000 in
theorem c_X3_rows (B : gB) (ad : Nat → Nat) (ct : Nat → va_E) (n : Nat) (gk : Nat → Nat) (R C : Nat) (hn : 178 ≤ n) (hg : ct 1 = .inr (3, [.ref (ad 2), .int (nI R), .int (nI C)])) (hgc : ct 2 = .inl (B.2.1 0, 25, .inl (nF gk))) (hR5 : R ≤ 5) (hC5 : C ≤ 5) : Ctr B yX3_rows cX3_rows 1 (some .int) 0 0 0 0 ad ct n [.ref (ad 1)] (gPip ad ct n (fun r => r = nI R)) := by
  refine Ctr.ofG (L := [(0, .ref (ad 1))]) (by decide +kernel) rfl (Nat.le_of_ble_eq_true rfl) (fun E fx rt hnm => ?_)
  refine g_aload_n fx 0 dX3_rows_0 rfl ?_
  refine g_get (r := 1) fx lkX3_15 (by omega) hg rfl dX3_rows_1 ?_
  refine g_iret fx rt dX3_rows_4 ?_
  refine gPip.mk ?_
  rfl
set_option maxHeartbeats 4000000 in
set_option maxRecDepth 100000 in
theorem c_X3_columns (B : gB) (ad : Nat → Nat) (ct : Nat → va_E) (n : Nat) (gk : Nat → Nat) (R C : Nat) (hn : 178 ≤ n) (hg : ct 1 = .inr (3, [.ref (ad 2), .int (nI R), .int (nI C)])) (hgc : ct 2 = .inl (B.2.1 0, 25, .inl (nF gk))) (hR5 : R ≤ 5) (hC5 : C ≤ 5) : Ctr B yX3_columns cX3_columns 1 (some .int) 0 0 0 0 ad ct n [.ref (ad 1)] (gPip ad ct n (fun r => r = nI C)) := by
  refine Ctr.ofG (L := [(0, .ref (ad 1))]) (by decide +kernel) rfl (Nat.le_of_ble_eq_true rfl) (fun E fx rt hnm => ?_)
  refine g_aload_n fx 0 dX3_columns_0 rfl ?_
  refine g_get (r := 1) fx lkX3_19 (by omega) hg rfl dX3_columns_1 ?_
  refine g_iret fx rt dX3_columns_4 ?_
  refine gPip.mk ?_
  rfl
set_option maxHeartbeats 4000000 in
set_option maxRecDepth 100000 in
theorem c_X3_hasRow (B : gB) (ad : Nat → Nat) (ct : Nat → va_E) (n : Nat) (gk : Nat → Nat) (R C : Nat) (hn : 178 ≤ n) (hg : ct 1 = .inr (3, [.ref (ad 2), .int (nI R), .int (nI C)])) (hgc : ct 2 = .inl (B.2.1 0, 25, .inl (nF gk))) (hR5 : R ≤ 5) (hC5 : C ≤ 5) (x : Int32) : Ctr B yX3_hasRow cX3_hasRow 2 (some .boolean) 0 0 0 0 ad ct n [.ref (ad 1), .int x] (gPip ad ct n (fun r => r = if 0 ≤ x.toInt ∧ x.toInt < (R : Int) then 1 else 0)) := by
  refine Ctr.ofG (L := [(0, .ref (ad 1)), (1, .int x)]) (by decide +kernel) rfl (Nat.le_of_ble_eq_true rfl) (fun E fx rt hnm => ?_)
  refine g_iload_n fx 1 dX3_hasRow_0 rfl ?_
  refine g_if_lt fx 16 dX3_hasRow_1 (by decide) (fun c1 => ?_) (fun c1 => ?_)
  · skip
    refine g_iconst (v := 0) fx dX3_hasRow_16 (by decide +kernel) ?_
    have hk := nI_toInt (n := R) (by omega)
    refine g_zret fx rt dX3_hasRow_17 rfl ?_
    refine gPip.mk ?_
    first | (rw [if_neg (by have := Int32.lt_iff_toInt_lt.mp c1; simp at this; omega)]; done) | (rw [if_neg (by have := Int32.le_iff_toInt_le.mp c9; omega)]; done) | (rw [if_pos (by have h1 := Int32.not_lt.mp c1; have h1 := Int32.le_iff_toInt_le.mp h1; have h2 := Int32.lt_iff_toInt_lt.mp (Int32.not_le.mp c9); simp at h1; omega)]; done)
  · skip
    refine g_iload_n fx 1 dX3_hasRow_4 rfl ?_
    refine g_aload_n fx 0 dX3_hasRow_5 rfl ?_
    refine g_get (r := 1) fx lkX3_15 (by omega) hg rfl dX3_hasRow_6 ?_
    refine g_icmp_ge fx 16 dX3_hasRow_9 (by decide) (fun c9 => ?_) (fun c9 => ?_)
    · skip
      refine g_iconst (v := 0) fx dX3_hasRow_16 (by decide +kernel) ?_
      have hk := nI_toInt (n := R) (by omega)
      refine g_zret fx rt dX3_hasRow_17 rfl ?_
      refine gPip.mk ?_
      first | (rw [if_neg (by have := Int32.lt_iff_toInt_lt.mp c1; simp at this; omega)]; done) | (rw [if_neg (by have := Int32.le_iff_toInt_le.mp c9; omega)]; done) | (rw [if_pos (by have h1 := Int32.not_lt.mp c1; have h1 := Int32.le_iff_toInt_le.mp h1; have h2 := Int32.lt_iff_toInt_lt.mp (Int32.not_le.mp c9); simp at h1; omega)]; done)
    · skip
      refine g_iconst (v := 1) fx dX3_hasRow_12 (by decide +kernel) ?_
      refine g_goto fx 17 dX3_hasRow_13 (by decide) ?_
      have hk := nI_toInt (n := R) (by omega)
      refine g_zret fx rt dX3_hasRow_17 rfl ?_
      refine gPip.mk ?_
      first | (rw [if_neg (by have := Int32.lt_iff_toInt_lt.mp c1; simp at this; omega)]; done) | (rw [if_neg (by have := Int32.le_iff_toInt_le.mp c9; omega)]; done) | (rw [if_pos (by have h1 := Int32.not_lt.mp c1; have h1 := Int32.le_iff_toInt_le.mp h1; have h2 := Int32.lt_iff_toInt_lt.mp (Int32.not_le.mp c9); simp at h1; omega)]; done)
set_option maxHeartbeats 4000000 in
set_option maxRecDepth 100000 in
theorem c_X3_hasColumn (B : gB) (ad : Nat → Nat) (ct : Nat → va_E) (n : Nat) (gk : Nat → Nat) (R C : Nat) (hn : 178 ≤ n) (hg : ct 1 = .inr (3, [.ref (ad 2), .int (nI R), .int (nI C)])) (hgc : ct 2 = .inl (B.2.1 0, 25, .inl (nF gk))) (hR5 : R ≤ 5) (hC5 : C ≤ 5) (x : Int32) : Ctr B yX3_hasColumn cX3_hasColumn 2 (some .boolean) 0 0 0 0 ad ct n [.ref (ad 1), .int x] (gPip ad ct n (fun r => r = if 0 ≤ x.toInt ∧ x.toInt < (C : Int) then 1 else 0)) := by
  refine Ctr.ofG (L := [(0, .ref (ad 1)), (1, .int x)]) (by decide +kernel) rfl (Nat.le_of_ble_eq_true rfl) (fun E fx rt hnm => ?_)
  refine g_iload_n fx 1 dX3_hasColumn_0 rfl ?_
  refine g_if_lt fx 16 dX3_hasColumn_1 (by decide) (fun c1 => ?_) (fun c1 => ?_)
  · skip
    refine g_iconst (v := 0) fx dX3_hasColumn_16 (by decide +kernel) ?_
    have hk := nI_toInt (n := C) (by omega)
    refine g_zret fx rt dX3_hasColumn_17 rfl ?_
    refine gPip.mk ?_
    first | (rw [if_neg (by have := Int32.lt_iff_toInt_lt.mp c1; simp at this; omega)]; done) | (rw [if_neg (by have := Int32.le_iff_toInt_le.mp c9; omega)]; done) | (rw [if_pos (by have h1 := Int32.not_lt.mp c1; have h1 := Int32.le_iff_toInt_le.mp h1; have h2 := Int32.lt_iff_toInt_lt.mp (Int32.not_le.mp c9); simp at h1; omega)]; done)
  · skip
    refine g_iload_n fx 1 dX3_hasColumn_4 rfl ?_
    refine g_aload_n fx 0 dX3_hasColumn_5 rfl ?_
    refine g_get (r := 1) fx lkX3_19 (by omega) hg rfl dX3_hasColumn_6 ?_
    refine g_icmp_ge fx 16 dX3_hasColumn_9 (by decide) (fun c9 => ?_) (fun c9 => ?_)
    · skip
      refine g_iconst (v := 0) fx dX3_hasColumn_16 (by decide +kernel) ?_
      have hk := nI_toInt (n := C) (by omega)
      refine g_zret fx rt dX3_hasColumn_17 rfl ?_
      refine gPip.mk ?_
      first | (rw [if_neg (by have := Int32.lt_iff_toInt_lt.mp c1; simp at this; omega)]; done) | (rw [if_neg (by have := Int32.le_iff_toInt_le.mp c9; omega)]; done) | (rw [if_pos (by have h1 := Int32.not_lt.mp c1; have h1 := Int32.le_iff_toInt_le.mp h1; have h2 := Int32.lt_iff_toInt_lt.mp (Int32.not_le.mp c9); simp at h1; omega)]; done)
    · skip
      refine g_iconst (v := 1) fx dX3_hasColumn_12 (by decide +kernel) ?_
      refine g_goto fx 17 dX3_hasColumn_13 (by decide) ?_
      have hk := nI_toInt (n := C) (by omega)
      refine g_zret fx rt dX3_hasColumn_17 rfl ?_
      refine gPip.mk ?_
      first | (rw [if_neg (by have := Int32.lt_iff_toInt_lt.mp c1; simp at this; omega)]; done) | (rw [if_neg (by have := Int32.le_iff_toInt_le.mp c9; omega)]; done) | (rw [if_pos (by have h1 := Int32.not_lt.mp c1; have h1 := Int32.le_iff_toInt_le.mp h1; have h2 := Int32.lt_iff_toInt_lt.mp (Int32.not_le.mp c9); simp at h1; omega)]; done)
set_option maxHeartbeats 4000000 in
set_option maxRecDepth 100000 in
theorem c_X3_at (B : gB) (ad : Nat → Nat) (ct : Nat → va_E) (n : Nat) (gk : Nat → Nat) (R C : Nat) (hn : 178 ≤ n) (hg : ct 1 = .inr (3, [.ref (ad 2), .int (nI R), .int (nI C)])) (hgc : ct 2 = .inl (B.2.1 0, 25, .inl (nF gk))) (hR5 : R ≤ 5) (hC5 : C ≤ 5) (x y : Int32) : Ctr B yX3_at cX3_at 3 (some .int) 1 21 0 0 ad ct n [.ref (ad 1), .int x, .int y] (gPip ad ct n (fun r => r = if (0 ≤ x.toInt ∧ x.toInt < (R : Int)) ∧ (0 ≤ y.toInt ∧ y.toInt < (C : Int)) then nI (gk (5 * x.toInt.toNat + y.toInt.toNat)) else 0)) := by
  refine Ctr.ofG (L := [(0, .ref (ad 1)), (1, .int x), (2, .int y)]) (by decide +kernel) rfl (Nat.le_of_ble_eq_true rfl) (fun E fx rt hnm => ?_)
  refine g_aload_n fx 0 dX3_at_0 rfl ?_
  refine g_iload_n fx 1 dX3_at_1 rfl ?_
  refine g_callVip (As := [.int x]) (rest := []) fx slX3_22 (c_X3_hasRow B ad ct n gk R C hn hg hgc hR5 hC5 x) (by omega) hg rfl rfl rfl (Nat.le_of_ble_eq_true rfl) ⟨by decide, by decide⟩ ⟨by decide, by decide⟩ dX3_at_2 (fun q1 hq1 => ?_)
  refine g_if_eq fx 29 dX3_at_5 (by decide) (fun c5 => ?_) (fun c5 => ?_)
  · skip
    have hA : ¬ ((0 ≤ x.toInt ∧ x.toInt < (R : Int)) ∧ (0 ≤ y.toInt ∧ y.toInt < (C : Int))) := fun w => if01_z.mp (hq1 ▸ c5) w.1
    refine g_iconst (v := nI 0) fx dX3_at_29 (by decide +kernel) ?_
    refine g_iret fx rt dX3_at_30 ?_
    refine gPip.mk ?_
    first | (rw [if_neg hA]; rfl) | (rw [if_pos ⟨hx, hy⟩, hix])
  · skip
    have hx := if01_n.mp (hq1 ▸ c5)
    refine g_aload_n fx 0 dX3_at_8 rfl ?_
    refine g_iload_n fx 2 dX3_at_9 rfl ?_
    refine g_callVip (As := [.int y]) (rest := []) fx slX3_26 (c_X3_hasColumn B ad ct n gk R C hn hg hgc hR5 hC5 y) (by omega) hg rfl rfl rfl (Nat.le_of_ble_eq_true rfl) ⟨by decide, by decide⟩ ⟨by decide, by decide⟩ dX3_at_10 (fun q2 hq2 => ?_)
    refine g_if_eq fx 29 dX3_at_13 (by decide) (fun c13 => ?_) (fun c13 => ?_)
    · skip
      have hA : ¬ ((0 ≤ x.toInt ∧ x.toInt < (R : Int)) ∧ (0 ≤ y.toInt ∧ y.toInt < (C : Int))) := fun w => if01_z.mp (hq2 ▸ c13) w.2
      refine g_iconst (v := nI 0) fx dX3_at_29 (by decide +kernel) ?_
      refine g_iret fx rt dX3_at_30 ?_
      refine gPip.mk ?_
      first | (rw [if_neg hA]; rfl) | (rw [if_pos ⟨hx, hy⟩, hix])
    · skip
      have hy := if01_n.mp (hq2 ▸ c13)
      obtain ⟨i, hi, ex⟩ := toR hx
      obtain ⟨j, hj, ey⟩ := toR hy
      have hix : i * 5 + j = 5 * x.toInt.toNat + y.toInt.toNat := by rw [ex, ey, nI_toInt (by omega), nI_toInt (by omega), Nat.mul_comm]; rfl
      refine g_relocal (L' := [(0, .ref (ad 1)), (1, .int (nI i)), (2, .int (nI j))]) (by rw [ex, ey]) ?_
      refine g_aload_n fx 0 dX3_at_16 rfl ?_
      refine g_get (r := 1) fx lkX3_9 (by omega) hg rfl dX3_at_17 ?_
      refine g_iload_n fx 1 dX3_at_20 rfl ?_
      refine g_iconst (v := nI 5) fx dX3_at_21 (by decide +kernel) ?_
      refine g_imulN fx dX3_at_22 ?_
      refine g_iload_n fx 2 dX3_at_23 rfl ?_
      refine g_iaddN fx dX3_at_24 ?_
      refine g_iald (r := 2) (j := ((i * 5) + j)) fx (by omega) hgc (nI_toInt (by omega)) (by omega) dX3_at_25 ?_
      refine g_isi (y := nI (gk ((i * 5) + j))) rfl ?_
      refine g_goto fx 30 dX3_at_26 (by decide) ?_
      refine g_iret fx rt dX3_at_30 ?_
      refine gPip.mk ?_
      first | (rw [if_neg hA]; rfl) | (rw [if_pos ⟨hx, hy⟩, hix])
set_option maxHeartbeats 4000000 in
set_option maxRecDepth 100000 in
theorem c_X3_put (B : gB) (ad : Nat → Nat) (ct : Nat → va_E) (n : Nat) (gk : Nat → Nat) (R C : Nat) (hn : 178 ≤ n) (hg : ct 1 = .inr (3, [.ref (ad 2), .int (nI R), .int (nI C)])) (hgc : ct 2 = .inl (B.2.1 0, 25, .inl (nF gk))) (hR5 : R ≤ 5) (hC5 : C ≤ 5) (i j v : Nat) (hi : i < R) (hj : j < C) : Ctr B yX3_put cX3_put 4 none 1 21 0 0 ad ct n [.ref (ad 1), .int (nI i), .int (nI j), .int (nI v)] (gPv ad n (fun ct' => ct' = va_up ct 2 (.inl (B.2.1 0, 25, .inl (nF (va_up gk (5 * i + j) v)))))) := by
  have hct := va_same hgc
  refine Ctr.ofG (L := [(0, .ref (ad 1)), (1, .int (nI i)), (2, .int (nI j)), (3, .int (nI v))]) (by decide +kernel) rfl (Nat.le_of_ble_eq_true rfl) (fun E fx rt hnm => ?_)
  refine g_aload_n fx 0 dX3_put_0 rfl ?_
  refine g_iload_n fx 1 dX3_put_1 rfl ?_
  refine g_callVip (As := [.int (nI i)]) (rest := []) fx slX3_22 (c_X3_hasRow B ad ct n gk R C hn hg hgc hR5 hC5 (nI i)) (by omega) hg rfl rfl rfl (Nat.le_of_ble_eq_true rfl) ⟨by decide, by decide⟩ ⟨by decide, by decide⟩ dX3_put_2 (fun q1 hq1 => ?_)
  refine g_if_eq fx 27 dX3_put_5 (by decide) (fun c5 => ?_) (fun c5 => ?_)
  · exact absurd (inR hi (by omega)) (if01_z.mp (hq1 ▸ c5))
  refine g_aload_n fx 0 dX3_put_8 rfl ?_
  refine g_iload_n fx 2 dX3_put_9 rfl ?_
  refine g_callVip (As := [.int (nI j)]) (rest := []) fx slX3_26 (c_X3_hasColumn B ad ct n gk R C hn hg hgc hR5 hC5 (nI j)) (by omega) hg rfl rfl rfl (Nat.le_of_ble_eq_true rfl) ⟨by decide, by decide⟩ ⟨by decide, by decide⟩ dX3_put_10 (fun q2 hq2 => ?_)
  refine g_if_eq fx 27 dX3_put_13 (by decide) (fun c13 => ?_) (fun c13 => ?_)
  · exact absurd (inR hj (by omega)) (if01_z.mp (hq2 ▸ c13))
  refine g_aload_n fx 0 dX3_put_16 rfl ?_
  refine g_get (r := 1) fx lkX3_9 (by omega) hg rfl dX3_put_17 ?_
  refine g_iload_n fx 1 dX3_put_20 rfl ?_
  refine g_iconst (v := nI 5) fx dX3_put_21 (by decide +kernel) ?_
  refine g_imulN fx dX3_put_22 ?_
  refine g_iload_n fx 2 dX3_put_23 rfl ?_
  refine g_iaddN fx dX3_put_24 ?_
  refine g_iload_n fx 3 dX3_put_25 rfl ?_
  refine g_iast (r := 2) (j := ((i * 5) + j)) fx (by omega) hgc (nI_toInt (by omega)) (by omega) dX3_put_26 (fun cu3 ecu3 => ?_)
  have hct : cu3 = va_up ct 2 (.inl (B.2.1 0, 25, .inl (nF (va_up gk ((i * 5) + j) v)))) := up2n hct ecu3
  have hg : cu3 1 = .inr (3, [.ref (ad 2), .int (nI R), .int (nI C)]) := (congrFun ecu3 _).trans ((va_up_ne _ _ (by omega)).trans hg)
  have hgc : cu3 2 = .inl (B.2.1 0, 25, .inl (nF (va_up gk ((i * 5) + j) v))) := by rw [ecu3, va_up_self, nF_up]
  refine g_vret fx rt dX3_put_27 ?_
  rw [show i * 5 + j = 5 * i + j by omega] at hct
  exact gPv.mk hct
set_option maxHeartbeats 4000000 in
set_option maxRecDepth 100000 in
theorem c_X3_rowSum (B : gB) (ad : Nat → Nat) (ct : Nat → va_E) (n : Nat) (gk : Nat → Nat) (R C : Nat) (hn : 178 ≤ n) (hg : ct 1 = .inr (3, [.ref (ad 2), .int (nI R), .int (nI C)])) (hgc : ct 2 = .inl (B.2.1 0, 25, .inl (nF gk))) (hR5 : R ≤ 5) (hC5 : C ≤ 5) (i : Nat) (hi : i < R) (hb : ∀ j, j < 25 → gk j ≤ 60) : Ctr B yX3_rowSum cX3_rowSum 4 (some .int) 2 43 0 0 ad ct n [.ref (ad 1), .int (nI i)] (gPip ad ct n (fun r => r = nI (sumF (fun k => gk (5 * i + k)) C))) := by
  refine Ctr.ofG (L := [(0, .ref (ad 1)), (1, .int (nI i))]) (by decide +kernel) rfl (Nat.le_of_ble_eq_true rfl) (fun E fx rt hnm => ?_)
  refine g_iconst (v := nI 0) fx dX3_rowSum_0 (by decide +kernel) ?_
  refine g_istore_n (L' := [(2, .int (nI 0)), (0, .ref (ad 1)), (1, .int (nI i))]) fx dX3_rowSum_1 (by decide) rfl ?_
  refine g_iconst (v := nI 0) fx dX3_rowSum_2 (by decide +kernel) ?_
  refine g_istore_n (L' := [(3, .int (nI 0)), (2, .int (nI 0)), (0, .ref (ad 1)), (1, .int (nI i))]) fx dX3_rowSum_3 (by decide) rfl ?_
  have LP4 : ∀ (M : Nat) (k : Nat), (k ≤ C) →  (C - k) < M → G B 4 E ad ct n 0 0 [(0, .ref (ad 1)), (1, .int (nI i)), (2, .int (nI (sumF (fun k => gk (5 * i + k)) k))), (3, .int (nI k))] 4 [] := by
    intro M
    induction M with
    | zero => intro k _ hM; exact absurd hM (Nat.not_lt_zero _)
    | succ M ih =>
      intro k hk hM
      have ih4 := ih
      refine g_iload_n fx 3 dX3_rowSum_4 rfl ?_
      refine g_aload_n fx 0 dX3_rowSum_5 rfl ?_
      refine g_get (r := 1) fx lkX3_19 (by omega) hg rfl dX3_rowSum_6 ?_
      refine g_icmp_ge fx 27 dX3_rowSum_9 (by decide) (fun c9 => ?_) (fun c9 => ?_)
      · skip
        have hke : k = C := by have := (nI_leI (by omega) (by omega)).mp c9; omega
        refine g_iload_n fx 2 dX3_rowSum_27 rfl ?_
        refine g_iret fx rt dX3_rowSum_28 ?_
        refine gPip.mk ?_
        rw [hke]
      · skip
        have hlt : k < C := (nI_ltI (by omega) (by omega)).mp (Int32.not_le.mp c9)
        refine g_iload_n fx 2 dX3_rowSum_12 rfl ?_
        refine g_aload_n fx 0 dX3_rowSum_13 rfl ?_
        refine g_iload_n fx 1 dX3_rowSum_14 rfl ?_
        refine g_iload_n fx 3 dX3_rowSum_15 rfl ?_
        refine g_callVip (As := [.int (nI i), .int (nI k)]) (rest := [.int (nI (sumF (fun k => gk (5 * i + k)) k))]) fx slX3_29 (c_X3_at B ad ct n gk R C hn hg hgc hR5 hC5 (nI i) (nI k)) (by omega) hg rfl rfl rfl (Nat.le_of_ble_eq_true rfl) ⟨by decide, by decide⟩ ⟨by decide, by decide⟩ dX3_rowSum_16 (fun q1 hq1 => ?_)
        have hq : q1 = nI (gk (5 * i + k)) := by rw [hq1, if_pos ⟨inR (by omega) (by omega), inR (by omega) (by omega)⟩, nI_toInt (by omega), nI_toInt (by omega)]; rfl
        refine g_isi (y := nI (gk (5 * i + k))) hq ?_
        refine g_iaddN fx dX3_rowSum_19 ?_
        refine g_istore_n (L' := [(2, .int (nI ((sumF (fun k => gk (5 * i + k)) k) + (gk (5 * i + k))))), (0, .ref (ad 1)), (1, .int (nI i)), (3, .int (nI k))]) fx dX3_rowSum_20 (by decide) rfl ?_
        refine g_iinc (L' := [(3, .int (nI (k + 1))), (2, .int (nI ((sumF (fun k => gk (5 * i + k)) k) + (gk (5 * i + k))))), (0, .ref (ad 1)), (1, .int (nI i))]) fx (nI (k + 1)) 3 dX3_rowSum_21 rfl (gInc _) (by decide) rfl ?_
        refine g_goto fx 4 dX3_rowSum_24 (by decide) ?_
        refine g_locals (L' := [(0, .ref (ad 1)), (1, .int (nI i)), (2, .int (nI ((sumF (fun k => gk (5 * i + k)) k) + (gk (5 * i + k))))), (3, .int (nI (k + 1)))]) [2, 3, 1, 0] rfl ?_
        exact ih4 (k + 1) (by omega) (by omega)
  refine g_locals (L' := [(0, .ref (ad 1)), (1, .int (nI i)), (2, .int (nI 0)), (3, .int (nI 0))]) [2, 3, 1, 0] rfl ?_
  exact LP4 (C + 1) 0 (by omega) (by omega)
set_option maxHeartbeats 4000000 in
set_option maxRecDepth 100000 in
theorem c_X3_columnSum (B : gB) (ad : Nat → Nat) (ct : Nat → va_E) (n : Nat) (gk : Nat → Nat) (R C : Nat) (hn : 178 ≤ n) (hg : ct 1 = .inr (3, [.ref (ad 2), .int (nI R), .int (nI C)])) (hgc : ct 2 = .inl (B.2.1 0, 25, .inl (nF gk))) (hR5 : R ≤ 5) (hC5 : C ≤ 5) (i : Nat) (hi : i < C) (hb : ∀ j, j < 25 → gk j ≤ 60) : Ctr B yX3_columnSum cX3_columnSum 4 (some .int) 2 43 0 0 ad ct n [.ref (ad 1), .int (nI i)] (gPip ad ct n (fun r => r = nI (sumF (fun k => gk (5 * k + i)) R))) := by
  refine Ctr.ofG (L := [(0, .ref (ad 1)), (1, .int (nI i))]) (by decide +kernel) rfl (Nat.le_of_ble_eq_true rfl) (fun E fx rt hnm => ?_)
  refine g_iconst (v := nI 0) fx dX3_columnSum_0 (by decide +kernel) ?_
  refine g_istore_n (L' := [(2, .int (nI 0)), (0, .ref (ad 1)), (1, .int (nI i))]) fx dX3_columnSum_1 (by decide) rfl ?_
  refine g_iconst (v := nI 0) fx dX3_columnSum_2 (by decide +kernel) ?_
  refine g_istore_n (L' := [(3, .int (nI 0)), (2, .int (nI 0)), (0, .ref (ad 1)), (1, .int (nI i))]) fx dX3_columnSum_3 (by decide) rfl ?_
  have LP4 : ∀ (M : Nat) (k : Nat), (k ≤ R) →  (R - k) < M → G B 4 E ad ct n 0 0 [(0, .ref (ad 1)), (1, .int (nI i)), (2, .int (nI (sumF (fun k => gk (5 * k + i)) k))), (3, .int (nI k))] 4 [] := by
    intro M
    induction M with
    | zero => intro k _ hM; exact absurd hM (Nat.not_lt_zero _)
    | succ M ih =>
      intro k hk hM
      have ih4 := ih
      refine g_iload_n fx 3 dX3_columnSum_4 rfl ?_
      refine g_aload_n fx 0 dX3_columnSum_5 rfl ?_
      refine g_get (r := 1) fx lkX3_15 (by omega) hg rfl dX3_columnSum_6 ?_
      refine g_icmp_ge fx 27 dX3_columnSum_9 (by decide) (fun c9 => ?_) (fun c9 => ?_)
      · skip
        have hke : k = R := by have := (nI_leI (by omega) (by omega)).mp c9; omega
        refine g_iload_n fx 2 dX3_columnSum_27 rfl ?_
        refine g_iret fx rt dX3_columnSum_28 ?_
        refine gPip.mk ?_
        rw [hke]
      · skip
        have hlt : k < R := (nI_ltI (by omega) (by omega)).mp (Int32.not_le.mp c9)
        refine g_iload_n fx 2 dX3_columnSum_12 rfl ?_
        refine g_aload_n fx 0 dX3_columnSum_13 rfl ?_
        refine g_iload_n fx 3 dX3_columnSum_14 rfl ?_
        refine g_iload_n fx 1 dX3_columnSum_15 rfl ?_
        refine g_callVip (As := [.int (nI k), .int (nI i)]) (rest := [.int (nI (sumF (fun k => gk (5 * k + i)) k))]) fx slX3_29 (c_X3_at B ad ct n gk R C hn hg hgc hR5 hC5 (nI k) (nI i)) (by omega) hg rfl rfl rfl (Nat.le_of_ble_eq_true rfl) ⟨by decide, by decide⟩ ⟨by decide, by decide⟩ dX3_columnSum_16 (fun q1 hq1 => ?_)
        have hq : q1 = nI (gk (5 * k + i)) := by rw [hq1, if_pos ⟨inR (by omega) (by omega), inR (by omega) (by omega)⟩, nI_toInt (by omega), nI_toInt (by omega)]; rfl
        refine g_isi (y := nI (gk (5 * k + i))) hq ?_
        refine g_iaddN fx dX3_columnSum_19 ?_
        refine g_istore_n (L' := [(2, .int (nI ((sumF (fun k => gk (5 * k + i)) k) + (gk (5 * k + i))))), (0, .ref (ad 1)), (1, .int (nI i)), (3, .int (nI k))]) fx dX3_columnSum_20 (by decide) rfl ?_
        refine g_iinc (L' := [(3, .int (nI (k + 1))), (2, .int (nI ((sumF (fun k => gk (5 * k + i)) k) + (gk (5 * k + i))))), (0, .ref (ad 1)), (1, .int (nI i))]) fx (nI (k + 1)) 3 dX3_columnSum_21 rfl (gInc _) (by decide) rfl ?_
        refine g_goto fx 4 dX3_columnSum_24 (by decide) ?_
        refine g_locals (L' := [(0, .ref (ad 1)), (1, .int (nI i)), (2, .int (nI ((sumF (fun k => gk (5 * k + i)) k) + (gk (5 * k + i))))), (3, .int (nI (k + 1)))]) [2, 3, 1, 0] rfl ?_
        exact ih4 (k + 1) (by omega) (by omega)
  refine g_locals (L' := [(0, .ref (ad 1)), (1, .int (nI i)), (2, .int (nI 0)), (3, .int (nI 0))]) [2, 3, 1, 0] rfl ?_
  exact LP4 (R + 1) 0 (by omega) (by omega)
set_option maxHeartbeats 4000000 in
set_option maxRecDepth 100000 in
theorem c_X3_inAll (B : gB) (ad : Nat → Nat) (ct : Nat → va_E) (n : Nat) (gk : Nat → Nat) (R C : Nat) (hn : 178 ≤ n) (hg : ct 1 = .inr (3, [.ref (ad 2), .int (nI R), .int (nI C)])) (hgc : ct 2 = .inl (B.2.1 0, 25, .inl (nF gk))) (hR5 : R ≤ 5) (hC5 : C ≤ 5) : Ctr B yX3_inAll cX3_inAll 3 (some .int) 0 0 0 0 ad ct n [.ref (ad 1)] (gPip ad ct n (fun r => r = nI (sumF gk 25))) := by
  refine Ctr.ofG (L := [(0, .ref (ad 1))]) (by decide +kernel) rfl (Nat.le_of_ble_eq_true rfl) (fun E fx rt hnm => ?_)
  refine g_iconst (v := nI 0) fx dX3_inAll_0 (by decide +kernel) ?_
  refine g_istore_n (L' := [(1, .int (nI 0)), (0, .ref (ad 1))]) fx dX3_inAll_1 (by decide) rfl ?_
  refine g_iconst (v := nI 0) fx dX3_inAll_2 (by decide +kernel) ?_
  refine g_istore_n (L' := [(2, .int (nI 0)), (1, .int (nI 0)), (0, .ref (ad 1))]) fx dX3_inAll_3 (by decide) rfl ?_
  have LP4 : ∀ (M : Nat) (k : Nat), (k ≤ 25) →  (25 - k) < M → G B 3 E ad ct n 0 0 [(0, .ref (ad 1)), (1, .int (nI (sumF gk k))), (2, .int (nI k))] 4 [] := by
    intro M
    induction M with
    | zero => intro k _ hM; exact absurd hM (Nat.not_lt_zero _)
    | succ M ih =>
      intro k hk hM
      have ih4 := ih
      refine g_iload_n fx 2 dX3_inAll_4 rfl ?_
      refine g_aload_n fx 0 dX3_inAll_5 rfl ?_
      refine g_get (r := 1) fx lkX3_9 (by omega) hg rfl dX3_inAll_6 ?_
      refine g_alen (r := 2) (t0 := 0) fx rfl (by omega) hgc dX3_inAll_9 ?_
      refine g_icmp_ge fx 28 dX3_inAll_10 (by decide) (fun c10 => ?_) (fun c10 => ?_)
      · skip
        have hke : k = 25 := by have := (nI_leI (by omega) (by omega)).mp c10; omega
        refine g_iload_n fx 1 dX3_inAll_28 rfl ?_
        refine g_iret fx rt dX3_inAll_29 ?_
        refine gPip.mk ?_
        rw [hke]
      · skip
        have hlt : k < 25 := (nI_ltI (by omega) (by omega)).mp (Int32.not_le.mp c10)
        refine g_iload_n fx 1 dX3_inAll_13 rfl ?_
        refine g_aload_n fx 0 dX3_inAll_14 rfl ?_
        refine g_get (r := 1) fx lkX3_9 (by omega) hg rfl dX3_inAll_15 ?_
        refine g_iload_n fx 2 dX3_inAll_18 rfl ?_
        refine g_iald (r := 2) (j := k) fx (by omega) hgc (nI_toInt (by omega)) (by omega) dX3_inAll_19 ?_
        refine g_isi (y := nI (gk k)) rfl ?_
        refine g_iaddN fx dX3_inAll_20 ?_
        refine g_istore_n (L' := [(1, .int (nI ((sumF gk k) + (gk k)))), (0, .ref (ad 1)), (2, .int (nI k))]) fx dX3_inAll_21 (by decide) rfl ?_
        refine g_iinc (L' := [(2, .int (nI (k + 1))), (1, .int (nI ((sumF gk k) + (gk k)))), (0, .ref (ad 1))]) fx (nI (k + 1)) 2 dX3_inAll_22 rfl (gInc _) (by decide) rfl ?_
        refine g_goto fx 4 dX3_inAll_25 (by decide) ?_
        refine g_locals (L' := [(0, .ref (ad 1)), (1, .int (nI ((sumF gk k) + (gk k)))), (2, .int (nI (k + 1)))]) [2, 1, 0] rfl ?_
        exact ih4 (k + 1) (by omega) (by omega)
  refine g_locals (L' := [(0, .ref (ad 1)), (1, .int (nI 0)), (2, .int (nI 0))]) [2, 1, 0] rfl ?_
  exact LP4 26 0 (by omega) (by omega)
set_option maxHeartbeats 4000000 in
set_option maxRecDepth 100000 in
theorem c_X3_renew (B : gB) (ad : Nat → Nat) (ct : Nat → va_E) (n : Nat) (gk : Nat → Nat) (R C : Nat) (hn : 178 ≤ n) (hg : ct 1 = .inr (3, [.ref (ad 2), .int (nI R), .int (nI C)])) (hgc : ct 2 = .inl (B.2.1 0, 25, .inl (nF gk))) (hR5 : R ≤ 5) (hC5 : C ≤ 5) (R2 C2 : Nat) : Ctr B yX3_renew cX3_renew 4 none 0 0 0 0 ad ct n [.ref (ad 1), .int (nI R2), .int (nI C2)] (gPv ad n (fun ct' => ∃ g', ct' 1 = .inr (3, [.ref (ad 2), .int (nI R2), .int (nI C2)]) ∧ ct' 2 = .inl (B.2.1 0, 25, .inl (nF g')) ∧ (∀ j, j < 25 → g' j = 0) ∧ ∀ r, r ≠ 1 → r ≠ 2 → ct' r = ct r)) := by
  have hfr : ∀ r, r ≠ 1 → r ≠ 2 → ct r = ct r := fun _ _ _ => rfl
  refine Ctr.ofG (L := [(0, .ref (ad 1)), (1, .int (nI R2)), (2, .int (nI C2))]) (by decide +kernel) rfl (Nat.le_of_ble_eq_true rfl) (fun E fx rt hnm => ?_)
  refine g_aload_n fx 0 dX3_renew_0 rfl ?_
  refine g_iload_n fx 1 dX3_renew_1 rfl ?_
  refine g_put (r := 1) (fs' := [.ref (ad 2), .int (nI R2), .int (nI C)]) fx lpX3_15 (by omega) hg rfl rfl (Nat.le_of_ble_eq_true rfl) rfl dX3_renew_2 (fun cu1 ecu1 => ?_)
  have hfr : ∀ r, r ≠ 1 → r ≠ 2 → cu1 r = ct r := fun r _ _ => (congrFun ecu1 r).trans ((va_up_ne _ _ (by assumption)).trans (hfr r (by assumption) (by assumption)))
  have hg : cu1 1 = .inr (3, [.ref (ad 2), .int (nI R2), .int (nI C)]) := by rw [ecu1, va_up_self]
  have hgc : cu1 2 = .inl (B.2.1 0, 25, .inl (nF gk)) := (congrFun ecu1 _).trans ((va_up_ne _ _ (by omega)).trans hgc)
  refine g_aload_n fx 0 dX3_renew_5 rfl ?_
  refine g_iload_n fx 2 dX3_renew_6 rfl ?_
  refine g_put (r := 1) (fs' := [.ref (ad 2), .int (nI R2), .int (nI C2)]) fx lpX3_19 (by omega) hg rfl rfl (Nat.le_of_ble_eq_true rfl) rfl dX3_renew_7 (fun cu2 ecu2 => ?_)
  have hfr : ∀ r, r ≠ 1 → r ≠ 2 → cu2 r = ct r := fun r _ _ => (congrFun ecu2 r).trans ((va_up_ne _ _ (by assumption)).trans (hfr r (by assumption) (by assumption)))
  have hg : cu2 1 = .inr (3, [.ref (ad 2), .int (nI R2), .int (nI C2)]) := by rw [ecu2, va_up_self]
  have hgc : cu2 2 = .inl (B.2.1 0, 25, .inl (nF gk)) := (congrFun ecu2 _).trans ((va_up_ne _ _ (by omega)).trans hgc)
  refine g_iconst (v := nI 0) fx dX3_renew_10 (by decide +kernel) ?_
  refine g_istore_n (L' := [(3, .int (nI 0)), (0, .ref (ad 1)), (1, .int (nI R2)), (2, .int (nI C2))]) fx dX3_renew_11 (by decide) rfl ?_
  have LP12 : ∀ (M : Nat) (k : Nat) (ct1 : Nat → va_E) (g1 : Nat → Nat), (k ≤ 25) → (∀ j, j < k → g1 j = 0) → (ct1 1 = .inr (3, [.ref (ad 2), .int (nI R2), .int (nI C2)])) → (ct1 2 = .inl (B.2.1 0, 25, .inl (nF g1))) → (∀ r, r ≠ 1 → r ≠ 2 → ct1 r = ct r) →  (25 - k) < M → G B 4 E ad ct1 n 0 0 [(0, .ref (ad 1)), (3, .int (nI k))] 12 [] := by
    intro M
    induction M with
    | zero => intro k ct1 g1 _ _ _ _ _ hM; exact absurd hM (Nat.not_lt_zero _)
    | succ M ih =>
      intro k ct1 g1 hk hz hg hgc hfr hM
      have ih12 := ih
      refine g_iload_n fx 1 dX3_renew_12 rfl ?_
      refine g_aload_n fx 0 dX3_renew_13 rfl ?_
      refine g_get (r := 1) fx lkX3_9 (by omega) hg rfl dX3_renew_14 ?_
      refine g_alen (r := 2) (t0 := 0) fx rfl (by omega) hgc dX3_renew_17 ?_
      refine g_icmp_ge fx 34 dX3_renew_18 (by decide) (fun c18 => ?_) (fun c18 => ?_)
      · skip
        have hke : k = 25 := by have := (nI_leI (by omega) (by omega)).mp c18; omega
        rw [hke] at hz
        refine g_vret fx rt dX3_renew_34 ?_
        exact gPv.mk ⟨g1, hg, hgc, hz, hfr⟩
      · skip
        have hlt : k < 25 := (nI_ltI (by omega) (by omega)).mp (Int32.not_le.mp c18)
        refine g_aload_n fx 0 dX3_renew_21 rfl ?_
        refine g_get (r := 1) fx lkX3_9 (by omega) hg rfl dX3_renew_22 ?_
        refine g_iload_n fx 1 dX3_renew_25 rfl ?_
        refine g_iconst (v := nI 0) fx dX3_renew_26 (by decide +kernel) ?_
        refine g_iast (r := 2) (j := k) fx (by omega) hgc (nI_toInt (by omega)) (by omega) dX3_renew_27 (fun cu3 ecu3 => ?_)
        have hfr : ∀ r, r ≠ 1 → r ≠ 2 → cu3 r = ct r := fun r _ _ => (congrFun ecu3 r).trans ((va_up_ne _ _ (by assumption)).trans (hfr r (by assumption) (by assumption)))
        have hg : cu3 1 = .inr (3, [.ref (ad 2), .int (nI R2), .int (nI C2)]) := (congrFun ecu3 _).trans ((va_up_ne _ _ (by omega)).trans hg)
        have hgc : cu3 2 = .inl (B.2.1 0, 25, .inl (nF (va_up g1 k 0))) := by rw [ecu3, va_up_self, nF_up]
        refine g_iinc (L' := [(3, .int (nI (k + 1))), (0, .ref (ad 1))]) fx (nI (k + 1)) 1 dX3_renew_28 rfl (gInc _) (by decide) rfl ?_
        refine g_goto fx 12 dX3_renew_31 (by decide) ?_
        refine g_locals (L' := [(0, .ref (ad 1)), (3, .int (nI (k + 1)))]) [1, 0] rfl ?_
        exact ih12 (k + 1) _ _ (by omega) (fun j hj => by by_cases q : j = k; (rw [q, va_up_self]); (rw [va_up_ne _ _ q]; exact hz j (by omega))) hg hgc hfr (by omega)
  refine g_locals (L' := [(0, .ref (ad 1)), (3, .int (nI 0))]) [1, 0] rfl ?_
  exact LP12 26 0 _ _ (by omega) (fun j hj => absurd hj (by omega)) hg hgc hfr (by omega)
