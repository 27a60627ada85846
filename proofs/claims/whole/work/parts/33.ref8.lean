def absI (x : Int32) : Int32 := if 0 ≤ x then x else -x
def figR (U W : Nat) : Nat → Nat
  | 0 => U % W
  | k + 1 => figR U W k * 10 % W
def fig (U W : Nat) : Nat → Nat
  | 0 => U / W
  | k + 1 => figR U W k * 10 / W
theorem figR_lt {U W : Nat} (h : 0 < W) : ∀ k, figR U W k < W
  | 0 => Nat.mod_lt _ h
  | k + 1 => Nat.mod_lt _ h
theorem sub64 {x y : Int32} : (x.toInt64 - y.toInt64).toInt = x.toInt - y.toInt := by
  have h1 := Int32.toInt_lt x
  have h2 := Int32.le_toInt x
  have h3 := Int32.toInt_lt y
  have h4 := Int32.le_toInt y
  rw [Int64.toInt_sub, Int32.toInt_toInt64, Int32.toInt_toInt64, Int.bmod_def]
  have e : (2 : Nat) ^ 64 = 18446744073709551616 := rfl
  split <;> omega
theorem sub32 {x y : Int32} {d : Nat} (h : x.toInt - y.toInt = (d : Int)) (hd : d < 2 ^ 31) : (x - y).toInt = (d : Int) := by
  rw [Int32.toInt_sub, h, Int.bmod_def]
  have e : (2 : Nat) ^ 32 = 4294967296 := rfl
  split <;> omega
/-- where, among those that are other than 0, the next one comes -/
def nzN (fd : Nat → Int32) (k : Nat) : Nat := gCnt (fun x => decide (¬ x = 0)) fd k
theorem gCnt_le {p : Int32 → Bool} {f : Nat → Int32} : ∀ k, gCnt p f k ≤ k
  | 0 => Nat.le_refl _
  | k + 1 => by
    have := gCnt_le (p := p) (f := f) k
    show gCnt p f k + (if p (f k) then 1 else 0) ≤ k + 1
    split <;> omega
theorem gCnt_mono {p : Int32 → Bool} {f : Nat → Int32} {i : Nat} : ∀ d, gCnt p f i ≤ gCnt p f (i + d)
  | 0 => Nat.le_refl _
  | d + 1 => Nat.le_trans (gCnt_mono d) (Nat.le_add_right _ _)
theorem nz_lt {fd : Nat → Int32} {i k : Nat} (h : i < k) (hi : ¬ fd i = 0) : nzN fd i < nzN fd k := by
  obtain ⟨d, rfl⟩ := Nat.exists_eq_add_of_le (show i + 1 ≤ k from h)
  have h1 := gCnt_mono (p := fun x => decide (¬ x = 0)) (f := fd) (i := i + 1) d
  have h2 := gCnt_t (p := fun x => decide (¬ x = 0)) (f := fd) i (decide_eq_true hi)
  unfold nzN; omega
set_option maxHeartbeats 4000000 in
set_option maxRecDepth 100000 in
theorem c_X12_ways (B : gB) (ad : Nat → Nat) (ct : Nat → va_E) (n : Nat) (f : Nat → Int32) (gb : Nat → Nat) (hn : 33 ≤ n) (h0 : ct 0 = mObj ad f) (hb : ct 11 = .inl (B.2.1 1, 60001, .inr (.inl (lF gb)))) (S : Nat) (hS : f 18 = nI S) (hS2 : S ≤ 60001) (x : Int32) : Ctr B yX12_ways cX12_ways 2 (some .long) 1 25 0 0 ad ct n [.ref (ad 0), .int x] (gPlp ad ct n (fun q => (f 12 < 1 ∧ q = -3) ∨ (1 ≤ f 12 ∧ q = if 0 ≤ (x.toInt - (f 19).toInt) ∧ (x.toInt - (f 19).toInt) ≤ (S : Int) - 1 then lN (gb (x.toInt - (f 19).toInt).toNat) else 0))) := by
  refine Ctr.ofG (L := [(0, .ref (ad 0)), (1, .int x)]) (by decide +kernel) rfl (Nat.le_of_ble_eq_true rfl) (fun E fx rt hnm => ?_)
  refine g_aload_n fx 0 dX12_ways_0 rfl ?_
  refine g_get (r := 0) fx lkX12_34 (by omega) h0 rfl dX12_ways_1 ?_
  refine g_iconst (v := 1) fx dX12_ways_4 (by decide +kernel) ?_
  refine g_icmp_ge fx 12 dX12_ways_5 (by decide) (fun c5 => ?_) (fun c5 => ?_)
  · skip
    refine g_iload_n fx 1 dX12_ways_12 rfl ?_
    refine g_i2l fx dX12_ways_13 ?_
    refine g_aload_n fx 0 dX12_ways_14 rfl ?_
    refine g_get (r := 0) fx lkX12_276 (by omega) h0 rfl dX12_ways_15 ?_
    refine g_i2l fx dX12_ways_18 ?_
    refine g_lsub fx dX12_ways_19 ?_
    refine g_lconst (v := 0) fx dX12_ways_20 (by decide +kernel) ?_
    refine g_aload_n fx 0 dX12_ways_21 rfl ?_
    refine g_get (r := 0) fx lkX12_273 (by omega) h0 rfl dX12_ways_22 ?_
    refine g_isi (y := nI S) hS ?_
    refine g_i2l fx dX12_ways_25 ?_
    refine g_isl (y := lN S) (nI_l (by omega)) ?_
    refine g_lconst (v := 1) fx dX12_ways_26 (by decide +kernel) ?_
    refine g_lsub fx dX12_ways_27 ?_
    refine g_callSip (As := [.long (x.toInt64 - ((f 19).toInt64)), .long 0, .long ((lN S) - 1)]) (rest := []) fx slX12_159 (c_X12_in B ad ct n (x.toInt64 - (f 19).toInt64) 0 (lN S - 1)) rfl rfl (Nat.le_of_ble_eq_true rfl) ⟨by decide, by decide⟩ ⟨by decide, by decide⟩ dX12_ways_28 (fun q1 hq1 => ?_)
    have hiff : ((0 : Int64) ≤ x.toInt64 - (f 19).toInt64 ∧ x.toInt64 - (f 19).toInt64 ≤ lN S - 1) ↔ (0 ≤ (x.toInt - (f 19).toInt) ∧ (x.toInt - (f 19).toInt) ≤ (S : Int) - 1) := by
      have e1 : (lN S - 1).toInt = (S : Int) - 1 := by
        rw [Int64.toInt_sub, lN_toInt (by omega), show (1 : Int64).toInt = 1 by decide, Int.bmod_def]
        have e : (2 : Nat) ^ 64 = 18446744073709551616 := rfl
        split <;> omega
      rw [Int64.le_iff_toInt_le, Int64.le_iff_toInt_le, sub64, e1]
      exact Iff.rfl
    simp only [hiff] at hq1
    refine g_if_eq fx 48 dX12_ways_31 (by decide) (fun c31 => ?_) (fun c31 => ?_)
    · skip
      have hA := if01_z.mp (hq1 ▸ c31)
      refine g_lconst (v := 0) fx dX12_ways_48 (by decide +kernel) ?_
      refine g_lret fx rt dX12_ways_49 ?_
      refine gPlp.mk (Or.inr ⟨c5, ?_⟩)
      first | (rw [if_pos hA]; done) | (rw [if_neg hA]; done)
    · skip
      have hA := if01_n.mp (hq1 ▸ c31)
      refine g_aload_n fx 0 dX12_ways_34 rfl ?_
      refine g_get (r := 0) fx lkX12_45 (by omega) h0 rfl dX12_ways_35 ?_
      refine g_iload_n fx 1 dX12_ways_38 rfl ?_
      refine g_aload_n fx 0 dX12_ways_39 rfl ?_
      refine g_get (r := 0) fx lkX12_276 (by omega) h0 rfl dX12_ways_40 ?_
      refine g_isub fx dX12_ways_43 ?_
      refine g_lald (r := 11) (j := (x.toInt - (f 19).toInt).toNat) fx (by omega) hb (sub32 (by omega) (by omega)) (by omega) dX12_ways_44 ?_
      refine g_isl (y := lN (gb ((x.toInt - (f 19).toInt).toNat))) rfl ?_
      refine g_goto fx 49 dX12_ways_45 (by decide) ?_
      refine g_lret fx rt dX12_ways_49 ?_
      refine gPlp.mk (Or.inr ⟨c5, ?_⟩)
      first | (rw [if_pos hA]; done) | (rw [if_neg hA]; done)
  · skip
    have hk := Int32.not_le.mp c5
    refine g_ldc2 fx kcX12_283 dX12_ways_8 ?_
    refine g_lret fx rt dX12_ways_11 ?_
    exact gPlp.mk (Or.inl ⟨hk, rfl⟩)
set_option maxHeartbeats 4000000 in
set_option maxRecDepth 100000 in
theorem c_X12_sizeOf (B : gB) (ad : Nat → Nat) (ct : Nat → va_E) (n : Nat) (x : Int32) : Ctr B yX12_sizeOf cX12_sizeOf 1 (some .int) 0 0 0 0 ad ct n [.int x] (gPip ad ct n (fun q => q = absI x)) := by
  refine Ctr.ofG (L := [(0, .int x)]) (by decide +kernel) rfl (Nat.le_of_ble_eq_true rfl) (fun E fx rt hnm => ?_)
  refine g_iload_n fx 0 dX12_sizeOf_0 rfl ?_
  refine g_if_ge fx 9 dX12_sizeOf_1 (by decide) (fun c1 => ?_) (fun c1 => ?_)
  · skip
    refine g_iload_n fx 0 dX12_sizeOf_9 rfl ?_
    refine g_iret fx rt dX12_sizeOf_10 ?_
    refine gPip.mk ?_
    unfold absI
    first | rw [if_pos c1] | rw [if_neg c1]
  · skip
    refine g_iload_n fx 0 dX12_sizeOf_4 rfl ?_
    refine g_ineg fx dX12_sizeOf_5 ?_
    refine g_goto fx 10 dX12_sizeOf_6 (by decide) ?_
    refine g_iret fx rt dX12_sizeOf_10 ?_
    refine gPip.mk ?_
    unfold absI
    first | rw [if_pos c1] | rw [if_neg c1]
set_option maxHeartbeats 4000000 in
set_option maxRecDepth 100000 in
theorem c_X12_rankOf (B : gB) (ad : Nat → Nat) (ct : Nat → va_E) (n : Nat) (f fn : Nat → Int32) (hn : 33 ≤ n) (h0 : ct 0 = mObj ad f) (hnb : ct 22 = .inl (B.2.1 0, 30, .inl fn)) (m : Nat) (hm : f 34 = nI m) (hm30 : m ≤ 30) (v : Int32) : Ctr B yX12_rankOf cX12_rankOf 5 (some .int) 0 0 0 0 ad ct n [.ref (ad 0), .int v] (gPip ad ct n (fun q => q = nI (2 * (gCnt (fun z => decide (z < v)) fn m) + (gCnt (fun z => decide (z = v)) fn m) + 1))) := by
  refine Ctr.ofG (L := [(0, .ref (ad 0)), (1, .int v)]) (by decide +kernel) rfl (Nat.le_of_ble_eq_true rfl) (fun E fx rt hnm => ?_)
  refine g_iconst (v := nI 0) fx dX12_rankOf_0 (by decide +kernel) ?_
  refine g_istore_n (L' := [(2, .int (nI 0)), (0, .ref (ad 0)), (1, .int v)]) fx dX12_rankOf_1 (by decide) rfl ?_
  refine g_iconst (v := nI 0) fx dX12_rankOf_2 (by decide +kernel) ?_
  refine g_istore_n (L' := [(3, .int (nI 0)), (2, .int (nI 0)), (0, .ref (ad 0)), (1, .int v)]) fx dX12_rankOf_3 (by decide) rfl ?_
  refine g_iconst (v := nI 0) fx dX12_rankOf_4 (by decide +kernel) ?_
  refine g_istore (L' := [(4, .int (nI 0)), (3, .int (nI 0)), (2, .int (nI 0)), (0, .ref (ad 0)), (1, .int v)]) fx dX12_rankOf_5 (by decide) rfl ?_
  have LP7 : ∀ (M : Nat) (k : Nat), (k ≤ m) →  (m - k) < M → G B 5 E ad ct n 0 0 [(0, .ref (ad 0)), (1, .int v), (2, .int (nI (gCnt (fun z => decide (z < v)) fn k))), (3, .int (nI (gCnt (fun z => decide (z = v)) fn k))), (4, .int (nI k))] 7 [] := by
    intro M
    induction M with
    | zero => intro k _ hM; exact absurd hM (Nat.not_lt_zero _)
    | succ M ih =>
      intro k hk hM
      have ih7 := ih
      refine g_iload fx 4 dX12_rankOf_7 rfl ?_
      refine g_aload_n fx 0 dX12_rankOf_9 rfl ?_
      refine g_get (r := 0) fx lkX12_250 (by omega) h0 rfl dX12_rankOf_10 ?_
      refine g_isi (y := nI m) hm ?_
      refine g_icmp_ge fx 60 dX12_rankOf_13 (by decide) (fun c13 => ?_) (fun c13 => ?_)
      · skip
        have hkm : k = m := by have := (nI_leI (by omega) (by omega)).mp c13; omega
        refine g_iconst (v := nI 2) fx dX12_rankOf_60 (by decide +kernel) ?_
        refine g_iload_n fx 2 dX12_rankOf_61 rfl ?_
        refine g_imulN fx dX12_rankOf_62 ?_
        refine g_iload_n fx 3 dX12_rankOf_63 rfl ?_
        refine g_iaddN fx dX12_rankOf_64 ?_
        refine g_iconst (v := nI 1) fx dX12_rankOf_65 (by decide +kernel) ?_
        refine g_iaddN fx dX12_rankOf_66 ?_
        refine g_iret fx rt dX12_rankOf_67 ?_
        refine gPip.mk ?_
        rw [hkm]
      · skip
        have hlt2 : k < m := by have := (nI_ltI (by omega) (by omega)).mp (Int32.not_le.mp c13); omega
        refine g_iload_n fx 2 dX12_rankOf_16 rfl ?_
        refine g_aload_n fx 0 dX12_rankOf_17 rfl ?_
        refine g_get (r := 0) fx lkX12_81 (by omega) h0 rfl dX12_rankOf_18 ?_
        refine g_iload fx 4 dX12_rankOf_21 rfl ?_
        refine g_iald (r := 22) (j := k) fx (by omega) hnb (nI_toInt (by omega)) (by omega) dX12_rankOf_23 ?_
        refine g_iload_n fx 1 dX12_rankOf_24 rfl ?_
        refine g_icmp_ge fx 32 dX12_rankOf_25 (by decide) (fun c25 => ?_) (fun c25 => ?_)
        · skip
          refine g_iconst (v := nI 0) fx dX12_rankOf_32 (by decide +kernel) ?_
          refine g_iaddN fx dX12_rankOf_33 ?_
          refine g_isi (y := nI (gCnt (fun z => decide (z < v)) fn (k + 1))) (by first | (rw [gCnt_t _ (decide_eq_true (Int32.not_le.mp c25))]) | (rw [gCnt_f _ (decide_eq_false (Int32.not_lt.mpr c25))])) ?_
          refine g_istore_n (L' := [(2, .int (nI (gCnt (fun z => decide (z < v)) fn (k + 1)))), (0, .ref (ad 0)), (1, .int v), (3, .int (nI (gCnt (fun z => decide (z = v)) fn k))), (4, .int (nI k))]) fx dX12_rankOf_34 (by decide) rfl ?_
          refine g_iload_n fx 3 dX12_rankOf_35 rfl ?_
          refine g_aload_n fx 1 dX12_rankOf_36 rfl ?_
          refine g_get (r := 0) fx lkX12_81 (by omega) h0 rfl dX12_rankOf_37 ?_
          refine g_iload fx 4 dX12_rankOf_40 rfl ?_
          refine g_iald (r := 22) (j := k) fx (by omega) hnb (nI_toInt (by omega)) (by omega) dX12_rankOf_42 ?_
          refine g_iload_n fx 2 dX12_rankOf_43 rfl ?_
          refine g_icmp_ne fx 51 dX12_rankOf_44 (by decide) (fun c44 => ?_) (fun c44 => ?_)
          · skip
            refine g_iconst (v := nI 0) fx dX12_rankOf_51 (by decide +kernel) ?_
            refine g_iaddN fx dX12_rankOf_52 ?_
            refine g_isi (y := nI (gCnt (fun z => decide (z = v)) fn (k + 1))) (by first | (rw [gCnt_t _ (decide_eq_true c44)]) | (rw [gCnt_f _ (decide_eq_false c44)])) ?_
            refine g_istore_n (L' := [(3, .int (nI (gCnt (fun z => decide (z = v)) fn (k + 1)))), (2, .int (nI (gCnt (fun z => decide (z < v)) fn (k + 1)))), (0, .ref (ad 0)), (1, .int v), (4, .int (nI k))]) fx dX12_rankOf_53 (by decide) rfl ?_
            refine g_iinc (L' := [(4, .int (nI (k + 1))), (3, .int (nI (gCnt (fun z => decide (z = v)) fn (k + 1)))), (2, .int (nI (gCnt (fun z => decide (z < v)) fn (k + 1)))), (0, .ref (ad 0)), (1, .int v)]) fx (nI (k + 1)) 4 dX12_rankOf_54 rfl (gInc _) (by decide) rfl ?_
            refine g_goto fx 7 dX12_rankOf_57 (by decide) ?_
            refine g_locals (L' := [(0, .ref (ad 0)), (1, .int v), (2, .int (nI (gCnt (fun z => decide (z < v)) fn (k + 1)))), (3, .int (nI (gCnt (fun z => decide (z = v)) fn (k + 1)))), (4, .int (nI (k + 1)))]) [3, 4, 2, 1, 0] rfl ?_
            exact ih (k + 1) hlt2 (by omega)
          · skip
            refine g_iconst (v := nI 1) fx dX12_rankOf_47 (by decide +kernel) ?_
            refine g_goto fx 52 dX12_rankOf_48 (by decide) ?_
            refine g_iaddN fx dX12_rankOf_52 ?_
            refine g_isi (y := nI (gCnt (fun z => decide (z = v)) fn (k + 1))) (by first | (rw [gCnt_t _ (decide_eq_true c44)]) | (rw [gCnt_f _ (decide_eq_false c44)])) ?_
            refine g_istore_n (L' := [(3, .int (nI (gCnt (fun z => decide (z = v)) fn (k + 1)))), (2, .int (nI (gCnt (fun z => decide (z < v)) fn (k + 1)))), (0, .ref (ad 0)), (1, .int v), (4, .int (nI k))]) fx dX12_rankOf_53 (by decide) rfl ?_
            refine g_iinc (L' := [(4, .int (nI (k + 1))), (3, .int (nI (gCnt (fun z => decide (z = v)) fn (k + 1)))), (2, .int (nI (gCnt (fun z => decide (z < v)) fn (k + 1)))), (0, .ref (ad 0)), (1, .int v)]) fx (nI (k + 1)) 4 dX12_rankOf_54 rfl (gInc _) (by decide) rfl ?_
            refine g_goto fx 7 dX12_rankOf_57 (by decide) ?_
            refine g_locals (L' := [(0, .ref (ad 0)), (1, .int v), (2, .int (nI (gCnt (fun z => decide (z < v)) fn (k + 1)))), (3, .int (nI (gCnt (fun z => decide (z = v)) fn (k + 1)))), (4, .int (nI (k + 1)))]) [3, 4, 2, 1, 0] rfl ?_
            exact ih (k + 1) hlt2 (by omega)
        · skip
          refine g_iconst (v := nI 1) fx dX12_rankOf_28 (by decide +kernel) ?_
          refine g_goto fx 33 dX12_rankOf_29 (by decide) ?_
          refine g_iaddN fx dX12_rankOf_33 ?_
          refine g_isi (y := nI (gCnt (fun z => decide (z < v)) fn (k + 1))) (by first | (rw [gCnt_t _ (decide_eq_true (Int32.not_le.mp c25))]) | (rw [gCnt_f _ (decide_eq_false (Int32.not_lt.mpr c25))])) ?_
          refine g_istore_n (L' := [(2, .int (nI (gCnt (fun z => decide (z < v)) fn (k + 1)))), (0, .ref (ad 0)), (1, .int v), (3, .int (nI (gCnt (fun z => decide (z = v)) fn k))), (4, .int (nI k))]) fx dX12_rankOf_34 (by decide) rfl ?_
          refine g_iload_n fx 3 dX12_rankOf_35 rfl ?_
          refine g_aload_n fx 1 dX12_rankOf_36 rfl ?_
          refine g_get (r := 0) fx lkX12_81 (by omega) h0 rfl dX12_rankOf_37 ?_
          refine g_iload fx 4 dX12_rankOf_40 rfl ?_
          refine g_iald (r := 22) (j := k) fx (by omega) hnb (nI_toInt (by omega)) (by omega) dX12_rankOf_42 ?_
          refine g_iload_n fx 2 dX12_rankOf_43 rfl ?_
          refine g_icmp_ne fx 51 dX12_rankOf_44 (by decide) (fun c44 => ?_) (fun c44 => ?_)
          · skip
            refine g_iconst (v := nI 0) fx dX12_rankOf_51 (by decide +kernel) ?_
            refine g_iaddN fx dX12_rankOf_52 ?_
            refine g_isi (y := nI (gCnt (fun z => decide (z = v)) fn (k + 1))) (by first | (rw [gCnt_t _ (decide_eq_true c44)]) | (rw [gCnt_f _ (decide_eq_false c44)])) ?_
            refine g_istore_n (L' := [(3, .int (nI (gCnt (fun z => decide (z = v)) fn (k + 1)))), (2, .int (nI (gCnt (fun z => decide (z < v)) fn (k + 1)))), (0, .ref (ad 0)), (1, .int v), (4, .int (nI k))]) fx dX12_rankOf_53 (by decide) rfl ?_
            refine g_iinc (L' := [(4, .int (nI (k + 1))), (3, .int (nI (gCnt (fun z => decide (z = v)) fn (k + 1)))), (2, .int (nI (gCnt (fun z => decide (z < v)) fn (k + 1)))), (0, .ref (ad 0)), (1, .int v)]) fx (nI (k + 1)) 4 dX12_rankOf_54 rfl (gInc _) (by decide) rfl ?_
            refine g_goto fx 7 dX12_rankOf_57 (by decide) ?_
            refine g_locals (L' := [(0, .ref (ad 0)), (1, .int v), (2, .int (nI (gCnt (fun z => decide (z < v)) fn (k + 1)))), (3, .int (nI (gCnt (fun z => decide (z = v)) fn (k + 1)))), (4, .int (nI (k + 1)))]) [3, 4, 2, 1, 0] rfl ?_
            exact ih (k + 1) hlt2 (by omega)
          · skip
            refine g_iconst (v := nI 1) fx dX12_rankOf_47 (by decide +kernel) ?_
            refine g_goto fx 52 dX12_rankOf_48 (by decide) ?_
            refine g_iaddN fx dX12_rankOf_52 ?_
            refine g_isi (y := nI (gCnt (fun z => decide (z = v)) fn (k + 1))) (by first | (rw [gCnt_t _ (decide_eq_true c44)]) | (rw [gCnt_f _ (decide_eq_false c44)])) ?_
            refine g_istore_n (L' := [(3, .int (nI (gCnt (fun z => decide (z = v)) fn (k + 1)))), (2, .int (nI (gCnt (fun z => decide (z < v)) fn (k + 1)))), (0, .ref (ad 0)), (1, .int v), (4, .int (nI k))]) fx dX12_rankOf_53 (by decide) rfl ?_
            refine g_iinc (L' := [(4, .int (nI (k + 1))), (3, .int (nI (gCnt (fun z => decide (z = v)) fn (k + 1)))), (2, .int (nI (gCnt (fun z => decide (z < v)) fn (k + 1)))), (0, .ref (ad 0)), (1, .int v)]) fx (nI (k + 1)) 4 dX12_rankOf_54 rfl (gInc _) (by decide) rfl ?_
            refine g_goto fx 7 dX12_rankOf_57 (by decide) ?_
            refine g_locals (L' := [(0, .ref (ad 0)), (1, .int v), (2, .int (nI (gCnt (fun z => decide (z < v)) fn (k + 1)))), (3, .int (nI (gCnt (fun z => decide (z = v)) fn (k + 1)))), (4, .int (nI (k + 1)))]) [3, 4, 2, 1, 0] rfl ?_
            exact ih (k + 1) hlt2 (by omega)
  refine g_locals (L' := [(0, .ref (ad 0)), (1, .int v), (2, .int (nI 0)), (3, .int (nI 0)), (4, .int (nI 0))]) [3, 4, 2, 1, 0] rfl ?_
  exact LP7 (m + 1) 0 (by omega) (by omega)
set_option maxHeartbeats 4000000 in
set_option maxRecDepth 100000 in
theorem c_X12_takeSamples (B : gB) (ad : Nat → Nat) (ct : Nat → va_E) (n : Nat) (f fs fn : Nat → Int32) (km : Nat → Nat) (hn : 33 ≤ n) (h0 : ct 0 = mObj ad f) (hs : ct 6 = .inl (B.2.1 0, 30, .inl fs)) (hm : ct 7 = .inl (B.2.1 0, 2, .inl (nF km))) (hnb : ct 22 = .inl (B.2.1 0, 30, .inl fn)) (hk15 : ∀ w, w < 2 → km w ≤ 15) : Ctr B yX12_takeSamples cX12_takeSamples 3 none 0 0 0 0 ad ct n [.ref (ad 0)] (gPv ad n (fun ct' => ∃ fn', ct' 0 = mObj ad (va_up f 34 (nI (km 0 + km 1))) ∧ ct' 22 = .inl (B.2.1 0, 30, .inl fn') ∧ (∀ i, i < km 0 → fn' i = fs i) ∧ (∀ i, i < km 1 → fn' (km 0 + i) = fs (15 + i)) ∧ ∀ r, r ≠ 0 → r ≠ 22 → ct' r = ct r)) := by
  have hfr : ∀ r, r ≠ 0 → r ≠ 22 → ct r = ct r := fun _ _ _ => rfl
  have hka := hk15 0 (by decide)
  have hkb := hk15 1 (by decide)
  refine Ctr.ofG (L := [(0, .ref (ad 0))]) (by decide +kernel) rfl (Nat.le_of_ble_eq_true rfl) (fun E fx rt hnm => ?_)
  refine g_aload_n fx 0 dX12_takeSamples_0 rfl ?_
  refine g_iconst (v := nI 0) fx dX12_takeSamples_1 (by decide +kernel) ?_
  refine g_put (r := 0) (fs' := mFs ad (va_up f 34 (nI 0))) fx lpX12_250 (by omega) h0 rfl rfl (Nat.le_of_ble_eq_true rfl) rfl dX12_takeSamples_2 (fun ct1 ect1 => ?_)
  have hfr : ∀ r, r ≠ 0 → r ≠ 22 → ct1 r = ct r := fun r _ _ => (congrFun ect1 r).trans ((va_up_ne _ _ (by assumption)).trans (hfr r (by assumption) (by assumption)))
  have h0 : ct1 0 = mObj ad (va_up f 34 (nI 0)) := by rw [ect1, va_up_self]
  have hs : ct1 6 = .inl (B.2.1 0, 30, .inl fs) := (congrFun ect1 _).trans ((va_up_ne _ _ (by omega)).trans hs)
  have hm : ct1 7 = .inl (B.2.1 0, 2, .inl (nF km)) := (congrFun ect1 _).trans ((va_up_ne _ _ (by omega)).trans hm)
  have hnb : ct1 22 = .inl (B.2.1 0, 30, .inl fn) := (congrFun ect1 _).trans ((va_up_ne _ _ (by omega)).trans hnb)
  refine g_iconst (v := nI 0) fx dX12_takeSamples_5 (by decide +kernel) ?_
  refine g_istore_n (L' := [(1, .int (nI 0)), (0, .ref (ad 0))]) fx dX12_takeSamples_6 (by decide) rfl ?_
  have LP7 : ∀ (M : Nat) (w : Nat) (ct2 : Nat → va_E) (fn1 : Nat → Int32), (w ≤ 2) → (∀ i, i < (if w = 0 then 0 else km 0) → fn1 i = fs i) → (∀ i, i < (if w = 2 then km 1 else 0) → fn1 (km 0 + i) = fs (15 + i)) → (ct2 0 = mObj ad (va_up f 34 (nI (if w = 0 then 0 else if w = 1 then km 0 else km 0 + km 1)))) → (ct2 6 = .inl (B.2.1 0, 30, .inl fs)) → (ct2 7 = .inl (B.2.1 0, 2, .inl (nF km))) → (ct2 22 = .inl (B.2.1 0, 30, .inl fn1)) → (∀ r, r ≠ 0 → r ≠ 22 → ct2 r = ct r) →  (2 - w) < M → G B 3 E ad ct2 n 0 0 [(0, .ref (ad 0)), (1, .int (nI w))] 7 [] := by
    intro M
    induction M with
    | zero => intro w ct2 fn1 _ _ _ _ _ _ _ _ hM; exact absurd hM (Nat.not_lt_zero _)
    | succ M ih =>
      intro w ct2 fn1 hw hd1 hd2 h0 hs hm hnb hfr hM
      have ih7 := ih
      refine g_iload_n fx 1 dX12_takeSamples_7 rfl ?_
      refine g_iconst (v := nI 2) fx dX12_takeSamples_8 (by decide +kernel) ?_
      refine g_icmp_ge fx 66 dX12_takeSamples_9 (by decide) (fun c9 => ?_) (fun c9 => ?_)
      · skip
        have hw2 : w = 2 := by have := (nI_leI (by omega) (by omega)).mp c9; omega
        refine g_vret fx rt dX12_takeSamples_66 ?_
        subst hw2
        exact gPv.mk ⟨fn1, h0, hnb, fun i hi => hd1 i (by simpa using hi), fun i hi => hd2 i (by simpa using hi), hfr⟩
      · skip
        have hlt2 : w < 2 := by have := (nI_ltI (by omega) (by omega)).mp (Int32.not_le.mp c9); omega
        have hkw := hk15 w hlt2
        refine g_iconst (v := nI 0) fx dX12_takeSamples_12 (by decide +kernel) ?_
        refine g_istore_n (L' := [(2, .int (nI 0)), (0, .ref (ad 0)), (1, .int (nI w))]) fx dX12_takeSamples_13 (by decide) rfl ?_
        have LP14 : ∀ (M : Nat) (k : Nat) (ct3 : Nat → va_E) (fn2 : Nat → Int32), (k ≤ km w) → (∀ i, i < (if w = 0 then k else km 0) → fn2 i = fs i) → (∀ i, i < (if w = 0 then 0 else k) → fn2 (km 0 + i) = fs (15 + i)) → (ct3 0 = mObj ad (va_up f 34 (nI ((if w = 0 then 0 else km 0) + k)))) → (ct3 6 = .inl (B.2.1 0, 30, .inl fs)) → (ct3 7 = .inl (B.2.1 0, 2, .inl (nF km))) → (ct3 22 = .inl (B.2.1 0, 30, .inl fn2)) → (∀ r, r ≠ 0 → r ≠ 22 → ct3 r = ct r) →  (km w - k) < M → G B 3 E ad ct3 n 0 0 [(0, .ref (ad 0)), (1, .int (nI w)), (2, .int (nI k))] 14 [] := by
          intro M
          induction M with
          | zero => intro k ct3 fn2 _ _ _ _ _ _ _ _ hM; exact absurd hM (Nat.not_lt_zero _)
          | succ M ih =>
            intro k ct3 fn2 hk he1 he2 h0 hs hm hnb hfr hM
            have ih14 := ih
            refine g_iload_n fx 2 dX12_takeSamples_14 rfl ?_
            refine g_aload_n fx 0 dX12_takeSamples_15 rfl ?_
            refine g_get (r := 0) fx lkX12_28 (by omega) h0 rfl dX12_takeSamples_16 ?_
            refine g_iload_n fx 1 dX12_takeSamples_19 rfl ?_
            refine g_iald (r := 7) (j := w) fx (by omega) hm (nI_toInt (by omega)) (by omega) dX12_takeSamples_20 ?_
            refine g_isi (y := nI (km w)) rfl ?_
            refine g_icmp_ge fx 60 dX12_takeSamples_21 (by decide) (fun c21 => ?_) (fun c21 => ?_)
            · skip
              have hkk : k = km w := by have := (nI_leI (by omega) (by omega)).mp c21; omega
              refine g_iinc (L' := [(1, .int (nI (w + 1))), (0, .ref (ad 0)), (2, .int (nI k))]) fx (nI (w + 1)) 1 dX12_takeSamples_60 rfl (gInc _) (by decide) rfl ?_
              refine g_goto fx 7 dX12_takeSamples_63 (by decide) ?_
              refine g_locals (L' := [(0, .ref (ad 0)), (1, .int (nI (w + 1)))]) [1, 0] rfl ?_
              have hw01 : w = 0 ∨ w = 1 := by omega
              rcases hw01 with rfl | rfl
              · exact ih7 1 _ fn2 (by omega) (fun i hi => he1 i (by simpa [hkk] using hi)) (fun i hi => absurd hi (by simp)) (by simpa [hkk] using h0) hs hm hnb hfr (by omega)
              · exact ih7 2 _ fn2 (by omega) (fun i hi => he1 i (by simpa using hi)) (fun i hi => he2 i (by simpa [hkk] using hi)) (by simpa [hkk] using h0) hs hm hnb hfr (by omega)
            · skip
              have hlt3 : k < km w := by have := (nI_ltI (by omega) (by omega)).mp (Int32.not_le.mp c21); omega
              have hsum : (if w = 0 then 0 else km 0) + k < 30 := by split <;> omega
              refine g_aload_n fx 0 dX12_takeSamples_24 rfl ?_
              refine g_get (r := 0) fx lkX12_81 (by omega) h0 rfl dX12_takeSamples_25 ?_
              refine g_aload_n fx 0 dX12_takeSamples_28 rfl ?_
              refine g_get (r := 0) fx lkX12_250 (by omega) h0 rfl dX12_takeSamples_29 ?_
              refine g_isi (y := nI ((if w = 0 then 0 else km 0) + k)) (va_up_self _ _ _) ?_
              refine g_aload_n fx 0 dX12_takeSamples_32 rfl ?_
              refine g_get (r := 0) fx lkX12_25 (by omega) h0 rfl dX12_takeSamples_33 ?_
              refine g_bipush (v := nI 15) fx dX12_takeSamples_36 (by decide +kernel) ?_
              refine g_iload_n fx 1 dX12_takeSamples_38 rfl ?_
              refine g_imulN fx dX12_takeSamples_39 ?_
              refine g_iload_n fx 2 dX12_takeSamples_40 rfl ?_
              refine g_iaddN fx dX12_takeSamples_41 ?_
              refine g_iald (r := 6) (j := 15 * w + k) fx (by omega) hs (nI_toInt (by omega)) (by omega) dX12_takeSamples_42 ?_
              refine g_iast (r := 22) (j := ((if w = 0 then 0 else km 0) + k)) fx (by omega) hnb (nI_toInt (by omega)) hsum dX12_takeSamples_43 (fun cu1 ecu1 => ?_)
              have hfr : ∀ r, r ≠ 0 → r ≠ 22 → cu1 r = ct r := fun r _ _ => (congrFun ecu1 r).trans ((va_up_ne _ _ (by assumption)).trans (hfr r (by assumption) (by assumption)))
              have h0 : cu1 0 = mObj ad (va_up f 34 (nI ((if w = 0 then 0 else km 0) + k))) := (congrFun ecu1 _).trans ((va_up_ne _ _ (by omega)).trans h0)
              have hs : cu1 6 = .inl (B.2.1 0, 30, .inl fs) := (congrFun ecu1 _).trans ((va_up_ne _ _ (by omega)).trans hs)
              have hm : cu1 7 = .inl (B.2.1 0, 2, .inl (nF km)) := (congrFun ecu1 _).trans ((va_up_ne _ _ (by omega)).trans hm)
              have hnb : cu1 22 = .inl (B.2.1 0, 30, .inl (va_up fn2 ((if w = 0 then 0 else km 0) + k) (fs (15 * w + k)))) := by rw [ecu1, va_up_self]
              refine g_aload_n fx 0 dX12_takeSamples_44 rfl ?_
              refine g_dup fx dX12_takeSamples_45 rfl ?_
              refine g_get (r := 0) fx lkX12_250 (by omega) h0 rfl dX12_takeSamples_46 ?_
              refine g_isi (y := nI ((if w = 0 then 0 else km 0) + k)) (va_up_self _ _ _) ?_
              refine g_iconst (v := nI 1) fx dX12_takeSamples_49 (by decide +kernel) ?_
              refine g_iadd fx dX12_takeSamples_50 ?_
              refine g_isi (y := nI ((if w = 0 then 0 else km 0) + (k + 1))) (by rw [nI_add, Nat.add_assoc]) ?_
              refine g_put (r := 0) (fs' := mFs ad (va_up f 34 (nI ((if w = 0 then 0 else km 0) + (k + 1))))) fx lpX12_250 (by omega) h0 rfl rfl (Nat.le_of_ble_eq_true rfl) rfl dX12_takeSamples_51 (fun cu2 ecu2 => ?_)
              have hfr : ∀ r, r ≠ 0 → r ≠ 22 → cu2 r = ct r := fun r _ _ => (congrFun ecu2 r).trans ((va_up_ne _ _ (by assumption)).trans (hfr r (by assumption) (by assumption)))
              have h0 : cu2 0 = mObj ad (va_up f 34 (nI ((if w = 0 then 0 else km 0) + (k + 1)))) := by rw [ecu2, va_up_self]
              have hs : cu2 6 = .inl (B.2.1 0, 30, .inl fs) := (congrFun ecu2 _).trans ((va_up_ne _ _ (by omega)).trans hs)
              have hm : cu2 7 = .inl (B.2.1 0, 2, .inl (nF km)) := (congrFun ecu2 _).trans ((va_up_ne _ _ (by omega)).trans hm)
              have hnb : cu2 22 = .inl (B.2.1 0, 30, .inl (va_up fn2 ((if w = 0 then 0 else km 0) + k) (fs (15 * w + k)))) := (congrFun ecu2 _).trans ((va_up_ne _ _ (by omega)).trans hnb)
              refine g_iinc (L' := [(2, .int (nI (k + 1))), (0, .ref (ad 0)), (1, .int (nI w))]) fx (nI (k + 1)) 2 dX12_takeSamples_54 rfl (gInc _) (by decide) rfl ?_
              refine g_goto fx 14 dX12_takeSamples_57 (by decide) ?_
              refine g_locals (L' := [(0, .ref (ad 0)), (1, .int (nI w)), (2, .int (nI (k + 1)))]) [1, 2, 0] rfl ?_
              have hw01 : w = 0 ∨ w = 1 := by omega
              refine ih (k + 1) _ _ hlt3 ?_ ?_ h0 hs hm hnb hfr (by omega)
              · intro i hi
                rcases hw01 with rfl | rfl
                · by_cases q : i = k
                  · subst q; simp [va_up]
                  · have e := he1 i (by simp at hi ⊢; omega)
                    simp only [if_true, Nat.zero_add]
                    rw [va_up_ne _ _ q]; exact e
                · simp only [Nat.one_ne_zero, if_false] at hi ⊢
                  rw [va_up_ne _ _ (by omega)]; exact he1 i (by simpa using hi)
              · intro i hi
                rcases hw01 with rfl | rfl
                · exact absurd hi (by simp)
                · simp only [Nat.one_ne_zero, if_false] at hi ⊢
                  by_cases q : i = k
                  · subst q; rw [va_up_self]
                  · rw [va_up_ne _ _ (by omega)]; exact he2 i (by simp; omega)
        refine g_locals (L' := [(0, .ref (ad 0)), (1, .int (nI w)), (2, .int (nI 0))]) [1, 2, 0] rfl ?_
        have hw01 : w = 0 ∨ w = 1 := by omega
        refine LP14 (km w + 1) 0 ct2 fn1 (by omega) ?_ ?_ ?_ hs hm hnb hfr (by omega)
        · rcases hw01 with rfl | rfl
          · exact fun i hi => absurd hi (by simp)
          · exact fun i hi => hd1 i (by simpa using hi)
        · rcases hw01 with rfl | rfl <;> exact fun i hi => absurd hi (by simp)
        · rcases hw01 with rfl | rfl
          · simpa using h0
          · simpa using h0
  refine g_locals (L' := [(0, .ref (ad 0)), (1, .int (nI 0))]) [1, 0] rfl ?_
  exact LP7 3 0 ct1 fn (by omega) (fun i hi => absurd hi (by simp)) (fun i hi => absurd hi (by simp)) h0 hs hm hnb hfr (by omega)
set_option maxHeartbeats 4000000 in
set_option maxRecDepth 100000 in
theorem c_X12_takeSizes (B : gB) (ad : Nat → Nat) (ct : Nat → va_E) (n : Nat) (f fd fn : Nat → Int32) (hn : 33 ≤ n) (h0 : ct 0 = mObj ad f) (hd : ct 8 = .inl (B.2.1 0, 30, .inl fd)) (hnb : ct 22 = .inl (B.2.1 0, 30, .inl fn)) (kp : Nat) (hkp : f 11 = nI kp) (hkp30 : kp ≤ 30) : Ctr B yX12_takeSizes cX12_takeSizes 2 none 1 20 0 0 ad ct n [.ref (ad 0)] (gPv ad n (fun ct' => ∃ fn', ct' 0 = mObj ad (va_up f 34 (nI (nzN fd kp))) ∧ ct' 22 = .inl (B.2.1 0, 30, .inl fn') ∧ (∀ i, i < kp → ¬ fd i = 0 → fn' (nzN fd i) = absI (fd i)) ∧ ∀ r, r ≠ 0 → r ≠ 22 → ct' r = ct r)) := by
  have hfr : ∀ r, r ≠ 0 → r ≠ 22 → ct r = ct r := fun _ _ _ => rfl
  refine Ctr.ofG (L := [(0, .ref (ad 0))]) (by decide +kernel) rfl (Nat.le_of_ble_eq_true rfl) (fun E fx rt hnm => ?_)
  refine g_aload_n fx 0 dX12_takeSizes_0 rfl ?_
  refine g_iconst (v := nI 0) fx dX12_takeSizes_1 (by decide +kernel) ?_
  refine g_put (r := 0) (fs' := mFs ad (va_up f 34 (nI 0))) fx lpX12_250 (by omega) h0 rfl rfl (Nat.le_of_ble_eq_true rfl) rfl dX12_takeSizes_2 (fun ct1 ect1 => ?_)
  have hfr : ∀ r, r ≠ 0 → r ≠ 22 → ct1 r = ct r := fun r _ _ => (congrFun ect1 r).trans ((va_up_ne _ _ (by assumption)).trans (hfr r (by assumption) (by assumption)))
  have h0 : ct1 0 = mObj ad (va_up f 34 (nI 0)) := by rw [ect1, va_up_self]
  have hd : ct1 8 = .inl (B.2.1 0, 30, .inl fd) := (congrFun ect1 _).trans ((va_up_ne _ _ (by omega)).trans hd)
  have hnb : ct1 22 = .inl (B.2.1 0, 30, .inl fn) := (congrFun ect1 _).trans ((va_up_ne _ _ (by omega)).trans hnb)
  refine g_iconst (v := nI 0) fx dX12_takeSizes_5 (by decide +kernel) ?_
  refine g_istore_n (L' := [(1, .int (nI 0)), (0, .ref (ad 0))]) fx dX12_takeSizes_6 (by decide) rfl ?_
  have LP7 : ∀ (M : Nat) (k : Nat) (ct2 : Nat → va_E) (fn1 : Nat → Int32), (k ≤ kp) → (∀ i, i < k → ¬ fd i = 0 → fn1 (nzN fd i) = absI (fd i)) → (ct2 0 = mObj ad (va_up f 34 (nI (nzN fd k)))) → (ct2 8 = .inl (B.2.1 0, 30, .inl fd)) → (ct2 22 = .inl (B.2.1 0, 30, .inl fn1)) → (∀ r, r ≠ 0 → r ≠ 22 → ct2 r = ct r) →  (kp - k) < M → G B 2 E ad ct2 n 0 0 [(0, .ref (ad 0)), (1, .int (nI k))] 7 [] := by
    intro M
    induction M with
    | zero => intro k ct2 fn1 _ _ _ _ _ _ hM; exact absurd hM (Nat.not_lt_zero _)
    | succ M ih =>
      intro k ct2 fn1 hk he h0 hd hnb hfr hM
      have ih7 := ih
      refine g_iload_n fx 1 dX12_takeSizes_7 rfl ?_
      refine g_aload_n fx 0 dX12_takeSizes_8 rfl ?_
      refine g_get (r := 0) fx lkX12_181 (by omega) h0 rfl dX12_takeSizes_9 ?_
      refine g_isi (y := nI kp) ((va_up_ne _ _ (by decide)).trans hkp) ?_
      refine g_icmp_ge fx 58 dX12_takeSizes_12 (by decide) (fun c12 => ?_) (fun c12 => ?_)
      · skip
        have hkk : k = kp := by have := (nI_leI (by omega) (by omega)).mp c12; omega
        refine g_vret fx rt dX12_takeSizes_58 ?_
        rw [hkk] at he h0
        exact gPv.mk ⟨fn1, h0, hnb, he, hfr⟩
      · skip
        have hlt2 : k < kp := by have := (nI_ltI (by omega) (by omega)).mp (Int32.not_le.mp c12); omega
        have hnz := gCnt_le (p := fun x => decide (¬ x = 0)) (f := fd) k
        have hnz2 : nzN fd k ≤ k := hnz
        refine g_aload_n fx 0 dX12_takeSizes_15 rfl ?_
        refine g_get (r := 0) fx lkX12_31 (by omega) h0 rfl dX12_takeSizes_16 ?_
        refine g_iload_n fx 1 dX12_takeSizes_19 rfl ?_
        refine g_iald (r := 8) (j := k) fx (by omega) hd (nI_toInt (by omega)) (by omega) dX12_takeSizes_20 ?_
        refine g_if_eq fx 52 dX12_takeSizes_21 (by decide) (fun c21 => ?_) (fun c21 => ?_)
        · skip
          refine g_iinc (L' := [(1, .int (nI (k + 1))), (0, .ref (ad 0))]) fx (nI (k + 1)) 1 dX12_takeSizes_52 rfl (gInc _) (by decide) rfl ?_
          refine g_goto fx 7 dX12_takeSizes_55 (by decide) ?_
          refine g_locals (L' := [(0, .ref (ad 0)), (1, .int (nI (k + 1)))]) [1, 0] rfl ?_
          first | exact ih (k + 1) _ fn1 hlt2 (fun i hi hz => by by_cases q : i = k; (exact absurd (q ▸ c21) hz); (exact he i (by omega) hz)) (by rw [show nzN fd (k + 1) = nzN fd k from gCnt_f _ (decide_eq_false (fun w => w c21))]; exact h0) hd hnb hfr (by omega) | exact ih (k + 1) _ (va_up fn1 (nzN fd k) (absI (fd k))) hlt2 (fun i hi hz => by by_cases q : i = k; (rw [q, va_up_self]); (rw [va_up_ne _ _ (Nat.ne_of_lt (nz_lt (by omega) hz))]; exact he i (by omega) hz)) (by rw [show nzN fd (k + 1) = nzN fd k + 1 from gCnt_t _ (decide_eq_true c21)]; exact h0) hd hnb hfr (by omega)
        · skip
          refine g_aload_n fx 0 dX12_takeSizes_24 rfl ?_
          refine g_get (r := 0) fx lkX12_81 (by omega) h0 rfl dX12_takeSizes_25 ?_
          refine g_aload_n fx 0 dX12_takeSizes_28 rfl ?_
          refine g_get (r := 0) fx lkX12_250 (by omega) h0 rfl dX12_takeSizes_29 ?_
          refine g_isi (y := nI (nzN fd k)) (va_up_self _ _ _) ?_
          refine g_aload_n fx 0 dX12_takeSizes_32 rfl ?_
          refine g_get (r := 0) fx lkX12_31 (by omega) h0 rfl dX12_takeSizes_33 ?_
          refine g_iload_n fx 1 dX12_takeSizes_36 rfl ?_
          refine g_iald (r := 8) (j := k) fx (by omega) hd (nI_toInt (by omega)) (by omega) dX12_takeSizes_37 ?_
          refine g_callSip (As := [.int (fd k)]) (rest := [.int (nI (nzN fd k)), .ref (ad 22)]) fx slX12_253 (c_X12_sizeOf B ad ct2 n (fd k)) rfl rfl (Nat.le_of_ble_eq_true rfl) ⟨by decide, by decide⟩ ⟨by decide, by decide⟩ dX12_takeSizes_38 (fun q1 hq1 => ?_)
          obtain rfl := hq1
          refine g_iast (r := 22) (j := (nzN fd k)) fx (by omega) hnb (nI_toInt (by omega)) (by omega) dX12_takeSizes_41 (fun cu2 ecu2 => ?_)
          have hfr : ∀ r, r ≠ 0 → r ≠ 22 → cu2 r = ct r := fun r _ _ => (congrFun ecu2 r).trans ((va_up_ne _ _ (by assumption)).trans (hfr r (by assumption) (by assumption)))
          have h0 : cu2 0 = mObj ad (va_up f 34 (nI (nzN fd k))) := (congrFun ecu2 _).trans ((va_up_ne _ _ (by omega)).trans h0)
          have hd : cu2 8 = .inl (B.2.1 0, 30, .inl fd) := (congrFun ecu2 _).trans ((va_up_ne _ _ (by omega)).trans hd)
          have hnb : cu2 22 = .inl (B.2.1 0, 30, .inl (va_up fn1 (nzN fd k) (absI (fd k)))) := by rw [ecu2, va_up_self]
          refine g_aload_n fx 0 dX12_takeSizes_42 rfl ?_
          refine g_dup fx dX12_takeSizes_43 rfl ?_
          refine g_get (r := 0) fx lkX12_250 (by omega) h0 rfl dX12_takeSizes_44 ?_
          refine g_isi (y := nI (nzN fd k)) (va_up_self _ _ _) ?_
          refine g_iconst (v := nI 1) fx dX12_takeSizes_47 (by decide +kernel) ?_
          refine g_iaddN fx dX12_takeSizes_48 ?_
          refine g_put (r := 0) (fs' := mFs ad (va_up f 34 (nI ((nzN fd k) + 1)))) fx lpX12_250 (by omega) h0 rfl rfl (Nat.le_of_ble_eq_true rfl) rfl dX12_takeSizes_49 (fun cu3 ecu3 => ?_)
          have hfr : ∀ r, r ≠ 0 → r ≠ 22 → cu3 r = ct r := fun r _ _ => (congrFun ecu3 r).trans ((va_up_ne _ _ (by assumption)).trans (hfr r (by assumption) (by assumption)))
          have h0 : cu3 0 = mObj ad (va_up f 34 (nI ((nzN fd k) + 1))) := by rw [ecu3, va_up_self]
          have hd : cu3 8 = .inl (B.2.1 0, 30, .inl fd) := (congrFun ecu3 _).trans ((va_up_ne _ _ (by omega)).trans hd)
          have hnb : cu3 22 = .inl (B.2.1 0, 30, .inl (va_up fn1 (nzN fd k) (absI (fd k)))) := (congrFun ecu3 _).trans ((va_up_ne _ _ (by omega)).trans hnb)
          refine g_iinc (L' := [(1, .int (nI (k + 1))), (0, .ref (ad 0))]) fx (nI (k + 1)) 1 dX12_takeSizes_52 rfl (gInc _) (by decide) rfl ?_
          refine g_goto fx 7 dX12_takeSizes_55 (by decide) ?_
          refine g_locals (L' := [(0, .ref (ad 0)), (1, .int (nI (k + 1)))]) [1, 0] rfl ?_
          first | exact ih (k + 1) _ fn1 hlt2 (fun i hi hz => by by_cases q : i = k; (exact absurd (q ▸ c21) hz); (exact he i (by omega) hz)) (by rw [show nzN fd (k + 1) = nzN fd k from gCnt_f _ (decide_eq_false (fun w => w c21))]; exact h0) hd hnb hfr (by omega) | exact ih (k + 1) _ (va_up fn1 (nzN fd k) (absI (fd k))) hlt2 (fun i hi hz => by by_cases q : i = k; (rw [q, va_up_self]); (rw [va_up_ne _ _ (Nat.ne_of_lt (nz_lt (by omega) hz))]; exact he i (by omega) hz)) (by rw [show nzN fd (k + 1) = nzN fd k + 1 from gCnt_t _ (decide_eq_true c21)]; exact h0) hd hnb hfr (by omega)
  refine g_locals (L' := [(0, .ref (ad 0)), (1, .int (nI 0))]) [1, 0] rfl ?_
  exact LP7 (kp + 1) 0 ct1 fn (by omega) (fun i hi => absurd hi (by omega)) h0 hd hnb hfr (by omega)
