def sgV (w : Nat) (fd : Nat → Int32) (kp k : Nat) : Nat := if w = 0 then (fd k).toInt.natAbs else if w = 1 then rkZ fd kp (absI (fd k)) else 1
def sgT (w : Nat) (fd : Nat → Int32) (kp k : Nat) : Nat := if fd k = 0 then 0 else sgV w fd kp k
def sgO (w : Nat) (fd : Nat → Int32) (kp k : Nat) : Nat := if 0 < fd k then sgV w fd kp k else 0
theorem rkZ_le {fd : Nat → Int32} {k : Nat} {v : Int32} : rkZ fd k v ≤ 3 * k + 1 := by
  unfold rkZ
  have h1 := gCnt_le (p := fun x => decide (¬ x = 0) && decide (absI x < v)) (f := fd) k
  have h2 := gCnt_le (p := fun x => decide (¬ x = 0) && decide (absI x = v)) (f := fd) k
  omega
theorem sgV_bd {w : Nat} {fd : Nat → Int32} {kp k : Nat} (hk : k < kp) (h30 : kp ≤ 30) (hs : ∀ j, j < 30 → (fd j).toInt.natAbs ≤ 2000) : sgV w fd kp k ≤ 2000 := by
  unfold sgV
  by_cases q : w = 0
  · rw [if_pos q]; exact hs k (by omega)
  · rw [if_neg q]
    by_cases q2 : w = 1
    · rw [if_pos q2]; have := rkZ_le (fd := fd) (k := kp) (v := absI (fd k)); omega
    · rw [if_neg q2]; decide
theorem absI_nI {x : Int32} (h : x.toInt.natAbs ≤ 2000) : absI x = nI x.toInt.natAbs := nI_ofT (sz_toInt rfl (by omega)) (by omega)
theorem nz_t {fd : Nat → Int32} {k : Nat} (h : ¬ fd k = 0) : nzN fd (k + 1) = nzN fd k + 1 := gCnt_t _ (decide_eq_true h)
theorem nz_f {fd : Nat → Int32} {k : Nat} (h : fd k = 0) : nzN fd (k + 1) = nzN fd k := gCnt_f _ (decide_eq_false (fun w => w h))
theorem nz_surj {fd : Nat → Int32} : ∀ kp j, j < nzN fd kp → ∃ k, k < kp ∧ ¬ fd k = 0 ∧ nzN fd k = j
  | 0, j, h => absurd h (Nat.not_lt_zero _)
  | kp + 1, j, h => by
    by_cases q : fd kp = 0
    · rw [nz_f q] at h
      obtain ⟨k, h1, h2, h3⟩ := nz_surj kp j h
      exact ⟨k, by omega, h2, h3⟩
    · rw [nz_t q] at h
      by_cases q2 : j = nzN fd kp
      · exact ⟨kp, by omega, q, q2.symm⟩
      · obtain ⟨k, h1, h2, h3⟩ := nz_surj (fd := fd) kp j (by omega)
        exact ⟨k, by omega, h2, h3⟩
def bN (sc : Nat → Nat) : Nat → Nat → Nat
  | 0, s => if s = 0 then 1 else 0
  | n + 1, s => bN sc n s + (if sc n ≤ s then bN sc n (s - sc n) else 0)
def bZ (V : Nat → Nat) (fd : Nat → Int32) : Nat → Nat → Nat
  | 0, s => if s = 0 then 1 else 0
  | k + 1, s => if fd k = 0 then bZ V fd k s else bZ V fd k s + (if V k ≤ s then bZ V fd k (s - V k) else 0)
theorem bN_bZ {sN V : Nat → Nat} {fd : Nat → Int32} : ∀ k s, (∀ j, j < k → ¬ fd j = 0 → sN (nzN fd j) = V j) → bN sN (nzN fd k) s = bZ V fd k s
  | 0, _, _ => rfl
  | k + 1, s, h => by
    have ih := fun s => bN_bZ k s (fun j hj => h j (by omega))
    by_cases q : fd k = 0
    · rw [nz_f q, ih]; exact (if_pos q).symm
    · rw [nz_t q]
      show bN sN (nzN fd k) s + (if sN (nzN fd k) ≤ s then bN sN (nzN fd k) (s - sN (nzN fd k)) else 0) = if fd k = 0 then bZ V fd k s else bZ V fd k s + (if V k ≤ s then bZ V fd k (s - V k) else 0)
      rw [if_neg q, h k (by omega) q, ih, ih]
theorem bN_bd {sc : Nat → Nat} : ∀ n s, bN sc n s ≤ 2 ^ n
  | 0, s => by
    show (if s = 0 then 1 else 0) ≤ 1
    split <;> omega
  | n + 1, s => by
    have h1 := bN_bd (sc := sc) n s
    have h2 := bN_bd (sc := sc) n (s - sc n)
    show bN sc n s + (if sc n ≤ s then bN sc n (s - sc n) else 0) ≤ 2 ^ (n + 1)
    rw [Nat.pow_succ]
    split <;> omega
theorem bN_lt {sc : Nat → Nat} {n s : Nat} (h : n ≤ 30) : bN sc n s < 2 ^ 31 :=
  Nat.lt_of_le_of_lt (bN_bd n s) (Nat.lt_of_le_of_lt (Nat.pow_le_pow_right (by decide) h) (by decide))
theorem bN_0 {sc : Nat → Nat} : ∀ n, 1 ≤ bN sc n 0
  | 0 => Nat.le_refl _
  | n + 1 => Nat.le_trans (bN_0 n) (Nat.le_add_right _ _)
def bMid (sc : Nat → Nat) (i t x : Nat) : Nat := bN sc i x + (if sc i ≤ x ∧ t ≤ x - sc i then bN sc i (x - sc i) else 0)
theorem bMid_in {sc : Nat → Nat} {i x : Nat} (hx : x ≤ 60000) (h2 : sc i ≤ 60000) : bMid sc i (60000 - sc i + 1) x = bN sc i x := by
  unfold bMid
  rw [if_neg (by omega), Nat.add_zero]
theorem bMid_out {sc : Nat → Nat} {i x : Nat} : bMid sc i 0 x = bN sc (i + 1) x := by
  unfold bMid
  show _ = bN sc i x + (if sc i ≤ x then bN sc i (x - sc i) else 0)
  congr 1
  by_cases q : sc i ≤ x
  · rw [if_pos ⟨q, Nat.zero_le _⟩, if_pos q]
  · rw [if_neg (fun w => q w.1), if_neg q]
theorem bMid_ne {sc : Nat → Nat} {i t x : Nat} (ht : 0 < t) (h : ¬ x = t - 1 + sc i) : bMid sc i (t - 1) x = bMid sc i t x := by
  unfold bMid
  congr 1
  by_cases q2 : sc i ≤ x ∧ t ≤ x - sc i
  · rw [if_pos q2, if_pos ⟨q2.1, by omega⟩]
  · rw [if_neg q2, if_neg (fun w => q2 ⟨w.1, by omega⟩)]
theorem bMid_at {sc : Nat → Nat} {i t : Nat} (ht : 0 < t) : bMid sc i (t - 1) (t - 1 + sc i) = bMid sc i t (t - 1 + sc i) + bN sc i (t - 1) := by
  unfold bMid
  rw [if_pos ⟨by omega, by omega⟩, if_neg (show ¬ (sc i ≤ t - 1 + sc i ∧ t ≤ t - 1 + sc i - sc i) by omega), Nat.add_zero, Nat.add_sub_cancel]
theorem bMid_in0 {sc : Nat → Nat} {i t x : Nat} (ht : 0 < t) (hx : x = t - 1) (h0 : sc i = 0) : bMid sc i t x = bN sc i x := by
  unfold bMid
  rw [if_neg (by omega), Nat.add_zero]
set_option maxHeartbeats 4000000 in
set_option maxRecDepth 100000 in
theorem c_X12_signs (B : gB) (ad : Nat → Nat) (ct : Nat → va_E) (n : Nat) (f fd fn sc : Nat → Int32) (gq gl go gt gu gw gb wh : Nat → Nat) (hn : 33 ≤ n) (h0 : ct 0 = mObj ad f) (hq : ct 1 = .inl (B.2.1 0, 40, .inl (nF gq))) (hlf : ct 2 = .inl (B.2.1 0, 40, .inl (nF gl))) (ho : ct 3 = .inl (B.2.1 0, 40, .inl (nF go))) (ht : ct 4 = .inl (B.2.1 0, 40, .inl (nF gt))) (hd : ct 8 = .inl (B.2.1 0, 30, .inl fd)) (hu : ct 9 = .inl (B.2.1 0, 160, .inl (nF gu))) (hw : ct 10 = .inl (B.2.1 0, 160, .inl (nF gw))) (hb : ct 11 = .inl (B.2.1 1, 60001, .inr (.inl (lF gb)))) (hwh : ct 21 = .inl (B.2.1 0, 40, .inl (nF wh))) (hnb : ct 22 = .inl (B.2.1 0, 30, .inl fn)) (hsr : ct 23 = .inl (B.2.1 0, 30, .inl sc)) (kp : Nat) (hkp : f 11 = nI kp) (hkp30 : kp ≤ 30) (hdb : ∀ j, j < 30 → (fd j).toInt.natAbs ≤ 2000) (x : Int32) : Ctr B yX12_signs cX12_signs 8 (some .int) 5 134 0 0 ad ct n [.ref (ad 0), .int x] (gPi ad n (fun q ct' => (¬ ((0 : Int) ≤ x.toInt ∧ x.toInt ≤ 2) ∧ q = -1000000001 ∧ ct' = ct) ∨ (((0 : Int) ≤ x.toInt ∧ x.toInt ≤ 2) ∧ nzN fd kp = 0 ∧ q = -1000000003 ∧ (∃ m' fn', ct' 0 = mObj ad (va_up f 34 (nI m')) ∧ ct' 22 = .inl (B.2.1 0, 30, .inl fn') ∧ ∀ r, r ≠ 0 → r ≠ 22 → ct' r = ct r)) ∨ (((0 : Int) ≤ x.toInt ∧ x.toInt ≤ 2) ∧ 0 < nzN fd kp ∧ ∃ w : Nat, w < 3 ∧ x = nI w ∧ q = nI (sumF (sgO w fd kp) kp) ∧ ∃ F gq' gl' go' gt' gu' gw' gb' wh' fn' sc', ct' 0 = mObj ad F ∧ ct' 1 = .inl (B.2.1 0, 40, .inl (nF gq')) ∧ ct' 2 = .inl (B.2.1 0, 40, .inl (nF gl')) ∧ ct' 3 = .inl (B.2.1 0, 40, .inl (nF go')) ∧ ct' 4 = .inl (B.2.1 0, 40, .inl (nF gt')) ∧ ct' 9 = .inl (B.2.1 0, 160, .inl (nF gu')) ∧ ct' 10 = .inl (B.2.1 0, 160, .inl (nF gw')) ∧ ct' 11 = .inl (B.2.1 1, 60001, .inr (.inl (lF gb'))) ∧ ct' 21 = .inl (B.2.1 0, 40, .inl (nF wh')) ∧ ct' 22 = .inl (B.2.1 0, 30, .inl fn') ∧ ct' 23 = .inl (B.2.1 0, 30, .inl sc') ∧ F 12 = nI (3 + w) ∧ F 13 = q ∧ F 14 = nI (nzN fd kp) ∧ F 18 = nI 60001 ∧ F 19 = nI 0 ∧ (∀ k, k ≠ 12 → k ≠ 13 → k ≠ 14 → k ≠ 18 → k ≠ 19 → k ≠ 34 → F k = f k) ∧ (∀ s, s < 60001 → gb' s = (bZ (sgV w fd kp) fd kp) s) ∧ (∀ t, t < 4 → okN gu' (40 * t) ∧ okN gw' (40 * t) ∧ nv gu' (40 * t) = fcS 2 (((sumF (sgT w fd kp) kp) : Nat) : Int) (((sumF (sgO w fd kp) kp) : Nat) : Int) 0 gb' 60001 t / Nat.gcd (fcS 2 (((sumF (sgT w fd kp) kp) : Nat) : Int) (((sumF (sgO w fd kp) kp) : Nat) : Int) 0 gb' 60001 t) (sumF gb' 60001) ∧ nv gw' (40 * t) = sumF gb' 60001 / Nat.gcd (fcS 2 (((sumF (sgT w fd kp) kp) : Nat) : Int) (((sumF (sgO w fd kp) kp) : Nat) : Int) 0 gb' 60001 t) (sumF gb' 60001)) ∧ ∀ r, r ≠ 0 → r ≠ 1 → r ≠ 2 → r ≠ 3 → r ≠ 4 → r ≠ 9 → r ≠ 10 → r ≠ 11 → r ≠ 21 → r ≠ 22 → r ≠ 23 → ct' r = ct r))) := by
  have hfr : ∀ r, r ≠ 0 → r ≠ 1 → r ≠ 2 → r ≠ 3 → r ≠ 4 → r ≠ 9 → r ≠ 10 → r ≠ 11 → r ≠ 21 → r ≠ 22 → r ≠ 23 → ct r = ct r := fun _ _ _ _ _ _ _ _ _ _ _ _ => rfl
  have hnk : nzN fd kp ≤ kp := gCnt_le kp
  refine Ctr.ofG (L := [(0, .ref (ad 0)), (1, .int x)]) (by decide +kernel) rfl (Nat.le_of_ble_eq_true rfl) (fun E fx rt hnm => ?_)
  refine g_iload_n fx 1 dX12_signs_0 rfl ?_
  refine g_i2l fx dX12_signs_1 ?_
  refine g_lconst (v := lN 0) fx dX12_signs_2 (by decide +kernel) ?_
  refine g_ldc2 fx kcX12_256 dX12_signs_3 ?_
  refine g_callSip (As := [.long x.toInt64, .long (lN 0), .long 2]) (rest := []) fx slX12_159 (c_in B ad ct n x (lN 0) (2) 0 2 (by decide) (by decide)) rfl rfl (Nat.le_of_ble_eq_true rfl) ⟨by decide, by decide⟩ ⟨by decide, by decide⟩ dX12_signs_6 (fun q1 hq1 => ?_)
  refine g_if_ne fx 16 dX12_signs_9 (by decide) (fun c9 => ?_) (fun c9 => ?_)
  · skip
    have hP : (0 : Int) ≤ x.toInt ∧ x.toInt ≤ 2 := if01_n.mp (hq1 ▸ c9)
    obtain ⟨w, hw2, ext⟩ := toN hP (by omega)
    have hwl : w < 3 := by omega
    refine g_relocal (L' := [(0, .ref (ad 0)), (1, .int (nI w))]) (by rw [ext]) ?_
    refine g_aload_n fx 0 dX12_signs_16 rfl ?_
    refine g_callVv (As := []) (rest := []) fx slX12_258 (c_X12_takeSizes B ad ct n f fd fn hn h0 hd hnb kp hkp hkp30) (by omega) h0 rfl rfl rfl (Nat.le_of_ble_eq_true rfl) ⟨by decide, by decide⟩ ⟨by decide, by decide⟩ dX12_signs_17 (fun ct1 hz1 => ?_)
    obtain ⟨fn1, h0, hnb, hz1, hs1⟩ := hz1
    have hq : ct1 1 = .inl (B.2.1 0, 40, .inl (nF gq)) := (hs1 1 (by decide) (by decide)).trans hq
    have hlf : ct1 2 = .inl (B.2.1 0, 40, .inl (nF gl)) := (hs1 2 (by decide) (by decide)).trans hlf
    have ho : ct1 3 = .inl (B.2.1 0, 40, .inl (nF go)) := (hs1 3 (by decide) (by decide)).trans ho
    have ht : ct1 4 = .inl (B.2.1 0, 40, .inl (nF gt)) := (hs1 4 (by decide) (by decide)).trans ht
    have hd : ct1 8 = .inl (B.2.1 0, 30, .inl fd) := (hs1 8 (by decide) (by decide)).trans hd
    have hu : ct1 9 = .inl (B.2.1 0, 160, .inl (nF gu)) := (hs1 9 (by decide) (by decide)).trans hu
    have hw : ct1 10 = .inl (B.2.1 0, 160, .inl (nF gw)) := (hs1 10 (by decide) (by decide)).trans hw
    have hb : ct1 11 = .inl (B.2.1 1, 60001, .inr (.inl (lF gb))) := (hs1 11 (by decide) (by decide)).trans hb
    have hwh : ct1 21 = .inl (B.2.1 0, 40, .inl (nF wh)) := (hs1 21 (by decide) (by decide)).trans hwh
    have hsr : ct1 23 = .inl (B.2.1 0, 30, .inl sc) := (hs1 23 (by decide) (by decide)).trans hsr
    have hfr : ∀ r, r ≠ 0 → r ≠ 1 → r ≠ 2 → r ≠ 3 → r ≠ 4 → r ≠ 9 → r ≠ 10 → r ≠ 11 → r ≠ 21 → r ≠ 22 → r ≠ 23 → ct1 r = ct r := fun r q0 q1 q2 q3 q4 q9 q10 q11 q21 q22 q23 => (hs1 r q0 q22).trans (hfr r q0 q1 q2 q3 q4 q9 q10 q11 q21 q22 q23)
    refine g_aload_n fx 0 dX12_signs_20 rfl ?_
    refine g_get (r := 0) fx lkX12_250 (by omega) h0 rfl dX12_signs_21 ?_
    refine g_isi (y := nI (nzN fd kp)) (va_up_self _ _ _) ?_
    refine g_istore_n (L' := [(2, .int (nI (nzN fd kp))), (0, .ref (ad 0)), (1, .int (nI w))]) fx dX12_signs_24 (by decide) rfl ?_
    refine g_iload_n fx 0 dX12_signs_25 rfl ?_
    refine g_if_ne fx 33 dX12_signs_26 (by decide) (fun c26 => ?_) (fun c26 => ?_)
    · skip
      have hnp : 0 < nzN fd kp := Nat.pos_of_ne_zero (fun q => c26 (by rw [q]; rfl))
      refine g_iconst (v := nI 0) fx dX12_signs_33 (by decide +kernel) ?_
      refine g_istore_n (L' := [(3, .int (nI 0)), (2, .int (nI (nzN fd kp))), (0, .ref (ad 0)), (1, .int (nI w))]) fx dX12_signs_34 (by decide) rfl ?_
      refine g_iconst (v := nI 0) fx dX12_signs_35 (by decide +kernel) ?_
      refine g_istore (L' := [(4, .int (nI 0)), (3, .int (nI 0)), (2, .int (nI (nzN fd kp))), (0, .ref (ad 0)), (1, .int (nI w))]) fx dX12_signs_36 (by decide) rfl ?_
      refine g_iconst (v := nI 0) fx dX12_signs_38 (by decide +kernel) ?_
      refine g_istore (L' := [(5, .int (nI 0)), (4, .int (nI 0)), (3, .int (nI 0)), (2, .int (nI (nzN fd kp))), (0, .ref (ad 0)), (1, .int (nI w))]) fx dX12_signs_39 (by decide) rfl ?_
      refine g_iconst (v := nI 0) fx dX12_signs_41 (by decide +kernel) ?_
      refine g_istore (L' := [(6, .int (nI 0)), (5, .int (nI 0)), (4, .int (nI 0)), (3, .int (nI 0)), (2, .int (nI (nzN fd kp))), (0, .ref (ad 0)), (1, .int (nI w))]) fx dX12_signs_42 (by decide) rfl ?_
      have LP44 : ∀ (M : Nat) (k : Nat) (ct2 : Nat → va_E) (sc2 : Nat → Int32), (k ≤ kp) → (∀ j, j < k → ¬ fd j = 0 → sc2 (nzN fd j) = nI (sgV w fd kp j)) → (ct2 0 = mObj ad (va_up f 34 (nI (nzN fd kp)))) → (ct2 1 = .inl (B.2.1 0, 40, .inl (nF gq))) → (ct2 2 = .inl (B.2.1 0, 40, .inl (nF gl))) → (ct2 3 = .inl (B.2.1 0, 40, .inl (nF go))) → (ct2 4 = .inl (B.2.1 0, 40, .inl (nF gt))) → (ct2 8 = .inl (B.2.1 0, 30, .inl fd)) → (ct2 9 = .inl (B.2.1 0, 160, .inl (nF gu))) → (ct2 10 = .inl (B.2.1 0, 160, .inl (nF gw))) → (ct2 11 = .inl (B.2.1 1, 60001, .inr (.inl (lF gb)))) → (ct2 21 = .inl (B.2.1 0, 40, .inl (nF wh))) → (ct2 22 = .inl (B.2.1 0, 30, .inl fn1)) → (ct2 23 = .inl (B.2.1 0, 30, .inl sc2)) → (∀ r, r ≠ 0 → r ≠ 1 → r ≠ 2 → r ≠ 3 → r ≠ 4 → r ≠ 9 → r ≠ 10 → r ≠ 11 → r ≠ 21 → r ≠ 22 → r ≠ 23 → ct2 r = ct r) →  (kp - k) < M → G B 8 E ad ct2 n 0 0 [(0, .ref (ad 0)), (1, .int (nI w)), (2, .int (nI (nzN fd kp))), (3, .int (nI (sumF (sgT w fd kp) k))), (4, .int (nI (sumF (sgO w fd kp) k))), (5, .int (nI (nzN fd k))), (6, .int (nI k))] 44 [] := by
        intro M
        induction M with
        | zero => intro k ct2 sc2 _ _ _ _ _ _ _ _ _ _ _ _ _ _ _ hM; exact absurd hM (Nat.not_lt_zero _)
        | succ M ih =>
          intro k ct2 sc2 hk hsc2 h0 hq hlf ho ht hd hu hw hb hwh hnb hsr hfr hM
          have ih44 := ih
          refine g_iload fx 6 dX12_signs_44 rfl ?_
          refine g_aload_n fx 0 dX12_signs_46 rfl ?_
          refine g_get (r := 0) fx lkX12_181 (by omega) h0 rfl dX12_signs_47 ?_
          refine g_isi (y := nI kp) ((va_up_ne _ _ (by decide)).trans hkp) ?_
          refine g_icmp_ge fx 143 dX12_signs_50 (by decide) (fun c50 => ?_) (fun c50 => ?_)
          · skip
            have hke : k = kp := by have := (nI_leI (by omega) (by omega)).mp c50; omega
            rw [hke] at hsc2
            refine g_relocal (L' := [(0, .ref (ad 0)), (1, .int (nI w)), (2, .int (nI (nzN fd kp))), (3, .int (nI (sumF (sgT w fd kp) kp))), (4, .int (nI (sumF (sgO w fd kp) kp))), (5, .int (nI (nzN fd k))), (6, .int (nI k))]) (by rw [hke]) ?_
            refine g_iconst (v := nI 0) fx dX12_signs_143 (by decide +kernel) ?_
            refine g_istore (L' := [(6, .int (nI 0)), (0, .ref (ad 0)), (1, .int (nI w)), (2, .int (nI (nzN fd kp))), (3, .int (nI (sumF (sgT w fd kp) kp))), (4, .int (nI (sumF (sgO w fd kp) kp))), (5, .int (nI (nzN fd k)))]) fx dX12_signs_144 (by decide) rfl ?_
            have LP146 : ∀ (M : Nat) (s : Nat) (ct3 : Nat → va_E) (gb2 : Nat → Nat), (s ≤ 60001) → (∀ j, j < s → gb2 j = 0) → (ct3 0 = mObj ad (va_up f 34 (nI (nzN fd kp)))) → (ct3 1 = .inl (B.2.1 0, 40, .inl (nF gq))) → (ct3 2 = .inl (B.2.1 0, 40, .inl (nF gl))) → (ct3 3 = .inl (B.2.1 0, 40, .inl (nF go))) → (ct3 4 = .inl (B.2.1 0, 40, .inl (nF gt))) → (ct3 8 = .inl (B.2.1 0, 30, .inl fd)) → (ct3 9 = .inl (B.2.1 0, 160, .inl (nF gu))) → (ct3 10 = .inl (B.2.1 0, 160, .inl (nF gw))) → (ct3 11 = .inl (B.2.1 1, 60001, .inr (.inl (lF gb2)))) → (ct3 21 = .inl (B.2.1 0, 40, .inl (nF wh))) → (ct3 22 = .inl (B.2.1 0, 30, .inl fn1)) → (ct3 23 = .inl (B.2.1 0, 30, .inl sc2)) → (∀ r, r ≠ 0 → r ≠ 1 → r ≠ 2 → r ≠ 3 → r ≠ 4 → r ≠ 9 → r ≠ 10 → r ≠ 11 → r ≠ 21 → r ≠ 22 → r ≠ 23 → ct3 r = ct r) →  (60001 - s) < M → G B 8 E ad ct3 n 0 0 [(0, .ref (ad 0)), (1, .int (nI w)), (2, .int (nI (nzN fd kp))), (3, .int (nI (sumF (sgT w fd kp) kp))), (4, .int (nI (sumF (sgO w fd kp) kp))), (6, .int (nI s))] 146 [] := by
              intro M
              induction M with
              | zero => intro s ct3 gb2 _ _ _ _ _ _ _ _ _ _ _ _ _ _ _ hM; exact absurd hM (Nat.not_lt_zero _)
              | succ M ih =>
                intro s ct3 gb2 hsk hz2 h0 hq hlf ho ht hd hu hw hb hwh hnb hsr hfr hM
                have ih146 := ih
                refine g_iload fx 5 dX12_signs_146 rfl ?_
                refine g_ldc fx kcX12_44 dX12_signs_148 ?_
                refine g_isi (y := nI 60001) (by decide +kernel) ?_
                refine g_icmp_ge fx 167 dX12_signs_150 (by decide) (fun c150 => ?_) (fun c150 => ?_)
                · skip
                  have hse : s = 60001 := by have := (nI_leI (by decide) (by omega)).mp c150; omega
                  rw [hse] at hz2
                  obtain ⟨sN, hsNd⟩ : ∃ sN : Nat → Nat, sN = fun j => (sc2 j).toInt.toNat := ⟨_, rfl⟩
                  have hsNz : ∀ j, j < kp → ¬ fd j = 0 → sN (nzN fd j) = sgV w fd kp j := fun j hj hz => by rw [hsNd]; show (sc2 (nzN fd j)).toInt.toNat = _; rw [hsc2 j hj hz, nI_toInt (by have := sgV_bd (w := w) hj hkp30 hdb; omega)]; rfl
                  have hsN : ∀ i, i < nzN fd kp → sc2 i = nI (sN i) ∧ sN i ≤ 2000 := fun i hi => by
                    obtain ⟨j, hj, hz, rfl⟩ := nz_surj kp i hi
                    rw [hsNz j hj hz]; exact ⟨hsc2 j hj hz, sgV_bd hj hkp30 hdb⟩
                  refine g_aload_n fx 0 dX12_signs_167 rfl ?_
                  refine g_get (r := 0) fx lkX12_45 (by omega) h0 rfl dX12_signs_168 ?_
                  refine g_iconst (v := nI 0) fx dX12_signs_171 (by decide +kernel) ?_
                  refine g_lconst (v := lN 1) fx dX12_signs_172 (by decide +kernel) ?_
                  refine g_last (r := 11) (j := 0) fx (by omega) hb (nI_toInt (by omega)) (by omega) dX12_signs_173 (fun cu2 ecu2 => ?_)
                  have hfr : ∀ r, r ≠ 0 → r ≠ 1 → r ≠ 2 → r ≠ 3 → r ≠ 4 → r ≠ 9 → r ≠ 10 → r ≠ 11 → r ≠ 21 → r ≠ 22 → r ≠ 23 → cu2 r = ct r := fun r _ _ _ _ _ _ _ _ _ _ _ => (congrFun ecu2 r).trans ((va_up_ne _ _ (by assumption)).trans (hfr r (by assumption) (by assumption) (by assumption) (by assumption) (by assumption) (by assumption) (by assumption) (by assumption) (by assumption) (by assumption) (by assumption)))
                  have h0 : cu2 0 = mObj ad (va_up f 34 (nI (nzN fd kp))) := (congrFun ecu2 _).trans ((va_up_ne _ _ (by omega)).trans h0)
                  have hq : cu2 1 = .inl (B.2.1 0, 40, .inl (nF gq)) := (congrFun ecu2 _).trans ((va_up_ne _ _ (by omega)).trans hq)
                  have hlf : cu2 2 = .inl (B.2.1 0, 40, .inl (nF gl)) := (congrFun ecu2 _).trans ((va_up_ne _ _ (by omega)).trans hlf)
                  have ho : cu2 3 = .inl (B.2.1 0, 40, .inl (nF go)) := (congrFun ecu2 _).trans ((va_up_ne _ _ (by omega)).trans ho)
                  have ht : cu2 4 = .inl (B.2.1 0, 40, .inl (nF gt)) := (congrFun ecu2 _).trans ((va_up_ne _ _ (by omega)).trans ht)
                  have hd : cu2 8 = .inl (B.2.1 0, 30, .inl fd) := (congrFun ecu2 _).trans ((va_up_ne _ _ (by omega)).trans hd)
                  have hu : cu2 9 = .inl (B.2.1 0, 160, .inl (nF gu)) := (congrFun ecu2 _).trans ((va_up_ne _ _ (by omega)).trans hu)
                  have hw : cu2 10 = .inl (B.2.1 0, 160, .inl (nF gw)) := (congrFun ecu2 _).trans ((va_up_ne _ _ (by omega)).trans hw)
                  have hb : cu2 11 = .inl (B.2.1 1, 60001, .inr (.inl (lF (va_up gb2 0 1)))) := by rw [ecu2, va_up_self, lF_up]
                  have hwh : cu2 21 = .inl (B.2.1 0, 40, .inl (nF wh)) := (congrFun ecu2 _).trans ((va_up_ne _ _ (by omega)).trans hwh)
                  have hnb : cu2 22 = .inl (B.2.1 0, 30, .inl fn1) := (congrFun ecu2 _).trans ((va_up_ne _ _ (by omega)).trans hnb)
                  have hsr : cu2 23 = .inl (B.2.1 0, 30, .inl sc2) := (congrFun ecu2 _).trans ((va_up_ne _ _ (by omega)).trans hsr)
                  refine g_iconst (v := nI 0) fx dX12_signs_174 (by decide +kernel) ?_
                  refine g_istore (L' := [(6, .int (nI 0)), (0, .ref (ad 0)), (1, .int (nI w)), (2, .int (nI (nzN fd kp))), (3, .int (nI (sumF (sgT w fd kp) kp))), (4, .int (nI (sumF (sgO w fd kp) kp)))]) fx dX12_signs_175 (by decide) rfl ?_
                  have LP177 : ∀ (M : Nat) (i : Nat) (ct4 : Nat → va_E) (gb3 : Nat → Nat), (i ≤ nzN fd kp) → (∀ x, x ≤ 60000 → gb3 x = bN sN i x) → (ct4 0 = mObj ad (va_up f 34 (nI (nzN fd kp)))) → (ct4 1 = .inl (B.2.1 0, 40, .inl (nF gq))) → (ct4 2 = .inl (B.2.1 0, 40, .inl (nF gl))) → (ct4 3 = .inl (B.2.1 0, 40, .inl (nF go))) → (ct4 4 = .inl (B.2.1 0, 40, .inl (nF gt))) → (ct4 8 = .inl (B.2.1 0, 30, .inl fd)) → (ct4 9 = .inl (B.2.1 0, 160, .inl (nF gu))) → (ct4 10 = .inl (B.2.1 0, 160, .inl (nF gw))) → (ct4 11 = .inl (B.2.1 1, 60001, .inr (.inl (lF gb3)))) → (ct4 21 = .inl (B.2.1 0, 40, .inl (nF wh))) → (ct4 22 = .inl (B.2.1 0, 30, .inl fn1)) → (ct4 23 = .inl (B.2.1 0, 30, .inl sc2)) → (∀ r, r ≠ 0 → r ≠ 1 → r ≠ 2 → r ≠ 3 → r ≠ 4 → r ≠ 9 → r ≠ 10 → r ≠ 11 → r ≠ 21 → r ≠ 22 → r ≠ 23 → ct4 r = ct r) →  (nzN fd kp - i) < M → G B 8 E ad ct4 n 0 0 [(0, .ref (ad 0)), (1, .int (nI w)), (2, .int (nI (nzN fd kp))), (3, .int (nI (sumF (sgT w fd kp) kp))), (4, .int (nI (sumF (sgO w fd kp) kp))), (6, .int (nI i))] 177 [] := by
                    intro M
                    induction M with
                    | zero => intro i ct4 gb3 _ _ _ _ _ _ _ _ _ _ _ _ _ _ _ hM; exact absurd hM (Nat.not_lt_zero _)
                    | succ M ih =>
                      intro i ct4 gb3 hi hg3 h0 hq hlf ho ht hd hu hw hb hwh hnb hsr hfr hM
                      have ih177 := ih
                      refine g_iload fx 5 dX12_signs_177 rfl ?_
                      refine g_iload_n fx 2 dX12_signs_179 rfl ?_
                      refine g_icmp_ge fx 238 dX12_signs_180 (by decide) (fun c180 => ?_) (fun c180 => ?_)
                      · skip
                        have hie : i = nzN fd kp := by have := (nI_leI (by omega) (by omega)).mp c180; omega
                        rw [hie] at hg3
                        refine g_aload_n fx 0 dX12_signs_238 rfl ?_
                        refine g_ldc fx kcX12_44 dX12_signs_239 ?_
                        refine g_isi (y := nI 60001) (by decide +kernel) ?_
                        refine g_put (r := 0) (fs' := mFs ad (va_up (va_up f 34 (nI (nzN fd kp))) 18 (nI 60001))) fx lpX12_273 (by omega) h0 rfl rfl (Nat.le_of_ble_eq_true rfl) rfl dX12_signs_241 (fun cu3 ecu3 => ?_)
                        have hfr : ∀ r, r ≠ 0 → r ≠ 1 → r ≠ 2 → r ≠ 3 → r ≠ 4 → r ≠ 9 → r ≠ 10 → r ≠ 11 → r ≠ 21 → r ≠ 22 → r ≠ 23 → cu3 r = ct r := fun r _ _ _ _ _ _ _ _ _ _ _ => (congrFun ecu3 r).trans ((va_up_ne _ _ (by assumption)).trans (hfr r (by assumption) (by assumption) (by assumption) (by assumption) (by assumption) (by assumption) (by assumption) (by assumption) (by assumption) (by assumption) (by assumption)))
                        have h0 : cu3 0 = mObj ad (va_up (va_up f 34 (nI (nzN fd kp))) 18 (nI 60001)) := by rw [ecu3, va_up_self]
                        have hq : cu3 1 = .inl (B.2.1 0, 40, .inl (nF gq)) := (congrFun ecu3 _).trans ((va_up_ne _ _ (by omega)).trans hq)
                        have hlf : cu3 2 = .inl (B.2.1 0, 40, .inl (nF gl)) := (congrFun ecu3 _).trans ((va_up_ne _ _ (by omega)).trans hlf)
                        have ho : cu3 3 = .inl (B.2.1 0, 40, .inl (nF go)) := (congrFun ecu3 _).trans ((va_up_ne _ _ (by omega)).trans ho)
                        have ht : cu3 4 = .inl (B.2.1 0, 40, .inl (nF gt)) := (congrFun ecu3 _).trans ((va_up_ne _ _ (by omega)).trans ht)
                        have hd : cu3 8 = .inl (B.2.1 0, 30, .inl fd) := (congrFun ecu3 _).trans ((va_up_ne _ _ (by omega)).trans hd)
                        have hu : cu3 9 = .inl (B.2.1 0, 160, .inl (nF gu)) := (congrFun ecu3 _).trans ((va_up_ne _ _ (by omega)).trans hu)
                        have hw : cu3 10 = .inl (B.2.1 0, 160, .inl (nF gw)) := (congrFun ecu3 _).trans ((va_up_ne _ _ (by omega)).trans hw)
                        have hb : cu3 11 = .inl (B.2.1 1, 60001, .inr (.inl (lF gb3))) := (congrFun ecu3 _).trans ((va_up_ne _ _ (by omega)).trans hb)
                        have hwh : cu3 21 = .inl (B.2.1 0, 40, .inl (nF wh)) := (congrFun ecu3 _).trans ((va_up_ne _ _ (by omega)).trans hwh)
                        have hnb : cu3 22 = .inl (B.2.1 0, 30, .inl fn1) := (congrFun ecu3 _).trans ((va_up_ne _ _ (by omega)).trans hnb)
                        have hsr : cu3 23 = .inl (B.2.1 0, 30, .inl sc2) := (congrFun ecu3 _).trans ((va_up_ne _ _ (by omega)).trans hsr)
                        refine g_aload_n fx 0 dX12_signs_244 rfl ?_
                        refine g_iconst (v := nI 0) fx dX12_signs_245 (by decide +kernel) ?_
                        refine g_put (r := 0) (fs' := mFs ad (va_up (va_up (va_up f 34 (nI (nzN fd kp))) 18 (nI 60001)) 19 (nI 0))) fx lpX12_276 (by omega) h0 rfl rfl (Nat.le_of_ble_eq_true rfl) rfl dX12_signs_246 (fun cu4 ecu4 => ?_)
                        have hfr : ∀ r, r ≠ 0 → r ≠ 1 → r ≠ 2 → r ≠ 3 → r ≠ 4 → r ≠ 9 → r ≠ 10 → r ≠ 11 → r ≠ 21 → r ≠ 22 → r ≠ 23 → cu4 r = ct r := fun r _ _ _ _ _ _ _ _ _ _ _ => (congrFun ecu4 r).trans ((va_up_ne _ _ (by assumption)).trans (hfr r (by assumption) (by assumption) (by assumption) (by assumption) (by assumption) (by assumption) (by assumption) (by assumption) (by assumption) (by assumption) (by assumption)))
                        have h0 : cu4 0 = mObj ad (va_up (va_up (va_up f 34 (nI (nzN fd kp))) 18 (nI 60001)) 19 (nI 0)) := by rw [ecu4, va_up_self]
                        have hq : cu4 1 = .inl (B.2.1 0, 40, .inl (nF gq)) := (congrFun ecu4 _).trans ((va_up_ne _ _ (by omega)).trans hq)
                        have hlf : cu4 2 = .inl (B.2.1 0, 40, .inl (nF gl)) := (congrFun ecu4 _).trans ((va_up_ne _ _ (by omega)).trans hlf)
                        have ho : cu4 3 = .inl (B.2.1 0, 40, .inl (nF go)) := (congrFun ecu4 _).trans ((va_up_ne _ _ (by omega)).trans ho)
                        have ht : cu4 4 = .inl (B.2.1 0, 40, .inl (nF gt)) := (congrFun ecu4 _).trans ((va_up_ne _ _ (by omega)).trans ht)
                        have hd : cu4 8 = .inl (B.2.1 0, 30, .inl fd) := (congrFun ecu4 _).trans ((va_up_ne _ _ (by omega)).trans hd)
                        have hu : cu4 9 = .inl (B.2.1 0, 160, .inl (nF gu)) := (congrFun ecu4 _).trans ((va_up_ne _ _ (by omega)).trans hu)
                        have hw : cu4 10 = .inl (B.2.1 0, 160, .inl (nF gw)) := (congrFun ecu4 _).trans ((va_up_ne _ _ (by omega)).trans hw)
                        have hb : cu4 11 = .inl (B.2.1 1, 60001, .inr (.inl (lF gb3))) := (congrFun ecu4 _).trans ((va_up_ne _ _ (by omega)).trans hb)
                        have hwh : cu4 21 = .inl (B.2.1 0, 40, .inl (nF wh)) := (congrFun ecu4 _).trans ((va_up_ne _ _ (by omega)).trans hwh)
                        have hnb : cu4 22 = .inl (B.2.1 0, 30, .inl fn1) := (congrFun ecu4 _).trans ((va_up_ne _ _ (by omega)).trans hnb)
                        have hsr : cu4 23 = .inl (B.2.1 0, 30, .inl sc2) := (congrFun ecu4 _).trans ((va_up_ne _ _ (by omega)).trans hsr)
                        refine g_aload_n fx 0 dX12_signs_249 rfl ?_
                        refine g_iconst (v := nI 3) fx dX12_signs_250 (by decide +kernel) ?_
                        refine g_iload_n fx 1 dX12_signs_251 rfl ?_
                        refine g_iaddN fx dX12_signs_252 ?_
                        refine g_put (r := 0) (fs' := mFs ad (va_up (va_up (va_up (va_up f 34 (nI (nzN fd kp))) 18 (nI 60001)) 19 (nI 0)) 12 (nI (3 + w)))) fx lpX12_34 (by omega) h0 rfl rfl (Nat.le_of_ble_eq_true rfl) rfl dX12_signs_253 (fun cu5 ecu5 => ?_)
                        have hfr : ∀ r, r ≠ 0 → r ≠ 1 → r ≠ 2 → r ≠ 3 → r ≠ 4 → r ≠ 9 → r ≠ 10 → r ≠ 11 → r ≠ 21 → r ≠ 22 → r ≠ 23 → cu5 r = ct r := fun r _ _ _ _ _ _ _ _ _ _ _ => (congrFun ecu5 r).trans ((va_up_ne _ _ (by assumption)).trans (hfr r (by assumption) (by assumption) (by assumption) (by assumption) (by assumption) (by assumption) (by assumption) (by assumption) (by assumption) (by assumption) (by assumption)))
                        have h0 : cu5 0 = mObj ad (va_up (va_up (va_up (va_up f 34 (nI (nzN fd kp))) 18 (nI 60001)) 19 (nI 0)) 12 (nI (3 + w))) := by rw [ecu5, va_up_self]
                        have hq : cu5 1 = .inl (B.2.1 0, 40, .inl (nF gq)) := (congrFun ecu5 _).trans ((va_up_ne _ _ (by omega)).trans hq)
                        have hlf : cu5 2 = .inl (B.2.1 0, 40, .inl (nF gl)) := (congrFun ecu5 _).trans ((va_up_ne _ _ (by omega)).trans hlf)
                        have ho : cu5 3 = .inl (B.2.1 0, 40, .inl (nF go)) := (congrFun ecu5 _).trans ((va_up_ne _ _ (by omega)).trans ho)
                        have ht : cu5 4 = .inl (B.2.1 0, 40, .inl (nF gt)) := (congrFun ecu5 _).trans ((va_up_ne _ _ (by omega)).trans ht)
                        have hd : cu5 8 = .inl (B.2.1 0, 30, .inl fd) := (congrFun ecu5 _).trans ((va_up_ne _ _ (by omega)).trans hd)
                        have hu : cu5 9 = .inl (B.2.1 0, 160, .inl (nF gu)) := (congrFun ecu5 _).trans ((va_up_ne _ _ (by omega)).trans hu)
                        have hw : cu5 10 = .inl (B.2.1 0, 160, .inl (nF gw)) := (congrFun ecu5 _).trans ((va_up_ne _ _ (by omega)).trans hw)
                        have hb : cu5 11 = .inl (B.2.1 1, 60001, .inr (.inl (lF gb3))) := (congrFun ecu5 _).trans ((va_up_ne _ _ (by omega)).trans hb)
                        have hwh : cu5 21 = .inl (B.2.1 0, 40, .inl (nF wh)) := (congrFun ecu5 _).trans ((va_up_ne _ _ (by omega)).trans hwh)
                        have hnb : cu5 22 = .inl (B.2.1 0, 30, .inl fn1) := (congrFun ecu5 _).trans ((va_up_ne _ _ (by omega)).trans hnb)
                        have hsr : cu5 23 = .inl (B.2.1 0, 30, .inl sc2) := (congrFun ecu5 _).trans ((va_up_ne _ _ (by omega)).trans hsr)
                        refine g_aload_n fx 0 dX12_signs_256 rfl ?_
                        refine g_iload fx 4 dX12_signs_257 rfl ?_
                        refine g_put (r := 0) (fs' := mFs ad (va_up (va_up (va_up (va_up (va_up f 34 (nI (nzN fd kp))) 18 (nI 60001)) 19 (nI 0)) 12 (nI (3 + w))) 13 (nI (sumF (sgO w fd kp) kp)))) fx lpX12_237 (by omega) h0 rfl rfl (Nat.le_of_ble_eq_true rfl) rfl dX12_signs_259 (fun cu6 ecu6 => ?_)
                        have hfr : ∀ r, r ≠ 0 → r ≠ 1 → r ≠ 2 → r ≠ 3 → r ≠ 4 → r ≠ 9 → r ≠ 10 → r ≠ 11 → r ≠ 21 → r ≠ 22 → r ≠ 23 → cu6 r = ct r := fun r _ _ _ _ _ _ _ _ _ _ _ => (congrFun ecu6 r).trans ((va_up_ne _ _ (by assumption)).trans (hfr r (by assumption) (by assumption) (by assumption) (by assumption) (by assumption) (by assumption) (by assumption) (by assumption) (by assumption) (by assumption) (by assumption)))
                        have h0 : cu6 0 = mObj ad (va_up (va_up (va_up (va_up (va_up f 34 (nI (nzN fd kp))) 18 (nI 60001)) 19 (nI 0)) 12 (nI (3 + w))) 13 (nI (sumF (sgO w fd kp) kp))) := by rw [ecu6, va_up_self]
                        have hq : cu6 1 = .inl (B.2.1 0, 40, .inl (nF gq)) := (congrFun ecu6 _).trans ((va_up_ne _ _ (by omega)).trans hq)
                        have hlf : cu6 2 = .inl (B.2.1 0, 40, .inl (nF gl)) := (congrFun ecu6 _).trans ((va_up_ne _ _ (by omega)).trans hlf)
                        have ho : cu6 3 = .inl (B.2.1 0, 40, .inl (nF go)) := (congrFun ecu6 _).trans ((va_up_ne _ _ (by omega)).trans ho)
                        have ht : cu6 4 = .inl (B.2.1 0, 40, .inl (nF gt)) := (congrFun ecu6 _).trans ((va_up_ne _ _ (by omega)).trans ht)
                        have hd : cu6 8 = .inl (B.2.1 0, 30, .inl fd) := (congrFun ecu6 _).trans ((va_up_ne _ _ (by omega)).trans hd)
                        have hu : cu6 9 = .inl (B.2.1 0, 160, .inl (nF gu)) := (congrFun ecu6 _).trans ((va_up_ne _ _ (by omega)).trans hu)
                        have hw : cu6 10 = .inl (B.2.1 0, 160, .inl (nF gw)) := (congrFun ecu6 _).trans ((va_up_ne _ _ (by omega)).trans hw)
                        have hb : cu6 11 = .inl (B.2.1 1, 60001, .inr (.inl (lF gb3))) := (congrFun ecu6 _).trans ((va_up_ne _ _ (by omega)).trans hb)
                        have hwh : cu6 21 = .inl (B.2.1 0, 40, .inl (nF wh)) := (congrFun ecu6 _).trans ((va_up_ne _ _ (by omega)).trans hwh)
                        have hnb : cu6 22 = .inl (B.2.1 0, 30, .inl fn1) := (congrFun ecu6 _).trans ((va_up_ne _ _ (by omega)).trans hnb)
                        have hsr : cu6 23 = .inl (B.2.1 0, 30, .inl sc2) := (congrFun ecu6 _).trans ((va_up_ne _ _ (by omega)).trans hsr)
                        refine g_aload_n fx 0 dX12_signs_262 rfl ?_
                        refine g_iload_n fx 2 dX12_signs_263 rfl ?_
                        refine g_put (r := 0) (fs' := mFs ad (va_up (va_up (va_up (va_up (va_up (va_up f 34 (nI (nzN fd kp))) 18 (nI 60001)) 19 (nI 0)) 12 (nI (3 + w))) 13 (nI (sumF (sgO w fd kp) kp))) 14 (nI (nzN fd kp)))) fx lpX12_240 (by omega) h0 rfl rfl (Nat.le_of_ble_eq_true rfl) rfl dX12_signs_264 (fun cu7 ecu7 => ?_)
                        have hfr : ∀ r, r ≠ 0 → r ≠ 1 → r ≠ 2 → r ≠ 3 → r ≠ 4 → r ≠ 9 → r ≠ 10 → r ≠ 11 → r ≠ 21 → r ≠ 22 → r ≠ 23 → cu7 r = ct r := fun r _ _ _ _ _ _ _ _ _ _ _ => (congrFun ecu7 r).trans ((va_up_ne _ _ (by assumption)).trans (hfr r (by assumption) (by assumption) (by assumption) (by assumption) (by assumption) (by assumption) (by assumption) (by assumption) (by assumption) (by assumption) (by assumption)))
                        have h0 : cu7 0 = mObj ad (va_up (va_up (va_up (va_up (va_up (va_up f 34 (nI (nzN fd kp))) 18 (nI 60001)) 19 (nI 0)) 12 (nI (3 + w))) 13 (nI (sumF (sgO w fd kp) kp))) 14 (nI (nzN fd kp))) := by rw [ecu7, va_up_self]
                        have hq : cu7 1 = .inl (B.2.1 0, 40, .inl (nF gq)) := (congrFun ecu7 _).trans ((va_up_ne _ _ (by omega)).trans hq)
                        have hlf : cu7 2 = .inl (B.2.1 0, 40, .inl (nF gl)) := (congrFun ecu7 _).trans ((va_up_ne _ _ (by omega)).trans hlf)
                        have ho : cu7 3 = .inl (B.2.1 0, 40, .inl (nF go)) := (congrFun ecu7 _).trans ((va_up_ne _ _ (by omega)).trans ho)
                        have ht : cu7 4 = .inl (B.2.1 0, 40, .inl (nF gt)) := (congrFun ecu7 _).trans ((va_up_ne _ _ (by omega)).trans ht)
                        have hd : cu7 8 = .inl (B.2.1 0, 30, .inl fd) := (congrFun ecu7 _).trans ((va_up_ne _ _ (by omega)).trans hd)
                        have hu : cu7 9 = .inl (B.2.1 0, 160, .inl (nF gu)) := (congrFun ecu7 _).trans ((va_up_ne _ _ (by omega)).trans hu)
                        have hw : cu7 10 = .inl (B.2.1 0, 160, .inl (nF gw)) := (congrFun ecu7 _).trans ((va_up_ne _ _ (by omega)).trans hw)
                        have hb : cu7 11 = .inl (B.2.1 1, 60001, .inr (.inl (lF gb3))) := (congrFun ecu7 _).trans ((va_up_ne _ _ (by omega)).trans hb)
                        have hwh : cu7 21 = .inl (B.2.1 0, 40, .inl (nF wh)) := (congrFun ecu7 _).trans ((va_up_ne _ _ (by omega)).trans hwh)
                        have hnb : cu7 22 = .inl (B.2.1 0, 30, .inl fn1) := (congrFun ecu7 _).trans ((va_up_ne _ _ (by omega)).trans hnb)
                        have hsr : cu7 23 = .inl (B.2.1 0, 30, .inl sc2) := (congrFun ecu7 _).trans ((va_up_ne _ _ (by omega)).trans hsr)
                        refine g_aload_n fx 0 dX12_signs_267 rfl ?_
                        refine g_iconst (v := nI 2) fx dX12_signs_268 (by decide +kernel) ?_
                        refine g_iload_n fx 3 dX12_signs_269 rfl ?_
                        have hgbz : ∀ s, s < 60001 → gb3 s = (bZ (sgV w fd kp) fd kp) s := fun s hs => by rw [hg3 s (by omega)]; exact bN_bZ kp s hsNz
                        have hsgb : sumF gb3 60001 < 2 ^ 62 := Nat.lt_of_le_of_lt (sumF_le (b := 2 ^ 31) _ (fun i hi => by rw [hg3 i (by omega)]; exact Nat.le_of_lt (bN_lt (by omega)))) (by decide)
                        have hsgp : 0 < sumF gb3 60001 := Nat.lt_of_lt_of_le (Nat.lt_of_lt_of_le (bN_0 (sc := sN) (nzN fd kp)) (Nat.le_of_eq (hg3 0 (by omega)).symm)) (sumF_mem (f := gb3) (by decide))
                        have htb : (sumF (sgT w fd kp) kp) ≤ 60000 := Nat.le_trans (sumF_le (b := 2000) kp (fun i hi => by unfold sgT; split; (omega); (exact sgV_bd hi hkp30 hdb))) (by omega)
                        have hob : (sumF (sgO w fd kp) kp) ≤ 60000 := Nat.le_trans (sumF_le (b := 2000) kp (fun i hi => by unfold sgO; split; (exact sgV_bd hi hkp30 hdb); (omega))) (by omega)
                        refine g_callVv (As := [.int (nI 2), .int (nI (sumF (sgT w fd kp) kp))]) (rest := []) fx slX12_279 (c_X12_findChances B ad cu7 n (va_up (va_up (va_up (va_up (va_up (va_up f 34 (nI (nzN fd kp))) 18 (nI 60001)) 19 (nI 0)) 12 (nI (3 + w))) 13 (nI (sumF (sgO w fd kp) kp))) 14 (nI (nzN fd kp))) gq gl go gt gu gw gb3 wh hn h0 hq hlf ho ht hu hw hb hwh 60001 rfl (by decide) 2 (((sumF (sgT w fd kp) kp) : Nat) : Int) (((sumF (sgO w fd kp) kp) : Nat) : Int) 0 _ _ (nI_toInt (by omega)) rfl rfl (nI_toInt (by omega)) (by omega) (by decide) (by decide) (by omega) hsgp hsgb) (by omega) h0 rfl rfl rfl (Nat.le_of_ble_eq_true rfl) ⟨by decide, by decide⟩ ⟨by decide, by decide⟩ dX12_signs_270 (fun ct6 hz6 => ?_)
                        obtain ⟨gq9, gl9, go9, gt9, gu9, gw9, wh9, hq, hlf, ho, ht, hu, hw, hwh, hfin, hs6⟩ := hz6
                        have h0 : ct6 0 = mObj ad (va_up (va_up (va_up (va_up (va_up (va_up f 34 (nI (nzN fd kp))) 18 (nI 60001)) 19 (nI 0)) 12 (nI (3 + w))) 13 (nI (sumF (sgO w fd kp) kp))) 14 (nI (nzN fd kp))) := (hs6 0 (by decide) (by decide) (by decide) (by decide) (by decide) (by decide) (by decide)).trans h0
                        have hd : ct6 8 = .inl (B.2.1 0, 30, .inl fd) := (hs6 8 (by decide) (by decide) (by decide) (by decide) (by decide) (by decide) (by decide)).trans hd
                        have hb : ct6 11 = .inl (B.2.1 1, 60001, .inr (.inl (lF gb3))) := (hs6 11 (by decide) (by decide) (by decide) (by decide) (by decide) (by decide) (by decide)).trans hb
                        have hnb : ct6 22 = .inl (B.2.1 0, 30, .inl fn1) := (hs6 22 (by decide) (by decide) (by decide) (by decide) (by decide) (by decide) (by decide)).trans hnb
                        have hsr : ct6 23 = .inl (B.2.1 0, 30, .inl sc2) := (hs6 23 (by decide) (by decide) (by decide) (by decide) (by decide) (by decide) (by decide)).trans hsr
                        have hfr : ∀ r, r ≠ 0 → r ≠ 1 → r ≠ 2 → r ≠ 3 → r ≠ 4 → r ≠ 9 → r ≠ 10 → r ≠ 11 → r ≠ 21 → r ≠ 22 → r ≠ 23 → ct6 r = ct r := fun r q0 q1 q2 q3 q4 q9 q10 q11 q21 q22 q23 => (hs6 r q1 q2 q3 q4 q9 q10 q21).trans (hfr r q0 q1 q2 q3 q4 q9 q10 q11 q21 q22 q23)
                        refine g_iload fx 4 dX12_signs_273 rfl ?_
                        refine g_iret fx rt dX12_signs_275 ?_
                        refine gPi.mk (Or.inr (Or.inr ⟨hP, hnp, w, hwl, ext, rfl, _, gq9, gl9, go9, gt9, gu9, gw9, gb3, wh9, fn1, sc2, h0, hq, hlf, ho, ht, hu, hw, hb, hwh, hnb, hsr, rfl, rfl, rfl, rfl, rfl, fun k p1 p2 p3 p4 p5 p6 => ?_, hgbz, hfin, hfr⟩))
                        rw [va_up_ne _ _ p3, va_up_ne _ _ p2, va_up_ne _ _ p1, va_up_ne _ _ p5, va_up_ne _ _ p4, va_up_ne _ _ p6]
                      · skip
                        have hlti : i < nzN fd kp := (nI_ltI (by omega) (by omega)).mp (Int32.not_le.mp c180)
                        have hsi := (hsN i hlti).2
                        refine g_ldcw fx kcX12_282 dX12_signs_183 ?_
                        refine g_isi (y := nI 60000) (by decide +kernel) ?_
                        refine g_aload_n fx 0 dX12_signs_186 rfl ?_
                        refine g_get (r := 0) fx lkX12_84 (by omega) h0 rfl dX12_signs_187 ?_
                        refine g_iload fx 5 dX12_signs_190 rfl ?_
                        refine g_iald (r := 23) (j := i) fx (by omega) hsr (nI_toInt (by omega)) (by omega) dX12_signs_192 ?_
                        refine g_isi (y := nI (sN i)) (hsN i hlti).1 ?_
                        refine g_isubN fx dX12_signs_193 (by omega) ?_
                        refine g_isi (y := nI (60000 - sN i + 1) - nI 1) m1_pp ?_
                        refine g_istore (L' := [(7, .int (nI (60000 - sN i + 1) - nI 1)), (0, .ref (ad 0)), (1, .int (nI w)), (2, .int (nI (nzN fd kp))), (3, .int (nI (sumF (sgT w fd kp) kp))), (4, .int (nI (sumF (sgO w fd kp) kp))), (6, .int (nI i))]) fx dX12_signs_194 (by decide) rfl ?_
                        have LP196 : ∀ (M : Nat) (t : Nat) (ct5 : Nat → va_E) (gb4 : Nat → Nat), (t ≤ 60000 - sN i + 1) → (∀ x, x ≤ 60000 → gb4 x = bMid sN i t x) → (ct5 0 = mObj ad (va_up f 34 (nI (nzN fd kp)))) → (ct5 1 = .inl (B.2.1 0, 40, .inl (nF gq))) → (ct5 2 = .inl (B.2.1 0, 40, .inl (nF gl))) → (ct5 3 = .inl (B.2.1 0, 40, .inl (nF go))) → (ct5 4 = .inl (B.2.1 0, 40, .inl (nF gt))) → (ct5 8 = .inl (B.2.1 0, 30, .inl fd)) → (ct5 9 = .inl (B.2.1 0, 160, .inl (nF gu))) → (ct5 10 = .inl (B.2.1 0, 160, .inl (nF gw))) → (ct5 11 = .inl (B.2.1 1, 60001, .inr (.inl (lF gb4)))) → (ct5 21 = .inl (B.2.1 0, 40, .inl (nF wh))) → (ct5 22 = .inl (B.2.1 0, 30, .inl fn1)) → (ct5 23 = .inl (B.2.1 0, 30, .inl sc2)) → (∀ r, r ≠ 0 → r ≠ 1 → r ≠ 2 → r ≠ 3 → r ≠ 4 → r ≠ 9 → r ≠ 10 → r ≠ 11 → r ≠ 21 → r ≠ 22 → r ≠ 23 → ct5 r = ct r) →  t < M → G B 8 E ad ct5 n 0 0 [(0, .ref (ad 0)), (1, .int (nI w)), (2, .int (nI (nzN fd kp))), (3, .int (nI (sumF (sgT w fd kp) kp))), (4, .int (nI (sumF (sgO w fd kp) kp))), (6, .int (nI i)), (7, .int (nI t - nI 1))] 196 [] := by
                          intro M
                          induction M with
                          | zero => intro t ct5 gb4 _ _ _ _ _ _ _ _ _ _ _ _ _ _ _ hM; exact absurd hM (Nat.not_lt_zero _)
                          | succ M ih =>
                            intro t ct5 gb4 ht1 hg4 h0 hq hlf ho ht hd hu hw hb hwh hnb hsr hfr hM
                            have ih196 := ih
                            refine g_iload fx 6 dX12_signs_196 rfl ?_
                            refine g_if_lt fx 232 dX12_signs_198 (by decide) (fun c198 => ?_) (fun c198 => ?_)
                            · skip
                              have ht0 : t = 0 := (m1_neg (by omega)).mp c198
                              refine g_iinc (L' := [(6, .int (nI (i + 1))), (0, .ref (ad 0)), (1, .int (nI w)), (2, .int (nI (nzN fd kp))), (3, .int (nI (sumF (sgT w fd kp) kp))), (4, .int (nI (sumF (sgO w fd kp) kp))), (7, .int (nI t - nI 1))]) fx (nI (i + 1)) 5 dX12_signs_232 rfl (gInc _) (by decide) rfl ?_
                              refine g_goto fx 177 dX12_signs_235 (by decide) ?_
                              refine g_locals (L' := [(0, .ref (ad 0)), (1, .int (nI w)), (2, .int (nI (nzN fd kp))), (3, .int (nI (sumF (sgT w fd kp) kp))), (4, .int (nI (sumF (sgO w fd kp) kp))), (6, .int (nI (i + 1)))]) [1, 2, 3, 4, 5, 0] rfl ?_
                              exact ih177 (i + 1) _ _ (by omega) (fun x hx => by rw [hg4 x hx, ht0]; exact bMid_out) h0 hq hlf ho ht hd hu hw hb hwh hnb hsr hfr (by omega)
                            · skip
                              have ht0 : 0 < t := Nat.pos_of_ne_zero (fun q => c198 ((m1_neg (by omega)).mpr q))
                              have hsrc : gb4 (t - 1) = bN sN i (t - 1) := by
                                rw [hg4 _ (by omega)]; unfold bMid; rw [if_neg (by omega), Nat.add_zero]
                              refine g_relocal (L' := [(0, .ref (ad 0)), (1, .int (nI w)), (2, .int (nI (nzN fd kp))), (3, .int (nI (sumF (sgT w fd kp) kp))), (4, .int (nI (sumF (sgO w fd kp) kp))), (6, .int (nI i)), (7, .int (nI (t - 1)))]) (by rw [m1_eq ht0]) ?_
                              refine g_aload_n fx 0 dX12_signs_201 rfl ?_
                              refine g_get (r := 0) fx lkX12_45 (by omega) h0 rfl dX12_signs_202 ?_
                              refine g_iload fx 6 dX12_signs_205 rfl ?_
                              refine g_aload_n fx 0 dX12_signs_207 rfl ?_
                              refine g_get (r := 0) fx lkX12_84 (by omega) h0 rfl dX12_signs_208 ?_
                              refine g_iload fx 5 dX12_signs_211 rfl ?_
                              refine g_iald (r := 23) (j := i) fx (by omega) hsr (nI_toInt (by omega)) (by omega) dX12_signs_213 ?_
                              refine g_isi (y := nI (sN i)) (hsN i hlti).1 ?_
                              refine g_iaddN fx dX12_signs_214 ?_
                              refine g_dup2_11 fx dX12_signs_215 rfl rfl ?_
                              refine g_lald (r := 11) (j := ((t - 1) + (sN i))) fx (by omega) hb (nI_toInt (by omega)) (by omega) dX12_signs_216 ?_
                              refine g_isl (y := lN (gb4 ((t - 1) + (sN i)))) rfl ?_
                              refine g_aload_n fx 0 dX12_signs_217 rfl ?_
                              refine g_get (r := 0) fx lkX12_45 (by omega) h0 rfl dX12_signs_218 ?_
                              refine g_iload fx 6 dX12_signs_221 rfl ?_
                              refine g_lald (r := 11) (j := (t - 1)) fx (by omega) hb (nI_toInt (by omega)) (by omega) dX12_signs_223 ?_
                              refine g_isl (y := lN (gb4 (t - 1))) rfl ?_
                              refine g_ladd fx dX12_signs_224 ?_
                              refine g_isl (y := lN ((gb4 ((t - 1) + (sN i))) + (gb4 (t - 1)))) (lN_add _ _) ?_
                              refine g_last (r := 11) (j := ((t - 1) + (sN i))) fx (by omega) hb (nI_toInt (by omega)) (by omega) dX12_signs_225 (fun cu8 ecu8 => ?_)
                              have hfr : ∀ r, r ≠ 0 → r ≠ 1 → r ≠ 2 → r ≠ 3 → r ≠ 4 → r ≠ 9 → r ≠ 10 → r ≠ 11 → r ≠ 21 → r ≠ 22 → r ≠ 23 → cu8 r = ct r := fun r _ _ _ _ _ _ _ _ _ _ _ => (congrFun ecu8 r).trans ((va_up_ne _ _ (by assumption)).trans (hfr r (by assumption) (by assumption) (by assumption) (by assumption) (by assumption) (by assumption) (by assumption) (by assumption) (by assumption) (by assumption) (by assumption)))
                              have h0 : cu8 0 = mObj ad (va_up f 34 (nI (nzN fd kp))) := (congrFun ecu8 _).trans ((va_up_ne _ _ (by omega)).trans h0)
                              have hq : cu8 1 = .inl (B.2.1 0, 40, .inl (nF gq)) := (congrFun ecu8 _).trans ((va_up_ne _ _ (by omega)).trans hq)
                              have hlf : cu8 2 = .inl (B.2.1 0, 40, .inl (nF gl)) := (congrFun ecu8 _).trans ((va_up_ne _ _ (by omega)).trans hlf)
                              have ho : cu8 3 = .inl (B.2.1 0, 40, .inl (nF go)) := (congrFun ecu8 _).trans ((va_up_ne _ _ (by omega)).trans ho)
                              have ht : cu8 4 = .inl (B.2.1 0, 40, .inl (nF gt)) := (congrFun ecu8 _).trans ((va_up_ne _ _ (by omega)).trans ht)
                              have hd : cu8 8 = .inl (B.2.1 0, 30, .inl fd) := (congrFun ecu8 _).trans ((va_up_ne _ _ (by omega)).trans hd)
                              have hu : cu8 9 = .inl (B.2.1 0, 160, .inl (nF gu)) := (congrFun ecu8 _).trans ((va_up_ne _ _ (by omega)).trans hu)
                              have hw : cu8 10 = .inl (B.2.1 0, 160, .inl (nF gw)) := (congrFun ecu8 _).trans ((va_up_ne _ _ (by omega)).trans hw)
                              have hb : cu8 11 = .inl (B.2.1 1, 60001, .inr (.inl (lF (va_up gb4 ((t - 1) + (sN i)) ((gb4 ((t - 1) + (sN i))) + (gb4 (t - 1))))))) := by rw [ecu8, va_up_self, lF_up]
                              have hwh : cu8 21 = .inl (B.2.1 0, 40, .inl (nF wh)) := (congrFun ecu8 _).trans ((va_up_ne _ _ (by omega)).trans hwh)
                              have hnb : cu8 22 = .inl (B.2.1 0, 30, .inl fn1) := (congrFun ecu8 _).trans ((va_up_ne _ _ (by omega)).trans hnb)
                              have hsr : cu8 23 = .inl (B.2.1 0, 30, .inl sc2) := (congrFun ecu8 _).trans ((va_up_ne _ _ (by omega)).trans hsr)
                              refine g_iinc (L' := [(7, .int (nI (t - 1) - nI 1)), (0, .ref (ad 0)), (1, .int (nI w)), (2, .int (nI (nzN fd kp))), (3, .int (nI (sumF (sgT w fd kp) kp))), (4, .int (nI (sumF (sgO w fd kp) kp))), (6, .int (nI i))]) fx (nI (t - 1) - nI 1) 6 dX12_signs_226 rfl (m1_sub _) (by decide) rfl ?_
                              refine g_goto fx 196 dX12_signs_229 (by decide) ?_
                              refine g_locals (L' := [(0, .ref (ad 0)), (1, .int (nI w)), (2, .int (nI (nzN fd kp))), (3, .int (nI (sumF (sgT w fd kp) kp))), (4, .int (nI (sumF (sgO w fd kp) kp))), (6, .int (nI i)), (7, .int (nI (t - 1) - nI 1))]) [1, 2, 3, 4, 5, 6, 0] rfl ?_
                              refine ih196 (t - 1) _ _ (by omega) (fun x hx => ?_) h0 hq hlf ho ht hd hu hw hb hwh hnb hsr hfr (by omega)
                              by_cases q : x = t - 1 + sN i
                              · subst q
                                rw [va_up_self, hg4 _ hx, hsrc, bMid_at ht0]
                              · rw [va_up_ne _ _ q, hg4 x hx]; exact (bMid_ne ht0 q).symm
                        refine g_locals (L' := [(0, .ref (ad 0)), (1, .int (nI w)), (2, .int (nI (nzN fd kp))), (3, .int (nI (sumF (sgT w fd kp) kp))), (4, .int (nI (sumF (sgO w fd kp) kp))), (6, .int (nI i)), (7, .int (nI (60000 - sN i + 1) - nI 1))]) [1, 2, 3, 4, 5, 6, 0] rfl ?_
                        exact LP196 (60000 - sN i + 2) (60000 - sN i + 1) _ _ (by omega) (fun x hx => by rw [hg3 x hx]; exact (bMid_in hx (by omega)).symm) h0 hq hlf ho ht hd hu hw hb hwh hnb hsr hfr (by omega)
                  refine g_locals (L' := [(0, .ref (ad 0)), (1, .int (nI w)), (2, .int (nI (nzN fd kp))), (3, .int (nI (sumF (sgT w fd kp) kp))), (4, .int (nI (sumF (sgO w fd kp) kp))), (6, .int (nI 0))]) [1, 2, 3, 4, 5, 0] rfl ?_
                  refine LP177 (nzN fd kp + 1) 0 _ _ (by omega) (fun x hx => ?_) h0 hq hlf ho ht hd hu hw hb hwh hnb hsr hfr (by omega)
                  by_cases q : x = 0
                  · rw [q, va_up_self]; rfl
                  · rw [va_up_ne _ _ q, hz2 _ (by omega)]; exact (if_neg q).symm
                · skip
                  have hlts : s < 60001 := (nI_ltI (by omega) (by decide)).mp (Int32.not_le.mp c150)
                  refine g_aload_n fx 0 dX12_signs_153 rfl ?_
                  refine g_get (r := 0) fx lkX12_45 (by omega) h0 rfl dX12_signs_154 ?_
                  refine g_iload fx 5 dX12_signs_157 rfl ?_
                  refine g_lconst (v := lN 0) fx dX12_signs_159 (by decide +kernel) ?_
                  refine g_last (r := 11) (j := s) fx (by omega) hb (nI_toInt (by omega)) (by omega) dX12_signs_160 (fun cu9 ecu9 => ?_)
                  have hfr : ∀ r, r ≠ 0 → r ≠ 1 → r ≠ 2 → r ≠ 3 → r ≠ 4 → r ≠ 9 → r ≠ 10 → r ≠ 11 → r ≠ 21 → r ≠ 22 → r ≠ 23 → cu9 r = ct r := fun r _ _ _ _ _ _ _ _ _ _ _ => (congrFun ecu9 r).trans ((va_up_ne _ _ (by assumption)).trans (hfr r (by assumption) (by assumption) (by assumption) (by assumption) (by assumption) (by assumption) (by assumption) (by assumption) (by assumption) (by assumption) (by assumption)))
                  have h0 : cu9 0 = mObj ad (va_up f 34 (nI (nzN fd kp))) := (congrFun ecu9 _).trans ((va_up_ne _ _ (by omega)).trans h0)
                  have hq : cu9 1 = .inl (B.2.1 0, 40, .inl (nF gq)) := (congrFun ecu9 _).trans ((va_up_ne _ _ (by omega)).trans hq)
                  have hlf : cu9 2 = .inl (B.2.1 0, 40, .inl (nF gl)) := (congrFun ecu9 _).trans ((va_up_ne _ _ (by omega)).trans hlf)
                  have ho : cu9 3 = .inl (B.2.1 0, 40, .inl (nF go)) := (congrFun ecu9 _).trans ((va_up_ne _ _ (by omega)).trans ho)
                  have ht : cu9 4 = .inl (B.2.1 0, 40, .inl (nF gt)) := (congrFun ecu9 _).trans ((va_up_ne _ _ (by omega)).trans ht)
                  have hd : cu9 8 = .inl (B.2.1 0, 30, .inl fd) := (congrFun ecu9 _).trans ((va_up_ne _ _ (by omega)).trans hd)
                  have hu : cu9 9 = .inl (B.2.1 0, 160, .inl (nF gu)) := (congrFun ecu9 _).trans ((va_up_ne _ _ (by omega)).trans hu)
                  have hw : cu9 10 = .inl (B.2.1 0, 160, .inl (nF gw)) := (congrFun ecu9 _).trans ((va_up_ne _ _ (by omega)).trans hw)
                  have hb : cu9 11 = .inl (B.2.1 1, 60001, .inr (.inl (lF (va_up gb2 s 0)))) := by rw [ecu9, va_up_self, lF_up]
                  have hwh : cu9 21 = .inl (B.2.1 0, 40, .inl (nF wh)) := (congrFun ecu9 _).trans ((va_up_ne _ _ (by omega)).trans hwh)
                  have hnb : cu9 22 = .inl (B.2.1 0, 30, .inl fn1) := (congrFun ecu9 _).trans ((va_up_ne _ _ (by omega)).trans hnb)
                  have hsr : cu9 23 = .inl (B.2.1 0, 30, .inl sc2) := (congrFun ecu9 _).trans ((va_up_ne _ _ (by omega)).trans hsr)
                  refine g_iinc (L' := [(6, .int (nI (s + 1))), (0, .ref (ad 0)), (1, .int (nI w)), (2, .int (nI (nzN fd kp))), (3, .int (nI (sumF (sgT w fd kp) kp))), (4, .int (nI (sumF (sgO w fd kp) kp)))]) fx (nI (s + 1)) 5 dX12_signs_161 rfl (gInc _) (by decide) rfl ?_
                  refine g_goto fx 146 dX12_signs_164 (by decide) ?_
                  refine g_locals (L' := [(0, .ref (ad 0)), (1, .int (nI w)), (2, .int (nI (nzN fd kp))), (3, .int (nI (sumF (sgT w fd kp) kp))), (4, .int (nI (sumF (sgO w fd kp) kp))), (6, .int (nI (s + 1)))]) [1, 2, 3, 4, 5, 0] rfl ?_
                  exact ih146 (s + 1) _ _ hlts (fun j hj => by by_cases q : j = s; (rw [q, va_up_self]); (rw [va_up_ne _ _ q]; exact hz2 j (by omega))) h0 hq hlf ho ht hd hu hw hb hwh hnb hsr hfr (by omega)
            refine g_locals (L' := [(0, .ref (ad 0)), (1, .int (nI w)), (2, .int (nI (nzN fd kp))), (3, .int (nI (sumF (sgT w fd kp) kp))), (4, .int (nI (sumF (sgO w fd kp) kp))), (6, .int (nI 0))]) [1, 2, 3, 4, 5, 0] rfl ?_
            exact LP146 60002 0 _ gb (by omega) (fun j hj => absurd hj (by omega)) h0 hq hlf ho ht hd hu hw hb hwh hnb hsr hfr (by decide)
          · skip
            have hlt : k < kp := (nI_ltI (by omega) (by omega)).mp (Int32.not_le.mp c50)
            have hnk2 : nzN fd k ≤ k := gCnt_le k
            have hdk := hdb k (by omega)
            have hsvk := sgV_bd (w := w) hlt hkp30 hdb
            refine g_aload_n fx 0 dX12_signs_53 rfl ?_
            refine g_get (r := 0) fx lkX12_31 (by omega) h0 rfl dX12_signs_54 ?_
            refine g_iload fx 6 dX12_signs_57 rfl ?_
            refine g_iald (r := 8) (j := k) fx (by omega) hd (nI_toInt (by omega)) (by omega) dX12_signs_59 ?_
            refine g_if_eq fx 137 dX12_signs_60 (by decide) (fun c60 => ?_) (fun c60 => ?_)
            · skip
              have hTk : sgT w fd kp k = 0 := if_pos c60
              have hOk : sgO w fd kp k = 0 := if_neg (fun q => by rw [c60] at q; exact absurd q (by decide))
              refine g_relocal (L' := [(0, .ref (ad 0)), (1, .int (nI w)), (2, .int (nI (nzN fd kp))), (3, .int (nI (sumF (sgT w fd kp) k + sgT w fd kp k))), (4, .int (nI (sumF (sgO w fd kp) k + sgO w fd kp k))), (5, .int (nI (nzN fd (k + 1)))), (6, .int (nI k))]) (by rw [hTk, hOk, nz_f c60]; rfl) ?_
              refine g_iinc (L' := [(6, .int (nI (k + 1))), (0, .ref (ad 0)), (1, .int (nI w)), (2, .int (nI (nzN fd kp))), (3, .int (nI (sumF (sgT w fd kp) k + sgT w fd kp k))), (4, .int (nI (sumF (sgO w fd kp) k + sgO w fd kp k))), (5, .int (nI (nzN fd (k + 1))))]) fx (nI (k + 1)) 6 dX12_signs_137 rfl (gInc _) (by decide) rfl ?_
              refine g_goto fx 44 dX12_signs_140 (by decide) ?_
              refine g_locals (L' := [(0, .ref (ad 0)), (1, .int (nI w)), (2, .int (nI (nzN fd kp))), (3, .int (nI (sumF (sgT w fd kp) k + sgT w fd kp k))), (4, .int (nI (sumF (sgO w fd kp) k + sgO w fd kp k))), (5, .int (nI (nzN fd (k + 1)))), (6, .int (nI (k + 1)))]) [1, 2, 3, 4, 5, 6, 0] rfl ?_
              exact ih44 (k + 1) _ sc2 hlt (fun j hj hz => by by_cases q : j = k; (exact absurd (q ▸ c60) hz); (exact hsc2 j (by omega) hz)) h0 hq hlf ho ht hd hu hw hb hwh hnb hsr hfr (by omega)
            · skip
              have hnz := c60
              have hfk := hz1 k hlt hnz
              have J97 : ∀ (v : Int32), (v = nI (sgV w fd kp k)) → G B 8 E ad ct2 n 0 0 [(0, .ref (ad 0)), (1, .int (nI w)), (2, .int (nI (nzN fd kp))), (3, .int (nI (sumF (sgT w fd kp) k))), (4, .int (nI (sumF (sgO w fd kp) k))), (5, .int (nI (nzN fd k))), (6, .int (nI k))] 97 [.int v] := by
                intro v hv
                refine g_isi (y := nI (sgV w fd kp k)) hv ?_
                refine g_istore (L' := [(7, .int (nI (sgV w fd kp k))), (0, .ref (ad 0)), (1, .int (nI w)), (2, .int (nI (nzN fd kp))), (3, .int (nI (sumF (sgT w fd kp) k))), (4, .int (nI (sumF (sgO w fd kp) k))), (5, .int (nI (nzN fd k))), (6, .int (nI k))]) fx dX12_signs_97 (by decide) rfl ?_
                refine g_aload_n fx 1 dX12_signs_99 rfl ?_
                refine g_get (r := 0) fx lkX12_84 (by omega) h0 rfl dX12_signs_100 ?_
                refine g_iload fx 6 dX12_signs_103 rfl ?_
                refine g_iload fx 0 dX12_signs_105 rfl ?_
                refine g_iast (r := 23) (j := (nzN fd k)) fx (by omega) hsr (nI_toInt (by omega)) (by omega) dX12_signs_107 (fun cu10 ecu10 => ?_)
                have hfr : ∀ r, r ≠ 0 → r ≠ 1 → r ≠ 2 → r ≠ 3 → r ≠ 4 → r ≠ 9 → r ≠ 10 → r ≠ 11 → r ≠ 21 → r ≠ 22 → r ≠ 23 → cu10 r = ct r := fun r _ _ _ _ _ _ _ _ _ _ _ => (congrFun ecu10 r).trans ((va_up_ne _ _ (by assumption)).trans (hfr r (by assumption) (by assumption) (by assumption) (by assumption) (by assumption) (by assumption) (by assumption) (by assumption) (by assumption) (by assumption) (by assumption)))
                have h0 : cu10 0 = mObj ad (va_up f 34 (nI (nzN fd kp))) := (congrFun ecu10 _).trans ((va_up_ne _ _ (by omega)).trans h0)
                have hq : cu10 1 = .inl (B.2.1 0, 40, .inl (nF gq)) := (congrFun ecu10 _).trans ((va_up_ne _ _ (by omega)).trans hq)
                have hlf : cu10 2 = .inl (B.2.1 0, 40, .inl (nF gl)) := (congrFun ecu10 _).trans ((va_up_ne _ _ (by omega)).trans hlf)
                have ho : cu10 3 = .inl (B.2.1 0, 40, .inl (nF go)) := (congrFun ecu10 _).trans ((va_up_ne _ _ (by omega)).trans ho)
                have ht : cu10 4 = .inl (B.2.1 0, 40, .inl (nF gt)) := (congrFun ecu10 _).trans ((va_up_ne _ _ (by omega)).trans ht)
                have hd : cu10 8 = .inl (B.2.1 0, 30, .inl fd) := (congrFun ecu10 _).trans ((va_up_ne _ _ (by omega)).trans hd)
                have hu : cu10 9 = .inl (B.2.1 0, 160, .inl (nF gu)) := (congrFun ecu10 _).trans ((va_up_ne _ _ (by omega)).trans hu)
                have hw : cu10 10 = .inl (B.2.1 0, 160, .inl (nF gw)) := (congrFun ecu10 _).trans ((va_up_ne _ _ (by omega)).trans hw)
                have hb : cu10 11 = .inl (B.2.1 1, 60001, .inr (.inl (lF gb))) := (congrFun ecu10 _).trans ((va_up_ne _ _ (by omega)).trans hb)
                have hwh : cu10 21 = .inl (B.2.1 0, 40, .inl (nF wh)) := (congrFun ecu10 _).trans ((va_up_ne _ _ (by omega)).trans hwh)
                have hnb : cu10 22 = .inl (B.2.1 0, 30, .inl fn1) := (congrFun ecu10 _).trans ((va_up_ne _ _ (by omega)).trans hnb)
                have hsr : cu10 23 = .inl (B.2.1 0, 30, .inl (va_up sc2 (nzN fd k) (nI (sgV w fd kp k)))) := by rw [ecu10, va_up_self]
                refine g_iload_n fx 4 dX12_signs_108 rfl ?_
                refine g_iload fx 0 dX12_signs_109 rfl ?_
                refine g_iaddN fx dX12_signs_111 ?_
                refine g_istore_n (L' := [(3, .int (nI ((sumF (sgT w fd kp) k) + (sgV w fd kp k)))), (7, .int (nI (sgV w fd kp k))), (0, .ref (ad 0)), (1, .int (nI w)), (2, .int (nI (nzN fd kp))), (4, .int (nI (sumF (sgO w fd kp) k))), (5, .int (nI (nzN fd k))), (6, .int (nI k))]) fx dX12_signs_112 (by decide) rfl ?_
                refine g_iload fx 5 dX12_signs_113 rfl ?_
                refine g_aload_n fx 2 dX12_signs_115 rfl ?_
                refine g_get (r := 0) fx lkX12_31 (by omega) h0 rfl dX12_signs_116 ?_
                refine g_iload fx 7 dX12_signs_119 rfl ?_
                refine g_iald (r := 8) (j := k) fx (by omega) hd (nI_toInt (by omega)) (by omega) dX12_signs_121 ?_
                refine g_if_le fx 130 dX12_signs_122 (by decide) (fun c122 => ?_) (fun c122 => ?_)
                · skip
                  have hpos : ¬ 0 < fd k := Int32.not_lt.mpr c122
                  refine g_iconst (v := nI 0) fx dX12_signs_130 (by decide +kernel) ?_
                  refine g_iaddN fx dX12_signs_131 ?_
                  refine g_istore (L' := [(4, .int (nI ((sumF (sgO w fd kp) k) + 0))), (3, .int (nI ((sumF (sgT w fd kp) k) + (sgV w fd kp k)))), (7, .int (nI (sgV w fd kp k))), (0, .ref (ad 0)), (1, .int (nI w)), (2, .int (nI (nzN fd kp))), (5, .int (nI (nzN fd k))), (6, .int (nI k))]) fx dX12_signs_132 (by decide) rfl ?_
                  refine g_iinc (L' := [(5, .int (nI ((nzN fd k) + 1))), (4, .int (nI ((sumF (sgO w fd kp) k) + 0))), (3, .int (nI ((sumF (sgT w fd kp) k) + (sgV w fd kp k)))), (7, .int (nI (sgV w fd kp k))), (0, .ref (ad 0)), (1, .int (nI w)), (2, .int (nI (nzN fd kp))), (6, .int (nI k))]) fx (nI ((nzN fd k) + 1)) 6 dX12_signs_134 rfl (gInc _) (by decide) rfl ?_
                  refine g_iinc (L' := [(6, .int (nI (k + 1))), (5, .int (nI ((nzN fd k) + 1))), (4, .int (nI ((sumF (sgO w fd kp) k) + 0))), (3, .int (nI ((sumF (sgT w fd kp) k) + (sgV w fd kp k)))), (7, .int (nI (sgV w fd kp k))), (0, .ref (ad 0)), (1, .int (nI w)), (2, .int (nI (nzN fd kp)))]) fx (nI (k + 1)) 7 dX12_signs_137 rfl (gInc _) (by decide) rfl ?_
                  have hTk : sgT w fd kp k = sgV w fd kp k := if_neg hnz
                  have hOk : sgO w fd kp k = 0 := if_neg hpos
                  refine g_relocal (L' := [(6, .int (nI (k + 1))), (5, .int (nI (nzN fd (k + 1)))), (4, .int (nI (sumF (sgO w fd kp) k + sgO w fd kp k))), (3, .int (nI (sumF (sgT w fd kp) k + sgT w fd kp k))), (7, .int (nI (sgV w fd kp k))), (0, .ref (ad 0)), (1, .int (nI w)), (2, .int (nI (nzN fd kp)))]) (by rw [hTk, hOk, nz_t hnz]) ?_
                  refine g_goto fx 44 dX12_signs_140 (by decide) ?_
                  refine g_locals (L' := [(0, .ref (ad 0)), (1, .int (nI w)), (2, .int (nI (nzN fd kp))), (3, .int (nI (sumF (sgT w fd kp) k + sgT w fd kp k))), (4, .int (nI (sumF (sgO w fd kp) k + sgO w fd kp k))), (5, .int (nI (nzN fd (k + 1)))), (6, .int (nI (k + 1)))]) [5, 6, 7, 3, 2, 1, 0] rfl ?_
                  exact ih44 (k + 1) _ _ hlt (fun j hj hz => by by_cases q : j = k; (rw [q, va_up_self]); (rw [va_up_ne _ _ (by have h1 := nz_lt (fd := fd) (show j < k by omega) hz; omega)]; exact hsc2 j (by omega) hz)) h0 hq hlf ho ht hd hu hw hb hwh hnb hsr hfr (by omega)
                · skip
                  have hpos : 0 < fd k := Int32.not_le.mp c122
                  refine g_iload fx 1 dX12_signs_125 rfl ?_
                  refine g_goto fx 131 dX12_signs_127 (by decide) ?_
                  refine g_iaddN fx dX12_signs_131 ?_
                  refine g_istore (L' := [(4, .int (nI ((sumF (sgO w fd kp) k) + (sgV w fd kp k)))), (3, .int (nI ((sumF (sgT w fd kp) k) + (sgV w fd kp k)))), (7, .int (nI (sgV w fd kp k))), (0, .ref (ad 0)), (1, .int (nI w)), (2, .int (nI (nzN fd kp))), (5, .int (nI (nzN fd k))), (6, .int (nI k))]) fx dX12_signs_132 (by decide) rfl ?_
                  refine g_iinc (L' := [(5, .int (nI ((nzN fd k) + 1))), (4, .int (nI ((sumF (sgO w fd kp) k) + (sgV w fd kp k)))), (3, .int (nI ((sumF (sgT w fd kp) k) + (sgV w fd kp k)))), (7, .int (nI (sgV w fd kp k))), (0, .ref (ad 0)), (1, .int (nI w)), (2, .int (nI (nzN fd kp))), (6, .int (nI k))]) fx (nI ((nzN fd k) + 1)) 6 dX12_signs_134 rfl (gInc _) (by decide) rfl ?_
                  refine g_iinc (L' := [(6, .int (nI (k + 1))), (5, .int (nI ((nzN fd k) + 1))), (4, .int (nI ((sumF (sgO w fd kp) k) + (sgV w fd kp k)))), (3, .int (nI ((sumF (sgT w fd kp) k) + (sgV w fd kp k)))), (7, .int (nI (sgV w fd kp k))), (0, .ref (ad 0)), (1, .int (nI w)), (2, .int (nI (nzN fd kp)))]) fx (nI (k + 1)) 7 dX12_signs_137 rfl (gInc _) (by decide) rfl ?_
                  have hTk : sgT w fd kp k = sgV w fd kp k := if_neg hnz
                  have hOk : sgO w fd kp k = sgV w fd kp k := if_pos hpos
                  refine g_relocal (L' := [(6, .int (nI (k + 1))), (5, .int (nI (nzN fd (k + 1)))), (4, .int (nI (sumF (sgO w fd kp) k + sgO w fd kp k))), (3, .int (nI (sumF (sgT w fd kp) k + sgT w fd kp k))), (7, .int (nI (sgV w fd kp k))), (0, .ref (ad 0)), (1, .int (nI w)), (2, .int (nI (nzN fd kp)))]) (by rw [hTk, hOk, nz_t hnz]) ?_
                  refine g_goto fx 44 dX12_signs_140 (by decide) ?_
                  refine g_locals (L' := [(0, .ref (ad 0)), (1, .int (nI w)), (2, .int (nI (nzN fd kp))), (3, .int (nI (sumF (sgT w fd kp) k + sgT w fd kp k))), (4, .int (nI (sumF (sgO w fd kp) k + sgO w fd kp k))), (5, .int (nI (nzN fd (k + 1)))), (6, .int (nI (k + 1)))]) [5, 6, 7, 3, 2, 1, 0] rfl ?_
                  exact ih44 (k + 1) _ _ hlt (fun j hj hz => by by_cases q : j = k; (rw [q, va_up_self]); (rw [va_up_ne _ _ (by have h1 := nz_lt (fd := fd) (show j < k by omega) hz; omega)]; exact hsc2 j (by omega) hz)) h0 hq hlf ho ht hd hu hw hb hwh hnb hsr hfr (by omega)
              refine g_iload_n fx 1 dX12_signs_63 rfl ?_
              refine g_if_ne fx 77 dX12_signs_64 (by decide) (fun c64 => ?_) (fun c64 => ?_)
              · skip
                refine g_iload_n fx 1 dX12_signs_77 rfl ?_
                refine g_iconst (v := nI 1) fx dX12_signs_78 (by decide +kernel) ?_
                refine g_icmp_ne fx 96 dX12_signs_79 (by decide) (fun c79 => ?_) (fun c79 => ?_)
                · skip
                  refine g_iconst (v := nI 1) fx dX12_signs_96 (by decide +kernel) ?_
                  refine g_locals (L' := [(0, .ref (ad 0)), (1, .int (nI w)), (2, .int (nI (nzN fd kp))), (3, .int (nI (sumF (sgT w fd kp) k))), (4, .int (nI (sumF (sgO w fd kp) k))), (5, .int (nI (nzN fd k))), (6, .int (nI k))]) [0, 1, 2, 3, 4, 5, 6] rfl ?_
                  exact J97 _ (congrArg nI ((if_neg (fun q => c64 (by rw [q]; rfl))).trans (if_neg (fun q => c79 (by rw [q])))).symm)
                · skip
                  refine g_aload_n fx 0 dX12_signs_82 rfl ?_
                  refine g_aload_n fx 0 dX12_signs_83 rfl ?_
                  refine g_get (r := 0) fx lkX12_81 (by omega) h0 rfl dX12_signs_84 ?_
                  refine g_iload fx 5 dX12_signs_87 rfl ?_
                  refine g_iald (r := 22) (j := (nzN fd k)) fx (by omega) hnb (nI_toInt (by omega)) (by omega) dX12_signs_89 ?_
                  refine g_callVip (As := [.int (fn1 (nzN fd k))]) (rest := []) fx slX12_261 (c_X12_rankOf B ad ct2 n _ fn1 hn h0 hnb (nzN fd kp) (va_up_self _ _ _) (by omega) (fn1 (nzN fd k))) (by omega) h0 rfl rfl rfl (Nat.le_of_ble_eq_true rfl) ⟨by decide, by decide⟩ ⟨by decide, by decide⟩ dX12_signs_90 (fun q4r hq4r => ?_)
                  have hq4 : q4r = nI (rkZ fd kp (absI (fd k))) := by rw [hq4r, gCnt_nz kp hz1, gCnt_nz kp hz1, hfk]; rfl
                  refine g_goto fx 97 dX12_signs_93 (by decide) ?_
                  refine g_locals (L' := [(0, .ref (ad 0)), (1, .int (nI w)), (2, .int (nI (nzN fd kp))), (3, .int (nI (sumF (sgT w fd kp) k))), (4, .int (nI (sumF (sgO w fd kp) k))), (5, .int (nI (nzN fd k))), (6, .int (nI k))]) [0, 1, 2, 3, 4, 5, 6] rfl ?_
                  exact J97 _ (by rw [hq4]; exact congrArg nI ((if_neg (fun q => c64 (by rw [q]; rfl))).trans (if_pos ((nI_eq (by omega) (by omega)).mp c79))).symm)
              · skip
                refine g_aload_n fx 0 dX12_signs_67 rfl ?_
                refine g_get (r := 0) fx lkX12_81 (by omega) h0 rfl dX12_signs_68 ?_
                refine g_iload fx 5 dX12_signs_71 rfl ?_
                refine g_iald (r := 22) (j := (nzN fd k)) fx (by omega) hnb (nI_toInt (by omega)) (by omega) dX12_signs_73 ?_
                refine g_goto fx 97 dX12_signs_74 (by decide) ?_
                refine g_locals (L' := [(0, .ref (ad 0)), (1, .int (nI w)), (2, .int (nI (nzN fd kp))), (3, .int (nI (sumF (sgT w fd kp) k))), (4, .int (nI (sumF (sgO w fd kp) k))), (5, .int (nI (nzN fd k))), (6, .int (nI k))]) [0, 1, 2, 3, 4, 5, 6] rfl ?_
                exact J97 _ (by rw [hfk, absI_nI hdk]; exact congrArg nI (if_pos ((nI_eq (by omega) (by omega)).mp (c64.trans (show (0 : Int32) = nI 0 by decide)))).symm)
      refine g_locals (L' := [(0, .ref (ad 0)), (1, .int (nI w)), (2, .int (nI (nzN fd kp))), (3, .int (nI 0)), (4, .int (nI 0)), (5, .int (nI 0)), (6, .int (nI 0))]) [5, 6, 4, 3, 2, 1, 0] rfl ?_
      exact LP44 (kp + 1) 0 ct1 sc (by omega) (fun j hj => absurd hj (by omega)) h0 hq hlf ho ht hd hu hw hb hwh hnb hsr hfr (by omega)
    · skip
      have hn0 : nzN fd kp = 0 := (nI_eq (by omega) (by omega)).mp (c26.trans (show (0 : Int32) = nI 0 by decide))
      refine g_ldcw fx kcX12_268 dX12_signs_29 ?_
      refine g_iret fx rt dX12_signs_32 ?_
      exact gPi.mk (Or.inr (Or.inl ⟨hP, hn0, rfl, _, fn1, h0, hnb, hs1⟩))
  · skip
    have hA : ¬ ((0 : Int) ≤ x.toInt ∧ x.toInt ≤ 2) := if01_z.mp (hq1 ▸ c9)
    refine g_ldcw fx kcX12_267 dX12_signs_12 ?_
    refine g_iret fx rt dX12_signs_15 ?_
    exact gPi.mk (Or.inl ⟨hA, rfl, rfl⟩)
