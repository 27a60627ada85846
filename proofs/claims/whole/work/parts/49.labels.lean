def smp (fs : Nat → Int32) (a k : Nat) : Int32 := if k < a then fs k else fs (15 + (k - a))
def lbV (w : Nat) (fs : Nat → Int32) (a b k : Nat) : Int := if w = 0 then (smp fs a k).toInt else ((rkN fs a (fun i => fs (15 + i)) b (smp fs a k) : Nat) : Int)
def lbL (w : Nat) : Int := if w = 0 then -1000 else 0
def lbN (w : Nat) (fs : Nat → Int32) (a b k : Nat) : Nat := (lbV w fs a b k - lbL w).toNat
def sumI (V : Nat → Int) : Nat → Int
  | 0 => 0
  | n + 1 => sumI V n + V n
theorem sumI_bd {V : Nat → Int} {b : Nat} : ∀ n, (∀ i, i < n → (V i).natAbs ≤ b) → (sumI V n).natAbs ≤ n * b
  | 0, _ => by show (0 : Int).natAbs ≤ 0 * b; omega
  | n + 1, h => by
    have h1 := sumI_bd n (fun i hi => h i (by omega))
    have h2 := h n (by omega)
    show (sumI V n + V n).natAbs ≤ (n + 1) * b
    rw [Nat.succ_mul]; omega
theorem rkN_le {fA fB : Nat → Int32} {a b : Nat} {v : Int32} : rkN fA a fB b v ≤ 3 * (a + b) + 1 := by
  unfold rkN
  have h1 := gCnt_le (p := fun z => decide (z < v)) (f := fA) a
  have h2 := gCnt_le (p := fun z => decide (z < v)) (f := fB) b
  have h3 := gCnt_le (p := fun z => decide (z = v)) (f := fA) a
  have h4 := gCnt_le (p := fun z => decide (z = v)) (f := fB) b
  omega
theorem lbV_bd {w : Nat} {fs : Nat → Int32} {a b k : Nat} (ha : a ≤ 15) (hb : b ≤ 15) (hk : k < a + b) (hs : ∀ j, j < 30 → (fs j).toInt.natAbs ≤ 1000) : (lbV w fs a b k).natAbs ≤ 1000 ∧ lbL w ≤ lbV w fs a b k ∧ lbV w fs a b k - lbL w ≤ 2000 := by
  unfold lbV lbL
  by_cases q : w = 0
  · rw [if_pos q, if_pos q]
    have h1 : (smp fs a k).toInt.natAbs ≤ 1000 := by
      unfold smp
      by_cases q2 : k < a
      · rw [if_pos q2]; exact hs k (by omega)
      · rw [if_neg q2]; exact hs _ (by omega)
    omega
  · rw [if_neg q, if_neg q]
    have h1 := rkN_le (fA := fs) (a := a) (fB := fun i => fs (15 + i)) (b := b) (v := smp fs a k)
    omega
theorem nI_ofT {z : Int32} {m : Nat} (h : z.toInt = (m : Int)) (hm : m < 2 ^ 31) : z = nI m := Int32.toInt_inj.mp (by rw [h, nI_toInt hm])
theorem sub_toInt {t s : Int32} {a b : Int} (ht : t.toInt = a) (hs : s.toInt = b) (h1 : (a - b).natAbs < 2 ^ 31) : (t - s).toInt = a - b := by
  rw [Int32.toInt_sub, ht, hs, Int.bmod_def]; omega
theorem mul_toInt {t s : Int32} {a b : Int} (ht : t.toInt = a) (hs : s.toInt = b) (h1 : (a * b).natAbs < 2 ^ 31) : (t * s).toInt = a * b := by
  rw [Int32.toInt_mul, ht, hs]
  generalize a * b = p at h1 ⊢
  rw [Int.bmod_def]; omega
theorem wN_one {sc : Nat → Nat} : ∀ a, 1 ≤ wN sc a a (sumF sc a)
  | 0 => Nat.le_of_eq (if_pos ⟨rfl, rfl⟩).symm
  | a + 1 => by
    show 1 ≤ wN sc a (a + 1) (sumF sc (a + 1)) + (if 0 < a + 1 ∧ sc a ≤ sumF sc (a + 1) then wN sc a (a + 1 - 1) (sumF sc (a + 1) - sc a) else 0)
    have h := wN_one (sc := sc) a
    have e : sumF sc (a + 1) = sumF sc a + sc a := rfl
    rw [if_pos ⟨by omega, by omega⟩, Nat.add_sub_cancel, e, Nat.add_sub_cancel]
    omega
theorem wN_mono {sc : Nat → Nat} {k s : Nat} : ∀ d n, wN sc n k s ≤ wN sc (n + d) k s
  | 0, _ => Nat.le_refl _
  | d + 1, n => Nat.le_trans (wN_mono d n) (Nat.le_add_right _ _)
theorem wN_some {sc : Nat → Nat} {n a S : Nat} (ha : a ≤ n) (hs : ∀ i, i < n → sc i ≤ 2000) (hS : 2000 * a < S) : 0 < sumF (fun s => wN sc n a s) S := by
  have h1 := wN_one (sc := sc) a
  have h2 := wN_mono (sc := sc) (k := a) (s := sumF sc a) (n - a) a
  rw [show a + (n - a) = n by omega] at h2
  have h3 : sumF sc a ≤ a * 2000 := sumF_le a (fun i hi => hs i (by omega))
  have h4 := sumF_mem (f := fun s => wN sc n a s) (n := S) (i := sumF sc a) (by omega)
  exact Nat.lt_of_lt_of_le (Nat.lt_of_lt_of_le h1 h2) h4
set_option maxHeartbeats 4000000 in
set_option maxRecDepth 100000 in
theorem c_X12_labels (B : gB) (ad : Nat → Nat) (ct : Nat → va_E) (n : Nat) (f fs fn sc : Nat → Int32) (km gq gl go gt gu gw gb wh gy : Nat → Nat) (hn : 33 ≤ n) (h0 : ct 0 = mObj ad f) (hq : ct 1 = .inl (B.2.1 0, 40, .inl (nF gq))) (hlf : ct 2 = .inl (B.2.1 0, 40, .inl (nF gl))) (ho : ct 3 = .inl (B.2.1 0, 40, .inl (nF go))) (ht : ct 4 = .inl (B.2.1 0, 40, .inl (nF gt))) (hs : ct 6 = .inl (B.2.1 0, 30, .inl fs)) (hm : ct 7 = .inl (B.2.1 0, 2, .inl (nF km))) (hu : ct 9 = .inl (B.2.1 0, 160, .inl (nF gu))) (hw : ct 10 = .inl (B.2.1 0, 160, .inl (nF gw))) (hb : ct 11 = .inl (B.2.1 1, 60001, .inr (.inl (lF gb)))) (hwh : ct 21 = .inl (B.2.1 0, 40, .inl (nF wh))) (hnb : ct 22 = .inl (B.2.1 0, 30, .inl fn)) (hsr : ct 23 = .inl (B.2.1 0, 30, .inl sc)) (hwy : ct 24 = .inl (B.2.1 1, 480016, .inr (.inl (lF gy)))) (hk15 : ∀ w, w < 2 → km w ≤ 15) (hsb : ∀ j, j < 30 → (fs j).toInt.natAbs ≤ 1000) (x : Int32) : Ctr B yX12_labels cX12_labels 9 (some .int) 5 134 0 0 ad ct n [.ref (ad 0), .int x] (gPi ad n (fun q ct' => (¬ ((0 : Int) ≤ x.toInt ∧ x.toInt ≤ 1) ∧ q = -1000000001 ∧ ct' = ct) ∨ (((0 : Int) ≤ x.toInt ∧ x.toInt ≤ 1) ∧ (km 0 = 0 ∨ km 1 = 0) ∧ q = -1000000003 ∧ ct' = ct) ∨ (((0 : Int) ≤ x.toInt ∧ x.toInt ≤ 1) ∧ 0 < km 0 ∧ 0 < km 1 ∧ ∃ w : Nat, w < 2 ∧ x = nI w ∧ q.toInt = (sumI (lbV w fs (km 0) (km 1)) (km 0)) ∧ ∃ F gq' gl' go' gt' gu' gw' gb' wh' fn' sc' gy', ct' 0 = mObj ad F ∧ ct' 1 = .inl (B.2.1 0, 40, .inl (nF gq')) ∧ ct' 2 = .inl (B.2.1 0, 40, .inl (nF gl')) ∧ ct' 3 = .inl (B.2.1 0, 40, .inl (nF go')) ∧ ct' 4 = .inl (B.2.1 0, 40, .inl (nF gt')) ∧ ct' 9 = .inl (B.2.1 0, 160, .inl (nF gu')) ∧ ct' 10 = .inl (B.2.1 0, 160, .inl (nF gw')) ∧ ct' 11 = .inl (B.2.1 1, 60001, .inr (.inl (lF gb'))) ∧ ct' 21 = .inl (B.2.1 0, 40, .inl (nF wh')) ∧ ct' 22 = .inl (B.2.1 0, 30, .inl fn') ∧ ct' 23 = .inl (B.2.1 0, 30, .inl sc') ∧ ct' 24 = .inl (B.2.1 1, 480016, .inr (.inl (lF gy'))) ∧ F 12 = nI (1 + w) ∧ F 13 = q ∧ F 14 = nI (km 0 + km 1) ∧ F 18 = nI 30001 ∧ (F 19).toInt = (lbL w * ((km 0 : Nat) : Int)) ∧ (∀ k, k ≠ 12 → k ≠ 13 → k ≠ 14 → k ≠ 18 → k ≠ 19 → k ≠ 34 → F k = f k) ∧ (∀ s, s < 30001 → gb' s = (fun s => wN (lbN w fs (km 0) (km 1)) (km 0 + km 1) (km 0) s) s) ∧ (∀ t, t < 4 → okN gu' (40 * t) ∧ okN gw' (40 * t) ∧ nv gu' (40 * t) = fcS (((km 0 + km 1) : Nat) : Int) (((km 0 : Nat) : Int) * sumI (lbV w fs (km 0) (km 1)) (km 0 + km 1)) (sumI (lbV w fs (km 0) (km 1)) (km 0)) (lbL w * ((km 0 : Nat) : Int)) gb' 30001 t / Nat.gcd (fcS (((km 0 + km 1) : Nat) : Int) (((km 0 : Nat) : Int) * sumI (lbV w fs (km 0) (km 1)) (km 0 + km 1)) (sumI (lbV w fs (km 0) (km 1)) (km 0)) (lbL w * ((km 0 : Nat) : Int)) gb' 30001 t) (sumF gb' 30001) ∧ nv gw' (40 * t) = sumF gb' 30001 / Nat.gcd (fcS (((km 0 + km 1) : Nat) : Int) (((km 0 : Nat) : Int) * sumI (lbV w fs (km 0) (km 1)) (km 0 + km 1)) (sumI (lbV w fs (km 0) (km 1)) (km 0)) (lbL w * ((km 0 : Nat) : Int)) gb' 30001 t) (sumF gb' 30001)) ∧ ∀ r, r ≠ 0 → r ≠ 1 → r ≠ 2 → r ≠ 3 → r ≠ 4 → r ≠ 9 → r ≠ 10 → r ≠ 11 → r ≠ 21 → r ≠ 22 → r ≠ 23 → r ≠ 24 → ct' r = ct r))) := by
  have hfr : ∀ r, r ≠ 0 → r ≠ 1 → r ≠ 2 → r ≠ 3 → r ≠ 4 → r ≠ 9 → r ≠ 10 → r ≠ 11 → r ≠ 21 → r ≠ 22 → r ≠ 23 → r ≠ 24 → ct r = ct r := fun _ _ _ _ _ _ _ _ _ _ _ _ _ => rfl
  have hka := hk15 0 (by decide)
  have hkb := hk15 1 (by decide)
  refine Ctr.ofG (L := [(0, .ref (ad 0)), (1, .int x)]) (by decide +kernel) rfl (Nat.le_of_ble_eq_true rfl) (fun E fx rt hnm => ?_)
  refine g_iload_n fx 1 dX12_labels_0 rfl ?_
  refine g_i2l fx dX12_labels_1 ?_
  refine g_lconst (v := lN 0) fx dX12_labels_2 (by decide +kernel) ?_
  refine g_lconst (v := lN 1) fx dX12_labels_3 (by decide +kernel) ?_
  refine g_callSip (As := [.long x.toInt64, .long (lN 0), .long (lN 1)]) (rest := []) fx slX12_159 (c_in B ad ct n x (lN 0) (lN 1) 0 1 (by decide) (by decide)) rfl rfl (Nat.le_of_ble_eq_true rfl) ⟨by decide, by decide⟩ ⟨by decide, by decide⟩ dX12_labels_4 (fun q1 hq1 => ?_)
  refine g_if_ne fx 14 dX12_labels_7 (by decide) (fun c7 => ?_) (fun c7 => ?_)
  · skip
    have hP : (0 : Int) ≤ x.toInt ∧ x.toInt ≤ 1 := if01_n.mp (hq1 ▸ c7)
    obtain ⟨w, hw2, ext⟩ := toN hP (by omega)
    have hwl : w < 2 := by omega
    refine g_relocal (L' := [(0, .ref (ad 0)), (1, .int (nI w))]) (by rw [ext]) ?_
    refine g_aload_n fx 0 dX12_labels_14 rfl ?_
    refine g_get (r := 0) fx lkX12_28 (by omega) h0 rfl dX12_labels_15 ?_
    refine g_iconst (v := nI 0) fx dX12_labels_18 (by decide +kernel) ?_
    refine g_iald (r := 7) (j := 0) fx (by omega) hm (nI_toInt (by omega)) (by omega) dX12_labels_19 ?_
    refine g_isi (y := nI (km 0)) rfl ?_
    refine g_if_eq fx 32 dX12_labels_20 (by decide) (fun c20 => ?_) (fun c20 => ?_)
    · skip
      have hz0 : km 0 = 0 := (nI_eq (by omega) (by omega)).mp (c20.trans (show (0 : Int32) = nI 0 by decide))
      have hzz : km 0 = 0 ∨ km 1 = 0 := Or.inl hz0
      refine g_ldcw fx kcX12_268 dX12_labels_32 ?_
      refine g_iret fx rt dX12_labels_35 ?_
      exact gPi.mk (Or.inr (Or.inl ⟨hP, hzz, rfl, rfl⟩))
    · skip
      have hp0 : 0 < km 0 := Nat.pos_of_ne_zero (fun q => c20 (by rw [q]; rfl))
      refine g_aload_n fx 0 dX12_labels_23 rfl ?_
      refine g_get (r := 0) fx lkX12_28 (by omega) h0 rfl dX12_labels_24 ?_
      refine g_iconst (v := nI 1) fx dX12_labels_27 (by decide +kernel) ?_
      refine g_iald (r := 7) (j := 1) fx (by omega) hm (nI_toInt (by omega)) (by omega) dX12_labels_28 ?_
      refine g_isi (y := nI (km 1)) rfl ?_
      refine g_if_ne fx 36 dX12_labels_29 (by decide) (fun c29 => ?_) (fun c29 => ?_)
      · skip
        have hp1 : 0 < km 1 := Nat.pos_of_ne_zero (fun q => c29 (by rw [q]; rfl))
        refine g_aload_n fx 0 dX12_labels_36 rfl ?_
        refine g_callVv (As := []) (rest := []) fx slX12_264 (c_X12_takeSamples B ad ct n f fs fn km hn h0 hs hm hnb hk15) (by omega) h0 rfl rfl rfl (Nat.le_of_ble_eq_true rfl) ⟨by decide, by decide⟩ ⟨by decide, by decide⟩ dX12_labels_37 (fun ct1 hz1 => ?_)
        obtain ⟨fn1, h0, hnb, ha1, hb1, hs1⟩ := hz1
        have hq : ct1 1 = .inl (B.2.1 0, 40, .inl (nF gq)) := (hs1 1 (by decide) (by decide)).trans hq
        have hlf : ct1 2 = .inl (B.2.1 0, 40, .inl (nF gl)) := (hs1 2 (by decide) (by decide)).trans hlf
        have ho : ct1 3 = .inl (B.2.1 0, 40, .inl (nF go)) := (hs1 3 (by decide) (by decide)).trans ho
        have ht : ct1 4 = .inl (B.2.1 0, 40, .inl (nF gt)) := (hs1 4 (by decide) (by decide)).trans ht
        have hs : ct1 6 = .inl (B.2.1 0, 30, .inl fs) := (hs1 6 (by decide) (by decide)).trans hs
        have hm : ct1 7 = .inl (B.2.1 0, 2, .inl (nF km)) := (hs1 7 (by decide) (by decide)).trans hm
        have hu : ct1 9 = .inl (B.2.1 0, 160, .inl (nF gu)) := (hs1 9 (by decide) (by decide)).trans hu
        have hw : ct1 10 = .inl (B.2.1 0, 160, .inl (nF gw)) := (hs1 10 (by decide) (by decide)).trans hw
        have hb : ct1 11 = .inl (B.2.1 1, 60001, .inr (.inl (lF gb))) := (hs1 11 (by decide) (by decide)).trans hb
        have hwh : ct1 21 = .inl (B.2.1 0, 40, .inl (nF wh)) := (hs1 21 (by decide) (by decide)).trans hwh
        have hsr : ct1 23 = .inl (B.2.1 0, 30, .inl sc) := (hs1 23 (by decide) (by decide)).trans hsr
        have hwy : ct1 24 = .inl (B.2.1 1, 480016, .inr (.inl (lF gy))) := (hs1 24 (by decide) (by decide)).trans hwy
        have hfr : ∀ r, r ≠ 0 → r ≠ 1 → r ≠ 2 → r ≠ 3 → r ≠ 4 → r ≠ 9 → r ≠ 10 → r ≠ 11 → r ≠ 21 → r ≠ 22 → r ≠ 23 → r ≠ 24 → ct1 r = ct r := fun r q0 q1 q2 q3 q4 q9 q10 q11 q21 q22 q23 q24 => (hs1 r q0 q22).trans (hfr r q0 q1 q2 q3 q4 q9 q10 q11 q21 q22 q23 q24)
        have hbd : ∀ i, i < (km 0 + km 1) → _ := fun i hi => lbV_bd (w := w) (fs := fs) hka hkb hi hsb
        refine g_aload_n fx 0 dX12_labels_40 rfl ?_
        refine g_get (r := 0) fx lkX12_250 (by omega) h0 rfl dX12_labels_41 ?_
        refine g_isi (y := nI (km 0 + km 1)) (va_up_self _ _ _) ?_
        refine g_istore_n (L' := [(2, .int (nI (km 0 + km 1))), (0, .ref (ad 0)), (1, .int (nI w))]) fx dX12_labels_44 (by decide) rfl ?_
        refine g_aload_n fx 1 dX12_labels_45 rfl ?_
        refine g_get (r := 0) fx lkX12_28 (by omega) h0 rfl dX12_labels_46 ?_
        refine g_iconst (v := nI 0) fx dX12_labels_49 (by decide +kernel) ?_
        refine g_iald (r := 7) (j := 0) fx (by omega) hm (nI_toInt (by omega)) (by omega) dX12_labels_50 ?_
        refine g_isi (y := nI (km 0)) rfl ?_
        refine g_istore_n (L' := [(3, .int (nI (km 0))), (2, .int (nI (km 0 + km 1))), (0, .ref (ad 0)), (1, .int (nI w))]) fx dX12_labels_51 (by decide) rfl ?_
        have J63 : ∀ (lst : Int32), (lst.toInt = lbL w) → G B 9 E ad ct1 n 0 0 [(0, .ref (ad 0)), (1, .int (nI w)), (2, .int (nI (km 0 + km 1))), (3, .int (nI (km 0)))] 63 [.int lst] := by
          intro lst hlst
          refine g_istore (L' := [(4, .int lst), (0, .ref (ad 0)), (1, .int (nI w)), (2, .int (nI (km 0 + km 1))), (3, .int (nI (km 0)))]) fx dX12_labels_63 (by decide) rfl ?_
          refine g_iconst (v := nI 0) fx dX12_labels_65 (by decide +kernel) ?_
          refine g_istore (L' := [(5, .int (nI 0)), (4, .int lst), (0, .ref (ad 0)), (1, .int (nI w)), (2, .int (nI (km 0 + km 1))), (3, .int (nI (km 0)))]) fx dX12_labels_66 (by decide) rfl ?_
          refine g_iconst (v := nI 0) fx dX12_labels_68 (by decide +kernel) ?_
          refine g_istore (L' := [(6, .int (nI 0)), (5, .int (nI 0)), (4, .int lst), (0, .ref (ad 0)), (1, .int (nI w)), (2, .int (nI (km 0 + km 1))), (3, .int (nI (km 0)))]) fx dX12_labels_69 (by decide) rfl ?_
          refine g_iconst (v := nI 0) fx dX12_labels_71 (by decide +kernel) ?_
          refine g_istore (L' := [(7, .int (nI 0)), (6, .int (nI 0)), (5, .int (nI 0)), (4, .int lst), (0, .ref (ad 0)), (1, .int (nI w)), (2, .int (nI (km 0 + km 1))), (3, .int (nI (km 0)))]) fx dX12_labels_72 (by decide) rfl ?_
          have LP74 : ∀ (M : Nat) (k : Nat) (tot own : Int32) (ct2 : Nat → va_E) (sc2 : Nat → Int32), (k ≤ (km 0 + km 1)) → (tot.toInt = sumI (lbV w fs (km 0) (km 1)) k) → (own.toInt = sumI (lbV w fs (km 0) (km 1)) (min k (km 0))) → (∀ j, j < k → sc2 j = nI ((lbN w fs (km 0) (km 1)) j)) → (ct2 0 = mObj ad (va_up f 34 (nI (km 0 + km 1)))) → (ct2 1 = .inl (B.2.1 0, 40, .inl (nF gq))) → (ct2 2 = .inl (B.2.1 0, 40, .inl (nF gl))) → (ct2 3 = .inl (B.2.1 0, 40, .inl (nF go))) → (ct2 4 = .inl (B.2.1 0, 40, .inl (nF gt))) → (ct2 6 = .inl (B.2.1 0, 30, .inl fs)) → (ct2 7 = .inl (B.2.1 0, 2, .inl (nF km))) → (ct2 9 = .inl (B.2.1 0, 160, .inl (nF gu))) → (ct2 10 = .inl (B.2.1 0, 160, .inl (nF gw))) → (ct2 11 = .inl (B.2.1 1, 60001, .inr (.inl (lF gb)))) → (ct2 21 = .inl (B.2.1 0, 40, .inl (nF wh))) → (ct2 22 = .inl (B.2.1 0, 30, .inl fn1)) → (ct2 23 = .inl (B.2.1 0, 30, .inl sc2)) → (ct2 24 = .inl (B.2.1 1, 480016, .inr (.inl (lF gy)))) → (∀ r, r ≠ 0 → r ≠ 1 → r ≠ 2 → r ≠ 3 → r ≠ 4 → r ≠ 9 → r ≠ 10 → r ≠ 11 → r ≠ 21 → r ≠ 22 → r ≠ 23 → r ≠ 24 → ct2 r = ct r) →  ((km 0 + km 1) - k) < M → G B 9 E ad ct2 n 0 0 [(0, .ref (ad 0)), (1, .int (nI w)), (2, .int (nI (km 0 + km 1))), (3, .int (nI (km 0))), (4, .int lst), (5, .int tot), (6, .int own), (7, .int (nI k))] 74 [] := by
            intro M
            induction M with
            | zero => intro k tot own ct2 sc2 _ _ _ _ _ _ _ _ _ _ _ _ _ _ _ _ _ _ _ hM; exact absurd hM (Nat.not_lt_zero _)
            | succ M ih =>
              intro k tot own ct2 sc2 hk htot hown hsc2 h0 hq hlf ho ht hs hm hu hw hb hwh hnb hsr hwy hfr hM
              have ih74 := ih
              refine g_iload fx 7 dX12_labels_74 rfl ?_
              refine g_iload_n fx 2 dX12_labels_76 rfl ?_
              refine g_icmp_ge fx 149 dX12_labels_77 (by decide) (fun c77 => ?_) (fun c77 => ?_)
              · skip
                have hke : k = (km 0 + km 1) := by have := (nI_leI (by omega) (by omega)).mp c77; omega
                rw [hke] at htot hsc2
                rw [hke, show min (km 0 + km 1) (km 0) = km 0 by omega] at hown
                refine g_aload_n fx 0 dX12_labels_149 rfl ?_
                refine g_iload_n fx 2 dX12_labels_150 rfl ?_
                refine g_iload_n fx 3 dX12_labels_151 rfl ?_
                refine g_callVv (As := [.int (nI (km 0 + km 1)), .int (nI (km 0))]) (rest := []) fx slX12_269 (c_X12_countWays B ad ct2 n _ sc2 gy (lbN w fs (km 0) (km 1)) hn h0 hsr hwy (km 0 + km 1) (km 0) (by omega) hka hsc2 (fun j hj => by unfold lbN; have := hbd j hj; omega)) (by omega) h0 rfl rfl rfl (Nat.le_of_ble_eq_true rfl) ⟨by decide, by decide⟩ ⟨by decide, by decide⟩ dX12_labels_152 (fun ct3 hz3 => ?_)
                obtain ⟨g3, e3, hg3⟩ := hz3
                have hfr : ∀ r, r ≠ 0 → r ≠ 1 → r ≠ 2 → r ≠ 3 → r ≠ 4 → r ≠ 9 → r ≠ 10 → r ≠ 11 → r ≠ 21 → r ≠ 22 → r ≠ 23 → r ≠ 24 → ct3 r = ct r := fun r _ _ _ _ _ _ _ _ _ _ _ _ => (congrFun e3 r).trans ((va_up_ne _ _ (by assumption)).trans (hfr r (by assumption) (by assumption) (by assumption) (by assumption) (by assumption) (by assumption) (by assumption) (by assumption) (by assumption) (by assumption) (by assumption) (by assumption)))
                have h0 : ct3 0 = mObj ad (va_up f 34 (nI (km 0 + km 1))) := (congrFun e3 _).trans ((va_up_ne _ _ (by omega)).trans h0)
                have hq : ct3 1 = .inl (B.2.1 0, 40, .inl (nF gq)) := (congrFun e3 _).trans ((va_up_ne _ _ (by omega)).trans hq)
                have hlf : ct3 2 = .inl (B.2.1 0, 40, .inl (nF gl)) := (congrFun e3 _).trans ((va_up_ne _ _ (by omega)).trans hlf)
                have ho : ct3 3 = .inl (B.2.1 0, 40, .inl (nF go)) := (congrFun e3 _).trans ((va_up_ne _ _ (by omega)).trans ho)
                have ht : ct3 4 = .inl (B.2.1 0, 40, .inl (nF gt)) := (congrFun e3 _).trans ((va_up_ne _ _ (by omega)).trans ht)
                have hs : ct3 6 = .inl (B.2.1 0, 30, .inl fs) := (congrFun e3 _).trans ((va_up_ne _ _ (by omega)).trans hs)
                have hm : ct3 7 = .inl (B.2.1 0, 2, .inl (nF km)) := (congrFun e3 _).trans ((va_up_ne _ _ (by omega)).trans hm)
                have hu : ct3 9 = .inl (B.2.1 0, 160, .inl (nF gu)) := (congrFun e3 _).trans ((va_up_ne _ _ (by omega)).trans hu)
                have hw : ct3 10 = .inl (B.2.1 0, 160, .inl (nF gw)) := (congrFun e3 _).trans ((va_up_ne _ _ (by omega)).trans hw)
                have hb : ct3 11 = .inl (B.2.1 1, 60001, .inr (.inl (lF gb))) := (congrFun e3 _).trans ((va_up_ne _ _ (by omega)).trans hb)
                have hwh : ct3 21 = .inl (B.2.1 0, 40, .inl (nF wh)) := (congrFun e3 _).trans ((va_up_ne _ _ (by omega)).trans hwh)
                have hnb : ct3 22 = .inl (B.2.1 0, 30, .inl fn1) := (congrFun e3 _).trans ((va_up_ne _ _ (by omega)).trans hnb)
                have hsr : ct3 23 = .inl (B.2.1 0, 30, .inl sc2) := (congrFun e3 _).trans ((va_up_ne _ _ (by omega)).trans hsr)
                have hwy : ct3 24 = .inl (B.2.1 1, 480016, .inr (.inl (lF g3))) := by rw [e3, va_up_self]
                refine g_aload_n fx 0 dX12_labels_155 rfl ?_
                refine g_sipush (v := nI 30001) fx dX12_labels_156 (by decide +kernel) ?_
                refine g_put (r := 0) (fs' := mFs ad (va_up (va_up f 34 (nI (km 0 + km 1))) 18 (nI 30001))) fx lpX12_273 (by omega) h0 rfl rfl (Nat.le_of_ble_eq_true rfl) rfl dX12_labels_159 (fun cu2 ecu2 => ?_)
                have hfr : ∀ r, r ≠ 0 → r ≠ 1 → r ≠ 2 → r ≠ 3 → r ≠ 4 → r ≠ 9 → r ≠ 10 → r ≠ 11 → r ≠ 21 → r ≠ 22 → r ≠ 23 → r ≠ 24 → cu2 r = ct r := fun r _ _ _ _ _ _ _ _ _ _ _ _ => (congrFun ecu2 r).trans ((va_up_ne _ _ (by assumption)).trans (hfr r (by assumption) (by assumption) (by assumption) (by assumption) (by assumption) (by assumption) (by assumption) (by assumption) (by assumption) (by assumption) (by assumption) (by assumption)))
                have h0 : cu2 0 = mObj ad (va_up (va_up f 34 (nI (km 0 + km 1))) 18 (nI 30001)) := by rw [ecu2, va_up_self]
                have hq : cu2 1 = .inl (B.2.1 0, 40, .inl (nF gq)) := (congrFun ecu2 _).trans ((va_up_ne _ _ (by omega)).trans hq)
                have hlf : cu2 2 = .inl (B.2.1 0, 40, .inl (nF gl)) := (congrFun ecu2 _).trans ((va_up_ne _ _ (by omega)).trans hlf)
                have ho : cu2 3 = .inl (B.2.1 0, 40, .inl (nF go)) := (congrFun ecu2 _).trans ((va_up_ne _ _ (by omega)).trans ho)
                have ht : cu2 4 = .inl (B.2.1 0, 40, .inl (nF gt)) := (congrFun ecu2 _).trans ((va_up_ne _ _ (by omega)).trans ht)
                have hs : cu2 6 = .inl (B.2.1 0, 30, .inl fs) := (congrFun ecu2 _).trans ((va_up_ne _ _ (by omega)).trans hs)
                have hm : cu2 7 = .inl (B.2.1 0, 2, .inl (nF km)) := (congrFun ecu2 _).trans ((va_up_ne _ _ (by omega)).trans hm)
                have hu : cu2 9 = .inl (B.2.1 0, 160, .inl (nF gu)) := (congrFun ecu2 _).trans ((va_up_ne _ _ (by omega)).trans hu)
                have hw : cu2 10 = .inl (B.2.1 0, 160, .inl (nF gw)) := (congrFun ecu2 _).trans ((va_up_ne _ _ (by omega)).trans hw)
                have hb : cu2 11 = .inl (B.2.1 1, 60001, .inr (.inl (lF gb))) := (congrFun ecu2 _).trans ((va_up_ne _ _ (by omega)).trans hb)
                have hwh : cu2 21 = .inl (B.2.1 0, 40, .inl (nF wh)) := (congrFun ecu2 _).trans ((va_up_ne _ _ (by omega)).trans hwh)
                have hnb : cu2 22 = .inl (B.2.1 0, 30, .inl fn1) := (congrFun ecu2 _).trans ((va_up_ne _ _ (by omega)).trans hnb)
                have hsr : cu2 23 = .inl (B.2.1 0, 30, .inl sc2) := (congrFun ecu2 _).trans ((va_up_ne _ _ (by omega)).trans hsr)
                have hwy : cu2 24 = .inl (B.2.1 1, 480016, .inr (.inl (lF g3))) := (congrFun ecu2 _).trans ((va_up_ne _ _ (by omega)).trans hwy)
                refine g_aload_n fx 0 dX12_labels_162 rfl ?_
                refine g_iload fx 4 dX12_labels_163 rfl ?_
                refine g_iload_n fx 3 dX12_labels_165 rfl ?_
                refine g_imul fx dX12_labels_166 ?_
                refine g_topi (fun bs0 ebs0 => ?_)
                have hbs0 : bs0.toInt = (lbL w * ((km 0 : Nat) : Int)) := by
                  have hp : (lbL w).natAbs ≤ 1000 := by unfold lbL; split <;> omega
                  have := mul_abs (b := ((km 0 : Nat) : Int)) (y := 15) hp (by omega)
                  rw [ebs0]; exact mul_toInt hlst (nI_toInt (by omega)) (by omega)
                refine g_put (r := 0) (fs' := mFs ad (va_up (va_up (va_up f 34 (nI (km 0 + km 1))) 18 (nI 30001)) 19 bs0)) fx lpX12_276 (by omega) h0 rfl rfl (Nat.le_of_ble_eq_true rfl) rfl dX12_labels_167 (fun cu3 ecu3 => ?_)
                have hfr : ∀ r, r ≠ 0 → r ≠ 1 → r ≠ 2 → r ≠ 3 → r ≠ 4 → r ≠ 9 → r ≠ 10 → r ≠ 11 → r ≠ 21 → r ≠ 22 → r ≠ 23 → r ≠ 24 → cu3 r = ct r := fun r _ _ _ _ _ _ _ _ _ _ _ _ => (congrFun ecu3 r).trans ((va_up_ne _ _ (by assumption)).trans (hfr r (by assumption) (by assumption) (by assumption) (by assumption) (by assumption) (by assumption) (by assumption) (by assumption) (by assumption) (by assumption) (by assumption) (by assumption)))
                have h0 : cu3 0 = mObj ad (va_up (va_up (va_up f 34 (nI (km 0 + km 1))) 18 (nI 30001)) 19 bs0) := by rw [ecu3, va_up_self]
                have hq : cu3 1 = .inl (B.2.1 0, 40, .inl (nF gq)) := (congrFun ecu3 _).trans ((va_up_ne _ _ (by omega)).trans hq)
                have hlf : cu3 2 = .inl (B.2.1 0, 40, .inl (nF gl)) := (congrFun ecu3 _).trans ((va_up_ne _ _ (by omega)).trans hlf)
                have ho : cu3 3 = .inl (B.2.1 0, 40, .inl (nF go)) := (congrFun ecu3 _).trans ((va_up_ne _ _ (by omega)).trans ho)
                have ht : cu3 4 = .inl (B.2.1 0, 40, .inl (nF gt)) := (congrFun ecu3 _).trans ((va_up_ne _ _ (by omega)).trans ht)
                have hs : cu3 6 = .inl (B.2.1 0, 30, .inl fs) := (congrFun ecu3 _).trans ((va_up_ne _ _ (by omega)).trans hs)
                have hm : cu3 7 = .inl (B.2.1 0, 2, .inl (nF km)) := (congrFun ecu3 _).trans ((va_up_ne _ _ (by omega)).trans hm)
                have hu : cu3 9 = .inl (B.2.1 0, 160, .inl (nF gu)) := (congrFun ecu3 _).trans ((va_up_ne _ _ (by omega)).trans hu)
                have hw : cu3 10 = .inl (B.2.1 0, 160, .inl (nF gw)) := (congrFun ecu3 _).trans ((va_up_ne _ _ (by omega)).trans hw)
                have hb : cu3 11 = .inl (B.2.1 1, 60001, .inr (.inl (lF gb))) := (congrFun ecu3 _).trans ((va_up_ne _ _ (by omega)).trans hb)
                have hwh : cu3 21 = .inl (B.2.1 0, 40, .inl (nF wh)) := (congrFun ecu3 _).trans ((va_up_ne _ _ (by omega)).trans hwh)
                have hnb : cu3 22 = .inl (B.2.1 0, 30, .inl fn1) := (congrFun ecu3 _).trans ((va_up_ne _ _ (by omega)).trans hnb)
                have hsr : cu3 23 = .inl (B.2.1 0, 30, .inl sc2) := (congrFun ecu3 _).trans ((va_up_ne _ _ (by omega)).trans hsr)
                have hwy : cu3 24 = .inl (B.2.1 1, 480016, .inr (.inl (lF g3))) := (congrFun ecu3 _).trans ((va_up_ne _ _ (by omega)).trans hwy)
                refine g_iconst (v := nI 0) fx dX12_labels_170 (by decide +kernel) ?_
                refine g_istore (L' := [(7, .int (nI 0)), (0, .ref (ad 0)), (1, .int (nI w)), (2, .int (nI (km 0 + km 1))), (3, .int (nI (km 0))), (4, .int lst), (5, .int tot), (6, .int own)]) fx dX12_labels_171 (by decide) rfl ?_
                have LP173 : ∀ (M : Nat) (s : Nat) (ct4 : Nat → va_E) (gb1 : Nat → Nat), (s ≤ 30001) → (∀ j, j < s → gb1 j = wN (lbN w fs (km 0) (km 1)) (km 0 + km 1) (km 0) j) → (ct4 0 = mObj ad (va_up (va_up (va_up f 34 (nI (km 0 + km 1))) 18 (nI 30001)) 19 bs0)) → (ct4 1 = .inl (B.2.1 0, 40, .inl (nF gq))) → (ct4 2 = .inl (B.2.1 0, 40, .inl (nF gl))) → (ct4 3 = .inl (B.2.1 0, 40, .inl (nF go))) → (ct4 4 = .inl (B.2.1 0, 40, .inl (nF gt))) → (ct4 6 = .inl (B.2.1 0, 30, .inl fs)) → (ct4 7 = .inl (B.2.1 0, 2, .inl (nF km))) → (ct4 9 = .inl (B.2.1 0, 160, .inl (nF gu))) → (ct4 10 = .inl (B.2.1 0, 160, .inl (nF gw))) → (ct4 11 = .inl (B.2.1 1, 60001, .inr (.inl (lF gb1)))) → (ct4 21 = .inl (B.2.1 0, 40, .inl (nF wh))) → (ct4 22 = .inl (B.2.1 0, 30, .inl fn1)) → (ct4 23 = .inl (B.2.1 0, 30, .inl sc2)) → (ct4 24 = .inl (B.2.1 1, 480016, .inr (.inl (lF g3)))) → (∀ r, r ≠ 0 → r ≠ 1 → r ≠ 2 → r ≠ 3 → r ≠ 4 → r ≠ 9 → r ≠ 10 → r ≠ 11 → r ≠ 21 → r ≠ 22 → r ≠ 23 → r ≠ 24 → ct4 r = ct r) →  (30001 - s) < M → G B 9 E ad ct4 n 0 0 [(0, .ref (ad 0)), (1, .int (nI w)), (2, .int (nI (km 0 + km 1))), (3, .int (nI (km 0))), (5, .int tot), (6, .int own), (7, .int (nI s))] 173 [] := by
                  intro M
                  induction M with
                  | zero => intro s ct4 gb1 _ _ _ _ _ _ _ _ _ _ _ _ _ _ _ _ _ hM; exact absurd hM (Nat.not_lt_zero _)
                  | succ M ih =>
                    intro s ct4 gb1 hsk hgb1 h0 hq hlf ho ht hs hm hu hw hb hwh hnb hsr hwy hfr hM
                    have ih173 := ih
                    refine g_iload fx 6 dX12_labels_173 rfl ?_
                    refine g_aload_n fx 0 dX12_labels_175 rfl ?_
                    refine g_get (r := 0) fx lkX12_273 (by omega) h0 rfl dX12_labels_176 ?_
                    refine g_isi (y := nI 30001) ((va_up_ne _ _ (by decide)).trans (va_up_self _ _ _)) ?_
                    refine g_icmp_ge fx 208 dX12_labels_179 (by decide) (fun c179 => ?_) (fun c179 => ?_)
                    · skip
                      have hse : s = 30001 := by have := (nI_leI (by decide) (by omega)).mp c179; omega
                      rw [hse] at hgb1
                      refine g_aload_n fx 0 dX12_labels_208 rfl ?_
                      refine g_iconst (v := nI 1) fx dX12_labels_209 (by decide +kernel) ?_
                      refine g_iload_n fx 1 dX12_labels_210 rfl ?_
                      refine g_iaddN fx dX12_labels_211 ?_
                      refine g_put (r := 0) (fs' := mFs ad (va_up (va_up (va_up (va_up f 34 (nI (km 0 + km 1))) 18 (nI 30001)) 19 bs0) 12 (nI (1 + w)))) fx lpX12_34 (by omega) h0 rfl rfl (Nat.le_of_ble_eq_true rfl) rfl dX12_labels_212 (fun cu4 ecu4 => ?_)
                      have hfr : ∀ r, r ≠ 0 → r ≠ 1 → r ≠ 2 → r ≠ 3 → r ≠ 4 → r ≠ 9 → r ≠ 10 → r ≠ 11 → r ≠ 21 → r ≠ 22 → r ≠ 23 → r ≠ 24 → cu4 r = ct r := fun r _ _ _ _ _ _ _ _ _ _ _ _ => (congrFun ecu4 r).trans ((va_up_ne _ _ (by assumption)).trans (hfr r (by assumption) (by assumption) (by assumption) (by assumption) (by assumption) (by assumption) (by assumption) (by assumption) (by assumption) (by assumption) (by assumption) (by assumption)))
                      have h0 : cu4 0 = mObj ad (va_up (va_up (va_up (va_up f 34 (nI (km 0 + km 1))) 18 (nI 30001)) 19 bs0) 12 (nI (1 + w))) := by rw [ecu4, va_up_self]
                      have hq : cu4 1 = .inl (B.2.1 0, 40, .inl (nF gq)) := (congrFun ecu4 _).trans ((va_up_ne _ _ (by omega)).trans hq)
                      have hlf : cu4 2 = .inl (B.2.1 0, 40, .inl (nF gl)) := (congrFun ecu4 _).trans ((va_up_ne _ _ (by omega)).trans hlf)
                      have ho : cu4 3 = .inl (B.2.1 0, 40, .inl (nF go)) := (congrFun ecu4 _).trans ((va_up_ne _ _ (by omega)).trans ho)
                      have ht : cu4 4 = .inl (B.2.1 0, 40, .inl (nF gt)) := (congrFun ecu4 _).trans ((va_up_ne _ _ (by omega)).trans ht)
                      have hs : cu4 6 = .inl (B.2.1 0, 30, .inl fs) := (congrFun ecu4 _).trans ((va_up_ne _ _ (by omega)).trans hs)
                      have hm : cu4 7 = .inl (B.2.1 0, 2, .inl (nF km)) := (congrFun ecu4 _).trans ((va_up_ne _ _ (by omega)).trans hm)
                      have hu : cu4 9 = .inl (B.2.1 0, 160, .inl (nF gu)) := (congrFun ecu4 _).trans ((va_up_ne _ _ (by omega)).trans hu)
                      have hw : cu4 10 = .inl (B.2.1 0, 160, .inl (nF gw)) := (congrFun ecu4 _).trans ((va_up_ne _ _ (by omega)).trans hw)
                      have hb : cu4 11 = .inl (B.2.1 1, 60001, .inr (.inl (lF gb1))) := (congrFun ecu4 _).trans ((va_up_ne _ _ (by omega)).trans hb)
                      have hwh : cu4 21 = .inl (B.2.1 0, 40, .inl (nF wh)) := (congrFun ecu4 _).trans ((va_up_ne _ _ (by omega)).trans hwh)
                      have hnb : cu4 22 = .inl (B.2.1 0, 30, .inl fn1) := (congrFun ecu4 _).trans ((va_up_ne _ _ (by omega)).trans hnb)
                      have hsr : cu4 23 = .inl (B.2.1 0, 30, .inl sc2) := (congrFun ecu4 _).trans ((va_up_ne _ _ (by omega)).trans hsr)
                      have hwy : cu4 24 = .inl (B.2.1 1, 480016, .inr (.inl (lF g3))) := (congrFun ecu4 _).trans ((va_up_ne _ _ (by omega)).trans hwy)
                      refine g_aload_n fx 0 dX12_labels_215 rfl ?_
                      refine g_iload fx 5 dX12_labels_216 rfl ?_
                      refine g_put (r := 0) (fs' := mFs ad (va_up (va_up (va_up (va_up (va_up f 34 (nI (km 0 + km 1))) 18 (nI 30001)) 19 bs0) 12 (nI (1 + w))) 13 own)) fx lpX12_237 (by omega) h0 rfl rfl (Nat.le_of_ble_eq_true rfl) rfl dX12_labels_218 (fun cu5 ecu5 => ?_)
                      have hfr : ∀ r, r ≠ 0 → r ≠ 1 → r ≠ 2 → r ≠ 3 → r ≠ 4 → r ≠ 9 → r ≠ 10 → r ≠ 11 → r ≠ 21 → r ≠ 22 → r ≠ 23 → r ≠ 24 → cu5 r = ct r := fun r _ _ _ _ _ _ _ _ _ _ _ _ => (congrFun ecu5 r).trans ((va_up_ne _ _ (by assumption)).trans (hfr r (by assumption) (by assumption) (by assumption) (by assumption) (by assumption) (by assumption) (by assumption) (by assumption) (by assumption) (by assumption) (by assumption) (by assumption)))
                      have h0 : cu5 0 = mObj ad (va_up (va_up (va_up (va_up (va_up f 34 (nI (km 0 + km 1))) 18 (nI 30001)) 19 bs0) 12 (nI (1 + w))) 13 own) := by rw [ecu5, va_up_self]
                      have hq : cu5 1 = .inl (B.2.1 0, 40, .inl (nF gq)) := (congrFun ecu5 _).trans ((va_up_ne _ _ (by omega)).trans hq)
                      have hlf : cu5 2 = .inl (B.2.1 0, 40, .inl (nF gl)) := (congrFun ecu5 _).trans ((va_up_ne _ _ (by omega)).trans hlf)
                      have ho : cu5 3 = .inl (B.2.1 0, 40, .inl (nF go)) := (congrFun ecu5 _).trans ((va_up_ne _ _ (by omega)).trans ho)
                      have ht : cu5 4 = .inl (B.2.1 0, 40, .inl (nF gt)) := (congrFun ecu5 _).trans ((va_up_ne _ _ (by omega)).trans ht)
                      have hs : cu5 6 = .inl (B.2.1 0, 30, .inl fs) := (congrFun ecu5 _).trans ((va_up_ne _ _ (by omega)).trans hs)
                      have hm : cu5 7 = .inl (B.2.1 0, 2, .inl (nF km)) := (congrFun ecu5 _).trans ((va_up_ne _ _ (by omega)).trans hm)
                      have hu : cu5 9 = .inl (B.2.1 0, 160, .inl (nF gu)) := (congrFun ecu5 _).trans ((va_up_ne _ _ (by omega)).trans hu)
                      have hw : cu5 10 = .inl (B.2.1 0, 160, .inl (nF gw)) := (congrFun ecu5 _).trans ((va_up_ne _ _ (by omega)).trans hw)
                      have hb : cu5 11 = .inl (B.2.1 1, 60001, .inr (.inl (lF gb1))) := (congrFun ecu5 _).trans ((va_up_ne _ _ (by omega)).trans hb)
                      have hwh : cu5 21 = .inl (B.2.1 0, 40, .inl (nF wh)) := (congrFun ecu5 _).trans ((va_up_ne _ _ (by omega)).trans hwh)
                      have hnb : cu5 22 = .inl (B.2.1 0, 30, .inl fn1) := (congrFun ecu5 _).trans ((va_up_ne _ _ (by omega)).trans hnb)
                      have hsr : cu5 23 = .inl (B.2.1 0, 30, .inl sc2) := (congrFun ecu5 _).trans ((va_up_ne _ _ (by omega)).trans hsr)
                      have hwy : cu5 24 = .inl (B.2.1 1, 480016, .inr (.inl (lF g3))) := (congrFun ecu5 _).trans ((va_up_ne _ _ (by omega)).trans hwy)
                      refine g_aload_n fx 0 dX12_labels_221 rfl ?_
                      refine g_iload_n fx 2 dX12_labels_222 rfl ?_
                      refine g_put (r := 0) (fs' := mFs ad (va_up (va_up (va_up (va_up (va_up (va_up f 34 (nI (km 0 + km 1))) 18 (nI 30001)) 19 bs0) 12 (nI (1 + w))) 13 own) 14 (nI (km 0 + km 1)))) fx lpX12_240 (by omega) h0 rfl rfl (Nat.le_of_ble_eq_true rfl) rfl dX12_labels_223 (fun cu6 ecu6 => ?_)
                      have hfr : ∀ r, r ≠ 0 → r ≠ 1 → r ≠ 2 → r ≠ 3 → r ≠ 4 → r ≠ 9 → r ≠ 10 → r ≠ 11 → r ≠ 21 → r ≠ 22 → r ≠ 23 → r ≠ 24 → cu6 r = ct r := fun r _ _ _ _ _ _ _ _ _ _ _ _ => (congrFun ecu6 r).trans ((va_up_ne _ _ (by assumption)).trans (hfr r (by assumption) (by assumption) (by assumption) (by assumption) (by assumption) (by assumption) (by assumption) (by assumption) (by assumption) (by assumption) (by assumption) (by assumption)))
                      have h0 : cu6 0 = mObj ad (va_up (va_up (va_up (va_up (va_up (va_up f 34 (nI (km 0 + km 1))) 18 (nI 30001)) 19 bs0) 12 (nI (1 + w))) 13 own) 14 (nI (km 0 + km 1))) := by rw [ecu6, va_up_self]
                      have hq : cu6 1 = .inl (B.2.1 0, 40, .inl (nF gq)) := (congrFun ecu6 _).trans ((va_up_ne _ _ (by omega)).trans hq)
                      have hlf : cu6 2 = .inl (B.2.1 0, 40, .inl (nF gl)) := (congrFun ecu6 _).trans ((va_up_ne _ _ (by omega)).trans hlf)
                      have ho : cu6 3 = .inl (B.2.1 0, 40, .inl (nF go)) := (congrFun ecu6 _).trans ((va_up_ne _ _ (by omega)).trans ho)
                      have ht : cu6 4 = .inl (B.2.1 0, 40, .inl (nF gt)) := (congrFun ecu6 _).trans ((va_up_ne _ _ (by omega)).trans ht)
                      have hs : cu6 6 = .inl (B.2.1 0, 30, .inl fs) := (congrFun ecu6 _).trans ((va_up_ne _ _ (by omega)).trans hs)
                      have hm : cu6 7 = .inl (B.2.1 0, 2, .inl (nF km)) := (congrFun ecu6 _).trans ((va_up_ne _ _ (by omega)).trans hm)
                      have hu : cu6 9 = .inl (B.2.1 0, 160, .inl (nF gu)) := (congrFun ecu6 _).trans ((va_up_ne _ _ (by omega)).trans hu)
                      have hw : cu6 10 = .inl (B.2.1 0, 160, .inl (nF gw)) := (congrFun ecu6 _).trans ((va_up_ne _ _ (by omega)).trans hw)
                      have hb : cu6 11 = .inl (B.2.1 1, 60001, .inr (.inl (lF gb1))) := (congrFun ecu6 _).trans ((va_up_ne _ _ (by omega)).trans hb)
                      have hwh : cu6 21 = .inl (B.2.1 0, 40, .inl (nF wh)) := (congrFun ecu6 _).trans ((va_up_ne _ _ (by omega)).trans hwh)
                      have hnb : cu6 22 = .inl (B.2.1 0, 30, .inl fn1) := (congrFun ecu6 _).trans ((va_up_ne _ _ (by omega)).trans hnb)
                      have hsr : cu6 23 = .inl (B.2.1 0, 30, .inl sc2) := (congrFun ecu6 _).trans ((va_up_ne _ _ (by omega)).trans hsr)
                      have hwy : cu6 24 = .inl (B.2.1 1, 480016, .inr (.inl (lF g3))) := (congrFun ecu6 _).trans ((va_up_ne _ _ (by omega)).trans hwy)
                      refine g_aload_n fx 0 dX12_labels_226 rfl ?_
                      refine g_iload_n fx 2 dX12_labels_227 rfl ?_
                      refine g_iload_n fx 3 dX12_labels_228 rfl ?_
                      refine g_iload fx 4 dX12_labels_229 rfl ?_
                      refine g_imul fx dX12_labels_231 ?_
                      have hmidp : (nI (km 0) * tot).toInt = (((km 0 : Nat) : Int) * sumI (lbV w fs (km 0) (km 1)) (km 0 + km 1)) := by
                        have h1 := sumI_bd (V := (lbV w fs (km 0) (km 1))) (b := 1000) (km 0 + km 1) (fun i hi => (hbd i hi).1)
                        have := mul_abs (a := ((km 0 : Nat) : Int)) (x := 15) (y := 30000) (b := sumI (lbV w fs (km 0) (km 1)) (km 0 + km 1)) (by omega) (by omega)
                        exact mul_toInt (nI_toInt (by omega)) htot (by omega)
                      have hsgb : sumF gb1 30001 = sumF (fun s => wN (lbN w fs (km 0) (km 1)) (km 0 + km 1) (km 0) s) 30001 := sumF_congr _ hgb1
                      have hstb := sumI_bd (V := (lbV w fs (km 0) (km 1))) (b := 1000) (km 0) (fun i hi => (hbd i (by omega)).1)
                      refine g_callVv (As := [.int (nI (km 0 + km 1)), .int ((nI (km 0)) * tot)]) (rest := []) fx slX12_279 (c_X12_findChances B ad cu6 n (va_up (va_up (va_up (va_up (va_up (va_up f 34 (nI (km 0 + km 1))) 18 (nI 30001)) 19 bs0) 12 (nI (1 + w))) 13 own) 14 (nI (km 0 + km 1))) gq gl go gt gu gw gb1 wh hn h0 hq hlf ho ht hu hw hb hwh 30001 rfl (by decide) (((km 0 + km 1) : Nat) : Int) (((km 0 : Nat) : Int) * sumI (lbV w fs (km 0) (km 1)) (km 0 + km 1)) (sumI (lbV w fs (km 0) (km 1)) (km 0)) (lbL w * ((km 0 : Nat) : Int)) _ _ hown hbs0 (nI_toInt (by omega)) hmidp (by omega) (by have := mul_abs (a := lbL w) (b := ((km 0 : Nat) : Int)) (x := 1000) (y := 15) (by unfold lbL; split <;> omega) (by omega); omega) (by omega) (by have h1 := sumI_bd (V := (lbV w fs (km 0) (km 1))) (b := 1000) (km 0 + km 1) (fun i hi => (hbd i hi).1); have := mul_abs (a := ((km 0 : Nat) : Int)) (x := 15) (y := 30000) (b := sumI (lbV w fs (km 0) (km 1)) (km 0 + km 1)) (by omega) (by omega); omega) (by rw [hsgb]; exact wN_some (by omega) (fun j hj => by unfold lbN; have := hbd j hj; omega) (by omega)) (by rw [hsgb]; exact Nat.lt_of_le_of_lt (sumF_le (b := 2 ^ 31) _ (fun i _ => Nat.le_of_lt (wN_lt (by omega)))) (by decide))) (by omega) h0 rfl rfl rfl (Nat.le_of_ble_eq_true rfl) ⟨by decide, by decide⟩ ⟨by decide, by decide⟩ dX12_labels_232 (fun ct5 hz5 => ?_)
                      obtain ⟨gq9, gl9, go9, gt9, gu9, gw9, wh9, hq, hlf, ho, ht, hu, hw, hwh, hfin, hs5⟩ := hz5
                      have h0 : ct5 0 = mObj ad (va_up (va_up (va_up (va_up (va_up (va_up f 34 (nI (km 0 + km 1))) 18 (nI 30001)) 19 bs0) 12 (nI (1 + w))) 13 own) 14 (nI (km 0 + km 1))) := (hs5 0 (by decide) (by decide) (by decide) (by decide) (by decide) (by decide) (by decide)).trans h0
                      have hs : ct5 6 = .inl (B.2.1 0, 30, .inl fs) := (hs5 6 (by decide) (by decide) (by decide) (by decide) (by decide) (by decide) (by decide)).trans hs
                      have hm : ct5 7 = .inl (B.2.1 0, 2, .inl (nF km)) := (hs5 7 (by decide) (by decide) (by decide) (by decide) (by decide) (by decide) (by decide)).trans hm
                      have hb : ct5 11 = .inl (B.2.1 1, 60001, .inr (.inl (lF gb1))) := (hs5 11 (by decide) (by decide) (by decide) (by decide) (by decide) (by decide) (by decide)).trans hb
                      have hnb : ct5 22 = .inl (B.2.1 0, 30, .inl fn1) := (hs5 22 (by decide) (by decide) (by decide) (by decide) (by decide) (by decide) (by decide)).trans hnb
                      have hsr : ct5 23 = .inl (B.2.1 0, 30, .inl sc2) := (hs5 23 (by decide) (by decide) (by decide) (by decide) (by decide) (by decide) (by decide)).trans hsr
                      have hwy : ct5 24 = .inl (B.2.1 1, 480016, .inr (.inl (lF g3))) := (hs5 24 (by decide) (by decide) (by decide) (by decide) (by decide) (by decide) (by decide)).trans hwy
                      have hfr : ∀ r, r ≠ 0 → r ≠ 1 → r ≠ 2 → r ≠ 3 → r ≠ 4 → r ≠ 9 → r ≠ 10 → r ≠ 11 → r ≠ 21 → r ≠ 22 → r ≠ 23 → r ≠ 24 → ct5 r = ct r := fun r q0 q1 q2 q3 q4 q9 q10 q11 q21 q22 q23 q24 => (hs5 r q1 q2 q3 q4 q9 q10 q21).trans (hfr r q0 q1 q2 q3 q4 q9 q10 q11 q21 q22 q23 q24)
                      refine g_iload fx 5 dX12_labels_235 rfl ?_
                      refine g_iret fx rt dX12_labels_237 ?_
                      refine gPi.mk (Or.inr (Or.inr ⟨hP, hp0, hp1, w, hwl, ext, hown, _, gq9, gl9, go9, gt9, gu9, gw9, gb1, wh9, fn1, sc2, g3, h0, hq, hlf, ho, ht, hu, hw, hb, hwh, hnb, hsr, hwy, rfl, rfl, rfl, rfl, hbs0, fun k p1 p2 p3 p4 p5 p6 => ?_, hgb1, hfin, hfr⟩))
                      rw [va_up_ne _ _ p3, va_up_ne _ _ p2, va_up_ne _ _ p1, va_up_ne _ _ p5, va_up_ne _ _ p4, va_up_ne _ _ p6]
                    · skip
                      have hlts : s < 30001 := (nI_ltI (by omega) (by decide)).mp (Int32.not_le.mp c179)
                      refine g_aload_n fx 0 dX12_labels_182 rfl ?_
                      refine g_get (r := 0) fx lkX12_45 (by omega) h0 rfl dX12_labels_183 ?_
                      refine g_iload fx 6 dX12_labels_186 rfl ?_
                      refine g_aload_n fx 0 dX12_labels_188 rfl ?_
                      refine g_get (r := 0) fx lkX12_88 (by omega) h0 rfl dX12_labels_189 ?_
                      refine g_sipush (v := nI 30001) fx dX12_labels_192 (by decide +kernel) ?_
                      refine g_iload_n fx 3 dX12_labels_195 rfl ?_
                      refine g_imulN fx dX12_labels_196 ?_
                      refine g_iload fx 6 dX12_labels_197 rfl ?_
                      refine g_iaddN fx dX12_labels_199 ?_
                      refine g_lald (r := 24) (j := ((30001 * (km 0)) + s)) fx (by omega) hwy (nI_toInt (by omega)) (by omega) dX12_labels_200 ?_
                      refine g_isl (y := lN (g3 ((30001 * (km 0)) + s))) rfl ?_
                      refine g_last (r := 11) (j := s) fx (by omega) hb (nI_toInt (by omega)) (by omega) dX12_labels_201 (fun cu7 ecu7 => ?_)
                      have hfr : ∀ r, r ≠ 0 → r ≠ 1 → r ≠ 2 → r ≠ 3 → r ≠ 4 → r ≠ 9 → r ≠ 10 → r ≠ 11 → r ≠ 21 → r ≠ 22 → r ≠ 23 → r ≠ 24 → cu7 r = ct r := fun r _ _ _ _ _ _ _ _ _ _ _ _ => (congrFun ecu7 r).trans ((va_up_ne _ _ (by assumption)).trans (hfr r (by assumption) (by assumption) (by assumption) (by assumption) (by assumption) (by assumption) (by assumption) (by assumption) (by assumption) (by assumption) (by assumption) (by assumption)))
                      have h0 : cu7 0 = mObj ad (va_up (va_up (va_up f 34 (nI (km 0 + km 1))) 18 (nI 30001)) 19 bs0) := (congrFun ecu7 _).trans ((va_up_ne _ _ (by omega)).trans h0)
                      have hq : cu7 1 = .inl (B.2.1 0, 40, .inl (nF gq)) := (congrFun ecu7 _).trans ((va_up_ne _ _ (by omega)).trans hq)
                      have hlf : cu7 2 = .inl (B.2.1 0, 40, .inl (nF gl)) := (congrFun ecu7 _).trans ((va_up_ne _ _ (by omega)).trans hlf)
                      have ho : cu7 3 = .inl (B.2.1 0, 40, .inl (nF go)) := (congrFun ecu7 _).trans ((va_up_ne _ _ (by omega)).trans ho)
                      have ht : cu7 4 = .inl (B.2.1 0, 40, .inl (nF gt)) := (congrFun ecu7 _).trans ((va_up_ne _ _ (by omega)).trans ht)
                      have hs : cu7 6 = .inl (B.2.1 0, 30, .inl fs) := (congrFun ecu7 _).trans ((va_up_ne _ _ (by omega)).trans hs)
                      have hm : cu7 7 = .inl (B.2.1 0, 2, .inl (nF km)) := (congrFun ecu7 _).trans ((va_up_ne _ _ (by omega)).trans hm)
                      have hu : cu7 9 = .inl (B.2.1 0, 160, .inl (nF gu)) := (congrFun ecu7 _).trans ((va_up_ne _ _ (by omega)).trans hu)
                      have hw : cu7 10 = .inl (B.2.1 0, 160, .inl (nF gw)) := (congrFun ecu7 _).trans ((va_up_ne _ _ (by omega)).trans hw)
                      have hb : cu7 11 = .inl (B.2.1 1, 60001, .inr (.inl (lF (va_up gb1 s (g3 ((30001 * (km 0)) + s)))))) := by rw [ecu7, va_up_self, lF_up]
                      have hwh : cu7 21 = .inl (B.2.1 0, 40, .inl (nF wh)) := (congrFun ecu7 _).trans ((va_up_ne _ _ (by omega)).trans hwh)
                      have hnb : cu7 22 = .inl (B.2.1 0, 30, .inl fn1) := (congrFun ecu7 _).trans ((va_up_ne _ _ (by omega)).trans hnb)
                      have hsr : cu7 23 = .inl (B.2.1 0, 30, .inl sc2) := (congrFun ecu7 _).trans ((va_up_ne _ _ (by omega)).trans hsr)
                      have hwy : cu7 24 = .inl (B.2.1 1, 480016, .inr (.inl (lF g3))) := (congrFun ecu7 _).trans ((va_up_ne _ _ (by omega)).trans hwy)
                      refine g_iinc (L' := [(7, .int (nI (s + 1))), (0, .ref (ad 0)), (1, .int (nI w)), (2, .int (nI (km 0 + km 1))), (3, .int (nI (km 0))), (5, .int tot), (6, .int own)]) fx (nI (s + 1)) 6 dX12_labels_202 rfl (gInc _) (by decide) rfl ?_
                      refine g_goto fx 173 dX12_labels_205 (by decide) ?_
                      refine g_locals (L' := [(0, .ref (ad 0)), (1, .int (nI w)), (2, .int (nI (km 0 + km 1))), (3, .int (nI (km 0))), (5, .int tot), (6, .int own), (7, .int (nI (s + 1)))]) [1, 2, 3, 4, 5, 6, 0] rfl ?_
                      exact ih173 (s + 1) _ _ hlts (fun j hj => by by_cases q : j = s; (rw [q, va_up_self]; exact hg3 _ _ (Nat.le_refl _) (by omega)); (rw [va_up_ne _ _ q]; exact hgb1 j (by omega))) h0 hq hlf ho ht hs hm hu hw hb hwh hnb hsr hwy hfr (by omega)
                refine g_locals (L' := [(0, .ref (ad 0)), (1, .int (nI w)), (2, .int (nI (km 0 + km 1))), (3, .int (nI (km 0))), (5, .int tot), (6, .int own), (7, .int (nI 0))]) [1, 2, 3, 4, 6, 7, 0] rfl ?_
                exact LP173 30002 0 _ gb (by omega) (fun j hj => absurd hj (by omega)) h0 hq hlf ho ht hs hm hu hw hb hwh hnb hsr hwy hfr (by decide)
              · skip
                have hlt : k < (km 0 + km 1) := (nI_ltI (by omega) (by omega)).mp (Int32.not_le.mp c77)
                have hsm : fn1 k = smp fs (km 0) k := by unfold smp; by_cases q : k < km 0; (rw [if_pos q]; exact ha1 k q); (rw [if_neg q, ← hb1 _ (show k - km 0 < km 1 by omega), show km 0 + (k - km 0) = k by omega])
                have J105 : ∀ (v : Int32), (v.toInt = (lbV w fs (km 0) (km 1)) k) → G B 9 E ad ct2 n 0 0 [(0, .ref (ad 0)), (1, .int (nI w)), (2, .int (nI (km 0 + km 1))), (3, .int (nI (km 0))), (4, .int lst), (5, .int tot), (6, .int own), (7, .int (nI k))] 105 [.int v] := by
                  intro v hv
                  refine g_istore (L' := [(8, .int v), (0, .ref (ad 0)), (1, .int (nI w)), (2, .int (nI (km 0 + km 1))), (3, .int (nI (km 0))), (4, .int lst), (5, .int tot), (6, .int own), (7, .int (nI k))]) fx dX12_labels_105 (by decide) rfl ?_
                  refine g_aload_n fx 1 dX12_labels_107 rfl ?_
                  refine g_get (r := 0) fx lkX12_84 (by omega) h0 rfl dX12_labels_108 ?_
                  refine g_iload fx 8 dX12_labels_111 rfl ?_
                  refine g_iload fx 0 dX12_labels_113 rfl ?_
                  refine g_iload fx 5 dX12_labels_115 rfl ?_
                  refine g_isub fx dX12_labels_117 ?_
                  refine g_isi (y := nI ((lbN w fs (km 0) (km 1)) k)) (nI_ofT (by rw [sub_toInt hv hlst (by have := hbd k hlt; omega)]; unfold lbN; have := hbd k hlt; omega) (by unfold lbN; have := hbd k hlt; omega)) ?_
                  refine g_iast (r := 23) (j := k) fx (by omega) hsr (nI_toInt (by omega)) (by omega) dX12_labels_118 (fun cu8 ecu8 => ?_)
                  have hfr : ∀ r, r ≠ 0 → r ≠ 1 → r ≠ 2 → r ≠ 3 → r ≠ 4 → r ≠ 9 → r ≠ 10 → r ≠ 11 → r ≠ 21 → r ≠ 22 → r ≠ 23 → r ≠ 24 → cu8 r = ct r := fun r _ _ _ _ _ _ _ _ _ _ _ _ => (congrFun ecu8 r).trans ((va_up_ne _ _ (by assumption)).trans (hfr r (by assumption) (by assumption) (by assumption) (by assumption) (by assumption) (by assumption) (by assumption) (by assumption) (by assumption) (by assumption) (by assumption) (by assumption)))
                  have h0 : cu8 0 = mObj ad (va_up f 34 (nI (km 0 + km 1))) := (congrFun ecu8 _).trans ((va_up_ne _ _ (by omega)).trans h0)
                  have hq : cu8 1 = .inl (B.2.1 0, 40, .inl (nF gq)) := (congrFun ecu8 _).trans ((va_up_ne _ _ (by omega)).trans hq)
                  have hlf : cu8 2 = .inl (B.2.1 0, 40, .inl (nF gl)) := (congrFun ecu8 _).trans ((va_up_ne _ _ (by omega)).trans hlf)
                  have ho : cu8 3 = .inl (B.2.1 0, 40, .inl (nF go)) := (congrFun ecu8 _).trans ((va_up_ne _ _ (by omega)).trans ho)
                  have ht : cu8 4 = .inl (B.2.1 0, 40, .inl (nF gt)) := (congrFun ecu8 _).trans ((va_up_ne _ _ (by omega)).trans ht)
                  have hs : cu8 6 = .inl (B.2.1 0, 30, .inl fs) := (congrFun ecu8 _).trans ((va_up_ne _ _ (by omega)).trans hs)
                  have hm : cu8 7 = .inl (B.2.1 0, 2, .inl (nF km)) := (congrFun ecu8 _).trans ((va_up_ne _ _ (by omega)).trans hm)
                  have hu : cu8 9 = .inl (B.2.1 0, 160, .inl (nF gu)) := (congrFun ecu8 _).trans ((va_up_ne _ _ (by omega)).trans hu)
                  have hw : cu8 10 = .inl (B.2.1 0, 160, .inl (nF gw)) := (congrFun ecu8 _).trans ((va_up_ne _ _ (by omega)).trans hw)
                  have hb : cu8 11 = .inl (B.2.1 1, 60001, .inr (.inl (lF gb))) := (congrFun ecu8 _).trans ((va_up_ne _ _ (by omega)).trans hb)
                  have hwh : cu8 21 = .inl (B.2.1 0, 40, .inl (nF wh)) := (congrFun ecu8 _).trans ((va_up_ne _ _ (by omega)).trans hwh)
                  have hnb : cu8 22 = .inl (B.2.1 0, 30, .inl fn1) := (congrFun ecu8 _).trans ((va_up_ne _ _ (by omega)).trans hnb)
                  have hsr : cu8 23 = .inl (B.2.1 0, 30, .inl (va_up sc2 k (nI ((lbN w fs (km 0) (km 1)) k)))) := by rw [ecu8, va_up_self]
                  have hwy : cu8 24 = .inl (B.2.1 1, 480016, .inr (.inl (lF gy))) := (congrFun ecu8 _).trans ((va_up_ne _ _ (by omega)).trans hwy)
                  refine g_iload fx 6 dX12_labels_119 rfl ?_
                  refine g_iload fx 0 dX12_labels_121 rfl ?_
                  refine g_iadd fx dX12_labels_123 ?_
                  refine g_topi (fun tot2 etot2 => ?_)
                  have htot2 : tot2.toInt = sumI (lbV w fs (km 0) (km 1)) (k + 1) := by rw [etot2]; exact add_toInt htot hv (by have := sumI_bd (V := (lbV w fs (km 0) (km 1))) (b := 1000) k (fun i hi => (hbd i (by omega)).1); have := (hbd k hlt).1; omega)
                  refine g_istore (L' := [(5, .int tot2), (8, .int v), (0, .ref (ad 0)), (1, .int (nI w)), (2, .int (nI (km 0 + km 1))), (3, .int (nI (km 0))), (4, .int lst), (6, .int own), (7, .int (nI k))]) fx dX12_labels_124 (by decide) rfl ?_
                  refine g_iload fx 7 dX12_labels_126 rfl ?_
                  refine g_iload fx 8 dX12_labels_128 rfl ?_
                  refine g_iload_n fx 5 dX12_labels_130 rfl ?_
                  refine g_icmp_ge fx 139 dX12_labels_131 (by decide) (fun c131 => ?_) (fun c131 => ?_)
                  · skip
                    have hka2 : km 0 ≤ k := (nI_leI (by omega) (by omega)).mp c131
                    refine g_iconst (v := nI 0) fx dX12_labels_139 (by decide +kernel) ?_
                    refine g_iadd fx dX12_labels_140 ?_
                    refine g_topi (fun own2 eown2 => ?_)
                    have hown2 : own2.toInt = sumI (lbV w fs (km 0) (km 1)) (min (k + 1) (km 0)) := by
                      rw [eown2, show nI 0 = 0 from rfl, Int32.add_zero, show min (k + 1) (km 0) = min k (km 0) by omega]; exact hown
                    refine g_istore (L' := [(6, .int own2), (5, .int tot2), (8, .int v), (0, .ref (ad 0)), (1, .int (nI w)), (2, .int (nI (km 0 + km 1))), (3, .int (nI (km 0))), (4, .int lst), (7, .int (nI k))]) fx dX12_labels_141 (by decide) rfl ?_
                    refine g_iinc (L' := [(7, .int (nI (k + 1))), (6, .int own2), (5, .int tot2), (8, .int v), (0, .ref (ad 0)), (1, .int (nI w)), (2, .int (nI (km 0 + km 1))), (3, .int (nI (km 0))), (4, .int lst)]) fx (nI (k + 1)) 8 dX12_labels_143 rfl (gInc _) (by decide) rfl ?_
                    refine g_goto fx 74 dX12_labels_146 (by decide) ?_
                    refine g_locals (L' := [(0, .ref (ad 0)), (1, .int (nI w)), (2, .int (nI (km 0 + km 1))), (3, .int (nI (km 0))), (4, .int lst), (5, .int tot2), (6, .int own2), (7, .int (nI (k + 1)))]) [4, 5, 6, 7, 8, 2, 1, 0] rfl ?_
                    exact ih74 (k + 1) tot2 own2 _ _ hlt htot2 hown2 (fun j hj => by by_cases q : j = k; (rw [q, va_up_self]); (rw [va_up_ne _ _ q]; exact hsc2 j (by omega))) h0 hq hlf ho ht hs hm hu hw hb hwh hnb hsr hwy hfr (by omega)
                  · skip
                    have hka2 : k < km 0 := (nI_ltI (by omega) (by omega)).mp (Int32.not_le.mp c131)
                    refine g_iload fx 1 dX12_labels_134 rfl ?_
                    refine g_goto fx 140 dX12_labels_136 (by decide) ?_
                    refine g_iadd fx dX12_labels_140 ?_
                    refine g_topi (fun own2 eown2 => ?_)
                    have hown2 : own2.toInt = sumI (lbV w fs (km 0) (km 1)) (min (k + 1) (km 0)) := by
                      rw [eown2, show min (k + 1) (km 0) = k + 1 by omega]
                      rw [show min k (km 0) = k by omega] at hown
                      exact add_toInt hown hv (by have := sumI_bd (V := (lbV w fs (km 0) (km 1))) (b := 1000) k (fun i hi => (hbd i (by omega)).1); have := (hbd k hlt).1; omega)
                    refine g_istore (L' := [(6, .int own2), (5, .int tot2), (8, .int v), (0, .ref (ad 0)), (1, .int (nI w)), (2, .int (nI (km 0 + km 1))), (3, .int (nI (km 0))), (4, .int lst), (7, .int (nI k))]) fx dX12_labels_141 (by decide) rfl ?_
                    refine g_iinc (L' := [(7, .int (nI (k + 1))), (6, .int own2), (5, .int tot2), (8, .int v), (0, .ref (ad 0)), (1, .int (nI w)), (2, .int (nI (km 0 + km 1))), (3, .int (nI (km 0))), (4, .int lst)]) fx (nI (k + 1)) 8 dX12_labels_143 rfl (gInc _) (by decide) rfl ?_
                    refine g_goto fx 74 dX12_labels_146 (by decide) ?_
                    refine g_locals (L' := [(0, .ref (ad 0)), (1, .int (nI w)), (2, .int (nI (km 0 + km 1))), (3, .int (nI (km 0))), (4, .int lst), (5, .int tot2), (6, .int own2), (7, .int (nI (k + 1)))]) [4, 5, 6, 7, 8, 2, 1, 0] rfl ?_
                    exact ih74 (k + 1) tot2 own2 _ _ hlt htot2 hown2 (fun j hj => by by_cases q : j = k; (rw [q, va_up_self]); (rw [va_up_ne _ _ q]; exact hsc2 j (by omega))) h0 hq hlf ho ht hs hm hu hw hb hwh hnb hsr hwy hfr (by omega)
                refine g_iload_n fx 1 dX12_labels_80 rfl ?_
                refine g_if_ne fx 94 dX12_labels_81 (by decide) (fun c81 => ?_) (fun c81 => ?_)
                · skip
                  refine g_aload_n fx 0 dX12_labels_94 rfl ?_
                  refine g_aload_n fx 0 dX12_labels_95 rfl ?_
                  refine g_get (r := 0) fx lkX12_81 (by omega) h0 rfl dX12_labels_96 ?_
                  refine g_iload fx 7 dX12_labels_99 rfl ?_
                  refine g_iald (r := 22) (j := k) fx (by omega) hnb (nI_toInt (by omega)) (by omega) dX12_labels_101 ?_
                  refine g_callVip (As := [.int (fn1 k)]) (rest := []) fx slX12_261 (c_X12_rankOf B ad ct2 n _ fn1 hn h0 hnb (km 0 + km 1) (va_up_self _ _ _) (by omega) (fn1 k)) (by omega) h0 rfl rfl rfl (Nat.le_of_ble_eq_true rfl) ⟨by decide, by decide⟩ ⟨by decide, by decide⟩ dX12_labels_102 (fun q2r hq2r => ?_)
                  have hq2 : q2r = nI (rkN fs (km 0) (fun i => fs (15 + i)) (km 1) (smp fs (km 0) k)) := by rw [hq2r, gCnt_cat (km 1) ha1 hb1, gCnt_cat (km 1) ha1 hb1, hsm]; rfl
                  refine g_locals (L' := [(0, .ref (ad 0)), (1, .int (nI w)), (2, .int (nI (km 0 + km 1))), (3, .int (nI (km 0))), (4, .int lst), (5, .int tot), (6, .int own), (7, .int (nI k))]) [0, 1, 2, 3, 4, 5, 6, 7] rfl ?_
                  exact J105 _ (by rw [hq2, nI_toInt (by have := rkN_le (fA := fs) (a := km 0) (fB := fun i => fs (15 + i)) (b := km 1) (v := smp fs (km 0) k); omega)]; exact (if_neg (fun q => c81 (by rw [q]; rfl))).symm)
                · skip
                  refine g_aload_n fx 0 dX12_labels_84 rfl ?_
                  refine g_get (r := 0) fx lkX12_81 (by omega) h0 rfl dX12_labels_85 ?_
                  refine g_iload fx 7 dX12_labels_88 rfl ?_
                  refine g_iald (r := 22) (j := k) fx (by omega) hnb (nI_toInt (by omega)) (by omega) dX12_labels_90 ?_
                  refine g_goto fx 105 dX12_labels_91 (by decide) ?_
                  refine g_locals (L' := [(0, .ref (ad 0)), (1, .int (nI w)), (2, .int (nI (km 0 + km 1))), (3, .int (nI (km 0))), (4, .int lst), (5, .int tot), (6, .int own), (7, .int (nI k))]) [0, 1, 2, 3, 4, 5, 6, 7] rfl ?_
                  exact J105 _ (by rw [hsm]; exact (if_pos ((nI_eq (by omega) (by omega)).mp (c81.trans (show (0 : Int32) = nI 0 by decide)))).symm)
          refine g_locals (L' := [(0, .ref (ad 0)), (1, .int (nI w)), (2, .int (nI (km 0 + km 1))), (3, .int (nI (km 0))), (4, .int lst), (5, .int (nI 0)), (6, .int (nI 0)), (7, .int (nI 0))]) [4, 5, 6, 7, 3, 2, 1, 0] rfl ?_
          exact LP74 ((km 0 + km 1) + 1) 0 (nI 0) (nI 0) ct1 sc (by omega) rfl (by rw [Nat.zero_min]; rfl) (fun j hj => absurd hj (by omega)) h0 hq hlf ho ht hs hm hu hw hb hwh hnb hsr hwy hfr (by omega)
        refine g_iload_n fx 3 dX12_labels_52 rfl ?_
        refine g_if_ne fx 62 dX12_labels_53 (by decide) (fun c53 => ?_) (fun c53 => ?_)
        · skip
          refine g_iconst (v := nI 0) fx dX12_labels_62 (by decide +kernel) ?_
          refine g_locals (L' := [(0, .ref (ad 0)), (1, .int (nI w)), (2, .int (nI (km 0 + km 1))), (3, .int (nI (km 0)))]) [2, 3, 1, 0] rfl ?_
          exact J63 _ (by rw [show lbL w = 0 from if_neg (fun q => c53 (by rw [q]; rfl))]; rfl)
        · skip
          refine g_sipush (v := (-1000)) fx dX12_labels_56 (by decide +kernel) ?_
          refine g_goto fx 63 dX12_labels_59 (by decide) ?_
          refine g_locals (L' := [(0, .ref (ad 0)), (1, .int (nI w)), (2, .int (nI (km 0 + km 1))), (3, .int (nI (km 0)))]) [2, 3, 1, 0] rfl ?_
          exact J63 _ (by rw [show lbL w = -1000 from if_pos ((nI_eq (by omega) (by omega)).mp (c53.trans (show (0 : Int32) = nI 0 by decide)))]; rfl)
      · skip
        have hzz : km 0 = 0 ∨ km 1 = 0 := Or.inr ((nI_eq (by omega) (by omega)).mp (c29.trans (show (0 : Int32) = nI 0 by decide)))
        refine g_ldcw fx kcX12_268 dX12_labels_32 ?_
        refine g_iret fx rt dX12_labels_35 ?_
        exact gPi.mk (Or.inr (Or.inl ⟨hP, hzz, rfl, rfl⟩))
  · skip
    have hA : ¬ ((0 : Int) ≤ x.toInt ∧ x.toInt ≤ 1) := if01_z.mp (hq1 ▸ c7)
    refine g_ldcw fx kcX12_267 dX12_labels_10 ?_
    refine g_iret fx rt dX12_labels_13 ?_
    exact gPi.mk (Or.inl ⟨hA, rfl, rfl⟩)
