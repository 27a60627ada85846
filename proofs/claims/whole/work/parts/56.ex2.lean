theorem get_nat {f : Nat → Int32} {k i : Nat} (hi : i < k) (hk : k < 2 ^ 31) : (if 0 ≤ (nI i).toInt ∧ (nI i).toInt < (k : Int) then f (nI i).toInt.toNat else 0) = f i := by
  rw [if_pos (inR hi hk), nI_toInt (by omega)]; rfl
theorem up_up {ct c1 c2 : Nat → va_E} {a b : Nat} {x y : va_E} (h1 : c1 = va_up ct a x) (h2 : c2 = va_up c1 b y) : c2 = va_up (va_up ct a x) b y := by rw [h2, h1]
set_option maxHeartbeats 4000000 in
set_option maxRecDepth 100000 in
theorem c_X11_rankOfSize (B : gB) (ad : Nat → Nat) (ct : Nat → va_E) (n : Nat) (hn : 178 ≤ n) (hx : ct 0 = .inr (11, [.ref (ad 1), .ref (ad 3), .ref (ad 5), .ref (ad 7), .ref (ad 9), .ref (ad 11), .ref (ad 79), .ref (ad 81), .ref (ad 88), .ref (ad 110), .ref (ad 115)])) (kD : Nat) (fD : Nat → Int32) (hD : ct 7 = .inr (5, [.ref (ad 8), .int (nI kD)])) (hDr : ct 8 = .inl (B.2.1 0, 30, .inl fD)) (hDk : kD ≤ 30) (v : Nat) (hv : v ≤ 2000) (hdb : ∀ j, j < kD → (fD j).toInt.natAbs ≤ 2000) : Ctr B yX11_rankOfSize cX11_rankOfSize 5 (some .int) 1 23 0 0 ad ct n [.ref (ad 0), .int (nI v)] (gPip ad ct n (fun r => r = if v = 0 then 0 else nI (rkZ fD kD (nI v)))) := by
  refine Ctr.ofG (L := [(0, .ref (ad 0)), (1, .int (nI v))]) (by decide +kernel) rfl (Nat.le_of_ble_eq_true rfl) (fun E fx rt hnm => ?_)
  refine g_iload_n fx 1 dX11_rankOfSize_0 rfl ?_
  refine g_if_ne fx 6 dX11_rankOfSize_1 (by decide) (fun c1 => ?_) (fun c1 => ?_)
  · skip
    have hv0 : 0 < v := Nat.pos_of_ne_zero (fun q => c1 (by rw [q]; rfl))
    have hin := cnt_in (f := fD) hv0 (by omega) kD hdb
    have heq := cnt_eq (f := fD) hv0 (by omega) kD hdb
    refine g_aload_n fx 0 dX11_rankOfSize_6 rfl ?_
    refine g_get (r := 0) fx lkX11_28 (by omega) hx rfl dX11_rankOfSize_7 ?_
    refine g_iload_n fx 1 dX11_rankOfSize_10 rfl ?_
    refine g_callVip (As := [.int (nI v)]) (rest := []) fx slX11_300 (c_X5_countBelow B ad ct n 7 30 kD fD (by omega) hDk (by decide) hD hDr (nI v)) (by omega) hD rfl rfl rfl (Nat.le_of_ble_eq_true rfl) ⟨by decide, by decide⟩ ⟨by decide, by decide⟩ dX11_rankOfSize_11 (fun q1 hq1 => ?_)
    obtain rfl := hq1
    refine g_aload_n fx 0 dX11_rankOfSize_14 rfl ?_
    refine g_get (r := 0) fx lkX11_28 (by omega) hx rfl dX11_rankOfSize_15 ?_
    refine g_iconst (v := nI 1) fx dX11_rankOfSize_18 (by decide +kernel) ?_
    refine g_iload_n fx 1 dX11_rankOfSize_19 rfl ?_
    refine g_isub fx dX11_rankOfSize_20 ?_
    refine g_callVip (As := [.int ((nI 1) - (nI v))]) (rest := [.int (nI (gCnt (fun x => decide (x < nI v)) fD kD))]) fx slX11_300 (c_X5_countBelow B ad ct n 7 30 kD fD (by omega) hDk (by decide) hD hDr (nI 1 - nI v)) (by omega) hD rfl rfl rfl (Nat.le_of_ble_eq_true rfl) ⟨by decide, by decide⟩ ⟨by decide, by decide⟩ dX11_rankOfSize_21 (fun q2 hq2 => ?_)
    obtain rfl := hq2
    refine g_isubN fx dX11_rankOfSize_24 (by omega) ?_
    refine g_istore_n (L' := [(2, .int (nI ((gCnt (fun x => decide (x < nI v)) fD kD) - (gCnt (fun x => decide (x < nI 1 - nI v)) fD kD)))), (0, .ref (ad 0)), (1, .int (nI v))]) fx dX11_rankOfSize_25 (by decide) rfl ?_
    refine g_iload_n fx 0 dX11_rankOfSize_26 rfl ?_
    refine g_aload_n fx 1 dX11_rankOfSize_27 rfl ?_
    refine g_get (r := 0) fx lkX11_28 (by omega) hx rfl dX11_rankOfSize_28 ?_
    refine g_iconst (v := nI 0) fx dX11_rankOfSize_31 (by decide +kernel) ?_
    refine g_callVip (As := [.int (nI 0)]) (rest := [.int (nI ((gCnt (fun x => decide (x < nI v)) fD kD) - (gCnt (fun x => decide (x < nI 1 - nI v)) fD kD)))]) fx slX11_183 (c_X5_countOf B ad ct n 7 30 kD fD (by omega) hDk (by decide) hD hDr (nI 0)) (by omega) hD rfl rfl rfl (Nat.le_of_ble_eq_true rfl) ⟨by decide, by decide⟩ ⟨by decide, by decide⟩ dX11_rankOfSize_32 (fun q3 hq3 => ?_)
    obtain rfl := hq3
    refine g_isubN fx dX11_rankOfSize_35 (by omega) ?_
    refine g_istore_n (L' := [(3, .int (nI (((gCnt (fun x => decide (x < nI v)) fD kD) - (gCnt (fun x => decide (x < nI 1 - nI v)) fD kD)) - (gCnt (fun x => decide (x = nI 0)) fD kD)))), (2, .int (nI ((gCnt (fun x => decide (x < nI v)) fD kD) - (gCnt (fun x => decide (x < nI 1 - nI v)) fD kD)))), (0, .ref (ad 0)), (1, .int (nI v))]) fx dX11_rankOfSize_36 (by decide) rfl ?_
    refine g_aload_n fx 2 dX11_rankOfSize_37 rfl ?_
    refine g_get (r := 0) fx lkX11_28 (by omega) hx rfl dX11_rankOfSize_38 ?_
    refine g_iload_n fx 3 dX11_rankOfSize_41 rfl ?_
    refine g_callVip (As := [.int (nI v)]) (rest := []) fx slX11_183 (c_X5_countOf B ad ct n 7 30 kD fD (by omega) hDk (by decide) hD hDr (nI v)) (by omega) hD rfl rfl rfl (Nat.le_of_ble_eq_true rfl) ⟨by decide, by decide⟩ ⟨by decide, by decide⟩ dX11_rankOfSize_42 (fun q4 hq4 => ?_)
    obtain rfl := hq4
    refine g_aload_n fx 2 dX11_rankOfSize_45 rfl ?_
    refine g_get (r := 0) fx lkX11_28 (by omega) hx rfl dX11_rankOfSize_46 ?_
    refine g_iload_n fx 3 dX11_rankOfSize_49 rfl ?_
    refine g_ineg fx dX11_rankOfSize_50 ?_
    refine g_callVip (As := [.int (-(nI v))]) (rest := [.int (nI (gCnt (fun x => decide (x = nI v)) fD kD))]) fx slX11_183 (c_X5_countOf B ad ct n 7 30 kD fD (by omega) hDk (by decide) hD hDr (-nI v)) (by omega) hD rfl rfl rfl (Nat.le_of_ble_eq_true rfl) ⟨by decide, by decide⟩ ⟨by decide, by decide⟩ dX11_rankOfSize_51 (fun q5 hq5 => ?_)
    obtain rfl := hq5
    refine g_iaddN fx dX11_rankOfSize_54 ?_
    refine g_istore (L' := [(4, .int (nI ((gCnt (fun x => decide (x = nI v)) fD kD) + (gCnt (fun x => decide (x = -nI v)) fD kD)))), (3, .int (nI (((gCnt (fun x => decide (x < nI v)) fD kD) - (gCnt (fun x => decide (x < nI 1 - nI v)) fD kD)) - (gCnt (fun x => decide (x = nI 0)) fD kD)))), (2, .int (nI ((gCnt (fun x => decide (x < nI v)) fD kD) - (gCnt (fun x => decide (x < nI 1 - nI v)) fD kD)))), (0, .ref (ad 0)), (1, .int (nI v))]) fx dX11_rankOfSize_55 (by decide) rfl ?_
    refine g_iload_n fx 1 dX11_rankOfSize_57 rfl ?_
    refine g_iload fx 0 dX11_rankOfSize_58 rfl ?_
    refine g_callSip (As := [.int (nI (((gCnt (fun x => decide (x < nI v)) fD kD) - (gCnt (fun x => decide (x < nI 1 - nI v)) fD kD)) - (gCnt (fun x => decide (x = nI 0)) fD kD))), .int (nI ((gCnt (fun x => decide (x = nI v)) fD kD) + (gCnt (fun x => decide (x = -nI v)) fD kD)))]) (rest := []) fx slX11_303 (c_X11_twiceMeanPlace B ad ct n (gCnt (fun x => decide (x < nI v)) fD kD - gCnt (fun x => decide (x < nI 1 - nI v)) fD kD - gCnt (fun x => decide (x = nI 0)) fD kD) (gCnt (fun x => decide (x = nI v)) fD kD + gCnt (fun x => decide (x = -nI v)) fD kD)) rfl rfl (Nat.le_of_ble_eq_true rfl) ⟨by decide, by decide⟩ ⟨by decide, by decide⟩ dX11_rankOfSize_60 (fun q6 hq6 => ?_)
    refine g_iret fx rt dX11_rankOfSize_63 ?_
    refine gPip.mk ?_
    rw [hq6, if_neg (by omega)]
    unfold rkZ
    congr 1
    omega
  · skip
    have hv0 : v = 0 := (nI_eq (by omega) (by omega)).mp (c1.trans (show (0 : Int32) = nI 0 by decide))
    refine g_iconst (v := nI 0) fx dX11_rankOfSize_4 (by decide +kernel) ?_
    refine g_iret fx rt dX11_rankOfSize_5 ?_
    refine gPip.mk ?_
    rw [if_pos hv0]; rfl
set_option maxHeartbeats 4000000 in
set_option maxRecDepth 100000 in
theorem c_X11_scoreOfSize (B : gB) (ad : Nat → Nat) (ct : Nat → va_E) (n : Nat) (hn : 178 ≤ n) (hx : ct 0 = .inr (11, [.ref (ad 1), .ref (ad 3), .ref (ad 5), .ref (ad 7), .ref (ad 9), .ref (ad 11), .ref (ad 79), .ref (ad 81), .ref (ad 88), .ref (ad 110), .ref (ad 115)])) (kD : Nat) (fD : Nat → Int32) (hD : ct 7 = .inr (5, [.ref (ad 8), .int (nI kD)])) (hDr : ct 8 = .inl (B.2.1 0, 30, .inl fD)) (hDk : kD ≤ 30) (v w : Nat) (hv : v ≤ 2000) (hv0 : 0 < v) (hw : w < 3) (hdb : ∀ j, j < kD → (fD j).toInt.natAbs ≤ 2000) : Ctr B yX11_scoreOfSize cX11_scoreOfSize 3 (some .int) 2 47 0 0 ad ct n [.ref (ad 0), .int (nI v), .int (nI w)] (gPip ad ct n (fun r => r = nI (if w = 0 then v else if w = 1 then rkZ fD kD (nI v) else 1))) := by
  refine Ctr.ofG (L := [(0, .ref (ad 0)), (1, .int (nI v)), (2, .int (nI w))]) (by decide +kernel) rfl (Nat.le_of_ble_eq_true rfl) (fun E fx rt hnm => ?_)
  refine g_iload_n fx 2 dX11_scoreOfSize_0 rfl ?_
  refine g_if_ne fx 6 dX11_scoreOfSize_1 (by decide) (fun c1 => ?_) (fun c1 => ?_)
  · skip
    have hw0 : ¬ w = 0 := fun q => c1 (by rw [q]; rfl)
    refine g_iload_n fx 2 dX11_scoreOfSize_6 rfl ?_
    refine g_iconst (v := nI 1) fx dX11_scoreOfSize_7 (by decide +kernel) ?_
    refine g_icmp_ne fx 19 dX11_scoreOfSize_8 (by decide) (fun c8 => ?_) (fun c8 => ?_)
    · skip
      have hw1 : ¬ w = 1 := fun q => c8 (by rw [q])
      refine g_iconst (v := nI 1) fx dX11_scoreOfSize_19 (by decide +kernel) ?_
      refine g_iret fx rt dX11_scoreOfSize_20 ?_
      refine gPip.mk ?_
      rw [if_neg hw0]
      first | (rw [if_neg hw1]; done) | (rw [if_pos hw1, hq1, if_neg (by omega)])
    · skip
      have hw1 : w = 1 := (nI_eq (by omega) (by omega)).mp c8
      refine g_aload_n fx 0 dX11_scoreOfSize_11 rfl ?_
      refine g_iload_n fx 1 dX11_scoreOfSize_12 rfl ?_
      refine g_callVip (As := [.int (nI v)]) (rest := []) fx slX11_206 (c_X11_rankOfSize B ad ct n hn hx kD fD hD hDr hDk v hv hdb) (by omega) hx rfl rfl rfl (Nat.le_of_ble_eq_true rfl) ⟨by decide, by decide⟩ ⟨by decide, by decide⟩ dX11_scoreOfSize_13 (fun q1 hq1 => ?_)
      refine g_goto fx 20 dX11_scoreOfSize_16 (by decide) ?_
      refine g_iret fx rt dX11_scoreOfSize_20 ?_
      refine gPip.mk ?_
      rw [if_neg hw0]
      first | (rw [if_neg hw1]; done) | (rw [if_pos hw1, hq1, if_neg (by omega)])
  · skip
    have hw0 : w = 0 := (nI_eq (by omega) (by omega)).mp (c1.trans (show (0 : Int32) = nI 0 by decide))
    refine g_iload_n fx 1 dX11_scoreOfSize_4 rfl ?_
    refine g_iret fx rt dX11_scoreOfSize_5 ?_
    refine gPip.mk ?_
    rw [if_pos hw0]
set_option maxHeartbeats 4000000 in
set_option maxRecDepth 100000 in
theorem c_X11_refusal (B : gB) (ad : Nat → Nat) (ct : Nat → va_E) (n : Nat) (hn : 178 ≤ n) (hx : ct 0 = .inr (11, [.ref (ad 1), .ref (ad 3), .ref (ad 5), .ref (ad 7), .ref (ad 9), .ref (ad 11), .ref (ad 79), .ref (ad 81), .ref (ad 88), .ref (ad 110), .ref (ad 115)])) (th te sta ask : Int32) (hr : ct 88 = .inr (6, [.ref (ad 89), .int th, .int te, .int sta, .int ask])) (hrr : ct 89 = .inl (B.2.1 4, 4, .inr (.inr (.inr (.inr (fun i => some (ad (90 + 5 * i)))))))) (hth : th = 0 ∨ th = 1) (x : Int32) : Ctr B yX11_refusal cX11_refusal 2 (some .int) 1 22 0 0 ad ct n [.ref (ad 0), .int x] (gPip ad ct n (fun r => r = if th = 0 then -3 else if (0 : Int) ≤ x.toInt ∧ x.toInt ≤ 3 then 0 else -1)) := by
  refine Ctr.ofG (L := [(0, .ref (ad 0)), (1, .int x)]) (by decide +kernel) rfl (Nat.le_of_ble_eq_true rfl) (fun E fx rt hnm => ?_)
  refine g_aload_n fx 0 dX11_refusal_0 rfl ?_
  refine g_get (r := 0) fx lkX11_58 (by omega) hx rfl dX11_refusal_1 ?_
  refine g_callVip (As := []) (rest := []) fx slX11_253 (c_X6_areThere B ad ct n th te sta ask hn hr hrr (by rcases hth with q | q <;> (rw [q]; rfl))) (by omega) hr rfl rfl rfl (Nat.le_of_ble_eq_true rfl) ⟨by decide, by decide⟩ ⟨by decide, by decide⟩ dX11_refusal_4 (fun q1 hq1 => ?_)
  obtain rfl := hq1
  refine g_if_ne fx 13 dX11_refusal_7 (by decide) (fun c7 => ?_) (fun c7 => ?_)
  · skip
    have hz : ¬ q1 = 0 := c7
    refine g_iload_n fx 1 dX11_refusal_13 rfl ?_
    refine g_iconst (v := nI 0) fx dX11_refusal_14 (by decide +kernel) ?_
    refine g_iconst (v := nI 3) fx dX11_refusal_15 (by decide +kernel) ?_
    refine g_callSip (As := [.int x, .int (nI 0), .int (nI 3)]) (rest := []) fx slX11_78 (c_X11_within B ad ct n x (nI 0) (nI 3) 0 3 (by decide +kernel) (by decide +kernel)) rfl rfl (Nat.le_of_ble_eq_true rfl) ⟨by decide, by decide⟩ ⟨by decide, by decide⟩ dX11_refusal_16 (fun q2 hq2 => ?_)
    refine g_if_eq fx 26 dX11_refusal_19 (by decide) (fun c19 => ?_) (fun c19 => ?_)
    · skip
      have hA := if01_z.mp (hq2 ▸ c19)
      refine g_iconst (v := (-1)) fx dX11_refusal_26 (by decide +kernel) ?_
      refine g_iret fx rt dX11_refusal_27 ?_
      refine gPip.mk ?_
      rw [if_neg hz]
      first | (rw [if_pos hA]; rfl) | (rw [if_neg hA]; done)
    · skip
      have hA := if01_n.mp (hq2 ▸ c19)
      refine g_iconst (v := nI 0) fx dX11_refusal_22 (by decide +kernel) ?_
      refine g_goto fx 27 dX11_refusal_23 (by decide) ?_
      refine g_iret fx rt dX11_refusal_27 ?_
      refine gPip.mk ?_
      rw [if_neg hz]
      first | (rw [if_pos hA]; rfl) | (rw [if_neg hA]; done)
  · skip
    have hz : q1 = 0 := c7
    refine g_bipush (v := (-3)) fx dX11_refusal_10 (by decide +kernel) ?_
    refine g_iret fx rt dX11_refusal_12 ?_
    refine gPip.mk ?_
    rw [if_pos hz]
set_option maxHeartbeats 4000000 in
set_option maxRecDepth 100000 in
theorem c_X11_table (B : gB) (ad : Nat → Nat) (ct : Nat → va_E) (n : Nat) (hn : 178 ≤ n) (hx : ct 0 = .inr (11, [.ref (ad 1), .ref (ad 3), .ref (ad 5), .ref (ad 7), .ref (ad 9), .ref (ad 11), .ref (ad 79), .ref (ad 81), .ref (ad 88), .ref (ad 110), .ref (ad 115)])) (gk : Nat → Nat) (R C : Nat) (hg : ct 1 = .inr (3, [.ref (ad 2), .int (nI R), .int (nI C)])) (hgc : ct 2 = .inl (B.2.1 0, 25, .inl (nF gk))) (hR5 : R ≤ 5) (hC5 : C ≤ 5) (x y : Int32) : Ctr B yX11_table cX11_table 3 (some .int) 1 23 0 0 ad ct n [.ref (ad 0), .int x, .int y] (gPi ad n (fun q ct' => (¬ ((1 ≤ x.toInt ∧ x.toInt ≤ 5) ∧ (1 ≤ y.toInt ∧ y.toInt ≤ 5)) ∧ q = -2 ∧ ct' = ct) ∨ (((1 ≤ x.toInt ∧ x.toInt ≤ 5) ∧ (1 ≤ y.toInt ∧ y.toInt ≤ 5)) ∧ q = 1 ∧ (∃ i j : Nat, x = nI i ∧ y = nI j ∧ 1 ≤ i ∧ i ≤ 5 ∧ 1 ≤ j ∧ j ≤ 5 ∧ ct' 1 = .inr (3, [.ref (ad 2), .int (nI i), .int (nI j)])) ∧ (∃ g', ct' 2 = .inl (B.2.1 0, 25, .inl (nF g')) ∧ ∀ j, j < 25 → g' j = 0) ∧ (∀ r, r ≠ 1 → r ≠ 2 → ct' r = ct r)))) := by
  refine Ctr.ofG (L := [(0, .ref (ad 0)), (1, .int x), (2, .int y)]) (by decide +kernel) rfl (Nat.le_of_ble_eq_true rfl) (fun E fx rt hnm => ?_)
  refine g_iload_n fx 1 dX11_table_0 rfl ?_
  refine g_iconst (v := nI 1) fx dX11_table_1 (by decide +kernel) ?_
  refine g_iconst (v := nI 5) fx dX11_table_2 (by decide +kernel) ?_
  refine g_callSip (As := [.int x, .int (nI 1), .int (nI 5)]) (rest := []) fx slX11_78 (c_X11_within B ad ct n x (nI 1) (nI 5) 1 5 (by decide +kernel) (by decide +kernel)) rfl rfl (Nat.le_of_ble_eq_true rfl) ⟨by decide, by decide⟩ ⟨by decide, by decide⟩ dX11_table_3 (fun q1 hq1 => ?_)
  refine g_if_eq fx 18 dX11_table_6 (by decide) (fun c6 => ?_) (fun c6 => ?_)
  · skip
    have hA : ¬ ((1 ≤ x.toInt ∧ x.toInt ≤ 5) ∧ (1 ≤ y.toInt ∧ y.toInt ≤ 5)) := fun w => if01_z.mp (hq1 ▸ c6) w.1
    refine g_bipush (v := (-2)) fx dX11_table_18 (by decide +kernel) ?_
    refine g_iret fx rt dX11_table_20 ?_
    exact gPi.mk (Or.inl ⟨hA, rfl, rfl⟩)
  · skip
    have hx1 := if01_n.mp (hq1 ▸ c6)
    refine g_iload_n fx 2 dX11_table_9 rfl ?_
    refine g_iconst (v := nI 1) fx dX11_table_10 (by decide +kernel) ?_
    refine g_iconst (v := nI 5) fx dX11_table_11 (by decide +kernel) ?_
    refine g_callSip (As := [.int y, .int (nI 1), .int (nI 5)]) (rest := []) fx slX11_78 (c_X11_within B ad ct n y (nI 1) (nI 5) 1 5 (by decide +kernel) (by decide +kernel)) rfl rfl (Nat.le_of_ble_eq_true rfl) ⟨by decide, by decide⟩ ⟨by decide, by decide⟩ dX11_table_12 (fun q2 hq2 => ?_)
    refine g_if_ne fx 21 dX11_table_15 (by decide) (fun c15 => ?_) (fun c15 => ?_)
    · skip
      have hy1 := if01_n.mp (hq2 ▸ c15)
      obtain ⟨i, hi, ex⟩ := toN hx1 (by omega)
      obtain ⟨j, hj, ey⟩ := toN hy1 (by omega)
      refine g_relocal (L' := [(0, .ref (ad 0)), (1, .int (nI i)), (2, .int (nI j))]) (by rw [ex, ey]) ?_
      refine g_aload_n fx 0 dX11_table_21 rfl ?_
      refine g_get (r := 0) fx lkX11_10 (by omega) hx rfl dX11_table_22 ?_
      refine g_iload_n fx 1 dX11_table_25 rfl ?_
      refine g_iload_n fx 2 dX11_table_26 rfl ?_
      refine g_callVv (As := [.int (nI i), .int (nI j)]) (rest := []) fx slX11_82 (c_X3_renew B ad ct n gk R C hn hg hgc hR5 hC5 i j) (by omega) hg rfl rfl rfl (Nat.le_of_ble_eq_true rfl) ⟨by decide, by decide⟩ ⟨by decide, by decide⟩ dX11_table_27 (fun ct1 hz1 => ?_)
      obtain ⟨g1, e1, e2, hz, hs⟩ := hz1
      refine g_iconst (v := nI 1) fx dX11_table_30 (by decide +kernel) ?_
      refine g_iret fx rt dX11_table_31 ?_
      exact gPi.mk (Or.inr ⟨⟨hx1, hy1⟩, rfl, ⟨i, j, ex, ey, by omega, by omega, by omega, by omega, e1⟩, ⟨g1, e2, hz⟩, hs⟩)
    · skip
      have hA : ¬ ((1 ≤ x.toInt ∧ x.toInt ≤ 5) ∧ (1 ≤ y.toInt ∧ y.toInt ≤ 5)) := fun w => if01_z.mp (hq2 ▸ c15) w.2
      refine g_bipush (v := (-2)) fx dX11_table_18 (by decide +kernel) ?_
      refine g_iret fx rt dX11_table_20 ?_
      exact gPi.mk (Or.inl ⟨hA, rfl, rfl⟩)
set_option maxHeartbeats 4000000 in
set_option maxRecDepth 100000 in
theorem c_X11_cell (B : gB) (ad : Nat → Nat) (ct : Nat → va_E) (n : Nat) (hn : 178 ≤ n) (hx : ct 0 = .inr (11, [.ref (ad 1), .ref (ad 3), .ref (ad 5), .ref (ad 7), .ref (ad 9), .ref (ad 11), .ref (ad 79), .ref (ad 81), .ref (ad 88), .ref (ad 110), .ref (ad 115)])) (gk : Nat → Nat) (R C : Nat) (hg : ct 1 = .inr (3, [.ref (ad 2), .int (nI R), .int (nI C)])) (hgc : ct 2 = .inl (B.2.1 0, 25, .inl (nF gk))) (hR5 : R ≤ 5) (hC5 : C ≤ 5) (hT60 : sumF gk 25 ≤ 60) (x y z : Int32) : Ctr B yX11_cell cX11_cell 5 (some .int) 2 44 0 0 ad ct n [.ref (ad 0), .int x, .int y, .int z] (gPi ad n (fun q ct' => (¬ ((0 ≤ x.toInt ∧ x.toInt < (R : Int)) ∧ (0 ≤ y.toInt ∧ y.toInt < (C : Int))) ∧ q = -1 ∧ ct' = ct) ∨ (((0 ≤ x.toInt ∧ x.toInt < (R : Int)) ∧ (0 ≤ y.toInt ∧ y.toInt < (C : Int))) ∧ ¬ ((0 : Int) ≤ z.toInt ∧ z.toInt ≤ 60) ∧ q = -2 ∧ ct' = ct) ∨ ∃ i j v : Nat, x = nI i ∧ i < R ∧ y = nI j ∧ j < C ∧ z = nI v ∧ v ≤ 60 ∧ ((60 < (sumF gk 25) - (gk (5 * i + j)) + v ∧ q = -4 ∧ ct' = ct) ∨ ((sumF gk 25) - (gk (5 * i + j)) + v ≤ 60 ∧ q = nI (gk (5 * i + j)) ∧ ct' = va_up ct 2 (.inl (B.2.1 0, 25, .inl (nF (va_up gk (5 * i + j) v)))))))) := by
  refine Ctr.ofG (L := [(0, .ref (ad 0)), (1, .int x), (2, .int y), (3, .int z)]) (by decide +kernel) rfl (Nat.le_of_ble_eq_true rfl) (fun E fx rt hnm => ?_)
  refine g_aload_n fx 0 dX11_cell_0 rfl ?_
  refine g_get (r := 0) fx lkX11_10 (by omega) hx rfl dX11_cell_1 ?_
  refine g_iload_n fx 1 dX11_cell_4 rfl ?_
  refine g_callVip (As := [.int x]) (rest := []) fx slX11_86 (c_X3_hasRow B ad ct n gk R C hn hg hgc hR5 hC5 x) (by omega) hg rfl rfl rfl (Nat.le_of_ble_eq_true rfl) ⟨by decide, by decide⟩ ⟨by decide, by decide⟩ dX11_cell_5 (fun q1 hq1 => ?_)
  refine g_if_eq fx 22 dX11_cell_8 (by decide) (fun c8 => ?_) (fun c8 => ?_)
  · skip
    have hA : ¬ ((0 ≤ x.toInt ∧ x.toInt < (R : Int)) ∧ (0 ≤ y.toInt ∧ y.toInt < (C : Int))) := fun w => if01_z.mp (hq1 ▸ c8) w.1
    refine g_iconst (v := (-1)) fx dX11_cell_22 (by decide +kernel) ?_
    refine g_iret fx rt dX11_cell_23 ?_
    exact gPi.mk (Or.inl ⟨hA, rfl, rfl⟩)
  · skip
    have hx1 := if01_n.mp (hq1 ▸ c8)
    refine g_aload_n fx 0 dX11_cell_11 rfl ?_
    refine g_get (r := 0) fx lkX11_10 (by omega) hx rfl dX11_cell_12 ?_
    refine g_iload_n fx 2 dX11_cell_15 rfl ?_
    refine g_callVip (As := [.int y]) (rest := []) fx slX11_90 (c_X3_hasColumn B ad ct n gk R C hn hg hgc hR5 hC5 y) (by omega) hg rfl rfl rfl (Nat.le_of_ble_eq_true rfl) ⟨by decide, by decide⟩ ⟨by decide, by decide⟩ dX11_cell_16 (fun q2 hq2 => ?_)
    refine g_if_ne fx 24 dX11_cell_19 (by decide) (fun c19 => ?_) (fun c19 => ?_)
    · skip
      have hy1 := if01_n.mp (hq2 ▸ c19)
      refine g_iload_n fx 3 dX11_cell_24 rfl ?_
      refine g_iconst (v := nI 0) fx dX11_cell_25 (by decide +kernel) ?_
      refine g_bipush (v := nI 60) fx dX11_cell_26 (by decide +kernel) ?_
      refine g_callSip (As := [.int z, .int (nI 0), .int (nI 60)]) (rest := []) fx slX11_78 (c_X11_within B ad ct n z (nI 0) (nI 60) 0 60 (by decide +kernel) (by decide +kernel)) rfl rfl (Nat.le_of_ble_eq_true rfl) ⟨by decide, by decide⟩ ⟨by decide, by decide⟩ dX11_cell_28 (fun q3 hq3 => ?_)
      refine g_if_ne fx 37 dX11_cell_31 (by decide) (fun c31 => ?_) (fun c31 => ?_)
      · skip
        have hz1 := if01_n.mp (hq3 ▸ c31)
        obtain ⟨v, hv, ez⟩ := toN hz1 (by omega)
        obtain ⟨i, hi, ex⟩ := toR hx1
        obtain ⟨j, hj, ey⟩ := toR hy1
        have hmem := sumF_mem (f := gk) (n := 25) (i := 5 * i + j) (by omega)
        refine g_relocal (L' := [(0, .ref (ad 0)), (1, .int (nI i)), (2, .int (nI j)), (3, .int (nI v))]) (by rw [ex, ey, ez]) ?_
        refine g_aload_n fx 0 dX11_cell_37 rfl ?_
        refine g_get (r := 0) fx lkX11_10 (by omega) hx rfl dX11_cell_38 ?_
        refine g_iload_n fx 1 dX11_cell_41 rfl ?_
        refine g_iload_n fx 2 dX11_cell_42 rfl ?_
        refine g_callVip (As := [.int (nI i), .int (nI j)]) (rest := []) fx slX11_93 (c_X3_at B ad ct n gk R C hn hg hgc hR5 hC5 (nI i) (nI j)) (by omega) hg rfl rfl rfl (Nat.le_of_ble_eq_true rfl) ⟨by decide, by decide⟩ ⟨by decide, by decide⟩ dX11_cell_43 (fun q4 hq4 => ?_)
        have hq4b : q4 = nI (gk (5 * i + j)) := by rw [hq4, if_pos ⟨inR hi (by omega), inR hj (by omega)⟩, nI_toInt (by omega), nI_toInt (by omega)]; rfl
        refine g_isi (y := nI (gk (5 * i + j))) hq4b ?_
        refine g_istore (L' := [(4, .int (nI (gk (5 * i + j)))), (0, .ref (ad 0)), (1, .int (nI i)), (2, .int (nI j)), (3, .int (nI v))]) fx dX11_cell_46 (by decide) rfl ?_
        refine g_aload_n fx 1 dX11_cell_48 rfl ?_
        refine g_get (r := 0) fx lkX11_10 (by omega) hx rfl dX11_cell_49 ?_
        refine g_callVip (As := []) (rest := []) fx slX11_97 (c_X3_inAll B ad ct n gk R C hn hg hgc hR5 hC5) (by omega) hg rfl rfl rfl (Nat.le_of_ble_eq_true rfl) ⟨by decide, by decide⟩ ⟨by decide, by decide⟩ dX11_cell_52 (fun q5 hq5 => ?_)
        obtain rfl := hq5
        refine g_iload fx 0 dX11_cell_55 rfl ?_
        refine g_isubN fx dX11_cell_57 hmem ?_
        refine g_iload_n fx 4 dX11_cell_58 rfl ?_
        refine g_iaddN fx dX11_cell_59 ?_
        refine g_bipush (v := nI 60) fx dX11_cell_60 (by decide +kernel) ?_
        refine g_icmp_le fx 68 dX11_cell_62 (by decide) (fun c62 => ?_) (fun c62 => ?_)
        · skip
          have hle : (sumF gk 25) - (gk (5 * i + j)) + v ≤ 60 := (nI_leI (by omega) (by omega)).mp c62
          refine g_aload_n fx 1 dX11_cell_68 rfl ?_
          refine g_get (r := 0) fx lkX11_10 (by omega) hx rfl dX11_cell_69 ?_
          refine g_iload_n fx 2 dX11_cell_72 rfl ?_
          refine g_iload_n fx 3 dX11_cell_73 rfl ?_
          refine g_iload_n fx 4 dX11_cell_74 rfl ?_
          refine g_callVv (As := [.int (nI i), .int (nI j), .int (nI v)]) (rest := []) fx slX11_101 (c_X3_put B ad ct n gk R C hn hg hgc hR5 hC5 i j v hi hj) (by omega) hg rfl rfl rfl (Nat.le_of_ble_eq_true rfl) ⟨by decide, by decide⟩ ⟨by decide, by decide⟩ dX11_cell_75 (fun ct1 hzz => ?_)
          refine g_iload fx 0 dX11_cell_78 rfl ?_
          refine g_iret fx rt dX11_cell_80 ?_
          exact gPi.mk (Or.inr (Or.inr ⟨i, j, v, ex, hi, ey, hj, ez, by omega, Or.inr ⟨hle, rfl, hzz⟩⟩))
        · skip
          have hgt : 60 < (sumF gk 25) - (gk (5 * i + j)) + v := (nI_ltI (by omega) (by omega)).mp (Int32.not_le.mp c62)
          refine g_bipush (v := (-4)) fx dX11_cell_65 (by decide +kernel) ?_
          refine g_iret fx rt dX11_cell_67 ?_
          exact gPi.mk (Or.inr (Or.inr ⟨i, j, v, ex, hi, ey, hj, ez, by omega, Or.inl ⟨hgt, rfl, rfl⟩⟩))
      · skip
        have hZ := if01_z.mp (hq3 ▸ c31)
        refine g_bipush (v := (-2)) fx dX11_cell_34 (by decide +kernel) ?_
        refine g_iret fx rt dX11_cell_36 ?_
        exact gPi.mk (Or.inr (Or.inl ⟨⟨hx1, hy1⟩, hZ, rfl, rfl⟩))
    · skip
      have hA : ¬ ((0 ≤ x.toInt ∧ x.toInt < (R : Int)) ∧ (0 ≤ y.toInt ∧ y.toInt < (C : Int))) := fun w => if01_z.mp (hq2 ▸ c19) w.2
      refine g_iconst (v := (-1)) fx dX11_cell_22 (by decide +kernel) ?_
      refine g_iret fx rt dX11_cell_23 ?_
      exact gPi.mk (Or.inl ⟨hA, rfl, rfl⟩)
set_option maxHeartbeats 4000000 in
set_option maxRecDepth 100000 in
theorem c_X11_about (B : gB) (ad : Nat → Nat) (ct : Nat → va_E) (n : Nat) (hn : 178 ≤ n) (hx : ct 0 = .inr (11, [.ref (ad 1), .ref (ad 3), .ref (ad 5), .ref (ad 7), .ref (ad 9), .ref (ad 11), .ref (ad 79), .ref (ad 81), .ref (ad 88), .ref (ad 110), .ref (ad 115)])) (gk : Nat → Nat) (R C : Nat) (hg : ct 1 = .inr (3, [.ref (ad 2), .int (nI R), .int (nI C)])) (hgc : ct 2 = .inl (B.2.1 0, 25, .inl (nF gk))) (hR5 : R ≤ 5) (hC5 : C ≤ 5) (hgb : ∀ j, j < 25 → gk j ≤ 60) (x y z : Int32) : Ctr B yX11_about cX11_about 6 (some .int) 3 66 0 0 ad ct n [.ref (ad 0), .int x, .int y, .int z] (gPip ad ct n (fun r => r = aboutS R C (fun i j => gk (5 * i + j)) (sumF gk 25) x.toInt y.toInt z.toInt)) := by
  refine Ctr.ofG (L := [(0, .ref (ad 0)), (1, .int x), (2, .int y), (3, .int z)]) (by decide +kernel) rfl (Nat.le_of_ble_eq_true rfl) (fun E fx rt hnm => ?_)
  refine g_iload_n fx 3 dX11_about_0 rfl ?_
  refine g_iconst (v := nI 0) fx dX11_about_1 (by decide +kernel) ?_
  refine g_iconst (v := nI 3) fx dX11_about_2 (by decide +kernel) ?_
  refine g_callSip (As := [.int z, .int (nI 0), .int (nI 3)]) (rest := []) fx slX11_78 (c_X11_within B ad ct n z (nI 0) (nI 3) 0 3 (by decide +kernel) (by decide +kernel)) rfl rfl (Nat.le_of_ble_eq_true rfl) ⟨by decide, by decide⟩ ⟨by decide, by decide⟩ dX11_about_3 (fun q1 hq1 => ?_)
  refine g_if_ne fx 12 dX11_about_6 (by decide) (fun c6 => ?_) (fun c6 => ?_)
  · skip
    have hz4 := if01_n.mp (hq1 ▸ c6)
    refine g_iload_n fx 3 dX11_about_12 rfl ?_
    refine g_if_eq fx 21 dX11_about_13 (by decide) (fun c13 => ?_) (fun c13 => ?_)
    · skip
      have hz : z.toInt = 0 := eq0_t.mp c13
      refine g_iconst (v := nI 1) fx dX11_about_21 (by decide +kernel) ?_
      refine g_goto fx 26 dX11_about_22 (by decide) ?_
      refine g_istore (L' := [(4, .int (nI 1)), (0, .ref (ad 0)), (1, .int x), (2, .int y), (3, .int z)]) fx dX11_about_26 (by decide) rfl ?_
      refine g_iload_n fx 4 dX11_about_28 rfl ?_
      refine g_if_eq fx 37 dX11_about_29 (by decide) (fun c29 => ?_) (fun c29 => ?_)
      rotate_left
      · exact absurd (eq0_t.mpr hz) c29
      refine g_iconst (v := nI 1) fx dX11_about_37 (by decide +kernel) ?_
      refine g_goto fx 42 dX11_about_38 (by decide) ?_
      refine g_istore (L' := [(5, .int (nI 1)), (4, .int (nI 1)), (0, .ref (ad 0)), (1, .int x), (2, .int y), (3, .int z)]) fx dX11_about_42 (by decide) rfl ?_
      refine g_iload fx 1 dX11_about_44 rfl ?_
      refine g_if_eq fx 60 dX11_about_46 (by decide) (fun c46 => ?_) (fun c46 => ?_)
      · exact absurd c46 (by decide)
      refine g_aload_n fx 2 dX11_about_49 rfl ?_
      refine g_get (r := 0) fx lkX11_10 (by omega) hx rfl dX11_about_50 ?_
      refine g_iload_n fx 3 dX11_about_53 rfl ?_
      refine g_callVip (As := [.int x]) (rest := []) fx slX11_86 (c_X3_hasRow B ad ct n gk R C hn hg hgc hR5 hC5 x) (by omega) hg rfl rfl rfl (Nat.le_of_ble_eq_true rfl) ⟨by decide, by decide⟩ ⟨by decide, by decide⟩ dX11_about_54 (fun q2 hq2 => ?_)
      refine g_if_eq fx 76 dX11_about_57 (by decide) (fun c57 => ?_) (fun c57 => ?_)
      · skip
        have hB : (z.toInt < 2 ∧ ¬ ((0 : Int) ≤ x.toInt ∧ x.toInt ≤ (R : Int) - 1)) ∨ ((z.toInt = 0 ∨ z.toInt = 2) ∧ ¬ ((0 : Int) ≤ y.toInt ∧ y.toInt ≤ (C : Int) - 1)) := Or.inl ⟨by omega, fun w => if01_z.mp (hq2 ▸ c57) (le_toR.mpr w)⟩
        refine g_iconst (v := (-1)) fx dX11_about_76 (by decide +kernel) ?_
        refine g_iret fx rt dX11_about_77 ?_
        refine gPip.mk ?_
        unfold aboutS
        rw [if_neg (fun w => w hz4), if_pos hB]
      · skip
        have hx1 := if01_n.mp (hq2 ▸ c57)
        refine g_iload fx 0 dX11_about_60 rfl ?_
        refine g_if_eq fx 78 dX11_about_62 (by decide) (fun c62 => ?_) (fun c62 => ?_)
        · exact absurd c62 (by decide)
        refine g_aload_n fx 2 dX11_about_65 rfl ?_
        refine g_get (r := 0) fx lkX11_10 (by omega) hx rfl dX11_about_66 ?_
        refine g_iload_n fx 4 dX11_about_69 rfl ?_
        refine g_callVip (As := [.int y]) (rest := []) fx slX11_90 (c_X3_hasColumn B ad ct n gk R C hn hg hgc hR5 hC5 y) (by omega) hg rfl rfl rfl (Nat.le_of_ble_eq_true rfl) ⟨by decide, by decide⟩ ⟨by decide, by decide⟩ dX11_about_70 (fun q3 hq3 => ?_)
        refine g_if_ne fx 78 dX11_about_73 (by decide) (fun c73 => ?_) (fun c73 => ?_)
        · skip
          have hy1 := if01_n.mp (hq3 ▸ c73)
          have hB : ¬ ((z.toInt < 2 ∧ ¬ ((0 : Int) ≤ x.toInt ∧ x.toInt ≤ (R : Int) - 1)) ∨ ((z.toInt = 0 ∨ z.toInt = 2) ∧ ¬ ((0 : Int) ≤ y.toInt ∧ y.toInt ≤ (C : Int) - 1))) := by
            intro w
            first | omega
          refine g_iload_n fx 5 dX11_about_78 rfl ?_
          have hsv : z.toInt = 0 := hz
          refine g_tableIn fx 104 dX11_about_79 (by rw [hsv]; decide) (by rw [hsv]; decide) (off := 25) (by rw [hsv]; rfl) (by decide) ?_
          obtain ⟨i, hi, ex⟩ := toR hx1
          obtain ⟨j, hj, ey⟩ := toR hy1
          refine g_aload_n fx 2 dX11_about_104 rfl ?_
          refine g_get (r := 0) fx lkX11_10 (by omega) hx rfl dX11_about_105 ?_
          refine g_iload_n fx 3 dX11_about_108 rfl ?_
          refine g_iload_n fx 4 dX11_about_109 rfl ?_
          refine g_callVip (As := [.int x, .int y]) (rest := []) fx slX11_93 (c_X3_at B ad ct n gk R C hn hg hgc hR5 hC5 x y) (by omega) hg rfl rfl rfl (Nat.le_of_ble_eq_true rfl) ⟨by decide, by decide⟩ ⟨by decide, by decide⟩ dX11_about_110 (fun q4 hq4 => ?_)
          refine g_iret fx rt dX11_about_113 ?_
          refine gPip.mk ?_
          rw [hq4, if_pos ⟨hx1, hy1⟩]
          unfold aboutS
          rw [if_neg (fun w => w hz4), if_neg hB, if_pos hz]
        · skip
          have hB : (z.toInt < 2 ∧ ¬ ((0 : Int) ≤ x.toInt ∧ x.toInt ≤ (R : Int) - 1)) ∨ ((z.toInt = 0 ∨ z.toInt = 2) ∧ ¬ ((0 : Int) ≤ y.toInt ∧ y.toInt ≤ (C : Int) - 1)) := Or.inr ⟨by omega, fun w => if01_z.mp (hq3 ▸ c73) (le_toR.mpr w)⟩
          refine g_iconst (v := (-1)) fx dX11_about_76 (by decide +kernel) ?_
          refine g_iret fx rt dX11_about_77 ?_
          refine gPip.mk ?_
          unfold aboutS
          rw [if_neg (fun w => w hz4), if_pos hB]
    · skip
      have hz0 : ¬ z.toInt = 0 := fun w => c13 (eq0_t.mpr w)
      refine g_iload_n fx 3 dX11_about_16 rfl ?_
      refine g_iconst (v := nI 1) fx dX11_about_17 (by decide +kernel) ?_
      refine g_icmp_ne fx 25 dX11_about_18 (by decide) (fun c18 => ?_) (fun c18 => ?_)
      · skip
        have hz1 : ¬ z.toInt = 1 := fun w => c18 (eq1_t.mpr w)
        refine g_iconst (v := nI 0) fx dX11_about_25 (by decide +kernel) ?_
        refine g_istore (L' := [(4, .int (nI 0)), (0, .ref (ad 0)), (1, .int x), (2, .int y), (3, .int z)]) fx dX11_about_26 (by decide) rfl ?_
        refine g_iload_n fx 4 dX11_about_28 rfl ?_
        refine g_if_eq fx 37 dX11_about_29 (by decide) (fun c29 => ?_) (fun c29 => ?_)
        · exact absurd (eq0_t.mp c29) (by omega)
        refine g_iload_n fx 4 dX11_about_32 rfl ?_
        refine g_iconst (v := nI 2) fx dX11_about_33 (by decide +kernel) ?_
        refine g_icmp_ne fx 41 dX11_about_34 (by decide) (fun c34 => ?_) (fun c34 => ?_)
        · skip
          have hz : z.toInt = 3 := by have : ¬ z.toInt = 2 := fun w => c34 (eq2_t.mpr w); omega
          refine g_iconst (v := nI 0) fx dX11_about_41 (by decide +kernel) ?_
          refine g_istore (L' := [(5, .int (nI 0)), (4, .int (nI 0)), (0, .ref (ad 0)), (1, .int x), (2, .int y), (3, .int z)]) fx dX11_about_42 (by decide) rfl ?_
          refine g_iload fx 1 dX11_about_44 rfl ?_
          refine g_if_eq fx 60 dX11_about_46 (by decide) (fun c46 => ?_) (fun c46 => ?_)
          rotate_left
          · exact absurd (show nI 0 = 0 from rfl) c46
          refine g_iload fx 0 dX11_about_60 rfl ?_
          refine g_if_eq fx 78 dX11_about_62 (by decide) (fun c62 => ?_) (fun c62 => ?_)
          rotate_left
          · exact absurd (show nI 0 = 0 from rfl) c62
          have hB : ¬ ((z.toInt < 2 ∧ ¬ ((0 : Int) ≤ x.toInt ∧ x.toInt ≤ (R : Int) - 1)) ∨ ((z.toInt = 0 ∨ z.toInt = 2) ∧ ¬ ((0 : Int) ≤ y.toInt ∧ y.toInt ≤ (C : Int) - 1))) := by
            intro w
            first | omega
          refine g_iload_n fx 5 dX11_about_78 rfl ?_
          refine g_tableOut fx 132 dX11_about_79 (Or.inr (by omega)) (by decide) ?_
          refine g_aload_n fx 2 dX11_about_132 rfl ?_
          refine g_get (r := 0) fx lkX11_10 (by omega) hx rfl dX11_about_133 ?_
          refine g_callVip (As := []) (rest := []) fx slX11_97 (c_X3_inAll B ad ct n gk R C hn hg hgc hR5 hC5) (by omega) hg rfl rfl rfl (Nat.le_of_ble_eq_true rfl) ⟨by decide, by decide⟩ ⟨by decide, by decide⟩ dX11_about_136 (fun q7 hq7 => ?_)
          refine g_iret fx rt dX11_about_139 ?_
          refine gPip.mk ?_
          rw [hq7]
          unfold aboutS
          rw [if_neg (fun w => w hz4), if_neg hB, if_neg (by omega), if_neg (by omega), if_neg (by omega)]
        · skip
          have hz : z.toInt = 2 := eq2_t.mp c34
          refine g_iconst (v := nI 1) fx dX11_about_37 (by decide +kernel) ?_
          refine g_goto fx 42 dX11_about_38 (by decide) ?_
          refine g_istore (L' := [(5, .int (nI 1)), (4, .int (nI 0)), (0, .ref (ad 0)), (1, .int x), (2, .int y), (3, .int z)]) fx dX11_about_42 (by decide) rfl ?_
          refine g_iload fx 1 dX11_about_44 rfl ?_
          refine g_if_eq fx 60 dX11_about_46 (by decide) (fun c46 => ?_) (fun c46 => ?_)
          rotate_left
          · exact absurd (show nI 0 = 0 from rfl) c46
          refine g_iload fx 0 dX11_about_60 rfl ?_
          refine g_if_eq fx 78 dX11_about_62 (by decide) (fun c62 => ?_) (fun c62 => ?_)
          · exact absurd c62 (by decide)
          refine g_aload_n fx 2 dX11_about_65 rfl ?_
          refine g_get (r := 0) fx lkX11_10 (by omega) hx rfl dX11_about_66 ?_
          refine g_iload_n fx 4 dX11_about_69 rfl ?_
          refine g_callVip (As := [.int y]) (rest := []) fx slX11_90 (c_X3_hasColumn B ad ct n gk R C hn hg hgc hR5 hC5 y) (by omega) hg rfl rfl rfl (Nat.le_of_ble_eq_true rfl) ⟨by decide, by decide⟩ ⟨by decide, by decide⟩ dX11_about_70 (fun q3 hq3 => ?_)
          refine g_if_ne fx 78 dX11_about_73 (by decide) (fun c73 => ?_) (fun c73 => ?_)
          · skip
            have hy1 := if01_n.mp (hq3 ▸ c73)
            have hB : ¬ ((z.toInt < 2 ∧ ¬ ((0 : Int) ≤ x.toInt ∧ x.toInt ≤ (R : Int) - 1)) ∨ ((z.toInt = 0 ∨ z.toInt = 2) ∧ ¬ ((0 : Int) ≤ y.toInt ∧ y.toInt ≤ (C : Int) - 1))) := by
              intro w
              first | omega
            refine g_iload_n fx 5 dX11_about_78 rfl ?_
            have hsv : z.toInt = 2 := hz
            refine g_tableIn fx 123 dX11_about_79 (by rw [hsv]; decide) (by rw [hsv]; decide) (off := 44) (by rw [hsv]; rfl) (by decide) ?_
            obtain ⟨j, hj, ey⟩ := toR hy1
            refine g_relocal (L' := [(5, .int (nI 1)), (4, .int (nI 0)), (0, .ref (ad 0)), (1, .int x), (2, .int (nI j)), (3, .int z)]) (by rw [ey]) ?_
            refine g_aload_n fx 2 dX11_about_123 rfl ?_
            refine g_get (r := 0) fx lkX11_10 (by omega) hx rfl dX11_about_124 ?_
            refine g_iload_n fx 4 dX11_about_127 rfl ?_
            refine g_callVip (As := [.int (nI j)]) (rest := []) fx slX11_109 (c_X3_columnSum B ad ct n gk R C hn hg hgc hR5 hC5 j hj hgb) (by omega) hg rfl rfl rfl (Nat.le_of_ble_eq_true rfl) ⟨by decide, by decide⟩ ⟨by decide, by decide⟩ dX11_about_128 (fun q6 hq6 => ?_)
            refine g_iret fx rt dX11_about_131 ?_
            refine gPip.mk ?_
            rw [hq6]
            unfold aboutS
            rw [if_neg (fun w => w hz4), if_neg hB, if_neg (by omega), if_neg (by omega), if_pos hz, ey, nI_toInt (by omega)]
            rfl
          · skip
            have hB : (z.toInt < 2 ∧ ¬ ((0 : Int) ≤ x.toInt ∧ x.toInt ≤ (R : Int) - 1)) ∨ ((z.toInt = 0 ∨ z.toInt = 2) ∧ ¬ ((0 : Int) ≤ y.toInt ∧ y.toInt ≤ (C : Int) - 1)) := Or.inr ⟨by omega, fun w => if01_z.mp (hq3 ▸ c73) (le_toR.mpr w)⟩
            refine g_iconst (v := (-1)) fx dX11_about_76 (by decide +kernel) ?_
            refine g_iret fx rt dX11_about_77 ?_
            refine gPip.mk ?_
            unfold aboutS
            rw [if_neg (fun w => w hz4), if_pos hB]
      · skip
        have hz : z.toInt = 1 := eq1_t.mp c18
        refine g_iconst (v := nI 1) fx dX11_about_21 (by decide +kernel) ?_
        refine g_goto fx 26 dX11_about_22 (by decide) ?_
        refine g_istore (L' := [(4, .int (nI 1)), (0, .ref (ad 0)), (1, .int x), (2, .int y), (3, .int z)]) fx dX11_about_26 (by decide) rfl ?_
        refine g_iload_n fx 4 dX11_about_28 rfl ?_
        refine g_if_eq fx 37 dX11_about_29 (by decide) (fun c29 => ?_) (fun c29 => ?_)
        · exact absurd (eq0_t.mp c29) (by omega)
        refine g_iload_n fx 4 dX11_about_32 rfl ?_
        refine g_iconst (v := nI 2) fx dX11_about_33 (by decide +kernel) ?_
        refine g_icmp_ne fx 41 dX11_about_34 (by decide) (fun c34 => ?_) (fun c34 => ?_)
        rotate_left
        · exact absurd (eq2_t.mp c34) (by omega)
        refine g_iconst (v := nI 0) fx dX11_about_41 (by decide +kernel) ?_
        refine g_istore (L' := [(5, .int (nI 0)), (4, .int (nI 1)), (0, .ref (ad 0)), (1, .int x), (2, .int y), (3, .int z)]) fx dX11_about_42 (by decide) rfl ?_
        refine g_iload fx 1 dX11_about_44 rfl ?_
        refine g_if_eq fx 60 dX11_about_46 (by decide) (fun c46 => ?_) (fun c46 => ?_)
        · exact absurd c46 (by decide)
        refine g_aload_n fx 2 dX11_about_49 rfl ?_
        refine g_get (r := 0) fx lkX11_10 (by omega) hx rfl dX11_about_50 ?_
        refine g_iload_n fx 3 dX11_about_53 rfl ?_
        refine g_callVip (As := [.int x]) (rest := []) fx slX11_86 (c_X3_hasRow B ad ct n gk R C hn hg hgc hR5 hC5 x) (by omega) hg rfl rfl rfl (Nat.le_of_ble_eq_true rfl) ⟨by decide, by decide⟩ ⟨by decide, by decide⟩ dX11_about_54 (fun q2 hq2 => ?_)
        refine g_if_eq fx 76 dX11_about_57 (by decide) (fun c57 => ?_) (fun c57 => ?_)
        · skip
          have hB : (z.toInt < 2 ∧ ¬ ((0 : Int) ≤ x.toInt ∧ x.toInt ≤ (R : Int) - 1)) ∨ ((z.toInt = 0 ∨ z.toInt = 2) ∧ ¬ ((0 : Int) ≤ y.toInt ∧ y.toInt ≤ (C : Int) - 1)) := Or.inl ⟨by omega, fun w => if01_z.mp (hq2 ▸ c57) (le_toR.mpr w)⟩
          refine g_iconst (v := (-1)) fx dX11_about_76 (by decide +kernel) ?_
          refine g_iret fx rt dX11_about_77 ?_
          refine gPip.mk ?_
          unfold aboutS
          rw [if_neg (fun w => w hz4), if_pos hB]
        · skip
          have hx1 := if01_n.mp (hq2 ▸ c57)
          refine g_iload fx 0 dX11_about_60 rfl ?_
          refine g_if_eq fx 78 dX11_about_62 (by decide) (fun c62 => ?_) (fun c62 => ?_)
          rotate_left
          · exact absurd (show nI 0 = 0 from rfl) c62
          have hB : ¬ ((z.toInt < 2 ∧ ¬ ((0 : Int) ≤ x.toInt ∧ x.toInt ≤ (R : Int) - 1)) ∨ ((z.toInt = 0 ∨ z.toInt = 2) ∧ ¬ ((0 : Int) ≤ y.toInt ∧ y.toInt ≤ (C : Int) - 1))) := by
            intro w
            first | omega
          refine g_iload_n fx 5 dX11_about_78 rfl ?_
          have hsv : z.toInt = 1 := hz
          refine g_tableIn fx 114 dX11_about_79 (by rw [hsv]; decide) (by rw [hsv]; decide) (off := 35) (by rw [hsv]; rfl) (by decide) ?_
          obtain ⟨i, hi, ex⟩ := toR hx1
          refine g_relocal (L' := [(5, .int (nI 0)), (4, .int (nI 1)), (0, .ref (ad 0)), (1, .int (nI i)), (2, .int y), (3, .int z)]) (by rw [ex]) ?_
          refine g_aload_n fx 2 dX11_about_114 rfl ?_
          refine g_get (r := 0) fx lkX11_10 (by omega) hx rfl dX11_about_115 ?_
          refine g_iload_n fx 3 dX11_about_118 rfl ?_
          refine g_callVip (As := [.int (nI i)]) (rest := []) fx slX11_105 (c_X3_rowSum B ad ct n gk R C hn hg hgc hR5 hC5 i hi hgb) (by omega) hg rfl rfl rfl (Nat.le_of_ble_eq_true rfl) ⟨by decide, by decide⟩ ⟨by decide, by decide⟩ dX11_about_119 (fun q5 hq5 => ?_)
          refine g_iret fx rt dX11_about_122 ?_
          refine gPip.mk ?_
          rw [hq5]
          unfold aboutS
          rw [if_neg (fun w => w hz4), if_neg hB, if_neg (by omega), if_pos hz, ex, nI_toInt (by omega)]
          rfl
  · skip
    have hA := if01_z.mp (hq1 ▸ c6)
    refine g_bipush (v := (-2)) fx dX11_about_9 (by decide +kernel) ?_
    refine g_iret fx rt dX11_about_11 ?_
    refine gPip.mk ?_
    unfold aboutS
    rw [if_pos hA]
