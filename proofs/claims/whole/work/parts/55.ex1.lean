theorem eq0_t {x : Int32} : x = 0 ↔ x.toInt = 0 := eq_c (k := 0) (by decide)
theorem eq1_t {x : Int32} : x = nI 1 ↔ x.toInt = 1 := eq_c (k := 1) (by decide)
theorem eq2_t {x : Int32} : x = nI 2 ↔ x.toInt = 2 := eq_c (k := 2) (by decide)
theorem le_toR {x : Int32} {R : Nat} : (0 ≤ x.toInt ∧ x.toInt < (R : Int)) ↔ ((0 : Int) ≤ x.toInt ∧ x.toInt ≤ (R : Int) - 1) := by omega
theorem cnt_in {f : Nat → Int32} {v : Nat} (hv : 0 < v) (hv2 : v < 2 ^ 30) : ∀ k, (∀ j, j < k → (f j).toInt.natAbs ≤ 2000) → gCnt (fun x => decide (x < nI v)) f k = gCnt (fun x => decide (x < nI 1 - nI v)) f k + gCnt (fun x => decide (x = nI 0)) f k + gCnt (fun x => decide (¬ x = 0) && decide (absI x < nI v)) f k
  | 0, _ => rfl
  | k + 1, hb => by
    have ih := cnt_in (f := f) hv hv2 k (fun j hj => hb j (by omega))
    have hbk := hb k (by omega)
    show gCnt (fun x => decide (x < nI v)) f k + (if decide (f k < nI v) = true then 1 else 0) = gCnt (fun x => decide (x < nI 1 - nI v)) f k + (if decide (f k < nI 1 - nI v) = true then 1 else 0) + (gCnt (fun x => decide (x = nI 0)) f k + (if decide (f k = nI 0) = true then 1 else 0)) + (gCnt (fun x => decide (¬ x = 0) && decide (absI x < nI v)) f k + (if (decide (¬ f k = 0) && decide (absI (f k) < nI v)) = true then 1 else 0))
    rw [ih]
    have h1 : (nI 1 - nI v).toInt = 1 - (v : Int) := sub_toInt (nI_toInt (by decide)) (nI_toInt (by omega)) (by omega)
    have h2 : (nI v).toInt = (v : Int) := nI_toInt (by omega)
    have e1 : f k < nI v ↔ (f k).toInt < (v : Int) := by rw [Int32.lt_iff_toInt_lt, h2]
    have e2 : f k < nI 1 - nI v ↔ (f k).toInt < 1 - (v : Int) := by rw [Int32.lt_iff_toInt_lt, h1]
    have e3 : f k = nI 0 ↔ (f k).toInt = 0 := eq_c (k := 0) (by decide)
    have e4 : f k = 0 ↔ (f k).toInt = 0 := eq0_t
    have e5 : absI (f k) < nI v ↔ ((f k).toInt.natAbs < v) := by
      rw [Int32.lt_iff_toInt_lt, h2, sz_toInt (x := f k) rfl (by omega)]; omega
    simp only [Bool.and_eq_true, decide_eq_true_eq, e1, e2, e3, e4, e5]
    generalize (f k).toInt = z
    (repeat' split) <;> omega
theorem cnt_eq {f : Nat → Int32} {v : Nat} (hv : 0 < v) (hv2 : v < 2 ^ 30) : ∀ k, (∀ j, j < k → (f j).toInt.natAbs ≤ 2000) → gCnt (fun x => decide (x = nI v)) f k + gCnt (fun x => decide (x = -nI v)) f k = gCnt (fun x => decide (¬ x = 0) && decide (absI x = nI v)) f k
  | 0, _ => rfl
  | k + 1, hb => by
    have ih := cnt_eq (f := f) hv hv2 k (fun j hj => hb j (by omega))
    have hbk := hb k (by omega)
    show gCnt (fun x => decide (x = nI v)) f k + (if decide (f k = nI v) = true then 1 else 0) + (gCnt (fun x => decide (x = -nI v)) f k + (if decide (f k = -nI v) = true then 1 else 0)) = gCnt (fun x => decide (¬ x = 0) && decide (absI x = nI v)) f k + (if (decide (¬ f k = 0) && decide (absI (f k) = nI v)) = true then 1 else 0)
    rw [← ih]
    have h2 : (nI v).toInt = (v : Int) := nI_toInt (by omega)
    have h1 : (-nI v).toInt = -(v : Int) := by rw [Int32.toInt_neg, h2, Int.bmod_def]; omega
    have e1 : f k = nI v ↔ (f k).toInt = (v : Int) := eq_c h2
    have e2 : f k = -nI v ↔ (f k).toInt = -(v : Int) := eq_c h1
    have e4 : f k = 0 ↔ (f k).toInt = 0 := eq0_t
    have e5 : absI (f k) = nI v ↔ ((f k).toInt.natAbs = v) := by
      rw [eq_c h2, sz_toInt (x := f k) rfl (by omega)]; omega
    simp only [Bool.and_eq_true, decide_eq_true_eq, e1, e2, e4, e5]
    generalize (f k).toInt = z
    (repeat' split) <;> omega
set_option maxHeartbeats 4000000 in
set_option maxRecDepth 100000 in
theorem c_X11_within (B : gB) (ad : Nat → Nat) (ct : Nat → va_E) (n : Nat) (x LO HI : Int32) (lo hi : Int) (h1 : LO.toInt = lo) (h2 : HI.toInt = hi) : Ctr B yX11_within cX11_within 3 (some .boolean) 0 0 0 0 ad ct n [.int x, .int LO, .int HI] (gPip ad ct n (fun r => r = if lo ≤ x.toInt ∧ x.toInt ≤ hi then 1 else 0)) := by
  refine Ctr.ofG (L := [(0, .int x), (1, .int LO), (2, .int HI)]) (by decide +kernel) rfl (Nat.le_of_ble_eq_true rfl) (fun E fx rt hnm => ?_)
  refine g_iload_n fx 0 dX11_within_0 rfl ?_
  refine g_iload_n fx 1 dX11_within_1 rfl ?_
  refine g_icmp_lt fx 14 dX11_within_2 (by decide) (fun c2 => ?_) (fun c2 => ?_)
  · skip
    have hA : ¬ (lo ≤ x.toInt ∧ x.toInt ≤ hi) := fun w => by have := Int32.lt_iff_toInt_lt.mp c2; omega
    refine g_iconst (v := 0) fx dX11_within_14 (by decide +kernel) ?_
    refine g_zret fx rt dX11_within_15 rfl ?_
    refine gPip.mk ?_
    first | (rw [if_pos hA]; done) | (rw [if_neg hA]; done)
  · skip
    have hx1 : lo ≤ x.toInt := by have := Int32.le_iff_toInt_le.mp (Int32.not_lt.mp c2); omega
    refine g_iload_n fx 0 dX11_within_5 rfl ?_
    refine g_iload_n fx 2 dX11_within_6 rfl ?_
    refine g_icmp_gt fx 14 dX11_within_7 (by decide) (fun c7 => ?_) (fun c7 => ?_)
    · skip
      have hA : ¬ (lo ≤ x.toInt ∧ x.toInt ≤ hi) := fun w => by have := Int32.lt_iff_toInt_lt.mp (show HI < x from c7); omega
      refine g_iconst (v := 0) fx dX11_within_14 (by decide +kernel) ?_
      refine g_zret fx rt dX11_within_15 rfl ?_
      refine gPip.mk ?_
      first | (rw [if_pos hA]; done) | (rw [if_neg hA]; done)
    · skip
      have hA : lo ≤ x.toInt ∧ x.toInt ≤ hi := ⟨hx1, by have := Int32.le_iff_toInt_le.mp (Int32.not_lt.mp c7); omega⟩
      refine g_iconst (v := 1) fx dX11_within_10 (by decide +kernel) ?_
      refine g_goto fx 15 dX11_within_11 (by decide) ?_
      refine g_zret fx rt dX11_within_15 rfl ?_
      refine gPip.mk ?_
      first | (rw [if_pos hA]; done) | (rw [if_neg hA]; done)
set_option maxHeartbeats 4000000 in
set_option maxRecDepth 100000 in
theorem c_X11_isLevel (B : gB) (ad : Nat → Nat) (ct : Nat → va_E) (n : Nat) (u v : Int32) : Ctr B yX11_isLevel cX11_isLevel 2 (some .boolean) 1 22 0 0 ad ct n [.int u, .int v] (gPip ad ct n (fun r => r = if ((0 : Int) ≤ u.toInt ∧ u.toInt ≤ 1000000) ∧ ((1 : Int) ≤ v.toInt ∧ v.toInt ≤ 1000000) then 1 else 0)) := by
  refine Ctr.ofG (L := [(0, .int u), (1, .int v)]) (by decide +kernel) rfl (Nat.le_of_ble_eq_true rfl) (fun E fx rt hnm => ?_)
  refine g_iload_n fx 0 dX11_isLevel_0 rfl ?_
  refine g_iconst (v := nI 0) fx dX11_isLevel_1 (by decide +kernel) ?_
  refine g_ldcw fx kcX11_299 dX11_isLevel_2 ?_
  refine g_callSip (As := [.int u, .int (nI 0), .int 1000000]) (rest := []) fx slX11_78 (c_X11_within B ad ct n u (nI 0) 1000000 0 1000000 (by decide +kernel) (by decide +kernel)) rfl rfl (Nat.le_of_ble_eq_true rfl) ⟨by decide, by decide⟩ ⟨by decide, by decide⟩ dX11_isLevel_5 (fun q1 hq1 => ?_)
  refine g_if_eq fx 26 dX11_isLevel_8 (by decide) (fun c8 => ?_) (fun c8 => ?_)
  · skip
    have hA : ¬ (((0 : Int) ≤ u.toInt ∧ u.toInt ≤ 1000000) ∧ ((1 : Int) ≤ v.toInt ∧ v.toInt ≤ 1000000)) := fun w => if01_z.mp (hq1 ▸ c8) w.1
    refine g_iconst (v := nI 0) fx dX11_isLevel_26 (by decide +kernel) ?_
    refine g_zret fx rt dX11_isLevel_27 rfl ?_
    refine gPip.mk ?_
    first | (rw [if_pos hA]; rfl) | (rw [if_neg hA]; rfl)
  · skip
    have hu := if01_n.mp (hq1 ▸ c8)
    refine g_iload_n fx 1 dX11_isLevel_11 rfl ?_
    refine g_iconst (v := nI 1) fx dX11_isLevel_12 (by decide +kernel) ?_
    refine g_ldcw fx kcX11_299 dX11_isLevel_13 ?_
    refine g_callSip (As := [.int v, .int (nI 1), .int 1000000]) (rest := []) fx slX11_78 (c_X11_within B ad ct n v (nI 1) 1000000 1 1000000 (by decide +kernel) (by decide +kernel)) rfl rfl (Nat.le_of_ble_eq_true rfl) ⟨by decide, by decide⟩ ⟨by decide, by decide⟩ dX11_isLevel_16 (fun q2 hq2 => ?_)
    refine g_if_eq fx 26 dX11_isLevel_19 (by decide) (fun c19 => ?_) (fun c19 => ?_)
    · skip
      have hA : ¬ (((0 : Int) ≤ u.toInt ∧ u.toInt ≤ 1000000) ∧ ((1 : Int) ≤ v.toInt ∧ v.toInt ≤ 1000000)) := fun w => if01_z.mp (hq2 ▸ c19) w.2
      refine g_iconst (v := nI 0) fx dX11_isLevel_26 (by decide +kernel) ?_
      refine g_zret fx rt dX11_isLevel_27 rfl ?_
      refine gPip.mk ?_
      first | (rw [if_pos hA]; rfl) | (rw [if_neg hA]; rfl)
    · skip
      have hA : ((0 : Int) ≤ u.toInt ∧ u.toInt ≤ 1000000) ∧ ((1 : Int) ≤ v.toInt ∧ v.toInt ≤ 1000000) := ⟨hu, if01_n.mp (hq2 ▸ c19)⟩
      refine g_iconst (v := nI 1) fx dX11_isLevel_22 (by decide +kernel) ?_
      refine g_goto fx 27 dX11_isLevel_23 (by decide) ?_
      refine g_zret fx rt dX11_isLevel_27 rfl ?_
      refine gPip.mk ?_
      first | (rw [if_pos hA]; rfl) | (rw [if_neg hA]; rfl)
set_option maxHeartbeats 4000000 in
set_option maxRecDepth 100000 in
theorem c_X11_twiceMeanPlace (B : gB) (ad : Nat → Nat) (ct : Nat → va_E) (n : Nat) (x y : Nat) : Ctr B yX11_twiceMeanPlace cX11_twiceMeanPlace 2 (some .int) 0 0 0 0 ad ct n [.int (nI x), .int (nI y)] (gPip ad ct n (fun r => r = nI (2 * x + y + 1))) := by
  refine Ctr.ofG (L := [(0, .int (nI x)), (1, .int (nI y))]) (by decide +kernel) rfl (Nat.le_of_ble_eq_true rfl) (fun E fx rt hnm => ?_)
  refine g_iconst (v := nI 2) fx dX11_twiceMeanPlace_0 (by decide +kernel) ?_
  refine g_iload_n fx 0 dX11_twiceMeanPlace_1 rfl ?_
  refine g_imulN fx dX11_twiceMeanPlace_2 ?_
  refine g_iload_n fx 1 dX11_twiceMeanPlace_3 rfl ?_
  refine g_iaddN fx dX11_twiceMeanPlace_4 ?_
  refine g_iconst (v := nI 1) fx dX11_twiceMeanPlace_5 (by decide +kernel) ?_
  refine g_iaddN fx dX11_twiceMeanPlace_6 ?_
  refine g_iret fx rt dX11_twiceMeanPlace_7 ?_
  refine gPip.mk ?_
  rfl
set_option maxHeartbeats 4000000 in
set_option maxRecDepth 100000 in
theorem c_X11_rankOfNumber (B : gB) (ad : Nat → Nat) (ct : Nat → va_E) (n : Nat) (hn : 178 ≤ n) (hx : ct 0 = .inr (11, [.ref (ad 1), .ref (ad 3), .ref (ad 5), .ref (ad 7), .ref (ad 9), .ref (ad 11), .ref (ad 79), .ref (ad 81), .ref (ad 88), .ref (ad 110), .ref (ad 115)])) (kA : Nat) (fA : Nat → Int32) (hA : ct 3 = .inr (5, [.ref (ad 4), .int (nI kA)])) (hAr : ct 4 = .inl (B.2.1 0, 15, .inl fA)) (hAk : kA ≤ 15) (kB : Nat) (fB : Nat → Int32) (hB : ct 5 = .inr (5, [.ref (ad 6), .int (nI kB)])) (hBr : ct 6 = .inl (B.2.1 0, 15, .inl fB)) (hBk : kB ≤ 15) (v : Int32) : Ctr B yX11_rankOfNumber cX11_rankOfNumber 4 (some .int) 1 23 0 0 ad ct n [.ref (ad 0), .int v] (gPip ad ct n (fun r => r = nI (rkN fA kA fB kB v))) := by
  refine Ctr.ofG (L := [(0, .ref (ad 0)), (1, .int v)]) (by decide +kernel) rfl (Nat.le_of_ble_eq_true rfl) (fun E fx rt hnm => ?_)
  refine g_aload_n fx 0 dX11_rankOfNumber_0 rfl ?_
  refine g_get (r := 0) fx lkX11_21 (by omega) hx rfl dX11_rankOfNumber_1 ?_
  refine g_iload_n fx 1 dX11_rankOfNumber_4 rfl ?_
  refine g_callVip (As := [.int v]) (rest := []) fx slX11_300 (c_X5_countBelow B ad ct n 3 15 kA fA (by omega) hAk (by decide) hA hAr v) (by omega) hA rfl rfl rfl (Nat.le_of_ble_eq_true rfl) ⟨by decide, by decide⟩ ⟨by decide, by decide⟩ dX11_rankOfNumber_5 (fun q1 hq1 => ?_)
  obtain rfl := hq1
  refine g_aload_n fx 0 dX11_rankOfNumber_8 rfl ?_
  refine g_get (r := 0) fx lkX11_25 (by omega) hx rfl dX11_rankOfNumber_9 ?_
  refine g_iload_n fx 1 dX11_rankOfNumber_12 rfl ?_
  refine g_callVip (As := [.int v]) (rest := [.int (nI (gCnt (fun x => decide (x < v)) fA kA))]) fx slX11_300 (c_X5_countBelow B ad ct n 5 15 kB fB (by omega) hBk (by decide) hB hBr v) (by omega) hB rfl rfl rfl (Nat.le_of_ble_eq_true rfl) ⟨by decide, by decide⟩ ⟨by decide, by decide⟩ dX11_rankOfNumber_13 (fun q2 hq2 => ?_)
  obtain rfl := hq2
  refine g_iaddN fx dX11_rankOfNumber_16 ?_
  refine g_istore_n (L' := [(2, .int (nI ((gCnt (fun x => decide (x < v)) fA kA) + (gCnt (fun x => decide (x < v)) fB kB)))), (0, .ref (ad 0)), (1, .int v)]) fx dX11_rankOfNumber_17 (by decide) rfl ?_
  refine g_aload_n fx 1 dX11_rankOfNumber_18 rfl ?_
  refine g_get (r := 0) fx lkX11_21 (by omega) hx rfl dX11_rankOfNumber_19 ?_
  refine g_iload_n fx 2 dX11_rankOfNumber_22 rfl ?_
  refine g_callVip (As := [.int v]) (rest := []) fx slX11_183 (c_X5_countOf B ad ct n 3 15 kA fA (by omega) hAk (by decide) hA hAr v) (by omega) hA rfl rfl rfl (Nat.le_of_ble_eq_true rfl) ⟨by decide, by decide⟩ ⟨by decide, by decide⟩ dX11_rankOfNumber_23 (fun q3 hq3 => ?_)
  obtain rfl := hq3
  refine g_aload_n fx 1 dX11_rankOfNumber_26 rfl ?_
  refine g_get (r := 0) fx lkX11_25 (by omega) hx rfl dX11_rankOfNumber_27 ?_
  refine g_iload_n fx 2 dX11_rankOfNumber_30 rfl ?_
  refine g_callVip (As := [.int v]) (rest := [.int (nI (gCnt (fun x => decide (x = v)) fA kA))]) fx slX11_183 (c_X5_countOf B ad ct n 5 15 kB fB (by omega) hBk (by decide) hB hBr v) (by omega) hB rfl rfl rfl (Nat.le_of_ble_eq_true rfl) ⟨by decide, by decide⟩ ⟨by decide, by decide⟩ dX11_rankOfNumber_31 (fun q4 hq4 => ?_)
  obtain rfl := hq4
  refine g_iaddN fx dX11_rankOfNumber_34 ?_
  refine g_istore_n (L' := [(3, .int (nI ((gCnt (fun x => decide (x = v)) fA kA) + (gCnt (fun x => decide (x = v)) fB kB)))), (2, .int (nI ((gCnt (fun x => decide (x < v)) fA kA) + (gCnt (fun x => decide (x < v)) fB kB)))), (0, .ref (ad 0)), (1, .int v)]) fx dX11_rankOfNumber_35 (by decide) rfl ?_
  refine g_iload_n fx 1 dX11_rankOfNumber_36 rfl ?_
  refine g_iload_n fx 0 dX11_rankOfNumber_37 rfl ?_
  refine g_callSip (As := [.int (nI ((gCnt (fun x => decide (x < v)) fA kA) + (gCnt (fun x => decide (x < v)) fB kB))), .int (nI ((gCnt (fun x => decide (x = v)) fA kA) + (gCnt (fun x => decide (x = v)) fB kB)))]) (rest := []) fx slX11_303 (c_X11_twiceMeanPlace B ad ct n (gCnt (fun x => decide (x < v)) fA kA + gCnt (fun x => decide (x < v)) fB kB) (gCnt (fun x => decide (x = v)) fA kA + gCnt (fun x => decide (x = v)) fB kB)) rfl rfl (Nat.le_of_ble_eq_true rfl) ⟨by decide, by decide⟩ ⟨by decide, by decide⟩ dX11_rankOfNumber_38 (fun q5 hq5 => ?_)
  refine g_iret fx rt dX11_rankOfNumber_41 ?_
  refine gPip.mk ?_
  exact hq5
