theorem fac_w : fac 60 < 4294967296 ^ 12 := by
  have h1 := fac60
  have h3 : (2 : Nat) ^ 273 < 4294967296 ^ 12 := by decide +kernel
  exact Nat.lt_of_le_of_lt (show fac 60 ≤ 2 ^ 273 by omega) h3
theorem ch_64 {a b : Nat} (h : a ≤ 60) : ch a b < 18446744073709551616 := Nat.lt_of_le_of_lt ch_two (Nat.lt_of_le_of_lt (Nat.pow_le_pow_right (by decide) h) (by decide))
theorem rp_row {rs cm v : Nat → Nat} {R C r : Nat} (hC : 0 < C) (hr : r + 1 < R) (hsum : sumF rs R = sumF cm C) (hval : Val C rs cm (C * r) v) : ch (tLeft C cm v r 0 + tBeh C cm v r 0) (tRest C rs v (C * r + 0)) * rpN rs R (R - (r + 1)) = rpN rs R (R - r) := by
  obtain ⟨m, hm⟩ : ∃ m, R = r + (m + 2) := ⟨R - r - 2, by omega⟩
  have h1 := left_sum hC hval (Nat.le_refl _)
  have h2 := sumF_split (f := rs) (a := r) (m + 2)
  rw [← hm] at h2
  rw [Nat.add_zero, rest_row hC, left_all hC, show R - (r + 1) = m + 1 by omega, show R - r = m + 2 by omega]
  show _ = ch (sumF (fun j => rs (R - (m + 2) + j)) (m + 2)) (rs (R - (m + 2))) * rpN rs R (m + 1)
  rw [show R - (m + 2) = r by omega, show sumF (fun c => tLeft C cm v r c) C = sumF (fun j => rs (r + j)) (m + 2) by omega]
theorem tot_step {s0 s1 s2 W p S x y RP : Nat} (h1 : s1 = s0 + W * (S * RP)) (h2 : s2 = s1 + p * (y * RP)) (hp : p = W * x) : s2 = s0 + W * ((S + x * y) * RP) := by
  subst hp h1 h2
  grind
theorem sum_split1 {f : Nat → Nat} {n lo : Nat} (h : lo ≤ n) : sumF (fun i => f (lo + i)) (n + 1 - lo) = sumF (fun i => f (lo + i)) (n - lo) + f n := by
  rw [show n + 1 - lo = (n - lo) + 1 by omega]
  show _ + f (lo + (n - lo)) = _
  rw [show lo + (n - lo) = n by omega]
theorem tBeh_v1 {C : Nat} {cm v v1 : Nat → Nat} {r c c2 : Nat} (h : ∀ j, j < C * r + c → v1 j = v j) : tBeh C cm v1 r c2 = tBeh C cm v r c2 := by
  unfold tBeh
  exact sumF_congr _ (fun j hj => tLeft_congr (fun i hi => h _ (by have : C * (i + 1) ≤ C * r := Nat.mul_le_mul_left _ hi; rw [Nat.mul_succ] at this; omega)))
theorem tLeft_v1 {C : Nat} {cm v v1 : Nat → Nat} {r c c2 : Nat} (hc : c2 < C) (h : ∀ j, j < C * r + c → v1 j = v j) : tLeft C cm v1 r c2 = tLeft C cm v r c2 := tLeft_congr (fun i hi => h _ (by have : C * (i + 1) ≤ C * r := Nat.mul_le_mul_left _ hi; rw [Nat.mul_succ] at this; omega))
def PF (B : gB) (d : Nat) : Prop := ∀ (ad : Nat → Nat) (ct : Nat → va_E) (n : Nat) (rs cl cm v wv g gt : Nat → Nat) (vs : Nat → Nat → Nat) (R C co F SN sd cn NL : Nat) (hn : 178 ≤ n) (hw : ct 11 = .inr (9, [.ref (ad 12), .ref (ad 13), .ref (ad 14), .ref (ad 15), .ref (ad 16), .int (nI R), .int (nI C), .int (nI co), .int (nI F), .ref (ad 79), .ref (ad 17), .ref (ad 19), .ref (ad 21), .ref (ad 23), .ref (ad 25)])) (ht : ct 12 = .inl (B.2.1 1, 1891, .inr (.inl (lF gt)))) (htri : (∀ a b, a ≤ 60 → b ≤ a → gt (a * (a + 1) / 2 + b) = ch a b)) (hrs : ct 13 = .inl (B.2.1 0, 5, .inl (nF rs))) (hcl : ct 14 = .inl (B.2.1 0, 5, .inl (nF cl))) (hv : ct 15 = .inl (B.2.1 0, 25, .inl (nF v))) (hwr : ct 16 = .inl (B.2.1 3, 26, .inr (.inr (.inr (.inr (fun i => some (ad (27 + 2 * i)))))))) (hR5 : R ≤ 5) (hC5 : C ≤ 5) (hCp : 0 < C) (hsum : sumF rs R = sumF cm C) (hT : sumF cm C ≤ 60) (hco : co ≤ 60) (hsd : sd = (R * C + 9) / 10) (hNL : NL ≤ 200000) (hFS : FS B ad ct cm rs C R SN co sd cn NL g vs wv) (r c : Nat) (hr : r + 1 < R) (hc : c < C) (hd : C * r + c + d = C * (R - 1)) (hval : Val C rs cm (C * r + c) v) (hCL : CL C cm v r c cl) (hb : cn = sumF (tStep (C * R) C rs cm v) (C * r + c)) (hwt : wv (C * r + c) * (facP v (C * r + c) * facP cl C) = facP cm C) (hcn : cn + tCnt (C * R) C rs cm ((C * R) - (C * r + c)) v ≤ 20000) (hrm : (cn + tCnt (C * R) C rs cm ((C * R) - (C * r + c)) v) * sd ≤ NL), Ctr B yX9_fillCell cX9_fillCell 10 none (2 * d + 3) (50 * d + 44) 0 0 ad ct n [.ref (ad 11), .int (nI r), .int (nI c), .int (nI (tRest C rs v (C * r + c))), .int (nI (tLeft C cm v r c + tBeh C cm v r c))] (gPv ad n (fun ct' => ∃ v' g' vs' wv', ct' 15 = .inl (B.2.1 0, 25, .inl (nF v')) ∧ (∀ j, j < (C * r + c) → v' j = v j) ∧ FS B ad ct' cm rs C R SN co sd (cn + tCnt (C * R) C rs cm ((C * R) - (C * r + c)) v) NL g' vs' wv' ∧ (∀ j, j < cn → vs' j = vs j) ∧ (∀ i, i ≤ (C * r + c) → wv' i = wv i) ∧ sTot cm C (C * R) vs' (cn + tCnt (C * R) C rs cm ((C * R) - (C * r + c)) v) = sTot cm C (C * R) vs cn + wv (C * r + c) * (ch (tLeft C cm v r c + tBeh C cm v r c) (tRest C rs v (C * r + c)) * rpN rs R (R - (r + 1))) ∧ ∀ r, r < 15 ∨ (15 < r ∧ r < 21) ∨ 80 < r → ct' r = ct r))
set_option maxHeartbeats 4000000 in
set_option maxRecDepth 100000 in
theorem c_X9_fillRow (B : gB) (d : Nat) (IH : PF B d) (ad : Nat → Nat) (ct : Nat → va_E) (n : Nat) (rs cl cm v wv g gt : Nat → Nat) (vs : Nat → Nat → Nat) (R C co F SN sd cn NL : Nat) (hn : 178 ≤ n) (hw : ct 11 = .inr (9, [.ref (ad 12), .ref (ad 13), .ref (ad 14), .ref (ad 15), .ref (ad 16), .int (nI R), .int (nI C), .int (nI co), .int (nI F), .ref (ad 79), .ref (ad 17), .ref (ad 19), .ref (ad 21), .ref (ad 23), .ref (ad 25)])) (ht : ct 12 = .inl (B.2.1 1, 1891, .inr (.inl (lF gt)))) (htri : (∀ a b, a ≤ 60 → b ≤ a → gt (a * (a + 1) / 2 + b) = ch a b)) (hrs : ct 13 = .inl (B.2.1 0, 5, .inl (nF rs))) (hcl : ct 14 = .inl (B.2.1 0, 5, .inl (nF cl))) (hv : ct 15 = .inl (B.2.1 0, 25, .inl (nF v))) (hwr : ct 16 = .inl (B.2.1 3, 26, .inr (.inr (.inr (.inr (fun i => some (ad (27 + 2 * i)))))))) (hR5 : R ≤ 5) (hC5 : C ≤ 5) (hCp : 0 < C) (hsum : sumF rs R = sumF cm C) (hT : sumF cm C ≤ 60) (hco : co ≤ 60) (hsd : sd = (R * C + 9) / 10) (hNL : NL ≤ 200000) (hFS : FS B ad ct cm rs C R SN co sd cn NL g vs wv) (r : Nat) (hr : r < R) (hd : C * r + d = C * (R - 1)) (hval : Val C rs cm (C * r) v) (hCL : CL C cm v r 0 cl) (hb : cn = sumF (tStep (C * R) C rs cm v) (C * r)) (hwt : wv (C * r) * (facP v (C * r) * facP cl C) = facP cm C) (hcn : cn + tCnt (C * R) C rs cm ((C * R) - (C * r)) v ≤ 20000) (hrm : (cn + tCnt (C * R) C rs cm ((C * R) - (C * r)) v) * sd ≤ NL) : Ctr B yX9_fillRow cX9_fillRow 2 none (2 * d + 4) (50 * d + 73) 0 0 ad ct n [.ref (ad 11), .int (nI r)] (gPv ad n (fun ct' => ∃ v' g' vs' wv', ct' 15 = .inl (B.2.1 0, 25, .inl (nF v')) ∧ (∀ j, j < (C * r) → v' j = v j) ∧ FS B ad ct' cm rs C R SN co sd (cn + tCnt (C * R) C rs cm ((C * R) - (C * r)) v) NL g' vs' wv' ∧ (∀ j, j < cn → vs' j = vs j) ∧ (∀ i, i ≤ (C * r) → wv' i = wv i) ∧ sTot cm C (C * R) vs' (cn + tCnt (C * R) C rs cm ((C * R) - (C * r)) v) = sTot cm C (C * R) vs cn + wv (C * r) * (rpN rs R (R - r)) ∧ ∀ r, r < 15 ∨ (15 < r ∧ r < 21) ∨ 80 < r → ct' r = ct r)) := by
  have hr60 : ∀ r, r < R → rs r ≤ 60 := fun r hr => by have := sumF_mem (f := rs) hr; omega
  have hc60 : ∀ c, c < C → cm c ≤ 60 := fun c hc => by have := sumF_mem (f := cm) hc; omega
  refine Ctr.ofG (L := [(0, .ref (ad 11)), (1, .int (nI r))]) (by decide +kernel) rfl (Nat.le_of_ble_eq_true rfl) (fun E fx rt hnm => ?_)
  refine g_iload_n fx 1 dX9_fillRow_0 rfl ?_
  refine g_iconst (v := nI 1) fx dX9_fillRow_1 (by decide +kernel) ?_
  refine g_iaddN fx dX9_fillRow_2 ?_
  refine g_aload_n fx 0 dX9_fillRow_3 rfl ?_
  refine g_get (r := 11) fx lkX9_92 (by omega) hw rfl dX9_fillRow_4 ?_
  refine g_icmp_ge fx 29 dX9_fillRow_7 (by decide) (fun c7 => ?_) (fun c7 => ?_)
  · skip
    have hRe : R = r + 1 := by have := (nI_leI (by omega) (by omega)).mp c7; omega
    have h1 : tCnt (C * R) C rs cm ((C * R) - (C * r)) v = 1 := by
      rw [hRe, show C * (r + 1) - C * r = C by rw [Nat.mul_succ]; omega]
      exact last_one (R := r) hCp (by rw [← hRe]; exact hsum) C v (Nat.le_refl _) (by rw [show C * (r + 1) - C = C * r by rw [Nat.mul_succ]; omega]; exact hval)
    rw [h1] at hcn hrm
    refine g_aload_n fx 0 dX9_fillRow_29 rfl ?_
    refine g_iload_n fx 1 dX9_fillRow_30 rfl ?_
    refine g_aload_n fx 0 dX9_fillRow_31 rfl ?_
    refine g_get (r := 11) fx lkX9_97 (by omega) hw rfl dX9_fillRow_32 ?_
    refine g_imulN fx dX9_fillRow_35 ?_
    refine g_isi (y := nI (C * r)) (by rw [Nat.mul_comm]) ?_
    refine g_callVv (As := [.int (nI (C * r))]) (rest := []) fx slX9_137 (c_X9_fillLastRow B ad ct n rs cl cm v wv g gt vs R C co F SN sd cn NL hn hw ht htri hrs hcl hv hwr hR5 hC5 hCp hsum hT hco hsd hNL hFS r hRe hval hCL hb hwt (by omega) (by rw [Nat.succ_mul] at hrm; exact hrm)) (by omega) hw rfl rfl rfl (Nat.le_of_ble_eq_true rfl) ⟨by dsimp only; omega, by dsimp only; omega⟩ ⟨Nat.le_refl _, Nat.le_refl _⟩ dX9_fillRow_36 (fun ct2 hz2 => ?_)
    refine g_vret fx rt dX9_fillRow_39 ?_
    have h2 : rpN rs R (R - r) = 1 := by rw [show R - r = 1 by omega]; rfl
    rw [h1, h2]
    exact gPv.mk hz2
  · skip
    have hr1 : r + 1 < R := (nI_ltI (by omega) (by omega)).mp (Int32.not_le.mp c7)
    refine g_aload_n fx 0 dX9_fillRow_10 rfl ?_
    refine g_iload_n fx 1 dX9_fillRow_11 rfl ?_
    refine g_iconst (v := nI 0) fx dX9_fillRow_12 (by decide +kernel) ?_
    refine g_aload_n fx 0 dX9_fillRow_13 rfl ?_
    refine g_get (r := 11) fx lkX9_15 (by omega) hw rfl dX9_fillRow_14 ?_
    refine g_iload_n fx 1 dX9_fillRow_17 rfl ?_
    refine g_iald (r := 13) (j := r) fx (by omega) hrs (nI_toInt (by omega)) (by omega) dX9_fillRow_18 ?_
    refine g_isi (y := nI (rs r)) rfl ?_
    refine g_isi (y := nI (tRest C rs v (C * r + 0))) (by rw [Nat.add_zero, rest_row hCp]) ?_
    refine g_aload_n fx 0 dX9_fillRow_19 rfl ?_
    refine g_callVip (As := []) (rest := [.int (nI (tRest C rs v (C * r + 0))), .int (nI 0), .int (nI r), .ref (ad 11)]) fx slX9_124 (c_X9_sumOfColumnsLeft B ad ct n cl R C co F (.ref (ad 79)) hn hw hcl hC5) (by omega) hw rfl rfl rfl (Nat.le_of_ble_eq_true rfl) ⟨by dsimp only; omega, by dsimp only; omega⟩ ⟨Nat.le_refl _, Nat.le_refl _⟩ dX9_fillRow_20 (fun q1 hq1 => ?_)
    rw [hCL.sum hCp] at hq1
    refine g_isi (y := nI (tLeft C cm v r 0 + tBeh C cm v r 0)) hq1 ?_
    refine g_callVv (As := [.int (nI r), .int (nI 0), .int (nI (tRest C rs v (C * r + 0))), .int (nI (tLeft C cm v r 0 + tBeh C cm v r 0))]) (rest := []) fx slX9_134 (IH ad ct n rs cl cm v wv g gt vs R C co F SN sd cn NL hn hw ht htri hrs hcl hv hwr hR5 hC5 hCp hsum hT hco hsd hNL hFS r 0 hr1 hCp hd hval hCL hb hwt hcn hrm) (by omega) hw rfl rfl rfl (Nat.le_of_ble_eq_true rfl) ⟨by dsimp only; omega, by dsimp only; omega⟩ ⟨Nat.le_refl _, Nat.le_refl _⟩ dX9_fillRow_23 (fun ct1 hz1 => ?_)
    refine g_goto fx 39 dX9_fillRow_26 (by decide) ?_
    refine g_vret fx rt dX9_fillRow_39 ?_
    rw [rp_row hCp hr1 hsum hval] at hz1
    exact gPv.mk hz1
set_option maxHeartbeats 4000000 in
set_option maxRecDepth 100000 in
theorem c_X9_fillCell_s (B : gB) (d : Nat) (IH : ∀ d2, d2 < d → PF B d2) (ad : Nat → Nat) (ct : Nat → va_E) (n : Nat) (rs cl cm v wv g gt : Nat → Nat) (vs : Nat → Nat → Nat) (R C co F SN sd cn NL : Nat) (hn : 178 ≤ n) (hw : ct 11 = .inr (9, [.ref (ad 12), .ref (ad 13), .ref (ad 14), .ref (ad 15), .ref (ad 16), .int (nI R), .int (nI C), .int (nI co), .int (nI F), .ref (ad 79), .ref (ad 17), .ref (ad 19), .ref (ad 21), .ref (ad 23), .ref (ad 25)])) (ht : ct 12 = .inl (B.2.1 1, 1891, .inr (.inl (lF gt)))) (htri : (∀ a b, a ≤ 60 → b ≤ a → gt (a * (a + 1) / 2 + b) = ch a b)) (hrs : ct 13 = .inl (B.2.1 0, 5, .inl (nF rs))) (hcl : ct 14 = .inl (B.2.1 0, 5, .inl (nF cl))) (hv : ct 15 = .inl (B.2.1 0, 25, .inl (nF v))) (hwr : ct 16 = .inl (B.2.1 3, 26, .inr (.inr (.inr (.inr (fun i => some (ad (27 + 2 * i)))))))) (hR5 : R ≤ 5) (hC5 : C ≤ 5) (hCp : 0 < C) (hsum : sumF rs R = sumF cm C) (hT : sumF cm C ≤ 60) (hco : co ≤ 60) (hsd : sd = (R * C + 9) / 10) (hNL : NL ≤ 200000) (hFS : FS B ad ct cm rs C R SN co sd cn NL g vs wv) (r c : Nat) (hr : r + 1 < R) (hc : c < C) (hd : C * r + c + d = C * (R - 1)) (hval : Val C rs cm (C * r + c) v) (hCL : CL C cm v r c cl) (hb : cn = sumF (tStep (C * R) C rs cm v) (C * r + c)) (hwt : wv (C * r + c) * (facP v (C * r + c) * facP cl C) = facP cm C) (hcn : cn + tCnt (C * R) C rs cm ((C * R) - (C * r + c)) v ≤ 20000) (hrm : (cn + tCnt (C * R) C rs cm ((C * R) - (C * r + c)) v) * sd ≤ NL) : Ctr B yX9_fillCell cX9_fillCell 10 none (2 * d + 3) (50 * d + 44) 0 0 ad ct n [.ref (ad 11), .int (nI r), .int (nI c), .int (nI (tRest C rs v (C * r + c))), .int (nI (tLeft C cm v r c + tBeh C cm v r c))] (gPv ad n (fun ct' => ∃ v' g' vs' wv', ct' 15 = .inl (B.2.1 0, 25, .inl (nF v')) ∧ (∀ j, j < (C * r + c) → v' j = v j) ∧ FS B ad ct' cm rs C R SN co sd (cn + tCnt (C * R) C rs cm ((C * R) - (C * r + c)) v) NL g' vs' wv' ∧ (∀ j, j < cn → vs' j = vs j) ∧ (∀ i, i ≤ (C * r + c) → wv' i = wv i) ∧ sTot cm C (C * R) vs' (cn + tCnt (C * R) C rs cm ((C * R) - (C * r + c)) v) = sTot cm C (C * R) vs cn + wv (C * r + c) * (ch (tLeft C cm v r c + tBeh C cm v r c) (tRest C rs v (C * r + c)) * rpN rs R (R - (r + 1))) ∧ ∀ r, r < 15 ∨ (15 < r ∧ r < 21) ∨ 80 < r → ct' r = ct r)) := by
  have hr60 : ∀ r, r < R → rs r ≤ 60 := fun r hr => by have := sumF_mem (f := rs) hr; omega
  have hc60 : ∀ c, c < C → cm c ≤ 60 := fun c hc => by have := sumF_mem (f := cm) hc; omega
  have hfr : ∀ r, r < 14 ∨ (15 < r ∧ r < 21) ∨ 80 < r → ct r = ct r := fun _ _ => rfl
  have hcl0 := hcl
  have hcr : C * (r + 1) ≤ C * (R - 1) := Nat.mul_le_mul_left _ (by omega)
  rw [Nat.mul_succ] at hcr
  have hCR : C * R = C * (R - 1) + C := by obtain ⟨z, rfl⟩ : ∃ z, R = z + 1 := ⟨R - 1, by omega⟩; rw [Nat.mul_succ]; rfl
  have hR20 : C * (R - 1) ≤ 20 := Nat.mul_le_mul hC5 (show R - 1 ≤ 4 by omega)
  have hd0 : 0 < d := by omega
  have hca := hCL.at hc
  have hlc : tLeft C cm v r c ≤ 60 := Nat.le_trans (Nat.sub_le _ _) (hc60 c hc)
  have hbe : (tBeh C cm v r c) ≤ 60 := Nat.le_trans (beh_le (R := R) (rm := rs)) hT
  have hle := Nat.le_trans (rest_le (rm := rs) (v := v) (r := r) hc) (hr60 r (by omega))
  have hlo := lo_eq (rm := rs) (cm := cm) (v := v) (r := r) hc
  have hhi := hi_eq (rm := rs) (cm := cm) (v := v) (r := r) hc
  have hlh := lo_hi hCp hsum (k := (C * r + c)) (by omega) hval
  have hfe := feas hCp hsum (show r < R by omega) c hc hval
  have hcmf := facP_fac hT
  refine Ctr.ofG (L := [(0, .ref (ad 11)), (1, .int (nI r)), (2, .int (nI c)), (3, .int (nI (tRest C rs v (C * r + c)))), (4, .int (nI (tLeft C cm v r c + tBeh C cm v r c)))]) (by decide +kernel) rfl (Nat.le_of_ble_eq_true rfl) (fun E fx rt hnm => ?_)
  refine g_iload_n fx 1 dX9_fillCell_0 rfl ?_
  refine g_aload_n fx 0 dX9_fillCell_1 rfl ?_
  refine g_get (r := 11) fx lkX9_97 (by omega) hw rfl dX9_fillCell_2 ?_
  refine g_imulN fx dX9_fillCell_5 ?_
  refine g_isi (y := nI (C * r)) (by rw [Nat.mul_comm]) ?_
  refine g_iload_n fx 2 dX9_fillCell_6 rfl ?_
  refine g_iaddN fx dX9_fillCell_7 ?_
  refine g_istore (L' := [(5, .int (nI (C * r + c))), (0, .ref (ad 11)), (1, .int (nI r)), (2, .int (nI c)), (3, .int (nI (tRest C rs v (C * r + c)))), (4, .int (nI (tLeft C cm v r c + tBeh C cm v r c)))]) fx dX9_fillCell_8 (by decide) rfl ?_
  refine g_aload_n fx 1 dX9_fillCell_10 rfl ?_
  refine g_get (r := 11) fx lkX9_19 (by omega) hw rfl dX9_fillCell_11 ?_
  refine g_iload_n fx 3 dX9_fillCell_14 rfl ?_
  refine g_iald (r := 14) (j := c) fx (by omega) hcl (nI_toInt (by omega)) (by omega) dX9_fillCell_15 ?_
  refine g_isi (y := nI (cl c)) rfl ?_
  refine g_istore (L' := [(6, .int (nI (cl c))), (5, .int (nI (C * r + c))), (0, .ref (ad 11)), (1, .int (nI r)), (2, .int (nI c)), (3, .int (nI (tRest C rs v (C * r + c)))), (4, .int (nI (tLeft C cm v r c + tBeh C cm v r c)))]) fx dX9_fillCell_16 (by decide) rfl ?_
  refine g_iload fx 6 dX9_fillCell_18 rfl ?_
  refine g_iload fx 0 dX9_fillCell_20 rfl ?_
  refine g_isub fx dX9_fillCell_22 ?_
  refine g_isi (y := nI (tBeh C cm v r c)) (by rw [hca, pk_sub (by omega), Nat.add_sub_cancel_left]) ?_
  refine g_istore (L' := [(7, .int (nI (tBeh C cm v r c))), (6, .int (nI (cl c))), (5, .int (nI (C * r + c))), (0, .ref (ad 11)), (1, .int (nI r)), (2, .int (nI c)), (3, .int (nI (tRest C rs v (C * r + c)))), (4, .int (nI (tLeft C cm v r c + tBeh C cm v r c)))]) fx dX9_fillCell_23 (by decide) rfl ?_
  refine g_iload_n fx 6 dX9_fillCell_25 rfl ?_
  refine g_iload fx 1 dX9_fillCell_26 rfl ?_
  refine g_callSip (As := [.int (nI (tRest C rs v (C * r + c))), .int (nI (cl c))]) (rest := []) fx slX9_86 (c_J9_min_7cf53 B ad ct n (nI (tRest C rs v (C * r + c))) (nI (cl c))) rfl rfl (Nat.le_of_ble_eq_true rfl) ⟨by dsimp only; omega, by dsimp only; omega⟩ ⟨Nat.le_refl _, Nat.le_refl _⟩ dX9_fillCell_28 (fun q2 hq2 => ?_)
  rw [min_nI (by omega) (by omega), hca, ← hhi] at hq2
  refine g_isi (y := nI (tHi C rs cm v (C * r + c))) hq2 ?_
  refine g_istore (L' := [(8, .int (nI (tHi C rs cm v (C * r + c)))), (7, .int (nI (tBeh C cm v r c))), (6, .int (nI (cl c))), (5, .int (nI (C * r + c))), (0, .ref (ad 11)), (1, .int (nI r)), (2, .int (nI c)), (3, .int (nI (tRest C rs v (C * r + c)))), (4, .int (nI (tLeft C cm v r c + tBeh C cm v r c)))]) fx dX9_fillCell_31 (by decide) rfl ?_
  refine g_iconst (v := nI 0) fx dX9_fillCell_33 (by decide +kernel) ?_
  refine g_iload_n fx 7 dX9_fillCell_34 rfl ?_
  refine g_iload fx 1 dX9_fillCell_35 rfl ?_
  refine g_isub fx dX9_fillCell_37 ?_
  refine g_callSip (As := [.int (nI 0), .int ((nI (tRest C rs v (C * r + c))) - (nI (tBeh C cm v r c)))]) (rest := []) fx slX9_131 (c_J9_max_7cf53 B ad ct n (nI 0) (nI (tRest C rs v (C * r + c)) - nI (tBeh C cm v r c))) rfl rfl (Nat.le_of_ble_eq_true rfl) ⟨by dsimp only; omega, by dsimp only; omega⟩ ⟨Nat.le_refl _, Nat.le_refl _⟩ dX9_fillCell_38 (fun q1 hq1 => ?_)
  rw [max0 (by omega) (by omega), ← hlo] at hq1
  refine g_isi (y := nI (tLo C rs cm v (C * r + c))) hq1 ?_
  refine g_istore (L' := [(9, .int (nI (tLo C rs cm v (C * r + c)))), (8, .int (nI (tHi C rs cm v (C * r + c)))), (7, .int (nI (tBeh C cm v r c))), (6, .int (nI (cl c))), (5, .int (nI (C * r + c))), (0, .ref (ad 11)), (1, .int (nI r)), (2, .int (nI c)), (3, .int (nI (tRest C rs v (C * r + c)))), (4, .int (nI (tLeft C cm v r c + tBeh C cm v r c)))]) fx dX9_fillCell_41 (by decide) rfl ?_
  have LP43 : ∀ (M : Nat) (m x A S : Nat) (ct1 : Nat → va_E) (v1 g1 : Nat → Nat) (vs1 : Nat → Nat → Nat) (wv1 : Nat → Nat), ((tLo C rs cm v (C * r + c)) ≤ m) → (m ≤ (tHi C rs cm v (C * r + c)) + 1) → (A = sumF (fun m => tCnt (C * R) C rs cm ((C * R) - ((C * r + c) + 1)) (va_up v (C * r + c) ((tLo C rs cm v (C * r + c)) + m))) (m - (tLo C rs cm v (C * r + c)))) → (S = sumF (fun i => ch (cl c) ((tLo C rs cm v (C * r + c)) + i) * ch (tBeh C cm v r c) ((tRest C rs v (C * r + c)) - ((tLo C rs cm v (C * r + c)) + i))) (m - (tLo C rs cm v (C * r + c)))) → (ct1 11 = .inr (9, [.ref (ad 12), .ref (ad 13), .ref (ad 14), .ref (ad 15), .ref (ad 16), .int (nI R), .int (nI C), .int (nI co), .int (nI F), .ref (ad 79), .ref (ad 17), .ref (ad 19), .ref (ad 21), .ref (ad 23), .ref (ad 25)])) → (ct1 12 = .inl (B.2.1 1, 1891, .inr (.inl (lF gt)))) → (ct1 13 = .inl (B.2.1 0, 5, .inl (nF rs))) → (ct1 14 = .inl (B.2.1 0, 5, .inl (nF (va_up cl c x)))) → (ct1 15 = .inl (B.2.1 0, 25, .inl (nF v1))) → (ct1 16 = .inl (B.2.1 3, 26, .inr (.inr (.inr (.inr (fun i => some (ad (27 + 2 * i)))))))) → (∀ j, j < (C * r + c) → v1 j = v j) → (FS B ad ct1 cm rs C R SN co sd (cn + A) NL g1 vs1 wv1) → (∀ j, j < cn → vs1 j = vs j) → (∀ i, i ≤ (C * r + c) → wv1 i = wv i) → (sTot cm C (C * R) vs1 (cn + A) = sTot cm C (C * R) vs cn + wv (C * r + c) * (S * rpN rs R (R - (r + 1)))) → (∀ r, r < 14 ∨ (15 < r ∧ r < 21) ∨ 80 < r → ct1 r = ct r) →  ((tHi C rs cm v (C * r + c)) + 1 - m) < M → G B 10 E ad ct1 n 0 0 [(0, .ref (ad 11)), (1, .int (nI r)), (2, .int (nI c)), (3, .int (nI (tRest C rs v (C * r + c)))), (5, .int (nI (C * r + c))), (6, .int (nI (cl c))), (7, .int (nI (tBeh C cm v r c))), (8, .int (nI (tHi C rs cm v (C * r + c)))), (9, .int (nI m))] 43 [] := by
    intro M
    induction M with
    | zero => intro m x A S ct1 v1 g1 vs1 wv1 _ _ _ _ _ _ _ _ _ _ _ _ _ _ _ _ hM; exact absurd hM (Nat.not_lt_zero _)
    | succ M ih =>
      intro m x A S ct1 v1 g1 vs1 wv1 hm1 hm2 hA hS hw ht hrs hcl hv hwr hv1 hFS hvs hwv1 hsT hfr hM
      have ih43 := ih
      refine g_iload fx 8 dX9_fillCell_43 rfl ?_
      refine g_iload fx 7 dX9_fillCell_45 rfl ?_
      refine g_icmp_gt fx 137 dX9_fillCell_47 (by decide) (fun c47 => ?_) (fun c47 => ?_)
      · skip
        have hme : m = (tHi C rs cm v (C * r + c)) + 1 := by have := (nI_ltI (a := (tHi C rs cm v (C * r + c))) (b := m) (by omega) (by omega)).mp c47; omega
        have hAe : A = tCnt (C * R) C rs cm ((C * R) - (C * r + c)) v := by rw [tCnt_step (k := (C * r + c)) (by omega), ← hme]; exact hA
        have hSe : S = ch (tLeft C cm v r c + tBeh C cm v r c) (tRest C rs v (C * r + c)) := by rw [hS, hme, hhi, hlo, ← hca]; exact vand_rng (by rw [hca]; exact hfe)
        refine g_aload_n fx 0 dX9_fillCell_137 rfl ?_
        refine g_get (r := 11) fx lkX9_19 (by omega) hw rfl dX9_fillCell_138 ?_
        refine g_iload_n fx 2 dX9_fillCell_141 rfl ?_
        refine g_iload fx 5 dX9_fillCell_142 rfl ?_
        refine g_iast (r := 14) (j := c) fx (by omega) hcl (nI_toInt (by omega)) (by omega) dX9_fillCell_144 (fun ct9 ect9 => ?_)
        have hfr : ∀ r, r < 14 ∨ (15 < r ∧ r < 21) ∨ 80 < r → ct9 r = ct r := fun r hp => (congrFun ect9 r).trans ((va_up_ne _ _ (by omega)).trans (hfr r hp))
        have hw : ct9 11 = .inr (9, [.ref (ad 12), .ref (ad 13), .ref (ad 14), .ref (ad 15), .ref (ad 16), .int (nI R), .int (nI C), .int (nI co), .int (nI F), .ref (ad 79), .ref (ad 17), .ref (ad 19), .ref (ad 21), .ref (ad 23), .ref (ad 25)]) := (congrFun ect9 _).trans ((va_up_ne _ _ (by omega)).trans hw)
        have ht : ct9 12 = .inl (B.2.1 1, 1891, .inr (.inl (lF gt))) := (congrFun ect9 _).trans ((va_up_ne _ _ (by omega)).trans ht)
        have hrs : ct9 13 = .inl (B.2.1 0, 5, .inl (nF rs)) := (congrFun ect9 _).trans ((va_up_ne _ _ (by omega)).trans hrs)
        have hcl : ct9 14 = .inl (B.2.1 0, 5, .inl (nF (va_up (va_up cl c x) c (cl c)))) := by rw [ect9, va_up_self, nF_up]
        have hv : ct9 15 = .inl (B.2.1 0, 25, .inl (nF v1)) := (congrFun ect9 _).trans ((va_up_ne _ _ (by omega)).trans hv)
        have hwr : ct9 16 = .inl (B.2.1 3, 26, .inr (.inr (.inr (.inr (fun i => some (ad (27 + 2 * i))))))) := (congrFun ect9 _).trans ((va_up_ne _ _ (by omega)).trans hwr)
        rw [up_back] at hcl
        refine g_vret fx rt dX9_fillCell_145 ?_
        rw [← hAe, ← hSe]
        refine gPv.mk ⟨v1, g1, vs1, wv1, hv, hv1, hFS.frame (fun r h1 h2 => by rw [ect9, va_up_ne _ _ (by omega)]), hvs, hwv1, hsT, fun r2 h2 => ?_⟩
        by_cases q : r2 = 14
        · subst q; exact hcl.trans hcl0.symm
        · exact hfr r2 (by omega)
      · skip
        have hmh : m ≤ (tHi C rs cm v (C * r + c)) := Nat.le_of_not_lt (fun q => c47 ((nI_ltI (by omega) (by omega)).mpr q))
        have hmc : m ≤ cl c := by rw [hca]; omega
        have hv2 := val_next (w := (va_up v1 (C * r + c) m)) hCp hval (fun i hi => by rw [va_up_ne _ _ (by omega)]; exact hv1 i hi) (by rw [va_up_self]; exact hm1) (by rw [va_up_self]; exact hmh)
        have hCL2 := (hCL.congr (Nat.le_of_lt hc) hv1).next (n := m) hc
        have hb2 : cn + A = sumF (tStep (C * R) C rs cm (va_up v1 (C * r + c) m)) ((C * r + c) + 1) := by rw [base_step hCp (by omega) hv1, ← hb, hA]
        have hwK : wv1 (C * r + c) = wv (C * r + c) := hwv1 _ (Nat.le_refl _)
        have hwt2 := wt_step (k := (C * r + c)) (m := m) hc hmc (p := wv1 (C * r + c)) (v := v1) (cl := cl) (cm := cm) (by rw [hwK, facP_congr _ hv1]; exact hwt)
        have hpb : wv1 (C * r + c) * ch (cl c) m ≤ fac 60 := Nat.le_trans (by rw [← hwt2]; exact Nat.le_mul_of_pos_right _ (Nat.mul_pos (facP_pos _ _) (facP_pos _ _))) hcmf
        have htt : tCnt (C * R) C rs cm ((C * R) - ((C * r + c) + 1)) (va_up v (C * r + c) m) = tCnt (C * R) C rs cm ((C * R) - ((C * r + c) + 1)) (va_up v1 (C * r + c) m) := tCnt_congr hCp _ _ _ (by omega) (fun i hi => by by_cases q : i = (C * r + c); (rw [q, va_up_self, va_up_self]); (rw [va_up_ne _ _ q, va_up_ne _ _ q]; exact (hv1 i (by omega)).symm))
        have hXX : A + tCnt (C * R) C rs cm ((C * R) - ((C * r + c) + 1)) (va_up v1 (C * r + c) m) ≤ tCnt (C * R) C rs cm ((C * R) - (C * r + c)) v := by rw [tCnt_step (k := (C * r + c)) (by omega), ← htt, hA, ← cnt_split hm1]; exact sumF_le2 (by omega)
        have hcn2 : cn + A + tCnt (C * R) C rs cm ((C * R) - ((C * r + c) + 1)) (va_up v1 (C * r + c) m) ≤ 20000 := by omega
        have hrm2 : (cn + A + tCnt (C * R) C rs cm ((C * R) - ((C * r + c) + 1)) (va_up v1 (C * r + c) m)) * sd ≤ NL := Nat.le_trans (Nat.mul_le_mul_right _ (by omega)) hrm
        refine g_aload_n fx 0 dX9_fillCell_50 rfl ?_
        refine g_get (r := 11) fx lkX9_22 (by omega) hw rfl dX9_fillCell_51 ?_
        refine g_iload fx 4 dX9_fillCell_54 rfl ?_
        refine g_iload fx 8 dX9_fillCell_56 rfl ?_
        refine g_iast (r := 15) (j := (C * r + c)) fx (by omega) hv (nI_toInt (by omega)) (by omega) dX9_fillCell_58 (fun ct2 ect2 => ?_)
        have hfr : ∀ r, r < 14 ∨ (15 < r ∧ r < 21) ∨ 80 < r → ct2 r = ct r := fun r hp => (congrFun ect2 r).trans ((va_up_ne _ _ (by omega)).trans (hfr r hp))
        have hw : ct2 11 = .inr (9, [.ref (ad 12), .ref (ad 13), .ref (ad 14), .ref (ad 15), .ref (ad 16), .int (nI R), .int (nI C), .int (nI co), .int (nI F), .ref (ad 79), .ref (ad 17), .ref (ad 19), .ref (ad 21), .ref (ad 23), .ref (ad 25)]) := (congrFun ect2 _).trans ((va_up_ne _ _ (by omega)).trans hw)
        have ht : ct2 12 = .inl (B.2.1 1, 1891, .inr (.inl (lF gt))) := (congrFun ect2 _).trans ((va_up_ne _ _ (by omega)).trans ht)
        have hrs : ct2 13 = .inl (B.2.1 0, 5, .inl (nF rs)) := (congrFun ect2 _).trans ((va_up_ne _ _ (by omega)).trans hrs)
        have hcl : ct2 14 = .inl (B.2.1 0, 5, .inl (nF (va_up cl c x))) := (congrFun ect2 _).trans ((va_up_ne _ _ (by omega)).trans hcl)
        have hv : ct2 15 = .inl (B.2.1 0, 25, .inl (nF (va_up v1 (C * r + c) m))) := by rw [ect2, va_up_self, nF_up]
        have hwr : ct2 16 = .inl (B.2.1 3, 26, .inr (.inr (.inr (.inr (fun i => some (ad (27 + 2 * i))))))) := (congrFun ect2 _).trans ((va_up_ne _ _ (by omega)).trans hwr)
        refine g_aload_n fx 0 dX9_fillCell_59 rfl ?_
        refine g_get (r := 11) fx lkX9_19 (by omega) hw rfl dX9_fillCell_60 ?_
        refine g_iload_n fx 2 dX9_fillCell_63 rfl ?_
        refine g_iload fx 5 dX9_fillCell_64 rfl ?_
        refine g_iload fx 8 dX9_fillCell_66 rfl ?_
        refine g_isubN fx dX9_fillCell_68 hmc ?_
        refine g_iast (r := 14) (j := c) fx (by omega) hcl (nI_toInt (by omega)) (by omega) dX9_fillCell_69 (fun ct3 ect3 => ?_)
        have hfr : ∀ r, r < 14 ∨ (15 < r ∧ r < 21) ∨ 80 < r → ct3 r = ct r := fun r hp => (congrFun ect3 r).trans ((va_up_ne _ _ (by omega)).trans (hfr r hp))
        have hw : ct3 11 = .inr (9, [.ref (ad 12), .ref (ad 13), .ref (ad 14), .ref (ad 15), .ref (ad 16), .int (nI R), .int (nI C), .int (nI co), .int (nI F), .ref (ad 79), .ref (ad 17), .ref (ad 19), .ref (ad 21), .ref (ad 23), .ref (ad 25)]) := (congrFun ect3 _).trans ((va_up_ne _ _ (by omega)).trans hw)
        have ht : ct3 12 = .inl (B.2.1 1, 1891, .inr (.inl (lF gt))) := (congrFun ect3 _).trans ((va_up_ne _ _ (by omega)).trans ht)
        have hrs : ct3 13 = .inl (B.2.1 0, 5, .inl (nF rs)) := (congrFun ect3 _).trans ((va_up_ne _ _ (by omega)).trans hrs)
        have hcl : ct3 14 = .inl (B.2.1 0, 5, .inl (nF (va_up (va_up cl c x) c ((cl c) - m)))) := by rw [ect3, va_up_self, nF_up]
        have hv : ct3 15 = .inl (B.2.1 0, 25, .inl (nF (va_up v1 (C * r + c) m))) := (congrFun ect3 _).trans ((va_up_ne _ _ (by omega)).trans hv)
        have hwr : ct3 16 = .inl (B.2.1 3, 26, .inr (.inr (.inr (.inr (fun i => some (ad (27 + 2 * i))))))) := (congrFun ect3 _).trans ((va_up_ne _ _ (by omega)).trans hwr)
        rw [up_twice] at hcl
        refine g_aload_n fx 0 dX9_fillCell_70 rfl ?_
        refine g_get (r := 11) fx lkX9_27 (by omega) hw rfl dX9_fillCell_71 ?_
        refine g_iload fx 4 dX9_fillCell_74 rfl ?_
        refine g_iconst (v := nI 1) fx dX9_fillCell_76 (by decide +kernel) ?_
        refine g_iaddN fx dX9_fillCell_77 ?_
        refine g_aald (r := 16) (j := ((C * r + c) + 1)) (t0 := 3) fx rfl (by omega) hwr (nI_toInt (by omega)) (by omega) rfl dX9_fillCell_78 ?_
        refine g_aload_n fx 0 dX9_fillCell_79 rfl ?_
        refine g_get (r := 11) fx lkX9_27 (by omega) hw rfl dX9_fillCell_80 ?_
        refine g_iload fx 4 dX9_fillCell_83 rfl ?_
        refine g_aald (r := 16) (j := (C * r + c)) (t0 := 3) fx rfl (by omega) hwr (nI_toInt (by omega)) (by omega) rfl dX9_fillCell_85 ?_
        refine g_aload_n fx 0 dX9_fillCell_86 rfl ?_
        refine g_iload fx 5 dX9_fillCell_87 rfl ?_
        refine g_iload fx 8 dX9_fillCell_89 rfl ?_
        refine g_callVlp (As := [.int (nI (cl c)), .int (nI m)]) (rest := [.ref (ad (27 + 2 * (C * r + c))), .ref (ad (27 + 2 * ((C * r + c) + 1)))]) fx slX9_116 (c_X9_choose B ad ct3 n gt R C co F (.ref (ad 79)) hn hw ht htri (cl c) m (by omega) hmc) (by omega) hw rfl rfl rfl (Nat.le_of_ble_eq_true rfl) ⟨by dsimp only; omega, by dsimp only; omega⟩ ⟨Nat.le_refl _, Nat.le_refl _⟩ dX9_fillCell_91 (fun q3 hq3 => ?_)
        obtain rfl := hq3
        have hFSb := hFS.frame (ct' := ct3) (fun r h1 h2 => by rw [ect3, va_up_ne _ _ (by omega), ect2, va_up_ne _ _ (by omega)])
        obtain ⟨szA, gA, hrA, _, _⟩ := hFSb.2.2.2.2.1 ((C * r + c) + 1) (by omega)
        refine g_callVv (As := [.ref (ad (27 + 2 * (C * r + c))), .long (lN (ch (cl c) m))]) (rest := []) fx slX9_120 (c_X10_setProduct B ad ct3 n (27 + 2 * ((C * r + c) + 1)) (27 + 2 * (C * r + c)) szA (wv1 (C * r + c)) (ch (cl c) m) gA (by omega) (by omega) (by omega) (by omega) (by omega) hrA (hFSb.2.2.2.2.1 (C * r + c) (by omega)) (ch_64 (by omega)) (Nat.lt_of_le_of_lt hpb fac_w)) (by omega) (isW.ob (hFSb.2.2.2.2.1 ((C * r + c) + 1) (by omega))).choose_spec rfl rfl rfl (Nat.le_of_ble_eq_true rfl) ⟨by dsimp only; omega, by dsimp only; omega⟩ ⟨Nat.le_refl _, Nat.le_refl _⟩ dX9_fillCell_94 (fun ct4 hz4 => ?_)
        obtain ⟨hW4, hs4⟩ := hz4
        have hFS4 := hFSb.wt (j := (C * r + c) + 1) (by omega) hW4 hs4
        have hw : ct4 11 = .inr (9, [.ref (ad 12), .ref (ad 13), .ref (ad 14), .ref (ad 15), .ref (ad 16), .int (nI R), .int (nI C), .int (nI co), .int (nI F), .ref (ad 79), .ref (ad 17), .ref (ad 19), .ref (ad 21), .ref (ad 23), .ref (ad 25)]) := (hs4 11 (by omega) (by omega)).trans hw
        have ht : ct4 12 = .inl (B.2.1 1, 1891, .inr (.inl (lF gt))) := (hs4 12 (by omega) (by omega)).trans ht
        have hrs : ct4 13 = .inl (B.2.1 0, 5, .inl (nF rs)) := (hs4 13 (by omega) (by omega)).trans hrs
        have hcl : ct4 14 = .inl (B.2.1 0, 5, .inl (nF (va_up cl c (cl c - m)))) := (hs4 14 (by omega) (by omega)).trans hcl
        have hv : ct4 15 = .inl (B.2.1 0, 25, .inl (nF (va_up v1 (C * r + c) m))) := (hs4 15 (by omega) (by omega)).trans hv
        have hwr : ct4 16 = .inl (B.2.1 3, 26, .inr (.inr (.inr (.inr (fun i => some (ad (27 + 2 * i))))))) := (hs4 16 (by omega) (by omega)).trans hwr
        have hfr : ∀ r, r < 14 ∨ (15 < r ∧ r < 21) ∨ 80 < r → ct4 r = ct r := fun r h => (hs4 r (by omega) (by omega)).trans (hfr r h)
        have hwt4 : va_up wv1 ((C * r + c) + 1) (wv1 (C * r + c) * ch (cl c) m) ((C * r + c) + 1) * (facP (va_up v1 (C * r + c) m) ((C * r + c) + 1) * facP (va_up cl c (cl c - m)) C) = facP cm C := by rw [va_up_self]; exact hwt2
        refine g_iload_n fx 2 dX9_fillCell_97 rfl ?_
        refine g_iconst (v := nI 1) fx dX9_fillCell_98 (by decide +kernel) ?_
        refine g_iaddN fx dX9_fillCell_99 ?_
        refine g_aload_n fx 0 dX9_fillCell_100 rfl ?_
        refine g_get (r := 11) fx lkX9_97 (by omega) hw rfl dX9_fillCell_101 ?_
        refine g_icmp_ge fx 124 dX9_fillCell_104 (by decide) (fun c104 => ?_) (fun c104 => ?_)
        · skip
          have hcC : c + 1 = C := by have := (nI_leI (by omega) (by omega)).mp c104; omega
          refine g_aload_n fx 0 dX9_fillCell_124 rfl ?_
          refine g_iload_n fx 1 dX9_fillCell_125 rfl ?_
          refine g_iconst (v := nI 1) fx dX9_fillCell_126 (by decide +kernel) ?_
          refine g_iaddN fx dX9_fillCell_127 ?_
          have hrk : C * (r + 1) = (C * r + c) + 1 := by rw [Nat.mul_succ]; omega
          rw [hcC] at hCL2
          have hbe0 : (tBeh C cm v r c) = 0 := by unfold tBeh; rw [show C - (c + 1) = 0 by omega]; rfl
          refine g_callVv (As := [.int (nI (r + 1))]) (rest := []) fx slX9_80 (c_X9_fillRow B (d - 1) (IH (d - 1) (by omega)) ad ct4 n rs (va_up cl c (cl c - m)) cm (va_up v1 (C * r + c) m) (va_up wv1 ((C * r + c) + 1) (wv1 (C * r + c) * ch (cl c) m)) g1 gt vs1 R C co F SN sd (cn + A) NL hn hw ht htri hrs hcl hv hwr hR5 hC5 hCp hsum hT hco hsd hNL hFS4 (r + 1) (by omega) (by omega) (by rw [hrk]; exact hv2) hCL2.row (by rw [hrk]; exact hb2) (by rw [hrk]; exact hwt4) (by rw [hrk]; exact hcn2) (by rw [hrk]; exact hrm2)) (by omega) hw rfl rfl rfl (Nat.le_of_ble_eq_true rfl) ⟨by dsimp only; omega, by dsimp only; omega⟩ ⟨Nat.le_refl _, Nat.le_refl _⟩ dX9_fillCell_128 (fun ct5 hz6 => ?_)
          rw [hrk] at hz6
          obtain ⟨v5, g5, vs5, wv5, hv5, hv5b, hFS5, hvs5, hwv5, hsT5, hfr5⟩ := hz6
          have hFS5 : FS B ad ct5 cm rs C R SN co sd (cn + (A + tCnt (C * R) C rs cm ((C * R) - ((C * r + c) + 1)) (va_up v1 (C * r + c) m))) NL g5 vs5 wv5 := by rw [← Nat.add_assoc]; exact hFS5
          have hsT5 : sTot cm C (C * R) vs5 (cn + (A + tCnt (C * R) C rs cm ((C * R) - ((C * r + c) + 1)) (va_up v1 (C * r + c) m))) = sTot cm C (C * R) vs1 (cn + A) + va_up wv1 ((C * r + c) + 1) (wv1 (C * r + c) * ch (cl c) m) ((C * r + c) + 1) * (ch (tBeh C cm v r c) ((tRest C rs v (C * r + c)) - m) * rpN rs R (R - (r + 1))) := by rw [← Nat.add_assoc]; rw [hbe0, show (tRest C rs v (C * r + c)) - m = 0 by omega, ch_0, Nat.one_mul]; exact hsT5
          rw [va_up_self] at hsT5
          have hw : ct5 11 = .inr (9, [.ref (ad 12), .ref (ad 13), .ref (ad 14), .ref (ad 15), .ref (ad 16), .int (nI R), .int (nI C), .int (nI co), .int (nI F), .ref (ad 79), .ref (ad 17), .ref (ad 19), .ref (ad 21), .ref (ad 23), .ref (ad 25)]) := (hfr5 11 (by omega)).trans hw
          have ht : ct5 12 = .inl (B.2.1 1, 1891, .inr (.inl (lF gt))) := (hfr5 12 (by omega)).trans ht
          have hrs : ct5 13 = .inl (B.2.1 0, 5, .inl (nF rs)) := (hfr5 13 (by omega)).trans hrs
          have hcl : ct5 14 = .inl (B.2.1 0, 5, .inl (nF (va_up cl c (cl c - m)))) := (hfr5 14 (by omega)).trans hcl
          have hwr : ct5 16 = .inl (B.2.1 3, 26, .inr (.inr (.inr (.inr (fun i => some (ad (27 + 2 * i))))))) := (hfr5 16 (by omega)).trans hwr
          have hfr : ∀ r, r < 14 ∨ (15 < r ∧ r < 21) ∨ 80 < r → ct5 r = ct r := fun r h => (hfr5 r (by omega)).trans (hfr r h)
          refine g_iinc (L' := [(9, .int (nI (m + 1))), (0, .ref (ad 11)), (1, .int (nI r)), (2, .int (nI c)), (3, .int (nI (tRest C rs v (C * r + c)))), (5, .int (nI (C * r + c))), (6, .int (nI (cl c))), (7, .int (nI (tBeh C cm v r c))), (8, .int (nI (tHi C rs cm v (C * r + c))))]) fx (nI (m + 1)) 8 dX9_fillCell_131 rfl (gInc _) (by decide) rfl ?_
          refine g_goto fx 43 dX9_fillCell_134 (by decide) ?_
          refine g_locals (L' := [(0, .ref (ad 11)), (1, .int (nI r)), (2, .int (nI c)), (3, .int (nI (tRest C rs v (C * r + c)))), (5, .int (nI (C * r + c))), (6, .int (nI (cl c))), (7, .int (nI (tBeh C cm v r c))), (8, .int (nI (tHi C rs cm v (C * r + c)))), (9, .int (nI (m + 1)))]) [1, 2, 3, 4, 5, 6, 7, 8, 0] rfl ?_
          exact ih43 (m + 1) (cl c - m) (A + tCnt (C * R) C rs cm ((C * R) - ((C * r + c) + 1)) (va_up v1 (C * r + c) m)) (S + ch (cl c) m * ch (tBeh C cm v r c) ((tRest C rs v (C * r + c)) - m)) ct5 v5 g5 vs5 wv5 (by omega) (by omega) (by rw [cnt_split hm1, ← hA, htt]) (by rw [sum_split1 (f := fun i => ch (cl c) i * ch (tBeh C cm v r c) ((tRest C rs v (C * r + c)) - i)) hm1, ← hS]) hw ht hrs hcl hv5 hwr (fun j hj => by rw [hv5b j (by omega), va_up_ne _ _ (by omega)]; exact hv1 j hj) hFS5 (fun j hj => by rw [hvs5 j (by omega)]; exact hvs j hj) (fun i hi => by rw [hwv5 i (by omega), va_up_ne _ _ (by omega)]; exact hwv1 i hi) (tot_step hsT hsT5 (by rw [hwK])) hfr (by omega)
        · skip
          have hc1 : c + 1 < C := (nI_ltI (by omega) (by omega)).mp (Int32.not_le.mp c104)
          have hbh := beh_head (cm := cm) (v := v) (r := r) hc1
          have hbv := tBeh_v1 (cm := cm) (r := r) (c2 := c + 1) hv1
          have hlv := tLeft_v1 (cm := cm) (r := r) (c2 := c + 1) hc1 hv1
          have erl : tRest C rs (va_up v1 (C * r + c) m) (C * r + (c + 1)) = (tRest C rs v (C * r + c)) - m := by rw [rest_step (v := v) hc1 (fun i hi => by rw [va_up_ne _ _ (by omega)]; exact hv1 i hi), va_up_self]
          have erb : tLeft C cm (va_up v1 (C * r + c) m) r (c + 1) + tBeh C cm (va_up v1 (C * r + c) m) r (c + 1) = (tBeh C cm v r c) := by rw [left_up hc1, beh_up, hbv, hlv, hbh]
          refine g_aload_n fx 0 dX9_fillCell_107 rfl ?_
          refine g_iload_n fx 1 dX9_fillCell_108 rfl ?_
          refine g_iload_n fx 2 dX9_fillCell_109 rfl ?_
          refine g_iconst (v := nI 1) fx dX9_fillCell_110 (by decide +kernel) ?_
          refine g_iaddN fx dX9_fillCell_111 ?_
          refine g_iload_n fx 3 dX9_fillCell_112 rfl ?_
          refine g_iload fx 8 dX9_fillCell_113 rfl ?_
          refine g_isub fx dX9_fillCell_115 ?_
          refine g_isi (y := nI (tRest C rs (va_up v1 (C * r + c) m) (C * r + (c + 1)))) (by rw [erl, pk_sub (by omega)]) ?_
          refine g_iload fx 6 dX9_fillCell_116 rfl ?_
          refine g_isi (y := nI (tLeft C cm (va_up v1 (C * r + c) m) r (c + 1) + tBeh C cm (va_up v1 (C * r + c) m) r (c + 1))) (by rw [erb]) ?_
          refine g_callVv (As := [.int (nI r), .int (nI (c + 1)), .int (nI (tRest C rs (va_up v1 (C * r + c) m) (C * r + (c + 1)))), .int (nI (tLeft C cm (va_up v1 (C * r + c) m) r (c + 1) + tBeh C cm (va_up v1 (C * r + c) m) r (c + 1)))]) (rest := []) fx slX9_134 (IH (d - 1) (by omega) ad ct4 n rs (va_up cl c (cl c - m)) cm (va_up v1 (C * r + c) m) (va_up wv1 ((C * r + c) + 1) (wv1 (C * r + c) * ch (cl c) m)) g1 gt vs1 R C co F SN sd (cn + A) NL hn hw ht htri hrs hcl hv hwr hR5 hC5 hCp hsum hT hco hsd hNL hFS4 r (c + 1) hr hc1 (by omega) hv2 hCL2 hb2 hwt4 hcn2 hrm2) (by omega) hw rfl rfl rfl (Nat.le_of_ble_eq_true rfl) ⟨by dsimp only; omega, by dsimp only; omega⟩ ⟨Nat.le_refl _, Nat.le_refl _⟩ dX9_fillCell_118 (fun ct5 hz5 => ?_)
          obtain ⟨v5, g5, vs5, wv5, hv5, hv5b, hFS5, hvs5, hwv5, hsT5, hfr5⟩ := hz5
          have hFS5 : FS B ad ct5 cm rs C R SN co sd (cn + (A + tCnt (C * R) C rs cm ((C * R) - ((C * r + c) + 1)) (va_up v1 (C * r + c) m))) NL g5 vs5 wv5 := by rw [← Nat.add_assoc]; exact hFS5
          have hsT5 : sTot cm C (C * R) vs5 (cn + (A + tCnt (C * R) C rs cm ((C * R) - ((C * r + c) + 1)) (va_up v1 (C * r + c) m))) = sTot cm C (C * R) vs1 (cn + A) + va_up wv1 ((C * r + c) + 1) (wv1 (C * r + c) * ch (cl c) m) ((C * r + c) + 1) * (ch (tBeh C cm v r c) ((tRest C rs v (C * r + c)) - m) * rpN rs R (R - (r + 1))) := by rw [← Nat.add_assoc]; rw [← erl, ← erb]; exact hsT5
          rw [va_up_self] at hsT5
          have hw : ct5 11 = .inr (9, [.ref (ad 12), .ref (ad 13), .ref (ad 14), .ref (ad 15), .ref (ad 16), .int (nI R), .int (nI C), .int (nI co), .int (nI F), .ref (ad 79), .ref (ad 17), .ref (ad 19), .ref (ad 21), .ref (ad 23), .ref (ad 25)]) := (hfr5 11 (by omega)).trans hw
          have ht : ct5 12 = .inl (B.2.1 1, 1891, .inr (.inl (lF gt))) := (hfr5 12 (by omega)).trans ht
          have hrs : ct5 13 = .inl (B.2.1 0, 5, .inl (nF rs)) := (hfr5 13 (by omega)).trans hrs
          have hcl : ct5 14 = .inl (B.2.1 0, 5, .inl (nF (va_up cl c (cl c - m)))) := (hfr5 14 (by omega)).trans hcl
          have hwr : ct5 16 = .inl (B.2.1 3, 26, .inr (.inr (.inr (.inr (fun i => some (ad (27 + 2 * i))))))) := (hfr5 16 (by omega)).trans hwr
          have hfr : ∀ r, r < 14 ∨ (15 < r ∧ r < 21) ∨ 80 < r → ct5 r = ct r := fun r h => (hfr5 r (by omega)).trans (hfr r h)
          refine g_goto fx 131 dX9_fillCell_121 (by decide) ?_
          refine g_iinc (L' := [(9, .int (nI (m + 1))), (0, .ref (ad 11)), (1, .int (nI r)), (2, .int (nI c)), (3, .int (nI (tRest C rs v (C * r + c)))), (5, .int (nI (C * r + c))), (6, .int (nI (cl c))), (7, .int (nI (tBeh C cm v r c))), (8, .int (nI (tHi C rs cm v (C * r + c))))]) fx (nI (m + 1)) 8 dX9_fillCell_131 rfl (gInc _) (by decide) rfl ?_
          refine g_goto fx 43 dX9_fillCell_134 (by decide) ?_
          refine g_locals (L' := [(0, .ref (ad 11)), (1, .int (nI r)), (2, .int (nI c)), (3, .int (nI (tRest C rs v (C * r + c)))), (5, .int (nI (C * r + c))), (6, .int (nI (cl c))), (7, .int (nI (tBeh C cm v r c))), (8, .int (nI (tHi C rs cm v (C * r + c)))), (9, .int (nI (m + 1)))]) [1, 2, 3, 4, 5, 6, 7, 8, 0] rfl ?_
          exact ih43 (m + 1) (cl c - m) (A + tCnt (C * R) C rs cm ((C * R) - ((C * r + c) + 1)) (va_up v1 (C * r + c) m)) (S + ch (cl c) m * ch (tBeh C cm v r c) ((tRest C rs v (C * r + c)) - m)) ct5 v5 g5 vs5 wv5 (by omega) (by omega) (by rw [cnt_split hm1, ← hA, htt]) (by rw [sum_split1 (f := fun i => ch (cl c) i * ch (tBeh C cm v r c) ((tRest C rs v (C * r + c)) - i)) hm1, ← hS]) hw ht hrs hcl hv5 hwr (fun j hj => by rw [hv5b j (by omega), va_up_ne _ _ (by omega)]; exact hv1 j hj) hFS5 (fun j hj => by rw [hvs5 j (by omega)]; exact hvs j hj) (fun i hi => by rw [hwv5 i (by omega), va_up_ne _ _ (by omega)]; exact hwv1 i hi) (tot_step hsT hsT5 (by rw [hwK])) hfr (by omega)
  refine g_locals (L' := [(0, .ref (ad 11)), (1, .int (nI r)), (2, .int (nI c)), (3, .int (nI (tRest C rs v (C * r + c)))), (5, .int (nI (C * r + c))), (6, .int (nI (cl c))), (7, .int (nI (tBeh C cm v r c))), (8, .int (nI (tHi C rs cm v (C * r + c)))), (9, .int (nI (tLo C rs cm v (C * r + c))))]) [5, 6, 7, 8, 4, 3, 2, 1, 0] rfl ?_
  exact LP43 ((tHi C rs cm v (C * r + c)) + 2) (tLo C rs cm v (C * r + c)) (cl c) 0 0 ct v g vs wv (Nat.le_refl _) (by omega) (by rw [Nat.sub_self]; rfl) (by rw [Nat.sub_self]; rfl) hw ht hrs (by rw [up_same]; exact hcl) hv hwr (fun _ _ => rfl) hFS (fun _ _ => rfl) (fun _ _ => rfl) (by rw [Nat.zero_mul, Nat.mul_zero]; rfl) hfr (by omega)
theorem c_PF (B : gB) : ∀ d, PF B d := by
  intro d
  induction d using Nat.strongRecOn with
  | ind d IH =>
    intro ad ct n rs cl cm v wv g gt vs R C co F SN sd cn NL hn hw ht htri hrs hcl hv hwr hR5 hC5 hCp hsum hT hco hsd hNL hFS r c hr hc hd hval hCL hb hwt hcn hrm
    exact c_X9_fillCell_s B d (fun d2 h2 => IH d2 h2) ad ct n rs cl cm v wv g gt vs R C co F SN sd cn NL hn hw ht htri hrs hcl hv hwr hR5 hC5 hCp hsum hT hco hsd hNL hFS r c hr hc hd hval hCL hb hwt hcn hrm
