def aboutS (R C : Nat) (c : Nat → Nat → Nat) (T : Nat) (x y z : Int) : Int32 := if ¬ (0 ≤ z ∧ z ≤ 3) then -2 else if (z < 2 ∧ ¬ (0 ≤ x ∧ x ≤ (R : Int) - 1)) ∨ ((z = 0 ∨ z = 2) ∧ ¬ (0 ≤ y ∧ y ≤ (C : Int) - 1)) then -1 else if z = 0 then nI (c x.toNat y.toNat) else if z = 1 then nI (sumF (fun k => c x.toNat k) C) else if z = 2 then nI (sumF (fun k => c k y.toNat) R) else nI T
theorem eq_c {x : Int32} {c : Int32} {k : Int} (hc : c.toInt = k) : x = c ↔ x.toInt = k := by rw [← Int32.toInt_inj, hc]
theorem lt_c {x : Int32} {c : Int32} {k : Int} (hc : c.toInt = k) : x < c ↔ x.toInt < k := by rw [Int32.lt_iff_toInt_lt, hc]
theorem le_c {x : Int32} {c : Int32} {k : Int} (hc : c.toInt = k) : c ≤ x ↔ k ≤ x.toInt := by rw [Int32.le_iff_toInt_le, hc]
set_option maxHeartbeats 4000000 in
set_option maxRecDepth 100000 in
theorem c_X12_isTail (B : gB) (ad : Nat → Nat) (ct : Nat → va_E) (n : Nat) (x : Int32) : Ctr B yX12_isTail cX12_isTail 1 (some .boolean) 1 25 0 0 ad ct n [.int x] (gPip ad ct n (fun q => q = if (0 : Int) ≤ x.toInt ∧ x.toInt ≤ 3 then 1 else 0)) := by
  refine Ctr.ofG (L := [(0, .int x)]) (by decide +kernel) rfl (Nat.le_of_ble_eq_true rfl) (fun E fx rt hnm => ?_)
  refine g_iload_n fx 0 dX12_isTail_0 rfl ?_
  refine g_i2l fx dX12_isTail_1 ?_
  refine g_lconst (v := 0) fx dX12_isTail_2 (by decide +kernel) ?_
  refine g_ldc2 fx kcX12_168 dX12_isTail_3 ?_
  refine g_callSip (As := [.long x.toInt64, .long 0, .long 3]) (rest := []) fx slX12_159 (c_in B ad ct n x (0) (3) 0 3 (by decide) (by decide)) rfl rfl (Nat.le_of_ble_eq_true rfl) ⟨by decide, by decide⟩ ⟨by decide, by decide⟩ dX12_isTail_6 (fun q1 hq1 => ?_)
  refine g_zret fx rt dX12_isTail_9 (by rw [hq1]; split <;> rfl) ?_
  exact gPip.mk hq1
set_option maxHeartbeats 4000000 in
set_option maxRecDepth 100000 in
theorem c_X12_isLevel (B : gB) (ad : Nat → Nat) (ct : Nat → va_E) (n : Nat) (u v : Int32) : Ctr B yX12_isLevel cX12_isLevel 2 (some .boolean) 1 25 0 0 ad ct n [.int u, .int v] (gPip ad ct n (fun q => q = if ((0 : Int) ≤ u.toInt ∧ u.toInt ≤ 1000000) ∧ ((1 : Int) ≤ v.toInt ∧ v.toInt ≤ 1000000) then 1 else 0)) := by
  refine Ctr.ofG (L := [(0, .int u), (1, .int v)]) (by decide +kernel) rfl (Nat.le_of_ble_eq_true rfl) (fun E fx rt hnm => ?_)
  refine g_iload_n fx 0 dX12_isLevel_0 rfl ?_
  refine g_i2l fx dX12_isLevel_1 ?_
  refine g_lconst (v := 0) fx dX12_isLevel_2 (by decide +kernel) ?_
  refine g_ldc2 fx kcX12_297 dX12_isLevel_3 ?_
  refine g_callSip (As := [.long u.toInt64, .long 0, .long 1000000]) (rest := []) fx slX12_159 (c_in B ad ct n u (0) (1000000) 0 1000000 (by decide) (by decide)) rfl rfl (Nat.le_of_ble_eq_true rfl) ⟨by decide, by decide⟩ ⟨by decide, by decide⟩ dX12_isLevel_6 (fun q1 hq1 => ?_)
  refine g_if_eq fx 28 dX12_isLevel_9 (by decide) (fun c9 => ?_) (fun c9 => ?_)
  · skip
    have hA : ¬ (((0 : Int) ≤ u.toInt ∧ u.toInt ≤ 1000000) ∧ ((1 : Int) ≤ v.toInt ∧ v.toInt ≤ 1000000)) := fun w => if01_z.mp (hq1 ▸ c9) w.1
    refine g_iconst (v := 0) fx dX12_isLevel_28 (by decide +kernel) ?_
    refine g_zret fx rt dX12_isLevel_29 rfl ?_
    refine gPip.mk ?_
    first | (rw [if_pos hA]; done) | (rw [if_neg hA]; done)
  · skip
    have hx := if01_n.mp (hq1 ▸ c9)
    refine g_iload_n fx 1 dX12_isLevel_12 rfl ?_
    refine g_i2l fx dX12_isLevel_13 ?_
    refine g_lconst (v := 1) fx dX12_isLevel_14 (by decide +kernel) ?_
    refine g_ldc2 fx kcX12_297 dX12_isLevel_15 ?_
    refine g_callSip (As := [.long v.toInt64, .long 1, .long 1000000]) (rest := []) fx slX12_159 (c_in B ad ct n v (1) (1000000) 1 1000000 (by decide) (by decide)) rfl rfl (Nat.le_of_ble_eq_true rfl) ⟨by decide, by decide⟩ ⟨by decide, by decide⟩ dX12_isLevel_18 (fun q2 hq2 => ?_)
    refine g_if_eq fx 28 dX12_isLevel_21 (by decide) (fun c21 => ?_) (fun c21 => ?_)
    · skip
      have hA : ¬ (((0 : Int) ≤ u.toInt ∧ u.toInt ≤ 1000000) ∧ ((1 : Int) ≤ v.toInt ∧ v.toInt ≤ 1000000)) := fun w => if01_z.mp (hq2 ▸ c21) w.2
      refine g_iconst (v := 0) fx dX12_isLevel_28 (by decide +kernel) ?_
      refine g_zret fx rt dX12_isLevel_29 rfl ?_
      refine gPip.mk ?_
      first | (rw [if_pos hA]; done) | (rw [if_neg hA]; done)
    · skip
      have hA : ((0 : Int) ≤ u.toInt ∧ u.toInt ≤ 1000000) ∧ ((1 : Int) ≤ v.toInt ∧ v.toInt ≤ 1000000) := ⟨hx, if01_n.mp (hq2 ▸ c21)⟩
      refine g_iconst (v := 1) fx dX12_isLevel_24 (by decide +kernel) ?_
      refine g_goto fx 29 dX12_isLevel_25 (by decide) ?_
      refine g_zret fx rt dX12_isLevel_29 rfl ?_
      refine gPip.mk ?_
      first | (rw [if_pos hA]; done) | (rw [if_neg hA]; done)
set_option maxHeartbeats 4000000 in
set_option maxRecDepth 100000 in
theorem c_X12_about (B : gB) (ad : Nat → Nat) (ct : Nat → va_E) (n : Nat) (f : Nat → Int32) (gc : Nat → Nat) (hn : 33 ≤ n) (h0 : ct 0 = mObj ad f) (hc : ct 5 = .inl (B.2.1 0, 25, .inl (nF gc))) (R C : Nat) (hR : f 4 = nI R) (hC : f 5 = nI C) (hR5 : R ≤ 5) (hC5 : C ≤ 5) (hgb : ∀ j, j < 25 → gc j ≤ 60) (T : Nat) (hT : f 7 = nI T) (x y z : Int32) : Ctr B yX12_about cX12_about 4 (some .int) 1 25 0 0 ad ct n [.ref (ad 0), .int x, .int y, .int z] (gPip ad ct n (fun q => q = aboutS R C (fun i j => gc (C * i + j)) T x.toInt y.toInt z.toInt)) := by
  refine Ctr.ofG (L := [(0, .ref (ad 0)), (1, .int x), (2, .int y), (3, .int z)]) (by decide +kernel) rfl (Nat.le_of_ble_eq_true rfl) (fun E fx rt hnm => ?_)
  refine g_iload_n fx 3 dX12_about_0 rfl ?_
  refine g_i2l fx dX12_about_1 ?_
  refine g_lconst (v := lN 0) fx dX12_about_2 (by decide +kernel) ?_
  refine g_ldc2 fx kcX12_168 dX12_about_3 ?_
  refine g_callSip (As := [.long z.toInt64, .long (lN 0), .long 3]) (rest := []) fx slX12_159 (c_in B ad ct n z (lN 0) (3) 0 3 (by decide) (by decide)) rfl rfl (Nat.le_of_ble_eq_true rfl) ⟨by decide, by decide⟩ ⟨by decide, by decide⟩ dX12_about_6 (fun q1 hq1 => ?_)
  refine g_if_ne fx 15 dX12_about_9 (by decide) (fun c9 => ?_) (fun c9 => ?_)
  · skip
    have hz := if01_n.mp (hq1 ▸ c9)
    refine g_iload_n fx 3 dX12_about_15 rfl ?_
    refine g_iconst (v := nI 2) fx dX12_about_16 (by decide +kernel) ?_
    refine g_icmp_ge fx 36 dX12_about_17 (by decide) (fun c17 => ?_) (fun c17 => ?_)
    · skip
      have hz2 := (le_c (k := 2) (by decide)).mp c17
      have hx : z.toInt < 2 → (0 : Int) ≤ x.toInt ∧ x.toInt ≤ (R : Int) - 1 := by first | exact hx | exact fun w => absurd w (by omega)
      refine g_iload_n fx 3 dX12_about_36 rfl ?_
      refine g_if_eq fx 45 dX12_about_37 (by decide) (fun c37 => ?_) (fun c37 => ?_)
      · skip
        have hzz : z.toInt = 0 ∨ z.toInt = 2 := Or.inl ((eq_c (k := 0) (by decide)).mp c37)
        refine g_iload_n fx 2 dX12_about_45 rfl ?_
        refine g_i2l fx dX12_about_46 ?_
        refine g_lconst (v := lN 0) fx dX12_about_47 (by decide +kernel) ?_
        refine g_aload_n fx 0 dX12_about_48 rfl ?_
        refine g_get (r := 0) fx lkX12_118 (by omega) h0 rfl dX12_about_49 ?_
        refine g_isi (y := nI C) hC ?_
        refine g_iconst (v := nI 1) fx dX12_about_52 (by decide +kernel) ?_
        refine g_isub fx dX12_about_53 ?_
        refine g_i2l fx dX12_about_54 ?_
        refine g_callSip (As := [.long y.toInt64, .long (lN 0), .long (((nI C) - (nI 1)).toInt64)]) (rest := []) fx slX12_159 (c_in B ad ct n y (lN 0) (nI C - nI 1).toInt64 0 ((C : Int) - 1) (by decide) (rm1 (by omega))) rfl rfl (Nat.le_of_ble_eq_true rfl) ⟨by decide, by decide⟩ ⟨by decide, by decide⟩ dX12_about_55 (fun q3 hq3 => ?_)
        refine g_if_ne fx 63 dX12_about_58 (by decide) (fun c58 => ?_) (fun c58 => ?_)
        · skip
          have hy : (z.toInt = 0 ∨ z.toInt = 2) → (0 : Int) ≤ y.toInt ∧ y.toInt ≤ (C : Int) - 1 := fun _ => if01_n.mp (hq3 ▸ c58)
          have hB : ¬ ((z.toInt < 2 ∧ ¬ ((0 : Int) ≤ x.toInt ∧ x.toInt ≤ (R : Int) - 1)) ∨ ((z.toInt = 0 ∨ z.toInt = 2) ∧ ¬ ((0 : Int) ≤ y.toInt ∧ y.toInt ≤ (C : Int) - 1))) := fun w => w.elim (fun w => w.2 (hx w.1)) (fun w => w.2 (hy w.1))
          refine g_iload_n fx 3 dX12_about_63 rfl ?_
          refine g_if_ne fx 83 dX12_about_64 (by decide) (fun c64 => ?_) (fun c64 => ?_)
          · skip
            have hz0 : ¬ z.toInt = 0 := fun w => c64 ((eq_c (k := 0) (by decide)).mpr w)
            refine g_iload_n fx 3 dX12_about_83 rfl ?_
            refine g_iconst (v := nI 1) fx dX12_about_84 (by decide +kernel) ?_
            refine g_icmp_ne fx 96 dX12_about_85 (by decide) (fun c85 => ?_) (fun c85 => ?_)
            · skip
              have hz1 : ¬ z.toInt = 1 := fun w => c85 ((eq_c (k := 1) (by decide)).mpr w)
              refine g_iload_n fx 3 dX12_about_96 rfl ?_
              refine g_iconst (v := nI 2) fx dX12_about_97 (by decide +kernel) ?_
              refine g_icmp_ne fx 109 dX12_about_98 (by decide) (fun c98 => ?_) (fun c98 => ?_)
              · skip
                have hz2' : ¬ z.toInt = 2 := fun w => c98 ((eq_c (k := 2) (by decide)).mpr w)
                have hfin : nI T = aboutS R C (fun i j => gc (C * i + j)) T x.toInt y.toInt z.toInt := by
                  unfold aboutS
                  rw [if_neg (fun w => w hz), if_neg hB, if_neg hz0, if_neg hz1, if_neg hz2']
                refine g_aload_n fx 0 dX12_about_109 rfl ?_
                refine g_get (r := 0) fx lkX12_163 (by omega) h0 rfl dX12_about_110 ?_
                refine g_isi (y := nI T) hT ?_
                refine g_iret fx rt dX12_about_113 ?_
                refine gPip.mk ?_
                exact hfin
              · skip
                have hz2' : z.toInt = 2 := (eq_c (k := 2) (by decide)).mp c98
                obtain ⟨j, hj, eyj⟩ := toN (hy (Or.inr hz2')) (by omega)
                refine g_relocal (L' := [(0, .ref (ad 0)), (1, .int x), (2, .int (nI j)), (3, .int z)]) (by rw [eyj]) ?_
                refine g_aload_n fx 0 dX12_about_101 rfl ?_
                refine g_iload_n fx 2 dX12_about_102 rfl ?_
                refine g_callVip (As := [.int (nI j)]) (rest := []) fx slX12_174 (c_X12_marginOfColumn B ad ct n f gc hn h0 hc R C hR hC hR5 hC5 hgb j (by omega)) (by omega) h0 rfl rfl rfl (Nat.le_of_ble_eq_true rfl) ⟨by decide, by decide⟩ ⟨by decide, by decide⟩ dX12_about_103 (fun q5 hq5 => ?_)
                have hfin : q5 = aboutS R C (fun i j => gc (C * i + j)) T x.toInt y.toInt z.toInt := by
                  unfold aboutS
                  rw [if_neg (fun w => w hz), if_neg hB, if_neg hz0, if_neg hz1, if_pos hz2', eyj, nI_toInt (by omega)]
                  exact hq5
                refine g_goto fx 113 dX12_about_106 (by decide) ?_
                refine g_iret fx rt dX12_about_113 ?_
                refine gPip.mk ?_
                exact hfin
            · skip
              have hz1 : z.toInt = 1 := (eq_c (k := 1) (by decide)).mp c85
              obtain ⟨i, hi, exi⟩ := toN (hx (by omega)) (by omega)
              refine g_relocal (L' := [(0, .ref (ad 0)), (1, .int (nI i)), (2, .int y), (3, .int z)]) (by rw [exi]) ?_
              refine g_aload_n fx 0 dX12_about_88 rfl ?_
              refine g_iload_n fx 1 dX12_about_89 rfl ?_
              refine g_callVip (As := [.int (nI i)]) (rest := []) fx slX12_170 (c_X12_marginOfRow B ad ct n f gc hn h0 hc R C hR hC hR5 hC5 hgb i (by omega)) (by omega) h0 rfl rfl rfl (Nat.le_of_ble_eq_true rfl) ⟨by decide, by decide⟩ ⟨by decide, by decide⟩ dX12_about_90 (fun q4 hq4 => ?_)
              have hfin : q4 = aboutS R C (fun i j => gc (C * i + j)) T x.toInt y.toInt z.toInt := by
                unfold aboutS
                rw [if_neg (fun w => w hz), if_neg hB, if_neg hz0, if_pos hz1, exi, nI_toInt (by omega)]
                exact hq4
              refine g_goto fx 113 dX12_about_93 (by decide) ?_
              refine g_iret fx rt dX12_about_113 ?_
              refine gPip.mk ?_
              exact hfin
          · skip
            have hz0 : z.toInt = 0 := (eq_c (k := 0) (by decide)).mp c64
            obtain ⟨i, hi, exi⟩ := toN (hx (by omega)) (by omega)
            obtain ⟨j, hj, eyj⟩ := toN (hy (Or.inl hz0)) (by omega)
            have hix : C * i + j < 25 := by have : C * i ≤ C * 4 := Nat.mul_le_mul_left _ (by omega); omega
            have hfin : nI (gc (C * i + j)) = aboutS R C (fun i j => gc (C * i + j)) T x.toInt y.toInt z.toInt := by
              unfold aboutS
              rw [if_neg (fun w => w hz), if_neg hB, if_pos hz0, exi, eyj, nI_toInt (by omega), nI_toInt (by omega)]
              rfl
            refine g_relocal (L' := [(0, .ref (ad 0)), (1, .int (nI i)), (2, .int (nI j)), (3, .int z)]) (by rw [exi, eyj]) ?_
            refine g_aload_n fx 0 dX12_about_67 rfl ?_
            refine g_get (r := 0) fx lkX12_22 (by omega) h0 rfl dX12_about_68 ?_
            refine g_aload_n fx 0 dX12_about_71 rfl ?_
            refine g_get (r := 0) fx lkX12_118 (by omega) h0 rfl dX12_about_72 ?_
            refine g_isi (y := nI C) hC ?_
            refine g_iload_n fx 1 dX12_about_75 rfl ?_
            refine g_imulN fx dX12_about_76 ?_
            refine g_iload_n fx 2 dX12_about_77 rfl ?_
            refine g_iaddN fx dX12_about_78 ?_
            refine g_iald (r := 5) (j := C * i + j) fx (by omega) hc (nI_toInt (by omega)) hix dX12_about_79 ?_
            refine g_isi (y := nI (gc (C * i + j))) rfl ?_
            refine g_goto fx 113 dX12_about_80 (by decide) ?_
            refine g_iret fx rt dX12_about_113 ?_
            refine gPip.mk ?_
            exact hfin
        · skip
          have hB : (z.toInt < 2 ∧ ¬ ((0 : Int) ≤ x.toInt ∧ x.toInt ≤ (R : Int) - 1)) ∨ ((z.toInt = 0 ∨ z.toInt = 2) ∧ ¬ ((0 : Int) ≤ y.toInt ∧ y.toInt ≤ (C : Int) - 1)) := Or.inr ⟨hzz, if01_z.mp (hq3 ▸ c58)⟩
          refine g_iconst (v := (-1)) fx dX12_about_61 (by decide +kernel) ?_
          refine g_iret fx rt dX12_about_62 ?_
          refine gPip.mk ?_
          unfold aboutS
          rw [if_neg (fun w => w hz), if_pos hB]
      · skip
        have hz0 : ¬ z.toInt = 0 := fun w => c37 ((eq_c (k := 0) (by decide)).mpr w)
        refine g_iload_n fx 3 dX12_about_40 rfl ?_
        refine g_iconst (v := nI 2) fx dX12_about_41 (by decide +kernel) ?_
        refine g_icmp_ne fx 63 dX12_about_42 (by decide) (fun c42 => ?_) (fun c42 => ?_)
        · skip
          have hzz : ¬ (z.toInt = 0 ∨ z.toInt = 2) := fun w => w.elim hz0 (fun w => c42 ((eq_c (k := 2) (by decide)).mpr w))
          have hB : ¬ ((z.toInt < 2 ∧ ¬ ((0 : Int) ≤ x.toInt ∧ x.toInt ≤ (R : Int) - 1)) ∨ ((z.toInt = 0 ∨ z.toInt = 2) ∧ ¬ ((0 : Int) ≤ y.toInt ∧ y.toInt ≤ (C : Int) - 1))) := fun w => w.elim (fun w => w.2 (hx w.1)) (fun w => hzz w.1)
          have hy : (z.toInt = 0 ∨ z.toInt = 2) → (0 : Int) ≤ y.toInt ∧ y.toInt ≤ (C : Int) - 1 := fun w => absurd w hzz
          refine g_iload_n fx 3 dX12_about_63 rfl ?_
          refine g_if_ne fx 83 dX12_about_64 (by decide) (fun c64 => ?_) (fun c64 => ?_)
          · skip
            have hz0 : ¬ z.toInt = 0 := fun w => c64 ((eq_c (k := 0) (by decide)).mpr w)
            refine g_iload_n fx 3 dX12_about_83 rfl ?_
            refine g_iconst (v := nI 1) fx dX12_about_84 (by decide +kernel) ?_
            refine g_icmp_ne fx 96 dX12_about_85 (by decide) (fun c85 => ?_) (fun c85 => ?_)
            · skip
              have hz1 : ¬ z.toInt = 1 := fun w => c85 ((eq_c (k := 1) (by decide)).mpr w)
              refine g_iload_n fx 3 dX12_about_96 rfl ?_
              refine g_iconst (v := nI 2) fx dX12_about_97 (by decide +kernel) ?_
              refine g_icmp_ne fx 109 dX12_about_98 (by decide) (fun c98 => ?_) (fun c98 => ?_)
              · skip
                have hz2' : ¬ z.toInt = 2 := fun w => c98 ((eq_c (k := 2) (by decide)).mpr w)
                have hfin : nI T = aboutS R C (fun i j => gc (C * i + j)) T x.toInt y.toInt z.toInt := by
                  unfold aboutS
                  rw [if_neg (fun w => w hz), if_neg hB, if_neg hz0, if_neg hz1, if_neg hz2']
                refine g_aload_n fx 0 dX12_about_109 rfl ?_
                refine g_get (r := 0) fx lkX12_163 (by omega) h0 rfl dX12_about_110 ?_
                refine g_isi (y := nI T) hT ?_
                refine g_iret fx rt dX12_about_113 ?_
                refine gPip.mk ?_
                exact hfin
              · skip
                have hz2' : z.toInt = 2 := (eq_c (k := 2) (by decide)).mp c98
                obtain ⟨j, hj, eyj⟩ := toN (hy (Or.inr hz2')) (by omega)
                refine g_relocal (L' := [(0, .ref (ad 0)), (1, .int x), (2, .int (nI j)), (3, .int z)]) (by rw [eyj]) ?_
                refine g_aload_n fx 0 dX12_about_101 rfl ?_
                refine g_iload_n fx 2 dX12_about_102 rfl ?_
                refine g_callVip (As := [.int (nI j)]) (rest := []) fx slX12_174 (c_X12_marginOfColumn B ad ct n f gc hn h0 hc R C hR hC hR5 hC5 hgb j (by omega)) (by omega) h0 rfl rfl rfl (Nat.le_of_ble_eq_true rfl) ⟨by decide, by decide⟩ ⟨by decide, by decide⟩ dX12_about_103 (fun q5 hq5 => ?_)
                have hfin : q5 = aboutS R C (fun i j => gc (C * i + j)) T x.toInt y.toInt z.toInt := by
                  unfold aboutS
                  rw [if_neg (fun w => w hz), if_neg hB, if_neg hz0, if_neg hz1, if_pos hz2', eyj, nI_toInt (by omega)]
                  exact hq5
                refine g_goto fx 113 dX12_about_106 (by decide) ?_
                refine g_iret fx rt dX12_about_113 ?_
                refine gPip.mk ?_
                exact hfin
            · skip
              have hz1 : z.toInt = 1 := (eq_c (k := 1) (by decide)).mp c85
              obtain ⟨i, hi, exi⟩ := toN (hx (by omega)) (by omega)
              refine g_relocal (L' := [(0, .ref (ad 0)), (1, .int (nI i)), (2, .int y), (3, .int z)]) (by rw [exi]) ?_
              refine g_aload_n fx 0 dX12_about_88 rfl ?_
              refine g_iload_n fx 1 dX12_about_89 rfl ?_
              refine g_callVip (As := [.int (nI i)]) (rest := []) fx slX12_170 (c_X12_marginOfRow B ad ct n f gc hn h0 hc R C hR hC hR5 hC5 hgb i (by omega)) (by omega) h0 rfl rfl rfl (Nat.le_of_ble_eq_true rfl) ⟨by decide, by decide⟩ ⟨by decide, by decide⟩ dX12_about_90 (fun q4 hq4 => ?_)
              have hfin : q4 = aboutS R C (fun i j => gc (C * i + j)) T x.toInt y.toInt z.toInt := by
                unfold aboutS
                rw [if_neg (fun w => w hz), if_neg hB, if_neg hz0, if_pos hz1, exi, nI_toInt (by omega)]
                exact hq4
              refine g_goto fx 113 dX12_about_93 (by decide) ?_
              refine g_iret fx rt dX12_about_113 ?_
              refine gPip.mk ?_
              exact hfin
          · skip
            have hz0 : z.toInt = 0 := (eq_c (k := 0) (by decide)).mp c64
            obtain ⟨i, hi, exi⟩ := toN (hx (by omega)) (by omega)
            obtain ⟨j, hj, eyj⟩ := toN (hy (Or.inl hz0)) (by omega)
            have hix : C * i + j < 25 := by have : C * i ≤ C * 4 := Nat.mul_le_mul_left _ (by omega); omega
            have hfin : nI (gc (C * i + j)) = aboutS R C (fun i j => gc (C * i + j)) T x.toInt y.toInt z.toInt := by
              unfold aboutS
              rw [if_neg (fun w => w hz), if_neg hB, if_pos hz0, exi, eyj, nI_toInt (by omega), nI_toInt (by omega)]
              rfl
            refine g_relocal (L' := [(0, .ref (ad 0)), (1, .int (nI i)), (2, .int (nI j)), (3, .int z)]) (by rw [exi, eyj]) ?_
            refine g_aload_n fx 0 dX12_about_67 rfl ?_
            refine g_get (r := 0) fx lkX12_22 (by omega) h0 rfl dX12_about_68 ?_
            refine g_aload_n fx 0 dX12_about_71 rfl ?_
            refine g_get (r := 0) fx lkX12_118 (by omega) h0 rfl dX12_about_72 ?_
            refine g_isi (y := nI C) hC ?_
            refine g_iload_n fx 1 dX12_about_75 rfl ?_
            refine g_imulN fx dX12_about_76 ?_
            refine g_iload_n fx 2 dX12_about_77 rfl ?_
            refine g_iaddN fx dX12_about_78 ?_
            refine g_iald (r := 5) (j := C * i + j) fx (by omega) hc (nI_toInt (by omega)) hix dX12_about_79 ?_
            refine g_isi (y := nI (gc (C * i + j))) rfl ?_
            refine g_goto fx 113 dX12_about_80 (by decide) ?_
            refine g_iret fx rt dX12_about_113 ?_
            refine gPip.mk ?_
            exact hfin
        · skip
          have hzz : z.toInt = 0 ∨ z.toInt = 2 := Or.inr ((eq_c (k := 2) (by decide)).mp c42)
          refine g_iload_n fx 2 dX12_about_45 rfl ?_
          refine g_i2l fx dX12_about_46 ?_
          refine g_lconst (v := lN 0) fx dX12_about_47 (by decide +kernel) ?_
          refine g_aload_n fx 0 dX12_about_48 rfl ?_
          refine g_get (r := 0) fx lkX12_118 (by omega) h0 rfl dX12_about_49 ?_
          refine g_isi (y := nI C) hC ?_
          refine g_iconst (v := nI 1) fx dX12_about_52 (by decide +kernel) ?_
          refine g_isub fx dX12_about_53 ?_
          refine g_i2l fx dX12_about_54 ?_
          refine g_callSip (As := [.long y.toInt64, .long (lN 0), .long (((nI C) - (nI 1)).toInt64)]) (rest := []) fx slX12_159 (c_in B ad ct n y (lN 0) (nI C - nI 1).toInt64 0 ((C : Int) - 1) (by decide) (rm1 (by omega))) rfl rfl (Nat.le_of_ble_eq_true rfl) ⟨by decide, by decide⟩ ⟨by decide, by decide⟩ dX12_about_55 (fun q3 hq3 => ?_)
          refine g_if_ne fx 63 dX12_about_58 (by decide) (fun c58 => ?_) (fun c58 => ?_)
          · skip
            have hy : (z.toInt = 0 ∨ z.toInt = 2) → (0 : Int) ≤ y.toInt ∧ y.toInt ≤ (C : Int) - 1 := fun _ => if01_n.mp (hq3 ▸ c58)
            have hB : ¬ ((z.toInt < 2 ∧ ¬ ((0 : Int) ≤ x.toInt ∧ x.toInt ≤ (R : Int) - 1)) ∨ ((z.toInt = 0 ∨ z.toInt = 2) ∧ ¬ ((0 : Int) ≤ y.toInt ∧ y.toInt ≤ (C : Int) - 1))) := fun w => w.elim (fun w => w.2 (hx w.1)) (fun w => w.2 (hy w.1))
            refine g_iload_n fx 3 dX12_about_63 rfl ?_
            refine g_if_ne fx 83 dX12_about_64 (by decide) (fun c64 => ?_) (fun c64 => ?_)
            · skip
              have hz0 : ¬ z.toInt = 0 := fun w => c64 ((eq_c (k := 0) (by decide)).mpr w)
              refine g_iload_n fx 3 dX12_about_83 rfl ?_
              refine g_iconst (v := nI 1) fx dX12_about_84 (by decide +kernel) ?_
              refine g_icmp_ne fx 96 dX12_about_85 (by decide) (fun c85 => ?_) (fun c85 => ?_)
              · skip
                have hz1 : ¬ z.toInt = 1 := fun w => c85 ((eq_c (k := 1) (by decide)).mpr w)
                refine g_iload_n fx 3 dX12_about_96 rfl ?_
                refine g_iconst (v := nI 2) fx dX12_about_97 (by decide +kernel) ?_
                refine g_icmp_ne fx 109 dX12_about_98 (by decide) (fun c98 => ?_) (fun c98 => ?_)
                · skip
                  have hz2' : ¬ z.toInt = 2 := fun w => c98 ((eq_c (k := 2) (by decide)).mpr w)
                  have hfin : nI T = aboutS R C (fun i j => gc (C * i + j)) T x.toInt y.toInt z.toInt := by
                    unfold aboutS
                    rw [if_neg (fun w => w hz), if_neg hB, if_neg hz0, if_neg hz1, if_neg hz2']
                  refine g_aload_n fx 0 dX12_about_109 rfl ?_
                  refine g_get (r := 0) fx lkX12_163 (by omega) h0 rfl dX12_about_110 ?_
                  refine g_isi (y := nI T) hT ?_
                  refine g_iret fx rt dX12_about_113 ?_
                  refine gPip.mk ?_
                  exact hfin
                · skip
                  have hz2' : z.toInt = 2 := (eq_c (k := 2) (by decide)).mp c98
                  obtain ⟨j, hj, eyj⟩ := toN (hy (Or.inr hz2')) (by omega)
                  refine g_relocal (L' := [(0, .ref (ad 0)), (1, .int x), (2, .int (nI j)), (3, .int z)]) (by rw [eyj]) ?_
                  refine g_aload_n fx 0 dX12_about_101 rfl ?_
                  refine g_iload_n fx 2 dX12_about_102 rfl ?_
                  refine g_callVip (As := [.int (nI j)]) (rest := []) fx slX12_174 (c_X12_marginOfColumn B ad ct n f gc hn h0 hc R C hR hC hR5 hC5 hgb j (by omega)) (by omega) h0 rfl rfl rfl (Nat.le_of_ble_eq_true rfl) ⟨by decide, by decide⟩ ⟨by decide, by decide⟩ dX12_about_103 (fun q5 hq5 => ?_)
                  have hfin : q5 = aboutS R C (fun i j => gc (C * i + j)) T x.toInt y.toInt z.toInt := by
                    unfold aboutS
                    rw [if_neg (fun w => w hz), if_neg hB, if_neg hz0, if_neg hz1, if_pos hz2', eyj, nI_toInt (by omega)]
                    exact hq5
                  refine g_goto fx 113 dX12_about_106 (by decide) ?_
                  refine g_iret fx rt dX12_about_113 ?_
                  refine gPip.mk ?_
                  exact hfin
              · skip
                have hz1 : z.toInt = 1 := (eq_c (k := 1) (by decide)).mp c85
                obtain ⟨i, hi, exi⟩ := toN (hx (by omega)) (by omega)
                refine g_relocal (L' := [(0, .ref (ad 0)), (1, .int (nI i)), (2, .int y), (3, .int z)]) (by rw [exi]) ?_
                refine g_aload_n fx 0 dX12_about_88 rfl ?_
                refine g_iload_n fx 1 dX12_about_89 rfl ?_
                refine g_callVip (As := [.int (nI i)]) (rest := []) fx slX12_170 (c_X12_marginOfRow B ad ct n f gc hn h0 hc R C hR hC hR5 hC5 hgb i (by omega)) (by omega) h0 rfl rfl rfl (Nat.le_of_ble_eq_true rfl) ⟨by decide, by decide⟩ ⟨by decide, by decide⟩ dX12_about_90 (fun q4 hq4 => ?_)
                have hfin : q4 = aboutS R C (fun i j => gc (C * i + j)) T x.toInt y.toInt z.toInt := by
                  unfold aboutS
                  rw [if_neg (fun w => w hz), if_neg hB, if_neg hz0, if_pos hz1, exi, nI_toInt (by omega)]
                  exact hq4
                refine g_goto fx 113 dX12_about_93 (by decide) ?_
                refine g_iret fx rt dX12_about_113 ?_
                refine gPip.mk ?_
                exact hfin
            · skip
              have hz0 : z.toInt = 0 := (eq_c (k := 0) (by decide)).mp c64
              obtain ⟨i, hi, exi⟩ := toN (hx (by omega)) (by omega)
              obtain ⟨j, hj, eyj⟩ := toN (hy (Or.inl hz0)) (by omega)
              have hix : C * i + j < 25 := by have : C * i ≤ C * 4 := Nat.mul_le_mul_left _ (by omega); omega
              have hfin : nI (gc (C * i + j)) = aboutS R C (fun i j => gc (C * i + j)) T x.toInt y.toInt z.toInt := by
                unfold aboutS
                rw [if_neg (fun w => w hz), if_neg hB, if_pos hz0, exi, eyj, nI_toInt (by omega), nI_toInt (by omega)]
                rfl
              refine g_relocal (L' := [(0, .ref (ad 0)), (1, .int (nI i)), (2, .int (nI j)), (3, .int z)]) (by rw [exi, eyj]) ?_
              refine g_aload_n fx 0 dX12_about_67 rfl ?_
              refine g_get (r := 0) fx lkX12_22 (by omega) h0 rfl dX12_about_68 ?_
              refine g_aload_n fx 0 dX12_about_71 rfl ?_
              refine g_get (r := 0) fx lkX12_118 (by omega) h0 rfl dX12_about_72 ?_
              refine g_isi (y := nI C) hC ?_
              refine g_iload_n fx 1 dX12_about_75 rfl ?_
              refine g_imulN fx dX12_about_76 ?_
              refine g_iload_n fx 2 dX12_about_77 rfl ?_
              refine g_iaddN fx dX12_about_78 ?_
              refine g_iald (r := 5) (j := C * i + j) fx (by omega) hc (nI_toInt (by omega)) hix dX12_about_79 ?_
              refine g_isi (y := nI (gc (C * i + j))) rfl ?_
              refine g_goto fx 113 dX12_about_80 (by decide) ?_
              refine g_iret fx rt dX12_about_113 ?_
              refine gPip.mk ?_
              exact hfin
          · skip
            have hB : (z.toInt < 2 ∧ ¬ ((0 : Int) ≤ x.toInt ∧ x.toInt ≤ (R : Int) - 1)) ∨ ((z.toInt = 0 ∨ z.toInt = 2) ∧ ¬ ((0 : Int) ≤ y.toInt ∧ y.toInt ≤ (C : Int) - 1)) := Or.inr ⟨hzz, if01_z.mp (hq3 ▸ c58)⟩
            refine g_iconst (v := (-1)) fx dX12_about_61 (by decide +kernel) ?_
            refine g_iret fx rt dX12_about_62 ?_
            refine gPip.mk ?_
            unfold aboutS
            rw [if_neg (fun w => w hz), if_pos hB]
    · skip
      have hz2 : ¬ 2 ≤ z.toInt := fun w => c17 ((le_c (k := 2) (by decide)).mpr w)
      refine g_iload_n fx 1 dX12_about_20 rfl ?_
      refine g_i2l fx dX12_about_21 ?_
      refine g_lconst (v := lN 0) fx dX12_about_22 (by decide +kernel) ?_
      refine g_aload_n fx 0 dX12_about_23 rfl ?_
      refine g_get (r := 0) fx lkX12_115 (by omega) h0 rfl dX12_about_24 ?_
      refine g_isi (y := nI R) hR ?_
      refine g_iconst (v := nI 1) fx dX12_about_27 (by decide +kernel) ?_
      refine g_isub fx dX12_about_28 ?_
      refine g_i2l fx dX12_about_29 ?_
      refine g_callSip (As := [.long x.toInt64, .long (lN 0), .long (((nI R) - (nI 1)).toInt64)]) (rest := []) fx slX12_159 (c_in B ad ct n x (lN 0) (nI R - nI 1).toInt64 0 ((R : Int) - 1) (by decide) (rm1 (by omega))) rfl rfl (Nat.le_of_ble_eq_true rfl) ⟨by decide, by decide⟩ ⟨by decide, by decide⟩ dX12_about_30 (fun q2 hq2 => ?_)
      refine g_if_eq fx 61 dX12_about_33 (by decide) (fun c33 => ?_) (fun c33 => ?_)
      · skip
        have hx := if01_z.mp (hq2 ▸ c33)
        have hB : (z.toInt < 2 ∧ ¬ ((0 : Int) ≤ x.toInt ∧ x.toInt ≤ (R : Int) - 1)) ∨ ((z.toInt = 0 ∨ z.toInt = 2) ∧ ¬ ((0 : Int) ≤ y.toInt ∧ y.toInt ≤ (C : Int) - 1)) := Or.inl ⟨by omega, hx⟩
        refine g_iconst (v := (-1)) fx dX12_about_61 (by decide +kernel) ?_
        refine g_iret fx rt dX12_about_62 ?_
        refine gPip.mk ?_
        unfold aboutS
        rw [if_neg (fun w => w hz), if_pos hB]
      · skip
        have hx : z.toInt < 2 → (0 : Int) ≤ x.toInt ∧ x.toInt ≤ (R : Int) - 1 := fun _ => if01_n.mp (hq2 ▸ c33)
        have hx : z.toInt < 2 → (0 : Int) ≤ x.toInt ∧ x.toInt ≤ (R : Int) - 1 := by first | exact hx | exact fun w => absurd w (by omega)
        refine g_iload_n fx 3 dX12_about_36 rfl ?_
        refine g_if_eq fx 45 dX12_about_37 (by decide) (fun c37 => ?_) (fun c37 => ?_)
        · skip
          have hzz : z.toInt = 0 ∨ z.toInt = 2 := Or.inl ((eq_c (k := 0) (by decide)).mp c37)
          refine g_iload_n fx 2 dX12_about_45 rfl ?_
          refine g_i2l fx dX12_about_46 ?_
          refine g_lconst (v := lN 0) fx dX12_about_47 (by decide +kernel) ?_
          refine g_aload_n fx 0 dX12_about_48 rfl ?_
          refine g_get (r := 0) fx lkX12_118 (by omega) h0 rfl dX12_about_49 ?_
          refine g_isi (y := nI C) hC ?_
          refine g_iconst (v := nI 1) fx dX12_about_52 (by decide +kernel) ?_
          refine g_isub fx dX12_about_53 ?_
          refine g_i2l fx dX12_about_54 ?_
          refine g_callSip (As := [.long y.toInt64, .long (lN 0), .long (((nI C) - (nI 1)).toInt64)]) (rest := []) fx slX12_159 (c_in B ad ct n y (lN 0) (nI C - nI 1).toInt64 0 ((C : Int) - 1) (by decide) (rm1 (by omega))) rfl rfl (Nat.le_of_ble_eq_true rfl) ⟨by decide, by decide⟩ ⟨by decide, by decide⟩ dX12_about_55 (fun q3 hq3 => ?_)
          refine g_if_ne fx 63 dX12_about_58 (by decide) (fun c58 => ?_) (fun c58 => ?_)
          · skip
            have hy : (z.toInt = 0 ∨ z.toInt = 2) → (0 : Int) ≤ y.toInt ∧ y.toInt ≤ (C : Int) - 1 := fun _ => if01_n.mp (hq3 ▸ c58)
            have hB : ¬ ((z.toInt < 2 ∧ ¬ ((0 : Int) ≤ x.toInt ∧ x.toInt ≤ (R : Int) - 1)) ∨ ((z.toInt = 0 ∨ z.toInt = 2) ∧ ¬ ((0 : Int) ≤ y.toInt ∧ y.toInt ≤ (C : Int) - 1))) := fun w => w.elim (fun w => w.2 (hx w.1)) (fun w => w.2 (hy w.1))
            refine g_iload_n fx 3 dX12_about_63 rfl ?_
            refine g_if_ne fx 83 dX12_about_64 (by decide) (fun c64 => ?_) (fun c64 => ?_)
            · skip
              have hz0 : ¬ z.toInt = 0 := fun w => c64 ((eq_c (k := 0) (by decide)).mpr w)
              refine g_iload_n fx 3 dX12_about_83 rfl ?_
              refine g_iconst (v := nI 1) fx dX12_about_84 (by decide +kernel) ?_
              refine g_icmp_ne fx 96 dX12_about_85 (by decide) (fun c85 => ?_) (fun c85 => ?_)
              · skip
                have hz1 : ¬ z.toInt = 1 := fun w => c85 ((eq_c (k := 1) (by decide)).mpr w)
                refine g_iload_n fx 3 dX12_about_96 rfl ?_
                refine g_iconst (v := nI 2) fx dX12_about_97 (by decide +kernel) ?_
                refine g_icmp_ne fx 109 dX12_about_98 (by decide) (fun c98 => ?_) (fun c98 => ?_)
                · skip
                  have hz2' : ¬ z.toInt = 2 := fun w => c98 ((eq_c (k := 2) (by decide)).mpr w)
                  have hfin : nI T = aboutS R C (fun i j => gc (C * i + j)) T x.toInt y.toInt z.toInt := by
                    unfold aboutS
                    rw [if_neg (fun w => w hz), if_neg hB, if_neg hz0, if_neg hz1, if_neg hz2']
                  refine g_aload_n fx 0 dX12_about_109 rfl ?_
                  refine g_get (r := 0) fx lkX12_163 (by omega) h0 rfl dX12_about_110 ?_
                  refine g_isi (y := nI T) hT ?_
                  refine g_iret fx rt dX12_about_113 ?_
                  refine gPip.mk ?_
                  exact hfin
                · skip
                  have hz2' : z.toInt = 2 := (eq_c (k := 2) (by decide)).mp c98
                  obtain ⟨j, hj, eyj⟩ := toN (hy (Or.inr hz2')) (by omega)
                  refine g_relocal (L' := [(0, .ref (ad 0)), (1, .int x), (2, .int (nI j)), (3, .int z)]) (by rw [eyj]) ?_
                  refine g_aload_n fx 0 dX12_about_101 rfl ?_
                  refine g_iload_n fx 2 dX12_about_102 rfl ?_
                  refine g_callVip (As := [.int (nI j)]) (rest := []) fx slX12_174 (c_X12_marginOfColumn B ad ct n f gc hn h0 hc R C hR hC hR5 hC5 hgb j (by omega)) (by omega) h0 rfl rfl rfl (Nat.le_of_ble_eq_true rfl) ⟨by decide, by decide⟩ ⟨by decide, by decide⟩ dX12_about_103 (fun q5 hq5 => ?_)
                  have hfin : q5 = aboutS R C (fun i j => gc (C * i + j)) T x.toInt y.toInt z.toInt := by
                    unfold aboutS
                    rw [if_neg (fun w => w hz), if_neg hB, if_neg hz0, if_neg hz1, if_pos hz2', eyj, nI_toInt (by omega)]
                    exact hq5
                  refine g_goto fx 113 dX12_about_106 (by decide) ?_
                  refine g_iret fx rt dX12_about_113 ?_
                  refine gPip.mk ?_
                  exact hfin
              · skip
                have hz1 : z.toInt = 1 := (eq_c (k := 1) (by decide)).mp c85
                obtain ⟨i, hi, exi⟩ := toN (hx (by omega)) (by omega)
                refine g_relocal (L' := [(0, .ref (ad 0)), (1, .int (nI i)), (2, .int y), (3, .int z)]) (by rw [exi]) ?_
                refine g_aload_n fx 0 dX12_about_88 rfl ?_
                refine g_iload_n fx 1 dX12_about_89 rfl ?_
                refine g_callVip (As := [.int (nI i)]) (rest := []) fx slX12_170 (c_X12_marginOfRow B ad ct n f gc hn h0 hc R C hR hC hR5 hC5 hgb i (by omega)) (by omega) h0 rfl rfl rfl (Nat.le_of_ble_eq_true rfl) ⟨by decide, by decide⟩ ⟨by decide, by decide⟩ dX12_about_90 (fun q4 hq4 => ?_)
                have hfin : q4 = aboutS R C (fun i j => gc (C * i + j)) T x.toInt y.toInt z.toInt := by
                  unfold aboutS
                  rw [if_neg (fun w => w hz), if_neg hB, if_neg hz0, if_pos hz1, exi, nI_toInt (by omega)]
                  exact hq4
                refine g_goto fx 113 dX12_about_93 (by decide) ?_
                refine g_iret fx rt dX12_about_113 ?_
                refine gPip.mk ?_
                exact hfin
            · skip
              have hz0 : z.toInt = 0 := (eq_c (k := 0) (by decide)).mp c64
              obtain ⟨i, hi, exi⟩ := toN (hx (by omega)) (by omega)
              obtain ⟨j, hj, eyj⟩ := toN (hy (Or.inl hz0)) (by omega)
              have hix : C * i + j < 25 := by have : C * i ≤ C * 4 := Nat.mul_le_mul_left _ (by omega); omega
              have hfin : nI (gc (C * i + j)) = aboutS R C (fun i j => gc (C * i + j)) T x.toInt y.toInt z.toInt := by
                unfold aboutS
                rw [if_neg (fun w => w hz), if_neg hB, if_pos hz0, exi, eyj, nI_toInt (by omega), nI_toInt (by omega)]
                rfl
              refine g_relocal (L' := [(0, .ref (ad 0)), (1, .int (nI i)), (2, .int (nI j)), (3, .int z)]) (by rw [exi, eyj]) ?_
              refine g_aload_n fx 0 dX12_about_67 rfl ?_
              refine g_get (r := 0) fx lkX12_22 (by omega) h0 rfl dX12_about_68 ?_
              refine g_aload_n fx 0 dX12_about_71 rfl ?_
              refine g_get (r := 0) fx lkX12_118 (by omega) h0 rfl dX12_about_72 ?_
              refine g_isi (y := nI C) hC ?_
              refine g_iload_n fx 1 dX12_about_75 rfl ?_
              refine g_imulN fx dX12_about_76 ?_
              refine g_iload_n fx 2 dX12_about_77 rfl ?_
              refine g_iaddN fx dX12_about_78 ?_
              refine g_iald (r := 5) (j := C * i + j) fx (by omega) hc (nI_toInt (by omega)) hix dX12_about_79 ?_
              refine g_isi (y := nI (gc (C * i + j))) rfl ?_
              refine g_goto fx 113 dX12_about_80 (by decide) ?_
              refine g_iret fx rt dX12_about_113 ?_
              refine gPip.mk ?_
              exact hfin
          · skip
            have hB : (z.toInt < 2 ∧ ¬ ((0 : Int) ≤ x.toInt ∧ x.toInt ≤ (R : Int) - 1)) ∨ ((z.toInt = 0 ∨ z.toInt = 2) ∧ ¬ ((0 : Int) ≤ y.toInt ∧ y.toInt ≤ (C : Int) - 1)) := Or.inr ⟨hzz, if01_z.mp (hq3 ▸ c58)⟩
            refine g_iconst (v := (-1)) fx dX12_about_61 (by decide +kernel) ?_
            refine g_iret fx rt dX12_about_62 ?_
            refine gPip.mk ?_
            unfold aboutS
            rw [if_neg (fun w => w hz), if_pos hB]
        · skip
          have hz0 : ¬ z.toInt = 0 := fun w => c37 ((eq_c (k := 0) (by decide)).mpr w)
          refine g_iload_n fx 3 dX12_about_40 rfl ?_
          refine g_iconst (v := nI 2) fx dX12_about_41 (by decide +kernel) ?_
          refine g_icmp_ne fx 63 dX12_about_42 (by decide) (fun c42 => ?_) (fun c42 => ?_)
          · skip
            have hzz : ¬ (z.toInt = 0 ∨ z.toInt = 2) := fun w => w.elim hz0 (fun w => c42 ((eq_c (k := 2) (by decide)).mpr w))
            have hB : ¬ ((z.toInt < 2 ∧ ¬ ((0 : Int) ≤ x.toInt ∧ x.toInt ≤ (R : Int) - 1)) ∨ ((z.toInt = 0 ∨ z.toInt = 2) ∧ ¬ ((0 : Int) ≤ y.toInt ∧ y.toInt ≤ (C : Int) - 1))) := fun w => w.elim (fun w => w.2 (hx w.1)) (fun w => hzz w.1)
            have hy : (z.toInt = 0 ∨ z.toInt = 2) → (0 : Int) ≤ y.toInt ∧ y.toInt ≤ (C : Int) - 1 := fun w => absurd w hzz
            refine g_iload_n fx 3 dX12_about_63 rfl ?_
            refine g_if_ne fx 83 dX12_about_64 (by decide) (fun c64 => ?_) (fun c64 => ?_)
            · skip
              have hz0 : ¬ z.toInt = 0 := fun w => c64 ((eq_c (k := 0) (by decide)).mpr w)
              refine g_iload_n fx 3 dX12_about_83 rfl ?_
              refine g_iconst (v := nI 1) fx dX12_about_84 (by decide +kernel) ?_
              refine g_icmp_ne fx 96 dX12_about_85 (by decide) (fun c85 => ?_) (fun c85 => ?_)
              · skip
                have hz1 : ¬ z.toInt = 1 := fun w => c85 ((eq_c (k := 1) (by decide)).mpr w)
                refine g_iload_n fx 3 dX12_about_96 rfl ?_
                refine g_iconst (v := nI 2) fx dX12_about_97 (by decide +kernel) ?_
                refine g_icmp_ne fx 109 dX12_about_98 (by decide) (fun c98 => ?_) (fun c98 => ?_)
                · skip
                  have hz2' : ¬ z.toInt = 2 := fun w => c98 ((eq_c (k := 2) (by decide)).mpr w)
                  have hfin : nI T = aboutS R C (fun i j => gc (C * i + j)) T x.toInt y.toInt z.toInt := by
                    unfold aboutS
                    rw [if_neg (fun w => w hz), if_neg hB, if_neg hz0, if_neg hz1, if_neg hz2']
                  refine g_aload_n fx 0 dX12_about_109 rfl ?_
                  refine g_get (r := 0) fx lkX12_163 (by omega) h0 rfl dX12_about_110 ?_
                  refine g_isi (y := nI T) hT ?_
                  refine g_iret fx rt dX12_about_113 ?_
                  refine gPip.mk ?_
                  exact hfin
                · skip
                  have hz2' : z.toInt = 2 := (eq_c (k := 2) (by decide)).mp c98
                  obtain ⟨j, hj, eyj⟩ := toN (hy (Or.inr hz2')) (by omega)
                  refine g_relocal (L' := [(0, .ref (ad 0)), (1, .int x), (2, .int (nI j)), (3, .int z)]) (by rw [eyj]) ?_
                  refine g_aload_n fx 0 dX12_about_101 rfl ?_
                  refine g_iload_n fx 2 dX12_about_102 rfl ?_
                  refine g_callVip (As := [.int (nI j)]) (rest := []) fx slX12_174 (c_X12_marginOfColumn B ad ct n f gc hn h0 hc R C hR hC hR5 hC5 hgb j (by omega)) (by omega) h0 rfl rfl rfl (Nat.le_of_ble_eq_true rfl) ⟨by decide, by decide⟩ ⟨by decide, by decide⟩ dX12_about_103 (fun q5 hq5 => ?_)
                  have hfin : q5 = aboutS R C (fun i j => gc (C * i + j)) T x.toInt y.toInt z.toInt := by
                    unfold aboutS
                    rw [if_neg (fun w => w hz), if_neg hB, if_neg hz0, if_neg hz1, if_pos hz2', eyj, nI_toInt (by omega)]
                    exact hq5
                  refine g_goto fx 113 dX12_about_106 (by decide) ?_
                  refine g_iret fx rt dX12_about_113 ?_
                  refine gPip.mk ?_
                  exact hfin
              · skip
                have hz1 : z.toInt = 1 := (eq_c (k := 1) (by decide)).mp c85
                obtain ⟨i, hi, exi⟩ := toN (hx (by omega)) (by omega)
                refine g_relocal (L' := [(0, .ref (ad 0)), (1, .int (nI i)), (2, .int y), (3, .int z)]) (by rw [exi]) ?_
                refine g_aload_n fx 0 dX12_about_88 rfl ?_
                refine g_iload_n fx 1 dX12_about_89 rfl ?_
                refine g_callVip (As := [.int (nI i)]) (rest := []) fx slX12_170 (c_X12_marginOfRow B ad ct n f gc hn h0 hc R C hR hC hR5 hC5 hgb i (by omega)) (by omega) h0 rfl rfl rfl (Nat.le_of_ble_eq_true rfl) ⟨by decide, by decide⟩ ⟨by decide, by decide⟩ dX12_about_90 (fun q4 hq4 => ?_)
                have hfin : q4 = aboutS R C (fun i j => gc (C * i + j)) T x.toInt y.toInt z.toInt := by
                  unfold aboutS
                  rw [if_neg (fun w => w hz), if_neg hB, if_neg hz0, if_pos hz1, exi, nI_toInt (by omega)]
                  exact hq4
                refine g_goto fx 113 dX12_about_93 (by decide) ?_
                refine g_iret fx rt dX12_about_113 ?_
                refine gPip.mk ?_
                exact hfin
            · skip
              have hz0 : z.toInt = 0 := (eq_c (k := 0) (by decide)).mp c64
              obtain ⟨i, hi, exi⟩ := toN (hx (by omega)) (by omega)
              obtain ⟨j, hj, eyj⟩ := toN (hy (Or.inl hz0)) (by omega)
              have hix : C * i + j < 25 := by have : C * i ≤ C * 4 := Nat.mul_le_mul_left _ (by omega); omega
              have hfin : nI (gc (C * i + j)) = aboutS R C (fun i j => gc (C * i + j)) T x.toInt y.toInt z.toInt := by
                unfold aboutS
                rw [if_neg (fun w => w hz), if_neg hB, if_pos hz0, exi, eyj, nI_toInt (by omega), nI_toInt (by omega)]
                rfl
              refine g_relocal (L' := [(0, .ref (ad 0)), (1, .int (nI i)), (2, .int (nI j)), (3, .int z)]) (by rw [exi, eyj]) ?_
              refine g_aload_n fx 0 dX12_about_67 rfl ?_
              refine g_get (r := 0) fx lkX12_22 (by omega) h0 rfl dX12_about_68 ?_
              refine g_aload_n fx 0 dX12_about_71 rfl ?_
              refine g_get (r := 0) fx lkX12_118 (by omega) h0 rfl dX12_about_72 ?_
              refine g_isi (y := nI C) hC ?_
              refine g_iload_n fx 1 dX12_about_75 rfl ?_
              refine g_imulN fx dX12_about_76 ?_
              refine g_iload_n fx 2 dX12_about_77 rfl ?_
              refine g_iaddN fx dX12_about_78 ?_
              refine g_iald (r := 5) (j := C * i + j) fx (by omega) hc (nI_toInt (by omega)) hix dX12_about_79 ?_
              refine g_isi (y := nI (gc (C * i + j))) rfl ?_
              refine g_goto fx 113 dX12_about_80 (by decide) ?_
              refine g_iret fx rt dX12_about_113 ?_
              refine gPip.mk ?_
              exact hfin
          · skip
            have hzz : z.toInt = 0 ∨ z.toInt = 2 := Or.inr ((eq_c (k := 2) (by decide)).mp c42)
            refine g_iload_n fx 2 dX12_about_45 rfl ?_
            refine g_i2l fx dX12_about_46 ?_
            refine g_lconst (v := lN 0) fx dX12_about_47 (by decide +kernel) ?_
            refine g_aload_n fx 0 dX12_about_48 rfl ?_
            refine g_get (r := 0) fx lkX12_118 (by omega) h0 rfl dX12_about_49 ?_
            refine g_isi (y := nI C) hC ?_
            refine g_iconst (v := nI 1) fx dX12_about_52 (by decide +kernel) ?_
            refine g_isub fx dX12_about_53 ?_
            refine g_i2l fx dX12_about_54 ?_
            refine g_callSip (As := [.long y.toInt64, .long (lN 0), .long (((nI C) - (nI 1)).toInt64)]) (rest := []) fx slX12_159 (c_in B ad ct n y (lN 0) (nI C - nI 1).toInt64 0 ((C : Int) - 1) (by decide) (rm1 (by omega))) rfl rfl (Nat.le_of_ble_eq_true rfl) ⟨by decide, by decide⟩ ⟨by decide, by decide⟩ dX12_about_55 (fun q3 hq3 => ?_)
            refine g_if_ne fx 63 dX12_about_58 (by decide) (fun c58 => ?_) (fun c58 => ?_)
            · skip
              have hy : (z.toInt = 0 ∨ z.toInt = 2) → (0 : Int) ≤ y.toInt ∧ y.toInt ≤ (C : Int) - 1 := fun _ => if01_n.mp (hq3 ▸ c58)
              have hB : ¬ ((z.toInt < 2 ∧ ¬ ((0 : Int) ≤ x.toInt ∧ x.toInt ≤ (R : Int) - 1)) ∨ ((z.toInt = 0 ∨ z.toInt = 2) ∧ ¬ ((0 : Int) ≤ y.toInt ∧ y.toInt ≤ (C : Int) - 1))) := fun w => w.elim (fun w => w.2 (hx w.1)) (fun w => w.2 (hy w.1))
              refine g_iload_n fx 3 dX12_about_63 rfl ?_
              refine g_if_ne fx 83 dX12_about_64 (by decide) (fun c64 => ?_) (fun c64 => ?_)
              · skip
                have hz0 : ¬ z.toInt = 0 := fun w => c64 ((eq_c (k := 0) (by decide)).mpr w)
                refine g_iload_n fx 3 dX12_about_83 rfl ?_
                refine g_iconst (v := nI 1) fx dX12_about_84 (by decide +kernel) ?_
                refine g_icmp_ne fx 96 dX12_about_85 (by decide) (fun c85 => ?_) (fun c85 => ?_)
                · skip
                  have hz1 : ¬ z.toInt = 1 := fun w => c85 ((eq_c (k := 1) (by decide)).mpr w)
                  refine g_iload_n fx 3 dX12_about_96 rfl ?_
                  refine g_iconst (v := nI 2) fx dX12_about_97 (by decide +kernel) ?_
                  refine g_icmp_ne fx 109 dX12_about_98 (by decide) (fun c98 => ?_) (fun c98 => ?_)
                  · skip
                    have hz2' : ¬ z.toInt = 2 := fun w => c98 ((eq_c (k := 2) (by decide)).mpr w)
                    have hfin : nI T = aboutS R C (fun i j => gc (C * i + j)) T x.toInt y.toInt z.toInt := by
                      unfold aboutS
                      rw [if_neg (fun w => w hz), if_neg hB, if_neg hz0, if_neg hz1, if_neg hz2']
                    refine g_aload_n fx 0 dX12_about_109 rfl ?_
                    refine g_get (r := 0) fx lkX12_163 (by omega) h0 rfl dX12_about_110 ?_
                    refine g_isi (y := nI T) hT ?_
                    refine g_iret fx rt dX12_about_113 ?_
                    refine gPip.mk ?_
                    exact hfin
                  · skip
                    have hz2' : z.toInt = 2 := (eq_c (k := 2) (by decide)).mp c98
                    obtain ⟨j, hj, eyj⟩ := toN (hy (Or.inr hz2')) (by omega)
                    refine g_relocal (L' := [(0, .ref (ad 0)), (1, .int x), (2, .int (nI j)), (3, .int z)]) (by rw [eyj]) ?_
                    refine g_aload_n fx 0 dX12_about_101 rfl ?_
                    refine g_iload_n fx 2 dX12_about_102 rfl ?_
                    refine g_callVip (As := [.int (nI j)]) (rest := []) fx slX12_174 (c_X12_marginOfColumn B ad ct n f gc hn h0 hc R C hR hC hR5 hC5 hgb j (by omega)) (by omega) h0 rfl rfl rfl (Nat.le_of_ble_eq_true rfl) ⟨by decide, by decide⟩ ⟨by decide, by decide⟩ dX12_about_103 (fun q5 hq5 => ?_)
                    have hfin : q5 = aboutS R C (fun i j => gc (C * i + j)) T x.toInt y.toInt z.toInt := by
                      unfold aboutS
                      rw [if_neg (fun w => w hz), if_neg hB, if_neg hz0, if_neg hz1, if_pos hz2', eyj, nI_toInt (by omega)]
                      exact hq5
                    refine g_goto fx 113 dX12_about_106 (by decide) ?_
                    refine g_iret fx rt dX12_about_113 ?_
                    refine gPip.mk ?_
                    exact hfin
                · skip
                  have hz1 : z.toInt = 1 := (eq_c (k := 1) (by decide)).mp c85
                  obtain ⟨i, hi, exi⟩ := toN (hx (by omega)) (by omega)
                  refine g_relocal (L' := [(0, .ref (ad 0)), (1, .int (nI i)), (2, .int y), (3, .int z)]) (by rw [exi]) ?_
                  refine g_aload_n fx 0 dX12_about_88 rfl ?_
                  refine g_iload_n fx 1 dX12_about_89 rfl ?_
                  refine g_callVip (As := [.int (nI i)]) (rest := []) fx slX12_170 (c_X12_marginOfRow B ad ct n f gc hn h0 hc R C hR hC hR5 hC5 hgb i (by omega)) (by omega) h0 rfl rfl rfl (Nat.le_of_ble_eq_true rfl) ⟨by decide, by decide⟩ ⟨by decide, by decide⟩ dX12_about_90 (fun q4 hq4 => ?_)
                  have hfin : q4 = aboutS R C (fun i j => gc (C * i + j)) T x.toInt y.toInt z.toInt := by
                    unfold aboutS
                    rw [if_neg (fun w => w hz), if_neg hB, if_neg hz0, if_pos hz1, exi, nI_toInt (by omega)]
                    exact hq4
                  refine g_goto fx 113 dX12_about_93 (by decide) ?_
                  refine g_iret fx rt dX12_about_113 ?_
                  refine gPip.mk ?_
                  exact hfin
              · skip
                have hz0 : z.toInt = 0 := (eq_c (k := 0) (by decide)).mp c64
                obtain ⟨i, hi, exi⟩ := toN (hx (by omega)) (by omega)
                obtain ⟨j, hj, eyj⟩ := toN (hy (Or.inl hz0)) (by omega)
                have hix : C * i + j < 25 := by have : C * i ≤ C * 4 := Nat.mul_le_mul_left _ (by omega); omega
                have hfin : nI (gc (C * i + j)) = aboutS R C (fun i j => gc (C * i + j)) T x.toInt y.toInt z.toInt := by
                  unfold aboutS
                  rw [if_neg (fun w => w hz), if_neg hB, if_pos hz0, exi, eyj, nI_toInt (by omega), nI_toInt (by omega)]
                  rfl
                refine g_relocal (L' := [(0, .ref (ad 0)), (1, .int (nI i)), (2, .int (nI j)), (3, .int z)]) (by rw [exi, eyj]) ?_
                refine g_aload_n fx 0 dX12_about_67 rfl ?_
                refine g_get (r := 0) fx lkX12_22 (by omega) h0 rfl dX12_about_68 ?_
                refine g_aload_n fx 0 dX12_about_71 rfl ?_
                refine g_get (r := 0) fx lkX12_118 (by omega) h0 rfl dX12_about_72 ?_
                refine g_isi (y := nI C) hC ?_
                refine g_iload_n fx 1 dX12_about_75 rfl ?_
                refine g_imulN fx dX12_about_76 ?_
                refine g_iload_n fx 2 dX12_about_77 rfl ?_
                refine g_iaddN fx dX12_about_78 ?_
                refine g_iald (r := 5) (j := C * i + j) fx (by omega) hc (nI_toInt (by omega)) hix dX12_about_79 ?_
                refine g_isi (y := nI (gc (C * i + j))) rfl ?_
                refine g_goto fx 113 dX12_about_80 (by decide) ?_
                refine g_iret fx rt dX12_about_113 ?_
                refine gPip.mk ?_
                exact hfin
            · skip
              have hB : (z.toInt < 2 ∧ ¬ ((0 : Int) ≤ x.toInt ∧ x.toInt ≤ (R : Int) - 1)) ∨ ((z.toInt = 0 ∨ z.toInt = 2) ∧ ¬ ((0 : Int) ≤ y.toInt ∧ y.toInt ≤ (C : Int) - 1)) := Or.inr ⟨hzz, if01_z.mp (hq3 ▸ c58)⟩
              refine g_iconst (v := (-1)) fx dX12_about_61 (by decide +kernel) ?_
              refine g_iret fx rt dX12_about_62 ?_
              refine gPip.mk ?_
              unfold aboutS
              rw [if_neg (fun w => w hz), if_pos hB]
  · skip
    have hA := if01_z.mp (hq1 ▸ c9)
    refine g_bipush (v := (-2)) fx dX12_about_12 (by decide +kernel) ?_
    refine g_iret fx rt dX12_about_14 ?_
    refine gPip.mk ?_
    unfold aboutS
    rw [if_pos hA]
set_option maxHeartbeats 4000000 in
set_option maxRecDepth 100000 in
theorem c_X12_bits (B : gB) (ad : Nat → Nat) (ct : Nat → va_E) (n : Nat) (f : Nat → Int32) (gu gw : Nat → Nat) (hn : 33 ≤ n) (h0 : ct 0 = mObj ad f) (hu : ct 9 = .inl (B.2.1 0, 160, .inl (nF gu))) (hw : ct 10 = .inl (B.2.1 0, 160, .inl (nF gw))) (hres : 0 ≤ f 12 → ∀ t, t < 4 → okN gu (40 * t) ∧ okN gw (40 * t)) (x y : Int32) : Ctr B yX12_bits cX12_bits 3 (some .int) 2 45 0 0 ad ct n [.ref (ad 0), .int x, .int y] (gPip ad ct n (fun q => (f 12 < 0 ∧ q = -3) ∨ (0 ≤ f 12 ∧ ¬ ((0 : Int) ≤ x.toInt ∧ x.toInt ≤ 3) ∧ q = -1) ∨ (0 ≤ f 12 ∧ ∃ t : Nat, t < 4 ∧ x = nI t ∧ ((y = 0 ∧ q = nI (nbits (nv gu (40 * t)))) ∨ (y = 1 ∧ q = nI (nbits (nv gw (40 * t)))) ∨ (¬ y = 0 ∧ ¬ y = 1 ∧ q = -2))))) := by
  refine Ctr.ofG (L := [(0, .ref (ad 0)), (1, .int x), (2, .int y)]) (by decide +kernel) rfl (Nat.le_of_ble_eq_true rfl) (fun E fx rt hnm => ?_)
  refine g_aload_n fx 0 dX12_bits_0 rfl ?_
  refine g_get (r := 0) fx lkX12_34 (by omega) h0 rfl dX12_bits_1 ?_
  refine g_if_ge fx 10 dX12_bits_4 (by decide) (fun c4 => ?_) (fun c4 => ?_)
  · skip
    have hkd := hres c4
    refine g_iload_n fx 1 dX12_bits_10 rfl ?_
    refine g_callSip (As := [.int x]) (rest := []) fx slX12_285 (c_X12_isTail B ad ct n x) rfl rfl (Nat.le_of_ble_eq_true rfl) ⟨by decide, by decide⟩ ⟨by decide, by decide⟩ dX12_bits_11 (fun qt hqt => ?_)
    refine g_if_ne fx 19 dX12_bits_14 (by decide) (fun c14 => ?_) (fun c14 => ?_)
    · skip
      have hP : (0 : Int) ≤ x.toInt ∧ x.toInt ≤ 3 := if01_n.mp (hqt ▸ c14)
      obtain ⟨t, ht, ext⟩ := toN hP (by omega)
      have hkt := hkd t (by omega)
      refine g_relocal (L' := [(0, .ref (ad 0)), (1, .int (nI t)), (2, .int y)]) (by rw [ext]) ?_
      refine g_iload_n fx 2 dX12_bits_19 rfl ?_
      refine g_if_ne fx 37 dX12_bits_20 (by decide) (fun c20 => ?_) (fun c20 => ?_)
      · skip
        refine g_iload_n fx 2 dX12_bits_37 rfl ?_
        refine g_iconst (v := nI 1) fx dX12_bits_38 (by decide +kernel) ?_
        refine g_icmp_ne fx 56 dX12_bits_39 (by decide) (fun c39 => ?_) (fun c39 => ?_)
        · skip
          refine g_bipush (v := (-2)) fx dX12_bits_56 (by decide +kernel) ?_
          refine g_iret fx rt dX12_bits_58 ?_
          refine gPip.mk ?_
          refine Or.inr (Or.inr ⟨c4, t, by omega, ext, ?_⟩)
          first | exact hfin | exact Or.inr (Or.inr ⟨c20, c39, rfl⟩)
        · skip
          refine g_aload_n fx 0 dX12_bits_42 rfl ?_
          refine g_get (r := 0) fx lkX12_41 (by omega) h0 rfl dX12_bits_43 ?_
          refine g_bipush (v := nI 40) fx dX12_bits_46 (by decide +kernel) ?_
          refine g_iload_n fx 1 dX12_bits_48 rfl ?_
          refine g_imulN fx dX12_bits_49 ?_
          refine g_callSip (As := [.ref (ad 10), .int (nI (40 * t))]) (rest := []) fx slX12_131 (c_X12_bitsOf B ad ct n 10 (40 * t) 160 gw (by omega) (by omega) (by decide) hw hkt.2) rfl rfl (Nat.le_of_ble_eq_true rfl) ⟨by decide, by decide⟩ ⟨by decide, by decide⟩ dX12_bits_50 (fun q2 hq2 => ?_)
          have hfin : (y = 0 ∧ q2 = nI (nbits (nv gu (40 * t)))) ∨ (y = 1 ∧ q2 = nI (nbits (nv gw (40 * t)))) ∨ (¬ y = 0 ∧ ¬ y = 1 ∧ q2 = -2) := Or.inr (Or.inl ⟨c39, hq2⟩)
          refine g_goto fx 58 dX12_bits_53 (by decide) ?_
          refine g_iret fx rt dX12_bits_58 ?_
          refine gPip.mk ?_
          refine Or.inr (Or.inr ⟨c4, t, by omega, ext, ?_⟩)
          first | exact hfin | exact Or.inr (Or.inr ⟨c20, c39, rfl⟩)
      · skip
        refine g_aload_n fx 0 dX12_bits_23 rfl ?_
        refine g_get (r := 0) fx lkX12_38 (by omega) h0 rfl dX12_bits_24 ?_
        refine g_bipush (v := nI 40) fx dX12_bits_27 (by decide +kernel) ?_
        refine g_iload_n fx 1 dX12_bits_29 rfl ?_
        refine g_imulN fx dX12_bits_30 ?_
        refine g_callSip (As := [.ref (ad 9), .int (nI (40 * t))]) (rest := []) fx slX12_131 (c_X12_bitsOf B ad ct n 9 (40 * t) 160 gu (by omega) (by omega) (by decide) hu hkt.1) rfl rfl (Nat.le_of_ble_eq_true rfl) ⟨by decide, by decide⟩ ⟨by decide, by decide⟩ dX12_bits_31 (fun q1 hq1 => ?_)
        have hfin := Or.inl (b := (y = 1 ∧ q1 = nI (nbits (nv gw (40 * t)))) ∨ (¬ y = 0 ∧ ¬ y = 1 ∧ q1 = -2)) (show y = 0 ∧ q1 = nI (nbits (nv gu (40 * t))) from ⟨c20, hq1⟩)
        refine g_goto fx 58 dX12_bits_34 (by decide) ?_
        refine g_iret fx rt dX12_bits_58 ?_
        refine gPip.mk ?_
        refine Or.inr (Or.inr ⟨c4, t, by omega, ext, ?_⟩)
        first | exact hfin | exact Or.inr (Or.inr ⟨c20, c39, rfl⟩)
    · skip
      have hA : ¬ ((0 : Int) ≤ x.toInt ∧ x.toInt ≤ 3) := if01_z.mp (hqt ▸ c14)
      refine g_iconst (v := (-1)) fx dX12_bits_17 (by decide +kernel) ?_
      refine g_iret fx rt dX12_bits_18 ?_
      refine gPip.mk ?_
      exact Or.inr (Or.inl ⟨c4, hA, rfl⟩)
  · skip
    have hkn : f 12 < 0 := Int32.not_le.mp c4
    refine g_bipush (v := (-3)) fx dX12_bits_7 (by decide +kernel) ?_
    refine g_iret fx rt dX12_bits_9 ?_
    refine gPip.mk ?_
    exact Or.inl ⟨hkn, rfl⟩
set_option maxHeartbeats 4000000 in
set_option maxRecDepth 100000 in
theorem c_X12_word (B : gB) (ad : Nat → Nat) (ct : Nat → va_E) (n : Nat) (f : Nat → Int32) (gu gw : Nat → Nat) (hn : 33 ≤ n) (h0 : ct 0 = mObj ad f) (hu : ct 9 = .inl (B.2.1 0, 160, .inl (nF gu))) (hw : ct 10 = .inl (B.2.1 0, 160, .inl (nF gw))) (hres : 0 ≤ f 12 → ∀ t, t < 4 → okN gu (40 * t) ∧ okN gw (40 * t)) (x y z : Int32) : Ctr B yX12_word cX12_word 4 (some .int) 2 60 0 0 ad ct n [.ref (ad 0), .int x, .int y, .int z] (gPip ad ct n (fun q => (f 12 < 0 ∧ q = -3) ∨ (0 ≤ f 12 ∧ ¬ ((0 : Int) ≤ x.toInt ∧ x.toInt ≤ 3) ∧ q = -1) ∨ (0 ≤ f 12 ∧ ∃ t : Nat, t < 4 ∧ x = nI t ∧ ((¬ (((0 : Int) ≤ y.toInt ∧ y.toInt ≤ 1) ∧ 0 ≤ z) ∧ q = -2) ∨ ∃ k : Nat, z = nI k ∧ k < 2 ^ 31 ∧ ((y = 0 ∧ q = nI (nv gu (40 * t) / 65536 ^ k % 65536)) ∨ (y = 1 ∧ q = nI (nv gw (40 * t) / 65536 ^ k % 65536))))))) := by
  refine Ctr.ofG (L := [(0, .ref (ad 0)), (1, .int x), (2, .int y), (3, .int z)]) (by decide +kernel) rfl (Nat.le_of_ble_eq_true rfl) (fun E fx rt hnm => ?_)
  refine g_aload_n fx 0 dX12_word_0 rfl ?_
  refine g_get (r := 0) fx lkX12_34 (by omega) h0 rfl dX12_word_1 ?_
  refine g_if_ge fx 10 dX12_word_4 (by decide) (fun c4 => ?_) (fun c4 => ?_)
  · skip
    have hkd := hres c4
    refine g_iload_n fx 1 dX12_word_10 rfl ?_
    refine g_callSip (As := [.int x]) (rest := []) fx slX12_285 (c_X12_isTail B ad ct n x) rfl rfl (Nat.le_of_ble_eq_true rfl) ⟨by decide, by decide⟩ ⟨by decide, by decide⟩ dX12_word_11 (fun qt hqt => ?_)
    refine g_if_ne fx 19 dX12_word_14 (by decide) (fun c14 => ?_) (fun c14 => ?_)
    · skip
      have hP : (0 : Int) ≤ x.toInt ∧ x.toInt ≤ 3 := if01_n.mp (hqt ▸ c14)
      obtain ⟨t, ht, ext⟩ := toN hP (by omega)
      have hkt := hkd t (by omega)
      refine g_relocal (L' := [(0, .ref (ad 0)), (1, .int (nI t)), (2, .int y), (3, .int z)]) (by rw [ext]) ?_
      refine g_iload_n fx 2 dX12_word_19 rfl ?_
      refine g_i2l fx dX12_word_20 ?_
      refine g_lconst (v := lN 0) fx dX12_word_21 (by decide +kernel) ?_
      refine g_lconst (v := lN 1) fx dX12_word_22 (by decide +kernel) ?_
      refine g_callSip (As := [.long y.toInt64, .long (lN 0), .long (lN 1)]) (rest := []) fx slX12_159 (c_in B ad ct n y (lN 0) (lN 1) 0 1 (by decide) (by decide)) rfl rfl (Nat.le_of_ble_eq_true rfl) ⟨by decide, by decide⟩ ⟨by decide, by decide⟩ dX12_word_23 (fun q1 hq1 => ?_)
      refine g_if_eq fx 33 dX12_word_26 (by decide) (fun c26 => ?_) (fun c26 => ?_)
      · skip
        have hA : ¬ (((0 : Int) ≤ y.toInt ∧ y.toInt ≤ 1) ∧ 0 ≤ z) := fun w => if01_z.mp (hq1 ▸ c26) w.1
        refine g_bipush (v := (-2)) fx dX12_word_33 (by decide +kernel) ?_
        refine g_iret fx rt dX12_word_35 ?_
        refine gPip.mk ?_
        exact Or.inr (Or.inr ⟨c4, t, by omega, ext, Or.inl ⟨hA, rfl⟩⟩)
      · skip
        have hy := if01_n.mp (hq1 ▸ c26)
        refine g_iload_n fx 3 dX12_word_29 rfl ?_
        refine g_if_ge fx 36 dX12_word_30 (by decide) (fun c30 => ?_) (fun c30 => ?_)
        · skip
          obtain ⟨k, hk, ezk⟩ := nI_of (x := z) (Int32.not_lt.mpr c30)
          refine g_relocal (L' := [(0, .ref (ad 0)), (1, .int (nI t)), (2, .int y), (3, .int (nI k))]) (by rw [ezk]) ?_
          refine g_iload_n fx 2 dX12_word_36 rfl ?_
          refine g_if_ne fx 56 dX12_word_37 (by decide) (fun c37 => ?_) (fun c37 => ?_)
          · skip
            have hy1 : y = 1 := (eq_c (k := 1) (by decide)).mpr (by have : ¬ y.toInt = 0 := fun w => c37 ((eq_c (k := 0) (by decide)).mpr w); omega)
            refine g_aload_n fx 0 dX12_word_56 rfl ?_
            refine g_get (r := 0) fx lkX12_41 (by omega) h0 rfl dX12_word_57 ?_
            refine g_bipush (v := nI 40) fx dX12_word_60 (by decide +kernel) ?_
            refine g_iload_n fx 1 dX12_word_62 rfl ?_
            refine g_imulN fx dX12_word_63 ?_
            refine g_iload_n fx 3 dX12_word_64 rfl ?_
            refine g_i2l fx dX12_word_65 ?_
            refine g_isl (y := lN k) (nI_l hk) ?_
            refine g_callSip (As := [.ref (ad 10), .int (nI (40 * t)), .long (lN k)]) (rest := []) fx slX12_293 (c_X12_wordOf B ad ct n 10 (40 * t) 160 gw (by omega) (by omega) (by decide) hw hkt.2 k hk) rfl rfl (Nat.le_of_ble_eq_true rfl) ⟨by decide, by decide⟩ ⟨by decide, by decide⟩ dX12_word_66 (fun q3 hq3 => ?_)
            have hfin : (y = 0 ∧ q3 = nI (nv gu (40 * t) / 65536 ^ k % 65536)) ∨ (y = 1 ∧ q3 = nI (nv gw (40 * t) / 65536 ^ k % 65536)) := Or.inr ⟨hy1, hq3⟩
            refine g_iret fx rt dX12_word_69 ?_
            refine gPip.mk ?_
            exact Or.inr (Or.inr ⟨c4, t, by omega, ext, Or.inr ⟨k, ezk, hk, hfin⟩⟩)
          · skip
            refine g_aload_n fx 0 dX12_word_40 rfl ?_
            refine g_get (r := 0) fx lkX12_38 (by omega) h0 rfl dX12_word_41 ?_
            refine g_bipush (v := nI 40) fx dX12_word_44 (by decide +kernel) ?_
            refine g_iload_n fx 1 dX12_word_46 rfl ?_
            refine g_imulN fx dX12_word_47 ?_
            refine g_iload_n fx 3 dX12_word_48 rfl ?_
            refine g_i2l fx dX12_word_49 ?_
            refine g_isl (y := lN k) (nI_l hk) ?_
            refine g_callSip (As := [.ref (ad 9), .int (nI (40 * t)), .long (lN k)]) (rest := []) fx slX12_293 (c_X12_wordOf B ad ct n 9 (40 * t) 160 gu (by omega) (by omega) (by decide) hu hkt.1 k hk) rfl rfl (Nat.le_of_ble_eq_true rfl) ⟨by decide, by decide⟩ ⟨by decide, by decide⟩ dX12_word_50 (fun q2 hq2 => ?_)
            have hfin : (y = 0 ∧ q2 = nI (nv gu (40 * t) / 65536 ^ k % 65536)) ∨ (y = 1 ∧ q2 = nI (nv gw (40 * t) / 65536 ^ k % 65536)) := Or.inl ⟨c37, hq2⟩
            refine g_goto fx 69 dX12_word_53 (by decide) ?_
            refine g_iret fx rt dX12_word_69 ?_
            refine gPip.mk ?_
            exact Or.inr (Or.inr ⟨c4, t, by omega, ext, Or.inr ⟨k, ezk, hk, hfin⟩⟩)
        · skip
          have hA : ¬ (((0 : Int) ≤ y.toInt ∧ y.toInt ≤ 1) ∧ 0 ≤ z) := fun w => c30 w.2
          refine g_bipush (v := (-2)) fx dX12_word_33 (by decide +kernel) ?_
          refine g_iret fx rt dX12_word_35 ?_
          refine gPip.mk ?_
          exact Or.inr (Or.inr ⟨c4, t, by omega, ext, Or.inl ⟨hA, rfl⟩⟩)
    · skip
      have hA : ¬ ((0 : Int) ≤ x.toInt ∧ x.toInt ≤ 3) := if01_z.mp (hqt ▸ c14)
      refine g_iconst (v := (-1)) fx dX12_word_17 (by decide +kernel) ?_
      refine g_iret fx rt dX12_word_18 ?_
      refine gPip.mk ?_
      exact Or.inr (Or.inl ⟨c4, hA, rfl⟩)
  · skip
    have hkn : f 12 < 0 := Int32.not_le.mp c4
    refine g_bipush (v := (-3)) fx dX12_word_7 (by decide +kernel) ?_
    refine g_iret fx rt dX12_word_9 ?_
    refine gPip.mk ?_
    exact Or.inl ⟨hkn, rfl⟩
set_option maxHeartbeats 4000000 in
set_option maxRecDepth 100000 in
theorem c_X12_against (B : gB) (ad : Nat → Nat) (ct : Nat → va_E) (n : Nat) (f : Nat → Int32) (gu gw : Nat → Nat) (hn : 33 ≤ n) (h0 : ct 0 = mObj ad f) (hu : ct 9 = .inl (B.2.1 0, 160, .inl (nF gu))) (hw : ct 10 = .inl (B.2.1 0, 160, .inl (nF gw))) (hres : 0 ≤ f 12 → ∀ t, t < 4 → okN gu (40 * t) ∧ okN gw (40 * t)) (go gt : Nat → Nat) (ho : ct 3 = .inl (B.2.1 0, 40, .inl (nF go))) (hg : ct 4 = .inl (B.2.1 0, 40, .inl (nF gt))) (hbd : 0 ≤ f 12 → ∀ t, t < 4 → nv gu (40 * t) < 2 ^ 700 ∧ nv gw (40 * t) < 2 ^ 700) (x u v : Int32) : Ctr B yX12_against cX12_against 4 (some .int) 2 60 0 0 ad ct n [.ref (ad 0), .int x, .int u, .int v] (gPi ad n (fun q ct' => (f 12 < 0 ∧ q = -30 ∧ ct' = ct) ∨ (0 ≤ f 12 ∧ ¬ ((0 : Int) ≤ x.toInt ∧ x.toInt ≤ 3) ∧ q = -10 ∧ ct' = ct) ∨ (0 ≤ f 12 ∧ ∃ t : Nat, t < 4 ∧ x = nI t ∧ ((¬ (((0 : Int) ≤ u.toInt ∧ u.toInt ≤ 1000000) ∧ ((1 : Int) ≤ v.toInt ∧ v.toInt ≤ 1000000)) ∧ q = -20 ∧ ct' = ct) ∨ ((((0 : Int) ≤ u.toInt ∧ u.toInt ≤ 1000000) ∧ ((1 : Int) ≤ v.toInt ∧ v.toInt ≤ 1000000)) ∧ ∃ a b : Nat, u = nI a ∧ v = nI b ∧ q = cmpI (nv gu (40 * t) * b) (nv gw (40 * t) * a) ∧ ∃ go' gt', ct' 3 = .inl (B.2.1 0, 40, .inl (nF go')) ∧ ct' 4 = .inl (B.2.1 0, 40, .inl (nF gt')) ∧ ∀ r, r ≠ 3 → r ≠ 4 → ct' r = ct r))))) := by
  refine Ctr.ofG (L := [(0, .ref (ad 0)), (1, .int x), (2, .int u), (3, .int v)]) (by decide +kernel) rfl (Nat.le_of_ble_eq_true rfl) (fun E fx rt hnm => ?_)
  refine g_aload_n fx 0 dX12_against_0 rfl ?_
  refine g_get (r := 0) fx lkX12_34 (by omega) h0 rfl dX12_against_1 ?_
  refine g_if_ge fx 10 dX12_against_4 (by decide) (fun c4 => ?_) (fun c4 => ?_)
  · skip
    have hkd := hres c4
    refine g_iload_n fx 1 dX12_against_10 rfl ?_
    refine g_callSip (As := [.int x]) (rest := []) fx slX12_285 (c_X12_isTail B ad ct n x) rfl rfl (Nat.le_of_ble_eq_true rfl) ⟨by decide, by decide⟩ ⟨by decide, by decide⟩ dX12_against_11 (fun qt hqt => ?_)
    refine g_if_ne fx 20 dX12_against_14 (by decide) (fun c14 => ?_) (fun c14 => ?_)
    · skip
      have hP : (0 : Int) ≤ x.toInt ∧ x.toInt ≤ 3 := if01_n.mp (hqt ▸ c14)
      obtain ⟨t, ht, ext⟩ := toN hP (by omega)
      have hkt := hkd t (by omega)
      refine g_relocal (L' := [(0, .ref (ad 0)), (1, .int (nI t)), (2, .int u), (3, .int v)]) (by rw [ext]) ?_
      refine g_iload_n fx 2 dX12_against_20 rfl ?_
      refine g_iload_n fx 3 dX12_against_21 rfl ?_
      refine g_callSip (As := [.int u, .int v]) (rest := []) fx slX12_299 (c_X12_isLevel B ad ct n u v) rfl rfl (Nat.le_of_ble_eq_true rfl) ⟨by decide, by decide⟩ ⟨by decide, by decide⟩ dX12_against_22 (fun q1 hq1 => ?_)
      refine g_if_eq fx 54 dX12_against_25 (by decide) (fun c25 => ?_) (fun c25 => ?_)
      · skip
        have hA := if01_z.mp (hq1 ▸ c25)
        refine g_bipush (v := (-20)) fx dX12_against_54 (by decide +kernel) ?_
        refine g_iret fx rt dX12_against_56 ?_
        refine gPi.mk (Or.inr (Or.inr ⟨c4, t, by omega, ext, ?_⟩))
        first | exact Or.inl ⟨hA, rfl, rfl⟩ | exact Or.inr ⟨hL, a, b, eua, evb, hq2, hcc⟩
      · skip
        have hL := if01_n.mp (hq1 ▸ c25)
        obtain ⟨a, ha, eua⟩ := toN hL.1 (by omega)
        obtain ⟨b, hb, evb⟩ := toN hL.2 (by omega)
        have hbt := hbd c4 t (by omega)
        have hm1 : nv gu (40 * t) * b < 16777216 ^ 40 := Nat.lt_of_le_of_lt (Nat.mul_le_mul_left _ (show b ≤ 2 ^ 20 by omega)) (by have := hbt.1; rw [show (16777216 : Nat) ^ 40 = 2 ^ 700 * 2 ^ 260 by decide +kernel]; exact Nat.lt_of_lt_of_le (Nat.mul_lt_mul_of_pos_right this (by decide)) (Nat.mul_le_mul_left _ (by decide)))
        have hm2 : nv gw (40 * t) * a < 16777216 ^ 40 := Nat.lt_of_le_of_lt (Nat.mul_le_mul_left _ (show a ≤ 2 ^ 20 by omega)) (by have := hbt.2; rw [show (16777216 : Nat) ^ 40 = 2 ^ 700 * 2 ^ 260 by decide +kernel]; exact Nat.lt_of_lt_of_le (Nat.mul_lt_mul_of_pos_right this (by decide)) (Nat.mul_le_mul_left _ (by decide)))
        refine g_relocal (L' := [(0, .ref (ad 0)), (1, .int (nI t)), (2, .int (nI a)), (3, .int (nI b))]) (by rw [eua, evb]) ?_
        refine g_aload_n fx 0 dX12_against_28 rfl ?_
        refine g_aload_n fx 0 dX12_against_29 rfl ?_
        refine g_get (r := 0) fx lkX12_38 (by omega) h0 rfl dX12_against_30 ?_
        refine g_bipush (v := nI 40) fx dX12_against_33 (by decide +kernel) ?_
        refine g_iload_n fx 1 dX12_against_35 rfl ?_
        refine g_imulN fx dX12_against_36 ?_
        refine g_aload_n fx 0 dX12_against_37 rfl ?_
        refine g_get (r := 0) fx lkX12_41 (by omega) h0 rfl dX12_against_38 ?_
        refine g_bipush (v := nI 40) fx dX12_against_41 (by decide +kernel) ?_
        refine g_iload_n fx 1 dX12_against_43 rfl ?_
        refine g_imulN fx dX12_against_44 ?_
        refine g_iload_n fx 2 dX12_against_45 rfl ?_
        refine g_iload_n fx 3 dX12_against_46 rfl ?_
        refine g_iconst (v := nI 1) fx dX12_against_47 (by decide +kernel) ?_
        refine g_callVi (As := [.ref (ad 9), .int (nI (40 * t)), .ref (ad 10), .int (nI (40 * t)), .int (nI a), .int (nI b), .int (nI 1)]) (rest := []) fx slX12_303 (c_X12_stands B ad ct n f go gt hn h0 ho hg 9 (40 * t) 160 gu (by omega) (by omega) (by decide) hu 10 (40 * t) 160 gw (by omega) (by omega) (by decide) hw (by decide) (by decide) hkt.1 hkt.2 a b 1 (by omega) (by omega) (by decide) hm1 (by rw [Nat.mul_one]; exact hm1) hm2) (by omega) h0 rfl rfl rfl (Nat.le_of_ble_eq_true rfl) ⟨by decide, by decide⟩ ⟨by decide, by decide⟩ dX12_against_48 (fun q2 ct1 hq2 => ?_)
        obtain ⟨hq2, hcc⟩ := hq2
        rw [Nat.mul_one] at hq2
        refine g_goto fx 56 dX12_against_51 (by decide) ?_
        refine g_iret fx rt dX12_against_56 ?_
        refine gPi.mk (Or.inr (Or.inr ⟨c4, t, by omega, ext, ?_⟩))
        first | exact Or.inl ⟨hA, rfl, rfl⟩ | exact Or.inr ⟨hL, a, b, eua, evb, hq2, hcc⟩
    · skip
      have hA : ¬ ((0 : Int) ≤ x.toInt ∧ x.toInt ≤ 3) := if01_z.mp (hqt ▸ c14)
      refine g_bipush (v := (-10)) fx dX12_against_17 (by decide +kernel) ?_
      refine g_iret fx rt dX12_against_19 ?_
      exact gPi.mk (Or.inr (Or.inl ⟨c4, hA, rfl, rfl⟩))
  · skip
    have hkn : f 12 < 0 := Int32.not_le.mp c4
    refine g_bipush (v := (-30)) fx dX12_against_7 (by decide +kernel) ?_
    refine g_iret fx rt dX12_against_9 ?_
    exact gPi.mk (Or.inl ⟨hkn, rfl, rfl⟩)
set_option maxHeartbeats 4000000 in
set_option maxRecDepth 100000 in
theorem c_X12_note (B : gB) (ad : Nat → Nat) (ct : Nat → va_E) (n : Nat) (f : Nat → Int32) (gu gw : Nat → Nat) (hn : 33 ≤ n) (h0 : ct 0 = mObj ad f) (hu : ct 9 = .inl (B.2.1 0, 160, .inl (nF gu))) (hw : ct 10 = .inl (B.2.1 0, 160, .inl (nF gw))) (hres : 0 ≤ f 12 → ∀ t, t < 4 → okN gu (40 * t) ∧ okN gw (40 * t)) (pu pw : Nat → Nat) (hp : ct 26 = .inl (B.2.1 0, 480, .inl (nF pu))) (hr : ct 27 = .inl (B.2.1 0, 480, .inl (nF pw))) (kn : Nat) (hkn0 : f 40 = nI kn) (hkn12 : kn ≤ 12) (x : Int32) : Ctr B yX12_note cX12_note 2 (some .int) 2 45 0 0 ad ct n [.ref (ad 0), .int x] (gPi ad n (fun q ct' => (f 12 < 0 ∧ q = -3 ∧ ct' = ct) ∨ (0 ≤ f 12 ∧ ¬ ((0 : Int) ≤ x.toInt ∧ x.toInt ≤ 3) ∧ q = -1 ∧ ct' = ct) ∨ (0 ≤ f 12 ∧ ∃ t : Nat, t < 4 ∧ x = nI t ∧ ((kn = 12 ∧ q = -4 ∧ ct' = ct) ∨ (kn < 12 ∧ q = nI (kn + 1) ∧ ct' 0 = mObj ad (va_up f 40 (nI (kn + 1))) ∧ (∃ pu' pw', ct' 26 = .inl (B.2.1 0, 480, .inl (nF pu')) ∧ ct' 27 = .inl (B.2.1 0, 480, .inl (nF pw')) ∧ outN pu pu' (40 * kn) ∧ outN pw pw' (40 * kn) ∧ (∀ k, k < 40 → pu' (40 * kn + k) = gu (40 * t + k)) ∧ ∀ k, k < 40 → pw' (40 * kn + k) = gw (40 * t + k)) ∧ ∀ r, r ≠ 0 → r ≠ 26 → r ≠ 27 → ct' r = ct r))))) := by
  have hfr : ∀ r, r ≠ 0 → r ≠ 26 → r ≠ 27 → ct r = ct r := fun _ _ _ _ => rfl
  refine Ctr.ofG (L := [(0, .ref (ad 0)), (1, .int x)]) (by decide +kernel) rfl (Nat.le_of_ble_eq_true rfl) (fun E fx rt hnm => ?_)
  refine g_aload_n fx 0 dX12_note_0 rfl ?_
  refine g_get (r := 0) fx lkX12_34 (by omega) h0 rfl dX12_note_1 ?_
  refine g_if_ge fx 10 dX12_note_4 (by decide) (fun c4 => ?_) (fun c4 => ?_)
  · skip
    have hkd := hres c4
    refine g_iload_n fx 1 dX12_note_10 rfl ?_
    refine g_callSip (As := [.int x]) (rest := []) fx slX12_285 (c_X12_isTail B ad ct n x) rfl rfl (Nat.le_of_ble_eq_true rfl) ⟨by decide, by decide⟩ ⟨by decide, by decide⟩ dX12_note_11 (fun qt hqt => ?_)
    refine g_if_ne fx 19 dX12_note_14 (by decide) (fun c14 => ?_) (fun c14 => ?_)
    · skip
      have hP : (0 : Int) ≤ x.toInt ∧ x.toInt ≤ 3 := if01_n.mp (hqt ▸ c14)
      obtain ⟨t, ht, ext⟩ := toN hP (by omega)
      have hkt := hkd t (by omega)
      refine g_relocal (L' := [(0, .ref (ad 0)), (1, .int (nI t))]) (by rw [ext]) ?_
      refine g_aload_n fx 0 dX12_note_19 rfl ?_
      refine g_get (r := 0) fx lkX12_184 (by omega) h0 rfl dX12_note_20 ?_
      refine g_isi (y := nI kn) hkn0 ?_
      refine g_bipush (v := nI 12) fx dX12_note_23 (by decide +kernel) ?_
      refine g_icmp_ne fx 31 dX12_note_25 (by decide) (fun c25 => ?_) (fun c25 => ?_)
      · skip
        have hfull : kn < 12 := Nat.lt_of_le_of_ne hkn12 (fun e => c25 (by rw [e]))
        refine g_aload_n fx 0 dX12_note_31 rfl ?_
        refine g_get (r := 0) fx lkX12_38 (by omega) h0 rfl dX12_note_32 ?_
        refine g_bipush (v := nI 40) fx dX12_note_35 (by decide +kernel) ?_
        refine g_iload_n fx 1 dX12_note_37 rfl ?_
        refine g_imulN fx dX12_note_38 ?_
        refine g_aload_n fx 0 dX12_note_39 rfl ?_
        refine g_get (r := 0) fx lkX12_94 (by omega) h0 rfl dX12_note_40 ?_
        refine g_bipush (v := nI 40) fx dX12_note_43 (by decide +kernel) ?_
        refine g_aload_n fx 0 dX12_note_45 rfl ?_
        refine g_get (r := 0) fx lkX12_184 (by omega) h0 rfl dX12_note_46 ?_
        refine g_isi (y := nI kn) hkn0 ?_
        refine g_imulN fx dX12_note_49 ?_
        refine g_callSv (As := [.ref (ad 9), .int (nI (40 * t)), .ref (ad 26), .int (nI (40 * kn))]) (rest := []) fx slX12_151 (c_X12_copy B ad ct n 26 (40 * kn) 480 pu (by omega) (by omega) (by decide) hp 9 (40 * t) 160 gu (by omega) (by omega) (by decide) hu (by decide)) rfl rfl (Nat.le_of_ble_eq_true rfl) ⟨by decide, by decide⟩ ⟨by decide, by decide⟩ dX12_note_50 (fun ct1 hz1 => ?_)
        obtain ⟨pu1, e1, ho1, hc1⟩ := hz1
        have hfr : ∀ r, r ≠ 0 → r ≠ 26 → r ≠ 27 → ct1 r = ct r := fun r _ _ _ => (congrFun e1 r).trans ((va_up_ne _ _ (by assumption)).trans (hfr r (by assumption) (by assumption) (by assumption)))
        have h0 : ct1 0 = mObj ad f := (congrFun e1 _).trans ((va_up_ne _ _ (by omega)).trans h0)
        have hu : ct1 9 = .inl (B.2.1 0, 160, .inl (nF gu)) := (congrFun e1 _).trans ((va_up_ne _ _ (by omega)).trans hu)
        have hw : ct1 10 = .inl (B.2.1 0, 160, .inl (nF gw)) := (congrFun e1 _).trans ((va_up_ne _ _ (by omega)).trans hw)
        have hp : ct1 26 = .inl (B.2.1 0, 480, .inl (nF pu1)) := by rw [e1, va_up_self]
        have hr : ct1 27 = .inl (B.2.1 0, 480, .inl (nF pw)) := (congrFun e1 _).trans ((va_up_ne _ _ (by omega)).trans hr)
        refine g_aload_n fx 0 dX12_note_53 rfl ?_
        refine g_get (r := 0) fx lkX12_41 (by omega) h0 rfl dX12_note_54 ?_
        refine g_bipush (v := nI 40) fx dX12_note_57 (by decide +kernel) ?_
        refine g_iload_n fx 1 dX12_note_59 rfl ?_
        refine g_imulN fx dX12_note_60 ?_
        refine g_aload_n fx 0 dX12_note_61 rfl ?_
        refine g_get (r := 0) fx lkX12_97 (by omega) h0 rfl dX12_note_62 ?_
        refine g_bipush (v := nI 40) fx dX12_note_65 (by decide +kernel) ?_
        refine g_aload_n fx 0 dX12_note_67 rfl ?_
        refine g_get (r := 0) fx lkX12_184 (by omega) h0 rfl dX12_note_68 ?_
        refine g_isi (y := nI kn) hkn0 ?_
        refine g_imulN fx dX12_note_71 ?_
        refine g_callSv (As := [.ref (ad 10), .int (nI (40 * t)), .ref (ad 27), .int (nI (40 * kn))]) (rest := []) fx slX12_151 (c_X12_copy B ad ct1 n 27 (40 * kn) 480 pw (by omega) (by omega) (by decide) hr 10 (40 * t) 160 gw (by omega) (by omega) (by decide) hw (by decide)) rfl rfl (Nat.le_of_ble_eq_true rfl) ⟨by decide, by decide⟩ ⟨by decide, by decide⟩ dX12_note_72 (fun ct2 hz2 => ?_)
        obtain ⟨pw1, e2, ho2, hc2⟩ := hz2
        have hfr : ∀ r, r ≠ 0 → r ≠ 26 → r ≠ 27 → ct2 r = ct r := fun r _ _ _ => (congrFun e2 r).trans ((va_up_ne _ _ (by assumption)).trans (hfr r (by assumption) (by assumption) (by assumption)))
        have h0 : ct2 0 = mObj ad f := (congrFun e2 _).trans ((va_up_ne _ _ (by omega)).trans h0)
        have hu : ct2 9 = .inl (B.2.1 0, 160, .inl (nF gu)) := (congrFun e2 _).trans ((va_up_ne _ _ (by omega)).trans hu)
        have hw : ct2 10 = .inl (B.2.1 0, 160, .inl (nF gw)) := (congrFun e2 _).trans ((va_up_ne _ _ (by omega)).trans hw)
        have hp : ct2 26 = .inl (B.2.1 0, 480, .inl (nF pu1)) := (congrFun e2 _).trans ((va_up_ne _ _ (by omega)).trans hp)
        have hr : ct2 27 = .inl (B.2.1 0, 480, .inl (nF pw1)) := by rw [e2, va_up_self]
        refine g_aload_n fx 0 dX12_note_75 rfl ?_
        refine g_dup fx dX12_note_76 rfl ?_
        refine g_get (r := 0) fx lkX12_184 (by omega) h0 rfl dX12_note_77 ?_
        refine g_isi (y := nI kn) hkn0 ?_
        refine g_iconst (v := nI 1) fx dX12_note_80 (by decide +kernel) ?_
        refine g_iaddN fx dX12_note_81 ?_
        refine g_put (r := 0) (fs' := mFs ad (va_up f 40 (nI (kn + 1)))) fx lpX12_184 (by omega) h0 rfl rfl (Nat.le_of_ble_eq_true rfl) rfl dX12_note_82 (fun cu2 ecu2 => ?_)
        have hfr : ∀ r, r ≠ 0 → r ≠ 26 → r ≠ 27 → cu2 r = ct r := fun r _ _ _ => (congrFun ecu2 r).trans ((va_up_ne _ _ (by assumption)).trans (hfr r (by assumption) (by assumption) (by assumption)))
        have h0 : cu2 0 = mObj ad (va_up f 40 (nI (kn + 1))) := by rw [ecu2, va_up_self]
        have hu : cu2 9 = .inl (B.2.1 0, 160, .inl (nF gu)) := (congrFun ecu2 _).trans ((va_up_ne _ _ (by omega)).trans hu)
        have hw : cu2 10 = .inl (B.2.1 0, 160, .inl (nF gw)) := (congrFun ecu2 _).trans ((va_up_ne _ _ (by omega)).trans hw)
        have hp : cu2 26 = .inl (B.2.1 0, 480, .inl (nF pu1)) := (congrFun ecu2 _).trans ((va_up_ne _ _ (by omega)).trans hp)
        have hr : cu2 27 = .inl (B.2.1 0, 480, .inl (nF pw1)) := (congrFun ecu2 _).trans ((va_up_ne _ _ (by omega)).trans hr)
        refine g_aload_n fx 0 dX12_note_85 rfl ?_
        refine g_get (r := 0) fx lkX12_184 (by omega) h0 rfl dX12_note_86 ?_
        refine g_isi (y := nI (kn + 1)) (va_up_self _ _ _) ?_
        refine g_iret fx rt dX12_note_89 ?_
        exact gPi.mk (Or.inr (Or.inr ⟨c4, t, by omega, ext, Or.inr ⟨hfull, rfl, h0, ⟨pu1, pw1, hp, hr, ho1, ho2, hc1, hc2⟩, hfr⟩⟩))
      · skip
        have hfull : kn = 12 := (nI_eq (by omega) (by omega)).mp c25
        refine g_bipush (v := (-4)) fx dX12_note_28 (by decide +kernel) ?_
        refine g_iret fx rt dX12_note_30 ?_
        exact gPi.mk (Or.inr (Or.inr ⟨c4, t, by omega, ext, Or.inl ⟨hfull, rfl, rfl⟩⟩))
    · skip
      have hA : ¬ ((0 : Int) ≤ x.toInt ∧ x.toInt ≤ 3) := if01_z.mp (hqt ▸ c14)
      refine g_iconst (v := (-1)) fx dX12_note_17 (by decide +kernel) ?_
      refine g_iret fx rt dX12_note_18 ?_
      exact gPi.mk (Or.inr (Or.inl ⟨c4, hA, rfl, rfl⟩))
  · skip
    have hkn : f 12 < 0 := Int32.not_le.mp c4
    refine g_bipush (v := (-3)) fx dX12_note_7 (by decide +kernel) ?_
    refine g_iret fx rt dX12_note_9 ?_
    exact gPi.mk (Or.inl ⟨hkn, rfl, rfl⟩)
set_option maxHeartbeats 4000000 in
set_option maxRecDepth 100000 in
theorem c_X12_caseAt (B : gB) (ad : Nat → Nat) (ct : Nat → va_E) (n : Nat) (f : Nat → Int32) (fk : Nat → Int32) (hn : 33 ≤ n) (h0 : ct 0 = mObj ad f) (hk : ct 16 = .inl (B.2.1 2, 500000, .inl fk)) (nk kr kc : Nat) (hnk : f 25 = nI nk) (hkr : f 26 = nI kr) (hkc : f 27 = nI kc) (hn2 : nk ≤ 20000) (hr5 : kr ≤ 5) (hc5 : kc ≤ 5) (x y z : Int32) : Ctr B yX12_caseAt cX12_caseAt 4 (some .int) 1 25 0 0 ad ct n [.ref (ad 0), .int x, .int y, .int z] (gPip ad ct n (fun q => (nk = 0 ∧ q = -3) ∨ (0 < nk ∧ ¬ (((0 : Int) ≤ x.toInt ∧ x.toInt ≤ (nk : Int) - 1) ∧ ((0 : Int) ≤ y.toInt ∧ y.toInt ≤ (kr : Int) - 1) ∧ ((0 : Int) ≤ z.toInt ∧ z.toInt ≤ (kc : Int) - 1)) ∧ q = -1) ∨ (0 < nk ∧ ∃ i a b : Nat, x = nI i ∧ i < nk ∧ y = nI a ∧ a < kr ∧ z = nI b ∧ b < kc ∧ q = fk (25 * i + kc * a + b)))) := by
  refine Ctr.ofG (L := [(0, .ref (ad 0)), (1, .int x), (2, .int y), (3, .int z)]) (by decide +kernel) rfl (Nat.le_of_ble_eq_true rfl) (fun E fx rt hnm => ?_)
  refine g_aload_n fx 0 dX12_caseAt_0 rfl ?_
  refine g_get (r := 0) fx lkX12_228 (by omega) h0 rfl dX12_caseAt_1 ?_
  refine g_isi (y := nI nk) hnk ?_
  refine g_if_ne fx 10 dX12_caseAt_4 (by decide) (fun c4 => ?_) (fun c4 => ?_)
  · skip
    have hpos : 0 < nk := Nat.pos_of_ne_zero (fun w => c4 (by rw [w]; rfl))
    refine g_iload_n fx 1 dX12_caseAt_10 rfl ?_
    refine g_i2l fx dX12_caseAt_11 ?_
    refine g_lconst (v := lN 0) fx dX12_caseAt_12 (by decide +kernel) ?_
    refine g_aload_n fx 0 dX12_caseAt_13 rfl ?_
    refine g_get (r := 0) fx lkX12_228 (by omega) h0 rfl dX12_caseAt_14 ?_
    refine g_isi (y := nI nk) hnk ?_
    refine g_iconst (v := nI 1) fx dX12_caseAt_17 (by decide +kernel) ?_
    refine g_isub fx dX12_caseAt_18 ?_
    refine g_i2l fx dX12_caseAt_19 ?_
    refine g_callSip (As := [.long x.toInt64, .long (lN 0), .long (((nI nk) - (nI 1)).toInt64)]) (rest := []) fx slX12_159 (c_in B ad ct n x (lN 0) (nI nk - nI 1).toInt64 0 ((nk : Int) - 1) (by decide) (rm1 (by omega))) rfl rfl (Nat.le_of_ble_eq_true rfl) ⟨by decide, by decide⟩ ⟨by decide, by decide⟩ dX12_caseAt_20 (fun q1 hq1 => ?_)
    refine g_if_eq fx 58 dX12_caseAt_23 (by decide) (fun c23 => ?_) (fun c23 => ?_)
    · skip
      have hA : ¬ (((0 : Int) ≤ x.toInt ∧ x.toInt ≤ (nk : Int) - 1) ∧ ((0 : Int) ≤ y.toInt ∧ y.toInt ≤ (kr : Int) - 1) ∧ ((0 : Int) ≤ z.toInt ∧ z.toInt ≤ (kc : Int) - 1)) := fun w => if01_z.mp (hq1 ▸ c23) w.1
      refine g_iconst (v := (-1)) fx dX12_caseAt_58 (by decide +kernel) ?_
      refine g_iret fx rt dX12_caseAt_59 ?_
      refine gPip.mk ?_
      exact Or.inr (Or.inl ⟨hpos, hA, rfl⟩)
    · skip
      have hx := if01_n.mp (hq1 ▸ c23)
      refine g_iload_n fx 2 dX12_caseAt_26 rfl ?_
      refine g_i2l fx dX12_caseAt_27 ?_
      refine g_lconst (v := lN 0) fx dX12_caseAt_28 (by decide +kernel) ?_
      refine g_aload_n fx 0 dX12_caseAt_29 rfl ?_
      refine g_get (r := 0) fx lkX12_231 (by omega) h0 rfl dX12_caseAt_30 ?_
      refine g_isi (y := nI kr) hkr ?_
      refine g_iconst (v := nI 1) fx dX12_caseAt_33 (by decide +kernel) ?_
      refine g_isub fx dX12_caseAt_34 ?_
      refine g_i2l fx dX12_caseAt_35 ?_
      refine g_callSip (As := [.long y.toInt64, .long (lN 0), .long (((nI kr) - (nI 1)).toInt64)]) (rest := []) fx slX12_159 (c_in B ad ct n y (lN 0) (nI kr - nI 1).toInt64 0 ((kr : Int) - 1) (by decide) (rm1 (by omega))) rfl rfl (Nat.le_of_ble_eq_true rfl) ⟨by decide, by decide⟩ ⟨by decide, by decide⟩ dX12_caseAt_36 (fun q2 hq2 => ?_)
      refine g_if_eq fx 58 dX12_caseAt_39 (by decide) (fun c39 => ?_) (fun c39 => ?_)
      · skip
        have hA : ¬ (((0 : Int) ≤ x.toInt ∧ x.toInt ≤ (nk : Int) - 1) ∧ ((0 : Int) ≤ y.toInt ∧ y.toInt ≤ (kr : Int) - 1) ∧ ((0 : Int) ≤ z.toInt ∧ z.toInt ≤ (kc : Int) - 1)) := fun w => if01_z.mp (hq2 ▸ c39) w.2.1
        refine g_iconst (v := (-1)) fx dX12_caseAt_58 (by decide +kernel) ?_
        refine g_iret fx rt dX12_caseAt_59 ?_
        refine gPip.mk ?_
        exact Or.inr (Or.inl ⟨hpos, hA, rfl⟩)
      · skip
        have hy := if01_n.mp (hq2 ▸ c39)
        refine g_iload_n fx 3 dX12_caseAt_42 rfl ?_
        refine g_i2l fx dX12_caseAt_43 ?_
        refine g_lconst (v := lN 0) fx dX12_caseAt_44 (by decide +kernel) ?_
        refine g_aload_n fx 0 dX12_caseAt_45 rfl ?_
        refine g_get (r := 0) fx lkX12_234 (by omega) h0 rfl dX12_caseAt_46 ?_
        refine g_isi (y := nI kc) hkc ?_
        refine g_iconst (v := nI 1) fx dX12_caseAt_49 (by decide +kernel) ?_
        refine g_isub fx dX12_caseAt_50 ?_
        refine g_i2l fx dX12_caseAt_51 ?_
        refine g_callSip (As := [.long z.toInt64, .long (lN 0), .long (((nI kc) - (nI 1)).toInt64)]) (rest := []) fx slX12_159 (c_in B ad ct n z (lN 0) (nI kc - nI 1).toInt64 0 ((kc : Int) - 1) (by decide) (rm1 (by omega))) rfl rfl (Nat.le_of_ble_eq_true rfl) ⟨by decide, by decide⟩ ⟨by decide, by decide⟩ dX12_caseAt_52 (fun q3 hq3 => ?_)
        refine g_if_ne fx 60 dX12_caseAt_55 (by decide) (fun c55 => ?_) (fun c55 => ?_)
        · skip
          have hz := if01_n.mp (hq3 ▸ c55)
          obtain ⟨i, hi, exi⟩ := toN hx (by omega)
          obtain ⟨a, ha, eya⟩ := toN hy (by omega)
          obtain ⟨b, hb, ezb⟩ := toN hz (by omega)
          have hca : kc * a ≤ kc * 4 := Nat.mul_le_mul_left _ (by omega)
          refine g_relocal (L' := [(0, .ref (ad 0)), (1, .int (nI i)), (2, .int (nI a)), (3, .int (nI b))]) (by rw [exi, eya, ezb]) ?_
          refine g_aload_n fx 0 dX12_caseAt_60 rfl ?_
          refine g_get (r := 0) fx lkX12_62 (by omega) h0 rfl dX12_caseAt_61 ?_
          refine g_bipush (v := nI 25) fx dX12_caseAt_64 (by decide +kernel) ?_
          refine g_iload_n fx 1 dX12_caseAt_66 rfl ?_
          refine g_imulN fx dX12_caseAt_67 ?_
          refine g_aload_n fx 0 dX12_caseAt_68 rfl ?_
          refine g_get (r := 0) fx lkX12_234 (by omega) h0 rfl dX12_caseAt_69 ?_
          refine g_isi (y := nI kc) hkc ?_
          refine g_iload_n fx 2 dX12_caseAt_72 rfl ?_
          refine g_imulN fx dX12_caseAt_73 ?_
          refine g_iaddN fx dX12_caseAt_74 ?_
          refine g_iload_n fx 3 dX12_caseAt_75 rfl ?_
          refine g_iaddN fx dX12_caseAt_76 ?_
          refine g_bald (r := 16) (j := 25 * i + kc * a + b) fx (by omega) hk (nI_toInt (by omega)) (by omega) dX12_caseAt_77 ?_
          refine g_iret fx rt dX12_caseAt_78 ?_
          refine gPip.mk ?_
          exact Or.inr (Or.inr ⟨hpos, i, a, b, exi, by omega, eya, by omega, ezb, by omega, rfl⟩)
        · skip
          have hA : ¬ (((0 : Int) ≤ x.toInt ∧ x.toInt ≤ (nk : Int) - 1) ∧ ((0 : Int) ≤ y.toInt ∧ y.toInt ≤ (kr : Int) - 1) ∧ ((0 : Int) ≤ z.toInt ∧ z.toInt ≤ (kc : Int) - 1)) := fun w => if01_z.mp (hq3 ▸ c55) w.2.2
          refine g_iconst (v := (-1)) fx dX12_caseAt_58 (by decide +kernel) ?_
          refine g_iret fx rt dX12_caseAt_59 ?_
          refine gPip.mk ?_
          exact Or.inr (Or.inl ⟨hpos, hA, rfl⟩)
  · skip
    have hz0 : nk = 0 := (nI_eq (b := 0) (by omega) (by decide)).mp c4
    refine g_bipush (v := (-3)) fx dX12_caseAt_7 (by decide +kernel) ?_
    refine g_iret fx rt dX12_caseAt_9 ?_
    refine gPip.mk ?_
    exact Or.inl ⟨hz0, rfl⟩
set_option maxHeartbeats 4000000 in
set_option maxRecDepth 100000 in
theorem c_X12_weighs (B : gB) (ad : Nat → Nat) (ct : Nat → va_E) (n : Nat) (f : Nat → Int32) (fk : Nat → Int32) (hn : 33 ≤ n) (h0 : ct 0 = mObj ad f) (hk : ct 17 = .inl (B.2.1 2, 20000, .inl fk)) (nk : Nat) (hnk : f 25 = nI nk) (hn2 : nk ≤ 20000) (x : Int32) : Ctr B yX12_weighs cX12_weighs 2 (some .int) 1 25 0 0 ad ct n [.ref (ad 0), .int x] (gPip ad ct n (fun q => (nk = 0 ∧ q = -30) ∨ (0 < nk ∧ ¬ ((0 : Int) ≤ x.toInt ∧ x.toInt ≤ (nk : Int) - 1) ∧ q = -10) ∨ (0 < nk ∧ ∃ i : Nat, x = nI i ∧ i < nk ∧ q = fk i))) := by
  refine Ctr.ofG (L := [(0, .ref (ad 0)), (1, .int x)]) (by decide +kernel) rfl (Nat.le_of_ble_eq_true rfl) (fun E fx rt hnm => ?_)
  refine g_aload_n fx 0 dX12_weighs_0 rfl ?_
  refine g_get (r := 0) fx lkX12_228 (by omega) h0 rfl dX12_weighs_1 ?_
  refine g_isi (y := nI nk) hnk ?_
  refine g_if_ne fx 10 dX12_weighs_4 (by decide) (fun c4 => ?_) (fun c4 => ?_)
  · skip
    have hpos : 0 < nk := Nat.pos_of_ne_zero (fun w => c4 (by rw [w]; rfl))
    refine g_iload_n fx 1 dX12_weighs_10 rfl ?_
    refine g_i2l fx dX12_weighs_11 ?_
    refine g_lconst (v := lN 0) fx dX12_weighs_12 (by decide +kernel) ?_
    refine g_aload_n fx 0 dX12_weighs_13 rfl ?_
    refine g_get (r := 0) fx lkX12_228 (by omega) h0 rfl dX12_weighs_14 ?_
    refine g_isi (y := nI nk) hnk ?_
    refine g_iconst (v := nI 1) fx dX12_weighs_17 (by decide +kernel) ?_
    refine g_isub fx dX12_weighs_18 ?_
    refine g_i2l fx dX12_weighs_19 ?_
    refine g_callSip (As := [.long x.toInt64, .long (lN 0), .long (((nI nk) - (nI 1)).toInt64)]) (rest := []) fx slX12_159 (c_in B ad ct n x (lN 0) (nI nk - nI 1).toInt64 0 ((nk : Int) - 1) (by decide) (rm1 (by omega))) rfl rfl (Nat.le_of_ble_eq_true rfl) ⟨by decide, by decide⟩ ⟨by decide, by decide⟩ dX12_weighs_20 (fun q1 hq1 => ?_)
    refine g_if_eq fx 35 dX12_weighs_23 (by decide) (fun c23 => ?_) (fun c23 => ?_)
    · skip
      have hA := if01_z.mp (hq1 ▸ c23)
      refine g_bipush (v := (-10)) fx dX12_weighs_35 (by decide +kernel) ?_
      refine g_iret fx rt dX12_weighs_37 ?_
      refine gPip.mk ?_
      first | exact Or.inr (Or.inl ⟨hpos, hA, rfl⟩) | exact Or.inr (Or.inr ⟨hpos, i, exi, by omega, rfl⟩)
    · skip
      have hx := if01_n.mp (hq1 ▸ c23)
      obtain ⟨i, hi, exi⟩ := toN hx (by omega)
      refine g_relocal (L' := [(0, .ref (ad 0)), (1, .int (nI i))]) (by rw [exi]) ?_
      refine g_aload_n fx 0 dX12_weighs_26 rfl ?_
      refine g_get (r := 0) fx lkX12_66 (by omega) h0 rfl dX12_weighs_27 ?_
      refine g_iload_n fx 1 dX12_weighs_30 rfl ?_
      refine g_bald (r := 17) (j := i) fx (by omega) hk (nI_toInt (by omega)) (by omega) dX12_weighs_31 ?_
      refine g_goto fx 37 dX12_weighs_32 (by decide) ?_
      refine g_iret fx rt dX12_weighs_37 ?_
      refine gPip.mk ?_
      first | exact Or.inr (Or.inl ⟨hpos, hA, rfl⟩) | exact Or.inr (Or.inr ⟨hpos, i, exi, by omega, rfl⟩)
  · skip
    have hz0 : nk = 0 := (nI_eq (b := 0) (by omega) (by decide)).mp c4
    refine g_bipush (v := (-30)) fx dX12_weighs_7 (by decide +kernel) ?_
    refine g_iret fx rt dX12_weighs_9 ?_
    refine gPip.mk ?_
    exact Or.inl ⟨hz0, rfl⟩
