theorem mod_two {Y e m : Nat} (he : e < 2) : (Y * 2 + e) % 2 ^ (m + 1) = Y % 2 ^ m * 2 + e := by
  rw [Nat.pow_succ, Nat.mul_comm (2 ^ m) 2]
  have h1 := Nat.div_add_mod Y (2 ^ m)
  have hp := Nat.pow_pos (n := m) (a := 2) (by decide)
  have h2 := Nat.mod_lt Y hp
  have e1 : Y / 2 ^ m * (2 * 2 ^ m) + (Y % 2 ^ m * 2 + e) = Y * 2 + e := by
    generalize Y / 2 ^ m = q at h1 ⊢
    generalize Y % 2 ^ m = l at h1 ⊢
    generalize 2 ^ m = p at h1 ⊢
    rw [← h1]; grind
  exact (mod_of e1 (by omega)).symm
def fac : Nat → Nat
  | 0 => 1
  | n + 1 => fac n * (n + 1)
theorem fac_pos : ∀ n, 0 < fac n
  | 0 => by decide
  | n + 1 => Nat.mul_pos (fac_pos n) (Nat.succ_pos n)
def facP (c : Nat → Nat) : Nat → Nat
  | 0 => 1
  | k + 1 => facP c k * fac (c k)
theorem facP_pos (c : Nat → Nat) : ∀ n, 0 < facP c n
  | 0 => Nat.one_pos
  | n + 1 => Nat.mul_pos (facP_pos c n) (fac_pos _)
set_option maxHeartbeats 4000000 in
set_option maxRecDepth 100000 in
theorem c_X12_stands (B : gB) (ad : Nat → Nat) (ct : Nat → va_E) (n : Nat) (f : Nat → Int32) (go gt : Nat → Nat) (hn : 33 ≤ n) (h0 : ct 0 = mObj ad f) (ho : ct 3 = .inl (B.2.1 0, 40, .inl (nF go))) (ht : ct 4 = .inl (B.2.1 0, 40, .inl (nF gt))) (r a N : Nat) (g : Nat → Nat) (hnr : r < n) (haN : a + 40 ≤ N) (hN : N < 2 ^ 30) (hr : ct r = .inl (B.2.1 0, N, .inl (nF g))) (s b P : Nat) (gs : Nat → Nat) (hns : s < n) (hbP : b + 40 ≤ P) (hP : P < 2 ^ 30) (hs : ct s = .inl (B.2.1 0, P, .inl (nF gs))) (hr0 : 4 < r) (hs0 : 4 < s) (hok : okN g a) (hoks : okN gs b) (u v tm : Nat) (hu : u < 2 ^ 31) (hv : v < 2 ^ 31) (htm : tm < 2 ^ 31) (hb1 : nv g a * v < 16777216 ^ 40) (hb2 : nv g a * v * tm < 16777216 ^ 40) (hb3 : nv gs b * u < 16777216 ^ 40) : Ctr B yX12_stands cX12_stands 8 (some .int) 1 30 0 0 ad ct n [.ref (ad 0), .ref (ad r), .int (nI a), .ref (ad s), .int (nI b), .int (nI u), .int (nI v), .int (nI tm)] (gPi ad n (fun q ct' => q = cmpI (nv g a * v * tm) (nv gs b * u) ∧ ∃ go' gt', ct' 3 = .inl (B.2.1 0, 40, .inl (nF go')) ∧ ct' 4 = .inl (B.2.1 0, 40, .inl (nF gt')) ∧ ∀ r, r ≠ 3 → r ≠ 4 → ct' r = ct r)) := by
  have hfr : ∀ r, r ≠ 3 → r ≠ 4 → ct r = ct r := fun _ _ _ => rfl
  refine Ctr.ofG (L := [(0, .ref (ad 0)), (1, .ref (ad r)), (2, .int (nI a)), (3, .ref (ad s)), (4, .int (nI b)), (5, .int (nI u)), (6, .int (nI v)), (7, .int (nI tm))]) (by decide +kernel) rfl (Nat.le_of_ble_eq_true rfl) (fun E fx rt hnm => ?_)
  refine g_aload_n fx 1 dX12_stands_0 rfl ?_
  refine g_iload_n fx 2 dX12_stands_1 rfl ?_
  refine g_aload_n fx 0 dX12_stands_2 rfl ?_
  refine g_get (r := 0) fx lkX12_16 (by omega) h0 rfl dX12_stands_3 ?_
  refine g_iconst (v := nI 0) fx dX12_stands_6 (by decide +kernel) ?_
  refine g_callSv (As := [.ref (ad r), .int (nI a), .ref (ad 3), .int (nI 0)]) (rest := []) fx slX12_151 (c_X12_copy B ad ct n 3 0 40 go (by omega) (by omega) (by decide) ho r a N g hnr haN hN hr (by omega)) rfl rfl (Nat.le_of_ble_eq_true rfl) ⟨by decide, by decide⟩ ⟨by decide, by decide⟩ dX12_stands_7 (fun ct1 hz1 => ?_)
  obtain ⟨g1, e1, -, hc1⟩ := hz1
  have hok1 : okN g1 0 := fun j hj => by rw [hc1 j hj]; exact hok j hj
  have hv1 : nv g1 0 = nv g a := bval_congr 40 (fun j hj => hc1 j hj)
  have hfr : ∀ r, r ≠ 3 → r ≠ 4 → ct1 r = ct r := fun r _ _ => (congrFun e1 r).trans ((va_up_ne _ _ (by assumption)).trans (hfr r (by assumption) (by assumption)))
  have h0 : ct1 0 = mObj ad f := (congrFun e1 _).trans ((va_up_ne _ _ (by omega)).trans h0)
  have ho : ct1 3 = .inl (B.2.1 0, 40, .inl (nF g1)) := by rw [e1, va_up_self]
  have ht : ct1 4 = .inl (B.2.1 0, 40, .inl (nF gt)) := (congrFun e1 _).trans ((va_up_ne _ _ (by omega)).trans ht)
  have hr : ct1 r = .inl (B.2.1 0, N, .inl (nF g)) := (congrFun e1 _).trans ((va_up_ne _ _ (by omega)).trans hr)
  have hs : ct1 s = .inl (B.2.1 0, P, .inl (nF gs)) := (congrFun e1 _).trans ((va_up_ne _ _ (by omega)).trans hs)
  refine g_aload_n fx 0 dX12_stands_10 rfl ?_
  refine g_get (r := 0) fx lkX12_16 (by omega) h0 rfl dX12_stands_11 ?_
  refine g_iconst (v := nI 0) fx dX12_stands_14 (by decide +kernel) ?_
  refine g_iload fx 6 dX12_stands_15 rfl ?_
  refine g_callSv (As := [.ref (ad 3), .int (nI 0), .int (nI v)]) (rest := []) fx slX12_204 (c_X12_multiply B ad ct1 n 3 0 40 g1 (by omega) (by omega) (by decide) ho v hv hok1 (by rw [hv1]; exact hb1)) rfl rfl (Nat.le_of_ble_eq_true rfl) ⟨by decide, by decide⟩ ⟨by decide, by decide⟩ dX12_stands_17 (fun ct2 hz2 => ?_)
  obtain ⟨g2, e2, -, hok2, hv2⟩ := hz2
  rw [hv1] at hv2
  have hfr : ∀ r, r ≠ 3 → r ≠ 4 → ct2 r = ct r := fun r _ _ => (congrFun e2 r).trans ((va_up_ne _ _ (by assumption)).trans (hfr r (by assumption) (by assumption)))
  have h0 : ct2 0 = mObj ad f := (congrFun e2 _).trans ((va_up_ne _ _ (by omega)).trans h0)
  have ho : ct2 3 = .inl (B.2.1 0, 40, .inl (nF g2)) := by rw [e2, va_up_self]
  have ht : ct2 4 = .inl (B.2.1 0, 40, .inl (nF gt)) := (congrFun e2 _).trans ((va_up_ne _ _ (by omega)).trans ht)
  have hr : ct2 r = .inl (B.2.1 0, N, .inl (nF g)) := (congrFun e2 _).trans ((va_up_ne _ _ (by omega)).trans hr)
  have hs : ct2 s = .inl (B.2.1 0, P, .inl (nF gs)) := (congrFun e2 _).trans ((va_up_ne _ _ (by omega)).trans hs)
  refine g_aload_n fx 0 dX12_stands_20 rfl ?_
  refine g_get (r := 0) fx lkX12_16 (by omega) h0 rfl dX12_stands_21 ?_
  refine g_iconst (v := nI 0) fx dX12_stands_24 (by decide +kernel) ?_
  refine g_iload fx 7 dX12_stands_25 rfl ?_
  refine g_callSv (As := [.ref (ad 3), .int (nI 0), .int (nI tm)]) (rest := []) fx slX12_204 (c_X12_multiply B ad ct2 n 3 0 40 g2 (by omega) (by omega) (by decide) ho tm htm hok2 (by rw [hv2]; exact hb2)) rfl rfl (Nat.le_of_ble_eq_true rfl) ⟨by decide, by decide⟩ ⟨by decide, by decide⟩ dX12_stands_27 (fun ct3 hz3 => ?_)
  obtain ⟨g3, e3, -, hok3, hv3⟩ := hz3
  rw [hv2] at hv3
  have hfr : ∀ r, r ≠ 3 → r ≠ 4 → ct3 r = ct r := fun r _ _ => (congrFun e3 r).trans ((va_up_ne _ _ (by assumption)).trans (hfr r (by assumption) (by assumption)))
  have h0 : ct3 0 = mObj ad f := (congrFun e3 _).trans ((va_up_ne _ _ (by omega)).trans h0)
  have ho : ct3 3 = .inl (B.2.1 0, 40, .inl (nF g3)) := by rw [e3, va_up_self]
  have ht : ct3 4 = .inl (B.2.1 0, 40, .inl (nF gt)) := (congrFun e3 _).trans ((va_up_ne _ _ (by omega)).trans ht)
  have hr : ct3 r = .inl (B.2.1 0, N, .inl (nF g)) := (congrFun e3 _).trans ((va_up_ne _ _ (by omega)).trans hr)
  have hs : ct3 s = .inl (B.2.1 0, P, .inl (nF gs)) := (congrFun e3 _).trans ((va_up_ne _ _ (by omega)).trans hs)
  refine g_aload_n fx 3 dX12_stands_30 rfl ?_
  refine g_iload fx 4 dX12_stands_31 rfl ?_
  refine g_aload_n fx 0 dX12_stands_33 rfl ?_
  refine g_get (r := 0) fx lkX12_19 (by omega) h0 rfl dX12_stands_34 ?_
  refine g_iconst (v := nI 0) fx dX12_stands_37 (by decide +kernel) ?_
  refine g_callSv (As := [.ref (ad s), .int (nI b), .ref (ad 4), .int (nI 0)]) (rest := []) fx slX12_151 (c_X12_copy B ad ct3 n 4 0 40 gt (by omega) (by omega) (by decide) ht s b P gs hns hbP hP hs (by omega)) rfl rfl (Nat.le_of_ble_eq_true rfl) ⟨by decide, by decide⟩ ⟨by decide, by decide⟩ dX12_stands_38 (fun ct4 hz4 => ?_)
  obtain ⟨g4, e4, -, hc4⟩ := hz4
  have hok4 : okN g4 0 := fun j hj => by rw [hc4 j hj]; exact hoks j hj
  have hv4 : nv g4 0 = nv gs b := bval_congr 40 (fun j hj => hc4 j hj)
  have hfr : ∀ r, r ≠ 3 → r ≠ 4 → ct4 r = ct r := fun r _ _ => (congrFun e4 r).trans ((va_up_ne _ _ (by assumption)).trans (hfr r (by assumption) (by assumption)))
  have h0 : ct4 0 = mObj ad f := (congrFun e4 _).trans ((va_up_ne _ _ (by omega)).trans h0)
  have ho : ct4 3 = .inl (B.2.1 0, 40, .inl (nF g3)) := (congrFun e4 _).trans ((va_up_ne _ _ (by omega)).trans ho)
  have ht : ct4 4 = .inl (B.2.1 0, 40, .inl (nF g4)) := by rw [e4, va_up_self]
  have hr : ct4 r = .inl (B.2.1 0, N, .inl (nF g)) := (congrFun e4 _).trans ((va_up_ne _ _ (by omega)).trans hr)
  have hs : ct4 s = .inl (B.2.1 0, P, .inl (nF gs)) := (congrFun e4 _).trans ((va_up_ne _ _ (by omega)).trans hs)
  refine g_aload_n fx 0 dX12_stands_41 rfl ?_
  refine g_get (r := 0) fx lkX12_19 (by omega) h0 rfl dX12_stands_42 ?_
  refine g_iconst (v := nI 0) fx dX12_stands_45 (by decide +kernel) ?_
  refine g_iload fx 5 dX12_stands_46 rfl ?_
  refine g_callSv (As := [.ref (ad 4), .int (nI 0), .int (nI u)]) (rest := []) fx slX12_204 (c_X12_multiply B ad ct4 n 4 0 40 g4 (by omega) (by omega) (by decide) ht u hu hok4 (by rw [hv4]; exact hb3)) rfl rfl (Nat.le_of_ble_eq_true rfl) ⟨by decide, by decide⟩ ⟨by decide, by decide⟩ dX12_stands_48 (fun ct5 hz5 => ?_)
  obtain ⟨g5, e5, -, hok5, hv5⟩ := hz5
  rw [hv4] at hv5
  have hfr : ∀ r, r ≠ 3 → r ≠ 4 → ct5 r = ct r := fun r _ _ => (congrFun e5 r).trans ((va_up_ne _ _ (by assumption)).trans (hfr r (by assumption) (by assumption)))
  have h0 : ct5 0 = mObj ad f := (congrFun e5 _).trans ((va_up_ne _ _ (by omega)).trans h0)
  have ho : ct5 3 = .inl (B.2.1 0, 40, .inl (nF g3)) := (congrFun e5 _).trans ((va_up_ne _ _ (by omega)).trans ho)
  have ht : ct5 4 = .inl (B.2.1 0, 40, .inl (nF g5)) := by rw [e5, va_up_self]
  have hr : ct5 r = .inl (B.2.1 0, N, .inl (nF g)) := (congrFun e5 _).trans ((va_up_ne _ _ (by omega)).trans hr)
  have hs : ct5 s = .inl (B.2.1 0, P, .inl (nF gs)) := (congrFun e5 _).trans ((va_up_ne _ _ (by omega)).trans hs)
  refine g_aload_n fx 0 dX12_stands_51 rfl ?_
  refine g_get (r := 0) fx lkX12_16 (by omega) h0 rfl dX12_stands_52 ?_
  refine g_iconst (v := nI 0) fx dX12_stands_55 (by decide +kernel) ?_
  refine g_aload_n fx 0 dX12_stands_56 rfl ?_
  refine g_get (r := 0) fx lkX12_19 (by omega) h0 rfl dX12_stands_57 ?_
  refine g_iconst (v := nI 0) fx dX12_stands_60 (by decide +kernel) ?_
  refine g_callSip (As := [.ref (ad 3), .int (nI 0), .ref (ad 4), .int (nI 0)]) (rest := []) fx slX12_143 (c_X12_compare B ad ct5 n 3 0 40 g3 (by omega) (by omega) (by decide) ho 4 0 40 g5 (by omega) (by omega) (by decide) ht hok3 hok5) rfl rfl (Nat.le_of_ble_eq_true rfl) ⟨by decide, by decide⟩ ⟨by decide, by decide⟩ dX12_stands_61 (fun q6 hq6 => ?_)
  rw [hv3, hv5] at hq6
  refine g_iret fx rt dX12_stands_64 ?_
  exact gPi.mk ⟨hq6, g3, g5, ho, ht, hfr⟩
set_option maxHeartbeats 4000000 in
set_option maxRecDepth 100000 in
theorem c_X12_wordOf (B : gB) (ad : Nat → Nat) (ct : Nat → va_E) (n : Nat) (r a N : Nat) (g : Nat → Nat) (hnr : r < n) (haN : a + 40 ≤ N) (hN : N < 2 ^ 30) (hr : ct r = .inl (B.2.1 0, N, .inl (nF g))) (hok : okN g a) (k : Nat) (hk : k < 2 ^ 31) : Ctr B yX12_wordOf cX12_wordOf 8 (some .int) 1 22 0 0 ad ct n [.ref (ad r), .int (nI a), .long (lN k)] (gPip ad ct n (fun q => q = nI (nv g a / 65536 ^ k % 65536))) := by
  have hVlt : nv g a < 2 ^ 960 := by rw [show (2 : Nat) ^ 960 = 16777216 ^ 40 by decide +kernel]; exact nv_lt hok
  refine Ctr.ofG (L := [(0, .ref (ad r)), (1, .int (nI a)), (2, .long (lN k))]) (by decide +kernel) rfl (Nat.le_of_ble_eq_true rfl) (fun E fx rt hnm => ?_)
  refine g_iconst (v := nI 0) fx dX12_wordOf_0 (by decide +kernel) ?_
  refine g_istore (L' := [(4, .int (nI 0)), (0, .ref (ad r)), (1, .int (nI a)), (2, .long (lN k))]) fx dX12_wordOf_1 (by decide) rfl ?_
  refine g_bipush (v := nI 15) fx dX12_wordOf_3 (by decide +kernel) ?_
  refine g_isi (y := nI 16 - nI 1) (by decide) ?_
  refine g_istore (L' := [(5, .int (nI 16 - nI 1)), (4, .int (nI 0)), (0, .ref (ad r)), (1, .int (nI a)), (2, .long (lN k))]) fx dX12_wordOf_5 (by decide) rfl ?_
  have LP7 : ∀ (M : Nat) (j acc : Nat), (j ≤ 16) → (acc = nv g a / 2 ^ (16 * k + j) % 2 ^ (16 - j)) →  j < M → G B 8 E ad ct n 0 0 [(0, .ref (ad r)), (1, .int (nI a)), (2, .long (lN k)), (4, .int (nI acc)), (5, .int (nI j - nI 1))] 7 [] := by
    intro M
    induction M with
    | zero => intro j acc _ _ hM; exact absurd hM (Nat.not_lt_zero _)
    | succ M ih =>
      intro j acc hj ha hM
      have ih7 := ih
      refine g_iload fx 4 dX12_wordOf_7 rfl ?_
      refine g_if_lt fx 57 dX12_wordOf_9 (by decide) (fun c9 => ?_) (fun c9 => ?_)
      · skip
        have hj0 := (m1_neg (by omega)).mp c9
        refine g_iload fx 3 dX12_wordOf_57 rfl ?_
        refine g_iret fx rt dX12_wordOf_59 ?_
        refine gPip.mk ?_
        rw [ha, hj0, Nat.add_zero, show (65536 : Nat) ^ k = 2 ^ (16 * k) by rw [Nat.pow_mul]]
      · skip
        have hj0 : 0 < j := Nat.pos_of_ne_zero (fun q => c9 ((m1_neg (by omega)).mpr q))
        have hacc : acc * 2 + nv g a / 2 ^ (16 * k + (j - 1)) % 2 = nv g a / 2 ^ (16 * k + (j - 1)) % 2 ^ (16 - (j - 1)) := by
          have hh := half (V := nv g a) (k := 16 * k + j) (by omega)
          rw [show 16 * k + j - 1 = 16 * k + (j - 1) by omega] at hh
          rw [ha]
          have e := mod_two (Y := nv g a / 2 ^ (16 * k + j)) (e := nv g a / 2 ^ (16 * k + (j - 1)) % 2) (m := 16 - j) (Nat.mod_lt _ (by decide))
          rw [← hh] at e
          rw [show 16 - (j - 1) = 16 - j + 1 by omega, e]
        have hab : acc < 65536 := by rw [ha]; exact Nat.lt_of_lt_of_le (Nat.mod_lt _ (Nat.pow_pos (by decide))) (Nat.pow_le_pow_right (n := 2) (j := 16) (by decide) (by omega))
        refine g_ldc2 fx kcX12_289 dX12_wordOf_12 ?_
        refine g_lload_n fx 2 dX12_wordOf_15 rfl ?_
        refine g_lmul fx dX12_wordOf_16 ?_
        refine g_isl (y := lN (16 * k)) (lN_mul 16 k) ?_
        refine g_iload fx 4 dX12_wordOf_17 rfl ?_
        refine g_i2l fx dX12_wordOf_19 ?_
        refine g_isl (y := lN (j - 1)) (by rw [m1_eq hj0]; exact nI_l (by omega)) ?_
        refine g_ladd fx dX12_wordOf_20 ?_
        refine g_isl (y := lN (16 * k + (j - 1))) (lN_add _ _) ?_
        refine g_lstore (L' := [(6, .long (lN (16 * k + (j - 1)))), (0, .ref (ad r)), (1, .int (nI a)), (2, .long (lN k)), (4, .int (nI acc)), (5, .int (nI j - nI 1))]) fx dX12_wordOf_21 (by decide) rfl ?_
        refine g_iload fx 4 dX12_wordOf_23 rfl ?_
        refine g_iconst (v := nI 2) fx dX12_wordOf_25 (by decide +kernel) ?_
        refine g_imulN fx dX12_wordOf_26 ?_
        refine g_lload fx 0 dX12_wordOf_27 rfl ?_
        refine g_ldc2 fx kcX12_291 dX12_wordOf_29 ?_
        refine g_lcmp fx dX12_wordOf_32 ?_
        refine g_if_ge fx 47 dX12_wordOf_33 (by decide) (fun c33 => ?_) (fun c33 => ?_)
        · skip
          have hge : 960 ≤ 16 * k + (j - 1) := (l_ge (a := 16 * k + (j - 1)) (b := 960) (by omega) (by decide)).mp c33
          have hb0 : nv g a / 2 ^ (16 * k + (j - 1)) % 2 = 0 := by rw [Nat.div_eq_of_lt (Nat.lt_of_lt_of_le hVlt (Nat.pow_le_pow_right (by decide) hge))]
          refine g_iconst (v := nI 0) fx dX12_wordOf_47 (by decide +kernel) ?_
          refine g_iaddN fx dX12_wordOf_48 ?_
          refine g_isi (y := nI (acc * 2 + nv g a / 2 ^ (16 * k + (j - 1)) % 2)) (by first | rfl | rw [hb0]) ?_
          refine g_istore (L' := [(4, .int (nI (acc * 2 + nv g a / 2 ^ (16 * k + (j - 1)) % 2))), (6, .long (lN (16 * k + (j - 1)))), (0, .ref (ad r)), (1, .int (nI a)), (2, .long (lN k)), (5, .int (nI j - nI 1))]) fx dX12_wordOf_49 (by decide) rfl ?_
          refine g_iinc (L' := [(5, .int (nI (j - 1) - nI 1)), (4, .int (nI (acc * 2 + nv g a / 2 ^ (16 * k + (j - 1)) % 2))), (6, .long (lN (16 * k + (j - 1)))), (0, .ref (ad r)), (1, .int (nI a)), (2, .long (lN k))]) fx (nI (j - 1) - nI 1) 5 dX12_wordOf_51 rfl (m1_dec hj0) (by decide) rfl ?_
          refine g_goto fx 7 dX12_wordOf_54 (by decide) ?_
          refine g_locals (L' := [(0, .ref (ad r)), (1, .int (nI a)), (2, .long (lN k)), (4, .int (nI (acc * 2 + nv g a / 2 ^ (16 * k + (j - 1)) % 2))), (5, .int (nI (j - 1) - nI 1))]) [3, 4, 5, 1, 0] rfl ?_
          exact ih (j - 1) (acc * 2 + nv g a / 2 ^ (16 * k + (j - 1)) % 2) (by omega) hacc (by omega)
        · skip
          have hlt3 : 16 * k + (j - 1) < 960 := Nat.lt_of_not_le (fun q => c33 ((l_ge (a := 16 * k + (j - 1)) (b := 960) (by omega) (by decide)).mpr q))
          refine g_aload_n fx 1 dX12_wordOf_36 rfl ?_
          refine g_iload_n fx 2 dX12_wordOf_37 rfl ?_
          refine g_lload fx 0 dX12_wordOf_38 rfl ?_
          refine g_l2i fx dX12_wordOf_40 ?_
          refine g_isi (y := nI (16 * k + (j - 1))) (lN_i _) ?_
          refine g_callSip (As := [.ref (ad r), .int (nI a), .int (nI (16 * k + (j - 1)))]) (rest := [.int (nI (acc * 2))]) fx slX12_135 (c_X12_bitAt B ad ct n r a N g hnr haN hN hr hok (16 * k + (j - 1)) hlt3) rfl rfl (Nat.le_of_ble_eq_true rfl) ⟨by decide, by decide⟩ ⟨by decide, by decide⟩ dX12_wordOf_41 (fun q1 hq1 => ?_)
          obtain rfl := hq1
          refine g_goto fx 48 dX12_wordOf_44 (by decide) ?_
          refine g_iaddN fx dX12_wordOf_48 ?_
          refine g_isi (y := nI (acc * 2 + nv g a / 2 ^ (16 * k + (j - 1)) % 2)) (by first | rfl | rw [hb0]) ?_
          refine g_istore (L' := [(4, .int (nI (acc * 2 + nv g a / 2 ^ (16 * k + (j - 1)) % 2))), (6, .long (lN (16 * k + (j - 1)))), (0, .ref (ad r)), (1, .int (nI a)), (2, .long (lN k)), (5, .int (nI j - nI 1))]) fx dX12_wordOf_49 (by decide) rfl ?_
          refine g_iinc (L' := [(5, .int (nI (j - 1) - nI 1)), (4, .int (nI (acc * 2 + nv g a / 2 ^ (16 * k + (j - 1)) % 2))), (6, .long (lN (16 * k + (j - 1)))), (0, .ref (ad r)), (1, .int (nI a)), (2, .long (lN k))]) fx (nI (j - 1) - nI 1) 5 dX12_wordOf_51 rfl (m1_dec hj0) (by decide) rfl ?_
          refine g_goto fx 7 dX12_wordOf_54 (by decide) ?_
          refine g_locals (L' := [(0, .ref (ad r)), (1, .int (nI a)), (2, .long (lN k)), (4, .int (nI (acc * 2 + nv g a / 2 ^ (16 * k + (j - 1)) % 2))), (5, .int (nI (j - 1) - nI 1))]) [3, 4, 5, 1, 0] rfl ?_
          exact ih (j - 1) (acc * 2 + nv g a / 2 ^ (16 * k + (j - 1)) % 2) (by omega) hacc (by omega)
  refine g_locals (L' := [(0, .ref (ad r)), (1, .int (nI a)), (2, .long (lN k)), (4, .int (nI 0)), (5, .int (nI 16 - nI 1))]) [2, 3, 4, 1, 0] rfl ?_
  exact LP7 17 16 0 (by omega) (by simp [Nat.mod_one]) (by omega)
set_option maxHeartbeats 4000000 in
set_option maxRecDepth 100000 in
theorem c_X12_product (B : gB) (ad : Nat → Nat) (ct : Nat → va_E) (n : Nat) (r a N : Nat) (g : Nat → Nat) (hnr : r < n) (haN : a + 40 ≤ N) (hN : N < 2 ^ 30) (hr : ct r = .inl (B.2.1 0, N, .inl (nF g))) (s b P : Nat) (gs : Nat → Nat) (hns : s < n) (hbP : b + 40 ≤ P) (hP : P < 2 ^ 30) (hs : ct s = .inl (B.2.1 0, P, .inl (nF gs))) (t : Nat) (gt : Nat → Nat) (hnt : t < n) (ht : ct t = .inl (B.2.1 0, 80, .inl (nF gt))) (htr : t ≠ r) (hts : t ≠ s) (hok : okN g a) (hoks : okN gs b) : Ctr B yX12_product cX12_product 9 none 0 0 0 0 ad ct n [.ref (ad r), .int (nI a), .ref (ad s), .int (nI b), .ref (ad t)] (gPv ad n (fun ct' => ∃ g', ct' = va_up ct t (.inl (B.2.1 0, 80, .inl (nF g'))) ∧ (∀ j, j < 80 → g' j < 16777216) ∧ bval 16777216 g' 80 = nv g a * nv gs b)) := by
  have hct := va_same ht
  refine Ctr.ofG (L := [(0, .ref (ad r)), (1, .int (nI a)), (2, .ref (ad s)), (3, .int (nI b)), (4, .ref (ad t))]) (by decide +kernel) rfl (Nat.le_of_ble_eq_true rfl) (fun E fx rt hnm => ?_)
  refine g_iconst (v := nI 0) fx dX12_product_0 (by decide +kernel) ?_
  refine g_istore (L' := [(5, .int (nI 0)), (0, .ref (ad r)), (1, .int (nI a)), (2, .ref (ad s)), (3, .int (nI b)), (4, .ref (ad t))]) fx dX12_product_1 (by decide) rfl ?_
  have LP3 : ∀ (M : Nat) (k : Nat) (ct1 : Nat → va_E) (g1 : Nat → Nat), (k ≤ 80) → (∀ j, j < k → g1 j = 0) → (ct1 r = .inl (B.2.1 0, N, .inl (nF g))) → (ct1 s = .inl (B.2.1 0, P, .inl (nF gs))) → (ct1 t = .inl (B.2.1 0, 80, .inl (nF g1))) → (ct1 = va_up ct t (.inl (B.2.1 0, 80, .inl (nF g1)))) →  (80 - k) < M → G B 9 E ad ct1 n 0 0 [(0, .ref (ad r)), (1, .int (nI a)), (2, .ref (ad s)), (3, .int (nI b)), (4, .ref (ad t)), (5, .int (nI k))] 3 [] := by
    intro M
    induction M with
    | zero => intro k ct1 g1 _ _ _ _ _ _ hM; exact absurd hM (Nat.not_lt_zero _)
    | succ M ih =>
      intro k ct1 g1 hk hz hr hs ht hct hM
      have ih3 := ih
      refine g_iload fx 5 dX12_product_3 rfl ?_
      refine g_bipush (v := nI 80) fx dX12_product_5 (by decide +kernel) ?_
      refine g_icmp_ge fx 22 dX12_product_7 (by decide) (fun c7 => ?_) (fun c7 => ?_)
      · skip
        have hk80 : k = 80 := by have := (nI_leI (by omega) (by omega)).mp c7; omega
        rw [hk80] at hz
        refine g_iconst (v := nI 0) fx dX12_product_22 (by decide +kernel) ?_
        refine g_istore (L' := [(5, .int (nI 0)), (0, .ref (ad r)), (1, .int (nI a)), (2, .ref (ad s)), (3, .int (nI b)), (4, .ref (ad t))]) fx dX12_product_23 (by decide) rfl ?_
        have LP25 : ∀ (M : Nat) (i : Nat) (ct2 : Nat → va_E) (g1 : Nat → Nat), (i ≤ 40) → (∀ j, i + 40 ≤ j → j < 80 → g1 j = 0) → (∀ j, j < 80 → g1 j < 16777216) → (bval 16777216 g1 (i + 40) = bval 16777216 (sh g a) i * nv gs b) → (ct2 r = .inl (B.2.1 0, N, .inl (nF g))) → (ct2 s = .inl (B.2.1 0, P, .inl (nF gs))) → (ct2 t = .inl (B.2.1 0, 80, .inl (nF g1))) → (ct2 = va_up ct t (.inl (B.2.1 0, 80, .inl (nF g1)))) →  (40 - i) < M → G B 9 E ad ct2 n 0 0 [(0, .ref (ad r)), (1, .int (nI a)), (2, .ref (ad s)), (3, .int (nI b)), (4, .ref (ad t)), (5, .int (nI i))] 25 [] := by
          intro M
          induction M with
          | zero => intro i ct2 g1 _ _ _ _ _ _ _ _ hM; exact absurd hM (Nat.not_lt_zero _)
          | succ M ih =>
            intro i ct2 g1 hi hz hb hv hr hs ht hct hM
            have ih25 := ih
            refine g_iload fx 5 dX12_product_25 rfl ?_
            refine g_bipush (v := nI 40) fx dX12_product_27 (by decide +kernel) ?_
            refine g_icmp_ge fx 120 dX12_product_29 (by decide) (fun c29 => ?_) (fun c29 => ?_)
            · skip
              have hi40 : i = 40 := by have := (nI_leI (by omega) (by omega)).mp c29; omega
              rw [hi40] at hv
              refine g_vret fx rt dX12_product_120 ?_
              exact gPv.mk ⟨g1, hct, hb, hv⟩
            · skip
              have hlt3 : i < 40 := by have := (nI_ltI (by omega) (by omega)).mp (Int32.not_le.mp c29); omega
              have hga := hok i hlt3
              refine g_lconst (v := lN 0) fx dX12_product_32 (by decide +kernel) ?_
              refine g_lstore (L' := [(6, .long (lN 0)), (0, .ref (ad r)), (1, .int (nI a)), (2, .ref (ad s)), (3, .int (nI b)), (4, .ref (ad t)), (5, .int (nI i))]) fx dX12_product_33 (by decide) rfl ?_
              refine g_iconst (v := nI 0) fx dX12_product_35 (by decide +kernel) ?_
              refine g_istore (L' := [(8, .int (nI 0)), (6, .long (lN 0)), (0, .ref (ad r)), (1, .int (nI a)), (2, .ref (ad s)), (3, .int (nI b)), (4, .ref (ad t)), (5, .int (nI i))]) fx dX12_product_36 (by decide) rfl ?_
              have LP38 : ∀ (M : Nat) (j c : Nat) (ct3 : Nat → va_E) (g2 : Nat → Nat), (j ≤ 40) → (c < 16777216) → (∀ z, i + j ≤ z → g2 z = g1 z) → (∀ z, z < 80 → g2 z < 16777216) → (bval 16777216 g2 (j + i) + c * 16777216 ^ (j + i) = bval 16777216 g1 (j + i) + bval 16777216 (sh gs b) j * g (a + i) * 16777216 ^ i) → (ct3 r = .inl (B.2.1 0, N, .inl (nF g))) → (ct3 s = .inl (B.2.1 0, P, .inl (nF gs))) → (ct3 t = .inl (B.2.1 0, 80, .inl (nF g2))) → (ct3 = va_up ct t (.inl (B.2.1 0, 80, .inl (nF g2)))) →  (40 - j) < M → G B 9 E ad ct3 n 0 0 [(0, .ref (ad r)), (1, .int (nI a)), (2, .ref (ad s)), (3, .int (nI b)), (4, .ref (ad t)), (5, .int (nI i)), (6, .long (lN c)), (8, .int (nI j))] 38 [] := by
                intro M
                induction M with
                | zero => intro j c ct3 g2 _ _ _ _ _ _ _ _ _ hM; exact absurd hM (Nat.not_lt_zero _)
                | succ M ih =>
                  intro j c ct3 g2 hj hc hk2 hb2 he hr hs ht hct hM
                  have ih38 := ih
                  refine g_iload fx 7 dX12_product_38 rfl ?_
                  refine g_bipush (v := nI 40) fx dX12_product_40 (by decide +kernel) ?_
                  refine g_icmp_ge fx 103 dX12_product_42 (by decide) (fun c42 => ?_) (fun c42 => ?_)
                  · skip
                    have hj40 : j = 40 := by have := (nI_leI (by omega) (by omega)).mp c42; omega
                    rw [hj40] at he hk2
                    rw [Nat.add_comm 40 i] at he
                    have hfin : bval 16777216 (va_up g2 (i + 40) c) (i + 1 + 40) = bval 16777216 (sh g a) (i + 1) * nv gs b := by
                      rw [show i + 1 + 40 = i + 40 + 1 by omega]
                      show bval 16777216 (va_up g2 (i + 40) c) (i + 40) + va_up g2 (i + 40) c (i + 40) * 16777216 ^ (i + 40) = (bval 16777216 (sh g a) i + g (a + i) * 16777216 ^ i) * nv gs b
                      rw [bval_up_ge (Nat.le_refl _), va_up_self, he, hv]
                      show _ + nv gs b * g (a + i) * 16777216 ^ i = _
                      generalize nv gs b = W
                      generalize 16777216 ^ i = p
                      grind
                    refine g_aload fx 4 dX12_product_103 rfl ?_
                    refine g_iload fx 5 dX12_product_105 rfl ?_
                    refine g_bipush (v := nI 40) fx dX12_product_107 (by decide +kernel) ?_
                    refine g_iaddN fx dX12_product_109 ?_
                    refine g_lload fx 6 dX12_product_110 rfl ?_
                    refine g_l2i fx dX12_product_112 ?_
                    refine g_isi (y := nI c) (lN_i _) ?_
                    refine g_iast (r := t) (j := (i + 40)) fx (by omega) ht (nI_toInt (by omega)) (by omega) dX12_product_113 (fun cu1 ecu1 => ?_)
                    have hct : cu1 = va_up ct t (.inl (B.2.1 0, 80, .inl (nF (va_up g2 (i + 40) c)))) := up2n hct ecu1
                    have hr : cu1 r = .inl (B.2.1 0, N, .inl (nF g)) := (congrFun ecu1 _).trans ((va_up_ne _ _ (by omega)).trans hr)
                    have hs : cu1 s = .inl (B.2.1 0, P, .inl (nF gs)) := (congrFun ecu1 _).trans ((va_up_ne _ _ (by omega)).trans hs)
                    have ht : cu1 t = .inl (B.2.1 0, 80, .inl (nF (va_up g2 (i + 40) c))) := by rw [ecu1, va_up_self, nF_up]
                    refine g_iinc (L' := [(5, .int (nI (i + 1))), (0, .ref (ad r)), (1, .int (nI a)), (2, .ref (ad s)), (3, .int (nI b)), (4, .ref (ad t)), (6, .long (lN c)), (8, .int (nI j))]) fx (nI (i + 1)) 5 dX12_product_114 rfl (gInc _) (by decide) rfl ?_
                    refine g_goto fx 25 dX12_product_117 (by decide) ?_
                    refine g_locals (L' := [(0, .ref (ad r)), (1, .int (nI a)), (2, .ref (ad s)), (3, .int (nI b)), (4, .ref (ad t)), (5, .int (nI (i + 1)))]) [1, 2, 3, 4, 5, 0] rfl ?_
                    exact ih25 (i + 1) _ _ hlt3 (fun j h1 h2 => by rw [va_up_ne _ _ (by omega), hk2 j (by omega)]; exact hz j (by omega) h2) (fun j hj => by unfold va_up; split; omega; exact hb2 j hj) hfin hr hs ht hct (by omega)
                  · skip
                    have hlt4 : j < 40 := by have := (nI_ltI (by omega) (by omega)).mp (Int32.not_le.mp c42); omega
                    have hgb := hoks j hlt4
                    have hgt := hb2 (i + j) (by omega)
                    have hq3 : g (a + i) * gs (b + j) ≤ 16777215 * 16777215 := Nat.mul_le_mul (by omega) (by omega)
                    have hst : bval 16777216 (va_up g2 (i + j) ((c + (g (a + i) * gs (b + j) + g2 (i + j))) % 16777216)) (j + 1 + i) + (c + (g (a + i) * gs (b + j) + g2 (i + j))) / 16777216 * 16777216 ^ (j + 1 + i) = bval 16777216 g1 (j + 1 + i) + bval 16777216 (sh gs b) (j + 1) * g (a + i) * 16777216 ^ i := by
                      have e := bmul_step (b := 16777216) (g := g1) (g1 := g2) (gu := sh gs b) (i := j) (a := i) (l := g (a + i)) (c := c) (hk2 (j + i) (by omega)) he
                      rw [show sh gs b j * g (a + i) + g2 (j + i) + c = c + (g (a + i) * gs (b + j) + g2 (i + j)) by show gs (b + j) * g (a + i) + g2 (j + i) + c = _; rw [Nat.mul_comm, Nat.add_comm j i]; omega] at e
                      rw [Nat.add_comm j i] at e
                      exact e
                    refine g_lload fx 6 dX12_product_45 rfl ?_
                    refine g_aload_n fx 0 dX12_product_47 rfl ?_
                    refine g_iload_n fx 1 dX12_product_48 rfl ?_
                    refine g_iload fx 5 dX12_product_49 rfl ?_
                    refine g_iaddN fx dX12_product_51 ?_
                    refine g_iald (r := r) (j := (a + i)) fx (by omega) hr (nI_toInt (by omega)) (by omega) dX12_product_52 ?_
                    refine g_isi (y := nI (g (a + i))) rfl ?_
                    refine g_i2l fx dX12_product_53 ?_
                    refine g_isl (y := lN (g (a + i))) (nI_l (by omega)) ?_
                    refine g_aload_n fx 2 dX12_product_54 rfl ?_
                    refine g_iload_n fx 3 dX12_product_55 rfl ?_
                    refine g_iload fx 7 dX12_product_56 rfl ?_
                    refine g_iaddN fx dX12_product_58 ?_
                    refine g_iald (r := s) (j := (b + j)) fx (by omega) hs (nI_toInt (by omega)) (by omega) dX12_product_59 ?_
                    refine g_isi (y := nI (gs (b + j))) rfl ?_
                    refine g_i2l fx dX12_product_60 ?_
                    refine g_isl (y := lN (gs (b + j))) (nI_l (by omega)) ?_
                    refine g_lmul fx dX12_product_61 ?_
                    refine g_isl (y := lN (g (a + i) * gs (b + j))) (lN_mul _ _) ?_
                    refine g_aload fx 4 dX12_product_62 rfl ?_
                    refine g_iload fx 5 dX12_product_64 rfl ?_
                    refine g_iload fx 7 dX12_product_66 rfl ?_
                    refine g_iaddN fx dX12_product_68 ?_
                    refine g_iald (r := t) (j := (i + j)) fx (by omega) ht (nI_toInt (by omega)) (by omega) dX12_product_69 ?_
                    refine g_isi (y := nI (g2 (i + j))) rfl ?_
                    refine g_i2l fx dX12_product_70 ?_
                    refine g_isl (y := lN (g2 (i + j))) (nI_l (by omega)) ?_
                    refine g_ladd fx dX12_product_71 ?_
                    refine g_isl (y := lN (g (a + i) * gs (b + j) + g2 (i + j))) (lN_add _ _) ?_
                    refine g_ladd fx dX12_product_72 ?_
                    refine g_isl (y := lN (c + (g (a + i) * gs (b + j) + g2 (i + j)))) (lN_add _ _) ?_
                    refine g_lstore (L' := [(6, .long (lN (c + (g (a + i) * gs (b + j) + g2 (i + j))))), (0, .ref (ad r)), (1, .int (nI a)), (2, .ref (ad s)), (3, .int (nI b)), (4, .ref (ad t)), (5, .int (nI i)), (8, .int (nI j))]) fx dX12_product_73 (by decide) rfl ?_
                    refine g_aload fx 5 dX12_product_75 rfl ?_
                    refine g_iload fx 6 dX12_product_77 rfl ?_
                    refine g_iload fx 7 dX12_product_79 rfl ?_
                    refine g_iaddN fx dX12_product_81 ?_
                    refine g_lload fx 0 dX12_product_82 rfl ?_
                    refine g_ldc2 fx kcX12_121 dX12_product_84 ?_
                    refine g_land fx dX12_product_87 ?_
                    refine g_isl (y := lN ((c + (g (a + i) * gs (b + j) + g2 (i + j))) % 16777216)) (l_mask24 (by omega)) ?_
                    refine g_l2i fx dX12_product_88 ?_
                    refine g_isi (y := nI ((c + (g (a + i) * gs (b + j) + g2 (i + j))) % 16777216)) (lN_i _) ?_
                    refine g_iast (r := t) (j := (i + j)) fx (by omega) ht (nI_toInt (by omega)) (by omega) dX12_product_89 (fun cu2 ecu2 => ?_)
                    have hct : cu2 = va_up ct t (.inl (B.2.1 0, 80, .inl (nF (va_up g2 (i + j) ((c + (g (a + i) * gs (b + j) + g2 (i + j))) % 16777216))))) := up2n hct ecu2
                    have hr : cu2 r = .inl (B.2.1 0, N, .inl (nF g)) := (congrFun ecu2 _).trans ((va_up_ne _ _ (by omega)).trans hr)
                    have hs : cu2 s = .inl (B.2.1 0, P, .inl (nF gs)) := (congrFun ecu2 _).trans ((va_up_ne _ _ (by omega)).trans hs)
                    have ht : cu2 t = .inl (B.2.1 0, 80, .inl (nF (va_up g2 (i + j) ((c + (g (a + i) * gs (b + j) + g2 (i + j))) % 16777216)))) := by rw [ecu2, va_up_self, nF_up]
                    refine g_lload fx 0 dX12_product_90 rfl ?_
                    refine g_bipush (v := nI 24) fx dX12_product_92 (by decide +kernel) ?_
                    refine g_lshr fx dX12_product_94 ?_
                    refine g_isl (y := lN ((c + (g (a + i) * gs (b + j) + g2 (i + j))) / 16777216)) (l_sshr (by omega)) ?_
                    refine g_lstore (L' := [(6, .long (lN ((c + (g (a + i) * gs (b + j) + g2 (i + j))) / 16777216))), (0, .ref (ad r)), (1, .int (nI a)), (2, .ref (ad s)), (3, .int (nI b)), (4, .ref (ad t)), (5, .int (nI i)), (8, .int (nI j))]) fx dX12_product_95 (by decide) rfl ?_
                    refine g_iinc (L' := [(8, .int (nI (j + 1))), (6, .long (lN ((c + (g (a + i) * gs (b + j) + g2 (i + j))) / 16777216))), (0, .ref (ad r)), (1, .int (nI a)), (2, .ref (ad s)), (3, .int (nI b)), (4, .ref (ad t)), (5, .int (nI i))]) fx (nI (j + 1)) 7 dX12_product_97 rfl (gInc _) (by decide) rfl ?_
                    refine g_goto fx 38 dX12_product_100 (by decide) ?_
                    refine g_locals (L' := [(0, .ref (ad r)), (1, .int (nI a)), (2, .ref (ad s)), (3, .int (nI b)), (4, .ref (ad t)), (5, .int (nI i)), (6, .long (lN ((c + (g (a + i) * gs (b + j) + g2 (i + j))) / 16777216))), (8, .int (nI (j + 1)))]) [2, 3, 4, 5, 6, 7, 1, 0] rfl ?_
                    exact ih (j + 1) ((c + (g (a + i) * gs (b + j) + g2 (i + j))) / 16777216) _ (va_up g2 (i + j) ((c + (g (a + i) * gs (b + j) + g2 (i + j))) % 16777216)) hlt4 (by omega) (fun z hz2 => by rw [va_up_ne _ _ (by omega)]; exact hk2 z (by omega)) (fun z hz2 => by unfold va_up; split; omega; exact hb2 z hz2) hst hr hs ht hct (by omega)
              refine g_locals (L' := [(0, .ref (ad r)), (1, .int (nI a)), (2, .ref (ad s)), (3, .int (nI b)), (4, .ref (ad t)), (5, .int (nI i)), (6, .long (lN 0)), (8, .int (nI 0))]) [2, 3, 4, 5, 6, 7, 1, 0] rfl ?_
              exact LP38 41 0 0 ct2 g1 (by omega) (by decide) (fun _ _ => rfl) hb (by simp [bval]) hr hs ht hct (by omega)
        refine g_locals (L' := [(0, .ref (ad r)), (1, .int (nI a)), (2, .ref (ad s)), (3, .int (nI b)), (4, .ref (ad t)), (5, .int (nI 0))]) [1, 2, 3, 4, 5, 0] rfl ?_
        exact LP25 41 0 ct1 g1 (by omega) (fun j _ hj => hz j hj) (fun j hj => by rw [hz j hj]; decide) (by rw [bval_zero _ (fun j hj => hz j (by omega))]; simp [bval]) hr hs ht hct (by omega)
      · skip
        have hlt2 : k < 80 := by have := (nI_ltI (by omega) (by omega)).mp (Int32.not_le.mp c7); omega
        refine g_aload fx 4 dX12_product_10 rfl ?_
        refine g_iload fx 5 dX12_product_12 rfl ?_
        refine g_iconst (v := nI 0) fx dX12_product_14 (by decide +kernel) ?_
        refine g_iast (r := t) (j := k) fx (by omega) ht (nI_toInt (by omega)) (by omega) dX12_product_15 (fun cu3 ecu3 => ?_)
        have hct : cu3 = va_up ct t (.inl (B.2.1 0, 80, .inl (nF (va_up g1 k 0)))) := up2n hct ecu3
        have hr : cu3 r = .inl (B.2.1 0, N, .inl (nF g)) := (congrFun ecu3 _).trans ((va_up_ne _ _ (by omega)).trans hr)
        have hs : cu3 s = .inl (B.2.1 0, P, .inl (nF gs)) := (congrFun ecu3 _).trans ((va_up_ne _ _ (by omega)).trans hs)
        have ht : cu3 t = .inl (B.2.1 0, 80, .inl (nF (va_up g1 k 0))) := by rw [ecu3, va_up_self, nF_up]
        refine g_iinc (L' := [(5, .int (nI (k + 1))), (0, .ref (ad r)), (1, .int (nI a)), (2, .ref (ad s)), (3, .int (nI b)), (4, .ref (ad t))]) fx (nI (k + 1)) 5 dX12_product_16 rfl (gInc _) (by decide) rfl ?_
        refine g_goto fx 3 dX12_product_19 (by decide) ?_
        refine g_locals (L' := [(0, .ref (ad r)), (1, .int (nI a)), (2, .ref (ad s)), (3, .int (nI b)), (4, .ref (ad t)), (5, .int (nI (k + 1)))]) [1, 2, 3, 4, 5, 0] rfl ?_
        exact ih (k + 1) _ _ hlt2 (fun j hj => by unfold va_up; split; rfl; exact hz j (by omega)) hr hs ht hct (by omega)
  refine g_locals (L' := [(0, .ref (ad r)), (1, .int (nI a)), (2, .ref (ad s)), (3, .int (nI b)), (4, .ref (ad t)), (5, .int (nI 0))]) [1, 2, 3, 4, 5, 0] rfl ?_
  exact LP3 81 0 ct gt (by omega) (fun j hj => absurd hj (by omega)) hr hs ht hct (by omega)
