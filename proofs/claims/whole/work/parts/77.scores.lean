def tkN1 (a : Nat → Nat) (m0 N : Nat) : Nat → Nat
  | 0 => N
  | i + 1 => tk1 a (m0 + i) (tkN1 a m0 N i)
def tkN2 (a : Nat → Nat) (m0 N : Nat) : Nat → Nat
  | 0 => N
  | i + 1 => tk2 a (m0 + i) (tkN2 a m0 N i)
theorem tkN1_le {a : Nat → Nat} {m0 N : Nat} : ∀ i, N ≤ tkN1 a m0 N i
  | 0 => Nat.le_refl _
  | i + 1 => Nat.le_trans (tkN1_le i) tk1_le
theorem tkN2_le {a : Nat → Nat} {m0 N : Nat} : ∀ i, N ≤ tkN2 a m0 N i
  | 0 => Nat.le_refl _
  | i + 1 => Nat.le_trans (tkN2_le i) tk2_le
def lbc (w : Nat) : Nat := if w = 0 then 130072 else 131072
def lbA (w : Nat) (fs : Nat → Int32) (kA kB j : Nat) : Nat := lbc w + lbN w fs kA kB j
theorem lbA_is {w : Nat} {fs : Nat → Int32} {kA kB j : Nat} (h : lbL w ≤ lbV w fs kA kB j) : (lbA w fs kA kB j : Int) = lbV w fs kA kB j + 131072 := by
  unfold lbA lbN
  unfold lbL lbc at *
  by_cases q : w = 0
  · rw [if_pos q] at *; omega
  · rw [if_neg q] at *; omega
theorem gCnt_cg {p : Int32 → Bool} {f g : Nat → Int32} : ∀ k, (∀ i, i < k → f i = g i) → gCnt p f k = gCnt p g k := fun k => by
  induction k with
  | zero => intro _; rfl
  | succ k ih =>
    intro h
    by_cases q : p (f k) = true
    · rw [gCnt_t _ q, gCnt_t _ (by rw [← h k (by omega)]; exact q), ih (fun i hi => h i (by omega))]
    · have q1 : p (f k) = false := by simpa using q
      rw [gCnt_f _ q1, gCnt_f _ (by rw [← h k (by omega)]; exact q1), ih (fun i hi => h i (by omega))]
theorem rkN_cg {fA fB gA gB : Nat → Int32} {a b : Nat} {v : Int32} (h1 : ∀ i, i < a → fA i = gA i) (h2 : ∀ i, i < b → fB i = gB i) : rkN fA a fB b v = rkN gA a gB b v := by
  unfold rkN
  rw [gCnt_cg a h1, gCnt_cg b h2, gCnt_cg a h1, gCnt_cg b h2]
theorem tkN1_up {a : Nat → Nat} {m0 N i : Nat} : ∀ {k : Nat}, i ≤ k → tkN1 a m0 N i ≤ tkN1 a m0 N k
  | 0, h => by rw [show i = 0 by omega]; exact Nat.le_refl _
  | k + 1, h => by
    by_cases q : i = k + 1
    · rw [q]; exact Nat.le_refl _
    · exact Nat.le_trans (tkN1_up (show i ≤ k by omega)) tk1_le
theorem tkN2_up {a : Nat → Nat} {m0 N i : Nat} : ∀ {k : Nat}, i ≤ k → tkN2 a m0 N i ≤ tkN2 a m0 N k
  | 0, h => by rw [show i = 0 by omega]; exact Nat.le_refl _
  | k + 1, h => by
    by_cases q : i = k + 1
    · rw [q]; exact Nat.le_refl _
    · exact Nat.le_trans (tkN2_up (show i ≤ k by omega)) tk2_le
set_option maxHeartbeats 4000000 in
set_option maxRecDepth 100000 in
theorem c_X11_takeScores_A (B : gB) (ad : Nat → Nat) (ct : Nat → va_E) (n : Nat) (kA kB w m0 N1 N2 : Nat) (fA fB fs : Nat → Int32) (off : Int32) (ah al : Int64) (hx : ct 0 = .inr (11, [.ref (ad 1), .ref (ad 3), .ref (ad 5), .ref (ad 7), .ref (ad 9), .ref (ad 11), .ref (ad 79), .ref (ad 81), .ref (ad 88), .ref (ad 110), .ref (ad 115)])) (hA : ct 3 = .inr (5, [.ref (ad 4), .int (nI kA)])) (hAr : ct 4 = .inl (B.2.1 0, 15, .inl fA)) (hB : ct 5 = .inr (5, [.ref (ad 6), .int (nI kB)])) (hBr : ct 6 = .inl (B.2.1 0, 15, .inl fB)) (hn : 178 ≤ n) (hAk : kA ≤ 15) (hBk : kB ≤ 15) (hw : w < 2) (hfA : ∀ i, i < kA → fA i = fs i) (hfB : ∀ i, i < kB → fB i = fs (15 + i)) (hsb : ∀ j, j < 30 → (fs j).toInt.natAbs ≤ 1000) (hso : ct 81 = .inr (8, [.ref (ad 82), .ref (ad 85), .int (nI (1 - m0 % 2)), .int (nI 131072), .int off, .long ah, .long al])) (hSS : SS B ad ct (lbA w fs kA kB) m0 N1 N2) (hm0 : m0 + kA ≤ kA + kB) (hsm : ∀ i, i < kA → smp fs kA (m0 + i) = fA i) : Ctr B yX11_takeScores cX11_takeScores 7 (some .int) 4 116 (2 * kA) (4 * ((tkN1 (lbA w fs kA kB) m0 N1 kA) - N1) + 4 * ((tkN2 (lbA w fs kA kB) m0 N2 kA) - N2)) ad ct n [.ref (ad 0), .ref (ad 3), .int (nI w)] (gPxi n (fun r ad' ct' => r.toInt = sumI (fun j => lbV w fs kA kB (m0 + j)) kA ∧ (∀ r, r < 83 ∨ r = 85 ∨ 87 < r → ad' r = ad r) ∧ ct' 81 = .inr (8, [.ref (ad' 82), .ref (ad' 85), .int (nI (1 - (m0 + kA) % 2)), .int (nI 131072), .int off, .long ah, .long al]) ∧ SS B ad' ct' (lbA w fs kA kB) (m0 + kA) (tkN1 (lbA w fs kA kB) m0 N1 kA) (tkN2 (lbA w fs kA kB) m0 N2 kA) ∧ ∀ r, r < 81 ∨ 87 < r → ct' r = ct r)) := by
  refine Ctr.ofG (L := [(0, .ref (ad 0)), (1, .ref (ad 3)), (2, .int (nI w))]) (by decide +kernel) rfl (Nat.le_of_ble_eq_true rfl) (fun E fx rt hnm => ?_)
  refine g_iconst (v := nI 0) fx dX11_takeScores_0 (by decide +kernel) ?_
  refine g_istore_n (L' := [(3, .int (nI 0)), (0, .ref (ad 0)), (1, .ref (ad 3)), (2, .int (nI w))]) fx dX11_takeScores_1 (by decide) rfl ?_
  refine g_iconst (v := nI 0) fx dX11_takeScores_2 (by decide +kernel) ?_
  refine g_istore (L' := [(4, .int (nI 0)), (3, .int (nI 0)), (0, .ref (ad 0)), (1, .ref (ad 3)), (2, .int (nI w))]) fx dX11_takeScores_3 (by decide) rfl ?_
  have LP5 : ∀ (M : Nat) (i : Nat) (tg : Int32) (ad1 : Nat → Nat) (ct1 : Nat → va_E), (i ≤ kA) → (tg.toInt = sumI (fun j => lbV w fs kA kB (m0 + j)) i) → (ct1 0 = .inr (11, [.ref (ad1 1), .ref (ad1 3), .ref (ad1 5), .ref (ad1 7), .ref (ad1 9), .ref (ad1 11), .ref (ad1 79), .ref (ad1 81), .ref (ad1 88), .ref (ad1 110), .ref (ad1 115)])) → (ct1 3 = .inr (5, [.ref (ad1 4), .int (nI kA)])) → (ct1 4 = .inl (B.2.1 0, 15, .inl fA)) → (ct1 5 = .inr (5, [.ref (ad1 6), .int (nI kB)])) → (ct1 6 = .inl (B.2.1 0, 15, .inl fB)) → (ct1 81 = .inr (8, [.ref (ad1 82), .ref (ad1 85), .int (nI (1 - (m0 + i) % 2)), .int (nI 131072), .int off, .long ah, .long al])) → (SS B ad1 ct1 (lbA w fs kA kB) (m0 + i) (tkN1 (lbA w fs kA kB) m0 N1 i) (tkN2 (lbA w fs kA kB) m0 N2 i)) → (∀ r, r < 83 ∨ r = 85 ∨ 87 < r → ad1 r = ad r) → (∀ r, r < 81 ∨ 87 < r → ct1 r = ct r) →  (kA - i) < M → G B 7 E ad1 ct1 n (2 * i) (4 * ((tkN1 (lbA w fs kA kB) m0 N1 i) - N1) + 4 * ((tkN2 (lbA w fs kA kB) m0 N2 i) - N2)) [(0, .ref (ad1 0)), (1, .ref (ad1 3)), (2, .int (nI w)), (3, .int tg), (4, .int (nI i))] 5 [] := by
    intro M
    induction M with
    | zero => intro i tg ad1 ct1 _ _ _ _ _ _ _ _ _ _ _ hM; exact absurd hM (Nat.not_lt_zero _)
    | succ M ih =>
      intro i tg ad1 ct1 hi htg hx hA hAr hB hBr hso hSS hAd hfr hM
      have ih5 := ih
      have h1 := tkN1_le (a := (lbA w fs kA kB)) (m0 := m0) (N := N1) i
      have h2 := tkN2_le (a := (lbA w fs kA kB)) (m0 := m0) (N := N2) i
      have h3a := tkN1_up (a := (lbA w fs kA kB)) (m0 := m0) (N := N1) hi
      have h4a := tkN2_up (a := (lbA w fs kA kB)) (m0 := m0) (N := N2) hi
      refine g_iload fx 4 dX11_takeScores_5 rfl ?_
      refine g_aload_n fx 1 dX11_takeScores_7 rfl ?_
      refine g_callVip (As := []) (rest := [.int (nI i)]) fx slX11_169 (c_X5_size B ad1 ct1 n 3 15 kA fA (by omega) (by omega) (by omega) hA hAr) (by omega) hA rfl rfl rfl (Nat.le_of_ble_eq_true rfl) ⟨by dsimp only; omega, by dsimp only; omega⟩ ⟨by dsimp only; omega, by dsimp only; omega⟩ dX11_takeScores_8 (fun q1 hq1 => ?_)
      obtain rfl := hq1
      refine g_icmp_ge fx 59 dX11_takeScores_11 (by decide) (fun c11 => ?_) (fun c11 => ?_)
      · skip
        have hie : i = kA := by have := (nI_leI (by omega) (by omega)).mp c11; omega
        refine g_iload_n fx 3 dX11_takeScores_59 rfl ?_
        refine g_more (k1 := (2 * kA)) (s1 := (4 * ((tkN1 (lbA w fs kA kB) m0 N1 kA) - N1) + 4 * ((tkN2 (lbA w fs kA kB) m0 N2 kA) - N2))) (by omega) (by omega) ?_
        refine g_iret fx rt dX11_takeScores_60 ?_
        subst hie
        exact gPxi.mk ⟨htg, hAd, hso, hSS, hfr⟩
      · skip
        have hil : i < kA := (nI_ltI (by omega) (by omega)).mp (Int32.not_le.mp c11)
        have hvb := lbV_bd (w := w) (k := m0 + i) hAk hBk (by omega) hsb
        have hai := lbA_is hvb.2.1
        have htb := sumI_bd (V := fun j => lbV w fs kA kB (m0 + j)) (b := 1000) i (fun j hj => (lbV_bd hAk hBk (by omega) hsb).1)
        have e1 : tk1 (lbA w fs kA kB) (m0 + i) (tkN1 (lbA w fs kA kB) m0 N1 i) = (tkN1 (lbA w fs kA kB) m0 N1 (i + 1)) := rfl
        have e2 : tk2 (lbA w fs kA kB) (m0 + i) (tkN2 (lbA w fs kA kB) m0 N2 i) = (tkN2 (lbA w fs kA kB) m0 N2 (i + 1)) := rfl
        have h1b : (tkN1 (lbA w fs kA kB) m0 N1 i) ≤ (tkN1 (lbA w fs kA kB) m0 N1 (i + 1)) := tk1_le
        have h2b : (tkN2 (lbA w fs kA kB) m0 N2 i) ≤ (tkN2 (lbA w fs kA kB) m0 N2 (i + 1)) := tk2_le
        have h3 := tkN1_up (a := (lbA w fs kA kB)) (m0 := m0) (N := N1) (show i + 1 ≤ kA by omega)
        have h4 := tkN2_up (a := (lbA w fs kA kB)) (m0 := m0) (N := N2) (show i + 1 ≤ kA by omega)
        refine g_aload_n fx 1 dX11_takeScores_14 rfl ?_
        refine g_iload fx 4 dX11_takeScores_15 rfl ?_
        refine g_callVip (As := [.int (nI i)]) (rest := []) fx slX11_189 (c_X5_get B ad1 ct1 n 3 15 kA fA (by omega) (by omega) (by omega) hA hAr (nI i)) (by omega) hA rfl rfl rfl (Nat.le_of_ble_eq_true rfl) ⟨by dsimp only; omega, by dsimp only; omega⟩ ⟨by dsimp only; omega, by dsimp only; omega⟩ dX11_takeScores_17 (fun q2 hq2 => ?_)
        rw [if_pos (inR hil (by omega)), nI_toInt (by omega), Int.toNat_natCast] at hq2
        refine g_istore (L' := [(5, .int q2), (0, .ref (ad1 0)), (1, .ref (ad1 3)), (2, .int (nI w)), (3, .int tg), (4, .int (nI i))]) fx dX11_takeScores_20 (by decide) rfl ?_
        refine g_iload_n fx 3 dX11_takeScores_22 rfl ?_
        refine g_if_ne fx 31 dX11_takeScores_23 (by decide) (fun c23 => ?_) (fun c23 => ?_)
        · skip
          have hw1 : w = 1 := by
            by_cases q : w = 0
            · rw [q] at c23; exact absurd (show nI 0 = 0 by decide) c23
            · omega
          refine g_aload_n fx 1 dX11_takeScores_31 rfl ?_
          refine g_iload fx 0 dX11_takeScores_32 rfl ?_
          refine g_callVip (As := [.int q2]) (rest := []) fx slX11_209 (c_X11_rankOfNumber B ad1 ct1 n hn hx kA fA hA hAr hAk kB fB hB hBr hBk q2) (by omega) hx rfl rfl rfl (Nat.le_of_ble_eq_true rfl) ⟨by dsimp only; omega, by dsimp only; omega⟩ ⟨by dsimp only; omega, by dsimp only; omega⟩ dX11_takeScores_34 (fun q3 hq3 => ?_)
          have hsc : q3.toInt = lbV w fs kA kB (m0 + i) := by
            have hrl := rkN_le (fA := fA) (a := kA) (fB := fB) (b := kB) (v := q2)
            rw [hq3, nI_toInt (by omega)]
            unfold lbV
            rw [if_neg (by omega), hsm i hil, ← hq2, rkN_cg hfA hfB]
          refine g_istore (L' := [(6, .int q3), (5, .int q2), (0, .ref (ad1 0)), (1, .ref (ad1 3)), (2, .int (nI w)), (3, .int tg), (4, .int (nI i))]) fx dX11_takeScores_37 (by decide) rfl ?_
          refine g_aload_n fx 2 dX11_takeScores_39 rfl ?_
          refine g_get (r := 0) fx lkX11_51 (by omega) hx rfl dX11_takeScores_40 ?_
          refine g_iload fx 0 dX11_takeScores_43 rfl ?_
          refine g_callVx (As := [.int q3]) (rest := []) fx slX11_200 (c_X8_take B ad1 ct1 n (nI 131072) off ah al (lbA w fs kA kB) (m0 + i) (tkN1 (lbA w fs kA kB) m0 N1 i) (tkN2 (lbA w fs kA kB) m0 N2 i) ((lbA w fs kA kB) (m0 + i)) q3 hso hSS hn (by omega) (nI_ofT (by rw [hai]; exact add_toInt hsc (show (nI 131072).toInt = 131072 by decide) (by omega)) (by omega)) (by omega) rfl (fun j hj => by have q1 := lbV_bd (w := w) (k := j) hAk hBk (by omega) hsb; have q2 := lbA_is q1.2.1; omega)) (by omega) hso rfl rfl rfl (Nat.le_of_ble_eq_true rfl) ⟨by dsimp only; omega, by dsimp only; omega⟩ ⟨by dsimp only; omega, by dsimp only; omega⟩ dX11_takeScores_45 (fun ad2 ct2 hz => ?_)
          obtain ⟨hAd2, hso, hSS, hfr2⟩ := hz
          have hx : ct2 0 = .inr (11, [.ref (ad2 1), .ref (ad2 3), .ref (ad2 5), .ref (ad2 7), .ref (ad2 9), .ref (ad2 11), .ref (ad2 79), .ref (ad2 81), .ref (ad2 88), .ref (ad2 110), .ref (ad2 115)]) := (hfr2 0 (by decide)).trans (hx.trans (by rw [hAd2 1 (by decide), hAd2 3 (by decide), hAd2 5 (by decide), hAd2 7 (by decide), hAd2 9 (by decide), hAd2 11 (by decide), hAd2 79 (by decide), hAd2 81 (by decide), hAd2 88 (by decide), hAd2 110 (by decide), hAd2 115 (by decide)]))
          have hA : ct2 3 = .inr (5, [.ref (ad2 4), .int (nI kA)]) := (hfr2 3 (by decide)).trans (hA.trans (by rw [hAd2 4 (by decide)]))
          have hAr : ct2 4 = .inl (B.2.1 0, 15, .inl fA) := (hfr2 4 (by decide)).trans hAr
          have hB : ct2 5 = .inr (5, [.ref (ad2 6), .int (nI kB)]) := (hfr2 5 (by decide)).trans (hB.trans (by rw [hAd2 6 (by decide)]))
          have hBr : ct2 6 = .inl (B.2.1 0, 15, .inl fB) := (hfr2 6 (by decide)).trans hBr
          have hAd : ∀ r, r < 83 ∨ r = 85 ∨ 87 < r → ad2 r = ad r := fun r h => (hAd2 r h).trans (hAd r h)
          have hfr : ∀ r, r < 81 ∨ 87 < r → ct2 r = ct r := fun r h => (hfr2 r h).trans (hfr r h)
          refine g_same (L' := [(6, .int q3), (5, .int q2), (0, .ref (ad2 0)), (1, .ref (ad2 3)), (2, .int (nI w)), (3, .int tg), (4, .int (nI i))]) (st' := []) (by rw [hAd2 0 (by decide), hAd2 3 (by decide)]) rfl ?_
          refine g_iload_n fx 5 dX11_takeScores_48 rfl ?_
          refine g_iload fx 0 dX11_takeScores_49 rfl ?_
          refine g_iadd fx dX11_takeScores_51 ?_
          refine g_istore_n (L' := [(3, .int (tg + q3)), (6, .int q3), (5, .int q2), (0, .ref (ad2 0)), (1, .ref (ad2 3)), (2, .int (nI w)), (4, .int (nI i))]) fx dX11_takeScores_52 (by decide) rfl ?_
          refine g_iinc (L' := [(4, .int (nI (i + 1))), (3, .int (tg + q3)), (6, .int q3), (5, .int q2), (0, .ref (ad2 0)), (1, .ref (ad2 3)), (2, .int (nI w))]) fx (nI (i + 1)) 6 dX11_takeScores_53 rfl (gInc _) (by decide) rfl ?_
          refine g_goto fx 5 dX11_takeScores_56 (by decide) ?_
          refine g_locals (L' := [(0, .ref (ad2 0)), (1, .ref (ad2 3)), (2, .int (nI w)), (3, .int (tg + q3)), (4, .int (nI (i + 1)))]) [4, 5, 6, 1, 0] rfl ?_
          refine g_more (k1 := 2 * (i + 1)) (s1 := 4 * ((tkN1 (lbA w fs kA kB) m0 N1 (i + 1)) - N1) + 4 * ((tkN2 (lbA w fs kA kB) m0 N2 (i + 1)) - N2)) (by omega) (by omega) ?_
          exact ih5 (i + 1) _ ad2 ct2 (by omega) (by show _ = sumI (fun j => lbV w fs kA kB (m0 + j)) i + lbV w fs kA kB (m0 + i); exact add_toInt htg hsc (by omega)) hx hA hAr hB hBr hso hSS hAd hfr (by omega)
        · skip
          have hw0 : w = 0 := (nI_eq (b := 0) (by omega) (by omega)).mp c23
          have hsc : q2.toInt = lbV w fs kA kB (m0 + i) := by unfold lbV; rw [if_pos hw0, hsm i hil, hq2]
          refine g_iload fx 0 dX11_takeScores_26 rfl ?_
          refine g_goto fx 37 dX11_takeScores_28 (by decide) ?_
          refine g_istore (L' := [(6, .int q2), (5, .int q2), (0, .ref (ad1 0)), (1, .ref (ad1 3)), (2, .int (nI w)), (3, .int tg), (4, .int (nI i))]) fx dX11_takeScores_37 (by decide) rfl ?_
          refine g_aload_n fx 2 dX11_takeScores_39 rfl ?_
          refine g_get (r := 0) fx lkX11_51 (by omega) hx rfl dX11_takeScores_40 ?_
          refine g_iload fx 0 dX11_takeScores_43 rfl ?_
          refine g_callVx (As := [.int q2]) (rest := []) fx slX11_200 (c_X8_take B ad1 ct1 n (nI 131072) off ah al (lbA w fs kA kB) (m0 + i) (tkN1 (lbA w fs kA kB) m0 N1 i) (tkN2 (lbA w fs kA kB) m0 N2 i) ((lbA w fs kA kB) (m0 + i)) q2 hso hSS hn (by omega) (nI_ofT (by rw [hai]; exact add_toInt hsc (show (nI 131072).toInt = 131072 by decide) (by omega)) (by omega)) (by omega) rfl (fun j hj => by have q1 := lbV_bd (w := w) (k := j) hAk hBk (by omega) hsb; have q2 := lbA_is q1.2.1; omega)) (by omega) hso rfl rfl rfl (Nat.le_of_ble_eq_true rfl) ⟨by dsimp only; omega, by dsimp only; omega⟩ ⟨by dsimp only; omega, by dsimp only; omega⟩ dX11_takeScores_45 (fun ad2 ct2 hz => ?_)
          obtain ⟨hAd2, hso, hSS, hfr2⟩ := hz
          have hx : ct2 0 = .inr (11, [.ref (ad2 1), .ref (ad2 3), .ref (ad2 5), .ref (ad2 7), .ref (ad2 9), .ref (ad2 11), .ref (ad2 79), .ref (ad2 81), .ref (ad2 88), .ref (ad2 110), .ref (ad2 115)]) := (hfr2 0 (by decide)).trans (hx.trans (by rw [hAd2 1 (by decide), hAd2 3 (by decide), hAd2 5 (by decide), hAd2 7 (by decide), hAd2 9 (by decide), hAd2 11 (by decide), hAd2 79 (by decide), hAd2 81 (by decide), hAd2 88 (by decide), hAd2 110 (by decide), hAd2 115 (by decide)]))
          have hA : ct2 3 = .inr (5, [.ref (ad2 4), .int (nI kA)]) := (hfr2 3 (by decide)).trans (hA.trans (by rw [hAd2 4 (by decide)]))
          have hAr : ct2 4 = .inl (B.2.1 0, 15, .inl fA) := (hfr2 4 (by decide)).trans hAr
          have hB : ct2 5 = .inr (5, [.ref (ad2 6), .int (nI kB)]) := (hfr2 5 (by decide)).trans (hB.trans (by rw [hAd2 6 (by decide)]))
          have hBr : ct2 6 = .inl (B.2.1 0, 15, .inl fB) := (hfr2 6 (by decide)).trans hBr
          have hAd : ∀ r, r < 83 ∨ r = 85 ∨ 87 < r → ad2 r = ad r := fun r h => (hAd2 r h).trans (hAd r h)
          have hfr : ∀ r, r < 81 ∨ 87 < r → ct2 r = ct r := fun r h => (hfr2 r h).trans (hfr r h)
          refine g_same (L' := [(6, .int q2), (5, .int q2), (0, .ref (ad2 0)), (1, .ref (ad2 3)), (2, .int (nI w)), (3, .int tg), (4, .int (nI i))]) (st' := []) (by rw [hAd2 0 (by decide), hAd2 3 (by decide)]) rfl ?_
          refine g_iload_n fx 5 dX11_takeScores_48 rfl ?_
          refine g_iload fx 0 dX11_takeScores_49 rfl ?_
          refine g_iadd fx dX11_takeScores_51 ?_
          refine g_istore_n (L' := [(3, .int (tg + q2)), (6, .int q2), (5, .int q2), (0, .ref (ad2 0)), (1, .ref (ad2 3)), (2, .int (nI w)), (4, .int (nI i))]) fx dX11_takeScores_52 (by decide) rfl ?_
          refine g_iinc (L' := [(4, .int (nI (i + 1))), (3, .int (tg + q2)), (6, .int q2), (5, .int q2), (0, .ref (ad2 0)), (1, .ref (ad2 3)), (2, .int (nI w))]) fx (nI (i + 1)) 6 dX11_takeScores_53 rfl (gInc _) (by decide) rfl ?_
          refine g_goto fx 5 dX11_takeScores_56 (by decide) ?_
          refine g_locals (L' := [(0, .ref (ad2 0)), (1, .ref (ad2 3)), (2, .int (nI w)), (3, .int (tg + q2)), (4, .int (nI (i + 1)))]) [4, 5, 6, 1, 0] rfl ?_
          refine g_more (k1 := 2 * (i + 1)) (s1 := 4 * ((tkN1 (lbA w fs kA kB) m0 N1 (i + 1)) - N1) + 4 * ((tkN2 (lbA w fs kA kB) m0 N2 (i + 1)) - N2)) (by omega) (by omega) ?_
          exact ih5 (i + 1) _ ad2 ct2 (by omega) (by show _ = sumI (fun j => lbV w fs kA kB (m0 + j)) i + lbV w fs kA kB (m0 + i); exact add_toInt htg hsc (by omega)) hx hA hAr hB hBr hso hSS hAd hfr (by omega)
  refine g_locals (L' := [(0, .ref (ad 0)), (1, .ref (ad 3)), (2, .int (nI w)), (3, .int (nI 0)), (4, .int (nI 0))]) [2, 3, 4, 1, 0] rfl ?_
  refine g_more (k1 := 2 * 0) (s1 := 4 * ((tkN1 (lbA w fs kA kB) m0 N1 0) - N1) + 4 * ((tkN2 (lbA w fs kA kB) m0 N2 0) - N2)) (by omega) (Nat.zero_le _) ?_
  exact LP5 (kA + 1) 0 (nI 0) ad ct (by omega) (show (nI 0).toInt = (0 : Int) by decide) hx hA hAr hB hBr hso hSS (fun _ _ => rfl) (fun _ _ => rfl) (by omega)
set_option maxHeartbeats 4000000 in
set_option maxRecDepth 100000 in
theorem c_X11_takeScores_B (B : gB) (ad : Nat → Nat) (ct : Nat → va_E) (n : Nat) (kA kB w m0 N1 N2 : Nat) (fA fB fs : Nat → Int32) (off : Int32) (ah al : Int64) (hx : ct 0 = .inr (11, [.ref (ad 1), .ref (ad 3), .ref (ad 5), .ref (ad 7), .ref (ad 9), .ref (ad 11), .ref (ad 79), .ref (ad 81), .ref (ad 88), .ref (ad 110), .ref (ad 115)])) (hA : ct 3 = .inr (5, [.ref (ad 4), .int (nI kA)])) (hAr : ct 4 = .inl (B.2.1 0, 15, .inl fA)) (hB : ct 5 = .inr (5, [.ref (ad 6), .int (nI kB)])) (hBr : ct 6 = .inl (B.2.1 0, 15, .inl fB)) (hn : 178 ≤ n) (hAk : kA ≤ 15) (hBk : kB ≤ 15) (hw : w < 2) (hfA : ∀ i, i < kA → fA i = fs i) (hfB : ∀ i, i < kB → fB i = fs (15 + i)) (hsb : ∀ j, j < 30 → (fs j).toInt.natAbs ≤ 1000) (hso : ct 81 = .inr (8, [.ref (ad 82), .ref (ad 85), .int (nI (1 - m0 % 2)), .int (nI 131072), .int off, .long ah, .long al])) (hSS : SS B ad ct (lbA w fs kA kB) m0 N1 N2) (hm0 : m0 + kB ≤ kA + kB) (hsm : ∀ i, i < kB → smp fs kA (m0 + i) = fB i) : Ctr B yX11_takeScores cX11_takeScores 7 (some .int) 4 116 (2 * kB) (4 * ((tkN1 (lbA w fs kA kB) m0 N1 kB) - N1) + 4 * ((tkN2 (lbA w fs kA kB) m0 N2 kB) - N2)) ad ct n [.ref (ad 0), .ref (ad 5), .int (nI w)] (gPxi n (fun r ad' ct' => r.toInt = sumI (fun j => lbV w fs kA kB (m0 + j)) kB ∧ (∀ r, r < 83 ∨ r = 85 ∨ 87 < r → ad' r = ad r) ∧ ct' 81 = .inr (8, [.ref (ad' 82), .ref (ad' 85), .int (nI (1 - (m0 + kB) % 2)), .int (nI 131072), .int off, .long ah, .long al]) ∧ SS B ad' ct' (lbA w fs kA kB) (m0 + kB) (tkN1 (lbA w fs kA kB) m0 N1 kB) (tkN2 (lbA w fs kA kB) m0 N2 kB) ∧ ∀ r, r < 81 ∨ 87 < r → ct' r = ct r)) := by
  refine Ctr.ofG (L := [(0, .ref (ad 0)), (1, .ref (ad 5)), (2, .int (nI w))]) (by decide +kernel) rfl (Nat.le_of_ble_eq_true rfl) (fun E fx rt hnm => ?_)
  refine g_iconst (v := nI 0) fx dX11_takeScores_0 (by decide +kernel) ?_
  refine g_istore_n (L' := [(3, .int (nI 0)), (0, .ref (ad 0)), (1, .ref (ad 5)), (2, .int (nI w))]) fx dX11_takeScores_1 (by decide) rfl ?_
  refine g_iconst (v := nI 0) fx dX11_takeScores_2 (by decide +kernel) ?_
  refine g_istore (L' := [(4, .int (nI 0)), (3, .int (nI 0)), (0, .ref (ad 0)), (1, .ref (ad 5)), (2, .int (nI w))]) fx dX11_takeScores_3 (by decide) rfl ?_
  have LP5 : ∀ (M : Nat) (i : Nat) (tg : Int32) (ad1 : Nat → Nat) (ct1 : Nat → va_E), (i ≤ kB) → (tg.toInt = sumI (fun j => lbV w fs kA kB (m0 + j)) i) → (ct1 0 = .inr (11, [.ref (ad1 1), .ref (ad1 3), .ref (ad1 5), .ref (ad1 7), .ref (ad1 9), .ref (ad1 11), .ref (ad1 79), .ref (ad1 81), .ref (ad1 88), .ref (ad1 110), .ref (ad1 115)])) → (ct1 3 = .inr (5, [.ref (ad1 4), .int (nI kA)])) → (ct1 4 = .inl (B.2.1 0, 15, .inl fA)) → (ct1 5 = .inr (5, [.ref (ad1 6), .int (nI kB)])) → (ct1 6 = .inl (B.2.1 0, 15, .inl fB)) → (ct1 81 = .inr (8, [.ref (ad1 82), .ref (ad1 85), .int (nI (1 - (m0 + i) % 2)), .int (nI 131072), .int off, .long ah, .long al])) → (SS B ad1 ct1 (lbA w fs kA kB) (m0 + i) (tkN1 (lbA w fs kA kB) m0 N1 i) (tkN2 (lbA w fs kA kB) m0 N2 i)) → (∀ r, r < 83 ∨ r = 85 ∨ 87 < r → ad1 r = ad r) → (∀ r, r < 81 ∨ 87 < r → ct1 r = ct r) →  (kB - i) < M → G B 7 E ad1 ct1 n (2 * i) (4 * ((tkN1 (lbA w fs kA kB) m0 N1 i) - N1) + 4 * ((tkN2 (lbA w fs kA kB) m0 N2 i) - N2)) [(0, .ref (ad1 0)), (1, .ref (ad1 5)), (2, .int (nI w)), (3, .int tg), (4, .int (nI i))] 5 [] := by
    intro M
    induction M with
    | zero => intro i tg ad1 ct1 _ _ _ _ _ _ _ _ _ _ _ hM; exact absurd hM (Nat.not_lt_zero _)
    | succ M ih =>
      intro i tg ad1 ct1 hi htg hx hA hAr hB hBr hso hSS hAd hfr hM
      have ih5 := ih
      have h1 := tkN1_le (a := (lbA w fs kA kB)) (m0 := m0) (N := N1) i
      have h2 := tkN2_le (a := (lbA w fs kA kB)) (m0 := m0) (N := N2) i
      have h3a := tkN1_up (a := (lbA w fs kA kB)) (m0 := m0) (N := N1) hi
      have h4a := tkN2_up (a := (lbA w fs kA kB)) (m0 := m0) (N := N2) hi
      refine g_iload fx 4 dX11_takeScores_5 rfl ?_
      refine g_aload_n fx 1 dX11_takeScores_7 rfl ?_
      refine g_callVip (As := []) (rest := [.int (nI i)]) fx slX11_169 (c_X5_size B ad1 ct1 n 5 15 kB fB (by omega) (by omega) (by omega) hB hBr) (by omega) hB rfl rfl rfl (Nat.le_of_ble_eq_true rfl) ⟨by dsimp only; omega, by dsimp only; omega⟩ ⟨by dsimp only; omega, by dsimp only; omega⟩ dX11_takeScores_8 (fun q1 hq1 => ?_)
      obtain rfl := hq1
      refine g_icmp_ge fx 59 dX11_takeScores_11 (by decide) (fun c11 => ?_) (fun c11 => ?_)
      · skip
        have hie : i = kB := by have := (nI_leI (by omega) (by omega)).mp c11; omega
        refine g_iload_n fx 3 dX11_takeScores_59 rfl ?_
        refine g_more (k1 := (2 * kB)) (s1 := (4 * ((tkN1 (lbA w fs kA kB) m0 N1 kB) - N1) + 4 * ((tkN2 (lbA w fs kA kB) m0 N2 kB) - N2))) (by omega) (by omega) ?_
        refine g_iret fx rt dX11_takeScores_60 ?_
        subst hie
        exact gPxi.mk ⟨htg, hAd, hso, hSS, hfr⟩
      · skip
        have hil : i < kB := (nI_ltI (by omega) (by omega)).mp (Int32.not_le.mp c11)
        have hvb := lbV_bd (w := w) (k := m0 + i) hAk hBk (by omega) hsb
        have hai := lbA_is hvb.2.1
        have htb := sumI_bd (V := fun j => lbV w fs kA kB (m0 + j)) (b := 1000) i (fun j hj => (lbV_bd hAk hBk (by omega) hsb).1)
        have e1 : tk1 (lbA w fs kA kB) (m0 + i) (tkN1 (lbA w fs kA kB) m0 N1 i) = (tkN1 (lbA w fs kA kB) m0 N1 (i + 1)) := rfl
        have e2 : tk2 (lbA w fs kA kB) (m0 + i) (tkN2 (lbA w fs kA kB) m0 N2 i) = (tkN2 (lbA w fs kA kB) m0 N2 (i + 1)) := rfl
        have h1b : (tkN1 (lbA w fs kA kB) m0 N1 i) ≤ (tkN1 (lbA w fs kA kB) m0 N1 (i + 1)) := tk1_le
        have h2b : (tkN2 (lbA w fs kA kB) m0 N2 i) ≤ (tkN2 (lbA w fs kA kB) m0 N2 (i + 1)) := tk2_le
        have h3 := tkN1_up (a := (lbA w fs kA kB)) (m0 := m0) (N := N1) (show i + 1 ≤ kB by omega)
        have h4 := tkN2_up (a := (lbA w fs kA kB)) (m0 := m0) (N := N2) (show i + 1 ≤ kB by omega)
        refine g_aload_n fx 1 dX11_takeScores_14 rfl ?_
        refine g_iload fx 4 dX11_takeScores_15 rfl ?_
        refine g_callVip (As := [.int (nI i)]) (rest := []) fx slX11_189 (c_X5_get B ad1 ct1 n 5 15 kB fB (by omega) (by omega) (by omega) hB hBr (nI i)) (by omega) hB rfl rfl rfl (Nat.le_of_ble_eq_true rfl) ⟨by dsimp only; omega, by dsimp only; omega⟩ ⟨by dsimp only; omega, by dsimp only; omega⟩ dX11_takeScores_17 (fun q2 hq2 => ?_)
        rw [if_pos (inR hil (by omega)), nI_toInt (by omega), Int.toNat_natCast] at hq2
        refine g_istore (L' := [(5, .int q2), (0, .ref (ad1 0)), (1, .ref (ad1 5)), (2, .int (nI w)), (3, .int tg), (4, .int (nI i))]) fx dX11_takeScores_20 (by decide) rfl ?_
        refine g_iload_n fx 3 dX11_takeScores_22 rfl ?_
        refine g_if_ne fx 31 dX11_takeScores_23 (by decide) (fun c23 => ?_) (fun c23 => ?_)
        · skip
          have hw1 : w = 1 := by
            by_cases q : w = 0
            · rw [q] at c23; exact absurd (show nI 0 = 0 by decide) c23
            · omega
          refine g_aload_n fx 1 dX11_takeScores_31 rfl ?_
          refine g_iload fx 0 dX11_takeScores_32 rfl ?_
          refine g_callVip (As := [.int q2]) (rest := []) fx slX11_209 (c_X11_rankOfNumber B ad1 ct1 n hn hx kA fA hA hAr hAk kB fB hB hBr hBk q2) (by omega) hx rfl rfl rfl (Nat.le_of_ble_eq_true rfl) ⟨by dsimp only; omega, by dsimp only; omega⟩ ⟨by dsimp only; omega, by dsimp only; omega⟩ dX11_takeScores_34 (fun q3 hq3 => ?_)
          have hsc : q3.toInt = lbV w fs kA kB (m0 + i) := by
            have hrl := rkN_le (fA := fA) (a := kA) (fB := fB) (b := kB) (v := q2)
            rw [hq3, nI_toInt (by omega)]
            unfold lbV
            rw [if_neg (by omega), hsm i hil, ← hq2, rkN_cg hfA hfB]
          refine g_istore (L' := [(6, .int q3), (5, .int q2), (0, .ref (ad1 0)), (1, .ref (ad1 5)), (2, .int (nI w)), (3, .int tg), (4, .int (nI i))]) fx dX11_takeScores_37 (by decide) rfl ?_
          refine g_aload_n fx 2 dX11_takeScores_39 rfl ?_
          refine g_get (r := 0) fx lkX11_51 (by omega) hx rfl dX11_takeScores_40 ?_
          refine g_iload fx 0 dX11_takeScores_43 rfl ?_
          refine g_callVx (As := [.int q3]) (rest := []) fx slX11_200 (c_X8_take B ad1 ct1 n (nI 131072) off ah al (lbA w fs kA kB) (m0 + i) (tkN1 (lbA w fs kA kB) m0 N1 i) (tkN2 (lbA w fs kA kB) m0 N2 i) ((lbA w fs kA kB) (m0 + i)) q3 hso hSS hn (by omega) (nI_ofT (by rw [hai]; exact add_toInt hsc (show (nI 131072).toInt = 131072 by decide) (by omega)) (by omega)) (by omega) rfl (fun j hj => by have q1 := lbV_bd (w := w) (k := j) hAk hBk (by omega) hsb; have q2 := lbA_is q1.2.1; omega)) (by omega) hso rfl rfl rfl (Nat.le_of_ble_eq_true rfl) ⟨by dsimp only; omega, by dsimp only; omega⟩ ⟨by dsimp only; omega, by dsimp only; omega⟩ dX11_takeScores_45 (fun ad2 ct2 hz => ?_)
          obtain ⟨hAd2, hso, hSS, hfr2⟩ := hz
          have hx : ct2 0 = .inr (11, [.ref (ad2 1), .ref (ad2 3), .ref (ad2 5), .ref (ad2 7), .ref (ad2 9), .ref (ad2 11), .ref (ad2 79), .ref (ad2 81), .ref (ad2 88), .ref (ad2 110), .ref (ad2 115)]) := (hfr2 0 (by decide)).trans (hx.trans (by rw [hAd2 1 (by decide), hAd2 3 (by decide), hAd2 5 (by decide), hAd2 7 (by decide), hAd2 9 (by decide), hAd2 11 (by decide), hAd2 79 (by decide), hAd2 81 (by decide), hAd2 88 (by decide), hAd2 110 (by decide), hAd2 115 (by decide)]))
          have hA : ct2 3 = .inr (5, [.ref (ad2 4), .int (nI kA)]) := (hfr2 3 (by decide)).trans (hA.trans (by rw [hAd2 4 (by decide)]))
          have hAr : ct2 4 = .inl (B.2.1 0, 15, .inl fA) := (hfr2 4 (by decide)).trans hAr
          have hB : ct2 5 = .inr (5, [.ref (ad2 6), .int (nI kB)]) := (hfr2 5 (by decide)).trans (hB.trans (by rw [hAd2 6 (by decide)]))
          have hBr : ct2 6 = .inl (B.2.1 0, 15, .inl fB) := (hfr2 6 (by decide)).trans hBr
          have hAd : ∀ r, r < 83 ∨ r = 85 ∨ 87 < r → ad2 r = ad r := fun r h => (hAd2 r h).trans (hAd r h)
          have hfr : ∀ r, r < 81 ∨ 87 < r → ct2 r = ct r := fun r h => (hfr2 r h).trans (hfr r h)
          refine g_same (L' := [(6, .int q3), (5, .int q2), (0, .ref (ad2 0)), (1, .ref (ad2 5)), (2, .int (nI w)), (3, .int tg), (4, .int (nI i))]) (st' := []) (by rw [hAd2 0 (by decide), hAd2 5 (by decide)]) rfl ?_
          refine g_iload_n fx 5 dX11_takeScores_48 rfl ?_
          refine g_iload fx 0 dX11_takeScores_49 rfl ?_
          refine g_iadd fx dX11_takeScores_51 ?_
          refine g_istore_n (L' := [(3, .int (tg + q3)), (6, .int q3), (5, .int q2), (0, .ref (ad2 0)), (1, .ref (ad2 5)), (2, .int (nI w)), (4, .int (nI i))]) fx dX11_takeScores_52 (by decide) rfl ?_
          refine g_iinc (L' := [(4, .int (nI (i + 1))), (3, .int (tg + q3)), (6, .int q3), (5, .int q2), (0, .ref (ad2 0)), (1, .ref (ad2 5)), (2, .int (nI w))]) fx (nI (i + 1)) 6 dX11_takeScores_53 rfl (gInc _) (by decide) rfl ?_
          refine g_goto fx 5 dX11_takeScores_56 (by decide) ?_
          refine g_locals (L' := [(0, .ref (ad2 0)), (1, .ref (ad2 5)), (2, .int (nI w)), (3, .int (tg + q3)), (4, .int (nI (i + 1)))]) [4, 5, 6, 1, 0] rfl ?_
          refine g_more (k1 := 2 * (i + 1)) (s1 := 4 * ((tkN1 (lbA w fs kA kB) m0 N1 (i + 1)) - N1) + 4 * ((tkN2 (lbA w fs kA kB) m0 N2 (i + 1)) - N2)) (by omega) (by omega) ?_
          exact ih5 (i + 1) _ ad2 ct2 (by omega) (by show _ = sumI (fun j => lbV w fs kA kB (m0 + j)) i + lbV w fs kA kB (m0 + i); exact add_toInt htg hsc (by omega)) hx hA hAr hB hBr hso hSS hAd hfr (by omega)
        · skip
          have hw0 : w = 0 := (nI_eq (b := 0) (by omega) (by omega)).mp c23
          have hsc : q2.toInt = lbV w fs kA kB (m0 + i) := by unfold lbV; rw [if_pos hw0, hsm i hil, hq2]
          refine g_iload fx 0 dX11_takeScores_26 rfl ?_
          refine g_goto fx 37 dX11_takeScores_28 (by decide) ?_
          refine g_istore (L' := [(6, .int q2), (5, .int q2), (0, .ref (ad1 0)), (1, .ref (ad1 5)), (2, .int (nI w)), (3, .int tg), (4, .int (nI i))]) fx dX11_takeScores_37 (by decide) rfl ?_
          refine g_aload_n fx 2 dX11_takeScores_39 rfl ?_
          refine g_get (r := 0) fx lkX11_51 (by omega) hx rfl dX11_takeScores_40 ?_
          refine g_iload fx 0 dX11_takeScores_43 rfl ?_
          refine g_callVx (As := [.int q2]) (rest := []) fx slX11_200 (c_X8_take B ad1 ct1 n (nI 131072) off ah al (lbA w fs kA kB) (m0 + i) (tkN1 (lbA w fs kA kB) m0 N1 i) (tkN2 (lbA w fs kA kB) m0 N2 i) ((lbA w fs kA kB) (m0 + i)) q2 hso hSS hn (by omega) (nI_ofT (by rw [hai]; exact add_toInt hsc (show (nI 131072).toInt = 131072 by decide) (by omega)) (by omega)) (by omega) rfl (fun j hj => by have q1 := lbV_bd (w := w) (k := j) hAk hBk (by omega) hsb; have q2 := lbA_is q1.2.1; omega)) (by omega) hso rfl rfl rfl (Nat.le_of_ble_eq_true rfl) ⟨by dsimp only; omega, by dsimp only; omega⟩ ⟨by dsimp only; omega, by dsimp only; omega⟩ dX11_takeScores_45 (fun ad2 ct2 hz => ?_)
          obtain ⟨hAd2, hso, hSS, hfr2⟩ := hz
          have hx : ct2 0 = .inr (11, [.ref (ad2 1), .ref (ad2 3), .ref (ad2 5), .ref (ad2 7), .ref (ad2 9), .ref (ad2 11), .ref (ad2 79), .ref (ad2 81), .ref (ad2 88), .ref (ad2 110), .ref (ad2 115)]) := (hfr2 0 (by decide)).trans (hx.trans (by rw [hAd2 1 (by decide), hAd2 3 (by decide), hAd2 5 (by decide), hAd2 7 (by decide), hAd2 9 (by decide), hAd2 11 (by decide), hAd2 79 (by decide), hAd2 81 (by decide), hAd2 88 (by decide), hAd2 110 (by decide), hAd2 115 (by decide)]))
          have hA : ct2 3 = .inr (5, [.ref (ad2 4), .int (nI kA)]) := (hfr2 3 (by decide)).trans (hA.trans (by rw [hAd2 4 (by decide)]))
          have hAr : ct2 4 = .inl (B.2.1 0, 15, .inl fA) := (hfr2 4 (by decide)).trans hAr
          have hB : ct2 5 = .inr (5, [.ref (ad2 6), .int (nI kB)]) := (hfr2 5 (by decide)).trans (hB.trans (by rw [hAd2 6 (by decide)]))
          have hBr : ct2 6 = .inl (B.2.1 0, 15, .inl fB) := (hfr2 6 (by decide)).trans hBr
          have hAd : ∀ r, r < 83 ∨ r = 85 ∨ 87 < r → ad2 r = ad r := fun r h => (hAd2 r h).trans (hAd r h)
          have hfr : ∀ r, r < 81 ∨ 87 < r → ct2 r = ct r := fun r h => (hfr2 r h).trans (hfr r h)
          refine g_same (L' := [(6, .int q2), (5, .int q2), (0, .ref (ad2 0)), (1, .ref (ad2 5)), (2, .int (nI w)), (3, .int tg), (4, .int (nI i))]) (st' := []) (by rw [hAd2 0 (by decide), hAd2 5 (by decide)]) rfl ?_
          refine g_iload_n fx 5 dX11_takeScores_48 rfl ?_
          refine g_iload fx 0 dX11_takeScores_49 rfl ?_
          refine g_iadd fx dX11_takeScores_51 ?_
          refine g_istore_n (L' := [(3, .int (tg + q2)), (6, .int q2), (5, .int q2), (0, .ref (ad2 0)), (1, .ref (ad2 5)), (2, .int (nI w)), (4, .int (nI i))]) fx dX11_takeScores_52 (by decide) rfl ?_
          refine g_iinc (L' := [(4, .int (nI (i + 1))), (3, .int (tg + q2)), (6, .int q2), (5, .int q2), (0, .ref (ad2 0)), (1, .ref (ad2 5)), (2, .int (nI w))]) fx (nI (i + 1)) 6 dX11_takeScores_53 rfl (gInc _) (by decide) rfl ?_
          refine g_goto fx 5 dX11_takeScores_56 (by decide) ?_
          refine g_locals (L' := [(0, .ref (ad2 0)), (1, .ref (ad2 5)), (2, .int (nI w)), (3, .int (tg + q2)), (4, .int (nI (i + 1)))]) [4, 5, 6, 1, 0] rfl ?_
          refine g_more (k1 := 2 * (i + 1)) (s1 := 4 * ((tkN1 (lbA w fs kA kB) m0 N1 (i + 1)) - N1) + 4 * ((tkN2 (lbA w fs kA kB) m0 N2 (i + 1)) - N2)) (by omega) (by omega) ?_
          exact ih5 (i + 1) _ ad2 ct2 (by omega) (by show _ = sumI (fun j => lbV w fs kA kB (m0 + j)) i + lbV w fs kA kB (m0 + i); exact add_toInt htg hsc (by omega)) hx hA hAr hB hBr hso hSS hAd hfr (by omega)
  refine g_locals (L' := [(0, .ref (ad 0)), (1, .ref (ad 5)), (2, .int (nI w)), (3, .int (nI 0)), (4, .int (nI 0))]) [2, 3, 4, 1, 0] rfl ?_
  refine g_more (k1 := 2 * 0) (s1 := 4 * ((tkN1 (lbA w fs kA kB) m0 N1 0) - N1) + 4 * ((tkN2 (lbA w fs kA kB) m0 N2 0) - N2)) (by omega) (Nat.zero_le _) ?_
  exact LP5 (kB + 1) 0 (nI 0) ad ct (by omega) (show (nI 0).toInt = (0 : Int) by decide) hx hA hAr hB hBr hso hSS (fun _ _ => rfl) (fun _ _ => rfl) (by omega)
