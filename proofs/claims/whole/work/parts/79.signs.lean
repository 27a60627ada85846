def sgA (V : Nat → Nat) (fd : Nat → Int32) : Nat → Nat → Nat
  | 0 => fun _ => 0
  | k + 1 => if fd k = 0 then sgA V fd k else va_up (sgA V fd k) (nzN fd k) (V k)
theorem nz_le {fd : Nat → Int32} {j : Nat} : ∀ {k : Nat}, j ≤ k → nzN fd j ≤ nzN fd k
  | 0, h => by rw [show j = 0 by omega]; exact Nat.le_refl _
  | k + 1, h => by
    by_cases q : j = k + 1
    · rw [q]; exact Nat.le_refl _
    · have ih := nz_le (fd := fd) (show j ≤ k by omega)
      by_cases q2 : fd k = 0
      · rw [nz_f q2]; exact ih
      · rw [nz_t q2]; omega
theorem sgA_at {V : Nat → Nat} {fd : Nat → Int32} {j : Nat} (hj : ¬ fd j = 0) : ∀ {k : Nat}, j < k → sgA V fd k (nzN fd j) = V j
  | 0, h => absurd h (Nat.not_lt_zero _)
  | k + 1, h => by
    show (if fd k = 0 then sgA V fd k else va_up (sgA V fd k) (nzN fd k) (V k)) (nzN fd j) = V j
    by_cases q : j = k
    · subst q; rw [if_neg hj, va_up_self]
    · by_cases q2 : fd k = 0
      · rw [if_pos q2]; exact sgA_at hj (by omega)
      · rw [if_neg q2, va_up_ne _ _ (by have := nz_lt (show j < k by omega) hj; omega)]; exact sgA_at hj (by omega)
theorem sgA_le {V : Nat → Nat} {fd : Nat → Int32} {b : Nat} : ∀ k, (∀ j, j < k → V j ≤ b) → ∀ i, sgA V fd k i ≤ b
  | 0, _, _ => Nat.zero_le _
  | k + 1, h, i => by
    show (if fd k = 0 then sgA V fd k else va_up (sgA V fd k) (nzN fd k) (V k)) i ≤ b
    by_cases q2 : fd k = 0
    · rw [if_pos q2]; exact sgA_le k (fun j hj => h j (by omega)) i
    · rw [if_neg q2]
      by_cases q : i = nzN fd k
      · rw [q, va_up_self]; exact h k (by omega)
      · rw [va_up_ne _ _ q]; exact sgA_le k (fun j hj => h j (by omega)) i
theorem nz_k {fd : Nat → Int32} : ∀ k, gCnt (fun x => decide (x = 0)) fd k + nzN fd k = k
  | 0 => rfl
  | k + 1 => by
    have ih := nz_k (fd := fd) k
    by_cases q : fd k = 0
    · rw [nz_f q, gCnt_t _ (decide_eq_true q)]; omega
    · rw [nz_t q, gCnt_f _ (decide_eq_false q)]; omega
theorem nz_cg {f g : Nat → Int32} (k : Nat) (h : ∀ i, i < k → f i = g i) : nzN f k = nzN g k := gCnt_cg k h
theorem rkZ_cg {f g : Nat → Int32} {k : Nat} {v : Int32} (h : ∀ i, i < k → f i = g i) : rkZ f k v = rkZ g k v := by
  unfold rkZ
  rw [gCnt_cg k h, gCnt_cg k h]
theorem sgV_pos {w : Nat} {fd : Nat → Int32} {kp k : Nat} (h : ¬ fd k = 0) : 0 < sgV w fd kp k := by
  unfold sgV
  by_cases q : w = 0
  · rw [if_pos q]
    exact Nat.pos_of_ne_zero (fun e => h (Int32.toInt_inj.mp (by rw [Int.natAbs_eq_zero.mp e]; rfl)))
  · rw [if_neg q]
    by_cases q2 : w = 1
    · rw [if_pos q2]; unfold rkZ; omega
    · rw [if_neg q2]; decide
def sgE1 (w : Nat) (fd : Nat → Int32) (kp N : Nat) : Nat := tkN1 (sgA (sgV w fd kp) fd kp) 0 N (nzN fd kp)
def sgE2 (w : Nat) (fd : Nat → Int32) (kp N : Nat) : Nat := tkN2 (sgA (sgV w fd kp) fd kp) 0 N (nzN fd kp)
def sgMs (x : Int32) (fd : Nat → Int32) (kp N1 N2 : Nat) : Nat := if ((0 : Int) ≤ x.toInt ∧ x.toInt ≤ 2) ∧ 0 < nzN fd kp then 4 * (sgE1 x.toInt.toNat fd kp N1 - N1) + 4 * (sgE2 x.toInt.toNat fd kp N2 - N2) else 0
set_option maxHeartbeats 4000000 in
set_option maxRecDepth 100000 in
theorem c_X11_signs (B : gB) (ad : Nat → Nat) (ct : Nat → va_E) (n : Nat) (kD : Nat) (fD fd : Nat → Int32) (hx : ct 0 = .inr (11, [.ref (ad 1), .ref (ad 3), .ref (ad 5), .ref (ad 7), .ref (ad 9), .ref (ad 11), .ref (ad 79), .ref (ad 81), .ref (ad 88), .ref (ad 110), .ref (ad 115)])) (hD : ct 7 = .inr (5, [.ref (ad 8), .int (nI kD)])) (hDr : ct 8 = .inl (B.2.1 0, 30, .inl fD)) (hn : 178 ≤ n) (hDk : kD ≤ 30) (hfD : ∀ i, i < kD → fD i = fd i) (hdb : ∀ j, j < 30 → (fd j).toInt.natAbs ≤ 2000) (nx mk off : Int32) (ah al : Int64) (hso : ct 81 = .inr (8, [.ref (ad 82), .ref (ad 85), .int nx, .int mk, .int off, .long ah, .long al])) (sz1 N1 sz2 N2 : Nat) (s1 t1 s2 t2 : Nat → Nat) (h82 : ct 82 = .inr (4, [.ref (ad 83), .ref (ad 84), .int (nI sz1)])) (h83 : ct 83 = .inl (B.2.1 0, N1, .inl (nF s1))) (h84 : ct 84 = .inl (B.2.1 0, N1, .inl (nF t1))) (h85 : ct 85 = .inr (4, [.ref (ad 86), .ref (ad 87), .int (nI sz2)])) (h86 : ct 86 = .inl (B.2.1 0, N2, .inl (nF s2))) (h87 : ct 87 = .inl (B.2.1 0, N2, .inl (nF t2))) (hL1 : okL N1) (hL2 : okL N2) (th te sta ask : Int32) (hr : ct 88 = .inr (6, [.ref (ad 89), .int th, .int te, .int sta, .int ask])) (hrr : ct 89 = .inl (B.2.1 4, 4, .inr (.inr (.inr (.inr (fun i => some (ad (90 + 5 * i)))))))) (hFr : ∀ t, t < 4 → ∃ u l, isFr B ad ct (90 + 5 * t) u l) (x : Int32) : Ctr B yX11_signs cX11_signs 8 (some .int) 6 150 60 (sgMs x fd kD N1 N2) ad ct n [.ref (ad 0), .int x] (gPxi n (fun q ad' ct' => (¬ ((0 : Int) ≤ x.toInt ∧ x.toInt ≤ 2) ∧ q = -1000000001 ∧ ad' = ad ∧ ct' = ct) ∨ (((0 : Int) ≤ x.toInt ∧ x.toInt ≤ 2) ∧ nzN fd kD = 0 ∧ q = -1000000003 ∧ ad' = ad ∧ ct' = ct) ∨ (((0 : Int) ≤ x.toInt ∧ x.toInt ≤ 2) ∧ 0 < nzN fd kD ∧ ∃ w : Nat, w < 3 ∧ x = nI w ∧ q = nI (sumF (sgO w fd kD) kD) ∧ (∀ r, r < 83 ∨ r = 85 ∨ 87 < r → ad' r = ad r) ∧ ct' 81 = .inr (8, [.ref (ad' 82), .ref (ad' 85), .int (nI (1 - nzN fd kD % 2)), .int (nI 0), .int (nI 0), .long (lN 0), .long (lN (sumF (bZ (sgV w fd kD) fd kD) 60001))]) ∧ SS B ad' ct' (sgA (sgV w fd kD) fd kD) (nzN fd kD) (sgE1 w fd kD N1) (sgE2 w fd kD N2) ∧ ct' 88 = .inr (6, [.ref (ad' 89), .int 1, .int (nI (3 + w)), .int q, .int (nI (nzN fd kD))]) ∧ (∀ t, t < 4 → isFr B ad' ct' (90 + 5 * t) ((fcS 2 (((sumF (sgT w fd kD) kD) : Nat) : Int) (((sumF (sgO w fd kD) kD) : Nat) : Int) 0 (bZ (sgV w fd kD) fd kD) 60001 t) / Nat.gcd (fcS 2 (((sumF (sgT w fd kD) kD) : Nat) : Int) (((sumF (sgO w fd kD) kD) : Nat) : Int) 0 (bZ (sgV w fd kD) fd kD) 60001 t) (sumF (bZ (sgV w fd kD) fd kD) 60001)) (sumF (bZ (sgV w fd kD) fd kD) 60001 / Nat.gcd (fcS 2 (((sumF (sgT w fd kD) kD) : Nat) : Int) (((sumF (sgO w fd kD) kD) : Nat) : Int) 0 (bZ (sgV w fd kD) fd kD) 60001 t) (sumF (bZ (sgV w fd kD) fd kD) 60001))) ∧ ∀ r, r < 81 ∨ r = 89 ∨ 109 < r → ct' r = ct r))) := by
  refine Ctr.ofG (L := [(0, .ref (ad 0)), (1, .int x)]) (by decide +kernel) rfl (Nat.le_of_ble_eq_true rfl) (fun E fx rt hnm => ?_)
  refine g_iload_n fx 1 dX11_signs_0 rfl ?_
  refine g_iconst (v := nI 0) fx dX11_signs_1 (by decide +kernel) ?_
  refine g_iconst (v := nI 2) fx dX11_signs_2 (by decide +kernel) ?_
  refine g_callSip (As := [.int x, .int (nI 0), .int (nI 2)]) (rest := []) fx slX11_78 (c_X11_within B ad ct n x (nI 0) (nI 2) 0 2 (by decide) (by decide)) rfl rfl (Nat.le_of_ble_eq_true rfl) ⟨by dsimp only; omega, by dsimp only; omega⟩ ⟨by dsimp only; omega, by dsimp only; omega⟩ dX11_signs_3 (fun q0 hq0 => ?_)
  refine g_if_ne fx 12 dX11_signs_6 (by decide) (fun c6 => ?_) (fun c6 => ?_)
  · skip
    have hin : (0 : Int) ≤ x.toInt ∧ x.toInt ≤ 2 := if01_n.mp (hq0 ▸ c6)
    obtain ⟨w, hw, hxw⟩ : ∃ w : Nat, w < 3 ∧ x = nI w := ⟨x.toInt.toNat, by omega, nI_ofT (by omega) (by omega)⟩
    have hxn : x.toInt.toNat = w := by rw [hxw, nI_toInt (by omega)]; exact Int.toNat_natCast w
    refine g_relocal (L' := [(0, .ref (ad 0)), (1, .int (nI w))]) (by rw [hxw]) ?_
    refine g_aload_n fx 0 dX11_signs_12 rfl ?_
    refine g_get (r := 0) fx lkX11_28 (by omega) hx rfl dX11_signs_13 ?_
    refine g_callVip (As := []) (rest := []) fx slX11_169 (c_X5_size B ad ct n 7 30 kD fD (by omega) (by omega) (by omega) hD hDr) (by omega) hD rfl rfl rfl (Nat.le_of_ble_eq_true rfl) ⟨by dsimp only; omega, by dsimp only; omega⟩ ⟨by dsimp only; omega, by dsimp only; omega⟩ dX11_signs_16 (fun q1 hq1 => ?_)
    obtain rfl := hq1
    refine g_aload_n fx 0 dX11_signs_19 rfl ?_
    refine g_get (r := 0) fx lkX11_28 (by omega) hx rfl dX11_signs_20 ?_
    refine g_iconst (v := nI 0) fx dX11_signs_23 (by decide +kernel) ?_
    refine g_callVip (As := [.int (nI 0)]) (rest := [.int (nI kD)]) fx slX11_183 (c_X5_countOf B ad ct n 7 30 kD fD (by omega) (by omega) (by omega) hD hDr (nI 0)) (by omega) hD rfl rfl rfl (Nat.le_of_ble_eq_true rfl) ⟨by dsimp only; omega, by dsimp only; omega⟩ ⟨by dsimp only; omega, by dsimp only; omega⟩ dX11_signs_24 (fun q2 hq2 => ?_)
    have hq2 : q2 = nI (gCnt (fun x => decide (x = 0)) fD kD) := hq2
    obtain rfl := hq2
    have hnk := nz_k (fd := fD) kD
    rw [nz_cg kD hfD] at hnk
    refine g_isub fx dX11_signs_27 ?_
    refine g_isi (y := nI (nzN fd kD)) (by rw [pk_sub (by omega), show kD - gCnt (fun x => decide (x = 0)) fD kD = nzN fd kD by omega]) ?_
    refine g_istore_n (L' := [(2, .int (nI (nzN fd kD))), (0, .ref (ad 0)), (1, .int (nI w))]) fx dX11_signs_28 (by decide) rfl ?_
    refine g_iload_n fx 0 dX11_signs_29 rfl ?_
    refine g_if_ne fx 36 dX11_signs_30 (by decide) (fun c30 => ?_) (fun c30 => ?_)
    · skip
      have hnp : 0 < nzN fd kD := Nat.pos_of_ne_zero (fun q => c30 (by rw [q]; decide))
      refine g_aload_n fx 1 dX11_signs_36 rfl ?_
      refine g_get (r := 0) fx lkX11_51 (by omega) hx rfl dX11_signs_37 ?_
      refine g_iload_n fx 0 dX11_signs_40 rfl ?_
      refine g_callVv (As := [.int (nI (nzN fd kD))]) (rest := []) fx slX11_186 (c_X8_beginSigning B ad ct n nx mk off ah al hso sz1 N1 sz2 N2 s1 t1 s2 t2 h82 h83 h84 h85 h86 h87 hn hL1 hL2 (nzN fd kD) (by omega)) (by omega) hso rfl rfl rfl (Nat.le_of_ble_eq_true rfl) ⟨by dsimp only; omega, by dsimp only; omega⟩ ⟨by dsimp only; omega, by dsimp only; omega⟩ dX11_signs_41 (fun ct1 hz1 => ?_)
      obtain ⟨hso, hS, hs1⟩ := hz1
      have hx : ct1 0 = .inr (11, [.ref (ad 1), .ref (ad 3), .ref (ad 5), .ref (ad 7), .ref (ad 9), .ref (ad 11), .ref (ad 79), .ref (ad 81), .ref (ad 88), .ref (ad 110), .ref (ad 115)]) := (hs1 0 (by decide)).trans hx
      have hD : ct1 7 = .inr (5, [.ref (ad 8), .int (nI kD)]) := (hs1 7 (by decide)).trans hD
      have hDr : ct1 8 = .inl (B.2.1 0, 30, .inl fD) := (hs1 8 (by decide)).trans hDr
      have hr : ct1 88 = .inr (6, [.ref (ad 89), .int th, .int te, .int sta, .int ask]) := (hs1 88 (by decide)).trans hr
      have hrr : ct1 89 = .inl (B.2.1 4, 4, .inr (.inr (.inr (.inr (fun i => some (ad (90 + 5 * i))))))) := (hs1 89 (by decide)).trans hrr
      have hFr : ∀ t, t < 4 → ∃ u l, isFr B ad ct1 (90 + 5 * t) u l := fun t ht => by
        obtain ⟨u, l, h⟩ := hFr t ht
        exact ⟨u, l, h.other (fun r h1 h2 => hs1 r (by omega))⟩
      have hAd : ∀ r, r < 83 ∨ r = 85 ∨ 87 < r → ad r = ad r := fun _ _ => rfl
      have hfr : ∀ r, r < 81 ∨ 87 < r → ct1 r = ct r := hs1
      have hx1 : sgE1 x.toInt.toNat fd kD N1 = (tkN1 (sgA (sgV w fd kD) fd kD) 0 N1 (nzN fd kD)) := by rw [hxn]; rfl
      have hx2 : sgE2 x.toInt.toNat fd kD N2 = (tkN2 (sgA (sgV w fd kD) fd kD) 0 N2 (nzN fd kD)) := by rw [hxn]; rfl
      have hms : sgMs x fd kD N1 N2 = 4 * (sgE1 w fd kD N1 - N1) + 4 * (sgE2 w fd kD N2 - N2) := by unfold sgMs; rw [if_pos ⟨hin, hnp⟩, hxn]
      rw [hxn] at hx1 hx2
      have hVb : ∀ j, j < kD → sgV w fd kD j ≤ 2000 := fun j hj => sgV_bd hj hDk hdb
      have hab : ∀ i, (sgA (sgV w fd kD) fd kD) i ≤ 2000 := sgA_le kD hVb
      refine g_iconst (v := nI 0) fx dX11_signs_44 (by decide +kernel) ?_
      refine g_istore_n (L' := [(3, .int (nI 0)), (2, .int (nI (nzN fd kD))), (0, .ref (ad 0)), (1, .int (nI w))]) fx dX11_signs_45 (by decide) rfl ?_
      refine g_iconst (v := nI 0) fx dX11_signs_46 (by decide +kernel) ?_
      refine g_istore (L' := [(4, .int (nI 0)), (3, .int (nI 0)), (2, .int (nI (nzN fd kD))), (0, .ref (ad 0)), (1, .int (nI w))]) fx dX11_signs_47 (by decide) rfl ?_
      refine g_iconst (v := nI 0) fx dX11_signs_49 (by decide +kernel) ?_
      refine g_istore (L' := [(5, .int (nI 0)), (4, .int (nI 0)), (3, .int (nI 0)), (2, .int (nI (nzN fd kD))), (0, .ref (ad 0)), (1, .int (nI w))]) fx dX11_signs_50 (by decide) rfl ?_
      have LP52 : ∀ (M : Nat) (i a b : Nat) (ad1 : Nat → Nat) (ct1 : Nat → va_E), (i ≤ kD) → (a = (sumF (sgO w fd kD) i)) → (b = (sumF (sgT w fd kD) i)) → (ct1 0 = .inr (11, [.ref (ad1 1), .ref (ad1 3), .ref (ad1 5), .ref (ad1 7), .ref (ad1 9), .ref (ad1 11), .ref (ad1 79), .ref (ad1 81), .ref (ad1 88), .ref (ad1 110), .ref (ad1 115)])) → (ct1 7 = .inr (5, [.ref (ad1 8), .int (nI kD)])) → (ct1 8 = .inl (B.2.1 0, 30, .inl fD)) → (ct1 81 = .inr (8, [.ref (ad1 82), .ref (ad1 85), .int (nI (1 - nzN fd i % 2)), .int (nI 0), .int (nI 0), .long (lN 0), .long (lN (2 ^ nzN fd kD))])) → (SS B ad1 ct1 (sgA (sgV w fd kD) fd kD) (nzN fd i) (tkN1 (sgA (sgV w fd kD) fd kD) 0 N1 (nzN fd i)) (tkN2 (sgA (sgV w fd kD) fd kD) 0 N2 (nzN fd i))) → (ct1 88 = .inr (6, [.ref (ad1 89), .int th, .int te, .int sta, .int ask])) → (ct1 89 = .inl (B.2.1 4, 4, .inr (.inr (.inr (.inr (fun i => some (ad1 (90 + 5 * i)))))))) → (∀ t, t < 4 → ∃ u l, isFr B ad1 ct1 (90 + 5 * t) u l) → (∀ r, r < 83 ∨ r = 85 ∨ 87 < r → ad1 r = ad r) → (∀ r, r < 81 ∨ 87 < r → ct1 r = ct r) →  (kD - i) < M → G B 8 E ad1 ct1 n (2 * i) (4 * ((tkN1 (sgA (sgV w fd kD) fd kD) 0 N1 (nzN fd i)) - N1) + 4 * ((tkN2 (sgA (sgV w fd kD) fd kD) 0 N2 (nzN fd i)) - N2)) [(0, .ref (ad1 0)), (1, .int (nI w)), (2, .int (nI (nzN fd kD))), (3, .int (nI a)), (4, .int (nI b)), (5, .int (nI i))] 52 [] := by
        intro M
        induction M with
        | zero => intro i a b ad1 ct1 _ _ _ _ _ _ _ _ _ _ _ _ _ hM; exact absurd hM (Nat.not_lt_zero _)
        | succ M ih =>
          intro i a b ad1 ct1 hi hst htt hx hD hDr hso hSS hr hrr hFr hAd hfr hM
          have ih52 := ih
          have h1 := tkN1_le (a := (sgA (sgV w fd kD) fd kD)) (m0 := 0) (N := N1) (nzN fd i)
          have h2 := tkN2_le (a := (sgA (sgV w fd kD) fd kD)) (m0 := 0) (N := N2) (nzN fd i)
          have hnl := nz_le (fd := fd) hi
          have h3a := tkN1_up (a := (sgA (sgV w fd kD) fd kD)) (m0 := 0) (N := N1) hnl
          have h4a := tkN2_up (a := (sgA (sgV w fd kD) fd kD)) (m0 := 0) (N := N2) hnl
          refine g_iload fx 5 dX11_signs_52 rfl ?_
          refine g_aload_n fx 0 dX11_signs_54 rfl ?_
          refine g_get (r := 0) fx lkX11_28 (by omega) hx rfl dX11_signs_55 ?_
          refine g_callVip (As := []) (rest := [.int (nI i)]) fx slX11_169 (c_X5_size B ad1 ct1 n 7 30 kD fD (by omega) (by omega) (by omega) hD hDr) (by omega) hD rfl rfl rfl (Nat.le_of_ble_eq_true rfl) ⟨by dsimp only; omega, by dsimp only; omega⟩ ⟨by dsimp only; omega, by dsimp only; omega⟩ dX11_signs_58 (fun q3 hq3 => ?_)
          obtain rfl := hq3
          refine g_icmp_ge fx 128 dX11_signs_61 (by decide) (fun c61 => ?_) (fun c61 => ?_)
          · skip
            have hie : i = kD := by have := (nI_leI (by omega) (by omega)).mp c61; omega
            refine g_aload_n fx 0 dX11_signs_128 rfl ?_
            refine g_get (r := 0) fx lkX11_58 (by omega) hx rfl dX11_signs_129 ?_
            refine g_iconst (v := nI 3) fx dX11_signs_132 (by decide +kernel) ?_
            refine g_iload_n fx 1 dX11_signs_133 rfl ?_
            refine g_iaddN fx dX11_signs_134 ?_
            refine g_iload_n fx 3 dX11_signs_135 rfl ?_
            refine g_iload_n fx 2 dX11_signs_136 rfl ?_
            have hNb := nz_le (fd := fd) (Nat.le_refl kD)
            rw [hie] at hst htt hso hSS
            have haM : sumF (sgA (sgV w fd kD) fd kD) (nzN fd kD) ≤ 60000 := Nat.le_trans (sumF_le _ (fun j _ => hab j)) (show nzN fd kD * 2000 ≤ 60000 by omega)
            have hgb : (bZ (sgV w fd kD) fd kD) = cntS (sgA (sgV w fd kD) fd kD) (nzN fd kD) := funext fun s => by rw [cnt_bN, bN_bZ kD s (fun j hj hz => sgA_at hz hj)]
            have hws : sumF (bZ (sgV w fd kD) fd kD) 60001 = 2 ^ nzN fd kD := by rw [hgb]; exact cnt_sum _ _ (by omega)
            rw [← hws] at hso
            have hoB : (sumF (sgO w fd kD) kD) ≤ 60000 := Nat.le_trans (sumF_le (b := 2000) kD (fun j hj => by unfold sgO; split; (exact hVb j hj); (omega))) (by omega)
            have htB : (sumF (sgT w fd kD) kD) ≤ 60000 := Nat.le_trans (sumF_le (b := 2000) kD (fun j hj => by unfold sgT; split; (omega); (exact hVb j hj))) (by omega)
            have h30 : 2 ^ nzN fd kD ≤ 1073741824 := Nat.pow_le_pow_right (show 0 < 2 by decide) (show nzN fd kD ≤ 30 by omega)
            refine g_callVv (As := [.int (nI (3 + w)), .int (nI a), .int (nI (nzN fd kD))]) (rest := []) fx slX11_139 (c_X6_begin B ad1 ct1 n th te sta ask hn hr hrr (nI (3 + w)) (nI a) (nI (nzN fd kD))) (by omega) hr rfl rfl rfl (Nat.le_of_ble_eq_true rfl) ⟨by dsimp only; omega, by dsimp only; omega⟩ ⟨by dsimp only; omega, by dsimp only; omega⟩ dX11_signs_137 (fun ct4 hz4 => ?_)
            have hs4 : ∀ r, r ≠ 88 → ct4 r = ct1 r := fun r h => by rw [hz4, va_up_ne _ _ h]
            have hr : ct4 88 = .inr (6, [.ref (ad1 89), .int 1, .int (nI (3 + w)), .int (nI a), .int (nI (nzN fd kD))]) := by rw [hz4, va_up_self]
            have hx : ct4 0 = .inr (11, [.ref (ad1 1), .ref (ad1 3), .ref (ad1 5), .ref (ad1 7), .ref (ad1 9), .ref (ad1 11), .ref (ad1 79), .ref (ad1 81), .ref (ad1 88), .ref (ad1 110), .ref (ad1 115)]) := (hs4 0 (by decide)).trans hx
            have hD : ct4 7 = .inr (5, [.ref (ad1 8), .int (nI kD)]) := (hs4 7 (by decide)).trans hD
            have hDr : ct4 8 = .inl (B.2.1 0, 30, .inl fD) := (hs4 8 (by decide)).trans hDr
            have hso : ct4 81 = .inr (8, [.ref (ad1 82), .ref (ad1 85), .int (nI (1 - nzN fd kD % 2)), .int (nI 0), .int (nI 0), .long (lN 0), .long (lN (sumF (bZ (sgV w fd kD) fd kD) 60001))]) := (hs4 81 (by decide)).trans hso
            have hrr : ct4 89 = .inl (B.2.1 4, 4, .inr (.inr (.inr (.inr (fun i => some (ad1 (90 + 5 * i))))))) := (hs4 89 (by decide)).trans hrr
            have hFr : ∀ t, t < 4 → ∃ u l, isFr B ad1 ct4 (90 + 5 * t) u l := fun t ht => by
              obtain ⟨u, l, h⟩ := hFr t ht
              exact ⟨u, l, h.other (fun r h1 h2 => hs4 r (by omega))⟩
            have hSS := hSS.move (ct' := ct4) (fun _ _ _ => rfl) (fun r h1 h2 => hs4 r (by omega))
            refine g_aload_n fx 0 dX11_signs_140 rfl ?_
            refine g_iload_n fx 3 dX11_signs_141 rfl ?_
            refine g_iload fx 4 dX11_signs_142 rfl ?_
            refine g_iconst (v := nI 2) fx dX11_signs_144 (by decide +kernel) ?_
            refine g_callVv (As := [.int (nI a), .int (nI b), .int (nI 2)]) (rest := []) fx slX11_180 (c_X11_judge B ad1 ct4 n hx (nI (1 - nzN fd kD % 2)) (nI 0) (nI 0) 0 (bZ (sgV w fd kD) fd kD) 60001 hso (sgA (sgV w fd kD) fd kD) (nzN fd kD) _ _ hSS hn (by omega) (fun j _ => Nat.le_trans (hab j) (by decide)) 1 (nI (3 + w)) (nI a) (nI (nzN fd kD)) hr hrr hFr (nI a) (nI b) (((sumF (sgO w fd kD) kD) : Nat) : Int) (((sumF (sgT w fd kD) kD) : Nat) : Int) 0 0 2 30000 60000 (by rw [hst]; exact nI_toInt (by omega)) (by rw [htt]; exact nI_toInt (by omega)) (show (nI 0).toInt = (0 : Int) by decide) (by omega) (by omega) (by omega) (by rw [Int.natAbs_natCast]; omega) (by rw [Int.natAbs_natCast]; omega) (by omega) (by omega) (by rw [hws]; exact Nat.pow_pos (by decide)) (by rw [hws]; exact Nat.lt_of_le_of_lt h30 (by decide)) (by rw [hws]; exact Sm.two) (fun v hv => by rw [Int.zero_add, hgb]; exact (sgn_up (S := 60001) (by omega)).trans (Nat.add_zero _).symm) (fun v hv => by rw [Int.zero_add, hgb]; exact sgn_ex (S := 60001) (by omega))) (by omega) hx rfl rfl rfl (Nat.le_of_ble_eq_true rfl) ⟨by dsimp only; omega, by dsimp only; omega⟩ ⟨by dsimp only; omega, by dsimp only; omega⟩ dX11_signs_145 (fun ct5 hz5 => ?_)
            obtain ⟨hfc, hs5⟩ := hz5
            refine g_iload_n fx 3 dX11_signs_148 rfl ?_
            refine g_more (k1 := 60) (s1 := (sgMs x fd kD N1 N2)) (by omega) (by omega) ?_
            refine g_iret fx rt dX11_signs_149 ?_
            refine gPxi.mk (Or.inr (Or.inr ⟨hin, hnp, w, hw, hxw, by rw [hst], hAd, (hs5 81 (by decide)).trans hso, hSS.move (fun _ _ _ => rfl) (fun r h1 h2 => hs5 r (by omega)), (hs5 88 (by decide)).trans hr, hfc, fun r h => ?_⟩))
            by_cases q : r = 89
            · subst q; rw [hs5 89 (by decide), hs4 89 (by decide)]; exact hfr 89 (by decide)
            · rw [hs5 r (by omega), hs4 r (by omega)]; exact hfr r (by omega)
          · skip
            have hil : i < kD := (nI_ltI (by omega) (by omega)).mp (Int32.not_le.mp c61)
            refine g_aload_n fx 0 dX11_signs_64 rfl ?_
            refine g_get (r := 0) fx lkX11_28 (by omega) hx rfl dX11_signs_65 ?_
            refine g_iload fx 5 dX11_signs_68 rfl ?_
            refine g_callVip (As := [.int (nI i)]) (rest := []) fx slX11_189 (c_X5_get B ad1 ct1 n 7 30 kD fD (by omega) (by omega) (by omega) hD hDr (nI i)) (by omega) hD rfl rfl rfl (Nat.le_of_ble_eq_true rfl) ⟨by dsimp only; omega, by dsimp only; omega⟩ ⟨by dsimp only; omega, by dsimp only; omega⟩ dX11_signs_70 (fun q4 hq4 => ?_)
            rw [if_pos (inR hil (by omega)), nI_toInt (by omega), Int.toNat_natCast, hfD i hil] at hq4
            have hdi := hdb i (by omega)
            refine g_istore (L' := [(6, .int q4), (0, .ref (ad1 0)), (1, .int (nI w)), (2, .int (nI (nzN fd kD))), (3, .int (nI a)), (4, .int (nI b)), (5, .int (nI i))]) fx dX11_signs_73 (by decide) rfl ?_
            refine g_iload fx 0 dX11_signs_75 rfl ?_
            refine g_if_eq fx 122 dX11_signs_77 (by decide) (fun c77 => ?_) (fun c77 => ?_)
            · skip
              have hfz : fd i = 0 := hq4 ▸ c77
              have hnz := nz_f (fd := fd) hfz
              refine g_iinc (L' := [(5, .int (nI (i + 1))), (6, .int q4), (0, .ref (ad1 0)), (1, .int (nI w)), (2, .int (nI (nzN fd kD))), (3, .int (nI a)), (4, .int (nI b))]) fx (nI (i + 1)) 6 dX11_signs_122 rfl (gInc _) (by decide) rfl ?_
              refine g_goto fx 52 dX11_signs_125 (by decide) ?_
              refine g_locals (L' := [(0, .ref (ad1 0)), (1, .int (nI w)), (2, .int (nI (nzN fd kD))), (3, .int (nI a)), (4, .int (nI b)), (5, .int (nI (i + 1)))]) [2, 3, 4, 5, 6, 0] rfl ?_
              refine g_more (k1 := 2 * (i + 1)) (s1 := 4 * ((tkN1 (sgA (sgV w fd kD) fd kD) 0 N1 (nzN fd (i + 1))) - N1) + 4 * ((tkN2 (sgA (sgV w fd kD) fd kD) 0 N2 (nzN fd (i + 1))) - N2)) (by omega) (by rw [hnz]; omega) ?_
              skip
              exact ih52 (i + 1) a b ad1 ct1 (by omega) (by show _ = sumF (sgO w fd kD) i + (if 0 < fd i then sgV w fd kD i else 0); rw [hfz, if_neg (by decide)]; exact hst) (by show _ = sumF (sgT w fd kD) i + (if fd i = 0 then 0 else sgV w fd kD i); rw [if_pos hfz]; exact htt) hx hD hDr (by rw [hnz]; exact hso) (by rw [hnz]; exact hSS) hr hrr hFr hAd hfr (by omega)
            · skip
              have hfz : ¬ fd i = 0 := fun e => c77 (hq4.trans e)
              have hnz := nz_t (fd := fd) hfz
              have hlt := nz_lt (fd := fd) hil hfz
              have h3 := tkN1_up (a := (sgA (sgV w fd kD) fd kD)) (m0 := 0) (N := N1) (show (nzN fd i) + 1 ≤ nzN fd kD by omega)
              have h4 := tkN2_up (a := (sgA (sgV w fd kD) fd kD)) (m0 := 0) (N := N2) (show (nzN fd i) + 1 ≤ nzN fd kD by omega)
              have e1 : tk1 (sgA (sgV w fd kD) fd kD) (0 + (nzN fd i)) (tkN1 (sgA (sgV w fd kD) fd kD) 0 N1 (nzN fd i)) = (tkN1 (sgA (sgV w fd kD) fd kD) 0 N1 ((nzN fd i) + 1)) := rfl
              have e2 : tk2 (sgA (sgV w fd kD) fd kD) (0 + (nzN fd i)) (tkN2 (sgA (sgV w fd kD) fd kD) 0 N2 (nzN fd i)) = (tkN2 (sgA (sgV w fd kD) fd kD) 0 N2 ((nzN fd i) + 1)) := rfl
              rw [Nat.zero_add] at e1 e2
              have e3 : (tkN1 (sgA (sgV w fd kD) fd kD) 0 N1 (nzN fd i)) ≤ (tkN1 (sgA (sgV w fd kD) fd kD) 0 N1 ((nzN fd i) + 1)) := tk1_le
              have e4 : (tkN2 (sgA (sgV w fd kD) fd kD) 0 N2 (nzN fd i)) ≤ (tkN2 (sgA (sgV w fd kD) fd kD) 0 N2 ((nzN fd i) + 1)) := tk2_le
              have hnat : 0 < (fd i).toInt.natAbs := Nat.pos_of_ne_zero (fun e => hfz (Int32.toInt_inj.mp (by rw [Int.natAbs_eq_zero.mp e]; rfl)))
              refine g_aload_n fx 1 dX11_signs_80 rfl ?_
              refine g_iload fx 0 dX11_signs_81 rfl ?_
              refine g_callSip (As := [.int q4]) (rest := [.ref (ad1 0)]) fx slX11_192 (c_J9_abs_0f7a4 B ad1 ct1 n q4) rfl rfl (Nat.le_of_ble_eq_true rfl) ⟨by dsimp only; omega, by dsimp only; omega⟩ ⟨by dsimp only; omega, by dsimp only; omega⟩ dX11_signs_83 (fun q5 hq5 => ?_)
              have hq5 : q5 = nI (fd i).toInt.natAbs := by rw [hq5, hq4]; exact absI_nI hdi
              refine g_isi (y := nI (fd i).toInt.natAbs) hq5 ?_
              refine g_iload_n fx 2 dX11_signs_86 rfl ?_
              refine g_callVip (As := [.int (nI ((fd i).toInt.natAbs)), .int (nI w)]) (rest := []) fx slX11_197 (c_X11_scoreOfSize B ad1 ct1 n hn hx kD fD hD hDr hDk (fd i).toInt.natAbs w hdi hnat hw (fun j hj => by rw [hfD j hj]; exact hdb j (by omega))) (by omega) hx rfl rfl rfl (Nat.le_of_ble_eq_true rfl) ⟨by dsimp only; omega, by dsimp only; omega⟩ ⟨by dsimp only; omega, by dsimp only; omega⟩ dX11_signs_87 (fun q6 hq6 => ?_)
              have hq6 : q6 = nI (sgV w fd kD i) := by rw [hq6, rkZ_cg hfD, ← absI_nI hdi]; rfl
              refine g_isi (y := nI (sgV w fd kD i)) hq6 ?_
              refine g_istore (L' := [(7, .int (nI (sgV w fd kD i))), (6, .int q4), (0, .ref (ad1 0)), (1, .int (nI w)), (2, .int (nI (nzN fd kD))), (3, .int (nI a)), (4, .int (nI b)), (5, .int (nI i))]) fx dX11_signs_90 (by decide) rfl ?_
              refine g_aload_n fx 2 dX11_signs_92 rfl ?_
              refine g_get (r := 0) fx lkX11_51 (by omega) hx rfl dX11_signs_93 ?_
              refine g_iload fx 0 dX11_signs_96 rfl ?_
              refine g_callVx (As := [.int (nI (sgV w fd kD i))]) (rest := []) fx slX11_200 (c_X8_take B ad1 ct1 n (nI 0) (nI 0) (lN 0) (lN (2 ^ nzN fd kD)) (sgA (sgV w fd kD) fd kD) (nzN fd i) (tkN1 (sgA (sgV w fd kD) fd kD) 0 N1 (nzN fd i)) (tkN2 (sgA (sgV w fd kD) fd kD) 0 N2 (nzN fd i)) (sgV w fd kD i) (nI (sgV w fd kD i)) hso hSS hn (by omega) (by rw [nI_add, Nat.add_zero]) (sgV_pos hfz) (sgA_at hfz hil) (fun j _ => Nat.le_trans (hab j) (by decide))) (by omega) hso rfl rfl rfl (Nat.le_of_ble_eq_true rfl) ⟨by dsimp only; omega, by dsimp only; omega⟩ ⟨by dsimp only; omega, by dsimp only; omega⟩ dX11_signs_98 (fun ad2 ct2 hz => ?_)
              obtain ⟨hAd2, hso, hSS, hfr2⟩ := hz
              rw [e1, e2] at hSS
              have hx : ct2 0 = .inr (11, [.ref (ad2 1), .ref (ad2 3), .ref (ad2 5), .ref (ad2 7), .ref (ad2 9), .ref (ad2 11), .ref (ad2 79), .ref (ad2 81), .ref (ad2 88), .ref (ad2 110), .ref (ad2 115)]) := (hfr2 0 (by decide)).trans (hx.trans (by rw [hAd2 1 (by decide), hAd2 3 (by decide), hAd2 5 (by decide), hAd2 7 (by decide), hAd2 9 (by decide), hAd2 11 (by decide), hAd2 79 (by decide), hAd2 81 (by decide), hAd2 88 (by decide), hAd2 110 (by decide), hAd2 115 (by decide)]))
              have hD : ct2 7 = .inr (5, [.ref (ad2 8), .int (nI kD)]) := (hfr2 7 (by decide)).trans (hD.trans (by rw [hAd2 8 (by decide)]))
              have hDr : ct2 8 = .inl (B.2.1 0, 30, .inl fD) := (hfr2 8 (by decide)).trans hDr
              have hr : ct2 88 = .inr (6, [.ref (ad2 89), .int th, .int te, .int sta, .int ask]) := by rw [hfr2 88 (by omega), hAd2 89 (by omega)]; exact hr
              have hrr : ct2 89 = .inl (B.2.1 4, 4, .inr (.inr (.inr (.inr (fun i => some (ad2 (90 + 5 * i))))))) := (hfr2 89 (by omega)).trans (hrr.trans (by rw [show (fun i => some (ad2 (90 + 5 * i))) = (fun i => some (ad1 (90 + 5 * i))) from funext fun i => by rw [hAd2 (90 + 5 * i) (by omega)]]))
              have hFr : ∀ t, t < 4 → ∃ u l, isFr B ad2 ct2 (90 + 5 * t) u l := fun t ht => by
                obtain ⟨u, l, h⟩ := hFr t ht
                exact ⟨u, l, h.move (fun r h1 h2 => hAd2 r (by omega)) (fun r h1 h2 => hfr2 r (by omega))⟩
              have hAd : ∀ r, r < 83 ∨ r = 85 ∨ 87 < r → ad2 r = ad r := fun r h => (hAd2 r h).trans (hAd r h)
              have hfr : ∀ r, r < 81 ∨ 87 < r → ct2 r = ct r := fun r h => (hfr2 r h).trans (hfr r h)
              refine g_same (L' := [(7, .int (nI (sgV w fd kD i))), (6, .int q4), (0, .ref (ad2 0)), (1, .int (nI w)), (2, .int (nI (nzN fd kD))), (3, .int (nI a)), (4, .int (nI b)), (5, .int (nI i))]) (st' := []) (by rw [hAd2 0 (by decide)]) rfl ?_
              refine g_iload fx 6 dX11_signs_101 rfl ?_
              refine g_iload fx 0 dX11_signs_103 rfl ?_
              refine g_iaddN fx dX11_signs_105 ?_
              refine g_istore (L' := [(4, .int (nI (b + (sgV w fd kD i)))), (7, .int (nI (sgV w fd kD i))), (6, .int q4), (0, .ref (ad2 0)), (1, .int (nI w)), (2, .int (nI (nzN fd kD))), (3, .int (nI a)), (5, .int (nI i))]) fx dX11_signs_106 (by decide) rfl ?_
              refine g_iload_n fx 6 dX11_signs_108 rfl ?_
              refine g_iload fx 2 dX11_signs_109 rfl ?_
              refine g_if_le fx 119 dX11_signs_111 (by decide) (fun c111 => ?_) (fun c111 => ?_)
              · skip
                have hpos : ¬ 0 < fd i := fun h => by rw [← hq4] at h; exact Int32.not_lt.mpr c111 h
                refine g_iconst (v := nI 0) fx dX11_signs_119 (by decide +kernel) ?_
                refine g_iaddN fx dX11_signs_120 ?_
                refine g_istore_n (L' := [(3, .int (nI (a + 0))), (4, .int (nI (b + (sgV w fd kD i)))), (7, .int (nI (sgV w fd kD i))), (6, .int q4), (0, .ref (ad2 0)), (1, .int (nI w)), (2, .int (nI (nzN fd kD))), (5, .int (nI i))]) fx dX11_signs_121 (by decide) rfl ?_
                refine g_iinc (L' := [(5, .int (nI (i + 1))), (3, .int (nI (a + 0))), (4, .int (nI (b + (sgV w fd kD i)))), (7, .int (nI (sgV w fd kD i))), (6, .int q4), (0, .ref (ad2 0)), (1, .int (nI w)), (2, .int (nI (nzN fd kD)))]) fx (nI (i + 1)) 7 dX11_signs_122 rfl (gInc _) (by decide) rfl ?_
                refine g_goto fx 52 dX11_signs_125 (by decide) ?_
                refine g_locals (L' := [(0, .ref (ad2 0)), (1, .int (nI w)), (2, .int (nI (nzN fd kD))), (3, .int (nI (a + 0))), (4, .int (nI (b + (sgV w fd kD i)))), (5, .int (nI (i + 1)))]) [5, 6, 7, 1, 2, 0] rfl ?_
                refine g_more (k1 := 2 * (i + 1)) (s1 := 4 * ((tkN1 (sgA (sgV w fd kD) fd kD) 0 N1 (nzN fd (i + 1))) - N1) + 4 * ((tkN2 (sgA (sgV w fd kD) fd kD) 0 N2 (nzN fd (i + 1))) - N2)) (by omega) (by rw [hnz]; omega) ?_
                exact ih52 (i + 1) (a + 0) (b + sgV w fd kD i) ad2 ct2 (by omega) (by show _ = sumF (sgO w fd kD) i + (if 0 < fd i then sgV w fd kD i else 0); rw [if_neg hpos, hst]) (by show _ = sumF (sgT w fd kD) i + (if fd i = 0 then 0 else sgV w fd kD i); rw [if_neg hfz, htt]) hx hD hDr (by rw [hnz]; exact hso) (by rw [hnz]; exact hSS) hr hrr hFr hAd hfr (by omega)
              · skip
                have hpos : 0 < fd i := by rw [← hq4]; exact Int32.not_le.mp c111
                refine g_iload fx 1 dX11_signs_114 rfl ?_
                refine g_goto fx 120 dX11_signs_116 (by decide) ?_
                refine g_iaddN fx dX11_signs_120 ?_
                refine g_istore_n (L' := [(3, .int (nI (a + (sgV w fd kD i)))), (4, .int (nI (b + (sgV w fd kD i)))), (7, .int (nI (sgV w fd kD i))), (6, .int q4), (0, .ref (ad2 0)), (1, .int (nI w)), (2, .int (nI (nzN fd kD))), (5, .int (nI i))]) fx dX11_signs_121 (by decide) rfl ?_
                refine g_iinc (L' := [(5, .int (nI (i + 1))), (3, .int (nI (a + (sgV w fd kD i)))), (4, .int (nI (b + (sgV w fd kD i)))), (7, .int (nI (sgV w fd kD i))), (6, .int q4), (0, .ref (ad2 0)), (1, .int (nI w)), (2, .int (nI (nzN fd kD)))]) fx (nI (i + 1)) 7 dX11_signs_122 rfl (gInc _) (by decide) rfl ?_
                refine g_goto fx 52 dX11_signs_125 (by decide) ?_
                refine g_locals (L' := [(0, .ref (ad2 0)), (1, .int (nI w)), (2, .int (nI (nzN fd kD))), (3, .int (nI (a + (sgV w fd kD i)))), (4, .int (nI (b + (sgV w fd kD i)))), (5, .int (nI (i + 1)))]) [5, 6, 7, 1, 2, 0] rfl ?_
                refine g_more (k1 := 2 * (i + 1)) (s1 := 4 * ((tkN1 (sgA (sgV w fd kD) fd kD) 0 N1 (nzN fd (i + 1))) - N1) + 4 * ((tkN2 (sgA (sgV w fd kD) fd kD) 0 N2 (nzN fd (i + 1))) - N2)) (by omega) (by rw [hnz]; omega) ?_
                exact ih52 (i + 1) (a + sgV w fd kD i) (b + sgV w fd kD i) ad2 ct2 (by omega) (by show _ = sumF (sgO w fd kD) i + (if 0 < fd i then sgV w fd kD i else 0); rw [if_pos hpos, hst]) (by show _ = sumF (sgT w fd kD) i + (if fd i = 0 then 0 else sgV w fd kD i); rw [if_neg hfz, htt]) hx hD hDr (by rw [hnz]; exact hso) (by rw [hnz]; exact hSS) hr hrr hFr hAd hfr (by omega)
      refine g_locals (L' := [(0, .ref (ad 0)), (1, .int (nI w)), (2, .int (nI (nzN fd kD))), (3, .int (nI 0)), (4, .int (nI 0)), (5, .int (nI 0))]) [4, 5, 3, 2, 1, 0] rfl ?_
      refine g_more (k1 := 2 * 0) (s1 := 4 * ((tkN1 (sgA (sgV w fd kD) fd kD) 0 N1 (nzN fd 0)) - N1) + 4 * ((tkN2 (sgA (sgV w fd kD) fd kD) 0 N2 (nzN fd 0)) - N2)) (by omega) (Nat.zero_le _) ?_
      exact LP52 (kD + 1) 0 0 0 ad ct1 (by omega) rfl rfl hx hD hDr hso (hS _) hr hrr hFr hAd hfr (by omega)
    · skip
      have hz : nzN fd kD = 0 := (nI_eq (b := 0) (by omega) (by omega)).mp c30
      refine g_ldc fx kcX11_172 dX11_signs_33 ?_
      refine g_more (k1 := 60) (s1 := (sgMs x fd kD N1 N2)) (by omega) (by omega) ?_
      refine g_iret fx rt dX11_signs_35 ?_
      exact gPxi.mk (Or.inr (Or.inl ⟨hin, hz, rfl, rfl, rfl⟩))
  · skip
    have hno := if01_z.mp (hq0 ▸ c6)
    refine g_ldc fx kcX11_168 dX11_signs_9 ?_
    refine g_more (k1 := 60) (s1 := (sgMs x fd kD N1 N2)) (by omega) (by omega) ?_
    refine g_iret fx rt dX11_signs_11 ?_
    exact gPxi.mk (Or.inl ⟨hno, rfl, rfl, rfl⟩)
