def tbN (T tot sd NL : Nat) : Nat := if 0 < T ∧ tot ≤ 20000 then rnL NL (sd * tot) else NL
theorem rnL_le {a b : Nat} : a ≤ rnL a b ∧ b ≤ rnL a b := by
  unfold rnL
  by_cases q : b ≤ a
  · rw [if_pos q]; omega
  · rw [if_neg q]
    exact ⟨Nat.le_trans (by omega) (Nat.le_max_right b (2 * a)), Nat.le_max_left _ _⟩
theorem rnL_bd {a b : Nat} (ha : a ≤ 120000) (hb : b ≤ 60000) : rnL a b ≤ 120000 := by
  unfold rnL
  by_cases q : b ≤ a
  · rw [if_pos q]; exact ha
  · rw [if_neg q]; exact Nat.max_le.mpr ⟨by omega, by omega⟩
theorem aP_Sm {rs : Nat → Nat} {T R : Nat} (hT : T ≤ 60) (h : sumF rs R = T) : 0 < aP rs T R ∧ Sm (aP rs T R) := by
  have h1 := aP_fac (rs := rs) (T := T) R (by omega)
  refine ⟨Nat.pos_of_ne_zero (fun e => ?_), (Sm.fac hT).dvd ⟨_, h1.symm⟩⟩
  rw [e, Nat.zero_mul] at h1
  have := fac_pos T
  omega
set_option maxHeartbeats 4000000 in
set_option maxRecDepth 100000 in
theorem c_X11_tables (B : gB) (ad : Nat → Nat) (ct : Nat → va_E) (n : Nat) (hx : ct 0 = .inr (11, [.ref (ad 1), .ref (ad 3), .ref (ad 5), .ref (ad 7), .ref (ad 9), .ref (ad 11), .ref (ad 79), .ref (ad 81), .ref (ad 88), .ref (ad 110), .ref (ad 115)])) (gk : Nat → Nat) (R C : Nat) (hn : 178 ≤ n) (hg : ct 1 = .inr (3, [.ref (ad 2), .int (nI R), .int (nI C)])) (hgc : ct 2 = .inl (B.2.1 0, 25, .inl (nF gk))) (hR5 : R ≤ 5) (hC5 : C ≤ 5) (hRp : 0 < R) (hCp : 0 < C) (hgb : ∀ j, j < 25 → gk j ≤ 60) (hs : sumF (fun r => sumF (fun k => gk (5 * r + k)) C) R = sumF (fun c => sumF (fun k => gk (5 * k + c)) R) C) (hT : sumF (fun c => sumF (fun k => gk (5 * k + c)) R) C ≤ 60) (hT2 : sumF gk 25 = sumF (fun c => sumF (fun k => gk (5 * k + c)) R) C) (rs0 cl0 v0 gt : Nat → Nat) (R0 C0 co0 F : Nat) (cz : Value) (hw : ct 11 = .inr (9, [.ref (ad 12), .ref (ad 13), .ref (ad 14), .ref (ad 15), .ref (ad 16), .int (nI R0), .int (nI C0), .int (nI co0), .int (nI F), cz, .ref (ad 17), .ref (ad 19), .ref (ad 21), .ref (ad 23), .ref (ad 25)])) (ht : ct 12 = .inl (B.2.1 1, 1891, .inr (.inl (lF gt)))) (htri : (∀ a b, a ≤ 60 → b ≤ a → gt (a * (a + 1) / 2 + b) = ch a b)) (hrs : ct 13 = .inl (B.2.1 0, 5, .inl (nF rs0))) (hcl : ct 14 = .inl (B.2.1 0, 5, .inl (nF cl0))) (hv : ct 15 = .inl (B.2.1 0, 25, .inl (nF v0))) (hwr : ct 16 = .inl (B.2.1 3, 26, .inr (.inr (.inr (.inr (fun i => some (ad (27 + 2 * i)))))))) (hWs : ∀ i, i < 31 → ∃ x, isW B ad ct (17 + 2 * i) x) (R1 C1 sd1 cn1 NL : Nat) (g : Nat → Nat) (hk : ct 79 = .inr (0, [.ref (ad 80), .int (nI R1), .int (nI C1), .int (nI sd1), .int (nI cn1)])) (hkr : ct 80 = .inl (B.2.1 1, NL, .inr (.inl (lF g)))) (hNL : NL ≤ 120000) (th te sta ask : Int32) (hr : ct 88 = .inr (6, [.ref (ad 89), .int th, .int te, .int sta, .int ask])) (hrr : ct 89 = .inl (B.2.1 4, 4, .inr (.inr (.inr (.inr (fun i => some (ad (90 + 5 * i)))))))) (hFr : ∀ t, t < 4 → ∃ u l, isFr B ad ct (90 + 5 * t) u l) : Ctr B yX11_tables cX11_tables 2 (some .int) 46 1117 1 (2 * ((tbN (sumF gk 25) (tTot R C (fun r => sumF (fun k => gk (5 * r + k)) C) (fun c => sumF (fun k => gk (5 * k + c)) R)) ((R * C + 9) / 10) NL) - NL)) ad ct n [.ref (ad 0)] (gPxi n (fun q ad' ct' => ((sumF gk 25) = 0 ∧ q = -5 ∧ ad' = ad ∧ ct' = ct) ∨ (0 < (sumF gk 25) ∧ 20000 < (tTot R C (fun r => sumF (fun k => gk (5 * r + k)) C) (fun c => sumF (fun k => gk (5 * k + c)) R)) ∧ q = -7 ∧ ad' = ad ∧ ∃ F' rs cl, ct' 11 = .inr (9, [.ref (ad' 12), .ref (ad' 13), .ref (ad' 14), .ref (ad' 15), .ref (ad' 16), .int (nI R), .int (nI C), .int (nI (gk 0)), .int (nI F'), cz, .ref (ad' 17), .ref (ad' 19), .ref (ad' 21), .ref (ad' 23), .ref (ad' 25)]) ∧ ct' 13 = .inl (B.2.1 0, 5, .inl (nF rs)) ∧ ct' 14 = .inl (B.2.1 0, 5, .inl (nF cl)) ∧ ∀ r, r ≠ 11 → r ≠ 13 → r ≠ 14 → ct' r = ct r) ∨ (0 < (sumF gk 25) ∧ (tTot R C (fun r => sumF (fun k => gk (5 * r + k)) C) (fun c => sumF (fun k => gk (5 * k + c)) R)) ≤ 20000 ∧ q = nI (tTot R C (fun r => sumF (fun k => gk (5 * r + k)) C) (fun c => sumF (fun k => gk (5 * k + c)) R)) ∧ (∀ r, r ≠ 80 → ad' r = ad r) ∧ ∃ F' rs cl v' g' vs wv, ct' 11 = .inr (9, [.ref (ad' 12), .ref (ad' 13), .ref (ad' 14), .ref (ad' 15), .ref (ad' 16), .int (nI R), .int (nI C), .int (nI (gk 0)), .int (nI F'), .ref (ad' 79), .ref (ad' 17), .ref (ad' 19), .ref (ad' 21), .ref (ad' 23), .ref (ad' 25)]) ∧ ct' 13 = .inl (B.2.1 0, 5, .inl (nF rs)) ∧ ct' 14 = .inl (B.2.1 0, 5, .inl (nF cl)) ∧ ct' 15 = .inl (B.2.1 0, 25, .inl (nF v')) ∧ (∀ i, i < R → rs i = sumF (fun k => gk (5 * i + k)) C) ∧ isW B ad' ct' 17 (aP (fun r => sumF (fun k => gk (5 * r + k)) C) (sumF gk 25) R) ∧ FS B ad' ct' (fun c => sumF (fun k => gk (5 * k + c)) R) rs C R (Wc (fun c => sumF (fun k => gk (5 * k + c)) R) C (C * R) (gv gk C)) (gk 0) ((R * C + 9) / 10) (tTot R C (fun r => sumF (fun k => gk (5 * r + k)) C) (fun c => sumF (fun k => gk (5 * k + c)) R)) (tbN (sumF gk 25) (tTot R C (fun r => sumF (fun k => gk (5 * r + k)) C) (fun c => sumF (fun k => gk (5 * k + c)) R)) ((R * C + 9) / 10) NL) g' vs wv ∧ sTot (fun c => sumF (fun k => gk (5 * k + c)) R) C (C * R) vs (tTot R C (fun r => sumF (fun k => gk (5 * r + k)) C) (fun c => sumF (fun k => gk (5 * k + c)) R)) = (aP (fun r => sumF (fun k => gk (5 * r + k)) C) (sumF gk 25) R) ∧ ct' 88 = .inr (6, [.ref (ad' 89), .int 1, .int (nI 0), .int (nI (gk 0)), .int (nI (sumF gk 25))]) ∧ isFr B ad' ct' 90 ((sFar (fun c => sumF (fun k => gk (5 * k + c)) R) C (C * R) (Wc (fun c => sumF (fun k => gk (5 * k + c)) R) C (C * R) (gv gk C)) vs (tTot R C (fun r => sumF (fun k => gk (5 * r + k)) C) (fun c => sumF (fun k => gk (5 * k + c)) R))) / Nat.gcd (sFar (fun c => sumF (fun k => gk (5 * k + c)) R) C (C * R) (Wc (fun c => sumF (fun k => gk (5 * k + c)) R) C (C * R) (gv gk C)) vs (tTot R C (fun r => sumF (fun k => gk (5 * r + k)) C) (fun c => sumF (fun k => gk (5 * k + c)) R))) (aP (fun r => sumF (fun k => gk (5 * r + k)) C) (sumF gk 25) R)) ((aP (fun r => sumF (fun k => gk (5 * r + k)) C) (sumF gk 25) R) / Nat.gcd (sFar (fun c => sumF (fun k => gk (5 * k + c)) R) C (C * R) (Wc (fun c => sumF (fun k => gk (5 * k + c)) R) C (C * R) (gv gk C)) vs (tTot R C (fun r => sumF (fun k => gk (5 * r + k)) C) (fun c => sumF (fun k => gk (5 * k + c)) R))) (aP (fun r => sumF (fun k => gk (5 * r + k)) C) (sumF gk 25) R)) ∧ isFr B ad' ct' 95 ((sLow (fun c => sumF (fun k => gk (5 * k + c)) R) C (C * R) (gk 0) vs (tTot R C (fun r => sumF (fun k => gk (5 * r + k)) C) (fun c => sumF (fun k => gk (5 * k + c)) R))) / Nat.gcd (sLow (fun c => sumF (fun k => gk (5 * k + c)) R) C (C * R) (gk 0) vs (tTot R C (fun r => sumF (fun k => gk (5 * r + k)) C) (fun c => sumF (fun k => gk (5 * k + c)) R))) (aP (fun r => sumF (fun k => gk (5 * r + k)) C) (sumF gk 25) R)) ((aP (fun r => sumF (fun k => gk (5 * r + k)) C) (sumF gk 25) R) / Nat.gcd (sLow (fun c => sumF (fun k => gk (5 * k + c)) R) C (C * R) (gk 0) vs (tTot R C (fun r => sumF (fun k => gk (5 * r + k)) C) (fun c => sumF (fun k => gk (5 * k + c)) R))) (aP (fun r => sumF (fun k => gk (5 * r + k)) C) (sumF gk 25) R)) ∧ isFr B ad' ct' 100 ((sHigh (fun c => sumF (fun k => gk (5 * k + c)) R) C (C * R) (gk 0) vs (tTot R C (fun r => sumF (fun k => gk (5 * r + k)) C) (fun c => sumF (fun k => gk (5 * k + c)) R))) / Nat.gcd (sHigh (fun c => sumF (fun k => gk (5 * k + c)) R) C (C * R) (gk 0) vs (tTot R C (fun r => sumF (fun k => gk (5 * r + k)) C) (fun c => sumF (fun k => gk (5 * k + c)) R))) (aP (fun r => sumF (fun k => gk (5 * r + k)) C) (sumF gk 25) R)) ((aP (fun r => sumF (fun k => gk (5 * r + k)) C) (sumF gk 25) R) / Nat.gcd (sHigh (fun c => sumF (fun k => gk (5 * k + c)) R) C (C * R) (gk 0) vs (tTot R C (fun r => sumF (fun k => gk (5 * r + k)) C) (fun c => sumF (fun k => gk (5 * k + c)) R))) (aP (fun r => sumF (fun k => gk (5 * r + k)) C) (sumF gk 25) R)) ∧ isFr B ad' ct' 105 ((Wc (fun c => sumF (fun k => gk (5 * k + c)) R) C (C * R) (gv gk C)) / Nat.gcd (Wc (fun c => sumF (fun k => gk (5 * k + c)) R) C (C * R) (gv gk C)) (aP (fun r => sumF (fun k => gk (5 * r + k)) C) (sumF gk 25) R)) ((aP (fun r => sumF (fun k => gk (5 * r + k)) C) (sumF gk 25) R) / Nat.gcd (Wc (fun c => sumF (fun k => gk (5 * k + c)) R) C (C * R) (gv gk C)) (aP (fun r => sumF (fun k => gk (5 * r + k)) C) (sumF gk 25) R)) ∧ ∀ r, r < 11 ∨ r = 12 ∨ r = 16 ∨ (80 < r ∧ r < 88) ∨ r = 89 ∨ 109 < r → ct' r = ct r))) := by
  have hRC : R * C ≤ 25 := Nat.mul_le_mul hR5 hC5
  refine Ctr.ofG (L := [(0, .ref (ad 0))]) (by decide +kernel) rfl (Nat.le_of_ble_eq_true rfl) (fun E fx rt hnm => ?_)
  refine g_aload_n fx 0 dX11_tables_0 rfl ?_
  refine g_get (r := 0) fx lkX11_10 (by omega) hx rfl dX11_tables_1 ?_
  refine g_callVip (As := []) (rest := []) fx slX11_97 (c_X3_inAll B ad ct n gk R C hn hg hgc hR5 hC5) (by omega) hg rfl rfl rfl (Nat.le_of_ble_eq_true rfl) ⟨by dsimp only; omega, by dsimp only; omega⟩ ⟨by dsimp only; omega, by dsimp only; omega⟩ dX11_tables_4 (fun q1 hq1 => ?_)
  obtain rfl := hq1
  refine g_if_ne fx 13 dX11_tables_7 (by decide) (fun c7 => ?_) (fun c7 => ?_)
  · skip
    have hTp : 0 < (sumF gk 25) := Nat.pos_of_ne_zero (fun q => c7 (by rw [q]; decide))
    refine g_aload_n fx 0 dX11_tables_13 rfl ?_
    refine g_get (r := 0) fx lkX11_37 (by omega) hx rfl dX11_tables_14 ?_
    refine g_aload_n fx 0 dX11_tables_17 rfl ?_
    refine g_get (r := 0) fx lkX11_10 (by omega) hx rfl dX11_tables_18 ?_
    refine g_callVi (As := [.ref (ad 1)]) (rest := []) fx slX11_123 (c_X9_countCases B ad ct n gk R C hn hg hgc hR5 hC5 hRp hCp hgb hs hT rs0 cl0 R0 C0 co0 F cz hw hrs hcl) (by omega) hw rfl rfl rfl (Nat.le_of_ble_eq_true rfl) ⟨by dsimp only; omega, by dsimp only; omega⟩ ⟨by dsimp only; omega, by dsimp only; omega⟩ dX11_tables_21 (fun q2 ct2 hq2 => ?_)
    obtain ⟨F2, rs1, cl1, hq2, hF1, hF2, hF3, hw, hrs, hcl, hs2⟩ := hq2
    obtain rfl := hq2
    have hx : ct2 0 = .inr (11, [.ref (ad 1), .ref (ad 3), .ref (ad 5), .ref (ad 7), .ref (ad 9), .ref (ad 11), .ref (ad 79), .ref (ad 81), .ref (ad 88), .ref (ad 110), .ref (ad 115)]) := (hs2 0 (by decide) (by decide) (by decide)).trans hx
    have hg : ct2 1 = .inr (3, [.ref (ad 2), .int (nI R), .int (nI C)]) := (hs2 1 (by decide) (by decide) (by decide)).trans hg
    have hgc : ct2 2 = .inl (B.2.1 0, 25, .inl (nF gk)) := (hs2 2 (by decide) (by decide) (by decide)).trans hgc
    have ht : ct2 12 = .inl (B.2.1 1, 1891, .inr (.inl (lF gt))) := (hs2 12 (by decide) (by decide) (by decide)).trans ht
    have hv : ct2 15 = .inl (B.2.1 0, 25, .inl (nF v0)) := (hs2 15 (by decide) (by decide) (by decide)).trans hv
    have hwr : ct2 16 = .inl (B.2.1 3, 26, .inr (.inr (.inr (.inr (fun i => some (ad (27 + 2 * i))))))) := (hs2 16 (by decide) (by decide) (by decide)).trans hwr
    have hk : ct2 79 = .inr (0, [.ref (ad 80), .int (nI R1), .int (nI C1), .int (nI sd1), .int (nI cn1)]) := (hs2 79 (by decide) (by decide) (by decide)).trans hk
    have hkr : ct2 80 = .inl (B.2.1 1, NL, .inr (.inl (lF g))) := (hs2 80 (by decide) (by decide) (by decide)).trans hkr
    have hr : ct2 88 = .inr (6, [.ref (ad 89), .int th, .int te, .int sta, .int ask]) := (hs2 88 (by decide) (by decide) (by decide)).trans hr
    have hrr : ct2 89 = .inl (B.2.1 4, 4, .inr (.inr (.inr (.inr (fun i => some (ad (90 + 5 * i))))))) := (hs2 89 (by decide) (by decide) (by decide)).trans hrr
    have hWs : ∀ i, i < 31 → ∃ x, isW B ad ct2 (17 + 2 * i) x := fun i hi => by
      obtain ⟨x, hx⟩ := hWs i hi
      exact ⟨x, hx.frame (hs2 _ (by omega) (by omega) (by omega)) (hs2 _ (by omega) (by omega) (by omega))⟩
    have hFr : ∀ t, t < 4 → ∃ u l, isFr B ad ct2 (90 + 5 * t) u l := fun t ht => by
      obtain ⟨u, l, h⟩ := hFr t ht
      exact ⟨u, l, h.other (fun r h1 h2 => hs2 r (by omega) (by omega) (by omega))⟩
    refine g_istore_n (L' := [(1, .int (nI F2)), (0, .ref (ad 0))]) fx dX11_tables_24 (by decide) rfl ?_
    refine g_iload_n fx 0 dX11_tables_25 rfl ?_
    refine g_sipush (v := nI 20000) fx dX11_tables_26 (by decide +kernel) ?_
    refine g_icmp_le fx 35 dX11_tables_29 (by decide) (fun c29 => ?_) (fun c29 => ?_)
    · skip
      have hle : F2 ≤ 20000 := (nI_leI (by omega) (by omega)).mp c29
      have hTt : (tTot R C (fun r => sumF (fun k => gk (5 * r + k)) C) (fun c => sumF (fun k => gk (5 * k + c)) R)) ≤ 20000 := Nat.le_of_not_lt (fun q => by have := hF2 q; omega)
      have hFe := hF1 hTt
      have htb : (tbN (sumF gk 25) (tTot R C (fun r => sumF (fun k => gk (5 * r + k)) C) (fun c => sumF (fun k => gk (5 * k + c)) R)) ((R * C + 9) / 10) NL) = rnL NL (((R * C + 9) / 10) * (tTot R C (fun r => sumF (fun k => gk (5 * r + k)) C) (fun c => sumF (fun k => gk (5 * k + c)) R))) := if_pos ⟨hTp, hTt⟩
      have hrl := rnL_le (a := NL) (b := ((R * C + 9) / 10) * (tTot R C (fun r => sumF (fun k => gk (5 * r + k)) C) (fun c => sumF (fun k => gk (5 * k + c)) R)))
      have hnd : ((R * C + 9) / 10) * (tTot R C (fun r => sumF (fun k => gk (5 * r + k)) C) (fun c => sumF (fun k => gk (5 * k + c)) R)) ≤ 60000 := Nat.mul_le_mul (show ((R * C + 9) / 10) ≤ 3 by omega) hTt
      have hrb := rnL_bd hNL hnd
      refine g_relocal (L' := [(1, .int (nI (tTot R C (fun r => sumF (fun k => gk (5 * r + k)) C) (fun c => sumF (fun k => gk (5 * k + c)) R)))), (0, .ref (ad 0))]) (by rw [hFe]) ?_
      refine g_aload_n fx 1 dX11_tables_35 rfl ?_
      refine g_get (r := 0) fx lkX11_44 (by omega) hx rfl dX11_tables_36 ?_
      refine g_aload_n fx 1 dX11_tables_39 rfl ?_
      refine g_get (r := 0) fx lkX11_10 (by omega) hx rfl dX11_tables_40 ?_
      refine g_callVip (As := []) (rest := [.ref (ad 79)]) fx slX11_127 (c_X3_rows B ad ct2 n gk R C hn hg hgc hR5 hC5) (by omega) hg rfl rfl rfl (Nat.le_of_ble_eq_true rfl) ⟨by dsimp only; omega, by dsimp only; omega⟩ ⟨by dsimp only; omega, by dsimp only; omega⟩ dX11_tables_43 (fun q3 hq3 => ?_)
      obtain rfl := hq3
      refine g_aload_n fx 1 dX11_tables_46 rfl ?_
      refine g_get (r := 0) fx lkX11_10 (by omega) hx rfl dX11_tables_47 ?_
      refine g_callVip (As := []) (rest := [.int (nI R), .ref (ad 79)]) fx slX11_130 (c_X3_columns B ad ct2 n gk R C hn hg hgc hR5 hC5) (by omega) hg rfl rfl rfl (Nat.le_of_ble_eq_true rfl) ⟨by dsimp only; omega, by dsimp only; omega⟩ ⟨by dsimp only; omega, by dsimp only; omega⟩ dX11_tables_50 (fun q4 hq4 => ?_)
      obtain rfl := hq4
      refine g_iload_n fx 0 dX11_tables_53 rfl ?_
      refine g_callVx (As := [.int (nI R), .int (nI C), .int (nI (tTot R C (fun r => sumF (fun k => gk (5 * r + k)) C) (fun c => sumF (fun k => gk (5 * k + c)) R)))]) (rest := []) fx slX11_133 (c_X0_renew B ad ct2 n R C (tTot R C (fun r => sumF (fun k => gk (5 * r + k)) C) (fun c => sumF (fun k => gk (5 * k + c)) R)) R1 C1 sd1 cn1 NL g hn hk hkr hR5 hC5 hTt hNL) (by omega) hk rfl rfl rfl (Nat.le_of_ble_eq_true rfl) ⟨by dsimp only; omega, by dsimp only; omega⟩ ⟨by dsimp only; omega, by dsimp only; omega⟩ dX11_tables_54 (fun ad1 ct3 hz3 => ?_)
      obtain ⟨g3, hA3, hk, hkr, hs3⟩ := hz3
      rw [← htb] at hkr
      have hx : ct3 0 = .inr (11, [.ref (ad1 1), .ref (ad1 3), .ref (ad1 5), .ref (ad1 7), .ref (ad1 9), .ref (ad1 11), .ref (ad1 79), .ref (ad1 81), .ref (ad1 88), .ref (ad1 110), .ref (ad1 115)]) := (hs3 0 (by decide) (by decide)).trans (hx.trans (by rw [hA3 1 (by decide), hA3 3 (by decide), hA3 5 (by decide), hA3 7 (by decide), hA3 9 (by decide), hA3 11 (by decide), hA3 79 (by decide), hA3 81 (by decide), hA3 88 (by decide), hA3 110 (by decide), hA3 115 (by decide)]))
      have hg : ct3 1 = .inr (3, [.ref (ad1 2), .int (nI R), .int (nI C)]) := (hs3 1 (by decide) (by decide)).trans (hg.trans (by rw [hA3 2 (by decide)]))
      have hgc : ct3 2 = .inl (B.2.1 0, 25, .inl (nF gk)) := (hs3 2 (by decide) (by decide)).trans hgc
      have hw : ct3 11 = .inr (9, [.ref (ad1 12), .ref (ad1 13), .ref (ad1 14), .ref (ad1 15), .ref (ad1 16), .int (nI R), .int (nI C), .int (nI (gk 0)), .int (nI F2), cz, .ref (ad1 17), .ref (ad1 19), .ref (ad1 21), .ref (ad1 23), .ref (ad1 25)]) := (hs3 11 (by decide) (by decide)).trans (hw.trans (by rw [hA3 12 (by decide), hA3 13 (by decide), hA3 14 (by decide), hA3 15 (by decide), hA3 16 (by decide), hA3 17 (by decide), hA3 19 (by decide), hA3 21 (by decide), hA3 23 (by decide), hA3 25 (by decide)]))
      have ht : ct3 12 = .inl (B.2.1 1, 1891, .inr (.inl (lF gt))) := (hs3 12 (by decide) (by decide)).trans ht
      have hrs : ct3 13 = .inl (B.2.1 0, 5, .inl (nF rs1)) := (hs3 13 (by decide) (by decide)).trans hrs
      have hcl : ct3 14 = .inl (B.2.1 0, 5, .inl (nF cl1)) := (hs3 14 (by decide) (by decide)).trans hcl
      have hv : ct3 15 = .inl (B.2.1 0, 25, .inl (nF v0)) := (hs3 15 (by decide) (by decide)).trans hv
      have hwr : ct3 16 = .inl (B.2.1 3, 26, .inr (.inr (.inr (.inr (fun i => some (ad1 (27 + 2 * i))))))) := (hs3 16 (by decide) (by decide)).trans (hwr.trans (by rw [show (fun i => some (ad1 (27 + 2 * i))) = (fun i => some (ad (27 + 2 * i))) from funext fun i => by rw [hA3 (27 + 2 * i) (by omega)]]))
      have hr : ct3 88 = .inr (6, [.ref (ad1 89), .int th, .int te, .int sta, .int ask]) := by rw [hs3 88 (by omega) (by omega), hA3 89 (by omega)]; exact hr
      have hrr : ct3 89 = .inl (B.2.1 4, 4, .inr (.inr (.inr (.inr (fun i => some (ad1 (90 + 5 * i))))))) := (hs3 89 (by omega) (by omega)).trans (hrr.trans (by rw [show (fun i => some (ad1 (90 + 5 * i))) = (fun i => some (ad (90 + 5 * i))) from funext fun i => by rw [hA3 (90 + 5 * i) (by omega)]]))
      have hFr : ∀ t, t < 4 → ∃ u l, isFr B ad1 ct3 (90 + 5 * t) u l := fun t ht => by
        obtain ⟨u, l, h⟩ := hFr t ht
        exact ⟨u, l, h.move (fun r h1 h2 => hA3 r (by omega)) (fun r h1 h2 => hs3 r (by omega) (by omega))⟩
      have hWs : ∀ i, i < 31 → ∃ x, isW B ad1 ct3 (17 + 2 * i) x := fun i hi => by
        obtain ⟨x, hx⟩ := hWs i hi
        exact ⟨x, hx.move (hA3 _ (by omega)) (hs3 _ (by omega) (by omega)) (hs3 _ (by omega) (by omega))⟩
      refine g_same (L' := [(1, .int (nI (tTot R C (fun r => sumF (fun k => gk (5 * r + k)) C) (fun c => sumF (fun k => gk (5 * k + c)) R)))), (0, .ref (ad1 0))]) (st' := []) (by rw [hA3 0 (by decide)]) rfl ?_
      refine g_aload_n fx 1 dX11_tables_57 rfl ?_
      refine g_get (r := 0) fx lkX11_37 (by omega) hx rfl dX11_tables_58 ?_
      refine g_aload_n fx 1 dX11_tables_61 rfl ?_
      refine g_get (r := 0) fx lkX11_10 (by omega) hx rfl dX11_tables_62 ?_
      refine g_aload_n fx 1 dX11_tables_65 rfl ?_
      refine g_get (r := 0) fx lkX11_44 (by omega) hx rfl dX11_tables_66 ?_
      refine g_callVv (As := [.ref (ad1 1), .ref (ad1 79)]) (rest := []) fx slX11_135 (c_X9_weighCases B ad1 ct3 n gk R C hn hg hgc hR5 hC5 hRp hCp hgb hs hT hT2 rs1 cl1 v0 gt g3 R C (gk 0) F2 ((R * C + 9) / 10) (tbN (sumF gk 25) (tTot R C (fun r => sumF (fun k => gk (5 * r + k)) C) (fun c => sumF (fun k => gk (5 * k + c)) R)) ((R * C + 9) / 10) NL) cz hw ht htri hrs hcl hv hwr hWs hk hkr rfl (by omega) hTt (by rw [Nat.mul_comm]; omega)) (by omega) hw rfl rfl rfl (Nat.le_of_ble_eq_true rfl) ⟨by dsimp only; omega, by dsimp only; omega⟩ ⟨by dsimp only; omega, by dsimp only; omega⟩ dX11_tables_69 (fun ct4 hz4 => ?_)
      obtain ⟨rs, cl, v4, g4, vs, wv, hw, hrs, hcl, hv, hrr4, hv17, hFS, hsT, hs4⟩ := hz4
      have hx : ct4 0 = .inr (11, [.ref (ad1 1), .ref (ad1 3), .ref (ad1 5), .ref (ad1 7), .ref (ad1 9), .ref (ad1 11), .ref (ad1 79), .ref (ad1 81), .ref (ad1 88), .ref (ad1 110), .ref (ad1 115)]) := (hs4 0 (by decide)).trans hx
      have hg : ct4 1 = .inr (3, [.ref (ad1 2), .int (nI R), .int (nI C)]) := (hs4 1 (by decide)).trans hg
      have hgc : ct4 2 = .inl (B.2.1 0, 25, .inl (nF gk)) := (hs4 2 (by decide)).trans hgc
      have ht : ct4 12 = .inl (B.2.1 1, 1891, .inr (.inl (lF gt))) := (hs4 12 (by decide)).trans ht
      have hwr : ct4 16 = .inl (B.2.1 3, 26, .inr (.inr (.inr (.inr (fun i => some (ad1 (27 + 2 * i))))))) := (hs4 16 (by decide)).trans hwr
      have hr : ct4 88 = .inr (6, [.ref (ad1 89), .int th, .int te, .int sta, .int ask]) := (hs4 88 (by decide)).trans hr
      have hrr : ct4 89 = .inl (B.2.1 4, 4, .inr (.inr (.inr (.inr (fun i => some (ad1 (90 + 5 * i))))))) := (hs4 89 (by decide)).trans hrr
      have hFr : ∀ t, t < 4 → ∃ u l, isFr B ad1 ct4 (90 + 5 * t) u l := fun t ht => by
        obtain ⟨u, l, h⟩ := hFr t ht
        exact ⟨u, l, h.other (fun r h1 h2 => hs4 r (by omega))⟩
      refine g_aload_n fx 1 dX11_tables_72 rfl ?_
      refine g_get (r := 0) fx lkX11_58 (by omega) hx rfl dX11_tables_73 ?_
      refine g_iconst (v := nI 0) fx dX11_tables_76 (by decide +kernel) ?_
      refine g_aload_n fx 1 dX11_tables_77 rfl ?_
      refine g_get (r := 0) fx lkX11_10 (by omega) hx rfl dX11_tables_78 ?_
      refine g_iconst (v := nI 0) fx dX11_tables_81 (by decide +kernel) ?_
      refine g_iconst (v := nI 0) fx dX11_tables_82 (by decide +kernel) ?_
      refine g_callVip (As := [.int (nI 0), .int (nI 0)]) (rest := [.int (nI 0), .ref (ad1 88)]) fx slX11_93 (c_X3_at B ad1 ct4 n gk R C hn hg hgc hR5 hC5 (nI 0) (nI 0)) (by omega) hg rfl rfl rfl (Nat.le_of_ble_eq_true rfl) ⟨by dsimp only; omega, by dsimp only; omega⟩ ⟨by dsimp only; omega, by dsimp only; omega⟩ dX11_tables_83 (fun q5 hq5 => ?_)
      rw [if_pos ⟨inR hRp (by omega), inR hCp (by omega)⟩] at hq5
      have hq5 : q5 = nI (gk 0) := hq5
      refine g_isi (y := nI (gk 0)) hq5 ?_
      refine g_aload_n fx 1 dX11_tables_86 rfl ?_
      refine g_get (r := 0) fx lkX11_10 (by omega) hx rfl dX11_tables_87 ?_
      refine g_callVip (As := []) (rest := [.int (nI (gk 0)), .int (nI 0), .ref (ad1 88)]) fx slX11_97 (c_X3_inAll B ad1 ct4 n gk R C hn hg hgc hR5 hC5) (by omega) hg rfl rfl rfl (Nat.le_of_ble_eq_true rfl) ⟨by dsimp only; omega, by dsimp only; omega⟩ ⟨by dsimp only; omega, by dsimp only; omega⟩ dX11_tables_90 (fun q6 hq6 => ?_)
      obtain rfl := hq6
      refine g_callVv (As := [.int (nI 0), .int (nI (gk 0)), .int (nI (sumF gk 25))]) (rest := []) fx slX11_139 (c_X6_begin B ad1 ct4 n th te sta ask hn hr hrr (nI 0) (nI (gk 0)) (nI (sumF gk 25))) (by omega) hr rfl rfl rfl (Nat.le_of_ble_eq_true rfl) ⟨by dsimp only; omega, by dsimp only; omega⟩ ⟨by dsimp only; omega, by dsimp only; omega⟩ dX11_tables_93 (fun ct6 hz6 => ?_)
      have hs6 : ∀ r, r ≠ 88 → ct6 r = ct4 r := fun r h => by rw [hz6, va_up_ne _ _ h]
      have hr : ct6 88 = .inr (6, [.ref (ad1 89), .int 1, .int (nI 0), .int (nI (gk 0)), .int (nI (sumF gk 25))]) := by rw [hz6, va_up_self]
      have hx : ct6 0 = .inr (11, [.ref (ad1 1), .ref (ad1 3), .ref (ad1 5), .ref (ad1 7), .ref (ad1 9), .ref (ad1 11), .ref (ad1 79), .ref (ad1 81), .ref (ad1 88), .ref (ad1 110), .ref (ad1 115)]) := (hs6 0 (by decide)).trans hx
      have hw : ct6 11 = .inr (9, [.ref (ad1 12), .ref (ad1 13), .ref (ad1 14), .ref (ad1 15), .ref (ad1 16), .int (nI R), .int (nI C), .int (nI (gk 0)), .int (nI F2), .ref (ad1 79), .ref (ad1 17), .ref (ad1 19), .ref (ad1 21), .ref (ad1 23), .ref (ad1 25)]) := (hs6 11 (by decide)).trans hw
      have hrr : ct6 89 = .inl (B.2.1 4, 4, .inr (.inr (.inr (.inr (fun i => some (ad1 (90 + 5 * i))))))) := (hs6 89 (by decide)).trans hrr
      have hFr : ∀ t, t < 4 → ∃ u l, isFr B ad1 ct6 (90 + 5 * t) u l := fun t ht => by
        obtain ⟨u, l, h⟩ := hFr t ht
        exact ⟨u, l, h.other (fun r h1 h2 => hs6 r (by omega))⟩
      have hFS6 := hFS.frame (ct' := ct6) (fun r h1 h2 => hs6 r (by omega))
      have hv17 := hv17.frame (ct' := ct6) (hs6 _ (by decide)) (hs6 _ (by decide))
      have hv19 := hFS6.1
      have hv21 := hFS6.2.1
      have hv23 := hFS6.2.2.1
      have hv25 := hFS6.2.2.2.1
      have hall := aP_Sm (rs := (fun r => sumF (fun k => gk (5 * r + k)) C)) (T := (sumF gk 25)) (R := R) (by omega) (by rw [hs, hT2])
      have hfr6 : ∀ r, r < 90 ∨ 109 < r → ct6 r = ct6 r := fun _ _ => rfl
      refine g_aload_n fx 1 dX11_tables_96 rfl ?_
      refine g_get (r := 0) fx lkX11_58 (by omega) hx rfl dX11_tables_97 ?_
      refine g_iconst (v := nI 0) fx dX11_tables_100 (by decide +kernel) ?_
      refine g_callVrp (As := [.int (nI 0)]) (rest := []) fx slX11_142 (c_X6_chance B ad1 ct6 n 1 (nI 0) (nI (gk 0)) (nI (sumF gk 25)) hn hr hrr 0 (by decide)) (by omega) hr rfl rfl rfl (Nat.le_of_ble_eq_true rfl) ⟨by dsimp only; omega, by dsimp only; omega⟩ ⟨by dsimp only; omega, by dsimp only; omega⟩ dX11_tables_101 (fun w1 hw1 => ?_)
      have hw1 : w1 = ad1 90 := hw1
      obtain rfl := hw1
      refine g_aload_n fx 1 dX11_tables_104 rfl ?_
      refine g_get (r := 0) fx lkX11_37 (by omega) hx rfl dX11_tables_105 ?_
      refine g_get (r := 11) fx lkX11_146 (by omega) hw rfl dX11_tables_108 ?_
      refine g_aload_n fx 1 dX11_tables_111 rfl ?_
      refine g_get (r := 0) fx lkX11_37 (by omega) hx rfl dX11_tables_112 ?_
      refine g_get (r := 11) fx lkX11_150 (by omega) hw rfl dX11_tables_115 ?_
      obtain ⟨u0, l0, hq20⟩ := hFr 0 (by decide)
      refine g_callVv (As := [.ref (ad1 21), .ref (ad1 17)]) (rest := []) fx slX11_153 (c_X2_setWholes B ad1 ct6 n 90 u0 l0 (by omega) hq20.1 hq20.2.1 hq20.2.2 21 (sFar (fun c => sumF (fun k => gk (5 * k + c)) R) C (C * R) (Wc (fun c => sumF (fun k => gk (5 * k + c)) R) C (C * R) (gv gk C)) vs (tTot R C (fun r => sumF (fun k => gk (5 * r + k)) C) (fun c => sumF (fun k => gk (5 * k + c)) R))) (by omega) (by omega) hv21 17 (aP (fun r => sumF (fun k => gk (5 * r + k)) C) (sumF gk 25) R) (by omega) (by omega) hv17 hall.1 hall.2) (by omega) hq20.1 rfl rfl rfl (Nat.le_of_ble_eq_true rfl) ⟨by dsimp only; omega, by dsimp only; omega⟩ ⟨by dsimp only; omega, by dsimp only; omega⟩ dX11_tables_118 (fun ct7 hz7 => ?_)
      obtain ⟨hf0, hs7⟩ := hz7
      have hx : ct7 0 = .inr (11, [.ref (ad1 1), .ref (ad1 3), .ref (ad1 5), .ref (ad1 7), .ref (ad1 9), .ref (ad1 11), .ref (ad1 79), .ref (ad1 81), .ref (ad1 88), .ref (ad1 110), .ref (ad1 115)]) := (hs7 0 (by omega)).trans hx
      have hw : ct7 11 = .inr (9, [.ref (ad1 12), .ref (ad1 13), .ref (ad1 14), .ref (ad1 15), .ref (ad1 16), .int (nI R), .int (nI C), .int (nI (gk 0)), .int (nI F2), .ref (ad1 79), .ref (ad1 17), .ref (ad1 19), .ref (ad1 21), .ref (ad1 23), .ref (ad1 25)]) := (hs7 11 (by omega)).trans hw
      have hr : ct7 88 = .inr (6, [.ref (ad1 89), .int 1, .int (nI 0), .int (nI (gk 0)), .int (nI (sumF gk 25))]) := (hs7 88 (by omega)).trans hr
      have hrr : ct7 89 = .inl (B.2.1 4, 4, .inr (.inr (.inr (.inr (fun i => some (ad1 (90 + 5 * i))))))) := (hs7 89 (by omega)).trans hrr
      have hv17 := hv17.frame (ct' := ct7) (hs7 _ (by omega)) (hs7 _ (by omega))
      have hv19 := hv19.frame (ct' := ct7) (hs7 _ (by omega)) (hs7 _ (by omega))
      have hv21 := hv21.frame (ct' := ct7) (hs7 _ (by omega)) (hs7 _ (by omega))
      have hv23 := hv23.frame (ct' := ct7) (hs7 _ (by omega)) (hs7 _ (by omega))
      have hv25 := hv25.frame (ct' := ct7) (hs7 _ (by omega)) (hs7 _ (by omega))
      have hFr : ∀ t, t < 4 → ∃ u l, isFr B ad1 ct7 (90 + 5 * t) u l := fun t ht => by
        by_cases q : t = 0
        · rw [q]; exact ⟨_, _, hf0⟩
        · obtain ⟨u, l, h⟩ := hFr t ht
          exact ⟨u, l, h.other (fun r h1 h2 => hs7 r (by omega))⟩
      have hfr6 : ∀ r, r < 90 ∨ 109 < r → ct7 r = ct6 r := fun r h => (hs7 r (by omega)).trans (hfr6 r h)
      refine g_aload_n fx 1 dX11_tables_121 rfl ?_
      refine g_get (r := 0) fx lkX11_58 (by omega) hx rfl dX11_tables_122 ?_
      refine g_iconst (v := nI 1) fx dX11_tables_125 (by decide +kernel) ?_
      refine g_callVrp (As := [.int (nI 1)]) (rest := []) fx slX11_142 (c_X6_chance B ad1 ct7 n 1 (nI 0) (nI (gk 0)) (nI (sumF gk 25)) hn hr hrr 1 (by decide)) (by omega) hr rfl rfl rfl (Nat.le_of_ble_eq_true rfl) ⟨by dsimp only; omega, by dsimp only; omega⟩ ⟨by dsimp only; omega, by dsimp only; omega⟩ dX11_tables_126 (fun w2 hw2 => ?_)
      have hw2 : w2 = ad1 95 := hw2
      obtain rfl := hw2
      refine g_aload_n fx 1 dX11_tables_129 rfl ?_
      refine g_get (r := 0) fx lkX11_37 (by omega) hx rfl dX11_tables_130 ?_
      refine g_get (r := 11) fx lkX11_159 (by omega) hw rfl dX11_tables_133 ?_
      refine g_aload_n fx 1 dX11_tables_136 rfl ?_
      refine g_get (r := 0) fx lkX11_37 (by omega) hx rfl dX11_tables_137 ?_
      refine g_get (r := 11) fx lkX11_150 (by omega) hw rfl dX11_tables_140 ?_
      obtain ⟨u1, l1, hq21⟩ := hFr 1 (by decide)
      refine g_callVv (As := [.ref (ad1 23), .ref (ad1 17)]) (rest := []) fx slX11_153 (c_X2_setWholes B ad1 ct7 n 95 u1 l1 (by omega) hq21.1 hq21.2.1 hq21.2.2 23 (sLow (fun c => sumF (fun k => gk (5 * k + c)) R) C (C * R) (gk 0) vs (tTot R C (fun r => sumF (fun k => gk (5 * r + k)) C) (fun c => sumF (fun k => gk (5 * k + c)) R))) (by omega) (by omega) hv23 17 (aP (fun r => sumF (fun k => gk (5 * r + k)) C) (sumF gk 25) R) (by omega) (by omega) hv17 hall.1 hall.2) (by omega) hq21.1 rfl rfl rfl (Nat.le_of_ble_eq_true rfl) ⟨by dsimp only; omega, by dsimp only; omega⟩ ⟨by dsimp only; omega, by dsimp only; omega⟩ dX11_tables_143 (fun ct8 hz8 => ?_)
      obtain ⟨hf1, hs8⟩ := hz8
      have hx : ct8 0 = .inr (11, [.ref (ad1 1), .ref (ad1 3), .ref (ad1 5), .ref (ad1 7), .ref (ad1 9), .ref (ad1 11), .ref (ad1 79), .ref (ad1 81), .ref (ad1 88), .ref (ad1 110), .ref (ad1 115)]) := (hs8 0 (by omega)).trans hx
      have hw : ct8 11 = .inr (9, [.ref (ad1 12), .ref (ad1 13), .ref (ad1 14), .ref (ad1 15), .ref (ad1 16), .int (nI R), .int (nI C), .int (nI (gk 0)), .int (nI F2), .ref (ad1 79), .ref (ad1 17), .ref (ad1 19), .ref (ad1 21), .ref (ad1 23), .ref (ad1 25)]) := (hs8 11 (by omega)).trans hw
      have hr : ct8 88 = .inr (6, [.ref (ad1 89), .int 1, .int (nI 0), .int (nI (gk 0)), .int (nI (sumF gk 25))]) := (hs8 88 (by omega)).trans hr
      have hrr : ct8 89 = .inl (B.2.1 4, 4, .inr (.inr (.inr (.inr (fun i => some (ad1 (90 + 5 * i))))))) := (hs8 89 (by omega)).trans hrr
      have hf0 := hf0.other (fun r h1 h2 => hs8 r (by omega))
      have hv17 := hv17.frame (ct' := ct8) (hs8 _ (by omega)) (hs8 _ (by omega))
      have hv19 := hv19.frame (ct' := ct8) (hs8 _ (by omega)) (hs8 _ (by omega))
      have hv21 := hv21.frame (ct' := ct8) (hs8 _ (by omega)) (hs8 _ (by omega))
      have hv23 := hv23.frame (ct' := ct8) (hs8 _ (by omega)) (hs8 _ (by omega))
      have hv25 := hv25.frame (ct' := ct8) (hs8 _ (by omega)) (hs8 _ (by omega))
      have hFr : ∀ t, t < 4 → ∃ u l, isFr B ad1 ct8 (90 + 5 * t) u l := fun t ht => by
        by_cases q : t = 1
        · rw [q]; exact ⟨_, _, hf1⟩
        · obtain ⟨u, l, h⟩ := hFr t ht
          exact ⟨u, l, h.other (fun r h1 h2 => hs8 r (by omega))⟩
      have hfr6 : ∀ r, r < 90 ∨ 109 < r → ct8 r = ct6 r := fun r h => (hs8 r (by omega)).trans (hfr6 r h)
      refine g_aload_n fx 1 dX11_tables_146 rfl ?_
      refine g_get (r := 0) fx lkX11_58 (by omega) hx rfl dX11_tables_147 ?_
      refine g_iconst (v := nI 2) fx dX11_tables_150 (by decide +kernel) ?_
      refine g_callVrp (As := [.int (nI 2)]) (rest := []) fx slX11_142 (c_X6_chance B ad1 ct8 n 1 (nI 0) (nI (gk 0)) (nI (sumF gk 25)) hn hr hrr 2 (by decide)) (by omega) hr rfl rfl rfl (Nat.le_of_ble_eq_true rfl) ⟨by dsimp only; omega, by dsimp only; omega⟩ ⟨by dsimp only; omega, by dsimp only; omega⟩ dX11_tables_151 (fun w3 hw3 => ?_)
      have hw3 : w3 = ad1 100 := hw3
      obtain rfl := hw3
      refine g_aload_n fx 1 dX11_tables_154 rfl ?_
      refine g_get (r := 0) fx lkX11_37 (by omega) hx rfl dX11_tables_155 ?_
      refine g_get (r := 11) fx lkX11_162 (by omega) hw rfl dX11_tables_158 ?_
      refine g_aload_n fx 1 dX11_tables_161 rfl ?_
      refine g_get (r := 0) fx lkX11_37 (by omega) hx rfl dX11_tables_162 ?_
      refine g_get (r := 11) fx lkX11_150 (by omega) hw rfl dX11_tables_165 ?_
      obtain ⟨u2, l2, hq22⟩ := hFr 2 (by decide)
      refine g_callVv (As := [.ref (ad1 25), .ref (ad1 17)]) (rest := []) fx slX11_153 (c_X2_setWholes B ad1 ct8 n 100 u2 l2 (by omega) hq22.1 hq22.2.1 hq22.2.2 25 (sHigh (fun c => sumF (fun k => gk (5 * k + c)) R) C (C * R) (gk 0) vs (tTot R C (fun r => sumF (fun k => gk (5 * r + k)) C) (fun c => sumF (fun k => gk (5 * k + c)) R))) (by omega) (by omega) hv25 17 (aP (fun r => sumF (fun k => gk (5 * r + k)) C) (sumF gk 25) R) (by omega) (by omega) hv17 hall.1 hall.2) (by omega) hq22.1 rfl rfl rfl (Nat.le_of_ble_eq_true rfl) ⟨by dsimp only; omega, by dsimp only; omega⟩ ⟨by dsimp only; omega, by dsimp only; omega⟩ dX11_tables_168 (fun ct9 hz9 => ?_)
      obtain ⟨hf2, hs9⟩ := hz9
      have hx : ct9 0 = .inr (11, [.ref (ad1 1), .ref (ad1 3), .ref (ad1 5), .ref (ad1 7), .ref (ad1 9), .ref (ad1 11), .ref (ad1 79), .ref (ad1 81), .ref (ad1 88), .ref (ad1 110), .ref (ad1 115)]) := (hs9 0 (by omega)).trans hx
      have hw : ct9 11 = .inr (9, [.ref (ad1 12), .ref (ad1 13), .ref (ad1 14), .ref (ad1 15), .ref (ad1 16), .int (nI R), .int (nI C), .int (nI (gk 0)), .int (nI F2), .ref (ad1 79), .ref (ad1 17), .ref (ad1 19), .ref (ad1 21), .ref (ad1 23), .ref (ad1 25)]) := (hs9 11 (by omega)).trans hw
      have hr : ct9 88 = .inr (6, [.ref (ad1 89), .int 1, .int (nI 0), .int (nI (gk 0)), .int (nI (sumF gk 25))]) := (hs9 88 (by omega)).trans hr
      have hrr : ct9 89 = .inl (B.2.1 4, 4, .inr (.inr (.inr (.inr (fun i => some (ad1 (90 + 5 * i))))))) := (hs9 89 (by omega)).trans hrr
      have hf0 := hf0.other (fun r h1 h2 => hs9 r (by omega))
      have hf1 := hf1.other (fun r h1 h2 => hs9 r (by omega))
      have hv17 := hv17.frame (ct' := ct9) (hs9 _ (by omega)) (hs9 _ (by omega))
      have hv19 := hv19.frame (ct' := ct9) (hs9 _ (by omega)) (hs9 _ (by omega))
      have hv21 := hv21.frame (ct' := ct9) (hs9 _ (by omega)) (hs9 _ (by omega))
      have hv23 := hv23.frame (ct' := ct9) (hs9 _ (by omega)) (hs9 _ (by omega))
      have hv25 := hv25.frame (ct' := ct9) (hs9 _ (by omega)) (hs9 _ (by omega))
      have hFr : ∀ t, t < 4 → ∃ u l, isFr B ad1 ct9 (90 + 5 * t) u l := fun t ht => by
        by_cases q : t = 2
        · rw [q]; exact ⟨_, _, hf2⟩
        · obtain ⟨u, l, h⟩ := hFr t ht
          exact ⟨u, l, h.other (fun r h1 h2 => hs9 r (by omega))⟩
      have hfr6 : ∀ r, r < 90 ∨ 109 < r → ct9 r = ct6 r := fun r h => (hs9 r (by omega)).trans (hfr6 r h)
      refine g_aload_n fx 1 dX11_tables_171 rfl ?_
      refine g_get (r := 0) fx lkX11_58 (by omega) hx rfl dX11_tables_172 ?_
      refine g_iconst (v := nI 3) fx dX11_tables_175 (by decide +kernel) ?_
      refine g_callVrp (As := [.int (nI 3)]) (rest := []) fx slX11_142 (c_X6_chance B ad1 ct9 n 1 (nI 0) (nI (gk 0)) (nI (sumF gk 25)) hn hr hrr 3 (by decide)) (by omega) hr rfl rfl rfl (Nat.le_of_ble_eq_true rfl) ⟨by dsimp only; omega, by dsimp only; omega⟩ ⟨by dsimp only; omega, by dsimp only; omega⟩ dX11_tables_176 (fun w4 hw4 => ?_)
      have hw4 : w4 = ad1 105 := hw4
      obtain rfl := hw4
      refine g_aload_n fx 1 dX11_tables_179 rfl ?_
      refine g_get (r := 0) fx lkX11_37 (by omega) hx rfl dX11_tables_180 ?_
      refine g_get (r := 11) fx lkX11_165 (by omega) hw rfl dX11_tables_183 ?_
      refine g_aload_n fx 1 dX11_tables_186 rfl ?_
      refine g_get (r := 0) fx lkX11_37 (by omega) hx rfl dX11_tables_187 ?_
      refine g_get (r := 11) fx lkX11_150 (by omega) hw rfl dX11_tables_190 ?_
      obtain ⟨u3, l3, hq23⟩ := hFr 3 (by decide)
      refine g_callVv (As := [.ref (ad1 19), .ref (ad1 17)]) (rest := []) fx slX11_153 (c_X2_setWholes B ad1 ct9 n 105 u3 l3 (by omega) hq23.1 hq23.2.1 hq23.2.2 19 (Wc (fun c => sumF (fun k => gk (5 * k + c)) R) C (C * R) (gv gk C)) (by omega) (by omega) hv19 17 (aP (fun r => sumF (fun k => gk (5 * r + k)) C) (sumF gk 25) R) (by omega) (by omega) hv17 hall.1 hall.2) (by omega) hq23.1 rfl rfl rfl (Nat.le_of_ble_eq_true rfl) ⟨by dsimp only; omega, by dsimp only; omega⟩ ⟨by dsimp only; omega, by dsimp only; omega⟩ dX11_tables_193 (fun ct10 hz10 => ?_)
      obtain ⟨hf3, hs10⟩ := hz10
      have hx : ct10 0 = .inr (11, [.ref (ad1 1), .ref (ad1 3), .ref (ad1 5), .ref (ad1 7), .ref (ad1 9), .ref (ad1 11), .ref (ad1 79), .ref (ad1 81), .ref (ad1 88), .ref (ad1 110), .ref (ad1 115)]) := (hs10 0 (by omega)).trans hx
      have hw : ct10 11 = .inr (9, [.ref (ad1 12), .ref (ad1 13), .ref (ad1 14), .ref (ad1 15), .ref (ad1 16), .int (nI R), .int (nI C), .int (nI (gk 0)), .int (nI F2), .ref (ad1 79), .ref (ad1 17), .ref (ad1 19), .ref (ad1 21), .ref (ad1 23), .ref (ad1 25)]) := (hs10 11 (by omega)).trans hw
      have hr : ct10 88 = .inr (6, [.ref (ad1 89), .int 1, .int (nI 0), .int (nI (gk 0)), .int (nI (sumF gk 25))]) := (hs10 88 (by omega)).trans hr
      have hrr : ct10 89 = .inl (B.2.1 4, 4, .inr (.inr (.inr (.inr (fun i => some (ad1 (90 + 5 * i))))))) := (hs10 89 (by omega)).trans hrr
      have hf0 := hf0.other (fun r h1 h2 => hs10 r (by omega))
      have hf1 := hf1.other (fun r h1 h2 => hs10 r (by omega))
      have hf2 := hf2.other (fun r h1 h2 => hs10 r (by omega))
      have hv17 := hv17.frame (ct' := ct10) (hs10 _ (by omega)) (hs10 _ (by omega))
      have hv19 := hv19.frame (ct' := ct10) (hs10 _ (by omega)) (hs10 _ (by omega))
      have hv21 := hv21.frame (ct' := ct10) (hs10 _ (by omega)) (hs10 _ (by omega))
      have hv23 := hv23.frame (ct' := ct10) (hs10 _ (by omega)) (hs10 _ (by omega))
      have hv25 := hv25.frame (ct' := ct10) (hs10 _ (by omega)) (hs10 _ (by omega))
      have hFr : ∀ t, t < 4 → ∃ u l, isFr B ad1 ct10 (90 + 5 * t) u l := fun t ht => by
        by_cases q : t = 3
        · rw [q]; exact ⟨_, _, hf3⟩
        · obtain ⟨u, l, h⟩ := hFr t ht
          exact ⟨u, l, h.other (fun r h1 h2 => hs10 r (by omega))⟩
      have hfr6 : ∀ r, r < 90 ∨ 109 < r → ct10 r = ct6 r := fun r h => (hs10 r (by omega)).trans (hfr6 r h)
      refine g_iload_n fx 0 dX11_tables_196 rfl ?_
      refine g_more (k1 := 1) (s1 := (2 * ((tbN (sumF gk 25) (tTot R C (fun r => sumF (fun k => gk (5 * r + k)) C) (fun c => sumF (fun k => gk (5 * k + c)) R)) ((R * C + 9) / 10) NL) - NL))) (by omega) (by omega) ?_
      refine g_iret fx rt dX11_tables_197 ?_
      refine gPxi.mk (Or.inr (Or.inr ⟨hTp, hTt, rfl, hA3, F2, rs, cl, v4, g4, vs, wv, ?_, ?_, ?_, ?_, hrr4, hv17, ?_, hsT, hr, hf0, hf1, hf2, hf3, fun r h => ?_⟩))
      · exact hw
      · rw [hfr6 13 (by decide), hs6 13 (by decide)]; exact hrs
      · rw [hfr6 14 (by decide), hs6 14 (by decide)]; exact hcl
      · rw [hfr6 15 (by decide), hs6 15 (by decide)]; exact hv
      · exact hFS6.frame (fun r h1 h2 => hfr6 r (by omega))
      · rw [hfr6 r (by omega), hs6 r (by omega), hs4 r (by omega), hs3 r (by omega) (by omega), hs2 r (by omega) (by omega) (by omega)]
    · skip
      have hgt : 20000 < F2 := (nI_ltI (by omega) (by omega)).mp (Int32.not_le.mp c29)
      have hTt : 20000 < (tTot R C (fun r => sumF (fun k => gk (5 * r + k)) C) (fun c => sumF (fun k => gk (5 * k + c)) R)) := Nat.lt_of_not_le (fun q => by have := hF1 q; omega)
      refine g_bipush (v := (-7)) fx dX11_tables_32 (by decide +kernel) ?_
      refine g_more (k1 := 1) (s1 := (2 * ((tbN (sumF gk 25) (tTot R C (fun r => sumF (fun k => gk (5 * r + k)) C) (fun c => sumF (fun k => gk (5 * k + c)) R)) ((R * C + 9) / 10) NL) - NL))) (by omega) (by omega) ?_
      refine g_iret fx rt dX11_tables_34 ?_
      exact gPxi.mk (Or.inr (Or.inl ⟨hTp, hTt, by decide, rfl, F2, rs1, cl1, hw, hrs, hcl, hs2⟩))
  · skip
    have hT0 : (sumF gk 25) = 0 := (nI_eq (b := 0) (by omega) (by omega)).mp c7
    refine g_bipush (v := (-5)) fx dX11_tables_10 (by decide +kernel) ?_
    refine g_more (k1 := 1) (s1 := (2 * ((tbN (sumF gk 25) (tTot R C (fun r => sumF (fun k => gk (5 * r + k)) C) (fun c => sumF (fun k => gk (5 * k + c)) R)) ((R * C + 9) / 10) NL) - NL))) (by omega) (by omega) ?_
    refine g_iret fx rt dX11_tables_12 ?_
    exact gPxi.mk (Or.inl ⟨hT0, by decide, rfl, rfl⟩)
