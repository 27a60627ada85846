theorem xO_cg {ad ad' : Nat → Nat} (h : ∀ r, r = 1 ∨ r = 3 ∨ r = 5 ∨ r = 7 ∨ r = 9 ∨ r = 11 ∨ r = 79 ∨ r = 81 ∨ r = 88 ∨ r = 110 ∨ r = 115 → ad' r = ad r) : xO ad' = xO ad := by
  show (Sum.inr (11, [Value.ref (ad' 1), .ref (ad' 3), .ref (ad' 5), .ref (ad' 7), .ref (ad' 9), .ref (ad' 11), .ref (ad' 79), .ref (ad' 81), .ref (ad' 88), .ref (ad' 110), .ref (ad' 115)]) : va_E) = _
  rw [h 1 (by decide), h 3 (by decide), h 5 (by decide), h 7 (by decide), h 9 (by decide), h 11 (by decide), h 79 (by decide), h 81 (by decide), h 88 (by decide), h 110 (by decide), h 115 (by decide)]
set_option maxHeartbeats 4000000 in
set_option maxRecDepth 100000 in
theorem T_labels (B : gB) (x : Int32) : StI B (J B) yX11_labels cX11_labels 6 yX12_labels cX12_labels 9 [.int x] := by
  intro ad ct ad2 ct2 S hJ
  have hJ0 := hJ
  have hbd := hJ0.bd
  obtain ⟨f, NL, N1, N2, hx, h0, hS, hNL, hG, hSm, hD, hK, hW, hC, hR, hE, hN, hX⟩ := hJ
  have hSz := hSm
  have hRz := hR
  obtain ⟨kA, kB, fA, fB, fs, km, a1, a2, a3, a4, a5, a6, hAk, hBk, hkA, hkB, hfA, hfB, hsb⟩ := hSz
  obtain ⟨⟨nx, mk, off, ah, al, hso⟩, ⟨sz1, sz2, s1, t1, s2, t2, h82, h83, h84, h85, h86, h87⟩, hL1, hL2, th, te, sta, ask, u, l, gu, gw, gb, SS_, b1, b2, hth, hF, hFb, b6, b7, b8, b9, hS6, hth0, hth1⟩ := hRz
  obtain ⟨g1_, hg1_⟩ := hX.1 1 (by decide)
  obtain ⟨g2_, hg2_⟩ := hX.1 2 (by decide)
  obtain ⟨g3_, hg3_⟩ := hX.1 3 (by decide)
  obtain ⟨g4_, hg4_⟩ := hX.1 4 (by decide)
  obtain ⟨g21_, hg21_⟩ := hX.1 21 (by decide)
  obtain ⟨fn0, hfn0⟩ := hX.2.2.2.1 22 (Or.inl rfl)
  obtain ⟨sc0, hsc0⟩ := hX.2.2.2.1 23 (Or.inr rfl)
  obtain ⟨gy0, hgy0⟩ := hX.2.2.2.2.1
  have hE1 : okL (lbE1 x.toInt.toNat fs kA kB N1) := tkN1_ok (tkN1_ok hL1 kA (by omega)) kB (by omega)
  have hE2 : okL (lbE2 x.toInt.toNat fs kA kB N2) := tkN2_ok (tkN2_ok hL2 kA (by omega)) kB (by omega)
  have hE1b := okL_le hE1
  have hE2b := okL_le hE2
  have hE1c : N1 ≤ lbE1 x.toInt.toNat fs kA kB N1 := Nat.le_trans (tkN1_le kA) (tkN1_le kB)
  have hE2c : N2 ≤ lbE2 x.toInt.toNat fs kA kB N2 := Nat.le_trans (tkN2_le kA) (tkN2_le kB)
  have hbd2 : S + lbMs x fs kA kB N1 N2 ≤ 502144 := by unfold lbMs; split <;> omega
  refine ⟨6, 150, 60, (lbMs x fs kA kB N1 N2), _, _, by decide, by decide, by decide, hbd2, hx, c_X11_labels B ad ct 178 kA kB fA fB fs hx a1 a2 a3 a4 (Nat.le_refl _) hAk hBk hfA hfB hsb nx mk off ah al hso sz1 N1 sz2 N2 s1 t1 s2 t2 h82 h83 h84 h85 h86 h87 hL1 hL2 th te sta ask b1 b2 (fun t ht => ⟨_, _, hF t ht⟩) x, ?_⟩
  intro v ad' ct' n' hp
  obtain ⟨rfl, r, rfl, hr⟩ := hp
  rcases hr with ⟨hno, hr, ea, rfl⟩ | ⟨hin, hz, hr, ea, rfl⟩ | ⟨hin, hA0, hB0, w, hw, hxw, hrt, hAd, e81, hSS, e88, hfc, hc⟩
  · obtain rfl := ea.symm
    have hms0 : lbMs x fs kA kB N1 N2 = 0 := if_neg (fun h => hno h.1)
    refine ⟨rfl, rfl, r, rfl, 5, 134, _, _, by decide, by decide, h0, c_X12_labels B ad2 ct2 33 f fs fn0 sc0 km g1_ g2_ g3_ g4_ gu gw gb g21_ gy0 (Nat.le_refl _) h0 hg1_ hg2_ hg3_ hg4_ a5 a6 b6 b7 b8 hg21_ hfn0 hsc0 hgy0 (fun w hw => by rcases (show w = 0 ∨ w = 1 by omega) with rfl | rfl; (rw [hkA]; exact hAk); (rw [hkB]; exact hBk)) hsb x, ?_⟩
    intro v2 ad2' ct2' n2' hq
    obtain ⟨rfl, rfl, q, rfl, hq⟩ := hq
    rw [hms0]
    rcases hq with ⟨-, rfl, rfl⟩ | ⟨h2, -⟩ | ⟨h2, -⟩
    · exact ⟨rfl, rfl, by rw [hr], hJ0⟩
    · exact absurd h2 hno
    · exact absurd h2 hno
  · obtain rfl := ea.symm
    have hms0 : lbMs x fs kA kB N1 N2 = 0 := if_neg (fun h => by omega)
    refine ⟨rfl, rfl, r, rfl, 5, 134, _, _, by decide, by decide, h0, c_X12_labels B ad2 ct2 33 f fs fn0 sc0 km g1_ g2_ g3_ g4_ gu gw gb g21_ gy0 (Nat.le_refl _) h0 hg1_ hg2_ hg3_ hg4_ a5 a6 b6 b7 b8 hg21_ hfn0 hsc0 hgy0 (fun w hw => by rcases (show w = 0 ∨ w = 1 by omega) with rfl | rfl; (rw [hkA]; exact hAk); (rw [hkB]; exact hBk)) hsb x, ?_⟩
    intro v2 ad2' ct2' n2' hq
    obtain ⟨rfl, rfl, q, rfl, hq⟩ := hq
    rw [hkA, hkB] at hq
    rw [hms0]
    rcases hq with ⟨h2, -⟩ | ⟨-, -, rfl, rfl⟩ | ⟨-, h2, h3, -⟩
    · exact absurd hin h2
    · exact ⟨rfl, rfl, by rw [hr], hJ0⟩
    · omega
  · have hxn : x.toInt.toNat = w := by rw [hxw, nI_toInt (by omega)]; exact Int.toNat_natCast w
    rw [hxn] at hE1 hE2 hE1b hE2b hE1c hE2c
    have hms : lbMs x fs kA kB N1 N2 = 4 * (lbE1 w fs kA kB N1 - N1) + 4 * (lbE2 w fs kA kB N2 - N2) := by unfold lbMs; rw [if_pos ⟨hin, hA0, hB0⟩, hxn]
    refine ⟨rfl, hAd 0 (by decide), r, rfl, 5, 134, _, _, by decide, by decide, h0, c_X12_labels B ad2 ct2 33 f fs fn0 sc0 km g1_ g2_ g3_ g4_ gu gw gb g21_ gy0 (Nat.le_refl _) h0 hg1_ hg2_ hg3_ hg4_ a5 a6 b6 b7 b8 hg21_ hfn0 hsc0 hgy0 (fun w hw => by rcases (show w = 0 ∨ w = 1 by omega) with rfl | rfl; (rw [hkA]; exact hAk); (rw [hkB]; exact hBk)) hsb x, ?_⟩
    intro v2 ad2' ct2' n2' hq
    obtain ⟨rfl, rfl, q, rfl, hq⟩ := hq
    rw [hkA, hkB] at hq
    rcases hq with ⟨h2, -⟩ | ⟨-, h2, -⟩ | ⟨-, -, -, w2, hw2, hxw2, hqt, F, gq_, gl_, go_, gt_, gu_, gw_, gb_, wh_, fn_, sc_, gy_, e0, eq1, eq2, eq3, eq4, eq9, eq10, eq11, eq21, eq22, eq23, eq24, f12_, f13_, f14_, f18_, f19_, hfF, hgb_, hres_, hr_⟩
    · exact absurd hin h2
    · omega
    · obtain rfl := (nI_eq (by omega) (by omega)).mp (hxw.symm.trans hxw2)
      have hqr : q = r := Int32.toInt_inj.mp (hqt.trans hrt.symm)
      obtain ⟨z1, p1, q1, z2, p2, q2, i82, i83, i84, i85, i86, i87, hH1, hH2, hz1, hz2, hO1, hO2⟩ := id hSS
      have hs2 : ∀ i, i < kA + kB → lbN w fs kA kB i ≤ 2000 := fun i hi => by have := lbV_bd (w := w) (k := i) hAk hBk hi hsb; unfold lbN; omega
      have hab : ∀ j, j < kA + kB → lbA w fs kA kB j ≤ 200000 := fun j hj => by have q1 := lbV_bd (w := w) (k := j) hAk hBk hj hsb; have q2 := lbA_is q1.2.1; omega
      have hws : sumF (wN (lbN w fs kA kB) (kA + kB) kA) 30001 = ch (kA + kB) kA := wN_sum (kA + kB) kA 30001 hs2 (by omega)
      have hgb2 : ∀ k, k < 30001 → gb_ k = (wN (lbN w fs kA kB) (kA + kB) kA) k := fun k hk => hgb_ k hk
      have hsg : sumF gb_ 30001 = sumF (wN (lbN w fs kA kB) (kA + kB) kA) 30001 := sumF_congr _ hgb2
      have hres_ : ∀ t, t < 4 → okN gu_ (40 * t) ∧ okN gw_ (40 * t) ∧ nv gu_ (40 * t) = (fun t => (fcS ((kA + kB : Nat) : Int) ((kA : Int) * sumI (lbV w fs kA kB) (kA + kB)) (sumI (lbV w fs kA kB) kA) (lbL w * (kA : Int)) (wN (lbN w fs kA kB) (kA + kB) kA) 30001 t) / Nat.gcd (fcS ((kA + kB : Nat) : Int) ((kA : Int) * sumI (lbV w fs kA kB) (kA + kB)) (sumI (lbV w fs kA kB) kA) (lbL w * (kA : Int)) (wN (lbN w fs kA kB) (kA + kB) kA) 30001 t) (sumF (wN (lbN w fs kA kB) (kA + kB) kA) 30001)) t ∧ nv gw_ (40 * t) = (fun t => sumF (wN (lbN w fs kA kB) (kA + kB) kA) 30001 / Nat.gcd (fcS ((kA + kB : Nat) : Int) ((kA : Int) * sumI (lbV w fs kA kB) (kA + kB)) (sumI (lbV w fs kA kB) kA) (lbL w * (kA : Int)) (wN (lbN w fs kA kB) (kA + kB) kA) 30001 t) (sumF (wN (lbN w fs kA kB) (kA + kB) kA) 30001)) t := fun t ht => by
        obtain ⟨o1, o2, o3, o4⟩ := hres_ t ht
        rw [fcS_cg hgb2, hsg] at o3 o4
        exact ⟨o1, o2, o3, o4⟩
      have hok4 : ∀ t, 0 < (fun t => sumF (wN (lbN w fs kA kB) (kA + kB) kA) 30001 / Nat.gcd (fcS ((kA + kB : Nat) : Int) ((kA : Int) * sumI (lbV w fs kA kB) (kA + kB)) (sumI (lbV w fs kA kB) kA) (lbL w * (kA : Int)) (wN (lbN w fs kA kB) (kA + kB) kA) 30001 t) (sumF (wN (lbN w fs kA kB) (kA + kB) kA) 30001)) t ∧ (fun t => (fcS ((kA + kB : Nat) : Int) ((kA : Int) * sumI (lbV w fs kA kB) (kA + kB)) (sumI (lbV w fs kA kB) kA) (lbL w * (kA : Int)) (wN (lbN w fs kA kB) (kA + kB) kA) 30001 t) / Nat.gcd (fcS ((kA + kB : Nat) : Int) ((kA : Int) * sumI (lbV w fs kA kB) (kA + kB)) (sumI (lbV w fs kA kB) kA) (lbL w * (kA : Int)) (wN (lbN w fs kA kB) (kA + kB) kA) 30001 t) (sumF (wN (lbN w fs kA kB) (kA + kB) kA) 30001)) t ≤ (fun t => sumF (wN (lbN w fs kA kB) (kA + kB) kA) 30001 / Nat.gcd (fcS ((kA + kB : Nat) : Int) ((kA : Int) * sumI (lbV w fs kA kB) (kA + kB)) (sumI (lbV w fs kA kB) kA) (lbL w * (kA : Int)) (wN (lbN w fs kA kB) (kA + kB) kA) 30001 t) (sumF (wN (lbN w fs kA kB) (kA + kB) kA) 30001)) t ∧ (fun t => (fcS ((kA + kB : Nat) : Int) ((kA : Int) * sumI (lbV w fs kA kB) (kA + kB)) (sumI (lbV w fs kA kB) kA) (lbL w * (kA : Int)) (wN (lbN w fs kA kB) (kA + kB) kA) 30001 t) / Nat.gcd (fcS ((kA + kB : Nat) : Int) ((kA : Int) * sumI (lbV w fs kA kB) (kA + kB)) (sumI (lbV w fs kA kB) kA) (lbL w * (kA : Int)) (wN (lbN w fs kA kB) (kA + kB) kA) 30001 t) (sumF (wN (lbN w fs kA kB) (kA + kB) kA) 30001)) t < 2 ^ 180 ∧ (fun t => sumF (wN (lbN w fs kA kB) (kA + kB) kA) 30001 / Nat.gcd (fcS ((kA + kB : Nat) : Int) ((kA : Int) * sumI (lbV w fs kA kB) (kA + kB)) (sumI (lbV w fs kA kB) kA) (lbL w * (kA : Int)) (wN (lbN w fs kA kB) (kA + kB) kA) 30001 t) (sumF (wN (lbN w fs kA kB) (kA + kB) kA) 30001)) t < 2 ^ 180 := fun t => fr_ok fcS_le (by rw [hws]; exact ch_pos (by omega)) (by rw [hws]; exact Nat.lt_of_le_of_lt (ch_30 (by omega)) (by decide +kernel))
      have hge12 : 0 ≤ F 12 := by rw [f12_]; exact ge0.mpr (by rw [nI_toInt (by omega)]; omega)
      have hbb := lbL_b (w := w) hAk
      refine ⟨rfl, rfl, by rw [hqr], ⟨_, NL, (lbE1 w fs kA kB N1), (lbE2 w fs kA kB N2), (hc 0 (by decide)).trans (hx.trans (xO_cg (fun r h => hAd r (by omega))).symm), e0, (by rw [hms]; omega), hNL, (by rw [hAd 2 (by decide), hc 1 (by decide), hc 2 (by decide), hr_ 5 (by decide) (by decide) (by decide) (by decide) (by decide) (by decide) (by decide) (by decide) (by decide) (by decide) (by decide) (by decide), hfF 4 (by decide) (by decide) (by decide) (by decide) (by decide) (by decide), hfF 5 (by decide) (by decide) (by decide) (by decide) (by decide) (by decide), hfF 7 (by decide) (by decide) (by decide) (by decide) (by decide) (by decide)]; exact hG), (by rw [hAd 4 (by decide), hAd 6 (by decide), hc 3 (by decide), hc 4 (by decide), hc 5 (by decide), hc 6 (by decide), hr_ 6 (by decide) (by decide) (by decide) (by decide) (by decide) (by decide) (by decide) (by decide) (by decide) (by decide) (by decide) (by decide), hr_ 7 (by decide) (by decide) (by decide) (by decide) (by decide) (by decide) (by decide) (by decide) (by decide) (by decide) (by decide) (by decide)]; exact hSm), (by rw [hAd 8 (by decide), hc 7 (by decide), hc 8 (by decide), hr_ 8 (by decide) (by decide) (by decide) (by decide) (by decide) (by decide) (by decide) (by decide) (by decide) (by decide) (by decide) (by decide), hfF 11 (by decide) (by decide) (by decide) (by decide) (by decide) (by decide)]; exact hD), (by rw [hAd 10 (by decide), hc 9 (by decide), hc 10 (by decide), hr_ 31 (by decide) (by decide) (by decide) (by decide) (by decide) (by decide) (by decide) (by decide) (by decide) (by decide) (by decide) (by decide), hfF 45 (by decide) (by decide) (by decide) (by decide) (by decide) (by decide)]; exact hK), hW.move (fun r h1 h2 => hAd r (by omega)) (fun r h1 h2 => hc r (by omega)), (by rw [hAd 80 (by decide), hc 79 (by decide), hc 80 (by decide), hr_ 16 (by decide) (by decide) (by decide) (by decide) (by decide) (by decide) (by decide) (by decide) (by decide) (by decide) (by decide) (by decide), hr_ 17 (by decide) (by decide) (by decide) (by decide) (by decide) (by decide) (by decide) (by decide) (by decide) (by decide) (by decide) (by decide), hfF 25 (by decide) (by decide) (by decide) (by decide) (by decide) (by decide), hfF 26 (by decide) (by decide) (by decide) (by decide) (by decide) (by decide), hfF 27 (by decide) (by decide) (by decide) (by decide) (by decide) (by decide)]; exact hC), ⟨⟨_, _, _, _, _, e81⟩, ⟨z1, z2, p1, q1, p2, q2, i82, i83, i84, i85, i86, i87⟩, hO1, hO2, 1, nI (1 + w), r, nI (kA + kB), (fun t => (fcS ((kA + kB : Nat) : Int) ((kA : Int) * sumI (lbV w fs kA kB) (kA + kB)) (sumI (lbV w fs kA kB) kA) (lbL w * (kA : Int)) (wN (lbN w fs kA kB) (kA + kB) kA) 30001 t) / Nat.gcd (fcS ((kA + kB : Nat) : Int) ((kA : Int) * sumI (lbV w fs kA kB) (kA + kB)) (sumI (lbV w fs kA kB) kA) (lbL w * (kA : Int)) (wN (lbN w fs kA kB) (kA + kB) kA) 30001 t) (sumF (wN (lbN w fs kA kB) (kA + kB) kA) 30001)), (fun t => sumF (wN (lbN w fs kA kB) (kA + kB) kA) 30001 / Nat.gcd (fcS ((kA + kB : Nat) : Int) ((kA : Int) * sumI (lbV w fs kA kB) (kA + kB)) (sumI (lbV w fs kA kB) kA) (lbL w * (kA : Int)) (wN (lbN w fs kA kB) (kA + kB) kA) 30001 t) (sumF (wN (lbN w fs kA kB) (kA + kB) kA) 30001)), gu_, gw_, gb_, 30001, e88, (hc 89 (by decide)).trans (b2.trans (by rw [show (fun i => some (ad' (90 + 5 * i))) = (fun i => some (ad (90 + 5 * i))) from funext fun i => by rw [hAd _ (by omega)]])), Or.inr rfl, hfc, fun t ht => ⟨(hok4 t).2.2.1, (hok4 t).2.2.2⟩, eq9, eq10, eq11, f18_, by decide, fun h => absurd h (by decide), fun _ => ⟨f12_, f13_.trans hqr, f14_, hge12, fun t ht => ⟨(hres_ t ht).1, (hres_ t ht).2.1, (hres_ t ht).2.2.1, (hres_ t ht).2.2.2, (hok4 t).1, (hok4 t).2.1⟩, fun _ => ⟨⟨_, _, _, _, _, (lbA w fs kA kB), kA + kB, _, _, ((kA * 131072 : Nat) : Int), e81, hSS, by omega, hab, nI_toInt (by omega), by omega, fun v hv => ?_⟩, by rw [f19_]; omega, by rw [f19_]; omega⟩⟩⟩, hE.move (fun r h1 h2 => hAd r (by omega)) (fun r h1 h2 => hc r (by omega)), (by rw [hfF 40 (by decide) (by decide) (by decide) (by decide) (by decide) (by decide)]; exact hN.move (fun r h1 => hAd r (by omega)) (fun r h1 h2 => hc r (by omega)) (hr_ 26 (by decide) (by decide) (by decide) (by decide) (by decide) (by decide) (by decide) (by decide) (by decide) (by decide) (by decide) (by decide)) (hr_ 27 (by decide) (by decide) (by decide) (by decide) (by decide) (by decide) (by decide) (by decide) (by decide) (by decide) (by decide) (by decide)) (by obtain ⟨_, _, _, _, _, _, ro, _, _, _, _, _, _, _, _, hro, _⟩ := hN; exact ⟨ro, (hr_ 28 (by decide) (by decide) (by decide) (by decide) (by decide) (by decide) (by decide) (by decide) (by decide) (by decide) (by decide) (by decide)).trans hro⟩)), hX.upd (fun r hr => by rcases hr with rfl | rfl | rfl | rfl | rfl | rfl | rfl | rfl | rfl <;> first | exact Or.inr ⟨_, eq1⟩ | exact Or.inr ⟨_, eq2⟩ | exact Or.inr ⟨_, eq3⟩ | exact Or.inr ⟨_, eq4⟩ | exact Or.inr ⟨_, eq21⟩ | exact Or.inl (hr_ _ (by decide) (by decide) (by decide) (by decide) (by decide) (by decide) (by decide) (by decide) (by decide) (by decide) (by decide) (by decide))) (fun r hr => Or.inl (hr_ r (by omega) (by omega) (by omega) (by omega) (by omega) (by omega) (by omega) (by omega) (by omega) (by omega) (by omega) (by omega))) (fun r hr => Or.inl (hr_ r (by omega) (by omega) (by omega) (by omega) (by omega) (by omega) (by omega) (by omega) (by omega) (by omega) (by omega) (by omega))) (fun r hr => by rcases hr with rfl | rfl <;> first | exact Or.inr ⟨_, eq22⟩ | exact Or.inr ⟨_, eq23⟩ | exact Or.inl (hr_ _ (by decide) (by decide) (by decide) (by decide) (by decide) (by decide) (by decide) (by decide) (by decide) (by decide) (by decide) (by decide))) (Or.inr ⟨_, eq24⟩) (fun r hr => Or.inl (hr_ r (by omega) (by omega) (by omega) (by omega) (by omega) (by omega) (by omega) (by omega) (by omega) (by omega) (by omega) (by omega))) (Or.inl (hr_ 32 (by decide) (by decide) (by decide) (by decide) (by decide) (by decide) (by decide) (by decide) (by decide) (by decide) (by decide) (by decide)))⟩⟩
      rw [f19_, ← lab_off (w := w)]
      rw [show sumF (fcJ v (lbL w * (kA : Int)) gb_) 30001 = sumF (fcJ v (lbL w * (kA : Int)) (wN (lbN w fs kA kB) (kA + kB) kA)) 30001 from sumF_congr _ (fun k hk => by unfold fcJ; rw [hgb2 k hk])]
      exact lab_ex (s := lbN w fs kA kB) hs2 hAk hA0 (by unfold lbc; split <;> omega) (by omega) (by omega)
set_option maxHeartbeats 4000000 in
set_option maxRecDepth 100000 in
theorem T_signs (B : gB) (x : Int32) : StI B (J B) yX11_signs cX11_signs 8 yX12_signs cX12_signs 8 [.int x] := by
  intro ad ct ad2 ct2 S hJ
  have hJ0 := hJ
  have hbd := hJ0.bd
  obtain ⟨f, NL, N1, N2, hx, h0, hS, hNL, hG, hSm, hD, hK, hW, hC, hR, hE, hN, hX⟩ := hJ
  have hDz := hD
  have hRz := hR
  obtain ⟨kD, fD, fd, d1, d2, d3, d4, hDk, hfD, hdb⟩ := hDz
  obtain ⟨⟨nx, mk, off, ah, al, hso⟩, ⟨sz1, sz2, s1, t1, s2, t2, h82, h83, h84, h85, h86, h87⟩, hL1, hL2, th, te, sta, ask, u, l, gu, gw, gb, SS_, b1, b2, hth, hF, hFb, b6, b7, b8, b9, hS6, hth0, hth1⟩ := hRz
  obtain ⟨g1_, hg1_⟩ := hX.1 1 (by decide)
  obtain ⟨g2_, hg2_⟩ := hX.1 2 (by decide)
  obtain ⟨g3_, hg3_⟩ := hX.1 3 (by decide)
  obtain ⟨g4_, hg4_⟩ := hX.1 4 (by decide)
  obtain ⟨g21_, hg21_⟩ := hX.1 21 (by decide)
  obtain ⟨fn0, hfn0⟩ := hX.2.2.2.1 22 (Or.inl rfl)
  obtain ⟨sc0, hsc0⟩ := hX.2.2.2.1 23 (Or.inr rfl)
  have hnk : nzN fd kD ≤ kD := gCnt_le _
  have hE1 : okL (sgE1 x.toInt.toNat fd kD N1) := tkN1_ok hL1 _ (by omega)
  have hE2 : okL (sgE2 x.toInt.toNat fd kD N2) := tkN2_ok hL2 _ (by omega)
  have hE1b := okL_le hE1
  have hE2b := okL_le hE2
  have hE1c : N1 ≤ sgE1 x.toInt.toNat fd kD N1 := tkN1_le _
  have hE2c : N2 ≤ sgE2 x.toInt.toNat fd kD N2 := tkN2_le _
  have hbd2 : S + sgMs x fd kD N1 N2 ≤ 502144 := by unfold sgMs; split <;> omega
  refine ⟨6, 150, 60, (sgMs x fd kD N1 N2), _, _, by decide, by decide, by decide, hbd2, hx, c_X11_signs B ad ct 178 kD fD fd hx d1 d2 (Nat.le_refl _) hDk hfD hdb nx mk off ah al hso sz1 N1 sz2 N2 s1 t1 s2 t2 h82 h83 h84 h85 h86 h87 hL1 hL2 th te sta ask b1 b2 (fun t ht => ⟨_, _, hF t ht⟩) x, ?_⟩
  intro v ad' ct' n' hp
  obtain ⟨rfl, r, rfl, hr⟩ := hp
  rcases hr with ⟨hno, hr, ea, rfl⟩ | ⟨hin, hz, hr, ea, rfl⟩ | ⟨hin, hnp, w, hw, hxw, hrt, hAd, e81, hSS, e88, hfc, hc⟩
  · obtain rfl := ea.symm
    have hms0 : sgMs x fd kD N1 N2 = 0 := if_neg (fun h => hno h.1)
    refine ⟨rfl, rfl, r, rfl, 5, 134, _, _, by decide, by decide, h0, c_X12_signs B ad2 ct2 33 f fd fn0 sc0 g1_ g2_ g3_ g4_ gu gw gb g21_ (Nat.le_refl _) h0 hg1_ hg2_ hg3_ hg4_ d3 b6 b7 b8 hg21_ hfn0 hsc0 kD d4 hDk hdb x, ?_⟩
    intro v2 ad2' ct2' n2' hq
    obtain ⟨rfl, rfl, q, rfl, hq⟩ := hq
    rw [hms0]
    rcases hq with ⟨-, rfl, rfl⟩ | ⟨h2, -⟩ | ⟨h2, -⟩
    · exact ⟨rfl, rfl, by rw [hr], hJ0⟩
    · exact absurd h2 hno
    · exact absurd h2 hno
  · obtain rfl := ea.symm
    have hms0 : sgMs x fd kD N1 N2 = 0 := if_neg (fun h => by omega)
    refine ⟨rfl, rfl, r, rfl, 5, 134, _, _, by decide, by decide, h0, c_X12_signs B ad2 ct2 33 f fd fn0 sc0 g1_ g2_ g3_ g4_ gu gw gb g21_ (Nat.le_refl _) h0 hg1_ hg2_ hg3_ hg4_ d3 b6 b7 b8 hg21_ hfn0 hsc0 kD d4 hDk hdb x, ?_⟩
    intro v2 ad2' ct2' n2' hq
    obtain ⟨rfl, rfl, q, rfl, hq⟩ := hq
    rw [hms0]
    rcases hq with ⟨h2, -⟩ | ⟨-, -, rfl, m_, fn_, e0, e22, hr_⟩ | ⟨-, h2, -⟩
    · exact absurd hin h2
    · have hf : ∀ j, j ≠ 34 → va_up f 34 (nI m_) j = f j := fun j h => va_up_ne _ _ h
      exact ⟨rfl, rfl, by rw [hr], ⟨_, NL, N1, N2, hx, e0, hS, hNL, (by rw [hr_ 5 (by decide) (by decide), hf 4 (by decide), hf 5 (by decide), hf 7 (by decide)]; exact hG), (by rw [hr_ 6 (by decide) (by decide), hr_ 7 (by decide) (by decide)]; exact hSm), (by rw [hr_ 8 (by decide) (by decide), hf 11 (by decide)]; exact hD), (by rw [hr_ 31 (by decide) (by decide), hf 45 (by decide)]; exact hK), hW, (by rw [hr_ 16 (by decide) (by decide), hr_ 17 (by decide) (by decide), hf 25 (by decide), hf 26 (by decide), hf 27 (by decide)]; exact hC), (by rw [hf 12 (by decide), hf 13 (by decide), hf 14 (by decide), hf 18 (by decide), hf 19 (by decide)]; exact hR.move (fun _ _ => rfl) (fun r h1 h2 => rfl) (hr_ 9 (by decide) (by decide)) (hr_ 10 (by decide) (by decide)) (hr_ 11 (by decide) (by decide))), hE, (by rw [hf 40 (by decide)]; exact hN.move (fun _ _ => rfl) (fun r h1 h2 => rfl) (hr_ 26 (by decide) (by decide)) (hr_ 27 (by decide) (by decide)) (by obtain ⟨_, _, _, _, _, _, ro, _, _, _, _, _, _, _, _, hro, _⟩ := hN; exact ⟨ro, (hr_ 28 (by decide) (by decide)).trans hro⟩)), hX.upd (fun r hr => Or.inl (hr_ r (by omega) (by omega))) (fun r hr => Or.inl (hr_ r (by omega) (by omega))) (fun r hr => Or.inl (hr_ r (by omega) (by omega))) (fun r hr => by rcases hr with rfl | rfl <;> first | exact Or.inr ⟨_, e22⟩ | exact Or.inl (hr_ _ (by decide) (by decide))) (Or.inl (hr_ 24 (by decide) (by decide))) (fun r hr => Or.inl (hr_ r (by omega) (by omega))) (Or.inl (hr_ 32 (by decide) (by decide)))⟩⟩
    · omega
  · have hxn : x.toInt.toNat = w := by rw [hxw, nI_toInt (by omega)]; exact Int.toNat_natCast w
    rw [hxn] at hE1 hE2 hE1b hE2b hE1c hE2c
    have hms : sgMs x fd kD N1 N2 = 4 * (sgE1 w fd kD N1 - N1) + 4 * (sgE2 w fd kD N2 - N2) := by unfold sgMs; rw [if_pos ⟨hin, hnp⟩, hxn]
    refine ⟨rfl, hAd 0 (by decide), r, rfl, 5, 134, _, _, by decide, by decide, h0, c_X12_signs B ad2 ct2 33 f fd fn0 sc0 g1_ g2_ g3_ g4_ gu gw gb g21_ (Nat.le_refl _) h0 hg1_ hg2_ hg3_ hg4_ d3 b6 b7 b8 hg21_ hfn0 hsc0 kD d4 hDk hdb x, ?_⟩
    intro v2 ad2' ct2' n2' hq
    obtain ⟨rfl, rfl, q, rfl, hq⟩ := hq
    rcases hq with ⟨h2, -⟩ | ⟨-, h2, -⟩ | ⟨-, -, w2, hw2, hxw2, hqt, F, gq_, gl_, go_, gt_, gu_, gw_, gb_, wh_, fn_, sc_, e0, eq1, eq2, eq3, eq4, eq9, eq10, eq11, eq21, eq22, eq23, f12_, f13_, f14_, f18_, f19_, hfF, hgb_, hres_, hr_⟩
    · exact absurd hin h2
    · omega
    · obtain rfl := (nI_eq (by omega) (by omega)).mp (hxw.symm.trans hxw2)
      obtain rfl := hrt
      obtain rfl := hqt
      obtain ⟨z1, p1, q1, z2, p2, q2, i82, i83, i84, i85, i86, i87, hH1, hH2, hz1, hz2, hO1, hO2⟩ := id hSS
      have hVb : ∀ j, j < kD → sgV w fd kD j ≤ 2000 := fun j hj => sgV_bd hj hDk hdb
      have hab : ∀ i, (sgA (sgV w fd kD) fd kD) i ≤ 2000 := sgA_le kD hVb
      have haM : sumF (sgA (sgV w fd kD) fd kD) (nzN fd kD) ≤ 60000 := Nat.le_trans (sumF_le _ (fun j _ => hab j)) (show nzN fd kD * 2000 ≤ 60000 by omega)
      have hgb : (bZ (sgV w fd kD) fd kD) = cntS (sgA (sgV w fd kD) fd kD) (nzN fd kD) := funext fun s => by rw [cnt_bN, bN_bZ kD s (fun j hj hz => sgA_at hz hj)]
      have hws : sumF (bZ (sgV w fd kD) fd kD) 60001 = 2 ^ nzN fd kD := by rw [hgb]; exact cnt_sum _ _ (by omega)
      have h30 : 2 ^ nzN fd kD ≤ 1073741824 := Nat.pow_le_pow_right (show 0 < 2 by decide) (show nzN fd kD ≤ 30 by omega)
      have hgb2 : ∀ k, k < 60001 → gb_ k = (bZ (sgV w fd kD) fd kD) k := fun k hk => hgb_ k hk
      have hsg : sumF gb_ 60001 = sumF (bZ (sgV w fd kD) fd kD) 60001 := sumF_congr _ hgb2
      have hres_ : ∀ t, t < 4 → okN gu_ (40 * t) ∧ okN gw_ (40 * t) ∧ nv gu_ (40 * t) = (fun t => (fcS 2 (((sumF (sgT w fd kD) kD) : Nat) : Int) (((sumF (sgO w fd kD) kD) : Nat) : Int) 0 (bZ (sgV w fd kD) fd kD) 60001 t) / Nat.gcd (fcS 2 (((sumF (sgT w fd kD) kD) : Nat) : Int) (((sumF (sgO w fd kD) kD) : Nat) : Int) 0 (bZ (sgV w fd kD) fd kD) 60001 t) (sumF (bZ (sgV w fd kD) fd kD) 60001)) t ∧ nv gw_ (40 * t) = (fun t => sumF (bZ (sgV w fd kD) fd kD) 60001 / Nat.gcd (fcS 2 (((sumF (sgT w fd kD) kD) : Nat) : Int) (((sumF (sgO w fd kD) kD) : Nat) : Int) 0 (bZ (sgV w fd kD) fd kD) 60001 t) (sumF (bZ (sgV w fd kD) fd kD) 60001)) t := fun t ht => by
        obtain ⟨o1, o2, o3, o4⟩ := hres_ t ht
        rw [fcS_cg hgb2, hsg] at o3 o4
        exact ⟨o1, o2, o3, o4⟩
      have hok4 : ∀ t, 0 < (fun t => sumF (bZ (sgV w fd kD) fd kD) 60001 / Nat.gcd (fcS 2 (((sumF (sgT w fd kD) kD) : Nat) : Int) (((sumF (sgO w fd kD) kD) : Nat) : Int) 0 (bZ (sgV w fd kD) fd kD) 60001 t) (sumF (bZ (sgV w fd kD) fd kD) 60001)) t ∧ (fun t => (fcS 2 (((sumF (sgT w fd kD) kD) : Nat) : Int) (((sumF (sgO w fd kD) kD) : Nat) : Int) 0 (bZ (sgV w fd kD) fd kD) 60001 t) / Nat.gcd (fcS 2 (((sumF (sgT w fd kD) kD) : Nat) : Int) (((sumF (sgO w fd kD) kD) : Nat) : Int) 0 (bZ (sgV w fd kD) fd kD) 60001 t) (sumF (bZ (sgV w fd kD) fd kD) 60001)) t ≤ (fun t => sumF (bZ (sgV w fd kD) fd kD) 60001 / Nat.gcd (fcS 2 (((sumF (sgT w fd kD) kD) : Nat) : Int) (((sumF (sgO w fd kD) kD) : Nat) : Int) 0 (bZ (sgV w fd kD) fd kD) 60001 t) (sumF (bZ (sgV w fd kD) fd kD) 60001)) t ∧ (fun t => (fcS 2 (((sumF (sgT w fd kD) kD) : Nat) : Int) (((sumF (sgO w fd kD) kD) : Nat) : Int) 0 (bZ (sgV w fd kD) fd kD) 60001 t) / Nat.gcd (fcS 2 (((sumF (sgT w fd kD) kD) : Nat) : Int) (((sumF (sgO w fd kD) kD) : Nat) : Int) 0 (bZ (sgV w fd kD) fd kD) 60001 t) (sumF (bZ (sgV w fd kD) fd kD) 60001)) t < 2 ^ 180 ∧ (fun t => sumF (bZ (sgV w fd kD) fd kD) 60001 / Nat.gcd (fcS 2 (((sumF (sgT w fd kD) kD) : Nat) : Int) (((sumF (sgO w fd kD) kD) : Nat) : Int) 0 (bZ (sgV w fd kD) fd kD) 60001 t) (sumF (bZ (sgV w fd kD) fd kD) 60001)) t < 2 ^ 180 := fun t => fr_ok fcS_le (by rw [hws]; exact Nat.pow_pos (by decide)) (by rw [hws]; exact Nat.lt_of_le_of_lt h30 (by decide +kernel))
      have hge12 : 0 ≤ F 12 := by rw [f12_]; exact ge0.mpr (by rw [nI_toInt (by omega)]; omega)
      refine ⟨rfl, rfl, rfl, ⟨_, NL, (sgE1 w fd kD N1), (sgE2 w fd kD N2), (hc 0 (by decide)).trans (hx.trans (xO_cg (fun r h => hAd r (by omega))).symm), e0, (by rw [hms]; omega), hNL, (by rw [hAd 2 (by decide), hc 1 (by decide), hc 2 (by decide), hr_ 5 (by decide) (by decide) (by decide) (by decide) (by decide) (by decide) (by decide) (by decide) (by decide) (by decide) (by decide), hfF 4 (by decide) (by decide) (by decide) (by decide) (by decide) (by decide), hfF 5 (by decide) (by decide) (by decide) (by decide) (by decide) (by decide), hfF 7 (by decide) (by decide) (by decide) (by decide) (by decide) (by decide)]; exact hG), (by rw [hAd 4 (by decide), hAd 6 (by decide), hc 3 (by decide), hc 4 (by decide), hc 5 (by decide), hc 6 (by decide), hr_ 6 (by decide) (by decide) (by decide) (by decide) (by decide) (by decide) (by decide) (by decide) (by decide) (by decide) (by decide), hr_ 7 (by decide) (by decide) (by decide) (by decide) (by decide) (by decide) (by decide) (by decide) (by decide) (by decide) (by decide)]; exact hSm), (by rw [hAd 8 (by decide), hc 7 (by decide), hc 8 (by decide), hr_ 8 (by decide) (by decide) (by decide) (by decide) (by decide) (by decide) (by decide) (by decide) (by decide) (by decide) (by decide), hfF 11 (by decide) (by decide) (by decide) (by decide) (by decide) (by decide)]; exact hD), (by rw [hAd 10 (by decide), hc 9 (by decide), hc 10 (by decide), hr_ 31 (by decide) (by decide) (by decide) (by decide) (by decide) (by decide) (by decide) (by decide) (by decide) (by decide) (by decide), hfF 45 (by decide) (by decide) (by decide) (by decide) (by decide) (by decide)]; exact hK), hW.move (fun r h1 h2 => hAd r (by omega)) (fun r h1 h2 => hc r (by omega)), (by rw [hAd 80 (by decide), hc 79 (by decide), hc 80 (by decide), hr_ 16 (by decide) (by decide) (by decide) (by decide) (by decide) (by decide) (by decide) (by decide) (by decide) (by decide) (by decide), hr_ 17 (by decide) (by decide) (by decide) (by decide) (by decide) (by decide) (by decide) (by decide) (by decide) (by decide) (by decide), hfF 25 (by decide) (by decide) (by decide) (by decide) (by decide) (by decide), hfF 26 (by decide) (by decide) (by decide) (by decide) (by decide) (by decide), hfF 27 (by decide) (by decide) (by decide) (by decide) (by decide) (by decide)]; exact hC), ⟨⟨_, _, _, _, _, e81⟩, ⟨z1, z2, p1, q1, p2, q2, i82, i83, i84, i85, i86, i87⟩, hO1, hO2, 1, nI (3 + w), nI (sumF (sgO w fd kD) kD), nI (nzN fd kD), (fun t => (fcS 2 (((sumF (sgT w fd kD) kD) : Nat) : Int) (((sumF (sgO w fd kD) kD) : Nat) : Int) 0 (bZ (sgV w fd kD) fd kD) 60001 t) / Nat.gcd (fcS 2 (((sumF (sgT w fd kD) kD) : Nat) : Int) (((sumF (sgO w fd kD) kD) : Nat) : Int) 0 (bZ (sgV w fd kD) fd kD) 60001 t) (sumF (bZ (sgV w fd kD) fd kD) 60001)), (fun t => sumF (bZ (sgV w fd kD) fd kD) 60001 / Nat.gcd (fcS 2 (((sumF (sgT w fd kD) kD) : Nat) : Int) (((sumF (sgO w fd kD) kD) : Nat) : Int) 0 (bZ (sgV w fd kD) fd kD) 60001 t) (sumF (bZ (sgV w fd kD) fd kD) 60001)), gu_, gw_, gb_, 60001, e88, (hc 89 (by decide)).trans (b2.trans (by rw [show (fun i => some (ad' (90 + 5 * i))) = (fun i => some (ad (90 + 5 * i))) from funext fun i => by rw [hAd _ (by omega)]])), Or.inr rfl, hfc, fun t ht => ⟨(hok4 t).2.2.1, (hok4 t).2.2.2⟩, eq9, eq10, eq11, f18_, Nat.le_refl _, fun h => absurd h (by decide), fun _ => ⟨f12_, f13_, f14_, hge12, fun t ht => ⟨(hres_ t ht).1, (hres_ t ht).2.1, (hres_ t ht).2.2.1, (hres_ t ht).2.2.2, (hok4 t).1, (hok4 t).2.1⟩, fun _ => ⟨⟨_, _, _, _, _, (sgA (sgV w fd kD) fd kD), nzN fd kD, _, _, 0, e81, hSS, by omega, fun j _ => Nat.le_trans (hab j) (by decide), (show (nI 0).toInt = (0 : Int) by decide), by decide, fun v hv => ?_⟩, by rw [f19_, show (nI 0).toInt = (0 : Int) by decide]; decide, by rw [f19_, show (nI 0).toInt = (0 : Int) by decide]; decide⟩⟩⟩, hE.move (fun r h1 h2 => hAd r (by omega)) (fun r h1 h2 => hc r (by omega)), (by rw [hfF 40 (by decide) (by decide) (by decide) (by decide) (by decide) (by decide)]; exact hN.move (fun r h1 => hAd r (by omega)) (fun r h1 h2 => hc r (by omega)) (hr_ 26 (by decide) (by decide) (by decide) (by decide) (by decide) (by decide) (by decide) (by decide) (by decide) (by decide) (by decide)) (hr_ 27 (by decide) (by decide) (by decide) (by decide) (by decide) (by decide) (by decide) (by decide) (by decide) (by decide) (by decide)) (by obtain ⟨_, _, _, _, _, _, ro, _, _, _, _, _, _, _, _, hro, _⟩ := hN; exact ⟨ro, (hr_ 28 (by decide) (by decide) (by decide) (by decide) (by decide) (by decide) (by decide) (by decide) (by decide) (by decide) (by decide)).trans hro⟩)), hX.upd (fun r hr => by rcases hr with rfl | rfl | rfl | rfl | rfl | rfl | rfl | rfl | rfl <;> first | exact Or.inr ⟨_, eq1⟩ | exact Or.inr ⟨_, eq2⟩ | exact Or.inr ⟨_, eq3⟩ | exact Or.inr ⟨_, eq4⟩ | exact Or.inr ⟨_, eq21⟩ | exact Or.inl (hr_ _ (by decide) (by decide) (by decide) (by decide) (by decide) (by decide) (by decide) (by decide) (by decide) (by decide) (by decide))) (fun r hr => Or.inl (hr_ r (by omega) (by omega) (by omega) (by omega) (by omega) (by omega) (by omega) (by omega) (by omega) (by omega) (by omega))) (fun r hr => Or.inl (hr_ r (by omega) (by omega) (by omega) (by omega) (by omega) (by omega) (by omega) (by omega) (by omega) (by omega) (by omega))) (fun r hr => by rcases hr with rfl | rfl <;> first | exact Or.inr ⟨_, eq22⟩ | exact Or.inr ⟨_, eq23⟩ | exact Or.inl (hr_ _ (by decide) (by decide) (by decide) (by decide) (by decide) (by decide) (by decide) (by decide) (by decide) (by decide) (by decide))) (Or.inl (hr_ 24 (by decide) (by decide) (by decide) (by decide) (by decide) (by decide) (by decide) (by decide) (by decide) (by decide) (by decide))) (fun r hr => Or.inl (hr_ r (by omega) (by omega) (by omega) (by omega) (by omega) (by omega) (by omega) (by omega) (by omega) (by omega) (by omega))) (Or.inl (hr_ 32 (by decide) (by decide) (by decide) (by decide) (by decide) (by decide) (by decide) (by decide) (by decide) (by decide) (by decide)))⟩⟩
      rw [f19_, show (nI 0).toInt = (0 : Int) by decide, Int.zero_add]
      rw [show sumF (fcJ v 0 gb_) 60001 = sumF (fcJ v 0 (bZ (sgV w fd kD) fd kD)) 60001 from sumF_congr _ (fun k hk => by unfold fcJ; rw [hgb2 k hk]), hgb]
      exact sgn_ex (S := 60001) (by omega)
