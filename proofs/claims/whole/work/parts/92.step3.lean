theorem fcJ_at {v bs : Int} {gb : Nat → Nat} {S : Nat} : sumF (fcJ v bs gb) S = if 0 ≤ v - bs ∧ v - bs ≤ (S : Int) - 1 then gb (v - bs).toNat else 0 := by
  by_cases q : 0 ≤ v - bs ∧ v - bs ≤ (S : Int) - 1
  · rw [if_pos q]
    have e : ∀ t, t < S → fcJ v bs gb t = gb t * (if t = (v - bs).toNat then 1 else 0) := fun t _ => by
      unfold fcJ
      by_cases q2 : t = (v - bs).toNat
      · rw [if_pos (by omega), if_pos q2, Nat.mul_one]
      · rw [if_neg (by omega), if_neg q2, Nat.mul_zero]
    rw [sumF_congr _ e, pick_one (y := (v - bs).toNat) (P := fun t => t = (v - bs).toNat) (fun _ => Iff.rfl), if_pos (by omega)]
  · rw [if_neg q]
    exact sumF_zero _ (fun t ht => by unfold fcJ; exact if_neg (by omega))
set_option maxHeartbeats 4000000 in
theorem T_bits (B : gB) (x y : Int32) : StI B (J B) yX11_bits cX11_bits 4 yX12_bits cX12_bits 3 [.int x, .int y] := by
  intro ad ct ad2 ct2 S hJ
  have hJ0 := hJ
  have hbd := hJ0.bd
  obtain ⟨f, NL, N1, N2, hx, h0, hS, hNL, hG, hSm, hD, hK, hW, hC, hR, hE, hN, hX⟩ := hJ
  have hRz := hR
  obtain ⟨⟨nx, mk, off, ah, al, hso⟩, ⟨sz1, sz2, s1, t1, s2, t2, h82, h83, h84, h85, h86, h87⟩, hL1, hL2, th, te, sta, ask, u, l, gu, gw, gb, SS_, b1, b2, hth, hF, hFb, b6, b7, b8, b9, hS6, hth0, hth1⟩ := hRz
  have hres : 0 ≤ f 12 → ∀ t, t < 4 → okN gu (40 * t) ∧ okN gw (40 * t) := fun h t ht => by
    have hn0 : ¬ th = 0 := fun e => no_both (hth0 e) h
    have h2 := (hth1 hn0).2.2.2.2.1 t ht
    exact ⟨h2.1, h2.2.1⟩
  refine ⟨3, 63, 0, 0, _, _, by decide, by decide, by decide, hbd, hx, c_X11_bits B ad ct 178 (Nat.le_refl _) hx th te sta ask b1 b2 hth u l hF hFb x y, ?_⟩
  intro v ad' ct' n' hp
  obtain ⟨ea, rfl, r, rfl, rfl, hr⟩ := hp
  obtain rfl := ea.symm
  refine ⟨rfl, rfl, r, rfl, 2, 45, _, _, by decide, by decide, h0, c_X12_bits B ad2 ct2 33 f gu gw (Nat.le_refl _) h0 b6 b7 hres x y, ?_⟩
  intro v2 ad2' ct2' n2' hq
  obtain ⟨rfl, rfl, q, rfl, rfl, hq⟩ := hq
  rcases hr with ⟨h1, hr⟩ | ⟨h1, hno, hr⟩ | ⟨h1, t, ht, ex, hr⟩
  · rcases hq with ⟨-, hq⟩ | ⟨h2, -⟩ | ⟨h2, -⟩
    · exact ⟨rfl, rfl, by rw [hq, hr], hJ0⟩
    · exact (no_both (hth0 h1) h2).elim
    · exact (no_both (hth0 h1) h2).elim
  · have hge := (hth1 h1).2.2.2.1
    rcases hq with ⟨h2, -⟩ | ⟨-, -, hq⟩ | ⟨-, t, ht, ex, -⟩
    · exact (no_both h2 hge).elim
    · exact ⟨rfl, rfl, by rw [hq, hr], hJ0⟩
    · exact absurd (by rw [ex, nI_toInt (by omega)]; omega) hno
  · have hge := (hth1 h1).2.2.2.1
    rcases hq with ⟨h2, -⟩ | ⟨-, h2, -⟩ | ⟨-, t2, ht2, ex2, hq⟩
    · exact (no_both h2 hge).elim
    · exact absurd (by rw [ex, nI_toInt (by omega)]; omega) h2
    · obtain rfl := (nI_eq (by omega) (by omega)).mp (ex.symm.trans ex2)
      obtain ⟨-, -, hu, hl, hlp, hul⟩ := (hth1 h1).2.2.2.2.1 t ht
      rw [hu, hl] at hq
      rcases hr with ⟨h3, rfl⟩ | ⟨h3, rfl⟩ | ⟨h3, h4, rfl⟩
      · rcases hq with ⟨-, rfl⟩ | ⟨h5, -⟩ | ⟨h5, -⟩
        · exact ⟨rfl, rfl, rfl, hJ0⟩
        · exact absurd (h3.symm.trans h5) (by decide)
        · exact absurd h3 h5
      · rcases hq with ⟨h5, -⟩ | ⟨-, rfl⟩ | ⟨-, h5, -⟩
        · exact absurd (h5.symm.trans h3) (by decide)
        · exact ⟨rfl, rfl, rfl, hJ0⟩
        · exact absurd h3 h5
      · rcases hq with ⟨h5, -⟩ | ⟨h5, -⟩ | ⟨-, -, rfl⟩
        · exact absurd h5 h3
        · exact absurd h5 h4
        · exact ⟨rfl, rfl, rfl, hJ0⟩
set_option maxHeartbeats 4000000 in
theorem T_word (B : gB) (x y z : Int32) : StI B (J B) yX11_word cX11_word 5 yX12_word cX12_word 4 [.int x, .int y, .int z] := by
  intro ad ct ad2 ct2 S hJ
  have hJ0 := hJ
  have hbd := hJ0.bd
  obtain ⟨f, NL, N1, N2, hx, h0, hS, hNL, hG, hSm, hD, hK, hW, hC, hR, hE, hN, hX⟩ := hJ
  have hRz := hR
  obtain ⟨⟨nx, mk, off, ah, al, hso⟩, ⟨sz1, sz2, s1, t1, s2, t2, h82, h83, h84, h85, h86, h87⟩, hL1, hL2, th, te, sta, ask, u, l, gu, gw, gb, SS_, b1, b2, hth, hF, hFb, b6, b7, b8, b9, hS6, hth0, hth1⟩ := hRz
  have hres : 0 ≤ f 12 → ∀ t, t < 4 → okN gu (40 * t) ∧ okN gw (40 * t) := fun h t ht => by
    have hn0 : ¬ th = 0 := fun e => no_both (hth0 e) h
    have h2 := (hth1 hn0).2.2.2.2.1 t ht
    exact ⟨h2.1, h2.2.1⟩
  refine ⟨2, 43, 0, 0, _, _, by decide, by decide, by decide, hbd, hx, c_X11_word B ad ct 178 (Nat.le_refl _) hx th te sta ask b1 b2 hth u l hF hFb x y z, ?_⟩
  intro v ad' ct' n' hp
  obtain ⟨ea, rfl, r, rfl, rfl, hr⟩ := hp
  obtain rfl := ea.symm
  refine ⟨rfl, rfl, r, rfl, 2, 60, _, _, by decide, by decide, h0, c_X12_word B ad2 ct2 33 f gu gw (Nat.le_refl _) h0 b6 b7 hres x y z, ?_⟩
  intro v2 ad2' ct2' n2' hq
  obtain ⟨rfl, rfl, q, rfl, rfl, hq⟩ := hq
  rcases hr with ⟨h1, hr⟩ | ⟨h1, hno, hr⟩ | ⟨h1, t, ht, ex, hr⟩
  · rcases hq with ⟨-, hq⟩ | ⟨h2, -⟩ | ⟨h2, -⟩
    · exact ⟨rfl, rfl, by rw [hq, hr], hJ0⟩
    · exact (no_both (hth0 h1) h2).elim
    · exact (no_both (hth0 h1) h2).elim
  · have hge := (hth1 h1).2.2.2.1
    rcases hq with ⟨h2, -⟩ | ⟨-, -, hq⟩ | ⟨-, t, ht, ex, -⟩
    · exact (no_both h2 hge).elim
    · exact ⟨rfl, rfl, by rw [hq, hr], hJ0⟩
    · exact absurd (by rw [ex, nI_toInt (by omega)]; omega) hno
  · have hge := (hth1 h1).2.2.2.1
    rcases hq with ⟨h2, -⟩ | ⟨-, h2, -⟩ | ⟨-, t2, ht2, ex2, hq⟩
    · exact (no_both h2 hge).elim
    · exact absurd (by rw [ex, nI_toInt (by omega)]; omega) h2
    · obtain rfl := (nI_eq (by omega) (by omega)).mp (ex.symm.trans ex2)
      obtain ⟨-, -, hu, hl, hlp, hul⟩ := (hth1 h1).2.2.2.2.1 t ht
      rw [hu, hl] at hq
      rcases hr with ⟨h3, rfl⟩ | ⟨k, ez, hk, hr⟩
      · rcases hq with ⟨-, rfl⟩ | ⟨k2, ez2, hk2, hq⟩
        · exact ⟨rfl, rfl, rfl, hJ0⟩
        · refine absurd ⟨?_, ge0.mpr (by rw [ez2, nI_toInt hk2]; omega)⟩ h3
          rcases hq with ⟨h5, -⟩ | ⟨h5, -⟩
          · rw [z0.mp h5]; omega
          · rw [z1.mp h5]; omega
      · rcases hq with ⟨h3, -⟩ | ⟨k2, ez2, hk2, hq⟩
        · refine absurd ⟨?_, ge0.mpr (by rw [ez, nI_toInt hk]; omega)⟩ h3
          rcases hr with ⟨h5, -⟩ | ⟨h5, -⟩
          · rw [z0.mp h5]; omega
          · rw [z1.mp h5]; omega
        · obtain rfl := (nI_eq hk hk2).mp (ez.symm.trans ez2)
          rcases hr with ⟨h5, rfl⟩ | ⟨h5, rfl⟩
          · rcases hq with ⟨-, rfl⟩ | ⟨h6, -⟩
            · exact ⟨rfl, rfl, rfl, hJ0⟩
            · exact absurd (h5.symm.trans h6) (by decide)
          · rcases hq with ⟨h6, -⟩ | ⟨-, rfl⟩
            · exact absurd (h6.symm.trans h5) (by decide)
            · exact ⟨rfl, rfl, rfl, hJ0⟩
set_option maxHeartbeats 4000000 in
theorem T_check (B : gB) (x : Int32) : StI B (J B) yX11_check cX11_check 7 yX12_check cX12_check 6 [.int x] := by
  intro ad ct ad2 ct2 S hJ
  have hJ0 := hJ
  have hbd := hJ0.bd
  obtain ⟨f, NL, N1, N2, hx, h0, hS, hNL, hG, hSm, hD, hK, hW, hC, hR, hE, hN, hX⟩ := hJ
  have hRz := hR
  obtain ⟨⟨nx, mk, off, ah, al, hso⟩, ⟨sz1, sz2, s1, t1, s2, t2, h82, h83, h84, h85, h86, h87⟩, hL1, hL2, th, te, sta, ask, u, l, gu, gw, gb, SS_, b1, b2, hth, hF, hFb, b6, b7, b8, b9, hS6, hth0, hth1⟩ := hRz
  have hres : 0 ≤ f 12 → ∀ t, t < 4 → okN gu (40 * t) ∧ okN gw (40 * t) := fun h t ht => by
    have hn0 : ¬ th = 0 := fun e => no_both (hth0 e) h
    have h2 := (hth1 hn0).2.2.2.2.1 t ht
    exact ⟨h2.1, h2.2.1⟩
  have hKz := hK
  obtain ⟨kK, fK, fc, k1, k2, k3, k4, hKk, hfK⟩ := hKz
  refine ⟨5, 105, 0, 0, _, _, by decide, by decide, by decide, hbd, hx, c_X11_check B ad ct 178 (Nat.le_refl _) hx th te sta ask b1 b2 hth u l hF hFb kK fK k1 k2 hKk x, ?_⟩
  intro v ad' ct' n' hp
  obtain ⟨ea, rfl, r, rfl, rfl, hr⟩ := hp
  obtain rfl := ea.symm
  refine ⟨rfl, rfl, r, rfl, 2, 49, _, _, by decide, by decide, h0, c_X12_check B ad2 ct2 33 f gu gw (Nat.le_refl _) h0 b6 b7 hres fc k3 kK k4 hKk x, ?_⟩
  intro v2 ad2' ct2' n2' hq
  obtain ⟨rfl, rfl, q, rfl, rfl, hq⟩ := hq
  rcases hr with ⟨h1, hr⟩ | ⟨h1, hno, hr⟩ | ⟨h1, t, ht, ex, hr⟩
  · rcases hq with ⟨-, hq⟩ | ⟨h2, -⟩ | ⟨h2, -⟩
    · exact ⟨rfl, rfl, by rw [hq, hr], hJ0⟩
    · exact (no_both (hth0 h1) h2).elim
    · exact (no_both (hth0 h1) h2).elim
  · have hge := (hth1 h1).2.2.2.1
    rcases hq with ⟨h2, -⟩ | ⟨-, -, hq⟩ | ⟨-, t, ht, ex, -⟩
    · exact (no_both h2 hge).elim
    · exact ⟨rfl, rfl, by rw [hq, hr], hJ0⟩
    · exact absurd (by rw [ex, nI_toInt (by omega)]; omega) hno
  · have hge := (hth1 h1).2.2.2.1
    rcases hq with ⟨h2, -⟩ | ⟨-, h2, -⟩ | ⟨-, t2, ht2, ex2, hq⟩
    · exact (no_both h2 hge).elim
    · exact absurd (by rw [ex, nI_toInt (by omega)]; omega) h2
    · obtain rfl := (nI_eq (by omega) (by omega)).mp (ex.symm.trans ex2)
      obtain ⟨-, -, hu, hl, hlp, hul⟩ := (hth1 h1).2.2.2.2.1 t ht
      rw [hu, hl] at hq
      rcases hr with ⟨j, hj, hj1, hj2, rfl⟩ | ⟨hj1, rfl⟩
      · rcases hq with ⟨k2_, hk, hk1, hk2, rfl⟩ | ⟨hk1, rfl⟩
        · have e : j = k2_ := by
            rcases Nat.lt_trichotomy j k2_ with q | q | q
            · obtain ⟨e1, e2⟩ := hk1 j q
              rcases hj2 with h | h
              · omega
              · exact absurd (by rw [hfK j e1]; exact e2) h
            · exact q
            · obtain ⟨e1, e2⟩ := hj1 k2_ q
              rcases hk2 with h | h
              · omega
              · exact absurd (by rw [← hfK k2_ e1]; exact e2) h
          exact ⟨rfl, rfl, by rw [e], hJ0⟩
        · obtain ⟨e1, e2⟩ := hk1 j hj
          rcases hj2 with h | h
          · omega
          · exact absurd (by rw [hfK j e1]; exact e2) h
      · rcases hq with ⟨k2_, hk, hk1, hk2, rfl⟩ | ⟨hk1, rfl⟩
        · obtain ⟨e1, e2⟩ := hj1 k2_ hk
          rcases hk2 with h | h
          · omega
          · exact absurd (by rw [← hfK k2_ e1]; exact e2) h
        · exact ⟨rfl, rfl, rfl, hJ0⟩
set_option maxHeartbeats 4000000 in
theorem T_result (B : gB) (x : Int32) : StI B (J B) yX11_result cX11_result 2 yX12_result cX12_result 2 [.int x] := by
  intro ad ct ad2 ct2 S hJ
  have hJ0 := hJ
  have hbd := hJ0.bd
  obtain ⟨f, NL, N1, N2, hx, h0, hS, hNL, hG, hSm, hD, hK, hW, hC, hR, hE, hN, hX⟩ := hJ
  have hRz := hR
  obtain ⟨⟨nx, mk, off, ah, al, hso⟩, ⟨sz1, sz2, s1, t1, s2, t2, h82, h83, h84, h85, h86, h87⟩, hL1, hL2, th, te, sta, ask, u, l, gu, gw, gb, SS_, b1, b2, hth, hF, hFb, b6, b7, b8, b9, hS6, hth0, hth1⟩ := hRz
  refine ⟨1, 20, 0, 0, _, _, by decide, by decide, by decide, hbd, hx, c_X11_result B ad ct 178 (Nat.le_refl _) hx th te sta ask b1 b2 hth x, ?_⟩
  intro v ad' ct' n' hp
  obtain ⟨ea, rfl, r, rfl, rfl, hr⟩ := hp
  obtain rfl := ea.symm
  refine ⟨rfl, rfl, r, rfl, 0, 0, _, _, by decide, by decide, h0, c_X12_result B ad2 ct2 33 f (Nat.le_refl _) h0 x, ?_⟩
  intro v2 ad2' ct2' n2' hq
  obtain ⟨rfl, rfl, q, rfl, rfl, hq⟩ := hq
  refine ⟨rfl, rfl, ?_, hJ0⟩
  rw [hq, hr]
  skip
  unfold resultM
  by_cases h1 : th = 0
  · rw [if_pos h1, if_pos (hth0 h1)]
  · obtain ⟨e1, e2, e3, hge, -⟩ := hth1 h1
    rw [if_neg h1, if_neg (fun w => no_both w hge)]
    by_cases q0 : x.toInt = 0
    · rw [if_pos q0, if_pos (z0.mpr q0), e1]
    · rw [if_neg q0, if_neg (fun w => q0 (z0.mp w))]
      by_cases q1 : x.toInt = 1
      · rw [if_pos q1, if_pos (z1.mpr q1), e2]
      · rw [if_neg q1, if_neg (fun w => q1 (z1.mp w))]
        by_cases q2 : x.toInt = 2
        · rw [if_pos q2, if_pos (z2.mpr q2), e3]
        · rw [if_neg q2, if_neg (fun w => q2 (z2.mp w))]
set_option maxHeartbeats 4000000 in
theorem T_ways (B : gB) (x : Int32) : StL B (J B) yX11_ways cX11_ways 2 yX12_ways cX12_ways 2 [.int x] := by
  intro ad ct ad2 ct2 S hJ
  have hJ0 := hJ
  have hbd := hJ0.bd
  obtain ⟨f, NL, N1, N2, hx, h0, hS, hNL, hG, hSm, hD, hK, hW, hC, hR, hE, hN, hX⟩ := hJ
  have hRz := hR
  obtain ⟨⟨nx, mk, off, ah, al, hso⟩, ⟨sz1, sz2, s1, t1, s2, t2, h82, h83, h84, h85, h86, h87⟩, hL1, hL2, th, te, sta, ask, u, l, gu, gw, gb, SS_, b1, b2, hth, hF, hFb, b6, b7, b8, b9, hS6, hth0, hth1⟩ := hRz
  refine ⟨1, 28, 0, 0, _, _, by decide, by decide, by decide, hbd, hx, c_X11_ways B ad ct 178 hx (Nat.le_refl _) th te sta ask b1 b2 (by rcases hth with rfl | rfl <;> decide) gb SS_ (f 19).toInt (fun h1 h2 => ((hth1 h1).2.2.2.2.2 h2).1) x, ?_⟩
  intro v ad' ct' n' hp
  obtain ⟨ea, rfl, r, rfl, rfl, hr⟩ := hp
  obtain rfl := ea.symm
  refine ⟨rfl, rfl, r, rfl, 1, 25, _, _, by decide, by decide, h0, c_X12_ways B ad2 ct2 33 f gb (Nat.le_refl _) h0 b8 SS_ b9 hS6 x, ?_⟩
  intro v2 ad2' ct2' n2' hq
  obtain ⟨rfl, rfl, q, rfl, rfl, hq⟩ := hq
  rcases hr with ⟨h1, rfl⟩ | ⟨h1, h2, rfl⟩
  · have hlt : f 12 < 1 := by
      rcases h1 with h1 | h1
      · have := lt0.mp (hth0 h1)
        exact Int32.lt_iff_toInt_lt.mpr (by show _ < (1 : Int); omega)
      · by_cases h3 : th = 0
        · have := lt0.mp (hth0 h3)
          exact Int32.lt_iff_toInt_lt.mpr (by show _ < (1 : Int); omega)
        · rw [(hth1 h3).1, h1]; decide
    rcases hq with ⟨-, rfl⟩ | ⟨h2, -⟩
    · exact ⟨rfl, rfl, rfl, hJ0⟩
    · exact absurd hlt (Int32.not_lt.mpr h2)
  · obtain ⟨e1, -, -, hge, -, hsu⟩ := hth1 h1
    obtain ⟨-, hb1, hb2⟩ := hsu h2
    rcases hq with ⟨h3, -⟩ | ⟨-, rfl⟩
    · have a1 := ge0.mp hge
      have a2 : (f 12).toInt < 1 := Int32.lt_iff_toInt_lt.mp h3
      exact absurd (by rw [← e1]; exact z0.mpr (by omega)) h2
    · refine ⟨rfl, rfl, ?_, hJ0⟩
      rw [fcJ_at]
      by_cases q : 0 ≤ x.toInt - (f 19).toInt ∧ x.toInt - (f 19).toInt ≤ (SS_ : Int) - 1
      · rw [if_pos q, if_pos (by omega), if_pos q]
      · rw [if_neg q, if_neg q]
        split <;> rfl
set_option maxHeartbeats 4000000 in
theorem T_caseAt (B : gB) (x y z : Int32) : StI B (J B) yX11_caseAt cX11_caseAt 4 yX12_caseAt cX12_caseAt 4 [.int x, .int y, .int z] := by
  intro ad ct ad2 ct2 S hJ
  have hJ0 := hJ
  have hbd := hJ0.bd
  obtain ⟨f, NL, N1, N2, hx, h0, hS, hNL, hG, hSm, hD, hK, hW, hC, hR, hE, hN, hX⟩ := hJ
  have hCz := hC
  obtain ⟨Rk, Ck, sd, cn, g, vs, cs, fk, fa, c1, c2, c3, c4, c5, c6, c7, hcR, hcC, hsd, hcn, hsp, hlen, hvs, hfk, hfa⟩ := hCz
  refine ⟨2, 46, 0, 0, _, _, by decide, by decide, by decide, hbd, hx, c_X11_caseAt B ad ct 178 hx Rk Ck sd cn NL g (Nat.le_refl _) c1 c2 hcR hcC hsd hcn (by omega) vs cs hvs hlen x y z, ?_⟩
  intro v ad' ct' n' hp
  obtain ⟨ea, rfl, r, rfl, rfl, hr⟩ := hp
  obtain rfl := ea.symm
  refine ⟨rfl, rfl, r, rfl, 1, 25, _, _, by decide, by decide, h0, c_X12_caseAt B ad2 ct2 33 f fk (Nat.le_refl _) h0 c3 cn Rk Ck c5 c6 c7 hcn hcR hcC x y z, ?_⟩
  intro v2 ad2' ct2' n2' hq
  obtain ⟨rfl, rfl, q, rfl, rfl, hq⟩ := hq
  rcases hr with ⟨h1, rfl⟩ | ⟨h1, hno, rfl⟩ | ⟨h1, j, a, b, ex, hj, ey, ha, ez, hb, rfl⟩
  · rcases hq with ⟨-, rfl⟩ | ⟨h2, -⟩ | ⟨h2, -⟩
    · exact ⟨rfl, rfl, rfl, hJ0⟩
    · omega
    · omega
  · rcases hq with ⟨h2, -⟩ | ⟨-, -, rfl⟩ | ⟨-, j, a, b, ex, hj, ey, ha, ez, hb, -⟩
    · omega
    · exact ⟨rfl, rfl, rfl, hJ0⟩
    · exact absurd ⟨by rw [ex]; exact inR hj (by omega), by rw [ey]; exact inR ha (by omega), by rw [ez]; exact inR hb (by omega)⟩ hno
  · rcases hq with ⟨h2, -⟩ | ⟨-, h2, -⟩ | ⟨-, j2, a2, b2, ex2, hj2, ey2, ha2, ez2, hb2, rfl⟩
    · omega
    · have q1 := inR hj (show cn < 2 ^ 31 by omega)
      have q2 := inR ha (show Rk < 2 ^ 31 by omega)
      have q3 := inR hb (show Ck < 2 ^ 31 by omega)
      rw [← ex] at q1; rw [← ey] at q2; rw [← ez] at q3
      exact absurd (by omega) h2
    · obtain rfl := (nI_eq (by omega) (by omega)).mp (ex.symm.trans ex2)
      obtain rfl := (nI_eq (by omega) (by omega)).mp (ey.symm.trans ey2)
      obtain rfl := (nI_eq (by omega) (by omega)).mp (ez.symm.trans ez2)
      refine ⟨rfl, rfl, ?_, hJ0⟩
      have h5 : Ck * (a + 1) ≤ Ck * Rk := Nat.mul_le_mul_left _ ha
      rw [Nat.mul_succ] at h5
      rw [show 25 * j + Ck * a + b = 25 * j + (Ck * a + b) by omega, hfk j (Ck * a + b) hj (by rw [Nat.mul_comm Rk]; omega), Nat.mul_comm a Ck]
set_option maxHeartbeats 4000000 in
theorem T_weighs (B : gB) (x : Int32) : StI B (J B) yX11_weighs cX11_weighs 2 yX12_weighs cX12_weighs 2 [.int x] := by
  intro ad ct ad2 ct2 S hJ
  have hJ0 := hJ
  have hbd := hJ0.bd
  obtain ⟨f, NL, N1, N2, hx, h0, hS, hNL, hG, hSm, hD, hK, hW, hC, hR, hE, hN, hX⟩ := hJ
  have hCz := hC
  obtain ⟨Rk, Ck, sd, cn, g, vs, cs, fk, fa, c1, c2, c3, c4, c5, c6, c7, hcR, hcC, hsd, hcn, hsp, hlen, hvs, hfk, hfa⟩ := hCz
  refine ⟨2, 42, 0, 0, _, _, by decide, by decide, by decide, hbd, hx, c_X11_weighs B ad ct 178 hx Rk Ck sd cn NL g (Nat.le_refl _) c1 c2 hcR hcC hsd hcn (by omega) vs cs hvs hlen hsp x, ?_⟩
  intro v ad' ct' n' hp
  obtain ⟨ea, rfl, r, rfl, rfl, hr⟩ := hp
  obtain rfl := ea.symm
  refine ⟨rfl, rfl, r, rfl, 1, 25, _, _, by decide, by decide, h0, c_X12_weighs B ad2 ct2 33 f fa (Nat.le_refl _) h0 c4 cn c5 hcn x, ?_⟩
  intro v2 ad2' ct2' n2' hq
  obtain ⟨rfl, rfl, q, rfl, rfl, hq⟩ := hq
  rcases hr with ⟨h1, rfl⟩ | ⟨h1, hno, rfl⟩ | ⟨h1, j, ex, hj, rfl⟩
  · rcases hq with ⟨-, rfl⟩ | ⟨h2, -⟩ | ⟨h2, -⟩
    · exact ⟨rfl, rfl, rfl, hJ0⟩
    · omega
    · omega
  · rcases hq with ⟨h2, -⟩ | ⟨-, -, rfl⟩ | ⟨-, j, ex, hj, -⟩
    · omega
    · exact ⟨rfl, rfl, rfl, hJ0⟩
    · exact absurd (by rw [ex]; exact inR hj (by omega)) hno
  · rcases hq with ⟨h2, -⟩ | ⟨-, h2, -⟩ | ⟨-, j2, ex2, hj2, rfl⟩
    · omega
    · have q1 := inR hj (show cn < 2 ^ 31 by omega)
      rw [← ex] at q1
      exact absurd (by omega) h2
    · obtain rfl := (nI_eq (by omega) (by omega)).mp (ex.symm.trans ex2)
      exact ⟨rfl, rfl, by rw [hfa j hj], hJ0⟩
set_option maxHeartbeats 4000000 in
theorem T_told (B : gB) (x : Int32) : StI B (J B) yX11_told cX11_told 2 yX12_told cX12_told 2 [.int x] := by
  intro ad ct ad2 ct2 S hJ
  have hJ0 := hJ
  have hbd := hJ0.bd
  obtain ⟨f, NL, N1, N2, hx, h0, hS, hNL, hG, hSm, hD, hK, hW, hC, hR, hE, hN, hX⟩ := hJ
  have hSz := hSm
  have hDz := hD
  have hKz := hK
  have hNz := hN
  have hCz := hC
  have hGz := hG
  obtain ⟨kA, kB, fA, fB, fs, km, a1, a2, a3, a4, a5, a6, hAk, hBk, hkA, hkB, hfA, hfB, hsb⟩ := hSz
  obtain ⟨kD, fD, fd, d1, d2, d3, d4, hDk, hfD, hdb⟩ := hDz
  obtain ⟨kK, fK, fc, k1, k2, k3, k4, hKk, hfK⟩ := hKz
  obtain ⟨k, o, U, V, pu, pw, ro, n1, n2, n3, hk12, hU, hUb, n7, n8, n9, n10, hok, hor⟩ := hNz
  obtain ⟨Rk, Ck, sd, cn, g, vs, cs, fk, fa, c1, c2, c3, c4, c5, c6, c7, hcR, hcC, hsd, hcn, hsp, hlen, hvs, hfk, hfa⟩ := hCz
  obtain ⟨gk, gc, R, C, T, g1, g2, g3, g4, g5, g6, hRp, hR5, hCp, hC5, hT60, hgg, hgb, hgz, hgT⟩ := hGz
  refine ⟨1, 20, 0, 0, _, _, by decide, by decide, by decide, hbd, hx, c_X11_told B ad ct 178 hx Rk Ck sd cn NL g (Nat.le_refl _) c1 c2 hcR hcC hsd hcn (by omega) kA kB kD kK k R C fA fB fD fK o gk a1 a2 hAk a3 a4 hBk d1 d2 hDk k1 k2 hKk n1 n2 n3 hk12 g1 g2 hR5 hC5 x, ?_⟩
  intro v ad' ct' n' hp
  obtain ⟨ea, rfl, r, rfl, rfl, hr⟩ := hp
  obtain rfl := ea.symm
  refine ⟨rfl, rfl, r, rfl, 0, 0, _, _, by decide, by decide, h0, c_X12_told B ad2 ct2 33 f (nF km) (Nat.le_refl _) h0 a6 x, ?_⟩
  intro v2 ad2' ct2' n2' hq
  obtain ⟨rfl, rfl, q, rfl, rfl, hq⟩ := hq
  refine ⟨rfl, rfl, ?_, hJ0⟩
  obtain ⟨r0, r1, r2, r3, r4, r5, r6, r7, r8⟩ := hr
  rw [hq]
  unfold toldM
  by_cases q0 : x.toInt = 0
  · rw [if_pos q0, r0 q0]
    show some (Value.int (nI (km 0))) = _; rw [hkA]
  · rw [if_neg q0]
    by_cases q1 : x.toInt = 1
    · rw [if_pos q1, r1 q1]
      show some (Value.int (nI (km 1))) = _; rw [hkB]
    · rw [if_neg q1]
      by_cases q2 : x.toInt = 2
      · rw [if_pos q2, r2 q2, d4]
      · rw [if_neg q2]
        by_cases q3 : x.toInt = 3
        · rw [if_pos q3, r3 q3, n10]
        · rw [if_neg q3]
          by_cases q4 : x.toInt = 4
          · rw [if_pos q4, r4 q4, k4]
          · rw [if_neg q4]
            by_cases q5 : x.toInt = 5
            · rw [if_pos q5, r5 q5, g4]
            · rw [if_neg q5]
              by_cases q6 : x.toInt = 6
              · rw [if_pos q6, r6 q6, g5]
              · rw [if_neg q6]
                by_cases q7 : x.toInt = 7
                · rw [if_pos q7, r7 q7, c5]
                · rw [if_neg q7]
                  rw [r8 (by omega)]
