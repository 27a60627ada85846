/-- the sums stand for a test whose counts are gb, from bs on -/
def SumsOK (B : gB) (ad : Nat → Nat) (ct : Nat → va_E) (gb : Nat → Nat) (S : Nat) (bs : Int) : Prop := ∃ (nx mk off : Int32) (ah al : Int64) (a : Nat → Nat) (m N1 N2 : Nat) (o : Int), ct 81 = .inr (8, [.ref (ad 82), .ref (ad 85), .int nx, .int mk, .int off, .long ah, .long al]) ∧ SS B ad ct a m N1 N2 ∧ m ≤ 30 ∧ (∀ j, j < m → a j ≤ 200000) ∧ off.toInt = o ∧ o.natAbs ≤ 5000000 ∧ ∀ v : Int, v.natAbs ≤ 60000 → exC (ev a) (od a) ((m + 1) / 2) (m / 2) (o + v) = sumF (fcJ v bs gb) S
set_option maxHeartbeats 4000000 in
set_option maxRecDepth 100000 in
theorem c_X11_ways (B : gB) (ad : Nat → Nat) (ct : Nat → va_E) (n : Nat) (hx : ct 0 = .inr (11, [.ref (ad 1), .ref (ad 3), .ref (ad 5), .ref (ad 7), .ref (ad 9), .ref (ad 11), .ref (ad 79), .ref (ad 81), .ref (ad 88), .ref (ad 110), .ref (ad 115)])) (hn : 178 ≤ n) (th te sta ask : Int32) (hr : ct 88 = .inr (6, [.ref (ad 89), .int th, .int te, .int sta, .int ask])) (hrr : ct 89 = .inl (B.2.1 4, 4, .inr (.inr (.inr (.inr (fun i => some (ad (90 + 5 * i)))))))) (hz : narrow .boolean (.int th) = .int th) (gb : Nat → Nat) (S : Nat) (bs : Int) (hOK : ¬ th = 0 → ¬ te = 0 → SumsOK B ad ct gb S bs) (x : Int32) : Ctr B yX11_ways cX11_ways 2 (some .long) 1 28 0 0 ad ct n [.ref (ad 0), .int x] (gPlp ad ct n (fun r => ((th = 0 ∨ te = 0) ∧ r = -3) ∨ (¬ th = 0 ∧ ¬ te = 0 ∧ r = if (-60000 : Int) ≤ x.toInt ∧ x.toInt ≤ 60000 then lN (sumF (fcJ x.toInt bs gb) S) else 0))) := by
  refine Ctr.ofG (L := [(0, .ref (ad 0)), (1, .int x)]) (by decide +kernel) rfl (Nat.le_of_ble_eq_true rfl) (fun E fx rt hnm => ?_)
  refine g_aload_n fx 0 dX11_ways_0 rfl ?_
  refine g_get (r := 0) fx lkX11_58 (by omega) hx rfl dX11_ways_1 ?_
  refine g_callVip (As := []) (rest := []) fx slX11_253 (c_X6_areThere B ad ct n th te sta ask hn hr hrr hz) (by omega) hr rfl rfl rfl (Nat.le_of_ble_eq_true rfl) ⟨by decide, by decide⟩ ⟨by decide, by decide⟩ dX11_ways_4 (fun q1 hq1 => ?_)
  refine g_isi (y := th) hq1 ?_
  refine g_if_eq fx 20 dX11_ways_7 (by decide) (fun c7 => ?_) (fun c7 => ?_)
  · skip
    have hbad : th = 0 ∨ te = 0 := Or.inl c7
    refine g_ldc2 fx kcX11_266 dX11_ways_20 ?_
    refine g_lret fx rt dX11_ways_23 ?_
    exact gPlp.mk (Or.inl ⟨hbad, rfl⟩)
  · skip
    have hth := c7
    refine g_aload_n fx 0 dX11_ways_10 rfl ?_
    refine g_get (r := 0) fx lkX11_58 (by omega) hx rfl dX11_ways_11 ?_
    refine g_callVip (As := []) (rest := []) fx slX11_256 (c_X6_test B ad ct n th te sta ask hn hr hrr) (by omega) hr rfl rfl rfl (Nat.le_of_ble_eq_true rfl) ⟨by decide, by decide⟩ ⟨by decide, by decide⟩ dX11_ways_14 (fun q2 hq2 => ?_)
    refine g_isi (y := te) hq2 ?_
    refine g_if_ne fx 24 dX11_ways_17 (by decide) (fun c17 => ?_) (fun c17 => ?_)
    · skip
      have hte := c17
      obtain ⟨nx, mk, off, ah, al, a, m, N1, N2, o, hso, hSS, hm, ha, hoff, hob, hex⟩ := hOK hth hte
      refine g_iload_n fx 1 dX11_ways_24 rfl ?_
      refine g_ldcw fx kcX11_268 dX11_ways_25 ?_
      refine g_ldcw fx kcX11_269 dX11_ways_28 ?_
      refine g_callSip (As := [.int x, .int (-60000), .int 60000]) (rest := []) fx slX11_78 (c_X11_within B ad ct n x (-60000) 60000 (-60000) 60000 (by decide) (by decide)) rfl rfl (Nat.le_of_ble_eq_true rfl) ⟨by decide, by decide⟩ ⟨by decide, by decide⟩ dX11_ways_31 (fun q3 hq3 => ?_)
      refine g_if_eq fx 48 dX11_ways_34 (by decide) (fun c34 => ?_) (fun c34 => ?_)
      · skip
        have hno := if01_z.mp (hq3 ▸ c34)
        refine g_lconst (v := lN 0) fx dX11_ways_48 (by decide +kernel) ?_
        refine g_lret fx rt dX11_ways_49 ?_
        exact gPlp.mk (Or.inr ⟨hth, hte, by rw [if_neg hno]; rfl⟩)
      · skip
        have hin := if01_n.mp (hq3 ▸ c34)
        refine g_aload_n fx 0 dX11_ways_37 rfl ?_
        refine g_get (r := 0) fx lkX11_51 (by omega) hx rfl dX11_ways_38 ?_
        refine g_iload_n fx 1 dX11_ways_41 rfl ?_
        refine g_callVlp (As := [.int x]) (rest := []) fx slX11_270 (c_X8_exactly B ad ct n nx mk off ah al hso a m N1 N2 hSS hn hm ha x (o + x.toInt) (add_toInt hoff rfl (by omega)) (by omega)) (by omega) hso rfl rfl rfl (Nat.le_of_ble_eq_true rfl) ⟨by decide, by decide⟩ ⟨by decide, by decide⟩ dX11_ways_42 (fun q4 hq4 => ?_)
        rw [hex _ (by omega)] at hq4
        refine g_goto fx 49 dX11_ways_45 (by decide) ?_
        refine g_lret fx rt dX11_ways_49 ?_
        exact gPlp.mk (Or.inr ⟨hth, hte, by rw [if_pos hin]; exact hq4⟩)
    · skip
      have hbad : th = 0 ∨ te = 0 := Or.inr c17
      refine g_ldc2 fx kcX11_266 dX11_ways_20 ?_
      refine g_lret fx rt dX11_ways_23 ?_
      exact gPlp.mk (Or.inl ⟨hbad, rfl⟩)
set_option maxHeartbeats 4000000 in
set_option maxRecDepth 100000 in
theorem c_X11_caseAt (B : gB) (ad : Nat → Nat) (ct : Nat → va_E) (n : Nat) (hx : ct 0 = .inr (11, [.ref (ad 1), .ref (ad 3), .ref (ad 5), .ref (ad 7), .ref (ad 9), .ref (ad 11), .ref (ad 79), .ref (ad 81), .ref (ad 88), .ref (ad 110), .ref (ad 115)])) (Rk Ck sd cn N : Nat) (g : Nat → Nat) (hn : 178 ≤ n) (hk : ct 79 = .inr (0, [.ref (ad 80), .int (nI Rk), .int (nI Ck), .int (nI sd), .int (nI cn)])) (hkr : ct 80 = .inl (B.2.1 1, N, .inr (.inl (lF g)))) (hR5 : Rk ≤ 5) (hC5 : Ck ≤ 5) (hsd : sd = (Rk * Ck + 9) / 10) (hcn : cn ≤ 20000) (hN : N ≤ 200000) (vs : Nat → Nat → Nat) (cs : Nat → Nat) (hvs : ∀ j, j < cn → (∀ i, i < sd → g (j * sd + i) = bval 64 (blk (vs j) (Rk * Ck) i (cs j)) 11) ∧ (∀ k, k < Rk * Ck → vs j k < 64) ∧ cs j ≤ 2) (hlen : cn * sd ≤ N) (x y z : Int32) : Ctr B yX11_caseAt cX11_caseAt 4 (some .int) 2 46 0 0 ad ct n [.ref (ad 0), .int x, .int y, .int z] (gPip ad ct n (fun r => (cn = 0 ∧ r = -3) ∨ (0 < cn ∧ ¬ (((0 : Int) ≤ x.toInt ∧ x.toInt < (cn : Int)) ∧ (((0 : Int) ≤ y.toInt ∧ y.toInt < (Rk : Int)) ∧ ((0 : Int) ≤ z.toInt ∧ z.toInt < (Ck : Int)))) ∧ r = -1) ∨ (0 < cn ∧ ∃ j a b : Nat, x = nI j ∧ j < cn ∧ y = nI a ∧ a < Rk ∧ z = nI b ∧ b < Ck ∧ r = nI (vs j (a * Ck + b))))) := by
  refine Ctr.ofG (L := [(0, .ref (ad 0)), (1, .int x), (2, .int y), (3, .int z)]) (by decide +kernel) rfl (Nat.le_of_ble_eq_true rfl) (fun E fx rt hnm => ?_)
  refine g_aload_n fx 0 dX11_caseAt_0 rfl ?_
  refine g_get (r := 0) fx lkX11_44 (by omega) hx rfl dX11_caseAt_1 ?_
  refine g_callVip (As := []) (rest := []) fx slX11_212 (c_X0_count B ad ct n Rk Ck sd cn N g hn hk hkr hR5 hC5 hsd hcn hN) (by omega) hk rfl rfl rfl (Nat.le_of_ble_eq_true rfl) ⟨by decide, by decide⟩ ⟨by decide, by decide⟩ dX11_caseAt_4 (fun q1 hq1 => ?_)
  obtain rfl := hq1
  refine g_if_ne fx 13 dX11_caseAt_7 (by decide) (fun c7 => ?_) (fun c7 => ?_)
  · skip
    have hp : 0 < cn := Nat.pos_of_ne_zero (fun q => c7 (by rw [q]; decide))
    refine g_aload_n fx 0 dX11_caseAt_13 rfl ?_
    refine g_get (r := 0) fx lkX11_44 (by omega) hx rfl dX11_caseAt_14 ?_
    refine g_iload_n fx 1 dX11_caseAt_17 rfl ?_
    refine g_callVip (As := [.int x]) (rest := []) fx slX11_215 (c_X0_has B ad ct n Rk Ck sd cn N g hn hk hkr hR5 hC5 hsd hcn hN x) (by omega) hk rfl rfl rfl (Nat.le_of_ble_eq_true rfl) ⟨by decide, by decide⟩ ⟨by decide, by decide⟩ dX11_caseAt_18 (fun q2 hq2 => ?_)
    refine g_if_eq fx 36 dX11_caseAt_21 (by decide) (fun c21 => ?_) (fun c21 => ?_)
    · skip
      have hbad : ¬ (((0 : Int) ≤ x.toInt ∧ x.toInt < (cn : Int)) ∧ (((0 : Int) ≤ y.toInt ∧ y.toInt < (Rk : Int)) ∧ ((0 : Int) ≤ z.toInt ∧ z.toInt < (Ck : Int)))) := fun h => if01_z.mp (hq2 ▸ c21) h.1
      refine g_iconst (v := (-1)) fx dX11_caseAt_36 (by decide +kernel) ?_
      refine g_iret fx rt dX11_caseAt_37 ?_
      exact gPip.mk (Or.inr (Or.inl ⟨hp, hbad, rfl⟩))
    · skip
      have hin := if01_n.mp (hq2 ▸ c21)
      refine g_aload_n fx 0 dX11_caseAt_24 rfl ?_
      refine g_get (r := 0) fx lkX11_44 (by omega) hx rfl dX11_caseAt_25 ?_
      refine g_iload_n fx 2 dX11_caseAt_28 rfl ?_
      refine g_iload_n fx 3 dX11_caseAt_29 rfl ?_
      refine g_callVip (As := [.int y, .int z]) (rest := []) fx slX11_216 (c_X0_hasCell B ad ct n Rk Ck sd cn N g hn hk hkr hR5 hC5 hsd hcn hN y z) (by omega) hk rfl rfl rfl (Nat.le_of_ble_eq_true rfl) ⟨by decide, by decide⟩ ⟨by decide, by decide⟩ dX11_caseAt_30 (fun q3 hq3 => ?_)
      refine g_if_ne fx 38 dX11_caseAt_33 (by decide) (fun c33 => ?_) (fun c33 => ?_)
      · skip
        have hin2 := if01_n.mp (hq3 ▸ c33)
        obtain ⟨j, hj, ex⟩ := toR hin
        obtain ⟨a, ha, ey⟩ := toR hin2.1
        obtain ⟨b, hb, ez⟩ := toR hin2.2
        refine g_relocal (L' := [(0, .ref (ad 0)), (1, .int (nI j)), (2, .int (nI a)), (3, .int (nI b))]) (by rw [ex, ey, ez]) ?_
        refine g_aload_n fx 0 dX11_caseAt_38 rfl ?_
        refine g_get (r := 0) fx lkX11_44 (by omega) hx rfl dX11_caseAt_39 ?_
        refine g_iload_n fx 1 dX11_caseAt_42 rfl ?_
        refine g_iload_n fx 2 dX11_caseAt_43 rfl ?_
        refine g_iload_n fx 3 dX11_caseAt_44 rfl ?_
        refine g_callVip (As := [.int (nI j), .int (nI a), .int (nI b)]) (rest := []) fx slX11_220 (c_X0_numberAt B ad ct n Rk Ck sd cn N g hn hk hkr hR5 hC5 hsd hcn hN vs cs hvs hlen j a b hj ha hb) (by omega) hk rfl rfl rfl (Nat.le_of_ble_eq_true rfl) ⟨by decide, by decide⟩ ⟨by decide, by decide⟩ dX11_caseAt_45 (fun q4 hq4 => ?_)
        refine g_iret fx rt dX11_caseAt_48 ?_
        exact gPip.mk (Or.inr (Or.inr ⟨hp, j, a, b, ex, hj, ey, ha, ez, hb, hq4⟩))
      · skip
        have hbad : ¬ (((0 : Int) ≤ x.toInt ∧ x.toInt < (cn : Int)) ∧ (((0 : Int) ≤ y.toInt ∧ y.toInt < (Rk : Int)) ∧ ((0 : Int) ≤ z.toInt ∧ z.toInt < (Ck : Int)))) := fun h => if01_z.mp (hq3 ▸ c33) h.2
        refine g_iconst (v := (-1)) fx dX11_caseAt_36 (by decide +kernel) ?_
        refine g_iret fx rt dX11_caseAt_37 ?_
        exact gPip.mk (Or.inr (Or.inl ⟨hp, hbad, rfl⟩))
  · skip
    have h0 : cn = 0 := (nI_eq (b := 0) (by omega) (by omega)).mp c7
    refine g_bipush (v := (-3)) fx dX11_caseAt_10 (by decide +kernel) ?_
    refine g_iret fx rt dX11_caseAt_12 ?_
    exact gPip.mk (Or.inl ⟨h0, rfl⟩)
set_option maxHeartbeats 4000000 in
set_option maxRecDepth 100000 in
theorem c_X11_weighs (B : gB) (ad : Nat → Nat) (ct : Nat → va_E) (n : Nat) (hx : ct 0 = .inr (11, [.ref (ad 1), .ref (ad 3), .ref (ad 5), .ref (ad 7), .ref (ad 9), .ref (ad 11), .ref (ad 79), .ref (ad 81), .ref (ad 88), .ref (ad 110), .ref (ad 115)])) (Rk Ck sd cn N : Nat) (g : Nat → Nat) (hn : 178 ≤ n) (hk : ct 79 = .inr (0, [.ref (ad 80), .int (nI Rk), .int (nI Ck), .int (nI sd), .int (nI cn)])) (hkr : ct 80 = .inl (B.2.1 1, N, .inr (.inl (lF g)))) (hR5 : Rk ≤ 5) (hC5 : Ck ≤ 5) (hsd : sd = (Rk * Ck + 9) / 10) (hcn : cn ≤ 20000) (hN : N ≤ 200000) (vs : Nat → Nat → Nat) (cs : Nat → Nat) (hvs : ∀ j, j < cn → (∀ i, i < sd → g (j * sd + i) = bval 64 (blk (vs j) (Rk * Ck) i (cs j)) 11) ∧ (∀ k, k < Rk * Ck → vs j k < 64) ∧ cs j ≤ 2) (hlen : cn * sd ≤ N) (hsp : 0 < cn → 0 < sd) (x : Int32) : Ctr B yX11_weighs cX11_weighs 2 (some .int) 2 42 0 0 ad ct n [.ref (ad 0), .int x] (gPip ad ct n (fun r => (cn = 0 ∧ r = -30) ∨ (0 < cn ∧ ¬ ((0 : Int) ≤ x.toInt ∧ x.toInt < (cn : Int)) ∧ r = -10) ∨ (0 < cn ∧ ∃ j : Nat, x = nI j ∧ j < cn ∧ r = nI (cs j) - nI 1))) := by
  refine Ctr.ofG (L := [(0, .ref (ad 0)), (1, .int x)]) (by decide +kernel) rfl (Nat.le_of_ble_eq_true rfl) (fun E fx rt hnm => ?_)
  refine g_aload_n fx 0 dX11_weighs_0 rfl ?_
  refine g_get (r := 0) fx lkX11_44 (by omega) hx rfl dX11_weighs_1 ?_
  refine g_callVip (As := []) (rest := []) fx slX11_212 (c_X0_count B ad ct n Rk Ck sd cn N g hn hk hkr hR5 hC5 hsd hcn hN) (by omega) hk rfl rfl rfl (Nat.le_of_ble_eq_true rfl) ⟨by decide, by decide⟩ ⟨by decide, by decide⟩ dX11_weighs_4 (fun q1 hq1 => ?_)
  obtain rfl := hq1
  refine g_if_ne fx 13 dX11_weighs_7 (by decide) (fun c7 => ?_) (fun c7 => ?_)
  · skip
    have hp : 0 < cn := Nat.pos_of_ne_zero (fun q => c7 (by rw [q]; decide))
    refine g_aload_n fx 0 dX11_weighs_13 rfl ?_
    refine g_get (r := 0) fx lkX11_44 (by omega) hx rfl dX11_weighs_14 ?_
    refine g_iload_n fx 1 dX11_weighs_17 rfl ?_
    refine g_callVip (As := [.int x]) (rest := []) fx slX11_215 (c_X0_has B ad ct n Rk Ck sd cn N g hn hk hkr hR5 hC5 hsd hcn hN x) (by omega) hk rfl rfl rfl (Nat.le_of_ble_eq_true rfl) ⟨by decide, by decide⟩ ⟨by decide, by decide⟩ dX11_weighs_18 (fun q2 hq2 => ?_)
    refine g_if_eq fx 35 dX11_weighs_21 (by decide) (fun c21 => ?_) (fun c21 => ?_)
    · skip
      have hbad := if01_z.mp (hq2 ▸ c21)
      refine g_bipush (v := (-10)) fx dX11_weighs_35 (by decide +kernel) ?_
      refine g_iret fx rt dX11_weighs_37 ?_
      exact gPip.mk (Or.inr (Or.inl ⟨hp, hbad, rfl⟩))
    · skip
      have hin := if01_n.mp (hq2 ▸ c21)
      obtain ⟨j, hj, ex⟩ := toR hin
      refine g_relocal (L' := [(0, .ref (ad 0)), (1, .int (nI j))]) (by rw [ex]) ?_
      refine g_aload_n fx 0 dX11_weighs_24 rfl ?_
      refine g_get (r := 0) fx lkX11_44 (by omega) hx rfl dX11_weighs_25 ?_
      refine g_iload_n fx 1 dX11_weighs_28 rfl ?_
      refine g_callVip (As := [.int (nI j)]) (rest := []) fx slX11_224 (c_X0_orderOf B ad ct n Rk Ck sd cn N g hn hk hkr hR5 hC5 hsd hcn hN vs cs hvs hlen (hsp hp) j hj) (by omega) hk rfl rfl rfl (Nat.le_of_ble_eq_true rfl) ⟨by decide, by decide⟩ ⟨by decide, by decide⟩ dX11_weighs_29 (fun q4 hq4 => ?_)
      refine g_goto fx 37 dX11_weighs_32 (by decide) ?_
      refine g_iret fx rt dX11_weighs_37 ?_
      exact gPip.mk (Or.inr (Or.inr ⟨hp, j, ex, hj, hq4⟩))
  · skip
    have h0 : cn = 0 := (nI_eq (b := 0) (by omega) (by omega)).mp c7
    refine g_bipush (v := (-30)) fx dX11_weighs_10 (by decide +kernel) ?_
    refine g_iret fx rt dX11_weighs_12 ?_
    exact gPip.mk (Or.inl ⟨h0, rfl⟩)
set_option maxHeartbeats 4000000 in
set_option maxRecDepth 100000 in
theorem c_X11_told (B : gB) (ad : Nat → Nat) (ct : Nat → va_E) (n : Nat) (hx : ct 0 = .inr (11, [.ref (ad 1), .ref (ad 3), .ref (ad 5), .ref (ad 7), .ref (ad 9), .ref (ad 11), .ref (ad 79), .ref (ad 81), .ref (ad 88), .ref (ad 110), .ref (ad 115)])) (Rk Ck sd cn N : Nat) (g : Nat → Nat) (hn : 178 ≤ n) (hk : ct 79 = .inr (0, [.ref (ad 80), .int (nI Rk), .int (nI Ck), .int (nI sd), .int (nI cn)])) (hkr : ct 80 = .inl (B.2.1 1, N, .inr (.inl (lF g)))) (hR5 : Rk ≤ 5) (hC5 : Ck ≤ 5) (hsd : sd = (Rk * Ck + 9) / 10) (hcn : cn ≤ 20000) (hN : N ≤ 200000) (kA kB kD kC ko Rg Cg : Nat) (fA fB fD fC : Nat → Int32) (o gk : Nat → Nat) (hA : ct 3 = .inr (5, [.ref (ad 4), .int (nI kA)])) (hAr : ct 4 = .inl (B.2.1 0, 15, .inl fA)) (hAk : kA ≤ 15) (hB : ct 5 = .inr (5, [.ref (ad 6), .int (nI kB)])) (hBr : ct 6 = .inl (B.2.1 0, 15, .inl fB)) (hBk : kB ≤ 15) (hD : ct 7 = .inr (5, [.ref (ad 8), .int (nI kD)])) (hDr : ct 8 = .inl (B.2.1 0, 30, .inl fD)) (hDk : kD ≤ 30) (hC : ct 9 = .inr (5, [.ref (ad 10), .int (nI kC)])) (hCr : ct 10 = .inl (B.2.1 0, 40, .inl fC)) (hCk : kC ≤ 40) (hch : ct 115 = .inr (1, [.ref (ad 116), .ref (ad 117), .ref (ad 110), .int (nI ko)])) (hchr : ct 116 = .inl (B.2.1 4, 12, .inr (.inr (.inr (.inr (fun i => some (ad (118 + 5 * i)))))))) (hcho : ct 117 = .inl (B.2.1 0, 12, .inl (nF o))) (hko : ko ≤ 12) (hg : ct 1 = .inr (3, [.ref (ad 2), .int (nI Rg), .int (nI Cg)])) (hgc : ct 2 = .inl (B.2.1 0, 25, .inl (nF gk))) (hRg : Rg ≤ 5) (hCg : Cg ≤ 5) (x : Int32) : Ctr B yX11_told cX11_told 2 (some .int) 1 20 0 0 ad ct n [.ref (ad 0), .int x] (gPip ad ct n (fun r => (x.toInt = 0 → r = nI kA) ∧ (x.toInt = 1 → r = nI kB) ∧ (x.toInt = 2 → r = nI kD) ∧ (x.toInt = 3 → r = nI ko) ∧ (x.toInt = 4 → r = nI kC) ∧ (x.toInt = 5 → r = nI Rg) ∧ (x.toInt = 6 → r = nI Cg) ∧ (x.toInt = 7 → r = nI cn) ∧ (x.toInt < 0 ∨ 7 < x.toInt → r = -2))) := by
  refine Ctr.ofG (L := [(0, .ref (ad 0)), (1, .int x)]) (by decide +kernel) rfl (Nat.le_of_ble_eq_true rfl) (fun E fx rt hnm => ?_)
  refine g_iload_n fx 1 dX11_told_0 rfl ?_
  by_cases hsw1 : x.toInt < 0 ∨ 7 < x.toInt
  · refine g_tableOut fx 112 dX11_told_1 hsw1 (by decide) ?_
    refine g_bipush (v := (-2)) fx dX11_told_112 (by decide +kernel) ?_
    refine g_iret fx rt dX11_told_114 ?_
    exact gPip.mk ⟨fun h => absurd h (by omega), fun h => absurd h (by omega), fun h => absurd h (by omega), fun h => absurd h (by omega), fun h => absurd h (by omega), fun h => absurd h (by omega), fun h => absurd h (by omega), fun h => absurd h (by omega), fun _ => rfl⟩
  · have hsv : x.toInt = 0 ∨ x.toInt = 1 ∨ x.toInt = 2 ∨ x.toInt = 3 ∨ x.toInt = 4 ∨ x.toInt = 5 ∨ x.toInt = 6 ∨ x.toInt = 7 := by omega
    rcases hsv with hsv | hsv | hsv | hsv | hsv | hsv | hsv | hsv
    · refine g_tableIn fx 48 dX11_told_1 (by rw [hsv]; decide) (by rw [hsv]; decide) (off := 47) (by rw [hsv]; rfl) (by decide) ?_
      refine g_aload_n fx 0 dX11_told_48 rfl ?_
      refine g_get (r := 0) fx lkX11_21 (by omega) hx rfl dX11_told_49 ?_
      refine g_callVip (As := []) (rest := []) fx slX11_169 (c_X5_size B ad ct n 3 15 kA fA (by omega) (by omega) (by omega) hA hAr) (by omega) hA rfl rfl rfl (Nat.le_of_ble_eq_true rfl) ⟨by decide, by decide⟩ ⟨by decide, by decide⟩ dX11_told_52 (fun q0 hq0 => ?_)
      refine g_iret fx rt dX11_told_55 ?_
      exact gPip.mk ⟨fun _ => hq0, fun h => absurd h (by omega), fun h => absurd h (by omega), fun h => absurd h (by omega), fun h => absurd h (by omega), fun h => absurd h (by omega), fun h => absurd h (by omega), fun h => absurd h (by omega), fun h => absurd h (by omega)⟩
    · refine g_tableIn fx 56 dX11_told_1 (by rw [hsv]; decide) (by rw [hsv]; decide) (off := 55) (by rw [hsv]; rfl) (by decide) ?_
      refine g_aload_n fx 0 dX11_told_56 rfl ?_
      refine g_get (r := 0) fx lkX11_25 (by omega) hx rfl dX11_told_57 ?_
      refine g_callVip (As := []) (rest := []) fx slX11_169 (c_X5_size B ad ct n 5 15 kB fB (by omega) (by omega) (by omega) hB hBr) (by omega) hB rfl rfl rfl (Nat.le_of_ble_eq_true rfl) ⟨by decide, by decide⟩ ⟨by decide, by decide⟩ dX11_told_60 (fun q1 hq1 => ?_)
      refine g_iret fx rt dX11_told_63 ?_
      exact gPip.mk ⟨fun h => absurd h (by omega), fun _ => hq1, fun h => absurd h (by omega), fun h => absurd h (by omega), fun h => absurd h (by omega), fun h => absurd h (by omega), fun h => absurd h (by omega), fun h => absurd h (by omega), fun h => absurd h (by omega)⟩
    · refine g_tableIn fx 64 dX11_told_1 (by rw [hsv]; decide) (by rw [hsv]; decide) (off := 63) (by rw [hsv]; rfl) (by decide) ?_
      refine g_aload_n fx 0 dX11_told_64 rfl ?_
      refine g_get (r := 0) fx lkX11_28 (by omega) hx rfl dX11_told_65 ?_
      refine g_callVip (As := []) (rest := []) fx slX11_169 (c_X5_size B ad ct n 7 30 kD fD (by omega) (by omega) (by omega) hD hDr) (by omega) hD rfl rfl rfl (Nat.le_of_ble_eq_true rfl) ⟨by decide, by decide⟩ ⟨by decide, by decide⟩ dX11_told_68 (fun q2 hq2 => ?_)
      refine g_iret fx rt dX11_told_71 ?_
      exact gPip.mk ⟨fun h => absurd h (by omega), fun h => absurd h (by omega), fun _ => hq2, fun h => absurd h (by omega), fun h => absurd h (by omega), fun h => absurd h (by omega), fun h => absurd h (by omega), fun h => absurd h (by omega), fun h => absurd h (by omega)⟩
    · refine g_tableIn fx 72 dX11_told_1 (by rw [hsv]; decide) (by rw [hsv]; decide) (off := 71) (by rw [hsv]; rfl) (by decide) ?_
      refine g_aload_n fx 0 dX11_told_72 rfl ?_
      refine g_get (r := 0) fx lkX11_74 (by omega) hx rfl dX11_told_73 ?_
      refine g_callVip (As := []) (rest := []) fx slX11_298 (c_X1_size B ad ct n ko o hn hch hchr hcho hko) (by omega) hch rfl rfl rfl (Nat.le_of_ble_eq_true rfl) ⟨by decide, by decide⟩ ⟨by decide, by decide⟩ dX11_told_76 (fun q3 hq3 => ?_)
      refine g_iret fx rt dX11_told_79 ?_
      exact gPip.mk ⟨fun h => absurd h (by omega), fun h => absurd h (by omega), fun h => absurd h (by omega), fun _ => hq3, fun h => absurd h (by omega), fun h => absurd h (by omega), fun h => absurd h (by omega), fun h => absurd h (by omega), fun h => absurd h (by omega)⟩
    · refine g_tableIn fx 80 dX11_told_1 (by rw [hsv]; decide) (by rw [hsv]; decide) (off := 79) (by rw [hsv]; rfl) (by decide) ?_
      refine g_aload_n fx 0 dX11_told_80 rfl ?_
      refine g_get (r := 0) fx lkX11_31 (by omega) hx rfl dX11_told_81 ?_
      refine g_callVip (As := []) (rest := []) fx slX11_169 (c_X5_size B ad ct n 9 40 kC fC (by omega) (by omega) (by omega) hC hCr) (by omega) hC rfl rfl rfl (Nat.le_of_ble_eq_true rfl) ⟨by decide, by decide⟩ ⟨by decide, by decide⟩ dX11_told_84 (fun q4 hq4 => ?_)
      refine g_iret fx rt dX11_told_87 ?_
      exact gPip.mk ⟨fun h => absurd h (by omega), fun h => absurd h (by omega), fun h => absurd h (by omega), fun h => absurd h (by omega), fun _ => hq4, fun h => absurd h (by omega), fun h => absurd h (by omega), fun h => absurd h (by omega), fun h => absurd h (by omega)⟩
    · refine g_tableIn fx 88 dX11_told_1 (by rw [hsv]; decide) (by rw [hsv]; decide) (off := 87) (by rw [hsv]; rfl) (by decide) ?_
      refine g_aload_n fx 0 dX11_told_88 rfl ?_
      refine g_get (r := 0) fx lkX11_10 (by omega) hx rfl dX11_told_89 ?_
      refine g_callVip (As := []) (rest := []) fx slX11_127 (c_X3_rows B ad ct n gk Rg Cg hn hg hgc hRg hCg) (by omega) hg rfl rfl rfl (Nat.le_of_ble_eq_true rfl) ⟨by decide, by decide⟩ ⟨by decide, by decide⟩ dX11_told_92 (fun q5 hq5 => ?_)
      refine g_iret fx rt dX11_told_95 ?_
      exact gPip.mk ⟨fun h => absurd h (by omega), fun h => absurd h (by omega), fun h => absurd h (by omega), fun h => absurd h (by omega), fun h => absurd h (by omega), fun _ => hq5, fun h => absurd h (by omega), fun h => absurd h (by omega), fun h => absurd h (by omega)⟩
    · refine g_tableIn fx 96 dX11_told_1 (by rw [hsv]; decide) (by rw [hsv]; decide) (off := 95) (by rw [hsv]; rfl) (by decide) ?_
      refine g_aload_n fx 0 dX11_told_96 rfl ?_
      refine g_get (r := 0) fx lkX11_10 (by omega) hx rfl dX11_told_97 ?_
      refine g_callVip (As := []) (rest := []) fx slX11_130 (c_X3_columns B ad ct n gk Rg Cg hn hg hgc hRg hCg) (by omega) hg rfl rfl rfl (Nat.le_of_ble_eq_true rfl) ⟨by decide, by decide⟩ ⟨by decide, by decide⟩ dX11_told_100 (fun q6 hq6 => ?_)
      refine g_iret fx rt dX11_told_103 ?_
      exact gPip.mk ⟨fun h => absurd h (by omega), fun h => absurd h (by omega), fun h => absurd h (by omega), fun h => absurd h (by omega), fun h => absurd h (by omega), fun h => absurd h (by omega), fun _ => hq6, fun h => absurd h (by omega), fun h => absurd h (by omega)⟩
    · refine g_tableIn fx 104 dX11_told_1 (by rw [hsv]; decide) (by rw [hsv]; decide) (off := 103) (by rw [hsv]; rfl) (by decide) ?_
      refine g_aload_n fx 0 dX11_told_104 rfl ?_
      refine g_get (r := 0) fx lkX11_44 (by omega) hx rfl dX11_told_105 ?_
      refine g_callVip (As := []) (rest := []) fx slX11_212 (c_X0_count B ad ct n Rk Ck sd cn N g hn hk hkr hR5 hC5 hsd hcn hN) (by omega) hk rfl rfl rfl (Nat.le_of_ble_eq_true rfl) ⟨by decide, by decide⟩ ⟨by decide, by decide⟩ dX11_told_108 (fun q7 hq7 => ?_)
      refine g_iret fx rt dX11_told_111 ?_
      exact gPip.mk ⟨fun h => absurd h (by omega), fun h => absurd h (by omega), fun h => absurd h (by omega), fun h => absurd h (by omega), fun h => absurd h (by omega), fun h => absurd h (by omega), fun h => absurd h (by omega), fun _ => hq7, fun h => absurd h (by omega)⟩
