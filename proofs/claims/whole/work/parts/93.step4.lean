theorem fig_lt {U W : Nat} (hW : 0 < W) (h : U ≤ W) : ∀ k, fig U W k < 16777216
  | 0 => by
    show U / W < _
    have : U / W ≤ W / W := Nat.div_le_div_right h
    rw [Nat.div_self hW] at this
    omega
  | k + 1 => by
    show figR U W k * 10 / W < _
    have h1 := figR_lt (U := U) hW k
    have : figR U W k * 10 / W < 10 := (Nat.div_lt_iff_lt_mul hW).mpr (by rw [Nat.mul_comm]; exact Nat.mul_lt_mul_of_pos_left h1 (by decide))
    omega
theorem insR_cg {lt lt' : Nat → Nat → Bool} {i : Nat} : ∀ (k : Nat) (o o' : Nat → Nat), k ≤ i → (∀ j, j ≤ i → j ≠ k → o j = o' j) → (∀ j, j < k → lt i (o j) = lt' i (o j)) → ∀ j, j ≤ i → insR lt i k o j = insR lt' i k o' j
  | 0, o, o', _, h1, _, j, hj => by
    show va_up o 0 i j = va_up o' 0 i j
    by_cases q : j = 0
    · rw [q, va_up_self, va_up_self]
    · rw [va_up_ne _ _ q, va_up_ne _ _ q]; exact h1 j hj q
  | k + 1, o, o', hk, h1, h2, j, hj => by
    show (if lt i (o k) then insR lt i k (va_up o (k + 1) (o k)) else va_up o (k + 1) i) j = (if lt' i (o' k) then insR lt' i k (va_up o' (k + 1) (o' k)) else va_up o' (k + 1) i) j
    have e := h1 k (by omega) (by omega)
    rw [h2 k (by omega), e]
    split
    · refine insR_cg k _ _ (by omega) (fun z hz hzk => ?_) (fun z hz => ?_) j hj
      · by_cases q : z = k + 1
        · rw [q, va_up_self, va_up_self]
        · rw [va_up_ne _ _ q, va_up_ne _ _ q]; exact h1 z hz q
      · rw [va_up_ne _ _ (by omega)]; exact h2 z (by omega)
    · by_cases q : j = k + 1
      · rw [q, va_up_self, va_up_self]
      · rw [va_up_ne _ _ q, va_up_ne _ _ q]; exact h1 j hj q
theorem ordS_cg {lt lt' : Nat → Nat → Bool} {o o' : Nat → Nat} : ∀ m, (∀ i j, i < m → j < m → lt i j = lt' i j) → ∀ j, j < m → ordS lt o m j = ordS lt' o' m j
  | 0, _, j, hj => absurd hj (Nat.not_lt_zero _)
  | m + 1, h, j, hj => insR_cg m _ _ (Nat.le_refl _) (fun z hz hzm => ordS_cg m (fun a b ha hb => h a b (by omega) (by omega)) z (by omega)) (fun z hz => h m _ (by omega) (by have := ordS_lt (lt := lt) (o := o) m z hz; omega)) j (by omega)
theorem hasF_cg {o o' : Nat → Nat} {i : Nat} : ∀ k, (∀ j, j < k → o j = o' j) → hasF o i k = hasF o' i k
  | 0, _ => rfl
  | k + 1, h => by
    show (hasF o i k || decide (o k = i)) = (hasF o' i k || decide (o' k = i))
    rw [hasF_cg k (fun j hj => h j (by omega)), h k (by omega)]
theorem nv_row {g g' : Nat → Nat} {a b : Nat} (h : ∀ k, k < 40 → g' (a + k) = g (b + k)) : nv g' a = nv g b := bval_congr 40 (fun k hk => h k hk)
/-- the same count by the same rows -/
theorem first_eq {U V U' V' o o' : Nat → Nat} {k c d q r : Nat} (hq : q ≤ k) (hr : r ≤ k) (hU : ∀ j, j < k → U (o j) = U' (o' j)) (hV : ∀ j, j < k → V (o j) = V' (o' j)) (a1 : ∀ j, j < q → U (o j) * d * (k - j) ≤ V (o j) * c) (a2 : q < k → ¬ U (o q) * d * (k - q) ≤ V (o q) * c) (b1 : ∀ j, j < r → U' (o' j) * d * (k - j) ≤ V' (o' j) * c) (b2 : r < k → ¬ U' (o' r) * d * (k - r) ≤ V' (o' r) * c) : q = r := by
  rcases Nat.lt_trichotomy q r with h | h | h
  · have h1 := b1 q h
    rw [← hU q (by omega), ← hV q (by omega)] at h1
    exact absurd h1 (a2 (by omega))
  · exact h
  · have h1 := a1 r h
    rw [hU r (by omega), hV r (by omega)] at h1
    exact absurd h1 (b2 (by omega))
set_option maxHeartbeats 4000000 in
set_option maxRecDepth 100000 in
theorem c_X11_against_b (B : gB) (ad : Nat → Nat) (ct : Nat → va_E) (n : Nat) (hn : 178 ≤ n) (hx : ct 0 = .inr (11, [.ref (ad 1), .ref (ad 3), .ref (ad 5), .ref (ad 7), .ref (ad 9), .ref (ad 11), .ref (ad 79), .ref (ad 81), .ref (ad 88), .ref (ad 110), .ref (ad 115)])) (th te sta ask : Int32) (hr : ct 88 = .inr (6, [.ref (ad 89), .int th, .int te, .int sta, .int ask])) (hrr : ct 89 = .inl (B.2.1 4, 4, .inr (.inr (.inr (.inr (fun i => some (ad (90 + 5 * i)))))))) (hth : th = 0 ∨ th = 1) (u l : Nat → Nat) (hF : ∀ t, t < 4 → isFr B ad ct (90 + 5 * t) (u t) (l t)) (hFb : ∀ t, t < 4 → u t < 2 ^ 180 ∧ l t < 2 ^ 180) (s0 : ct 110 = .inr (7, [.ref (ad 111), .ref (ad 113)])) (sx sy : Nat) (sl : isW B ad ct 111 sx) (sr : isW B ad ct 113 sy) (x a b : Int32) : Ctr B yX11_against cX11_against 5 (some .int) 4 101 0 0 ad ct n [.ref (ad 0), .int x, .int a, .int b] (gPi ad n (fun r ct' => (th = 0 ∧ r = -30 ∧ ct' = ct) ∨ (¬ th = 0 ∧ ¬ ((0 : Int) ≤ x.toInt ∧ x.toInt ≤ 3) ∧ r = -10 ∧ ct' = ct) ∨ (¬ th = 0 ∧ ∃ t : Nat, t < 4 ∧ x = nI t ∧ ((¬ (((0 : Int) ≤ a.toInt ∧ a.toInt ≤ 1000000) ∧ ((1 : Int) ≤ b.toInt ∧ b.toInt ≤ 1000000)) ∧ r = -20 ∧ ct' = ct) ∨ ((((0 : Int) ≤ a.toInt ∧ a.toInt ≤ 1000000) ∧ ((1 : Int) ≤ b.toInt ∧ b.toInt ≤ 1000000)) ∧ ∃ i j : Nat, (i < 2 ^ 31 ∧ j < 2 ^ 31) ∧ a = nI i ∧ b = nI j ∧ r = cmpI (u t * j) (l t * i) ∧ ∃ x' y', ct' 110 = .inr (7, [.ref (ad 111), .ref (ad 113)]) ∧ isW B ad ct' 111 x' ∧ isW B ad ct' 113 y' ∧ ∀ r, r < 111 ∨ 114 < r → ct' r = ct r))))) := by
  refine Ctr.ofG (L := [(0, .ref (ad 0)), (1, .int x), (2, .int a), (3, .int b)]) (by decide +kernel) rfl (Nat.le_of_ble_eq_true rfl) (fun E fx rt hnm => ?_)
  refine g_aload_n fx 0 dX11_against_0 rfl ?_
  refine g_iload_n fx 1 dX11_against_1 rfl ?_
  refine g_callVip (As := [.int x]) (rest := []) fx slX11_227 (c_X11_refusal B ad ct n hn hx th te sta ask hr hrr hth x) (by omega) hx rfl rfl rfl (Nat.le_of_ble_eq_true rfl) ⟨by decide, by decide⟩ ⟨by decide, by decide⟩ dX11_against_2 (fun q0 hq0 => ?_)
  refine g_istore (L' := [(4, .int q0), (0, .ref (ad 0)), (1, .int x), (2, .int a), (3, .int b)]) fx dX11_against_5 (by decide) rfl ?_
  refine g_iload fx 0 dX11_against_7 rfl ?_
  refine g_if_eq fx 18 dX11_against_9 (by decide) (fun c9 => ?_) (fun c9 => ?_)
  · skip
    have hth1 : ¬ th = 0 := fun q => by rw [hq0, if_pos q] at c9; exact absurd c9 (by decide)
    have hT : (0 : Int) ≤ x.toInt ∧ x.toInt ≤ 3 := Classical.byContradiction (fun w => by rw [hq0, if_neg hth1, if_neg w] at c9; exact absurd c9 (by decide))
    obtain ⟨t, ht, ex⟩ := toN hT (by omega)
    have htl : t < 4 := by omega
    have hft := hF t htl
    have hf0 := hft.1
    have hbt := hFb t htl
    refine g_relocal (L' := [(4, .int q0), (0, .ref (ad 0)), (1, .int (nI t)), (2, .int a), (3, .int b)]) (by rw [ex]) ?_
    refine g_iload_n fx 3 dX11_against_18 rfl ?_
    refine g_iload_n fx 4 dX11_against_19 rfl ?_
    refine g_callSip (As := [.int a, .int b]) (rest := []) fx slX11_246 (c_X11_isLevel B ad ct n a b) rfl rfl (Nat.le_of_ble_eq_true rfl) ⟨by decide, by decide⟩ ⟨by decide, by decide⟩ dX11_against_20 (fun q1 hq1 => ?_)
    refine g_if_eq fx 48 dX11_against_23 (by decide) (fun c23 => ?_) (fun c23 => ?_)
    · skip
      have hN := if01_z.mp (hq1 ▸ c23)
      refine g_bipush (v := (-20)) fx dX11_against_48 (by decide +kernel) ?_
      refine g_iret fx rt dX11_against_50 ?_
      exact gPi.mk (Or.inr (Or.inr ⟨hth1, t, htl, ex, Or.inl ⟨hN, rfl, rfl⟩⟩))
    · skip
      have hY := if01_n.mp (hq1 ▸ c23)
      obtain ⟨i, hi, ea⟩ := toN hY.1 (by omega)
      obtain ⟨j, hj, eb⟩ := toN hY.2 (by omega)
      refine g_relocal (L' := [(4, .int q0), (0, .ref (ad 0)), (1, .int (nI t)), (2, .int (nI i)), (3, .int (nI j))]) (by rw [ea, eb]) ?_
      refine g_aload_n fx 1 dX11_against_26 rfl ?_
      refine g_get (r := 0) fx lkX11_65 (by omega) hx rfl dX11_against_27 ?_
      refine g_aload_n fx 1 dX11_against_30 rfl ?_
      refine g_get (r := 0) fx lkX11_58 (by omega) hx rfl dX11_against_31 ?_
      refine g_iload_n fx 2 dX11_against_34 rfl ?_
      refine g_callVrp (As := [.int (nI t)]) (rest := [.ref (ad 110)]) fx slX11_142 (c_X6_chance B ad ct n th te sta ask hn hr hrr t htl) (by omega) hr rfl rfl rfl (Nat.le_of_ble_eq_true rfl) ⟨by decide, by decide⟩ ⟨by decide, by decide⟩ dX11_against_35 (fun qc hqc => ?_)
      subst hqc
      refine g_iload_n fx 3 dX11_against_38 rfl ?_
      refine g_i2l fx dX11_against_39 ?_
      refine g_isl (y := lN i) (nI_l (by omega)) ?_
      refine g_iload_n fx 4 dX11_against_40 rfl ?_
      refine g_i2l fx dX11_against_41 ?_
      refine g_isl (y := lN j) (nI_l (by omega)) ?_
      refine g_callVi (As := [.ref (ad (90 + 5 * t)), .long (lN i), .long (lN j)]) (rest := []) fx slX11_249 (c_X7_compareToLevel B ad ct n hn s0 sx sy sl sr (90 + 5 * t) (u t) (l t) (by omega) (by omega) hft.1 hft.2.1 hft.2.2 i j (by omega) (by omega) (lev hbt.1 (Nat.lt_of_le_of_lt (show j ≤ 1000000 by omega) (by decide))) (lev hbt.2 (Nat.lt_of_le_of_lt (show i ≤ 1000000 by omega) (by decide)))) (by omega) s0 rfl rfl rfl (Nat.le_of_ble_eq_true rfl) ⟨by decide, by decide⟩ ⟨by decide, by decide⟩ dX11_against_42 (fun q5 ct1 hq5 => ?_)
      refine g_goto fx 50 dX11_against_45 (by decide) ?_
      refine g_iret fx rt dX11_against_50 ?_
      exact gPi.mk (Or.inr (Or.inr ⟨hth1, t, htl, ex, Or.inr ⟨hY, i, j, ⟨by omega, by omega⟩, ea, eb, hq5.1, hq5.2⟩⟩))
  · skip
    have hbad : (th = 0 ∧ q0 = -3) ∨ (¬ th = 0 ∧ ¬ ((0 : Int) ≤ x.toInt ∧ x.toInt ≤ 3) ∧ q0 = -1) := by
      by_cases q : th = 0
      · exact Or.inl ⟨q, by rw [hq0, if_pos q]⟩
      · by_cases w : (0 : Int) ≤ x.toInt ∧ x.toInt ≤ 3
        · exact absurd (by rw [hq0, if_neg q, if_pos w]) c9
        · exact Or.inr ⟨q, w, by rw [hq0, if_neg q, if_neg w]⟩
    refine g_bipush (v := nI 10) fx dX11_against_12 (by decide +kernel) ?_
    refine g_iload fx 0 dX11_against_14 rfl ?_
    refine g_imul fx dX11_against_16 ?_
    refine g_iret fx rt dX11_against_17 ?_
    rcases hbad with ⟨h1, h2⟩ | ⟨h1, h2, h3⟩
    · exact gPi.mk (Or.inl ⟨h1, (by rw [h2]; rfl), rfl⟩)
    · exact gPi.mk (Or.inr (Or.inl ⟨h1, h2, (by rw [h3]; rfl), rfl⟩))
set_option maxHeartbeats 4000000 in
set_option maxRecDepth 100000 in
theorem c_X12_against_b (B : gB) (ad : Nat → Nat) (ct : Nat → va_E) (n : Nat) (f : Nat → Int32) (gu gw : Nat → Nat) (hn : 33 ≤ n) (h0 : ct 0 = mObj ad f) (hu : ct 9 = .inl (B.2.1 0, 160, .inl (nF gu))) (hw : ct 10 = .inl (B.2.1 0, 160, .inl (nF gw))) (hres : 0 ≤ f 12 → ∀ t, t < 4 → okN gu (40 * t) ∧ okN gw (40 * t)) (go gt : Nat → Nat) (ho : ct 3 = .inl (B.2.1 0, 40, .inl (nF go))) (hg : ct 4 = .inl (B.2.1 0, 40, .inl (nF gt))) (hbd : 0 ≤ f 12 → ∀ t, t < 4 → nv gu (40 * t) < 2 ^ 700 ∧ nv gw (40 * t) < 2 ^ 700) (x u v : Int32) : Ctr B yX12_against cX12_against 4 (some .int) 2 60 0 0 ad ct n [.ref (ad 0), .int x, .int u, .int v] (gPi ad n (fun q ct' => (f 12 < 0 ∧ q = -30 ∧ ct' = ct) ∨ (0 ≤ f 12 ∧ ¬ ((0 : Int) ≤ x.toInt ∧ x.toInt ≤ 3) ∧ q = -10 ∧ ct' = ct) ∨ (0 ≤ f 12 ∧ ∃ t : Nat, t < 4 ∧ x = nI t ∧ ((¬ (((0 : Int) ≤ u.toInt ∧ u.toInt ≤ 1000000) ∧ ((1 : Int) ≤ v.toInt ∧ v.toInt ≤ 1000000)) ∧ q = -20 ∧ ct' = ct) ∨ ((((0 : Int) ≤ u.toInt ∧ u.toInt ≤ 1000000) ∧ ((1 : Int) ≤ v.toInt ∧ v.toInt ≤ 1000000)) ∧ ∃ a b : Nat, (a < 2 ^ 31 ∧ b < 2 ^ 31) ∧ u = nI a ∧ v = nI b ∧ q = cmpI (nv gu (40 * t) * b) (nv gw (40 * t) * a) ∧ ∃ go' gt', ct' 3 = .inl (B.2.1 0, 40, .inl (nF go')) ∧ ct' 4 = .inl (B.2.1 0, 40, .inl (nF gt')) ∧ ∀ r, r ≠ 3 → r ≠ 4 → ct' r = ct r))))) := by
  refine Ctr.ofG (L := [(0, .ref (ad 0)), (1, .int x), (2, .int u), (3, .int v)]) (by decide +kernel) rfl (Nat.le_of_ble_eq_true rfl) (fun E fx rt hnm => ?_)
  refine g_aload_n fx 0 dX12_against_0 rfl ?_
  refine g_get (r := 0) fx lkX12_34 (by omega) h0 rfl dX12_against_1 ?_
  refine g_if_ge fx 10 dX12_against_4 (by decide) (fun c4 => ?_) (fun c4 => ?_)
  · skip
    have hkd := hres c4
    refine g_iload_n fx 1 dX12_against_10 rfl ?_
    refine g_callSip (As := [.int x]) (rest := []) fx slX12_285 (c_X12_isTail B ad ct n x) rfl rfl (Nat.le_of_ble_eq_true rfl) ⟨by decide, by decide⟩ ⟨by decide, by decide⟩ dX12_against_11 (fun qt hqt => ?_)
    refine g_if_ne fx 20 dX12_against_14 (by decide) (fun c14 => ?_) (fun c14 => ?_)
    · skip
      have hP : (0 : Int) ≤ x.toInt ∧ x.toInt ≤ 3 := if01_n.mp (hqt ▸ c14)
      obtain ⟨t, ht, ext⟩ := toN hP (by omega)
      have hkt := hkd t (by omega)
      refine g_relocal (L' := [(0, .ref (ad 0)), (1, .int (nI t)), (2, .int u), (3, .int v)]) (by rw [ext]) ?_
      refine g_iload_n fx 2 dX12_against_20 rfl ?_
      refine g_iload_n fx 3 dX12_against_21 rfl ?_
      refine g_callSip (As := [.int u, .int v]) (rest := []) fx slX12_299 (c_X12_isLevel B ad ct n u v) rfl rfl (Nat.le_of_ble_eq_true rfl) ⟨by decide, by decide⟩ ⟨by decide, by decide⟩ dX12_against_22 (fun q1 hq1 => ?_)
      refine g_if_eq fx 54 dX12_against_25 (by decide) (fun c25 => ?_) (fun c25 => ?_)
      · skip
        have hA := if01_z.mp (hq1 ▸ c25)
        refine g_bipush (v := (-20)) fx dX12_against_54 (by decide +kernel) ?_
        refine g_iret fx rt dX12_against_56 ?_
        refine gPi.mk (Or.inr (Or.inr ⟨c4, t, by omega, ext, ?_⟩))
        first | exact Or.inl ⟨hA, rfl, rfl⟩ | exact Or.inr ⟨hL, a, b, ⟨by omega, by omega⟩, eua, evb, hq2, hcc⟩
      · skip
        have hL := if01_n.mp (hq1 ▸ c25)
        obtain ⟨a, ha, eua⟩ := toN hL.1 (by omega)
        obtain ⟨b, hb, evb⟩ := toN hL.2 (by omega)
        have hbt := hbd c4 t (by omega)
        have hm1 : nv gu (40 * t) * b < 16777216 ^ 40 := Nat.lt_of_le_of_lt (Nat.mul_le_mul_left _ (show b ≤ 2 ^ 20 by omega)) (by have := hbt.1; rw [show (16777216 : Nat) ^ 40 = 2 ^ 700 * 2 ^ 260 by decide +kernel]; exact Nat.lt_of_lt_of_le (Nat.mul_lt_mul_of_pos_right this (by decide)) (Nat.mul_le_mul_left _ (by decide)))
        have hm2 : nv gw (40 * t) * a < 16777216 ^ 40 := Nat.lt_of_le_of_lt (Nat.mul_le_mul_left _ (show a ≤ 2 ^ 20 by omega)) (by have := hbt.2; rw [show (16777216 : Nat) ^ 40 = 2 ^ 700 * 2 ^ 260 by decide +kernel]; exact Nat.lt_of_lt_of_le (Nat.mul_lt_mul_of_pos_right this (by decide)) (Nat.mul_le_mul_left _ (by decide)))
        refine g_relocal (L' := [(0, .ref (ad 0)), (1, .int (nI t)), (2, .int (nI a)), (3, .int (nI b))]) (by rw [eua, evb]) ?_
        refine g_aload_n fx 0 dX12_against_28 rfl ?_
        refine g_aload_n fx 0 dX12_against_29 rfl ?_
        refine g_get (r := 0) fx lkX12_38 (by omega) h0 rfl dX12_against_30 ?_
        refine g_bipush (v := nI 40) fx dX12_against_33 (by decide +kernel) ?_
        refine g_iload_n fx 1 dX12_against_35 rfl ?_
        refine g_imulN fx dX12_against_36 ?_
        refine g_aload_n fx 0 dX12_against_37 rfl ?_
        refine g_get (r := 0) fx lkX12_41 (by omega) h0 rfl dX12_against_38 ?_
        refine g_bipush (v := nI 40) fx dX12_against_41 (by decide +kernel) ?_
        refine g_iload_n fx 1 dX12_against_43 rfl ?_
        refine g_imulN fx dX12_against_44 ?_
        refine g_iload_n fx 2 dX12_against_45 rfl ?_
        refine g_iload_n fx 3 dX12_against_46 rfl ?_
        refine g_iconst (v := nI 1) fx dX12_against_47 (by decide +kernel) ?_
        refine g_callVi (As := [.ref (ad 9), .int (nI (40 * t)), .ref (ad 10), .int (nI (40 * t)), .int (nI a), .int (nI b), .int (nI 1)]) (rest := []) fx slX12_303 (c_X12_stands B ad ct n f go gt hn h0 ho hg 9 (40 * t) 160 gu (by omega) (by omega) (by decide) hu 10 (40 * t) 160 gw (by omega) (by omega) (by decide) hw (by decide) (by decide) hkt.1 hkt.2 a b 1 (by omega) (by omega) (by decide) hm1 (by rw [Nat.mul_one]; exact hm1) hm2) (by omega) h0 rfl rfl rfl (Nat.le_of_ble_eq_true rfl) ⟨by decide, by decide⟩ ⟨by decide, by decide⟩ dX12_against_48 (fun q2 ct1 hq2 => ?_)
        obtain ⟨hq2, hcc⟩ := hq2
        rw [Nat.mul_one] at hq2
        refine g_goto fx 56 dX12_against_51 (by decide) ?_
        refine g_iret fx rt dX12_against_56 ?_
        refine gPi.mk (Or.inr (Or.inr ⟨c4, t, by omega, ext, ?_⟩))
        first | exact Or.inl ⟨hA, rfl, rfl⟩ | exact Or.inr ⟨hL, a, b, ⟨by omega, by omega⟩, eua, evb, hq2, hcc⟩
    · skip
      have hA : ¬ ((0 : Int) ≤ x.toInt ∧ x.toInt ≤ 3) := if01_z.mp (hqt ▸ c14)
      refine g_bipush (v := (-10)) fx dX12_against_17 (by decide +kernel) ?_
      refine g_iret fx rt dX12_against_19 ?_
      exact gPi.mk (Or.inr (Or.inl ⟨c4, hA, rfl, rfl⟩))
  · skip
    have hkn : f 12 < 0 := Int32.not_le.mp c4
    refine g_bipush (v := (-30)) fx dX12_against_7 (by decide +kernel) ?_
    refine g_iret fx rt dX12_against_9 ?_
    exact gPi.mk (Or.inl ⟨hkn, rfl, rfl⟩)
set_option maxHeartbeats 4000000 in
set_option maxRecDepth 100000 in
theorem c_X11_rejected_b (B : gB) (ad : Nat → Nat) (ct : Nat → va_E) (n : Nat) (hn : 178 ≤ n) (hx : ct 0 = .inr (11, [.ref (ad 1), .ref (ad 3), .ref (ad 5), .ref (ad 7), .ref (ad 9), .ref (ad 11), .ref (ad 79), .ref (ad 81), .ref (ad 88), .ref (ad 110), .ref (ad 115)])) (s0 : ct 110 = .inr (7, [.ref (ad 111), .ref (ad 113)])) (sx sy : Nat) (sl : isW B ad ct 111 sx) (sr : isW B ad ct 113 sy) (k : Nat) (o : Nat → Nat) (hc : ct 115 = .inr (1, [.ref (ad 116), .ref (ad 117), .ref (ad 110), .int (nI k)])) (hcr : ct 116 = .inl (B.2.1 4, 12, .inr (.inr (.inr (.inr (fun i => some (ad (118 + 5 * i)))))))) (hco : ct 117 = .inl (B.2.1 0, 12, .inl (nF o))) (hk12 : k ≤ 12) (U V : Nat → Nat) (hN : ∀ i, i < 12 → isFr B ad ct (118 + 5 * i) (U i) (V i)) (hBn : ∀ i, i < 12 → U i < 2 ^ 180 ∧ V i < 2 ^ 180) (ho : ∀ j, j < k → o j < 12) (a b : Int32) : Ctr B yX11_rejected cX11_rejected 3 (some .int) 5 126 0 0 ad ct n [.ref (ad 0), .int a, .int b] (gPi ad n (fun r ct' => (¬ (((0 : Int) ≤ a.toInt ∧ a.toInt ≤ 1000000) ∧ ((1 : Int) ≤ b.toInt ∧ b.toInt ≤ 1000000)) ∧ r = -2 ∧ ct' = ct) ∨ ((((0 : Int) ≤ a.toInt ∧ a.toInt ≤ 1000000) ∧ ((1 : Int) ≤ b.toInt ∧ b.toInt ≤ 1000000)) ∧ ∃ c d : Nat, (c < 2 ^ 31 ∧ d < 2 ^ 31) ∧ a = nI c ∧ b = nI d ∧ (∃ q : Nat, r = nI q ∧ q ≤ k ∧ (∀ j, j < q → U (o j) * d * (k - j) ≤ V (o j) * c) ∧ (q < k → ¬ U (o q) * d * (k - q) ≤ V (o q) * c)) ∧ ∃ x' y', ct' 110 = .inr (7, [.ref (ad 111), .ref (ad 113)]) ∧ isW B ad ct' 111 x' ∧ isW B ad ct' 113 y' ∧ ∀ r, r < 111 ∨ 114 < r → ct' r = ct r))) := by
  refine Ctr.ofG (L := [(0, .ref (ad 0)), (1, .int a), (2, .int b)]) (by decide +kernel) rfl (Nat.le_of_ble_eq_true rfl) (fun E fx rt hnm => ?_)
  refine g_iload_n fx 1 dX11_rejected_0 rfl ?_
  refine g_iload_n fx 2 dX11_rejected_1 rfl ?_
  refine g_callSip (As := [.int a, .int b]) (rest := []) fx slX11_246 (c_X11_isLevel B ad ct n a b) rfl rfl (Nat.le_of_ble_eq_true rfl) ⟨by decide, by decide⟩ ⟨by decide, by decide⟩ dX11_rejected_2 (fun q1 hq1 => ?_)
  refine g_if_eq fx 20 dX11_rejected_5 (by decide) (fun c5 => ?_) (fun c5 => ?_)
  · skip
    have hN1 := if01_z.mp (hq1 ▸ c5)
    refine g_bipush (v := (-2)) fx dX11_rejected_20 (by decide +kernel) ?_
    refine g_iret fx rt dX11_rejected_22 ?_
    exact gPi.mk (Or.inl ⟨hN1, rfl, rfl⟩)
  · skip
    have hY := if01_n.mp (hq1 ▸ c5)
    obtain ⟨c, hc1, ea⟩ := toN hY.1 (by omega)
    obtain ⟨d, hd1, eb⟩ := toN hY.2 (by omega)
    refine g_relocal (L' := [(0, .ref (ad 0)), (1, .int (nI c)), (2, .int (nI d))]) (by rw [ea, eb]) ?_
    refine g_aload_n fx 0 dX11_rejected_8 rfl ?_
    refine g_get (r := 0) fx lkX11_74 (by omega) hx rfl dX11_rejected_9 ?_
    refine g_iload_n fx 1 dX11_rejected_12 rfl ?_
    refine g_iload_n fx 2 dX11_rejected_13 rfl ?_
    refine g_callVi (As := [.int (nI c), .int (nI d)]) (rest := []) fx slX11_278 (c_X1_countRejected B ad ct n k o hn hc hcr hco hk12 s0 sx sy sl sr U V hN hBn ho c d (by omega) (by omega)) (by omega) hc rfl rfl rfl (Nat.le_of_ble_eq_true rfl) ⟨by decide, by decide⟩ ⟨by decide, by decide⟩ dX11_rejected_14 (fun q5 ct1 hq5 => ?_)
    refine g_goto fx 22 dX11_rejected_17 (by decide) ?_
    refine g_iret fx rt dX11_rejected_22 ?_
    exact gPi.mk (Or.inr ⟨hY, c, d, ⟨by omega, by omega⟩, ea, eb, hq5.1, hq5.2⟩)
set_option maxHeartbeats 4000000 in
set_option maxRecDepth 100000 in
theorem c_X11_isRejected_b (B : gB) (ad : Nat → Nat) (ct : Nat → va_E) (n : Nat) (hn : 178 ≤ n) (hx : ct 0 = .inr (11, [.ref (ad 1), .ref (ad 3), .ref (ad 5), .ref (ad 7), .ref (ad 9), .ref (ad 11), .ref (ad 79), .ref (ad 81), .ref (ad 88), .ref (ad 110), .ref (ad 115)])) (s0 : ct 110 = .inr (7, [.ref (ad 111), .ref (ad 113)])) (sx sy : Nat) (sl : isW B ad ct 111 sx) (sr : isW B ad ct 113 sy) (k : Nat) (o : Nat → Nat) (hc : ct 115 = .inr (1, [.ref (ad 116), .ref (ad 117), .ref (ad 110), .int (nI k)])) (hcr : ct 116 = .inl (B.2.1 4, 12, .inr (.inr (.inr (.inr (fun i => some (ad (118 + 5 * i)))))))) (hco : ct 117 = .inl (B.2.1 0, 12, .inl (nF o))) (hk12 : k ≤ 12) (U V : Nat → Nat) (hN : ∀ i, i < 12 → isFr B ad ct (118 + 5 * i) (U i) (V i)) (hBn : ∀ i, i < 12 → U i < 2 ^ 180 ∧ V i < 2 ^ 180) (ho : ∀ j, j < k → o j < 12) (x a b : Int32) : Ctr B yX11_isRejected cX11_isRejected 4 (some .int) 5 126 0 0 ad ct n [.ref (ad 0), .int x, .int a, .int b] (gPi ad n (fun r ct' => (¬ (0 ≤ x.toInt ∧ x.toInt < (k : Int)) ∧ r = -1 ∧ ct' = ct) ∨ ((0 ≤ x.toInt ∧ x.toInt < (k : Int)) ∧ ¬ (((0 : Int) ≤ a.toInt ∧ a.toInt ≤ 1000000) ∧ ((1 : Int) ≤ b.toInt ∧ b.toInt ≤ 1000000)) ∧ r = -2 ∧ ct' = ct) ∨ ((0 ≤ x.toInt ∧ x.toInt < (k : Int)) ∧ (((0 : Int) ≤ a.toInt ∧ a.toInt ≤ 1000000) ∧ ((1 : Int) ≤ b.toInt ∧ b.toInt ≤ 1000000)) ∧ ∃ i c d : Nat, x = nI i ∧ i < k ∧ (c < 2 ^ 31 ∧ d < 2 ^ 31) ∧ a = nI c ∧ b = nI d ∧ (∃ q : Nat, q ≤ k ∧ (∀ j, j < q → U (o j) * d * (k - j) ≤ V (o j) * c) ∧ (q < k → ¬ U (o q) * d * (k - q) ≤ V (o q) * c) ∧ r = if hasF o i q then 1 else 0) ∧ ∃ x' y', ct' 110 = .inr (7, [.ref (ad 111), .ref (ad 113)]) ∧ isW B ad ct' 111 x' ∧ isW B ad ct' 113 y' ∧ ∀ r, r < 111 ∨ 114 < r → ct' r = ct r))) := by
  refine Ctr.ofG (L := [(0, .ref (ad 0)), (1, .int x), (2, .int a), (3, .int b)]) (by decide +kernel) rfl (Nat.le_of_ble_eq_true rfl) (fun E fx rt hnm => ?_)
  refine g_aload_n fx 0 dX11_isRejected_0 rfl ?_
  refine g_get (r := 0) fx lkX11_74 (by omega) hx rfl dX11_isRejected_1 ?_
  refine g_iload_n fx 1 dX11_isRejected_4 rfl ?_
  refine g_callVip (As := [.int x]) (rest := []) fx slX11_281 (c_X1_has B ad ct n k o hn hc hcr hco hk12 x) (by omega) hc rfl rfl rfl (Nat.le_of_ble_eq_true rfl) ⟨by decide, by decide⟩ ⟨by decide, by decide⟩ dX11_isRejected_5 (fun q1 hq1 => ?_)
  refine g_if_ne fx 13 dX11_isRejected_8 (by decide) (fun c8 => ?_) (fun c8 => ?_)
  · skip
    have hX := if01_n.mp (hq1 ▸ c8)
    obtain ⟨i, hi, ex⟩ := toR hX
    refine g_relocal (L' := [(0, .ref (ad 0)), (1, .int (nI i)), (2, .int a), (3, .int b)]) (by rw [ex]) ?_
    refine g_iload_n fx 2 dX11_isRejected_13 rfl ?_
    refine g_iload_n fx 3 dX11_isRejected_14 rfl ?_
    refine g_callSip (As := [.int a, .int b]) (rest := []) fx slX11_246 (c_X11_isLevel B ad ct n a b) rfl rfl (Nat.le_of_ble_eq_true rfl) ⟨by decide, by decide⟩ ⟨by decide, by decide⟩ dX11_isRejected_15 (fun q2 hq2 => ?_)
    refine g_if_ne fx 24 dX11_isRejected_18 (by decide) (fun c18 => ?_) (fun c18 => ?_)
    · skip
      have hY := if01_n.mp (hq2 ▸ c18)
      obtain ⟨c, hc1, ea⟩ := toN hY.1 (by omega)
      obtain ⟨d, hd1, eb⟩ := toN hY.2 (by omega)
      refine g_relocal (L' := [(0, .ref (ad 0)), (1, .int (nI i)), (2, .int (nI c)), (3, .int (nI d))]) (by rw [ea, eb]) ?_
      refine g_aload_n fx 0 dX11_isRejected_24 rfl ?_
      refine g_get (r := 0) fx lkX11_74 (by omega) hx rfl dX11_isRejected_25 ?_
      refine g_iload_n fx 1 dX11_isRejected_28 rfl ?_
      refine g_callVip (As := [.int (nI i)]) (rest := []) fx slX11_282 (c_X1_placeOf B ad ct n k o hn hc hcr hco hk12 i (by omega) ho) (by omega) hc rfl rfl rfl (Nat.le_of_ble_eq_true rfl) ⟨by decide, by decide⟩ ⟨by decide, by decide⟩ dX11_isRejected_29 (fun q3 hq3 => ?_)
      obtain ⟨pj, epj, hpk, hpe, hpn⟩ := hq3
      refine g_isi (y := nI pj) epj ?_
      refine g_aload_n fx 0 dX11_isRejected_32 rfl ?_
      refine g_get (r := 0) fx lkX11_74 (by omega) hx rfl dX11_isRejected_33 ?_
      refine g_iload_n fx 2 dX11_isRejected_36 rfl ?_
      refine g_iload_n fx 3 dX11_isRejected_37 rfl ?_
      refine g_callVi (As := [.int (nI c), .int (nI d)]) (rest := [.int (nI pj)]) fx slX11_278 (c_X1_countRejected B ad ct n k o hn hc hcr hco hk12 s0 sx sy sl sr U V hN hBn ho c d (by omega) (by omega)) (by omega) hc rfl rfl rfl (Nat.le_of_ble_eq_true rfl) ⟨by decide, by decide⟩ ⟨by decide, by decide⟩ dX11_isRejected_38 (fun q5 ct1 hq5 => ?_)
      obtain ⟨⟨qn, eqn, hqk, hall, hend⟩, hsp⟩ := hq5
      refine g_isi (y := nI qn) eqn ?_
      refine g_icmp_ge fx 48 dX11_isRejected_41 (by decide) (fun c41 => ?_) (fun c41 => ?_)
      · skip
        have hge : qn ≤ pj := (nI_leI (by omega) (by omega)).mp c41
        have hh : ¬ hasF o i qn = true := fun w => by obtain ⟨j, hj, e⟩ := (hasF_iff qn).mp w; exact hpn j (by omega) e
        refine g_iconst (v := nI 0) fx dX11_isRejected_48 (by decide +kernel) ?_
        refine g_iret fx rt dX11_isRejected_49 ?_
        refine gPi.mk (Or.inr (Or.inr ⟨hX, hY, i, c, d, ex, hi, ⟨by omega, by omega⟩, ea, eb, ⟨qn, hqk, hall, hend, ?_⟩, hsp⟩))
        first | (rw [if_pos hh]; rfl) | (rw [if_neg hh]; rfl)
      · skip
        have hlt : pj < qn := (nI_ltI (by omega) (by omega)).mp (Int32.not_le.mp c41)
        have hh : hasF o i qn = true := (hasF_iff qn).mpr ⟨pj, hlt, hpe (by omega)⟩
        refine g_iconst (v := nI 1) fx dX11_isRejected_44 (by decide +kernel) ?_
        refine g_goto fx 49 dX11_isRejected_45 (by decide) ?_
        refine g_iret fx rt dX11_isRejected_49 ?_
        refine gPi.mk (Or.inr (Or.inr ⟨hX, hY, i, c, d, ex, hi, ⟨by omega, by omega⟩, ea, eb, ⟨qn, hqk, hall, hend, ?_⟩, hsp⟩))
        first | (rw [if_pos hh]; rfl) | (rw [if_neg hh]; rfl)
    · skip
      have hN1 := if01_z.mp (hq2 ▸ c18)
      refine g_bipush (v := (-2)) fx dX11_isRejected_21 (by decide +kernel) ?_
      refine g_iret fx rt dX11_isRejected_23 ?_
      exact gPi.mk (Or.inr (Or.inl ⟨hX, hN1, rfl, rfl⟩))
  · skip
    have hN1 := if01_z.mp (hq1 ▸ c8)
    refine g_iconst (v := (-1)) fx dX11_isRejected_11 (by decide +kernel) ?_
    refine g_iret fx rt dX11_isRejected_12 ?_
    exact gPi.mk (Or.inl ⟨hN1, rfl, rfl⟩)
set_option maxHeartbeats 4000000 in
set_option maxRecDepth 100000 in
theorem c_X12_rejected_b (B : gB) (ad : Nat → Nat) (ct : Nat → va_E) (n : Nat) (f : Nat → Int32) (go gt pu pw o xa xb : Nat → Nat) (hn : 33 ≤ n) (h0 : ct 0 = mObj ad f) (ho : ct 3 = .inl (B.2.1 0, 40, .inl (nF go))) (hg : ct 4 = .inl (B.2.1 0, 40, .inl (nF gt))) (hp : ct 26 = .inl (B.2.1 0, 480, .inl (nF pu))) (hr : ct 27 = .inl (B.2.1 0, 480, .inl (nF pw))) (hod : ct 28 = .inl (B.2.1 0, 12, .inl (nF o))) (hx : ct 29 = .inl (B.2.1 0, 80, .inl (nF xa))) (hy : ct 30 = .inl (B.2.1 0, 80, .inl (nF xb))) (kn : Nat) (hkn : f 40 = nI kn) (hkn12 : kn ≤ 12) (hok : ∀ i, i < kn → okN pu (40 * i) ∧ okN pw (40 * i) ∧ nv pu (40 * i) < 2 ^ 700 ∧ nv pw (40 * i) < 2 ^ 700) (x y : Int32) : Ctr B yX12_rejected cX12_rejected 3 (some .int) 3 81 0 0 ad ct n [.ref (ad 0), .int x, .int y] (gPi ad n (fun q ct' => (¬ (((0 : Int) ≤ x.toInt ∧ x.toInt ≤ 1000000) ∧ ((1 : Int) ≤ y.toInt ∧ y.toInt ≤ 1000000)) ∧ q = -2 ∧ ct' = ct) ∨ ((((0 : Int) ≤ x.toInt ∧ x.toInt ≤ 1000000) ∧ ((1 : Int) ≤ y.toInt ∧ y.toInt ≤ 1000000)) ∧ ∃ u v : Nat, (u < 2 ^ 31 ∧ v < 2 ^ 31) ∧ x = nI u ∧ y = nI v ∧ (∃ r' : Nat, q = nI r' ∧ r' ≤ kn ∧ (∀ j, j < r' → nv pu (40 * (ordS (ltF (fun i => nv pu (40 * i)) (fun i => nv pw (40 * i))) o kn) j) * v * (kn - j) ≤ nv pw (40 * (ordS (ltF (fun i => nv pu (40 * i)) (fun i => nv pw (40 * i))) o kn) j) * u) ∧ (r' < kn → ¬ nv pu (40 * (ordS (ltF (fun i => nv pu (40 * i)) (fun i => nv pw (40 * i))) o kn) r') * v * (kn - r') ≤ nv pw (40 * (ordS (ltF (fun i => nv pu (40 * i)) (fun i => nv pw (40 * i))) o kn) r') * u)) ∧ ct' 28 = .inl (B.2.1 0, 12, .inl (nF (ordS (ltF (fun i => nv pu (40 * i)) (fun i => nv pw (40 * i))) o kn))) ∧ (∃ go' gt' xa' xb', ct' 3 = .inl (B.2.1 0, 40, .inl (nF go')) ∧ ct' 4 = .inl (B.2.1 0, 40, .inl (nF gt')) ∧ ct' 29 = .inl (B.2.1 0, 80, .inl (nF xa')) ∧ ct' 30 = .inl (B.2.1 0, 80, .inl (nF xb'))) ∧ ∀ r, r ≠ 3 → r ≠ 4 → r ≠ 28 → r ≠ 29 → r ≠ 30 → ct' r = ct r))) := by
  refine Ctr.ofG (L := [(0, .ref (ad 0)), (1, .int x), (2, .int y)]) (by decide +kernel) rfl (Nat.le_of_ble_eq_true rfl) (fun E fx rt hnm => ?_)
  refine g_iload_n fx 1 dX12_rejected_0 rfl ?_
  refine g_iload_n fx 2 dX12_rejected_1 rfl ?_
  refine g_callSip (As := [.int x, .int y]) (rest := []) fx slX12_299 (c_X12_isLevel B ad ct n x y) rfl rfl (Nat.le_of_ble_eq_true rfl) ⟨by decide, by decide⟩ ⟨by decide, by decide⟩ dX12_rejected_2 (fun q1 hq1 => ?_)
  refine g_if_eq fx 17 dX12_rejected_5 (by decide) (fun c5 => ?_) (fun c5 => ?_)
  · skip
    have hA := if01_z.mp (hq1 ▸ c5)
    refine g_bipush (v := (-2)) fx dX12_rejected_17 (by decide +kernel) ?_
    refine g_iret fx rt dX12_rejected_19 ?_
    refine gPi.mk ?_
    first | exact Or.inl ⟨hA, rfl, rfl⟩ | exact Or.inr ⟨hL, u, v, ⟨by omega, by omega⟩, exu, eyv, hq2⟩
  · skip
    have hL := if01_n.mp (hq1 ▸ c5)
    obtain ⟨u, hu, exu⟩ := toN hL.1 (by omega)
    obtain ⟨v, hv, eyv⟩ := toN hL.2 (by omega)
    refine g_relocal (L' := [(0, .ref (ad 0)), (1, .int (nI u)), (2, .int (nI v))]) (by rw [exu, eyv]) ?_
    refine g_aload_n fx 0 dX12_rejected_8 rfl ?_
    refine g_iload_n fx 1 dX12_rejected_9 rfl ?_
    refine g_iload_n fx 2 dX12_rejected_10 rfl ?_
    refine g_callVi (As := [.int (nI u), .int (nI v)]) (rest := []) fx slX12_315 (c_X12_findRejected B ad ct n f go gt pu pw o xa xb hn h0 ho hg hp hr hod hx hy kn hkn hkn12 hok u v (by omega) (by omega)) (by omega) h0 rfl rfl rfl (Nat.le_of_ble_eq_true rfl) ⟨by decide, by decide⟩ ⟨by decide, by decide⟩ dX12_rejected_11 (fun q2 ct1 hq2 => ?_)
    refine g_goto fx 19 dX12_rejected_14 (by decide) ?_
    refine g_iret fx rt dX12_rejected_19 ?_
    refine gPi.mk ?_
    first | exact Or.inl ⟨hA, rfl, rfl⟩ | exact Or.inr ⟨hL, u, v, ⟨by omega, by omega⟩, exu, eyv, hq2⟩
set_option maxHeartbeats 4000000 in
set_option maxRecDepth 100000 in
theorem c_X12_isRejected_b (B : gB) (ad : Nat → Nat) (ct : Nat → va_E) (n : Nat) (f : Nat → Int32) (go gt pu pw o xa xb : Nat → Nat) (hn : 33 ≤ n) (h0 : ct 0 = mObj ad f) (ho : ct 3 = .inl (B.2.1 0, 40, .inl (nF go))) (hg : ct 4 = .inl (B.2.1 0, 40, .inl (nF gt))) (hp : ct 26 = .inl (B.2.1 0, 480, .inl (nF pu))) (hr : ct 27 = .inl (B.2.1 0, 480, .inl (nF pw))) (hod : ct 28 = .inl (B.2.1 0, 12, .inl (nF o))) (hx : ct 29 = .inl (B.2.1 0, 80, .inl (nF xa))) (hy : ct 30 = .inl (B.2.1 0, 80, .inl (nF xb))) (kn : Nat) (hkn : f 40 = nI kn) (hkn12 : kn ≤ 12) (hok : ∀ i, i < kn → okN pu (40 * i) ∧ okN pw (40 * i) ∧ nv pu (40 * i) < 2 ^ 700 ∧ nv pw (40 * i) < 2 ^ 700) (x y z : Int32) : Ctr B yX12_isRejected cX12_isRejected 7 (some .int) 3 81 0 0 ad ct n [.ref (ad 0), .int x, .int y, .int z] (gPi ad n (fun q ct' => (¬ ((0 : Int) ≤ x.toInt ∧ x.toInt ≤ (kn : Int) - 1) ∧ q = -1 ∧ ct' = ct) ∨ (((0 : Int) ≤ x.toInt ∧ x.toInt ≤ (kn : Int) - 1) ∧ ¬ (((0 : Int) ≤ y.toInt ∧ y.toInt ≤ 1000000) ∧ ((1 : Int) ≤ z.toInt ∧ z.toInt ≤ 1000000)) ∧ q = -2 ∧ ct' = ct) ∨ (((0 : Int) ≤ x.toInt ∧ x.toInt ≤ (kn : Int) - 1) ∧ (((0 : Int) ≤ y.toInt ∧ y.toInt ≤ 1000000) ∧ ((1 : Int) ≤ z.toInt ∧ z.toInt ≤ 1000000)) ∧ ∃ i u v : Nat, x = nI i ∧ i < kn ∧ (u < 2 ^ 31 ∧ v < 2 ^ 31) ∧ y = nI u ∧ z = nI v ∧ (∃ r' : Nat, r' ≤ kn ∧ (∀ j, j < r' → nv pu (40 * (ordS (ltF (fun i => nv pu (40 * i)) (fun i => nv pw (40 * i))) o kn) j) * v * (kn - j) ≤ nv pw (40 * (ordS (ltF (fun i => nv pu (40 * i)) (fun i => nv pw (40 * i))) o kn) j) * u) ∧ (r' < kn → ¬ nv pu (40 * (ordS (ltF (fun i => nv pu (40 * i)) (fun i => nv pw (40 * i))) o kn) r') * v * (kn - r') ≤ nv pw (40 * (ordS (ltF (fun i => nv pu (40 * i)) (fun i => nv pw (40 * i))) o kn) r') * u) ∧ q = if hasF (ordS (ltF (fun i => nv pu (40 * i)) (fun i => nv pw (40 * i))) o kn) i r' then 1 else 0) ∧ ct' 28 = .inl (B.2.1 0, 12, .inl (nF (ordS (ltF (fun i => nv pu (40 * i)) (fun i => nv pw (40 * i))) o kn))) ∧ (∃ go' gt' xa' xb', ct' 3 = .inl (B.2.1 0, 40, .inl (nF go')) ∧ ct' 4 = .inl (B.2.1 0, 40, .inl (nF gt')) ∧ ct' 29 = .inl (B.2.1 0, 80, .inl (nF xa')) ∧ ct' 30 = .inl (B.2.1 0, 80, .inl (nF xb'))) ∧ ∀ r, r ≠ 3 → r ≠ 4 → r ≠ 28 → r ≠ 29 → r ≠ 30 → ct' r = ct r))) := by
  refine Ctr.ofG (L := [(0, .ref (ad 0)), (1, .int x), (2, .int y), (3, .int z)]) (by decide +kernel) rfl (Nat.le_of_ble_eq_true rfl) (fun E fx rt hnm => ?_)
  refine g_iload_n fx 1 dX12_isRejected_0 rfl ?_
  refine g_i2l fx dX12_isRejected_1 ?_
  refine g_lconst (v := lN 0) fx dX12_isRejected_2 (by decide +kernel) ?_
  refine g_aload_n fx 0 dX12_isRejected_3 rfl ?_
  refine g_get (r := 0) fx lkX12_184 (by omega) h0 rfl dX12_isRejected_4 ?_
  refine g_isi (y := nI kn) hkn ?_
  refine g_iconst (v := nI 1) fx dX12_isRejected_7 (by decide +kernel) ?_
  refine g_isub fx dX12_isRejected_8 ?_
  refine g_i2l fx dX12_isRejected_9 ?_
  refine g_callSip (As := [.long x.toInt64, .long (lN 0), .long (((nI kn) - (nI 1)).toInt64)]) (rest := []) fx slX12_159 (c_in B ad ct n x (lN 0) (nI kn - nI 1).toInt64 0 ((kn : Int) - 1) (by decide) (rm1 (by omega))) rfl rfl (Nat.le_of_ble_eq_true rfl) ⟨by decide, by decide⟩ ⟨by decide, by decide⟩ dX12_isRejected_10 (fun q1 hq1 => ?_)
  refine g_if_ne fx 18 dX12_isRejected_13 (by decide) (fun c13 => ?_) (fun c13 => ?_)
  · skip
    have hN := if01_n.mp (hq1 ▸ c13)
    obtain ⟨i, hi, exi⟩ := toN hN (by omega)
    refine g_relocal (L' := [(0, .ref (ad 0)), (1, .int (nI i)), (2, .int y), (3, .int z)]) (by rw [exi]) ?_
    refine g_iload_n fx 2 dX12_isRejected_18 rfl ?_
    refine g_iload_n fx 3 dX12_isRejected_19 rfl ?_
    refine g_callSip (As := [.int y, .int z]) (rest := []) fx slX12_299 (c_X12_isLevel B ad ct n y z) rfl rfl (Nat.le_of_ble_eq_true rfl) ⟨by decide, by decide⟩ ⟨by decide, by decide⟩ dX12_isRejected_20 (fun q2 hq2 => ?_)
    refine g_if_ne fx 29 dX12_isRejected_23 (by decide) (fun c23 => ?_) (fun c23 => ?_)
    · skip
      have hL := if01_n.mp (hq2 ▸ c23)
      obtain ⟨u, hu, eyu⟩ := toN hL.1 (by omega)
      obtain ⟨v, hv, ezv⟩ := toN hL.2 (by omega)
      refine g_relocal (L' := [(0, .ref (ad 0)), (1, .int (nI i)), (2, .int (nI u)), (3, .int (nI v))]) (by rw [eyu, ezv]) ?_
      refine g_aload_n fx 0 dX12_isRejected_29 rfl ?_
      refine g_iload_n fx 2 dX12_isRejected_30 rfl ?_
      refine g_iload_n fx 3 dX12_isRejected_31 rfl ?_
      refine g_callVi (As := [.int (nI u), .int (nI v)]) (rest := []) fx slX12_315 (c_X12_findRejected B ad ct n f go gt pu pw o xa xb hn h0 ho hg hp hr hod hx hy kn hkn hkn12 hok u v (by omega) (by omega)) (by omega) h0 rfl rfl rfl (Nat.le_of_ble_eq_true rfl) ⟨by decide, by decide⟩ ⟨by decide, by decide⟩ dX12_isRejected_32 (fun q3 ct1 hq3 => ?_)
      obtain ⟨⟨m, rfl, hm, hgd, hend⟩, hod, hscr, hfr⟩ := hq3
      have h0 : ct1 0 = mObj ad f := (hfr 0 (by decide) (by decide) (by decide) (by decide) (by decide)).trans h0
      refine g_istore (L' := [(4, .int (nI m)), (0, .ref (ad 0)), (1, .int (nI i)), (2, .int (nI u)), (3, .int (nI v))]) fx dX12_isRejected_35 (by decide) rfl ?_
      refine g_iconst (v := nI 0) fx dX12_isRejected_37 (by decide +kernel) ?_
      refine g_istore (L' := [(5, .int (nI 0)), (4, .int (nI m)), (0, .ref (ad 0)), (1, .int (nI i)), (2, .int (nI u)), (3, .int (nI v))]) fx dX12_isRejected_38 (by decide) rfl ?_
      refine g_iconst (v := nI 0) fx dX12_isRejected_40 (by decide +kernel) ?_
      refine g_istore (L' := [(6, .int (nI 0)), (5, .int (nI 0)), (4, .int (nI m)), (0, .ref (ad 0)), (1, .int (nI i)), (2, .int (nI u)), (3, .int (nI v))]) fx dX12_isRejected_41 (by decide) rfl ?_
      have LP43 : ∀ (M : Nat) (k : Nat), (k ≤ m) →  (m - k) < M → G B 7 E ad ct1 n 0 0 [(0, .ref (ad 0)), (1, .int (nI i)), (4, .int (nI m)), (5, .int (if hasF (ordS (ltF (fun i => nv pu (40 * i)) (fun i => nv pw (40 * i))) o kn) i k then 1 else 0)), (6, .int (nI k))] 43 [] := by
        intro M
        induction M with
        | zero => intro k _ hM; exact absurd hM (Nat.not_lt_zero _)
        | succ M ih =>
          intro k hk hM
          have ih43 := ih
          refine g_iload fx 4 dX12_isRejected_43 rfl ?_
          refine g_iload fx 2 dX12_isRejected_45 rfl ?_
          refine g_icmp_ge fx 75 dX12_isRejected_47 (by decide) (fun c47 => ?_) (fun c47 => ?_)
          · skip
            have hkm : k = m := by have := (nI_leI (by omega) (by omega)).mp c47; omega
            refine g_iload fx 3 dX12_isRejected_75 rfl ?_
            refine g_iret fx rt dX12_isRejected_77 ?_
            refine gPi.mk (Or.inr (Or.inr ⟨hN, hL, i, u, v, exi, by omega, ⟨by omega, by omega⟩, eyu, ezv, ⟨m, hm, hgd, hend, ?_⟩, hod, hscr, hfr⟩))
            rw [hkm]
          · skip
            have hlt2 : k < m := by have := (nI_ltI (by omega) (by omega)).mp (Int32.not_le.mp c47); omega
            have hok2 : (ordS (ltF (fun i => nv pu (40 * i)) (fun i => nv pw (40 * i))) o kn) k < kn := ordS_lt kn k (by omega)
            refine g_aload_n fx 0 dX12_isRejected_50 rfl ?_
            refine g_get (r := 0) fx lkX12_100 (by omega) h0 rfl dX12_isRejected_51 ?_
            refine g_iload fx 4 dX12_isRejected_54 rfl ?_
            refine g_iald (r := 28) (j := k) fx (by omega) hod (nI_toInt (by omega)) (by omega) dX12_isRejected_56 ?_
            refine g_isi (y := nI ((ordS (ltF (fun i => nv pu (40 * i)) (fun i => nv pw (40 * i))) o kn) k)) rfl ?_
            refine g_iload_n fx 1 dX12_isRejected_57 rfl ?_
            refine g_icmp_ne fx 65 dX12_isRejected_58 (by decide) (fun c58 => ?_) (fun c58 => ?_)
            · skip
              have hne : ¬ (ordS (ltF (fun i => nv pu (40 * i)) (fun i => nv pw (40 * i))) o kn) k = i := fun q => c58 (by rw [q])
              refine g_iload fx 3 dX12_isRejected_65 rfl ?_
              refine g_isi (y := if hasF (ordS (ltF (fun i => nv pu (40 * i)) (fun i => nv pw (40 * i))) o kn) i (k + 1) then 1 else 0) (by first | (rw [hasF_t heq, if_pos rfl]; rfl) | (rw [hasF_f hne])) ?_
              refine g_istore (L' := [(5, .int (if hasF (ordS (ltF (fun i => nv pu (40 * i)) (fun i => nv pw (40 * i))) o kn) i (k + 1) then 1 else 0)), (0, .ref (ad 0)), (1, .int (nI i)), (4, .int (nI m)), (6, .int (nI k))]) fx dX12_isRejected_67 (by decide) rfl ?_
              refine g_iinc (L' := [(6, .int (nI (k + 1))), (5, .int (if hasF (ordS (ltF (fun i => nv pu (40 * i)) (fun i => nv pw (40 * i))) o kn) i (k + 1) then 1 else 0)), (0, .ref (ad 0)), (1, .int (nI i)), (4, .int (nI m))]) fx (nI (k + 1)) 4 dX12_isRejected_69 rfl (gInc _) (by decide) rfl ?_
              refine g_goto fx 43 dX12_isRejected_72 (by decide) ?_
              refine g_locals (L' := [(0, .ref (ad 0)), (1, .int (nI i)), (4, .int (nI m)), (5, .int (if hasF (ordS (ltF (fun i => nv pu (40 * i)) (fun i => nv pw (40 * i))) o kn) i (k + 1) then 1 else 0)), (6, .int (nI (k + 1)))]) [2, 3, 4, 1, 0] rfl ?_
              exact ih (k + 1) hlt2 (by omega)
            · skip
              have heq : (ordS (ltF (fun i => nv pu (40 * i)) (fun i => nv pw (40 * i))) o kn) k = i := (nI_eq (by omega) (by omega)).mp c58
              refine g_iconst (v := nI 1) fx dX12_isRejected_61 (by decide +kernel) ?_
              refine g_goto fx 67 dX12_isRejected_62 (by decide) ?_
              refine g_isi (y := if hasF (ordS (ltF (fun i => nv pu (40 * i)) (fun i => nv pw (40 * i))) o kn) i (k + 1) then 1 else 0) (by first | (rw [hasF_t heq, if_pos rfl]; rfl) | (rw [hasF_f hne])) ?_
              refine g_istore (L' := [(5, .int (if hasF (ordS (ltF (fun i => nv pu (40 * i)) (fun i => nv pw (40 * i))) o kn) i (k + 1) then 1 else 0)), (0, .ref (ad 0)), (1, .int (nI i)), (4, .int (nI m)), (6, .int (nI k))]) fx dX12_isRejected_67 (by decide) rfl ?_
              refine g_iinc (L' := [(6, .int (nI (k + 1))), (5, .int (if hasF (ordS (ltF (fun i => nv pu (40 * i)) (fun i => nv pw (40 * i))) o kn) i (k + 1) then 1 else 0)), (0, .ref (ad 0)), (1, .int (nI i)), (4, .int (nI m))]) fx (nI (k + 1)) 4 dX12_isRejected_69 rfl (gInc _) (by decide) rfl ?_
              refine g_goto fx 43 dX12_isRejected_72 (by decide) ?_
              refine g_locals (L' := [(0, .ref (ad 0)), (1, .int (nI i)), (4, .int (nI m)), (5, .int (if hasF (ordS (ltF (fun i => nv pu (40 * i)) (fun i => nv pw (40 * i))) o kn) i (k + 1) then 1 else 0)), (6, .int (nI (k + 1)))]) [2, 3, 4, 1, 0] rfl ?_
              exact ih (k + 1) hlt2 (by omega)
      refine g_locals (L' := [(0, .ref (ad 0)), (1, .int (nI i)), (4, .int (nI m)), (5, .int (nI 0)), (6, .int (nI 0))]) [3, 4, 2, 1, 0] rfl ?_
      exact LP43 (m + 1) 0 (by omega) (by omega)
    · skip
      have hA := if01_z.mp (hq2 ▸ c23)
      refine g_bipush (v := (-2)) fx dX12_isRejected_26 (by decide +kernel) ?_
      refine g_iret fx rt dX12_isRejected_28 ?_
      exact gPi.mk (Or.inr (Or.inl ⟨hN, hA, rfl, rfl⟩))
  · skip
    have hA := if01_z.mp (hq1 ▸ c13)
    refine g_iconst (v := (-1)) fx dX12_isRejected_16 (by decide +kernel) ?_
    refine g_iret fx rt dX12_isRejected_17 ?_
    exact gPi.mk (Or.inl ⟨hA, rfl, rfl⟩)
set_option maxHeartbeats 4000000 in
theorem T_rank (B : gB) (x y : Int32) : StI B (J B) yX11_rank cX11_rank 4 yX12_rank cX12_rank 3 [.int x, .int y] := by
  intro ad ct ad2 ct2 S hJ
  have hJ0 := hJ
  have hbd := hJ0.bd
  obtain ⟨f, NL, N1, N2, hx, h0, hS, hNL, hG, hSm, hD, hK, hW, hC, hR, hE, hN, hX⟩ := hJ
  have hSz := hSm
  have hDz := hD
  obtain ⟨kA, kB, fA, fB, fs, km, a1, a2, a3, a4, a5, a6, hAk, hBk, hkA, hkB, hfA, hfB, hsb⟩ := hSz
  obtain ⟨kD, fD, fd, d1, d2, d3, d4, hDk, hfD, hdb⟩ := hDz
  obtain ⟨fn0, hfn0⟩ := hX.2.2.2.1 22 (Or.inl rfl)
  refine ⟨2, 47, 0, 0, _, _, by decide, by decide, by decide, hbd, hx, c_X11_rank B ad ct 178 (Nat.le_refl _) hx kA fA a1 a2 hAk kB fB a3 a4 hBk kD fD d1 d2 hDk x y (fun j hj => by rw [hfD j hj]; exact hdb j (by omega)), ?_⟩
  intro v ad' ct' n' hp
  obtain ⟨ea, rfl, r, rfl, rfl, hr⟩ := hp
  obtain rfl := ea.symm
  refine ⟨rfl, rfl, r, rfl, 2, 41, _, _, by decide, by decide, h0, c_X12_rank B ad2 ct2 33 f fs fn0 km (Nat.le_refl _) h0 a5 a6 hfn0 (fun w hw => by rcases (show w = 0 ∨ w = 1 by omega) with rfl | rfl; (rw [hkA]; exact hAk); (rw [hkB]; exact hBk)) fd d3 kD d4 hDk x y, ?_⟩
  intro v2 ad2' ct2' n2' hq
  obtain ⟨rfl, rfl, q, rfl, hq⟩ := hq
  have t0 : (nI 0 : Int32) = 0 := by decide
  have t1 : (nI 1 : Int32) = 1 := by decide
  have t2 : (nI 2 : Int32) = 2 := by decide
  have u0 : (nI 0).toInt = 0 := by decide
  have u1 : (nI 1).toInt = 1 := by decide
  have u2 : (nI 2).toInt = 2 := by decide
  have hl : x = nI 2 ∨ x = nI 0 ∨ x = nI 1 ∨ (¬ x = nI 0 ∧ ¬ x = nI 1 ∧ ¬ x = nI 2) := by
    by_cases p0 : x = nI 0
    · exact Or.inr (Or.inl p0)
    · by_cases p1 : x = nI 1
      · exact Or.inr (Or.inr (Or.inl p1))
      · by_cases p2 : x = nI 2
        · exact Or.inl p2
        · exact Or.inr (Or.inr (Or.inr ⟨p0, p1, p2⟩))
  rcases hl with rfl | rfl | rfl | ⟨p0, p1, p2⟩
  · have hlim : (if (nI 2 : Int32) = 2 then kD else if (nI 2 : Int32) = 0 then km 0 else km 1) = kD := by rw [if_pos t2]
    rw [hlim] at hq
    rcases hr with ⟨e, hno, rfl⟩ | ⟨e, i, ey, hi, rfl⟩ | ⟨e, hno, rfl⟩ | ⟨e, i, ey, hi, rfl⟩ | ⟨e, hno, rfl⟩ | ⟨e, i, ey, hi, rfl⟩ | ⟨e0_, e1_, e2_, -⟩
    · rcases hq with ⟨-, rfl, rfl⟩ | ⟨h1, -⟩ | ⟨h1, -⟩
      · exact ⟨rfl, rfl, rfl, hJ0⟩
      · exact absurd (by omega) hno
      · exact absurd (by omega) hno
    · have hyi : y.toInt = (i : Int) := by rw [ey, nI_toInt (by omega)]
      rcases hq with ⟨h1, -⟩ | ⟨-, e2_, ⟨i2, ey2, hi2, rfl⟩, m_, fn_, e0, e22, hr_⟩ | ⟨-, ⟨w_, i2, ew, hw2, ey2, hi2, rfl⟩, m_, fn_, e0, e22, hr_⟩
      · exact absurd (by omega) h1
      · obtain rfl := (nI_eq (by omega) (by omega)).mp (ey.symm.trans ey2)
        have hf : ∀ j, j ≠ 34 → va_up f 34 (nI m_) j = f j := fun j h => va_up_ne _ _ h
        exact ⟨rfl, rfl, by rw [hfD i hi, rkZ_cg hfD], ⟨_, NL, N1, N2, hx, e0, hS, hNL, (by rw [hr_ 5 (by decide) (by decide), hf 4 (by decide), hf 5 (by decide), hf 7 (by decide)]; exact hG), (by rw [hr_ 6 (by decide) (by decide), hr_ 7 (by decide) (by decide)]; exact hSm), (by rw [hr_ 8 (by decide) (by decide), hf 11 (by decide)]; exact hD), (by rw [hr_ 31 (by decide) (by decide), hf 45 (by decide)]; exact hK), hW, (by rw [hr_ 16 (by decide) (by decide), hr_ 17 (by decide) (by decide), hf 25 (by decide), hf 26 (by decide), hf 27 (by decide)]; exact hC), (by rw [hf 12 (by decide), hf 13 (by decide), hf 14 (by decide), hf 18 (by decide), hf 19 (by decide)]; exact hR.move (fun _ _ => rfl) (fun r h1 h2 => rfl) (hr_ 9 (by decide) (by decide)) (hr_ 10 (by decide) (by decide)) (hr_ 11 (by decide) (by decide))), hE, (by rw [hf 40 (by decide)]; exact hN.move (fun _ _ => rfl) (fun r h1 h2 => rfl) (hr_ 26 (by decide) (by decide)) (hr_ 27 (by decide) (by decide)) (by obtain ⟨_, _, _, _, _, _, ro, _, _, _, _, _, _, _, _, hro, _⟩ := hN; exact ⟨ro, (hr_ 28 (by decide) (by decide)).trans hro⟩)), hX.upd (fun r hr => Or.inl (hr_ r (by omega) (by omega))) (fun r hr => Or.inl (hr_ r (by omega) (by omega))) (fun r hr => Or.inl (hr_ r (by omega) (by omega))) (fun r hr => by rcases hr with rfl | rfl <;> first | exact Or.inr ⟨_, e22⟩ | exact Or.inl (hr_ _ (by decide) (by decide))) (Or.inl (hr_ 24 (by decide) (by decide))) (fun r hr => Or.inl (hr_ r (by omega) (by omega))) (Or.inl (hr_ 32 (by decide) (by decide)))⟩⟩
      · exact absurd ((nI_eq (by omega) (by omega)).mp ew) (by omega)
    · exact absurd e (by decide)
    · exact absurd e (by decide)
    · exact absurd e (by decide)
    · exact absurd e (by decide)
    · exact absurd rfl e2_
  · have hlim : (if (nI 0 : Int32) = 2 then kD else if (nI 0 : Int32) = 0 then km 0 else km 1) = kA := by rw [if_neg (by decide), if_pos t0, hkA]
    rw [hlim] at hq
    rcases hr with ⟨e, hno, rfl⟩ | ⟨e, i, ey, hi, rfl⟩ | ⟨e, hno, rfl⟩ | ⟨e, i, ey, hi, rfl⟩ | ⟨e, hno, rfl⟩ | ⟨e, i, ey, hi, rfl⟩ | ⟨e0_, e1_, e2_, -⟩
    · exact absurd e (by decide)
    · exact absurd e (by decide)
    · rcases hq with ⟨-, rfl, rfl⟩ | ⟨h1, -⟩ | ⟨h1, -⟩
      · exact ⟨rfl, rfl, rfl, hJ0⟩
      · exact absurd (by omega) hno
      · exact absurd (by omega) hno
    · have hyi : y.toInt = (i : Int) := by rw [ey, nI_toInt (by omega)]
      rcases hq with ⟨h1, -⟩ | ⟨-, e2_, ⟨i2, ey2, hi2, rfl⟩, m_, fn_, e0, e22, hr_⟩ | ⟨-, ⟨w_, i2, ew, hw2, ey2, hi2, rfl⟩, m_, fn_, e0, e22, hr_⟩
      · exact absurd (by omega) h1
      · exact absurd (t0 ▸ e2_) (by decide)
      · obtain rfl : w_ = 0 := ((nI_eq (by omega) (by omega)).mp ew).symm
        rw [hkA] at hi2
        obtain rfl := (nI_eq (by omega) (by omega)).mp (ey.symm.trans ey2)
        have hf : ∀ j, j ≠ 34 → va_up f 34 (nI m_) j = f j := fun j h => va_up_ne _ _ h
        exact ⟨rfl, rfl, by rw [hkA, hkB, show 15 * 0 + i = i by omega, ← hfA i hi, ← rkN_cg hfA hfB], ⟨_, NL, N1, N2, hx, e0, hS, hNL, (by rw [hr_ 5 (by decide) (by decide), hf 4 (by decide), hf 5 (by decide), hf 7 (by decide)]; exact hG), (by rw [hr_ 6 (by decide) (by decide), hr_ 7 (by decide) (by decide)]; exact hSm), (by rw [hr_ 8 (by decide) (by decide), hf 11 (by decide)]; exact hD), (by rw [hr_ 31 (by decide) (by decide), hf 45 (by decide)]; exact hK), hW, (by rw [hr_ 16 (by decide) (by decide), hr_ 17 (by decide) (by decide), hf 25 (by decide), hf 26 (by decide), hf 27 (by decide)]; exact hC), (by rw [hf 12 (by decide), hf 13 (by decide), hf 14 (by decide), hf 18 (by decide), hf 19 (by decide)]; exact hR.move (fun _ _ => rfl) (fun r h1 h2 => rfl) (hr_ 9 (by decide) (by decide)) (hr_ 10 (by decide) (by decide)) (hr_ 11 (by decide) (by decide))), hE, (by rw [hf 40 (by decide)]; exact hN.move (fun _ _ => rfl) (fun r h1 h2 => rfl) (hr_ 26 (by decide) (by decide)) (hr_ 27 (by decide) (by decide)) (by obtain ⟨_, _, _, _, _, _, ro, _, _, _, _, _, _, _, _, hro, _⟩ := hN; exact ⟨ro, (hr_ 28 (by decide) (by decide)).trans hro⟩)), hX.upd (fun r hr => Or.inl (hr_ r (by omega) (by omega))) (fun r hr => Or.inl (hr_ r (by omega) (by omega))) (fun r hr => Or.inl (hr_ r (by omega) (by omega))) (fun r hr => by rcases hr with rfl | rfl <;> first | exact Or.inr ⟨_, e22⟩ | exact Or.inl (hr_ _ (by decide) (by decide))) (Or.inl (hr_ 24 (by decide) (by decide))) (fun r hr => Or.inl (hr_ r (by omega) (by omega))) (Or.inl (hr_ 32 (by decide) (by decide)))⟩⟩
    · exact absurd e (by decide)
    · exact absurd e (by decide)
    · exact absurd rfl e0_
  · have hlim : (if (nI 1 : Int32) = 2 then kD else if (nI 1 : Int32) = 0 then km 0 else km 1) = kB := by rw [if_neg (by decide), if_neg (by decide), hkB]
    rw [hlim] at hq
    rcases hr with ⟨e, hno, rfl⟩ | ⟨e, i, ey, hi, rfl⟩ | ⟨e, hno, rfl⟩ | ⟨e, i, ey, hi, rfl⟩ | ⟨e, hno, rfl⟩ | ⟨e, i, ey, hi, rfl⟩ | ⟨e0_, e1_, e2_, -⟩
    · exact absurd e (by decide)
    · exact absurd e (by decide)
    · exact absurd e (by decide)
    · exact absurd e (by decide)
    · rcases hq with ⟨-, rfl, rfl⟩ | ⟨h1, -⟩ | ⟨h1, -⟩
      · exact ⟨rfl, rfl, rfl, hJ0⟩
      · exact absurd (by omega) hno
      · exact absurd (by omega) hno
    · have hyi : y.toInt = (i : Int) := by rw [ey, nI_toInt (by omega)]
      rcases hq with ⟨h1, -⟩ | ⟨-, e2_, ⟨i2, ey2, hi2, rfl⟩, m_, fn_, e0, e22, hr_⟩ | ⟨-, ⟨w_, i2, ew, hw2, ey2, hi2, rfl⟩, m_, fn_, e0, e22, hr_⟩
      · exact absurd (by omega) h1
      · exact absurd (t1 ▸ e2_) (by decide)
      · obtain rfl : w_ = 1 := ((nI_eq (by omega) (by omega)).mp ew).symm
        rw [hkB] at hi2
        obtain rfl := (nI_eq (by omega) (by omega)).mp (ey.symm.trans ey2)
        have hf : ∀ j, j ≠ 34 → va_up f 34 (nI m_) j = f j := fun j h => va_up_ne _ _ h
        exact ⟨rfl, rfl, by rw [hkA, hkB, show 15 * 1 + i = 15 + i by omega, ← hfB i hi, ← rkN_cg hfA hfB], ⟨_, NL, N1, N2, hx, e0, hS, hNL, (by rw [hr_ 5 (by decide) (by decide), hf 4 (by decide), hf 5 (by decide), hf 7 (by decide)]; exact hG), (by rw [hr_ 6 (by decide) (by decide), hr_ 7 (by decide) (by decide)]; exact hSm), (by rw [hr_ 8 (by decide) (by decide), hf 11 (by decide)]; exact hD), (by rw [hr_ 31 (by decide) (by decide), hf 45 (by decide)]; exact hK), hW, (by rw [hr_ 16 (by decide) (by decide), hr_ 17 (by decide) (by decide), hf 25 (by decide), hf 26 (by decide), hf 27 (by decide)]; exact hC), (by rw [hf 12 (by decide), hf 13 (by decide), hf 14 (by decide), hf 18 (by decide), hf 19 (by decide)]; exact hR.move (fun _ _ => rfl) (fun r h1 h2 => rfl) (hr_ 9 (by decide) (by decide)) (hr_ 10 (by decide) (by decide)) (hr_ 11 (by decide) (by decide))), hE, (by rw [hf 40 (by decide)]; exact hN.move (fun _ _ => rfl) (fun r h1 h2 => rfl) (hr_ 26 (by decide) (by decide)) (hr_ 27 (by decide) (by decide)) (by obtain ⟨_, _, _, _, _, _, ro, _, _, _, _, _, _, _, _, hro, _⟩ := hN; exact ⟨ro, (hr_ 28 (by decide) (by decide)).trans hro⟩)), hX.upd (fun r hr => Or.inl (hr_ r (by omega) (by omega))) (fun r hr => Or.inl (hr_ r (by omega) (by omega))) (fun r hr => Or.inl (hr_ r (by omega) (by omega))) (fun r hr => by rcases hr with rfl | rfl <;> first | exact Or.inr ⟨_, e22⟩ | exact Or.inl (hr_ _ (by decide) (by decide))) (Or.inl (hr_ 24 (by decide) (by decide))) (fun r hr => Or.inl (hr_ r (by omega) (by omega))) (Or.inl (hr_ 32 (by decide) (by decide)))⟩⟩
    · exact absurd rfl e1_
  · rcases hr with ⟨e, -⟩ | ⟨e, -⟩ | ⟨e, -⟩ | ⟨e, -⟩ | ⟨e, -⟩ | ⟨e, -⟩ | ⟨-, -, -, rfl⟩
    · exact absurd e p2
    · exact absurd e p2
    · exact absurd e p0
    · exact absurd e p0
    · exact absurd e p1
    · exact absurd e p1
    · have hno : ¬ ((0 : Int) ≤ x.toInt ∧ x.toInt ≤ 2) := fun h => by
        have h3 : x.toInt = 0 ∨ x.toInt = 1 ∨ x.toInt = 2 := by omega
        rcases h3 with h3 | h3 | h3
        · exact p0 ((x_is (by decide)).mpr h3)
        · exact p1 ((x_is (by decide)).mpr h3)
        · exact p2 ((x_is (by decide)).mpr h3)
      rcases hq with ⟨-, rfl, rfl⟩ | ⟨h1, -⟩ | ⟨h1, -⟩
      · exact ⟨rfl, rfl, rfl, hJ0⟩
      · exact absurd h1.1 hno
      · exact absurd h1.1 hno
set_option maxHeartbeats 4000000 in
theorem T_figure (B : gB) (x y : Int32) : StI B (J B) yX11_figure cX11_figure 4 yX12_figure cX12_figure 4 [.int x, .int y] := by
  intro ad ct ad2 ct2 S hJ
  have hJ0 := hJ
  have hbd := hJ0.bd
  obtain ⟨f, NL, N1, N2, hx, h0, hS, hNL, hG, hSm, hD, hK, hW, hC, hR, hE, hN, hX⟩ := hJ
  have hRz := hR
  obtain ⟨⟨nx, mk, off, ah, al, hso⟩, ⟨sz1, sz2, s1, t1, s2, t2, h82, h83, h84, h85, h86, h87⟩, hL1, hL2, th, te, sta, ask, u, l, gu, gw, gb, SS_, b1, b2, hth, hF, hFb, b6, b7, b8, b9, hS6, hth0, hth1⟩ := hRz
  have hres : 0 ≤ f 12 → ∀ t, t < 4 → okN gu (40 * t) ∧ okN gw (40 * t) := fun h t ht => by
    have hn0 : ¬ th = 0 := fun e => no_both (hth0 e) h
    have h2 := (hth1 hn0).2.2.2.2.1 t ht
    exact ⟨h2.1, h2.2.1⟩
  have hEz := hE
  obtain ⟨e110, ⟨sx, hsx⟩, sy, hsy⟩ := hEz
  obtain ⟨g1_, hg1_⟩ := hX.1 1 (by decide)
  obtain ⟨g2_, hg2_⟩ := hX.1 2 (by decide)
  obtain ⟨g25_, hg25_⟩ := hX.1 25 (by decide)
  refine ⟨5, 115, 0, 0, _, _, by decide, by decide, by decide, hbd, hx, c_X11_figure B ad ct 178 (Nat.le_refl _) hx th te sta ask b1 b2 hth u l hF hFb e110 sx sy hsx hsy (fun h t ht => by obtain ⟨-, -, hu, hl, h1, h2⟩ := (hth1 h).2.2.2.2.1 t ht; exact ⟨h1, h2⟩) x y, ?_⟩
  intro v ad' ct' n' hp
  obtain ⟨ea, rfl, r, rfl, hr⟩ := hp
  obtain rfl := ea.symm
  refine ⟨rfl, rfl, r, rfl, 2, 51, _, _, by decide, by decide, h0, c_X12_figure B ad2 ct2 33 f gu gw (Nat.le_refl _) h0 b6 b7 hres g1_ g2_ g25_ hg1_ hg2_ hg25_ (fun h t ht => by have hn0 : ¬ th = 0 := fun e => no_both (hth0 e) h; obtain ⟨-, -, hu, hl, h1, h2⟩ := (hth1 hn0).2.2.2.2.1 t ht; rw [hl]; exact ⟨h1, Nat.lt_trans (hFb t ht).2 (by decide +kernel)⟩) x y, ?_⟩
  intro v2 ad2' ct2' n2' hq
  obtain ⟨rfl, rfl, q, rfl, hq⟩ := hq
  rcases hr with ⟨h1, hr, rfl⟩ | ⟨h1, hno, hr, rfl⟩ | ⟨h1, t, ht, ex, hr⟩
  · rcases hq with ⟨-, hq, rfl⟩ | ⟨h2, -⟩ | ⟨h2, -⟩
    · exact ⟨rfl, rfl, by rw [hq, hr], hJ0⟩
    · exact (no_both (hth0 h1) h2).elim
    · exact (no_both (hth0 h1) h2).elim
  · have hge := (hth1 h1).2.2.2.1
    rcases hq with ⟨h2, -⟩ | ⟨-, -, hq, rfl⟩ | ⟨-, t, ht, ex, -⟩
    · exact (no_both h2 hge).elim
    · exact ⟨rfl, rfl, by rw [hq, hr], hJ0⟩
    · exact absurd (by rw [ex, nI_toInt (by omega)]; omega) hno
  · have hge := (hth1 h1).2.2.2.1
    rcases hq with ⟨h2, -⟩ | ⟨-, h2, -⟩ | ⟨-, t2, ht2, ex2, hq⟩
    · exact (no_both h2 hge).elim
    · exact absurd (by rw [ex, nI_toInt (by omega)]; omega) h2
    · obtain rfl := (nI_eq (by omega) (by omega)).mp (ex.symm.trans ex2)
      obtain ⟨-, -, hu, hl, hlp, hul⟩ := (hth1 h1).2.2.2.2.1 t ht
      rw [hu, hl] at hq
      rcases hr with ⟨h3, rfl, rfl⟩ | ⟨h3, i, ey, hi, rfl, x1_, y1_, e110_, hx1_, hy1_, hc⟩
      · rcases hq with ⟨-, rfl, rfl⟩ | ⟨h4, -⟩
        · exact ⟨rfl, rfl, rfl, hJ0⟩
        · exact absurd h4 h3
      · rcases hq with ⟨h4, -⟩ | ⟨-, i2, ey2, hi2, rfl, gq_, gl_, gr_, eq1, eq2, eq25, hr_⟩
        · exact absurd h3 h4
        · obtain rfl := (nI_eq (by omega) (by omega)).mp (ey.symm.trans ey2)
          refine ⟨rfl, rfl, by rw [Nat.mod_eq_of_lt (fig_lt hlp hul i)], ⟨f, NL, N1, N2, (hc 0 (by decide)).trans hx, (hr_ 0 (by decide) (by decide) (by decide)).trans h0, hS, hNL, (by rw [hc 1 (by decide), hc 2 (by decide), hr_ 5 (by decide) (by decide) (by decide)]; exact hG), (by rw [hc 3 (by decide), hc 4 (by decide), hc 5 (by decide), hc 6 (by decide), hr_ 6 (by decide) (by decide) (by decide), hr_ 7 (by decide) (by decide) (by decide)]; exact hSm), (by rw [hc 7 (by decide), hc 8 (by decide), hr_ 8 (by decide) (by decide) (by decide)]; exact hD), (by rw [hc 9 (by decide), hc 10 (by decide), hr_ 31 (by decide) (by decide) (by decide)]; exact hK), hW.move (fun _ _ _ => rfl) (fun r h1 h2 => hc r (by omega)), (by rw [hc 79 (by decide), hc 80 (by decide), hr_ 16 (by decide) (by decide) (by decide), hr_ 17 (by decide) (by decide) (by decide)]; exact hC), hR.move (fun _ _ => rfl) (fun r h1 h2 => hc r (by omega)) (hr_ 9 (by decide) (by decide) (by decide)) (hr_ 10 (by decide) (by decide) (by decide)) (hr_ 11 (by decide) (by decide) (by decide)), ⟨e110_, ⟨_, hx1_⟩, _, hy1_⟩, hN.move (fun _ _ => rfl) (fun r h1 h2 => hc r (by omega)) (hr_ 26 (by decide) (by decide) (by decide)) (hr_ 27 (by decide) (by decide) (by decide)) (by obtain ⟨_, _, _, _, _, _, ro, _, _, _, _, _, _, _, _, hro, _⟩ := hN; exact ⟨ro, (hr_ 28 (by decide) (by decide) (by decide)).trans hro⟩), hX.upd (fun r hr => by rcases hr with rfl | rfl | rfl | rfl | rfl | rfl | rfl | rfl | rfl <;> first | exact Or.inr ⟨_, eq1⟩ | exact Or.inr ⟨_, eq2⟩ | exact Or.inr ⟨_, eq25⟩ | exact Or.inl (hr_ _ (by decide) (by decide) (by decide))) (fun r hr => Or.inl (hr_ r (by omega) (by omega) (by omega))) (fun r hr => Or.inl (hr_ r (by omega) (by omega) (by omega))) (fun r hr => Or.inl (hr_ r (by omega) (by omega) (by omega))) (Or.inl (hr_ 24 (by decide) (by decide) (by decide))) (fun r hr => Or.inl (hr_ r (by omega) (by omega) (by omega))) (Or.inl (hr_ 32 (by decide) (by decide) (by decide)))⟩⟩
set_option maxHeartbeats 4000000 in
theorem T_against (B : gB) (x y z : Int32) : StI B (J B) yX11_against cX11_against 5 yX12_against cX12_against 4 [.int x, .int y, .int z] := by
  intro ad ct ad2 ct2 S hJ
  have hJ0 := hJ
  have hbd := hJ0.bd
  obtain ⟨f, NL, N1, N2, hx, h0, hS, hNL, hG, hSm, hD, hK, hW, hC, hR, hE, hN, hX⟩ := hJ
  have hRz := hR
  obtain ⟨⟨nx, mk, off, ah, al, hso⟩, ⟨sz1, sz2, s1, t1, s2, t2, h82, h83, h84, h85, h86, h87⟩, hL1, hL2, th, te, sta, ask, u, l, gu, gw, gb, SS_, b1, b2, hth, hF, hFb, b6, b7, b8, b9, hS6, hth0, hth1⟩ := hRz
  have hres : 0 ≤ f 12 → ∀ t, t < 4 → okN gu (40 * t) ∧ okN gw (40 * t) := fun h t ht => by
    have hn0 : ¬ th = 0 := fun e => no_both (hth0 e) h
    have h2 := (hth1 hn0).2.2.2.2.1 t ht
    exact ⟨h2.1, h2.2.1⟩
  have hEz := hE
  obtain ⟨e110, ⟨sx, hsx⟩, sy, hsy⟩ := hEz
  obtain ⟨g3_, hg3_⟩ := hX.1 3 (by decide)
  obtain ⟨g4_, hg4_⟩ := hX.1 4 (by decide)
  refine ⟨4, 101, 0, 0, _, _, by decide, by decide, by decide, hbd, hx, c_X11_against_b B ad ct 178 (Nat.le_refl _) hx th te sta ask b1 b2 hth u l hF hFb e110 sx sy hsx hsy x y z, ?_⟩
  intro v ad' ct' n' hp
  obtain ⟨ea, rfl, r, rfl, hr⟩ := hp
  obtain rfl := ea.symm
  refine ⟨rfl, rfl, r, rfl, 2, 60, _, _, by decide, by decide, h0, c_X12_against_b B ad2 ct2 33 f gu gw (Nat.le_refl _) h0 b6 b7 hres g3_ g4_ hg3_ hg4_ (fun h t ht => by have hn0 : ¬ th = 0 := fun e => no_both (hth0 e) h; obtain ⟨-, -, hu, hl, h1, h2⟩ := (hth1 hn0).2.2.2.2.1 t ht; rw [hu, hl]; exact ⟨Nat.lt_trans (hFb t ht).1 (by decide +kernel), Nat.lt_trans (hFb t ht).2 (by decide +kernel)⟩) x y z, ?_⟩
  intro v2 ad2' ct2' n2' hq
  obtain ⟨rfl, rfl, q, rfl, hq⟩ := hq
  rcases hr with ⟨h1, hr, rfl⟩ | ⟨h1, hno, hr, rfl⟩ | ⟨h1, t, ht, ex, hr⟩
  · rcases hq with ⟨-, hq, rfl⟩ | ⟨h2, -⟩ | ⟨h2, -⟩
    · exact ⟨rfl, rfl, by rw [hq, hr], hJ0⟩
    · exact (no_both (hth0 h1) h2).elim
    · exact (no_both (hth0 h1) h2).elim
  · have hge := (hth1 h1).2.2.2.1
    rcases hq with ⟨h2, -⟩ | ⟨-, -, hq, rfl⟩ | ⟨-, t, ht, ex, -⟩
    · exact (no_both h2 hge).elim
    · exact ⟨rfl, rfl, by rw [hq, hr], hJ0⟩
    · exact absurd (by rw [ex, nI_toInt (by omega)]; omega) hno
  · have hge := (hth1 h1).2.2.2.1
    rcases hq with ⟨h2, -⟩ | ⟨-, h2, -⟩ | ⟨-, t2, ht2, ex2, hq⟩
    · exact (no_both h2 hge).elim
    · exact absurd (by rw [ex, nI_toInt (by omega)]; omega) h2
    · obtain rfl := (nI_eq (by omega) (by omega)).mp (ex.symm.trans ex2)
      obtain ⟨-, -, hu, hl, hlp, hul⟩ := (hth1 h1).2.2.2.2.1 t ht
      rw [hu, hl] at hq
      rcases hr with ⟨h3, rfl, rfl⟩ | ⟨h3, i, j, ⟨bi, bj⟩, ey, ez, rfl, x1_, y1_, e110_, hx1_, hy1_, hc⟩
      · rcases hq with ⟨-, rfl, rfl⟩ | ⟨h4, -⟩
        · exact ⟨rfl, rfl, rfl, hJ0⟩
        · exact absurd h4 h3
      · rcases hq with ⟨h4, -⟩ | ⟨-, i2, j2, ⟨bi2, bj2⟩, ey2, ez2, rfl, go_, gt_, eq3, eq4, hr_⟩
        · exact absurd h3 h4
        · have ei := (nI_eq bi bi2).mp (ey.symm.trans ey2)
          have ej := (nI_eq bj bj2).mp (ez.symm.trans ez2)
          refine ⟨rfl, rfl, by rw [ei, ej], ⟨f, NL, N1, N2, (hc 0 (by decide)).trans hx, (hr_ 0 (by decide) (by decide)).trans h0, hS, hNL, (by rw [hc 1 (by decide), hc 2 (by decide), hr_ 5 (by decide) (by decide)]; exact hG), (by rw [hc 3 (by decide), hc 4 (by decide), hc 5 (by decide), hc 6 (by decide), hr_ 6 (by decide) (by decide), hr_ 7 (by decide) (by decide)]; exact hSm), (by rw [hc 7 (by decide), hc 8 (by decide), hr_ 8 (by decide) (by decide)]; exact hD), (by rw [hc 9 (by decide), hc 10 (by decide), hr_ 31 (by decide) (by decide)]; exact hK), hW.move (fun _ _ _ => rfl) (fun r h1 h2 => hc r (by omega)), (by rw [hc 79 (by decide), hc 80 (by decide), hr_ 16 (by decide) (by decide), hr_ 17 (by decide) (by decide)]; exact hC), hR.move (fun _ _ => rfl) (fun r h1 h2 => hc r (by omega)) (hr_ 9 (by decide) (by decide)) (hr_ 10 (by decide) (by decide)) (hr_ 11 (by decide) (by decide)), ⟨e110_, ⟨_, hx1_⟩, _, hy1_⟩, hN.move (fun _ _ => rfl) (fun r h1 h2 => hc r (by omega)) (hr_ 26 (by decide) (by decide)) (hr_ 27 (by decide) (by decide)) (by obtain ⟨_, _, _, _, _, _, ro, _, _, _, _, _, _, _, _, hro, _⟩ := hN; exact ⟨ro, (hr_ 28 (by decide) (by decide)).trans hro⟩), hX.upd (fun r hr => by rcases hr with rfl | rfl | rfl | rfl | rfl | rfl | rfl | rfl | rfl <;> first | exact Or.inr ⟨_, eq3⟩ | exact Or.inr ⟨_, eq4⟩ | exact Or.inl (hr_ _ (by decide) (by decide))) (fun r hr => Or.inl (hr_ r (by omega) (by omega))) (fun r hr => Or.inl (hr_ r (by omega) (by omega))) (fun r hr => Or.inl (hr_ r (by omega) (by omega))) (Or.inl (hr_ 24 (by decide) (by decide))) (fun r hr => Or.inl (hr_ r (by omega) (by omega))) (Or.inl (hr_ 32 (by decide) (by decide)))⟩⟩
set_option maxHeartbeats 4000000 in
theorem T_note (B : gB) (x : Int32) : StI B (J B) yX11_note cX11_note 3 yX12_note cX12_note 2 [.int x] := by
  intro ad ct ad2 ct2 S hJ
  have hJ0 := hJ
  have hbd := hJ0.bd
  obtain ⟨f, NL, N1, N2, hx, h0, hS, hNL, hG, hSm, hD, hK, hW, hC, hR, hE, hN, hX⟩ := hJ
  have hRz := hR
  obtain ⟨⟨nx, mk, off, ah, al, hso⟩, ⟨sz1, sz2, s1, t1, s2, t2, h82, h83, h84, h85, h86, h87⟩, hL1, hL2, th, te, sta, ask, u, l, gu, gw, gb, SS_, b1, b2, hth, hF, hFb, b6, b7, b8, b9, hS6, hth0, hth1⟩ := hRz
  have hres : 0 ≤ f 12 → ∀ t, t < 4 → okN gu (40 * t) ∧ okN gw (40 * t) := fun h t ht => by
    have hn0 : ¬ th = 0 := fun e => no_both (hth0 e) h
    have h2 := (hth1 hn0).2.2.2.2.1 t ht
    exact ⟨h2.1, h2.2.1⟩
  have hEz := hE
  have hNz := hN
  obtain ⟨e110, ⟨sx, hsx⟩, sy, hsy⟩ := hEz
  obtain ⟨k, o, U, V, pu, pw, ro, n1, n2, n3, hk12, hU, hUb, n7, n8, n9, n10, hok, hor⟩ := hNz
  refine ⟨5, 118, 0, 0, _, _, by decide, by decide, by decide, hbd, hx, c_X11_note B ad ct 178 (Nat.le_refl _) hx th te sta ask b1 b2 hth u l hF hFb e110 sx sy hsx hsy k o n1 n2 n3 hk12 U V hU hUb (fun j hj => by rw [hor j hj]; exact ordS_lt k j hj) x, ?_⟩
  intro v ad' ct' n' hp
  obtain ⟨ea, rfl, r, rfl, hr⟩ := hp
  obtain rfl := ea.symm
  refine ⟨rfl, rfl, r, rfl, 2, 45, _, _, by decide, by decide, h0, c_X12_note B ad2 ct2 33 f gu gw (Nat.le_refl _) h0 b6 b7 hres pu pw n7 n8 k n10 hk12 x, ?_⟩
  intro v2 ad2' ct2' n2' hq
  obtain ⟨rfl, rfl, q, rfl, hq⟩ := hq
  rcases hr with ⟨h1, hr, rfl⟩ | ⟨h1, hno, hr, rfl⟩ | ⟨h1, t, ht, ex, hr⟩
  · rcases hq with ⟨-, hq, rfl⟩ | ⟨h2, -⟩ | ⟨h2, -⟩
    · exact ⟨rfl, rfl, by rw [hq, hr], hJ0⟩
    · exact (no_both (hth0 h1) h2).elim
    · exact (no_both (hth0 h1) h2).elim
  · have hge := (hth1 h1).2.2.2.1
    rcases hq with ⟨h2, -⟩ | ⟨-, -, hq, rfl⟩ | ⟨-, t, ht, ex, -⟩
    · exact (no_both h2 hge).elim
    · exact ⟨rfl, rfl, by rw [hq, hr], hJ0⟩
    · exact absurd (by rw [ex, nI_toInt (by omega)]; omega) hno
  · have hge := (hth1 h1).2.2.2.1
    rcases hq with ⟨h2, -⟩ | ⟨-, h2, -⟩ | ⟨-, t2, ht2, ex2, hq⟩
    · exact (no_both h2 hge).elim
    · exact absurd (by rw [ex, nI_toInt (by omega)]; omega) h2
    · obtain rfl := (nI_eq (by omega) (by omega)).mp (ex.symm.trans ex2)
      obtain ⟨-, -, hu, hl, hlp, hul⟩ := (hth1 h1).2.2.2.2.1 t ht
      rcases hr with ⟨h3, rfl, rfl⟩ | ⟨h3, rfl, e115, e117, eFr, e110_, ⟨x1_, y1_, hx1_, hy1_⟩, hc⟩
      · rcases hq with ⟨-, rfl, rfl⟩ | ⟨h4, -⟩
        · exact ⟨rfl, rfl, rfl, hJ0⟩
        · omega
      · rcases hq with ⟨h4, -⟩ | ⟨-, rfl, e0, ⟨pu_, pw_, e26, e27, ou, ow, cu, cw⟩, hr_⟩
        · omega
        · have hf : ∀ j, j ≠ 40 → va_up f 40 (nI (k + 1)) j = f j := fun j h => va_up_ne _ _ h
          refine ⟨rfl, rfl, rfl, ⟨_, NL, N1, N2, (hc 0 (by decide)).trans hx, e0, hS, hNL, (by rw [hc 1 (by decide), hc 2 (by decide), hr_ 5 (by decide) (by decide) (by decide), hf 4 (by decide), hf 5 (by decide), hf 7 (by decide)]; exact hG), (by rw [hc 3 (by decide), hc 4 (by decide), hc 5 (by decide), hc 6 (by decide), hr_ 6 (by decide) (by decide) (by decide), hr_ 7 (by decide) (by decide) (by decide)]; exact hSm), (by rw [hc 7 (by decide), hc 8 (by decide), hr_ 8 (by decide) (by decide) (by decide), hf 11 (by decide)]; exact hD), (by rw [hc 9 (by decide), hc 10 (by decide), hr_ 31 (by decide) (by decide) (by decide), hf 45 (by decide)]; exact hK), hW.move (fun _ _ _ => rfl) (fun r h1 h2 => hc r (by omega)), (by rw [hc 79 (by decide), hc 80 (by decide), hr_ 16 (by decide) (by decide) (by decide), hr_ 17 (by decide) (by decide) (by decide), hf 25 (by decide), hf 26 (by decide), hf 27 (by decide)]; exact hC), (by rw [hf 12 (by decide), hf 13 (by decide), hf 14 (by decide), hf 18 (by decide), hf 19 (by decide)]; exact hR.move (fun _ _ => rfl) (fun r h1 h2 => hc r (by omega)) (hr_ 9 (by decide) (by decide) (by decide)) (hr_ 10 (by decide) (by decide) (by decide)) (hr_ 11 (by decide) (by decide) (by decide))), ⟨e110_, ⟨_, hx1_⟩, _, hy1_⟩, ⟨k + 1, insR (ltF (va_up U k (u t)) (va_up V k (l t))) k k o, va_up U k (u t), va_up V k (l t), pu_, pw_, ro, e115, (hc 116 (by decide)).trans n2, e117, by omega, eFr, fun i hi => ?_, e26, e27, (hr_ 28 (by decide) (by decide) (by decide)).trans n9, va_up_self _ _ _, fun i hi => ?_, fun j hj => ?_⟩, hX.move (fun r h => hr_ r (by omega) (by omega) (by omega))⟩⟩
          · by_cases q : i = k
            · rw [q, va_up_self, va_up_self]; exact hFb t ht
            · rw [va_up_ne _ _ q, va_up_ne _ _ q]; exact hUb i hi
          · by_cases q : i = k
            · rw [q, va_up_self, va_up_self, ← hu, ← hl]
              obtain ⟨o1, o2, -⟩ := (hth1 h1).2.2.2.2.1 t ht
              exact ⟨fun z hz => by rw [cu z hz]; exact o1 z hz, fun z hz => by rw [cw z hz]; exact o2 z hz, nv_row cu, nv_row cw⟩
            · obtain ⟨p1, p2, p3, p4⟩ := hok i (by omega)
              rw [va_up_ne _ _ q, va_up_ne _ _ q]
              exact ⟨fun z hz => by rw [ou _ (by omega)]; exact p1 z hz, fun z hz => by rw [ow _ (by omega)]; exact p2 z hz, (nv_out ou (by omega)).trans p3, (nv_out ow (by omega)).trans p4⟩
          · refine insR_cg k _ _ (Nat.le_refl _) (fun z hz hzk => ?_) (fun z hz => rfl) j (by omega)
            rw [hor z (by omega)]
            exact ordS_cg k (fun a b ha hb => by unfold ltF; rw [va_up_ne _ _ (show a ≠ k by omega), va_up_ne _ _ (show b ≠ k by omega), va_up_ne _ _ (show a ≠ k by omega), va_up_ne _ _ (show b ≠ k by omega)]) z (by omega)
set_option maxHeartbeats 4000000 in
theorem T_rejected (B : gB) (x y : Int32) : StI B (J B) yX11_rejected cX11_rejected 3 yX12_rejected cX12_rejected 3 [.int x, .int y] := by
  intro ad ct ad2 ct2 S hJ
  have hJ0 := hJ
  have hbd := hJ0.bd
  obtain ⟨f, NL, N1, N2, hx, h0, hS, hNL, hG, hSm, hD, hK, hW, hC, hR, hE, hN, hX⟩ := hJ
  have hEz := hE
  have hNz := hN
  obtain ⟨e110, ⟨sx, hsx⟩, sy, hsy⟩ := hEz
  obtain ⟨k, o, U, V, pu, pw, ro, n1, n2, n3, hk12, hU, hUb, n7, n8, n9, n10, hok, hor⟩ := hNz
  obtain ⟨g3_, hg3_⟩ := hX.1 3 (by decide)
  obtain ⟨g4_, hg4_⟩ := hX.1 4 (by decide)
  obtain ⟨g29_, hg29_⟩ := hX.2.2.2.2.2.1 29 (by decide)
  obtain ⟨g30_, hg30_⟩ := hX.2.2.2.2.2.1 30 (by decide)
  have hoo : ∀ j, j < k → o j = (ordS (ltF (fun i => nv pu (40 * i)) (fun i => nv pw (40 * i))) ro k) j := fun j hj => by
    rw [hor j hj]
    exact ordS_cg k (fun a b ha hb => by unfold ltF; show decide (U a * V b < U b * V a) = decide (nv pu (40 * a) * nv pw (40 * b) < nv pu (40 * b) * nv pw (40 * a)); rw [(hok a ha).2.2.1, (hok b hb).2.2.1, (hok a ha).2.2.2, (hok b hb).2.2.2]) j hj
  have holt : ∀ j, j < k → o j < k := fun j hj => by rw [hor j hj]; exact ordS_lt k j hj
  have hUo : ∀ j, j < k → U (o j) = (fun i => nv pu (40 * i)) ((ordS (ltF (fun i => nv pu (40 * i)) (fun i => nv pw (40 * i))) ro k) j) := fun j hj => by rw [← hoo j hj]; exact ((hok _ (holt j hj)).2.2.1).symm
  have hVo : ∀ j, j < k → V (o j) = (fun i => nv pw (40 * i)) ((ordS (ltF (fun i => nv pu (40 * i)) (fun i => nv pw (40 * i))) ro k) j) := fun j hj => by rw [← hoo j hj]; exact ((hok _ (holt j hj)).2.2.2).symm
  have hok7 : ∀ i, i < k → okN pu (40 * i) ∧ okN pw (40 * i) ∧ nv pu (40 * i) < 2 ^ 700 ∧ nv pw (40 * i) < 2 ^ 700 := fun i hi => by
    obtain ⟨p1, p2, p3, p4⟩ := hok i hi
    rw [p3, p4]
    exact ⟨p1, p2, Nat.lt_trans (hUb i (by omega)).1 (by decide +kernel), Nat.lt_trans (hUb i (by omega)).2 (by decide +kernel)⟩
  refine ⟨5, 126, 0, 0, _, _, by decide, by decide, by decide, hbd, hx, c_X11_rejected_b B ad ct 178 (Nat.le_refl _) hx e110 sx sy hsx hsy k o n1 n2 n3 hk12 U V hU hUb (fun j hj => by have := holt j hj; omega) x y, ?_⟩
  intro v ad' ct' n' hp
  obtain ⟨ea, rfl, r, rfl, hr⟩ := hp
  obtain rfl := ea.symm
  refine ⟨rfl, rfl, r, rfl, 3, 81, _, _, by decide, by decide, h0, c_X12_rejected_b B ad2 ct2 33 f g3_ g4_ pu pw ro g29_ g30_ (Nat.le_refl _) h0 hg3_ hg4_ n7 n8 n9 hg29_ hg30_ k n10 hk12 hok7 x y, ?_⟩
  intro v2 ad2' ct2' n2' hq
  obtain ⟨rfl, rfl, q, rfl, hq⟩ := hq
  rcases hr with ⟨h1, rfl, rfl⟩ | ⟨h1, c, d, ⟨bc, bd⟩, ea1, eb1, ⟨q1, rfl, hq1, hall, hend⟩, x1_, y1_, e110_, hx1_, hy1_, hc⟩
  · rcases hq with ⟨-, rfl, rfl⟩ | ⟨h2, -⟩
    · exact ⟨rfl, rfl, rfl, hJ0⟩
    · exact absurd h2 h1
  · rcases hq with ⟨h2, -⟩ | ⟨-, c2_, d2_, ⟨bc2, bd2⟩, ea2, eb2, ⟨q2, rfl, hq2, hall2, hend2⟩, e28, ⟨go_, gt_, xa_, xb_, eq3, eq4, eq29, eq30⟩, hr_⟩
    · exact absurd h1 h2
    · obtain rfl := (nI_eq bc bc2).mp (ea1.symm.trans ea2)
      obtain rfl := (nI_eq bd bd2).mp (eb1.symm.trans eb2)
      have e := first_eq hq1 hq2 hUo hVo hall hend hall2 hend2
      refine ⟨rfl, rfl, by rw [e], ⟨f, NL, N1, N2, (hc 0 (by decide)).trans hx, (hr_ 0 (by decide) (by decide) (by decide) (by decide) (by decide)).trans h0, hS, hNL, (by rw [hc 1 (by decide), hc 2 (by decide), hr_ 5 (by decide) (by decide) (by decide) (by decide) (by decide)]; exact hG), (by rw [hc 3 (by decide), hc 4 (by decide), hc 5 (by decide), hc 6 (by decide), hr_ 6 (by decide) (by decide) (by decide) (by decide) (by decide), hr_ 7 (by decide) (by decide) (by decide) (by decide) (by decide)]; exact hSm), (by rw [hc 7 (by decide), hc 8 (by decide), hr_ 8 (by decide) (by decide) (by decide) (by decide) (by decide)]; exact hD), (by rw [hc 9 (by decide), hc 10 (by decide), hr_ 31 (by decide) (by decide) (by decide) (by decide) (by decide)]; exact hK), hW.move (fun _ _ _ => rfl) (fun r h1 h2 => hc r (by omega)), (by rw [hc 79 (by decide), hc 80 (by decide), hr_ 16 (by decide) (by decide) (by decide) (by decide) (by decide), hr_ 17 (by decide) (by decide) (by decide) (by decide) (by decide)]; exact hC), hR.move (fun _ _ => rfl) (fun r h1 h2 => hc r (by omega)) (hr_ 9 (by decide) (by decide) (by decide) (by decide) (by decide)) (hr_ 10 (by decide) (by decide) (by decide) (by decide) (by decide)) (hr_ 11 (by decide) (by decide) (by decide) (by decide) (by decide)), ⟨e110_, ⟨_, hx1_⟩, _, hy1_⟩, hN.move (fun _ _ => rfl) (fun r h1 h2 => hc r (by omega)) (hr_ 26 (by decide) (by decide) (by decide) (by decide) (by decide)) (hr_ 27 (by decide) (by decide) (by decide) (by decide) (by decide)) ⟨_, e28⟩, hX.upd (fun r hr => by rcases hr with rfl | rfl | rfl | rfl | rfl | rfl | rfl | rfl | rfl <;> first | exact Or.inr ⟨_, eq3⟩ | exact Or.inr ⟨_, eq4⟩ | exact Or.inl (hr_ _ (by decide) (by decide) (by decide) (by decide) (by decide))) (fun r hr => Or.inl (hr_ r (by omega) (by omega) (by omega) (by omega) (by omega))) (fun r hr => Or.inl (hr_ r (by omega) (by omega) (by omega) (by omega) (by omega))) (fun r hr => Or.inl (hr_ r (by omega) (by omega) (by omega) (by omega) (by omega))) (Or.inl (hr_ 24 (by decide) (by decide) (by decide) (by decide) (by decide))) (fun r hr => by rcases hr with rfl | rfl <;> first | exact Or.inr ⟨_, eq29⟩ | exact Or.inr ⟨_, eq30⟩ | exact Or.inl (hr_ _ (by decide) (by decide) (by decide) (by decide) (by decide))) (Or.inl (hr_ 32 (by decide) (by decide) (by decide) (by decide) (by decide)))⟩⟩
set_option maxHeartbeats 4000000 in
theorem T_isRejected (B : gB) (x y z : Int32) : StI B (J B) yX11_isRejected cX11_isRejected 4 yX12_isRejected cX12_isRejected 7 [.int x, .int y, .int z] := by
  intro ad ct ad2 ct2 S hJ
  have hJ0 := hJ
  have hbd := hJ0.bd
  obtain ⟨f, NL, N1, N2, hx, h0, hS, hNL, hG, hSm, hD, hK, hW, hC, hR, hE, hN, hX⟩ := hJ
  have hEz := hE
  have hNz := hN
  obtain ⟨e110, ⟨sx, hsx⟩, sy, hsy⟩ := hEz
  obtain ⟨k, o, U, V, pu, pw, ro, n1, n2, n3, hk12, hU, hUb, n7, n8, n9, n10, hok, hor⟩ := hNz
  obtain ⟨g3_, hg3_⟩ := hX.1 3 (by decide)
  obtain ⟨g4_, hg4_⟩ := hX.1 4 (by decide)
  obtain ⟨g29_, hg29_⟩ := hX.2.2.2.2.2.1 29 (by decide)
  obtain ⟨g30_, hg30_⟩ := hX.2.2.2.2.2.1 30 (by decide)
  have hoo : ∀ j, j < k → o j = (ordS (ltF (fun i => nv pu (40 * i)) (fun i => nv pw (40 * i))) ro k) j := fun j hj => by
    rw [hor j hj]
    exact ordS_cg k (fun a b ha hb => by unfold ltF; show decide (U a * V b < U b * V a) = decide (nv pu (40 * a) * nv pw (40 * b) < nv pu (40 * b) * nv pw (40 * a)); rw [(hok a ha).2.2.1, (hok b hb).2.2.1, (hok a ha).2.2.2, (hok b hb).2.2.2]) j hj
  have holt : ∀ j, j < k → o j < k := fun j hj => by rw [hor j hj]; exact ordS_lt k j hj
  have hUo : ∀ j, j < k → U (o j) = (fun i => nv pu (40 * i)) ((ordS (ltF (fun i => nv pu (40 * i)) (fun i => nv pw (40 * i))) ro k) j) := fun j hj => by rw [← hoo j hj]; exact ((hok _ (holt j hj)).2.2.1).symm
  have hVo : ∀ j, j < k → V (o j) = (fun i => nv pw (40 * i)) ((ordS (ltF (fun i => nv pu (40 * i)) (fun i => nv pw (40 * i))) ro k) j) := fun j hj => by rw [← hoo j hj]; exact ((hok _ (holt j hj)).2.2.2).symm
  have hok7 : ∀ i, i < k → okN pu (40 * i) ∧ okN pw (40 * i) ∧ nv pu (40 * i) < 2 ^ 700 ∧ nv pw (40 * i) < 2 ^ 700 := fun i hi => by
    obtain ⟨p1, p2, p3, p4⟩ := hok i hi
    rw [p3, p4]
    exact ⟨p1, p2, Nat.lt_trans (hUb i (by omega)).1 (by decide +kernel), Nat.lt_trans (hUb i (by omega)).2 (by decide +kernel)⟩
  refine ⟨5, 126, 0, 0, _, _, by decide, by decide, by decide, hbd, hx, c_X11_isRejected_b B ad ct 178 (Nat.le_refl _) hx e110 sx sy hsx hsy k o n1 n2 n3 hk12 U V hU hUb (fun j hj => by have := holt j hj; omega) x y z, ?_⟩
  intro v ad' ct' n' hp
  obtain ⟨ea, rfl, r, rfl, hr⟩ := hp
  obtain rfl := ea.symm
  refine ⟨rfl, rfl, r, rfl, 3, 81, _, _, by decide, by decide, h0, c_X12_isRejected_b B ad2 ct2 33 f g3_ g4_ pu pw ro g29_ g30_ (Nat.le_refl _) h0 hg3_ hg4_ n7 n8 n9 hg29_ hg30_ k n10 hk12 hok7 x y z, ?_⟩
  intro v2 ad2' ct2' n2' hq
  obtain ⟨rfl, rfl, q, rfl, hq⟩ := hq
  rcases hr with ⟨h1, rfl, rfl⟩ | ⟨h1, h1b, rfl, rfl⟩ | ⟨h1, h1b, i, c, d, exi, hik, ⟨bc, bd⟩, ea1, eb1, ⟨q1, hq1, hall, hend, rfl⟩, x1_, y1_, e110_, hx1_, hy1_, hc⟩
  · rcases hq with ⟨-, rfl, rfl⟩ | ⟨h2, -⟩ | ⟨h2, -⟩
    · exact ⟨rfl, rfl, rfl, hJ0⟩
    · exact absurd (by omega) h1
    · exact absurd (by omega) h1
  · rcases hq with ⟨h2, -⟩ | ⟨-, -, rfl, rfl⟩ | ⟨-, h2, -⟩
    · exact absurd (by omega) h2
    · exact ⟨rfl, rfl, rfl, hJ0⟩
    · exact absurd h2 h1b
  · rcases hq with ⟨h2, -⟩ | ⟨-, h2, -⟩ | ⟨-, -, i2, c2_, d2_, exi2, hik2, ⟨bc2, bd2⟩, ea2, eb2, ⟨q2, hq2, hall2, hend2, rfl⟩, e28, ⟨go_, gt_, xa_, xb_, eq3, eq4, eq29, eq30⟩, hr_⟩
    · exact absurd (by omega) h2
    · exact absurd h1b h2
    · obtain rfl := (nI_eq bc bc2).mp (ea1.symm.trans ea2)
      obtain rfl := (nI_eq bd bd2).mp (eb1.symm.trans eb2)
      obtain rfl := (nI_eq (by omega) (by omega)).mp (exi.symm.trans exi2)
      have e := first_eq hq1 hq2 hUo hVo hall hend hall2 hend2
      refine ⟨rfl, rfl, by rw [← e, hasF_cg q1 (fun j hj => hoo j (by omega))], ⟨f, NL, N1, N2, (hc 0 (by decide)).trans hx, (hr_ 0 (by decide) (by decide) (by decide) (by decide) (by decide)).trans h0, hS, hNL, (by rw [hc 1 (by decide), hc 2 (by decide), hr_ 5 (by decide) (by decide) (by decide) (by decide) (by decide)]; exact hG), (by rw [hc 3 (by decide), hc 4 (by decide), hc 5 (by decide), hc 6 (by decide), hr_ 6 (by decide) (by decide) (by decide) (by decide) (by decide), hr_ 7 (by decide) (by decide) (by decide) (by decide) (by decide)]; exact hSm), (by rw [hc 7 (by decide), hc 8 (by decide), hr_ 8 (by decide) (by decide) (by decide) (by decide) (by decide)]; exact hD), (by rw [hc 9 (by decide), hc 10 (by decide), hr_ 31 (by decide) (by decide) (by decide) (by decide) (by decide)]; exact hK), hW.move (fun _ _ _ => rfl) (fun r h1 h2 => hc r (by omega)), (by rw [hc 79 (by decide), hc 80 (by decide), hr_ 16 (by decide) (by decide) (by decide) (by decide) (by decide), hr_ 17 (by decide) (by decide) (by decide) (by decide) (by decide)]; exact hC), hR.move (fun _ _ => rfl) (fun r h1 h2 => hc r (by omega)) (hr_ 9 (by decide) (by decide) (by decide) (by decide) (by decide)) (hr_ 10 (by decide) (by decide) (by decide) (by decide) (by decide)) (hr_ 11 (by decide) (by decide) (by decide) (by decide) (by decide)), ⟨e110_, ⟨_, hx1_⟩, _, hy1_⟩, hN.move (fun _ _ => rfl) (fun r h1 h2 => hc r (by omega)) (hr_ 26 (by decide) (by decide) (by decide) (by decide) (by decide)) (hr_ 27 (by decide) (by decide) (by decide) (by decide) (by decide)) ⟨_, e28⟩, hX.upd (fun r hr => by rcases hr with rfl | rfl | rfl | rfl | rfl | rfl | rfl | rfl | rfl <;> first | exact Or.inr ⟨_, eq3⟩ | exact Or.inr ⟨_, eq4⟩ | exact Or.inl (hr_ _ (by decide) (by decide) (by decide) (by decide) (by decide))) (fun r hr => Or.inl (hr_ r (by omega) (by omega) (by omega) (by omega) (by omega))) (fun r hr => Or.inl (hr_ r (by omega) (by omega) (by omega) (by omega) (by omega))) (fun r hr => Or.inl (hr_ r (by omega) (by omega) (by omega) (by omega) (by omega))) (Or.inl (hr_ 24 (by decide) (by decide) (by decide) (by decide) (by decide))) (fun r hr => by rcases hr with rfl | rfl <;> first | exact Or.inr ⟨_, eq29⟩ | exact Or.inr ⟨_, eq30⟩ | exact Or.inl (hr_ _ (by decide) (by decide) (by decide) (by decide) (by decide))) (Or.inl (hr_ 32 (by decide) (by decide) (by decide) (by decide) (by decide)))⟩⟩
