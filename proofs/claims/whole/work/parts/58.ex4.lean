set_option maxHeartbeats 4000000 in
set_option maxRecDepth 100000 in
theorem c_X11_figure (B : gB) (ad : Nat → Nat) (ct : Nat → va_E) (n : Nat) (hn : 178 ≤ n) (hx : ct 0 = .inr (11, [.ref (ad 1), .ref (ad 3), .ref (ad 5), .ref (ad 7), .ref (ad 9), .ref (ad 11), .ref (ad 79), .ref (ad 81), .ref (ad 88), .ref (ad 110), .ref (ad 115)])) (th te sta ask : Int32) (hr : ct 88 = .inr (6, [.ref (ad 89), .int th, .int te, .int sta, .int ask])) (hrr : ct 89 = .inl (B.2.1 4, 4, .inr (.inr (.inr (.inr (fun i => some (ad (90 + 5 * i)))))))) (hth : th = 0 ∨ th = 1) (u l : Nat → Nat) (hF : ∀ t, t < 4 → isFr B ad ct (90 + 5 * t) (u t) (l t)) (hFb : ∀ t, t < 4 → u t < 2 ^ 180 ∧ l t < 2 ^ 180) (s0 : ct 110 = .inr (7, [.ref (ad 111), .ref (ad 113)])) (sx sy : Nat) (sl : isW B ad ct 111 sx) (sr : isW B ad ct 113 sy) (hFl : ¬ th = 0 → ∀ t, t < 4 → 0 < l t ∧ u t ≤ l t) (x y : Int32) : Ctr B yX11_figure cX11_figure 4 (some .int) 5 115 0 0 ad ct n [.ref (ad 0), .int x, .int y] (gPi ad n (fun r ct' => (th = 0 ∧ r = -3 ∧ ct' = ct) ∨ (¬ th = 0 ∧ ¬ ((0 : Int) ≤ x.toInt ∧ x.toInt ≤ 3) ∧ r = -1 ∧ ct' = ct) ∨ (¬ th = 0 ∧ ∃ t : Nat, t < 4 ∧ x = nI t ∧ ((¬ ((0 : Int) ≤ y.toInt ∧ y.toInt ≤ 60) ∧ r = -2 ∧ ct' = ct) ∨ (((0 : Int) ≤ y.toInt ∧ y.toInt ≤ 60) ∧ ∃ i : Nat, y = nI i ∧ i ≤ 60 ∧ r = nI (fig (u t) (l t) i) ∧ ∃ x' y', ct' 110 = .inr (7, [.ref (ad 111), .ref (ad 113)]) ∧ isW B ad ct' 111 x' ∧ isW B ad ct' 113 y' ∧ ∀ r, r < 111 ∨ 114 < r → ct' r = ct r))))) := by
  refine Ctr.ofG (L := [(0, .ref (ad 0)), (1, .int x), (2, .int y)]) (by decide +kernel) rfl (Nat.le_of_ble_eq_true rfl) (fun E fx rt hnm => ?_)
  refine g_aload_n fx 0 dX11_figure_0 rfl ?_
  refine g_iload_n fx 1 dX11_figure_1 rfl ?_
  refine g_callVip (As := [.int x]) (rest := []) fx slX11_227 (c_X11_refusal B ad ct n hn hx th te sta ask hr hrr hth x) (by omega) hx rfl rfl rfl (Nat.le_of_ble_eq_true rfl) ⟨by decide, by decide⟩ ⟨by decide, by decide⟩ dX11_figure_2 (fun q0 hq0 => ?_)
  refine g_istore_n (L' := [(3, .int q0), (0, .ref (ad 0)), (1, .int x), (2, .int y)]) fx dX11_figure_5 (by decide) rfl ?_
  refine g_iload_n fx 0 dX11_figure_6 rfl ?_
  refine g_if_eq fx 12 dX11_figure_7 (by decide) (fun c7 => ?_) (fun c7 => ?_)
  · skip
    have hth1 : ¬ th = 0 := fun q => by rw [hq0, if_pos q] at c7; exact absurd c7 (by decide)
    have hT : (0 : Int) ≤ x.toInt ∧ x.toInt ≤ 3 := Classical.byContradiction (fun w => by rw [hq0, if_neg hth1, if_neg w] at c7; exact absurd c7 (by decide))
    obtain ⟨t, ht, ex⟩ := toN hT (by omega)
    have htl : t < 4 := by omega
    have hft := hF t htl
    have hf0 := hft.1
    have hbt := hFb t htl
    refine g_relocal (L' := [(3, .int q0), (0, .ref (ad 0)), (1, .int (nI t)), (2, .int y)]) (by rw [ex]) ?_
    refine g_iload_n fx 3 dX11_figure_12 rfl ?_
    refine g_iconst (v := nI 0) fx dX11_figure_13 (by decide +kernel) ?_
    refine g_bipush (v := nI 60) fx dX11_figure_14 (by decide +kernel) ?_
    refine g_callSip (As := [.int y, .int (nI 0), .int (nI 60)]) (rest := []) fx slX11_78 (c_X11_within B ad ct n y (nI 0) (nI 60) 0 60 (by decide +kernel) (by decide +kernel)) rfl rfl (Nat.le_of_ble_eq_true rfl) ⟨by decide, by decide⟩ ⟨by decide, by decide⟩ dX11_figure_16 (fun q1 hq1 => ?_)
    refine g_if_eq fx 41 dX11_figure_19 (by decide) (fun c19 => ?_) (fun c19 => ?_)
    · skip
      have hN := if01_z.mp (hq1 ▸ c19)
      refine g_bipush (v := (-2)) fx dX11_figure_41 (by decide +kernel) ?_
      refine g_iret fx rt dX11_figure_43 ?_
      exact gPi.mk (Or.inr (Or.inr ⟨hth1, t, htl, ex, Or.inl ⟨hN, rfl, rfl⟩⟩))
    · skip
      have hY := if01_n.mp (hq1 ▸ c19)
      obtain ⟨i, hi, ey⟩ := toN hY (by omega)
      have hlt := hFl hth1 t htl
      refine g_relocal (L' := [(3, .int q0), (0, .ref (ad 0)), (1, .int (nI t)), (2, .int (nI i))]) (by rw [ey]) ?_
      refine g_aload_n fx 1 dX11_figure_22 rfl ?_
      refine g_get (r := 0) fx lkX11_65 (by omega) hx rfl dX11_figure_23 ?_
      refine g_aload_n fx 1 dX11_figure_26 rfl ?_
      refine g_get (r := 0) fx lkX11_58 (by omega) hx rfl dX11_figure_27 ?_
      refine g_iload_n fx 2 dX11_figure_30 rfl ?_
      refine g_callVrp (As := [.int (nI t)]) (rest := [.ref (ad 110)]) fx slX11_142 (c_X6_chance B ad ct n th te sta ask hn hr hrr t htl) (by omega) hr rfl rfl rfl (Nat.le_of_ble_eq_true rfl) ⟨by decide, by decide⟩ ⟨by decide, by decide⟩ dX11_figure_31 (fun qc hqc => ?_)
      subst hqc
      refine g_iload_n fx 3 dX11_figure_34 rfl ?_
      refine g_callVi (As := [.ref (ad (90 + 5 * t)), .int (nI i)]) (rest := []) fx slX11_242 (c_X7_figureOf B ad ct n hn s0 sx sy sl sr (90 + 5 * t) (u t) (l t) (by omega) (by omega) hft.1 hft.2.1 hft.2.2 i (by omega) hlt.1 hlt.2 (lev hbt.2 (by decide))) (by omega) s0 rfl rfl rfl (Nat.le_of_ble_eq_true rfl) ⟨by decide, by decide⟩ ⟨by decide, by decide⟩ dX11_figure_35 (fun q5 ct1 hq5 => ?_)
      refine g_goto fx 43 dX11_figure_38 (by decide) ?_
      refine g_iret fx rt dX11_figure_43 ?_
      exact gPi.mk (Or.inr (Or.inr ⟨hth1, t, htl, ex, Or.inr ⟨hY, i, ey, by omega, hq5.1, hq5.2⟩⟩))
  · skip
    have hbad : (th = 0 ∧ q0 = -3) ∨ (¬ th = 0 ∧ ¬ ((0 : Int) ≤ x.toInt ∧ x.toInt ≤ 3) ∧ q0 = -1) := by
      by_cases q : th = 0
      · exact Or.inl ⟨q, by rw [hq0, if_pos q]⟩
      · by_cases w : (0 : Int) ≤ x.toInt ∧ x.toInt ≤ 3
        · exact absurd (by rw [hq0, if_neg q, if_pos w]) c7
        · exact Or.inr ⟨q, w, by rw [hq0, if_neg q, if_neg w]⟩
    refine g_iload_n fx 0 dX11_figure_10 rfl ?_
    refine g_iret fx rt dX11_figure_11 ?_
    rcases hbad with ⟨h1, h2⟩ | ⟨h1, h2, h3⟩
    · exact gPi.mk (Or.inl ⟨h1, h2, rfl⟩)
    · exact gPi.mk (Or.inr (Or.inl ⟨h1, h2, h3, rfl⟩))
set_option maxHeartbeats 4000000 in
set_option maxRecDepth 100000 in
theorem c_X11_against (B : gB) (ad : Nat → Nat) (ct : Nat → va_E) (n : Nat) (hn : 178 ≤ n) (hx : ct 0 = .inr (11, [.ref (ad 1), .ref (ad 3), .ref (ad 5), .ref (ad 7), .ref (ad 9), .ref (ad 11), .ref (ad 79), .ref (ad 81), .ref (ad 88), .ref (ad 110), .ref (ad 115)])) (th te sta ask : Int32) (hr : ct 88 = .inr (6, [.ref (ad 89), .int th, .int te, .int sta, .int ask])) (hrr : ct 89 = .inl (B.2.1 4, 4, .inr (.inr (.inr (.inr (fun i => some (ad (90 + 5 * i)))))))) (hth : th = 0 ∨ th = 1) (u l : Nat → Nat) (hF : ∀ t, t < 4 → isFr B ad ct (90 + 5 * t) (u t) (l t)) (hFb : ∀ t, t < 4 → u t < 2 ^ 180 ∧ l t < 2 ^ 180) (s0 : ct 110 = .inr (7, [.ref (ad 111), .ref (ad 113)])) (sx sy : Nat) (sl : isW B ad ct 111 sx) (sr : isW B ad ct 113 sy) (x a b : Int32) : Ctr B yX11_against cX11_against 5 (some .int) 4 101 0 0 ad ct n [.ref (ad 0), .int x, .int a, .int b] (gPi ad n (fun r ct' => (th = 0 ∧ r = -30 ∧ ct' = ct) ∨ (¬ th = 0 ∧ ¬ ((0 : Int) ≤ x.toInt ∧ x.toInt ≤ 3) ∧ r = -10 ∧ ct' = ct) ∨ (¬ th = 0 ∧ ∃ t : Nat, t < 4 ∧ x = nI t ∧ ((¬ (((0 : Int) ≤ a.toInt ∧ a.toInt ≤ 1000000) ∧ ((1 : Int) ≤ b.toInt ∧ b.toInt ≤ 1000000)) ∧ r = -20 ∧ ct' = ct) ∨ ((((0 : Int) ≤ a.toInt ∧ a.toInt ≤ 1000000) ∧ ((1 : Int) ≤ b.toInt ∧ b.toInt ≤ 1000000)) ∧ ∃ i j : Nat, a = nI i ∧ b = nI j ∧ r = cmpI (u t * j) (l t * i) ∧ ∃ x' y', ct' 110 = .inr (7, [.ref (ad 111), .ref (ad 113)]) ∧ isW B ad ct' 111 x' ∧ isW B ad ct' 113 y' ∧ ∀ r, r < 111 ∨ 114 < r → ct' r = ct r))))) := by
  refine Ctr.ofG (L := [(0, .ref (ad 0)), (1, .int x), (2, .int a), (3, .int b)]) (by decide +kernel) rfl (Nat.le_of_ble_eq_true rfl) (fun E fx rt hnm => ?_)
  refine g_aload_n fx 0 dX11_against_0 rfl ?_
  refine g_iload_n fx 1 dX11_against_1 rfl ?_
  refine g_callVip (As := [.int x]) (rest := []) fx slX11_227 (c_X11_refusal B ad ct n hn hx th te sta ask hr hrr hth x) (by omega) hx rfl rfl rfl (Nat.le_of_ble_eq_true rfl) ⟨by decide, by decide⟩ ⟨by decide, by decide⟩ dX11_against_2 (fun q0 hq0 => ?_)
  refine g_istore (L' := [(4, .int q0), (0, .ref (ad 0)), (1, .int x), (2, .int a), (3, .int b)]) fx dX11_against_5 (by decide) rfl ?_
  refine g_iload fx 0 dX11_against_7 rfl ?_
  refine g_if_eq fx 18 dX11_against_9 (by decide) (fun c9 => ?_) (fun c9 => ?_)
  · skip
    have hth1 : ¬ th = 0 := fun q => by rw [hq0, if_pos q] at c9; exact absurd c9 (by decide)
    have hT : (0 : Int) ≤ x.toInt ∧ x.toInt ≤ 3 := Classical.byContradiction (fun w => by rw [hq0, if_neg hth1, if_neg w] at c9; exact absurd c9 (by decide))
    obtain ⟨t, ht, ex⟩ := toN hT (by omega)
    have htl : t < 4 := by omega
    have hft := hF t htl
    have hf0 := hft.1
    have hbt := hFb t htl
    refine g_relocal (L' := [(4, .int q0), (0, .ref (ad 0)), (1, .int (nI t)), (2, .int a), (3, .int b)]) (by rw [ex]) ?_
    refine g_iload_n fx 3 dX11_against_18 rfl ?_
    refine g_iload_n fx 4 dX11_against_19 rfl ?_
    refine g_callSip (As := [.int a, .int b]) (rest := []) fx slX11_246 (c_X11_isLevel B ad ct n a b) rfl rfl (Nat.le_of_ble_eq_true rfl) ⟨by decide, by decide⟩ ⟨by decide, by decide⟩ dX11_against_20 (fun q1 hq1 => ?_)
    refine g_if_eq fx 48 dX11_against_23 (by decide) (fun c23 => ?_) (fun c23 => ?_)
    · skip
      have hN := if01_z.mp (hq1 ▸ c23)
      refine g_bipush (v := (-20)) fx dX11_against_48 (by decide +kernel) ?_
      refine g_iret fx rt dX11_against_50 ?_
      exact gPi.mk (Or.inr (Or.inr ⟨hth1, t, htl, ex, Or.inl ⟨hN, rfl, rfl⟩⟩))
    · skip
      have hY := if01_n.mp (hq1 ▸ c23)
      obtain ⟨i, hi, ea⟩ := toN hY.1 (by omega)
      obtain ⟨j, hj, eb⟩ := toN hY.2 (by omega)
      refine g_relocal (L' := [(4, .int q0), (0, .ref (ad 0)), (1, .int (nI t)), (2, .int (nI i)), (3, .int (nI j))]) (by rw [ea, eb]) ?_
      refine g_aload_n fx 1 dX11_against_26 rfl ?_
      refine g_get (r := 0) fx lkX11_65 (by omega) hx rfl dX11_against_27 ?_
      refine g_aload_n fx 1 dX11_against_30 rfl ?_
      refine g_get (r := 0) fx lkX11_58 (by omega) hx rfl dX11_against_31 ?_
      refine g_iload_n fx 2 dX11_against_34 rfl ?_
      refine g_callVrp (As := [.int (nI t)]) (rest := [.ref (ad 110)]) fx slX11_142 (c_X6_chance B ad ct n th te sta ask hn hr hrr t htl) (by omega) hr rfl rfl rfl (Nat.le_of_ble_eq_true rfl) ⟨by decide, by decide⟩ ⟨by decide, by decide⟩ dX11_against_35 (fun qc hqc => ?_)
      subst hqc
      refine g_iload_n fx 3 dX11_against_38 rfl ?_
      refine g_i2l fx dX11_against_39 ?_
      refine g_isl (y := lN i) (nI_l (by omega)) ?_
      refine g_iload_n fx 4 dX11_against_40 rfl ?_
      refine g_i2l fx dX11_against_41 ?_
      refine g_isl (y := lN j) (nI_l (by omega)) ?_
      refine g_callVi (As := [.ref (ad (90 + 5 * t)), .long (lN i), .long (lN j)]) (rest := []) fx slX11_249 (c_X7_compareToLevel B ad ct n hn s0 sx sy sl sr (90 + 5 * t) (u t) (l t) (by omega) (by omega) hft.1 hft.2.1 hft.2.2 i j (by omega) (by omega) (lev hbt.1 (Nat.lt_of_le_of_lt (show j ≤ 1000000 by omega) (by decide))) (lev hbt.2 (Nat.lt_of_le_of_lt (show i ≤ 1000000 by omega) (by decide)))) (by omega) s0 rfl rfl rfl (Nat.le_of_ble_eq_true rfl) ⟨by decide, by decide⟩ ⟨by decide, by decide⟩ dX11_against_42 (fun q5 ct1 hq5 => ?_)
      refine g_goto fx 50 dX11_against_45 (by decide) ?_
      refine g_iret fx rt dX11_against_50 ?_
      exact gPi.mk (Or.inr (Or.inr ⟨hth1, t, htl, ex, Or.inr ⟨hY, i, j, ea, eb, hq5.1, hq5.2⟩⟩))
  · skip
    have hbad : (th = 0 ∧ q0 = -3) ∨ (¬ th = 0 ∧ ¬ ((0 : Int) ≤ x.toInt ∧ x.toInt ≤ 3) ∧ q0 = -1) := by
      by_cases q : th = 0
      · exact Or.inl ⟨q, by rw [hq0, if_pos q]⟩
      · by_cases w : (0 : Int) ≤ x.toInt ∧ x.toInt ≤ 3
        · exact absurd (by rw [hq0, if_neg q, if_pos w]) c9
        · exact Or.inr ⟨q, w, by rw [hq0, if_neg q, if_neg w]⟩
    refine g_bipush (v := nI 10) fx dX11_against_12 (by decide +kernel) ?_
    refine g_iload fx 0 dX11_against_14 rfl ?_
    refine g_imul fx dX11_against_16 ?_
    refine g_iret fx rt dX11_against_17 ?_
    rcases hbad with ⟨h1, h2⟩ | ⟨h1, h2, h3⟩
    · exact gPi.mk (Or.inl ⟨h1, (by rw [h2]; rfl), rfl⟩)
    · exact gPi.mk (Or.inr (Or.inl ⟨h1, h2, (by rw [h3]; rfl), rfl⟩))
set_option maxHeartbeats 4000000 in
set_option maxRecDepth 100000 in
theorem c_X11_note (B : gB) (ad : Nat → Nat) (ct : Nat → va_E) (n : Nat) (hn : 178 ≤ n) (hx : ct 0 = .inr (11, [.ref (ad 1), .ref (ad 3), .ref (ad 5), .ref (ad 7), .ref (ad 9), .ref (ad 11), .ref (ad 79), .ref (ad 81), .ref (ad 88), .ref (ad 110), .ref (ad 115)])) (th te sta ask : Int32) (hr : ct 88 = .inr (6, [.ref (ad 89), .int th, .int te, .int sta, .int ask])) (hrr : ct 89 = .inl (B.2.1 4, 4, .inr (.inr (.inr (.inr (fun i => some (ad (90 + 5 * i)))))))) (hth : th = 0 ∨ th = 1) (u l : Nat → Nat) (hF : ∀ t, t < 4 → isFr B ad ct (90 + 5 * t) (u t) (l t)) (hFb : ∀ t, t < 4 → u t < 2 ^ 180 ∧ l t < 2 ^ 180) (s0 : ct 110 = .inr (7, [.ref (ad 111), .ref (ad 113)])) (sx sy : Nat) (sl : isW B ad ct 111 sx) (sr : isW B ad ct 113 sy) (k : Nat) (o : Nat → Nat) (hc : ct 115 = .inr (1, [.ref (ad 116), .ref (ad 117), .ref (ad 110), .int (nI k)])) (hcr : ct 116 = .inl (B.2.1 4, 12, .inr (.inr (.inr (.inr (fun i => some (ad (118 + 5 * i)))))))) (hco : ct 117 = .inl (B.2.1 0, 12, .inl (nF o))) (hk12 : k ≤ 12) (U V : Nat → Nat) (hN : ∀ i, i < 12 → isFr B ad ct (118 + 5 * i) (U i) (V i)) (hBn : ∀ i, i < 12 → U i < 2 ^ 180 ∧ V i < 2 ^ 180) (ho : ∀ j, j < k → o j < k) (x : Int32) : Ctr B yX11_note cX11_note 3 (some .int) 5 118 0 0 ad ct n [.ref (ad 0), .int x] (gPi ad n (fun r ct' => (th = 0 ∧ r = -3 ∧ ct' = ct) ∨ (¬ th = 0 ∧ ¬ ((0 : Int) ≤ x.toInt ∧ x.toInt ≤ 3) ∧ r = -1 ∧ ct' = ct) ∨ (¬ th = 0 ∧ ∃ t : Nat, t < 4 ∧ x = nI t ∧ ((12 ≤ k ∧ r = -4 ∧ ct' = ct) ∨ (k < 12 ∧ r = nI (k + 1) ∧ ct' 115 = .inr (1, [.ref (ad 116), .ref (ad 117), .ref (ad 110), .int (nI (k + 1))]) ∧ ct' 117 = .inl (B.2.1 0, 12, .inl (nF (insR (ltF (va_up U k (u t)) (va_up V k (l t))) k k o))) ∧ (∀ i, i < 12 → isFr B ad ct' (118 + 5 * i) ((va_up U k (u t)) i) ((va_up V k (l t)) i)) ∧ ct' 110 = .inr (7, [.ref (ad 111), .ref (ad 113)]) ∧ (∃ x' y', isW B ad ct' 111 x' ∧ isW B ad ct' 113 y') ∧ ∀ r, r < 111 ∨ r = 116 ∨ 177 < r → ct' r = ct r))))) := by
  refine Ctr.ofG (L := [(0, .ref (ad 0)), (1, .int x)]) (by decide +kernel) rfl (Nat.le_of_ble_eq_true rfl) (fun E fx rt hnm => ?_)
  refine g_aload_n fx 0 dX11_note_0 rfl ?_
  refine g_iload_n fx 1 dX11_note_1 rfl ?_
  refine g_callVip (As := [.int x]) (rest := []) fx slX11_227 (c_X11_refusal B ad ct n hn hx th te sta ask hr hrr hth x) (by omega) hx rfl rfl rfl (Nat.le_of_ble_eq_true rfl) ⟨by decide, by decide⟩ ⟨by decide, by decide⟩ dX11_note_2 (fun q0 hq0 => ?_)
  refine g_istore_n (L' := [(2, .int q0), (0, .ref (ad 0)), (1, .int x)]) fx dX11_note_5 (by decide) rfl ?_
  refine g_iload_n fx 0 dX11_note_6 rfl ?_
  refine g_if_eq fx 12 dX11_note_7 (by decide) (fun c7 => ?_) (fun c7 => ?_)
  · skip
    have hth1 : ¬ th = 0 := fun q => by rw [hq0, if_pos q] at c7; exact absurd c7 (by decide)
    have hT : (0 : Int) ≤ x.toInt ∧ x.toInt ≤ 3 := Classical.byContradiction (fun w => by rw [hq0, if_neg hth1, if_neg w] at c7; exact absurd c7 (by decide))
    obtain ⟨t, ht, ex⟩ := toN hT (by omega)
    have htl : t < 4 := by omega
    have hft := hF t htl
    have hf0 := hft.1
    have hbt := hFb t htl
    refine g_relocal (L' := [(2, .int q0), (0, .ref (ad 0)), (1, .int (nI t))]) (by rw [ex]) ?_
    refine g_aload_n fx 1 dX11_note_12 rfl ?_
    refine g_get (r := 0) fx lkX11_74 (by omega) hx rfl dX11_note_13 ?_
    refine g_callVip (As := []) (rest := []) fx slX11_274 (c_X1_isFull B ad ct n k o hn hc hcr hco hk12) (by omega) hc rfl rfl rfl (Nat.le_of_ble_eq_true rfl) ⟨by decide, by decide⟩ ⟨by decide, by decide⟩ dX11_note_16 (fun q1 hq1 => ?_)
    refine g_if_eq fx 27 dX11_note_19 (by decide) (fun c19 => ?_) (fun c19 => ?_)
    · skip
      have hnf : ¬ 12 ≤ k := if01_z.mp (hq1 ▸ c19)
      refine g_aload_n fx 1 dX11_note_27 rfl ?_
      refine g_get (r := 0) fx lkX11_74 (by omega) hx rfl dX11_note_28 ?_
      refine g_aload_n fx 1 dX11_note_31 rfl ?_
      refine g_get (r := 0) fx lkX11_58 (by omega) hx rfl dX11_note_32 ?_
      refine g_iload_n fx 2 dX11_note_35 rfl ?_
      refine g_callVrp (As := [.int (nI t)]) (rest := [.ref (ad 115)]) fx slX11_142 (c_X6_chance B ad ct n th te sta ask hn hr hrr t htl) (by omega) hr rfl rfl rfl (Nat.le_of_ble_eq_true rfl) ⟨by decide, by decide⟩ ⟨by decide, by decide⟩ dX11_note_36 (fun qc hqc => ?_)
      subst hqc
      refine g_callVi (As := [.ref (ad (90 + 5 * t))]) (rest := []) fx slX11_275 (c_X1_add B ad ct n k o hn hc hcr hco hk12 s0 sx sy sl sr U V hN hBn ho (90 + 5 * t) (u t) (l t) (by omega) (by omega) hft.1 hft.2.1 hft.2.2 (by omega) hbt.1 hbt.2) (by omega) hc rfl rfl rfl (Nat.le_of_ble_eq_true rfl) ⟨by decide, by decide⟩ ⟨by decide, by decide⟩ dX11_note_39 (fun q5 ct1 hq5 => ?_)
      refine g_iret fx rt dX11_note_42 ?_
      refine gPi.mk (Or.inr (Or.inr ⟨hth1, t, htl, ex, Or.inr ?_⟩))
      rcases hq5 with ⟨h1, -⟩ | h1
      · exact absurd h1 hnf
      · exact h1
    · skip
      have hfl : 12 ≤ k := if01_n.mp (hq1 ▸ c19)
      refine g_bipush (v := (-4)) fx dX11_note_22 (by decide +kernel) ?_
      refine g_goto fx 42 dX11_note_24 (by decide) ?_
      refine g_iret fx rt dX11_note_42 ?_
      exact gPi.mk (Or.inr (Or.inr ⟨hth1, t, htl, ex, Or.inl ⟨hfl, rfl, rfl⟩⟩))
  · skip
    have hbad : (th = 0 ∧ q0 = -3) ∨ (¬ th = 0 ∧ ¬ ((0 : Int) ≤ x.toInt ∧ x.toInt ≤ 3) ∧ q0 = -1) := by
      by_cases q : th = 0
      · exact Or.inl ⟨q, by rw [hq0, if_pos q]⟩
      · by_cases w : (0 : Int) ≤ x.toInt ∧ x.toInt ≤ 3
        · exact absurd (by rw [hq0, if_neg q, if_pos w]) c7
        · exact Or.inr ⟨q, w, by rw [hq0, if_neg q, if_neg w]⟩
    refine g_iload_n fx 0 dX11_note_10 rfl ?_
    refine g_iret fx rt dX11_note_11 ?_
    rcases hbad with ⟨h1, h2⟩ | ⟨h1, h2, h3⟩
    · exact gPi.mk (Or.inl ⟨h1, h2, rfl⟩)
    · exact gPi.mk (Or.inr (Or.inl ⟨h1, h2, h3, rfl⟩))
set_option maxHeartbeats 4000000 in
set_option maxRecDepth 100000 in
theorem c_X11_rejected (B : gB) (ad : Nat → Nat) (ct : Nat → va_E) (n : Nat) (hn : 178 ≤ n) (hx : ct 0 = .inr (11, [.ref (ad 1), .ref (ad 3), .ref (ad 5), .ref (ad 7), .ref (ad 9), .ref (ad 11), .ref (ad 79), .ref (ad 81), .ref (ad 88), .ref (ad 110), .ref (ad 115)])) (s0 : ct 110 = .inr (7, [.ref (ad 111), .ref (ad 113)])) (sx sy : Nat) (sl : isW B ad ct 111 sx) (sr : isW B ad ct 113 sy) (k : Nat) (o : Nat → Nat) (hc : ct 115 = .inr (1, [.ref (ad 116), .ref (ad 117), .ref (ad 110), .int (nI k)])) (hcr : ct 116 = .inl (B.2.1 4, 12, .inr (.inr (.inr (.inr (fun i => some (ad (118 + 5 * i)))))))) (hco : ct 117 = .inl (B.2.1 0, 12, .inl (nF o))) (hk12 : k ≤ 12) (U V : Nat → Nat) (hN : ∀ i, i < 12 → isFr B ad ct (118 + 5 * i) (U i) (V i)) (hBn : ∀ i, i < 12 → U i < 2 ^ 180 ∧ V i < 2 ^ 180) (ho : ∀ j, j < k → o j < 12) (a b : Int32) : Ctr B yX11_rejected cX11_rejected 3 (some .int) 5 126 0 0 ad ct n [.ref (ad 0), .int a, .int b] (gPi ad n (fun r ct' => (¬ (((0 : Int) ≤ a.toInt ∧ a.toInt ≤ 1000000) ∧ ((1 : Int) ≤ b.toInt ∧ b.toInt ≤ 1000000)) ∧ r = -2 ∧ ct' = ct) ∨ ((((0 : Int) ≤ a.toInt ∧ a.toInt ≤ 1000000) ∧ ((1 : Int) ≤ b.toInt ∧ b.toInt ≤ 1000000)) ∧ ∃ c d : Nat, a = nI c ∧ b = nI d ∧ (∃ q : Nat, r = nI q ∧ q ≤ k ∧ (∀ j, j < q → U (o j) * d * (k - j) ≤ V (o j) * c) ∧ (q < k → ¬ U (o q) * d * (k - q) ≤ V (o q) * c)) ∧ ∃ x' y', ct' 110 = .inr (7, [.ref (ad 111), .ref (ad 113)]) ∧ isW B ad ct' 111 x' ∧ isW B ad ct' 113 y' ∧ ∀ r, r < 111 ∨ 114 < r → ct' r = ct r))) := by
  refine Ctr.ofG (L := [(0, .ref (ad 0)), (1, .int a), (2, .int b)]) (by decide +kernel) rfl (Nat.le_of_ble_eq_true rfl) (fun E fx rt hnm => ?_)
  refine g_iload_n fx 1 dX11_rejected_0 rfl ?_
  refine g_iload_n fx 2 dX11_rejected_1 rfl ?_
  refine g_callSip (As := [.int a, .int b]) (rest := []) fx slX11_246 (c_X11_isLevel B ad ct n a b) rfl rfl (Nat.le_of_ble_eq_true rfl) ⟨by decide, by decide⟩ ⟨by decide, by decide⟩ dX11_rejected_2 (fun q1 hq1 => ?_)
  refine g_if_eq fx 20 dX11_rejected_5 (by decide) (fun c5 => ?_) (fun c5 => ?_)
  · skip
    have hN1 := if01_z.mp (hq1 ▸ c5)
    refine g_bipush (v := (-2)) fx dX11_rejected_20 (by decide +kernel) ?_
    refine g_iret fx rt dX11_rejected_22 ?_
    exact gPi.mk (Or.inl ⟨hN1, rfl, rfl⟩)
  · skip
    have hY := if01_n.mp (hq1 ▸ c5)
    obtain ⟨c, hc1, ea⟩ := toN hY.1 (by omega)
    obtain ⟨d, hd1, eb⟩ := toN hY.2 (by omega)
    refine g_relocal (L' := [(0, .ref (ad 0)), (1, .int (nI c)), (2, .int (nI d))]) (by rw [ea, eb]) ?_
    refine g_aload_n fx 0 dX11_rejected_8 rfl ?_
    refine g_get (r := 0) fx lkX11_74 (by omega) hx rfl dX11_rejected_9 ?_
    refine g_iload_n fx 1 dX11_rejected_12 rfl ?_
    refine g_iload_n fx 2 dX11_rejected_13 rfl ?_
    refine g_callVi (As := [.int (nI c), .int (nI d)]) (rest := []) fx slX11_278 (c_X1_countRejected B ad ct n k o hn hc hcr hco hk12 s0 sx sy sl sr U V hN hBn ho c d (by omega) (by omega)) (by omega) hc rfl rfl rfl (Nat.le_of_ble_eq_true rfl) ⟨by decide, by decide⟩ ⟨by decide, by decide⟩ dX11_rejected_14 (fun q5 ct1 hq5 => ?_)
    refine g_goto fx 22 dX11_rejected_17 (by decide) ?_
    refine g_iret fx rt dX11_rejected_22 ?_
    exact gPi.mk (Or.inr ⟨hY, c, d, ea, eb, hq5.1, hq5.2⟩)
set_option maxHeartbeats 4000000 in
set_option maxRecDepth 100000 in
theorem c_X11_isRejected (B : gB) (ad : Nat → Nat) (ct : Nat → va_E) (n : Nat) (hn : 178 ≤ n) (hx : ct 0 = .inr (11, [.ref (ad 1), .ref (ad 3), .ref (ad 5), .ref (ad 7), .ref (ad 9), .ref (ad 11), .ref (ad 79), .ref (ad 81), .ref (ad 88), .ref (ad 110), .ref (ad 115)])) (s0 : ct 110 = .inr (7, [.ref (ad 111), .ref (ad 113)])) (sx sy : Nat) (sl : isW B ad ct 111 sx) (sr : isW B ad ct 113 sy) (k : Nat) (o : Nat → Nat) (hc : ct 115 = .inr (1, [.ref (ad 116), .ref (ad 117), .ref (ad 110), .int (nI k)])) (hcr : ct 116 = .inl (B.2.1 4, 12, .inr (.inr (.inr (.inr (fun i => some (ad (118 + 5 * i)))))))) (hco : ct 117 = .inl (B.2.1 0, 12, .inl (nF o))) (hk12 : k ≤ 12) (U V : Nat → Nat) (hN : ∀ i, i < 12 → isFr B ad ct (118 + 5 * i) (U i) (V i)) (hBn : ∀ i, i < 12 → U i < 2 ^ 180 ∧ V i < 2 ^ 180) (ho : ∀ j, j < k → o j < 12) (x a b : Int32) : Ctr B yX11_isRejected cX11_isRejected 4 (some .int) 5 126 0 0 ad ct n [.ref (ad 0), .int x, .int a, .int b] (gPi ad n (fun r ct' => (¬ (0 ≤ x.toInt ∧ x.toInt < (k : Int)) ∧ r = -1 ∧ ct' = ct) ∨ ((0 ≤ x.toInt ∧ x.toInt < (k : Int)) ∧ ¬ (((0 : Int) ≤ a.toInt ∧ a.toInt ≤ 1000000) ∧ ((1 : Int) ≤ b.toInt ∧ b.toInt ≤ 1000000)) ∧ r = -2 ∧ ct' = ct) ∨ ((0 ≤ x.toInt ∧ x.toInt < (k : Int)) ∧ (((0 : Int) ≤ a.toInt ∧ a.toInt ≤ 1000000) ∧ ((1 : Int) ≤ b.toInt ∧ b.toInt ≤ 1000000)) ∧ ∃ i c d : Nat, x = nI i ∧ i < k ∧ a = nI c ∧ b = nI d ∧ (∃ q : Nat, q ≤ k ∧ (∀ j, j < q → U (o j) * d * (k - j) ≤ V (o j) * c) ∧ (q < k → ¬ U (o q) * d * (k - q) ≤ V (o q) * c) ∧ r = if hasF o i q then 1 else 0) ∧ ∃ x' y', ct' 110 = .inr (7, [.ref (ad 111), .ref (ad 113)]) ∧ isW B ad ct' 111 x' ∧ isW B ad ct' 113 y' ∧ ∀ r, r < 111 ∨ 114 < r → ct' r = ct r))) := by
  refine Ctr.ofG (L := [(0, .ref (ad 0)), (1, .int x), (2, .int a), (3, .int b)]) (by decide +kernel) rfl (Nat.le_of_ble_eq_true rfl) (fun E fx rt hnm => ?_)
  refine g_aload_n fx 0 dX11_isRejected_0 rfl ?_
  refine g_get (r := 0) fx lkX11_74 (by omega) hx rfl dX11_isRejected_1 ?_
  refine g_iload_n fx 1 dX11_isRejected_4 rfl ?_
  refine g_callVip (As := [.int x]) (rest := []) fx slX11_281 (c_X1_has B ad ct n k o hn hc hcr hco hk12 x) (by omega) hc rfl rfl rfl (Nat.le_of_ble_eq_true rfl) ⟨by decide, by decide⟩ ⟨by decide, by decide⟩ dX11_isRejected_5 (fun q1 hq1 => ?_)
  refine g_if_ne fx 13 dX11_isRejected_8 (by decide) (fun c8 => ?_) (fun c8 => ?_)
  · skip
    have hX := if01_n.mp (hq1 ▸ c8)
    obtain ⟨i, hi, ex⟩ := toR hX
    refine g_relocal (L' := [(0, .ref (ad 0)), (1, .int (nI i)), (2, .int a), (3, .int b)]) (by rw [ex]) ?_
    refine g_iload_n fx 2 dX11_isRejected_13 rfl ?_
    refine g_iload_n fx 3 dX11_isRejected_14 rfl ?_
    refine g_callSip (As := [.int a, .int b]) (rest := []) fx slX11_246 (c_X11_isLevel B ad ct n a b) rfl rfl (Nat.le_of_ble_eq_true rfl) ⟨by decide, by decide⟩ ⟨by decide, by decide⟩ dX11_isRejected_15 (fun q2 hq2 => ?_)
    refine g_if_ne fx 24 dX11_isRejected_18 (by decide) (fun c18 => ?_) (fun c18 => ?_)
    · skip
      have hY := if01_n.mp (hq2 ▸ c18)
      obtain ⟨c, hc1, ea⟩ := toN hY.1 (by omega)
      obtain ⟨d, hd1, eb⟩ := toN hY.2 (by omega)
      refine g_relocal (L' := [(0, .ref (ad 0)), (1, .int (nI i)), (2, .int (nI c)), (3, .int (nI d))]) (by rw [ea, eb]) ?_
      refine g_aload_n fx 0 dX11_isRejected_24 rfl ?_
      refine g_get (r := 0) fx lkX11_74 (by omega) hx rfl dX11_isRejected_25 ?_
      refine g_iload_n fx 1 dX11_isRejected_28 rfl ?_
      refine g_callVip (As := [.int (nI i)]) (rest := []) fx slX11_282 (c_X1_placeOf B ad ct n k o hn hc hcr hco hk12 i (by omega) ho) (by omega) hc rfl rfl rfl (Nat.le_of_ble_eq_true rfl) ⟨by decide, by decide⟩ ⟨by decide, by decide⟩ dX11_isRejected_29 (fun q3 hq3 => ?_)
      obtain ⟨pj, epj, hpk, hpe, hpn⟩ := hq3
      refine g_isi (y := nI pj) epj ?_
      refine g_aload_n fx 0 dX11_isRejected_32 rfl ?_
      refine g_get (r := 0) fx lkX11_74 (by omega) hx rfl dX11_isRejected_33 ?_
      refine g_iload_n fx 2 dX11_isRejected_36 rfl ?_
      refine g_iload_n fx 3 dX11_isRejected_37 rfl ?_
      refine g_callVi (As := [.int (nI c), .int (nI d)]) (rest := [.int (nI pj)]) fx slX11_278 (c_X1_countRejected B ad ct n k o hn hc hcr hco hk12 s0 sx sy sl sr U V hN hBn ho c d (by omega) (by omega)) (by omega) hc rfl rfl rfl (Nat.le_of_ble_eq_true rfl) ⟨by decide, by decide⟩ ⟨by decide, by decide⟩ dX11_isRejected_38 (fun q5 ct1 hq5 => ?_)
      obtain ⟨⟨qn, eqn, hqk, hall, hend⟩, hsp⟩ := hq5
      refine g_isi (y := nI qn) eqn ?_
      refine g_icmp_ge fx 48 dX11_isRejected_41 (by decide) (fun c41 => ?_) (fun c41 => ?_)
      · skip
        have hge : qn ≤ pj := (nI_leI (by omega) (by omega)).mp c41
        have hh : ¬ hasF o i qn = true := fun w => by obtain ⟨j, hj, e⟩ := (hasF_iff qn).mp w; exact hpn j (by omega) e
        refine g_iconst (v := nI 0) fx dX11_isRejected_48 (by decide +kernel) ?_
        refine g_iret fx rt dX11_isRejected_49 ?_
        refine gPi.mk (Or.inr (Or.inr ⟨hX, hY, i, c, d, ex, hi, ea, eb, ⟨qn, hqk, hall, hend, ?_⟩, hsp⟩))
        first | (rw [if_pos hh]; rfl) | (rw [if_neg hh]; rfl)
      · skip
        have hlt : pj < qn := (nI_ltI (by omega) (by omega)).mp (Int32.not_le.mp c41)
        have hh : hasF o i qn = true := (hasF_iff qn).mpr ⟨pj, hlt, hpe (by omega)⟩
        refine g_iconst (v := nI 1) fx dX11_isRejected_44 (by decide +kernel) ?_
        refine g_goto fx 49 dX11_isRejected_45 (by decide) ?_
        refine g_iret fx rt dX11_isRejected_49 ?_
        refine gPi.mk (Or.inr (Or.inr ⟨hX, hY, i, c, d, ex, hi, ea, eb, ⟨qn, hqk, hall, hend, ?_⟩, hsp⟩))
        first | (rw [if_pos hh]; rfl) | (rw [if_neg hh]; rfl)
    · skip
      have hN1 := if01_z.mp (hq2 ▸ c18)
      refine g_bipush (v := (-2)) fx dX11_isRejected_21 (by decide +kernel) ?_
      refine g_iret fx rt dX11_isRejected_23 ?_
      exact gPi.mk (Or.inr (Or.inl ⟨hX, hN1, rfl, rfl⟩))
  · skip
    have hN1 := if01_z.mp (hq1 ▸ c8)
    refine g_iconst (v := (-1)) fx dX11_isRejected_11 (by decide +kernel) ?_
    refine g_iret fx rt dX11_isRejected_12 ?_
    exact gPi.mk (Or.inl ⟨hN1, rfl, rfl⟩)
set_option maxHeartbeats 4000000 in
set_option maxRecDepth 100000 in
theorem c_X11_result (B : gB) (ad : Nat → Nat) (ct : Nat → va_E) (n : Nat) (hn : 178 ≤ n) (hx : ct 0 = .inr (11, [.ref (ad 1), .ref (ad 3), .ref (ad 5), .ref (ad 7), .ref (ad 9), .ref (ad 11), .ref (ad 79), .ref (ad 81), .ref (ad 88), .ref (ad 110), .ref (ad 115)])) (th te sta ask : Int32) (hr : ct 88 = .inr (6, [.ref (ad 89), .int th, .int te, .int sta, .int ask])) (hrr : ct 89 = .inl (B.2.1 4, 4, .inr (.inr (.inr (.inr (fun i => some (ad (90 + 5 * i)))))))) (hth : th = 0 ∨ th = 1) (x : Int32) : Ctr B yX11_result cX11_result 2 (some .int) 1 20 0 0 ad ct n [.ref (ad 0), .int x] (gPip ad ct n (fun r => r = if th = 0 then -1000000003 else if x.toInt = 0 then te else if x.toInt = 1 then sta else if x.toInt = 2 then ask else -1000000002)) := by
  refine Ctr.ofG (L := [(0, .ref (ad 0)), (1, .int x)]) (by decide +kernel) rfl (Nat.le_of_ble_eq_true rfl) (fun E fx rt hnm => ?_)
  refine g_aload_n fx 0 dX11_result_0 rfl ?_
  refine g_get (r := 0) fx lkX11_58 (by omega) hx rfl dX11_result_1 ?_
  refine g_callVip (As := []) (rest := []) fx slX11_253 (c_X6_areThere B ad ct n th te sta ask hn hr hrr (by rcases hth with q | q <;> (rw [q]; rfl))) (by omega) hr rfl rfl rfl (Nat.le_of_ble_eq_true rfl) ⟨by decide, by decide⟩ ⟨by decide, by decide⟩ dX11_result_4 (fun q1 hq1 => ?_)
  obtain rfl := hq1
  refine g_if_ne fx 13 dX11_result_7 (by decide) (fun c7 => ?_) (fun c7 => ?_)
  · skip
    have hz : ¬ q1 = 0 := c7
    refine g_iload_n fx 1 dX11_result_13 rfl ?_
    by_cases hsw14 : x.toInt < 0 ∨ 2 < x.toInt
    · refine g_tableOut fx 64 dX11_result_14 hsw14 (by decide) ?_
      refine g_ldcw fx kcX11_265 dX11_result_64 ?_
      refine g_iret fx rt dX11_result_67 ?_
      refine gPip.mk ?_
      rw [if_neg hz, if_neg (by omega), if_neg (by omega), if_neg (by omega)]
    · have hsv : x.toInt = 0 ∨ x.toInt = 1 ∨ x.toInt = 2 := by omega
      rcases hsv with hsv | hsv | hsv
      · refine g_tableIn fx 40 dX11_result_14 (by rw [hsv]; decide) (by rw [hsv]; decide) (off := 26) (by rw [hsv]; rfl) (by decide) ?_
        refine g_aload_n fx 0 dX11_result_40 rfl ?_
        refine g_get (r := 0) fx lkX11_58 (by omega) hx rfl dX11_result_41 ?_
        refine g_callVip (As := []) (rest := []) fx slX11_256 (c_X6_test B ad ct n q1 te sta ask hn hr hrr) (by omega) hr rfl rfl rfl (Nat.le_of_ble_eq_true rfl) ⟨by decide, by decide⟩ ⟨by decide, by decide⟩ dX11_result_44 (fun q2 hq2 => ?_)
        refine g_iret fx rt dX11_result_47 ?_
        refine gPip.mk ?_
        rw [if_neg hz, if_pos hsv]; exact hq2
      · refine g_tableIn fx 48 dX11_result_14 (by rw [hsv]; decide) (by rw [hsv]; decide) (off := 34) (by rw [hsv]; rfl) (by decide) ?_
        refine g_aload_n fx 0 dX11_result_48 rfl ?_
        refine g_get (r := 0) fx lkX11_58 (by omega) hx rfl dX11_result_49 ?_
        refine g_callVip (As := []) (rest := []) fx slX11_259 (c_X6_statistic B ad ct n q1 te sta ask hn hr hrr) (by omega) hr rfl rfl rfl (Nat.le_of_ble_eq_true rfl) ⟨by decide, by decide⟩ ⟨by decide, by decide⟩ dX11_result_52 (fun q2 hq2 => ?_)
        refine g_iret fx rt dX11_result_55 ?_
        refine gPip.mk ?_
        rw [if_neg hz, if_neg (by omega), if_pos hsv]; exact hq2
      · refine g_tableIn fx 56 dX11_result_14 (by rw [hsv]; decide) (by rw [hsv]; decide) (off := 42) (by rw [hsv]; rfl) (by decide) ?_
        refine g_aload_n fx 0 dX11_result_56 rfl ?_
        refine g_get (r := 0) fx lkX11_58 (by omega) hx rfl dX11_result_57 ?_
        refine g_callVip (As := []) (rest := []) fx slX11_262 (c_X6_asked B ad ct n q1 te sta ask hn hr hrr) (by omega) hr rfl rfl rfl (Nat.le_of_ble_eq_true rfl) ⟨by decide, by decide⟩ ⟨by decide, by decide⟩ dX11_result_60 (fun q2 hq2 => ?_)
        refine g_iret fx rt dX11_result_63 ?_
        refine gPip.mk ?_
        rw [if_neg hz, if_neg (by omega), if_neg (by omega), if_pos hsv]; exact hq2
  · skip
    have hz : q1 = 0 := c7
    refine g_ldc fx kcX11_172 dX11_result_10 ?_
    refine g_iret fx rt dX11_result_12 ?_
    refine gPip.mk ?_
    rw [if_pos hz]
set_option maxHeartbeats 4000000 in
set_option maxRecDepth 100000 in
theorem c_X11_check (B : gB) (ad : Nat → Nat) (ct : Nat → va_E) (n : Nat) (hn : 178 ≤ n) (hx : ct 0 = .inr (11, [.ref (ad 1), .ref (ad 3), .ref (ad 5), .ref (ad 7), .ref (ad 9), .ref (ad 11), .ref (ad 79), .ref (ad 81), .ref (ad 88), .ref (ad 110), .ref (ad 115)])) (th te sta ask : Int32) (hr : ct 88 = .inr (6, [.ref (ad 89), .int th, .int te, .int sta, .int ask])) (hrr : ct 89 = .inl (B.2.1 4, 4, .inr (.inr (.inr (.inr (fun i => some (ad (90 + 5 * i)))))))) (hth : th = 0 ∨ th = 1) (u l : Nat → Nat) (hF : ∀ t, t < 4 → isFr B ad ct (90 + 5 * t) (u t) (l t)) (hFb : ∀ t, t < 4 → u t < 2 ^ 180 ∧ l t < 2 ^ 180) (kK : Nat) (fK : Nat → Int32) (hK : ct 9 = .inr (5, [.ref (ad 10), .int (nI kK)])) (hKr : ct 10 = .inl (B.2.1 0, 40, .inl fK)) (hKk : kK ≤ 40) (x : Int32) : Ctr B yX11_check cX11_check 7 (some .int) 5 105 0 0 ad ct n [.ref (ad 0), .int x] (gPip ad ct n (fun r => (th = 0 ∧ r = -30) ∨ (¬ th = 0 ∧ ¬ ((0 : Int) ≤ x.toInt ∧ x.toInt ≤ 3) ∧ r = -10) ∨ (¬ th = 0 ∧ ∃ t : Nat, t < 4 ∧ x = nI t ∧ ((∃ j, j < ((nbits (l t) + 15) / 16 + (nbits (u t) + 15) / 16) ∧ (∀ i, i < j → i < kK ∧ fK i = nI (wdS (u t) (l t) i)) ∧ (kK ≤ j ∨ ¬ fK j = nI (wdS (u t) (l t) j)) ∧ r = (-100) - nI j) ∨ ((∀ i, i < ((nbits (l t) + 15) / 16 + (nbits (u t) + 15) / 16) → i < kK ∧ fK i = nI (wdS (u t) (l t) i)) ∧ r = if ((nbits (l t) + 15) / 16 + (nbits (u t) + 15) / 16) < kK then (-100) - nI ((nbits (l t) + 15) / 16 + (nbits (u t) + 15) / 16) else 1))))) := by
  refine Ctr.ofG (L := [(0, .ref (ad 0)), (1, .int x)]) (by decide +kernel) rfl (Nat.le_of_ble_eq_true rfl) (fun E fx rt hnm => ?_)
  refine g_aload_n fx 0 dX11_check_0 rfl ?_
  refine g_iload_n fx 1 dX11_check_1 rfl ?_
  refine g_callVip (As := [.int x]) (rest := []) fx slX11_227 (c_X11_refusal B ad ct n hn hx th te sta ask hr hrr hth x) (by omega) hx rfl rfl rfl (Nat.le_of_ble_eq_true rfl) ⟨by decide, by decide⟩ ⟨by decide, by decide⟩ dX11_check_2 (fun q0 hq0 => ?_)
  refine g_istore_n (L' := [(2, .int q0), (0, .ref (ad 0)), (1, .int x)]) fx dX11_check_5 (by decide) rfl ?_
  refine g_iload_n fx 0 dX11_check_6 rfl ?_
  refine g_if_eq fx 15 dX11_check_7 (by decide) (fun c7 => ?_) (fun c7 => ?_)
  · skip
    have hth1 : ¬ th = 0 := fun q => by rw [hq0, if_pos q] at c7; exact absurd c7 (by decide)
    have hT : (0 : Int) ≤ x.toInt ∧ x.toInt ≤ 3 := Classical.byContradiction (fun w => by rw [hq0, if_neg hth1, if_neg w] at c7; exact absurd c7 (by decide))
    obtain ⟨t, ht, ex⟩ := toN hT (by omega)
    have htl : t < 4 := by omega
    have hft := hF t htl
    have hf0 := hft.1
    have hbt := hFb t htl
    refine g_relocal (L' := [(2, .int q0), (0, .ref (ad 0)), (1, .int (nI t))]) (by rw [ex]) ?_
    refine g_aload_n fx 1 dX11_check_15 rfl ?_
    refine g_get (r := 0) fx lkX11_58 (by omega) hx rfl dX11_check_16 ?_
    refine g_iload_n fx 2 dX11_check_19 rfl ?_
    refine g_callVrp (As := [.int (nI t)]) (rest := []) fx slX11_142 (c_X6_chance B ad ct n th te sta ask hn hr hrr t htl) (by omega) hr rfl rfl rfl (Nat.le_of_ble_eq_true rfl) ⟨by decide, by decide⟩ ⟨by decide, by decide⟩ dX11_check_20 (fun qc hqc => ?_)
    subst hqc
    refine g_astore_n (L' := [(3, .ref (ad (90 + 5 * t))), (2, .int q0), (0, .ref (ad 0)), (1, .int (nI t))]) fx dX11_check_23 (by decide) rfl ?_
    refine g_aload_n fx 0 dX11_check_24 rfl ?_
    have hn1 := nb180 hbt.1
    have hn2 := nb180 hbt.2
    refine g_callVip (As := []) (rest := []) fx slX11_286 (c_X2_countWords B ad ct n (90 + 5 * t) (u t) (l t) (by omega) hft.1 hft.2.1 hft.2.2) (by omega) hf0 rfl rfl rfl (Nat.le_of_ble_eq_true rfl) ⟨by decide, by decide⟩ ⟨by decide, by decide⟩ dX11_check_25 (fun q2 hq2 => ?_)
    obtain rfl := hq2
    refine g_istore (L' := [(4, .int (nI ((nbits (l t) + 15) / 16 + (nbits (u t) + 15) / 16))), (3, .ref (ad (90 + 5 * t))), (2, .int q0), (0, .ref (ad 0)), (1, .int (nI t))]) fx dX11_check_28 (by decide) rfl ?_
    refine g_iload fx 0 dX11_check_30 rfl ?_
    refine g_aload_n fx 3 dX11_check_32 rfl ?_
    refine g_get (r := 0) fx lkX11_31 (by omega) hx rfl dX11_check_33 ?_
    refine g_callVip (As := []) (rest := [.int (nI ((nbits (l t) + 15) / 16 + (nbits (u t) + 15) / 16))]) fx slX11_169 (c_X5_size B ad ct n 9 40 kK fK (by omega) hKk (by decide) hK hKr) (by omega) hK rfl rfl rfl (Nat.le_of_ble_eq_true rfl) ⟨by decide, by decide⟩ ⟨by decide, by decide⟩ dX11_check_36 (fun q3 hq3 => ?_)
    obtain rfl := hq3
    refine g_callSip (As := [.int (nI ((nbits (l t) + 15) / 16 + (nbits (u t) + 15) / 16)), .int (nI kK)]) (rest := []) fx slX11_289 (c_J9_min_7cf53 B ad ct n (nI ((nbits (l t) + 15) / 16 + (nbits (u t) + 15) / 16)) (nI kK)) rfl rfl (Nat.le_of_ble_eq_true rfl) ⟨by decide, by decide⟩ ⟨by decide, by decide⟩ dX11_check_39 (fun q4 hq4 => ?_)
    rw [min_nI (by omega) (by omega)] at hq4
    refine g_isi (y := nI (min ((nbits (l t) + 15) / 16 + (nbits (u t) + 15) / 16) kK)) hq4 ?_
    refine g_istore (L' := [(5, .int (nI (min ((nbits (l t) + 15) / 16 + (nbits (u t) + 15) / 16) kK))), (4, .int (nI ((nbits (l t) + 15) / 16 + (nbits (u t) + 15) / 16))), (3, .ref (ad (90 + 5 * t))), (2, .int q0), (0, .ref (ad 0)), (1, .int (nI t))]) fx dX11_check_42 (by decide) rfl ?_
    refine g_iconst (v := nI 0) fx dX11_check_44 (by decide +kernel) ?_
    refine g_istore (L' := [(6, .int (nI 0)), (5, .int (nI (min ((nbits (l t) + 15) / 16 + (nbits (u t) + 15) / 16) kK))), (4, .int (nI ((nbits (l t) + 15) / 16 + (nbits (u t) + 15) / 16))), (3, .ref (ad (90 + 5 * t))), (2, .int q0), (0, .ref (ad 0)), (1, .int (nI t))]) fx dX11_check_45 (by decide) rfl ?_
    have LP47 : ∀ (M : Nat) (i : Nat), (i ≤ min ((nbits (l t) + 15) / 16 + (nbits (u t) + 15) / 16) kK) → (∀ j, j < i → j < kK ∧ fK j = nI (wdS (u t) (l t) j)) →  (kK - i) < M → G B 7 E ad ct n 0 0 [(0, .ref (ad 0)), (1, .int (nI t)), (3, .ref (ad (90 + 5 * t))), (4, .int (nI ((nbits (l t) + 15) / 16 + (nbits (u t) + 15) / 16))), (5, .int (nI (min ((nbits (l t) + 15) / 16 + (nbits (u t) + 15) / 16) kK))), (6, .int (nI i))] 47 [] := by
      intro M
      induction M with
      | zero => intro i _ _ hM; exact absurd hM (Nat.not_lt_zero _)
      | succ M ih =>
        intro i hi hall hM
        have ih47 := ih
        refine g_iload fx 5 dX11_check_47 rfl ?_
        refine g_iload fx 4 dX11_check_49 rfl ?_
        refine g_icmp_ge fx 84 dX11_check_51 (by decide) (fun c51 => ?_) (fun c51 => ?_)
        · skip
          have hie : i = min ((nbits (l t) + 15) / 16 + (nbits (u t) + 15) / 16) kK := by have := (nI_leI (by omega) (by omega)).mp c51; omega
          refine g_iload fx 3 dX11_check_84 rfl ?_
          refine g_aload_n fx 0 dX11_check_86 rfl ?_
          refine g_get (r := 0) fx lkX11_31 (by omega) hx rfl dX11_check_87 ?_
          refine g_callVip (As := []) (rest := [.int (nI ((nbits (l t) + 15) / 16 + (nbits (u t) + 15) / 16))]) fx slX11_169 (c_X5_size B ad ct n 9 40 kK fK (by omega) hKk (by decide) hK hKr) (by omega) hK rfl rfl rfl (Nat.le_of_ble_eq_true rfl) ⟨by decide, by decide⟩ ⟨by decide, by decide⟩ dX11_check_90 (fun q7 hq7 => ?_)
          obtain rfl := hq7
          refine g_icmp_ne fx 100 dX11_check_93 (by decide) (fun c93 => ?_) (fun c93 => ?_)
          · skip
            have hd : ¬ ((nbits (l t) + 15) / 16 + (nbits (u t) + 15) / 16) = kK := fun q => c93 (by rw [q])
            refine g_bipush (v := (-100)) fx dX11_check_100 (by decide +kernel) ?_
            refine g_iload fx 4 dX11_check_102 rfl ?_
            refine g_isub fx dX11_check_104 ?_
            refine g_iret fx rt dX11_check_105 ?_
            refine gPip.mk ?_
            by_cases q : ((nbits (l t) + 15) / 16 + (nbits (u t) + 15) / 16) < kK
            · refine Or.inr (Or.inr ⟨hth1, t, htl, ex, Or.inr ⟨fun j hj => hall j (by omega), ?_⟩⟩)
              rw [if_pos q, Nat.min_eq_left (by omega)]
            · refine Or.inr (Or.inr ⟨hth1, t, htl, ex, Or.inl ⟨kK, by omega, fun j hj => hall j (by omega), Or.inl (Nat.le_refl _), ?_⟩⟩)
              rw [Nat.min_eq_right (by omega)]
          · skip
            have hd : ((nbits (l t) + 15) / 16 + (nbits (u t) + 15) / 16) = kK := (nI_eq (by omega) (by omega)).mp c93
            refine g_iconst (v := nI 1) fx dX11_check_96 (by decide +kernel) ?_
            refine g_goto fx 105 dX11_check_97 (by decide) ?_
            refine g_iret fx rt dX11_check_105 ?_
            refine gPip.mk ?_
            refine Or.inr (Or.inr ⟨hth1, t, htl, ex, Or.inr ⟨fun j hj => hall j (by omega), ?_⟩⟩)
            rw [if_neg (by omega)]; rfl
        · skip
          have hlt : i < min ((nbits (l t) + 15) / 16 + (nbits (u t) + 15) / 16) kK := (nI_ltI (by omega) (by omega)).mp (Int32.not_le.mp c51)
          refine g_aload_n fx 0 dX11_check_54 rfl ?_
          refine g_get (r := 0) fx lkX11_31 (by omega) hx rfl dX11_check_55 ?_
          refine g_iload fx 5 dX11_check_58 rfl ?_
          refine g_callVip (As := [.int (nI i)]) (rest := []) fx slX11_189 (c_X5_get B ad ct n 9 40 kK fK (by omega) hKk (by decide) hK hKr (nI i)) (by omega) hK rfl rfl rfl (Nat.le_of_ble_eq_true rfl) ⟨by decide, by decide⟩ ⟨by decide, by decide⟩ dX11_check_60 (fun q5 hq5 => ?_)
          rw [get_nat (by omega) (by omega)] at hq5
          refine g_isi (y := fK i) hq5 ?_
          refine g_aload_n fx 2 dX11_check_63 rfl ?_
          refine g_iload fx 5 dX11_check_64 rfl ?_
          refine g_callVip (As := [.int (nI i)]) (rest := [.int (fK i)]) fx slX11_292 (c_X2_wordInTurn B ad ct n (90 + 5 * t) (u t) (l t) (by omega) hft.1 hft.2.1 hft.2.2 i (by omega) (by omega)) (by omega) hf0 rfl rfl rfl (Nat.le_of_ble_eq_true rfl) ⟨by decide, by decide⟩ ⟨by decide, by decide⟩ dX11_check_66 (fun q6 hq6 => ?_)
          obtain rfl := hq6
          refine g_icmp_eq fx 78 dX11_check_69 (by decide) (fun c69 => ?_) (fun c69 => ?_)
          · skip
            have heq := c69
            refine g_iinc (L' := [(6, .int (nI (i + 1))), (0, .ref (ad 0)), (1, .int (nI t)), (3, .ref (ad (90 + 5 * t))), (4, .int (nI ((nbits (l t) + 15) / 16 + (nbits (u t) + 15) / 16))), (5, .int (nI (min ((nbits (l t) + 15) / 16 + (nbits (u t) + 15) / 16) kK)))]) fx (nI (i + 1)) 5 dX11_check_78 rfl (gInc _) (by decide) rfl ?_
            refine g_goto fx 47 dX11_check_81 (by decide) ?_
            refine g_locals (L' := [(0, .ref (ad 0)), (1, .int (nI t)), (3, .ref (ad (90 + 5 * t))), (4, .int (nI ((nbits (l t) + 15) / 16 + (nbits (u t) + 15) / 16))), (5, .int (nI (min ((nbits (l t) + 15) / 16 + (nbits (u t) + 15) / 16) kK))), (6, .int (nI (i + 1)))]) [1, 2, 3, 4, 5, 0] rfl ?_
            exact ih47 (i + 1) (by omega) (fun j hj => by by_cases q : j = i; (rw [q]; exact ⟨by omega, heq⟩); (exact hall j (by omega))) (by omega)
          · skip
            have hne := c69
            refine g_bipush (v := (-100)) fx dX11_check_72 (by decide +kernel) ?_
            refine g_iload fx 5 dX11_check_74 rfl ?_
            refine g_isub fx dX11_check_76 ?_
            refine g_iret fx rt dX11_check_77 ?_
            refine gPip.mk ?_
            exact Or.inr (Or.inr ⟨hth1, t, htl, ex, Or.inl ⟨i, by omega, hall, Or.inr hne, rfl⟩⟩)
    refine g_locals (L' := [(0, .ref (ad 0)), (1, .int (nI t)), (3, .ref (ad (90 + 5 * t))), (4, .int (nI ((nbits (l t) + 15) / 16 + (nbits (u t) + 15) / 16))), (5, .int (nI (min ((nbits (l t) + 15) / 16 + (nbits (u t) + 15) / 16) kK))), (6, .int (nI 0))]) [5, 6, 3, 2, 1, 0] rfl ?_
    exact LP47 (kK + 1) 0 (by omega) (fun j hj => absurd hj (by omega)) (by omega)
  · skip
    have hbad : (th = 0 ∧ q0 = -3) ∨ (¬ th = 0 ∧ ¬ ((0 : Int) ≤ x.toInt ∧ x.toInt ≤ 3) ∧ q0 = -1) := by
      by_cases q : th = 0
      · exact Or.inl ⟨q, by rw [hq0, if_pos q]⟩
      · by_cases w : (0 : Int) ≤ x.toInt ∧ x.toInt ≤ 3
        · exact absurd (by rw [hq0, if_neg q, if_pos w]) c7
        · exact Or.inr ⟨q, w, by rw [hq0, if_neg q, if_neg w]⟩
    refine g_bipush (v := nI 10) fx dX11_check_10 (by decide +kernel) ?_
    refine g_iload_n fx 0 dX11_check_12 rfl ?_
    refine g_imul fx dX11_check_13 ?_
    refine g_iret fx rt dX11_check_14 ?_
    refine gPip.mk ?_
    rcases hbad with ⟨h1, h2⟩ | ⟨h1, h2, h3⟩
    · exact Or.inl ⟨h1, by rw [h2]; rfl⟩
    · exact Or.inr (Or.inl ⟨h1, h2, by rw [h3]; rfl⟩)
