theorem isW.move {B : gB} {ad ad' : Nat → Nat} {ct ct' : Nat → va_E} {w v : Nat} (h : isW B ad ct w v) (hA : ad' (w + 1) = ad (w + 1)) (h1 : ct' w = ct w) (h2 : ct' (w + 1) = ct (w + 1)) : isW B ad' ct' w v := by
  obtain ⟨sz, g, hr, h3⟩ := h
  refine ⟨sz, g, ?_, h3⟩
  unfold rW at hr ⊢
  rw [hA, h1, h2]
  exact hr
theorem isFr.move {B : gB} {ad ad' : Nat → Nat} {ct ct' : Nat → va_E} {p u l : Nat} (h : isFr B ad ct p u l) (hA : ∀ r, p ≤ r → r ≤ p + 4 → ad' r = ad r) (hC : ∀ r, p ≤ r → r ≤ p + 4 → ct' r = ct r) : isFr B ad' ct' p u l := by
  refine ⟨?_, h.2.1.move (hA _ (by omega) (by omega)) (hC _ (by omega) (by omega)) (hC _ (by omega) (by omega)), h.2.2.move (hA _ (by omega) (by omega)) (hC _ (by omega) (by omega)) (hC _ (by omega) (by omega))⟩
  rw [hC p (by omega) (by omega), hA (p + 1) (by omega) (by omega), hA (p + 3) (by omega) (by omega)]
  exact h.1
theorem sumI_split {V : Nat → Int} {a : Nat} : ∀ b, sumI V (a + b) = sumI V a + sumI (fun j => V (a + j)) b
  | 0 => by show sumI V a = sumI V a + 0; omega
  | b + 1 => by
    show sumI V (a + b) + V (a + b) = sumI V a + (sumI (fun j => V (a + j)) b + V (a + b))
    rw [sumI_split b]; omega
def lbE1 (w : Nat) (fs : Nat → Int32) (kA kB N : Nat) : Nat := tkN1 (lbA w fs kA kB) kA (tkN1 (lbA w fs kA kB) 0 N kA) kB
def lbE2 (w : Nat) (fs : Nat → Int32) (kA kB N : Nat) : Nat := tkN2 (lbA w fs kA kB) kA (tkN2 (lbA w fs kA kB) 0 N kA) kB
def lbMs (x : Int32) (fs : Nat → Int32) (kA kB N1 N2 : Nat) : Nat := if ((0 : Int) ≤ x.toInt ∧ x.toInt ≤ 1) ∧ 0 < kA ∧ 0 < kB then 4 * (lbE1 x.toInt.toNat fs kA kB N1 - N1) + 4 * (lbE2 x.toInt.toNat fs kA kB N2 - N2) else 0
theorem lab_off {w k : Nat} {v : Int} : ((k * lbc w : Nat) : Int) + (v - lbL w * (k : Int)) = ((k * 131072 : Nat) : Int) + v := by
  unfold lbc lbL
  by_cases q : w = 0
  · rw [if_pos q, if_pos q]; omega
  · rw [if_neg q, if_neg q]; omega
theorem Sm.ch {n k : Nat} (hn : n ≤ 60) (hk : k ≤ n) : Sm (ch n k) := (Sm.fac hn).dvd ⟨_, (ch_fac n k hk).symm⟩
theorem ch_30 {n k : Nat} (h : n ≤ 30) : ch n k ≤ 1073741824 := Nat.le_trans ch_two (Nat.pow_le_pow_right (show 0 < 2 by decide) h)
theorem lbL_b {w k : Nat} (hk : k ≤ 15) : -15000 ≤ lbL w * (k : Int) ∧ lbL w * (k : Int) ≤ 0 := by
  unfold lbL
  by_cases q : w = 0
  · rw [if_pos q]; omega
  · rw [if_neg q]; omega
theorem mid_b {k m : Nat} {s : Int} (hk : k ≤ 15) (hs : s.natAbs ≤ m * 1000) : ((k : Int) * s).natAbs ≤ m * 15000 := by
  rw [Int.natAbs_mul, Int.natAbs_natCast]
  refine Nat.le_trans (Nat.mul_le_mul hk hs) ?_
  omega
theorem sumI_cg {V W : Nat → Int} : ∀ k, (∀ i, i < k → V i = W i) → sumI V k = sumI W k
  | 0, _ => rfl
  | k + 1, h => by
    show sumI V k + V k = sumI W k + W k
    rw [sumI_cg k (fun i hi => h i (by omega)), h k (by omega)]
set_option maxHeartbeats 4000000 in
set_option maxRecDepth 100000 in
theorem c_X11_labels (B : gB) (ad : Nat → Nat) (ct : Nat → va_E) (n : Nat) (kA kB : Nat) (fA fB fs : Nat → Int32) (hx : ct 0 = .inr (11, [.ref (ad 1), .ref (ad 3), .ref (ad 5), .ref (ad 7), .ref (ad 9), .ref (ad 11), .ref (ad 79), .ref (ad 81), .ref (ad 88), .ref (ad 110), .ref (ad 115)])) (hA : ct 3 = .inr (5, [.ref (ad 4), .int (nI kA)])) (hAr : ct 4 = .inl (B.2.1 0, 15, .inl fA)) (hB : ct 5 = .inr (5, [.ref (ad 6), .int (nI kB)])) (hBr : ct 6 = .inl (B.2.1 0, 15, .inl fB)) (hn : 178 ≤ n) (hAk : kA ≤ 15) (hBk : kB ≤ 15) (hfA : ∀ i, i < kA → fA i = fs i) (hfB : ∀ i, i < kB → fB i = fs (15 + i)) (hsb : ∀ j, j < 30 → (fs j).toInt.natAbs ≤ 1000) (nx mk off : Int32) (ah al : Int64) (hso : ct 81 = .inr (8, [.ref (ad 82), .ref (ad 85), .int nx, .int mk, .int off, .long ah, .long al])) (sz1 N1 sz2 N2 : Nat) (s1 t1 s2 t2 : Nat → Nat) (h82 : ct 82 = .inr (4, [.ref (ad 83), .ref (ad 84), .int (nI sz1)])) (h83 : ct 83 = .inl (B.2.1 0, N1, .inl (nF s1))) (h84 : ct 84 = .inl (B.2.1 0, N1, .inl (nF t1))) (h85 : ct 85 = .inr (4, [.ref (ad 86), .ref (ad 87), .int (nI sz2)])) (h86 : ct 86 = .inl (B.2.1 0, N2, .inl (nF s2))) (h87 : ct 87 = .inl (B.2.1 0, N2, .inl (nF t2))) (hL1 : okL N1) (hL2 : okL N2) (th te sta ask : Int32) (hr : ct 88 = .inr (6, [.ref (ad 89), .int th, .int te, .int sta, .int ask])) (hrr : ct 89 = .inl (B.2.1 4, 4, .inr (.inr (.inr (.inr (fun i => some (ad (90 + 5 * i)))))))) (hFr : ∀ t, t < 4 → ∃ u l, isFr B ad ct (90 + 5 * t) u l) (x : Int32) : Ctr B yX11_labels cX11_labels 6 (some .int) 6 150 60 (lbMs x fs kA kB N1 N2) ad ct n [.ref (ad 0), .int x] (gPxi n (fun q ad' ct' => (¬ ((0 : Int) ≤ x.toInt ∧ x.toInt ≤ 1) ∧ q = -1000000001 ∧ ad' = ad ∧ ct' = ct) ∨ (((0 : Int) ≤ x.toInt ∧ x.toInt ≤ 1) ∧ (kA = 0 ∨ kB = 0) ∧ q = -1000000003 ∧ ad' = ad ∧ ct' = ct) ∨ (((0 : Int) ≤ x.toInt ∧ x.toInt ≤ 1) ∧ 0 < kA ∧ 0 < kB ∧ ∃ w : Nat, w < 2 ∧ x = nI w ∧ q.toInt = sumI (lbV w fs kA kB) kA ∧ (∀ r, r < 83 ∨ r = 85 ∨ 87 < r → ad' r = ad r) ∧ ct' 81 = .inr (8, [.ref (ad' 82), .ref (ad' 85), .int (nI (1 - (kA + kB) % 2)), .int (nI 131072), .int (nI (kA * 131072)), .long (lN (sumF (fun q => ch (kA + kB) q) kA)), .long (lN (sumF (wN (lbN w fs kA kB) (kA + kB) kA) 30001))]) ∧ SS B ad' ct' (lbA w fs kA kB) (kA + kB) (lbE1 w fs kA kB N1) (lbE2 w fs kA kB N2) ∧ ct' 88 = .inr (6, [.ref (ad' 89), .int 1, .int (nI (1 + w)), .int q, .int (nI (kA + kB))]) ∧ (∀ t, t < 4 → isFr B ad' ct' (90 + 5 * t) ((fcS ((kA + kB : Nat) : Int) ((kA : Int) * sumI (lbV w fs kA kB) (kA + kB)) (sumI (lbV w fs kA kB) kA) (lbL w * (kA : Int)) (wN (lbN w fs kA kB) (kA + kB) kA) 30001 t) / Nat.gcd (fcS ((kA + kB : Nat) : Int) ((kA : Int) * sumI (lbV w fs kA kB) (kA + kB)) (sumI (lbV w fs kA kB) kA) (lbL w * (kA : Int)) (wN (lbN w fs kA kB) (kA + kB) kA) 30001 t) (sumF (wN (lbN w fs kA kB) (kA + kB) kA) 30001)) (sumF (wN (lbN w fs kA kB) (kA + kB) kA) 30001 / Nat.gcd (fcS ((kA + kB : Nat) : Int) ((kA : Int) * sumI (lbV w fs kA kB) (kA + kB)) (sumI (lbV w fs kA kB) kA) (lbL w * (kA : Int)) (wN (lbN w fs kA kB) (kA + kB) kA) 30001 t) (sumF (wN (lbN w fs kA kB) (kA + kB) kA) 30001))) ∧ ∀ r, r < 81 ∨ r = 89 ∨ 109 < r → ct' r = ct r))) := by
  refine Ctr.ofG (L := [(0, .ref (ad 0)), (1, .int x)]) (by decide +kernel) rfl (Nat.le_of_ble_eq_true rfl) (fun E fx rt hnm => ?_)
  have J12 : ∀ (w : Nat), (w < 2) → (x = nI w) → G B 6 E ad ct n 0 0 [(0, .ref (ad 0)), (1, .int (nI w))] 12 [] := by
    intro w hw hxw
    refine g_aload_n fx 0 dX11_labels_12 rfl ?_
    have hin : (0 : Int) ≤ x.toInt ∧ x.toInt ≤ 1 := by rw [hxw, nI_toInt (by omega)]; omega
    have hxn : x.toInt.toNat = w := by rw [hxw, nI_toInt (by omega)]; exact Int.toNat_natCast w
    refine g_get (r := 0) fx lkX11_21 (by omega) hx rfl dX11_labels_13 ?_
    refine g_callVip (As := []) (rest := []) fx slX11_169 (c_X5_size B ad ct n 3 15 kA fA (by omega) (by omega) (by omega) hA hAr) (by omega) hA rfl rfl rfl (Nat.le_of_ble_eq_true rfl) ⟨by dsimp only; omega, by dsimp only; omega⟩ ⟨by dsimp only; omega, by dsimp only; omega⟩ dX11_labels_16 (fun q1 hq1 => ?_)
    obtain rfl := hq1
    refine g_istore_n (L' := [(2, .int (nI kA)), (0, .ref (ad 0)), (1, .int (nI w))]) fx dX11_labels_19 (by decide) rfl ?_
    refine g_iload_n fx 0 dX11_labels_20 rfl ?_
    refine g_aload_n fx 1 dX11_labels_21 rfl ?_
    refine g_get (r := 0) fx lkX11_25 (by omega) hx rfl dX11_labels_22 ?_
    refine g_callVip (As := []) (rest := [.int (nI kA)]) fx slX11_169 (c_X5_size B ad ct n 5 15 kB fB (by omega) (by omega) (by omega) hB hBr) (by omega) hB rfl rfl rfl (Nat.le_of_ble_eq_true rfl) ⟨by dsimp only; omega, by dsimp only; omega⟩ ⟨by dsimp only; omega, by dsimp only; omega⟩ dX11_labels_25 (fun q2 hq2 => ?_)
    obtain rfl := hq2
    refine g_iaddN fx dX11_labels_28 ?_
    refine g_istore_n (L' := [(3, .int (nI (kA + kB))), (2, .int (nI kA)), (0, .ref (ad 0)), (1, .int (nI w))]) fx dX11_labels_29 (by decide) rfl ?_
    refine g_iload_n fx 1 dX11_labels_30 rfl ?_
    refine g_if_eq fx 39 dX11_labels_31 (by decide) (fun c31 => ?_) (fun c31 => ?_)
    · skip
      have hz : kA = 0 ∨ kB = 0 := Or.inl ((nI_eq (b := 0) (by omega) (by omega)).mp c31)
      refine g_ldc fx kcX11_172 dX11_labels_39 ?_
      refine g_more (k1 := 60) (s1 := (lbMs x fs kA kB N1 N2)) (by omega) (by omega) ?_
      refine g_iret fx rt dX11_labels_41 ?_
      exact gPxi.mk (Or.inr (Or.inl ⟨hin, hz, rfl, rfl, rfl⟩))
    · skip
      have hA0 : 0 < kA := Nat.pos_of_ne_zero (fun q => c31 (by rw [q]; decide))
      refine g_iload_n fx 1 dX11_labels_34 rfl ?_
      refine g_iload_n fx 0 dX11_labels_35 rfl ?_
      refine g_icmp_ne fx 42 dX11_labels_36 (by decide) (fun c36 => ?_) (fun c36 => ?_)
      · skip
        have hB0 : 0 < kB := Nat.pos_of_ne_zero (fun q => c36 (by rw [q, Nat.add_zero]))
        refine g_aload_n fx 2 dX11_labels_42 rfl ?_
        refine g_get (r := 0) fx lkX11_51 (by omega) hx rfl dX11_labels_43 ?_
        refine g_iload_n fx 1 dX11_labels_46 rfl ?_
        refine g_iload_n fx 0 dX11_labels_47 rfl ?_
        refine g_callVv (As := [.int (nI kA), .int (nI (kA + kB))]) (rest := []) fx slX11_173 (c_X8_beginTaking B ad ct n nx mk off ah al hso sz1 N1 sz2 N2 s1 t1 s2 t2 h82 h83 h84 h85 h86 h87 hn hL1 hL2 kA (kA + kB) (by omega) (by omega)) (by omega) hso rfl rfl rfl (Nat.le_of_ble_eq_true rfl) ⟨by dsimp only; omega, by dsimp only; omega⟩ ⟨by dsimp only; omega, by dsimp only; omega⟩ dX11_labels_48 (fun ct1 hz1 => ?_)
        obtain ⟨hso, hS, hs1⟩ := hz1
        have hx : ct1 0 = .inr (11, [.ref (ad 1), .ref (ad 3), .ref (ad 5), .ref (ad 7), .ref (ad 9), .ref (ad 11), .ref (ad 79), .ref (ad 81), .ref (ad 88), .ref (ad 110), .ref (ad 115)]) := (hs1 0 (by decide)).trans hx
        have hA : ct1 3 = .inr (5, [.ref (ad 4), .int (nI kA)]) := (hs1 3 (by decide)).trans hA
        have hAr : ct1 4 = .inl (B.2.1 0, 15, .inl fA) := (hs1 4 (by decide)).trans hAr
        have hB : ct1 5 = .inr (5, [.ref (ad 6), .int (nI kB)]) := (hs1 5 (by decide)).trans hB
        have hBr : ct1 6 = .inl (B.2.1 0, 15, .inl fB) := (hs1 6 (by decide)).trans hBr
        have hr : ct1 88 = .inr (6, [.ref (ad 89), .int th, .int te, .int sta, .int ask]) := (hs1 88 (by decide)).trans hr
        have hrr : ct1 89 = .inl (B.2.1 4, 4, .inr (.inr (.inr (.inr (fun i => some (ad (90 + 5 * i))))))) := (hs1 89 (by decide)).trans hrr
        have hFr : ∀ t, t < 4 → ∃ u l, isFr B ad ct1 (90 + 5 * t) u l := fun t ht => by
          obtain ⟨u, l, h⟩ := hFr t ht
          exact ⟨u, l, h.other (fun r h1 h2 => hs1 r (by omega))⟩
        have hAd : ∀ r, r < 83 ∨ r = 85 ∨ 87 < r → ad r = ad r := fun _ _ => rfl
        have hfr : ∀ r, r < 81 ∨ 87 < r → ct1 r = ct r := hs1
        have hE1 : lbE1 w fs kA kB N1 = tkN1 (lbA w fs kA kB) kA (tkN1 (lbA w fs kA kB) 0 N1 kA) kB := rfl
        have hE2 : lbE2 w fs kA kB N2 = tkN2 (lbA w fs kA kB) kA (tkN2 (lbA w fs kA kB) 0 N2 kA) kB := rfl
        have hu1 := tkN1_le (a := (lbA w fs kA kB)) (m0 := kA) (N := tkN1 (lbA w fs kA kB) 0 N1 kA) kB
        have hu2 := tkN2_le (a := (lbA w fs kA kB)) (m0 := kA) (N := tkN2 (lbA w fs kA kB) 0 N2 kA) kB
        have hv1 := tkN1_le (a := (lbA w fs kA kB)) (m0 := 0) (N := N1) kA
        have hv2 := tkN2_le (a := (lbA w fs kA kB)) (m0 := 0) (N := N2) kA
        have hx1 : lbE1 x.toInt.toNat fs kA kB N1 = lbE1 w fs kA kB N1 := by rw [hxn]
        have hx2 : lbE2 x.toInt.toNat fs kA kB N2 = lbE2 w fs kA kB N2 := by rw [hxn]
        have hms : lbMs x fs kA kB N1 N2 = 4 * (lbE1 w fs kA kB N1 - N1) + 4 * (lbE2 w fs kA kB N2 - N2) := by unfold lbMs; rw [if_pos ⟨hin, hA0, hB0⟩, hxn]
        refine g_aload_n fx 2 dX11_labels_51 rfl ?_
        refine g_aload_n fx 2 dX11_labels_52 rfl ?_
        refine g_get (r := 0) fx lkX11_21 (by omega) hx rfl dX11_labels_53 ?_
        refine g_iload_n fx 3 dX11_labels_56 rfl ?_
        refine g_callVxi (As := [.ref (ad 3), .int (nI w)]) (rest := []) fx slX11_176 (c_X11_takeScores_A B ad ct1 n kA kB w 0 N1 N2 fA fB fs (nI (kA * 131072)) (lN (sumF (fun q => ch (kA + kB) q) kA)) (lN (ch (kA + kB) kA)) hx hA hAr hB hBr hn hAk hBk hw hfA hfB hsb hso (hS _) (by omega) (fun i hi => by rw [Nat.zero_add]; unfold smp; rw [if_pos hi]; exact (hfA i hi).symm)) (by omega) hx rfl rfl rfl (Nat.le_of_ble_eq_true rfl) ⟨by dsimp only; omega, by dsimp only; omega⟩ ⟨by dsimp only; omega, by dsimp only; omega⟩ dX11_labels_57 (fun q3 ad1 ct2 hq3 => ?_)
        obtain ⟨hq3t, hAd1, hso, hSS, hfr1⟩ := hq3
        have hq3t : q3.toInt = sumI (lbV w fs kA kB) kA := by rw [hq3t]; exact sumI_cg kA (fun j _ => by rw [Nat.zero_add])
        rw [Nat.zero_add] at hso hSS
        have hx : ct2 0 = .inr (11, [.ref (ad1 1), .ref (ad1 3), .ref (ad1 5), .ref (ad1 7), .ref (ad1 9), .ref (ad1 11), .ref (ad1 79), .ref (ad1 81), .ref (ad1 88), .ref (ad1 110), .ref (ad1 115)]) := (hfr1 0 (by decide)).trans (hx.trans (by rw [hAd1 1 (by decide), hAd1 3 (by decide), hAd1 5 (by decide), hAd1 7 (by decide), hAd1 9 (by decide), hAd1 11 (by decide), hAd1 79 (by decide), hAd1 81 (by decide), hAd1 88 (by decide), hAd1 110 (by decide), hAd1 115 (by decide)]))
        have hA : ct2 3 = .inr (5, [.ref (ad1 4), .int (nI kA)]) := (hfr1 3 (by decide)).trans (hA.trans (by rw [hAd1 4 (by decide)]))
        have hAr : ct2 4 = .inl (B.2.1 0, 15, .inl fA) := (hfr1 4 (by decide)).trans hAr
        have hB : ct2 5 = .inr (5, [.ref (ad1 6), .int (nI kB)]) := (hfr1 5 (by decide)).trans (hB.trans (by rw [hAd1 6 (by decide)]))
        have hBr : ct2 6 = .inl (B.2.1 0, 15, .inl fB) := (hfr1 6 (by decide)).trans hBr
        have hr : ct2 88 = .inr (6, [.ref (ad1 89), .int th, .int te, .int sta, .int ask]) := by rw [hfr1 88 (by omega), hAd1 89 (by omega)]; exact hr
        have hrr : ct2 89 = .inl (B.2.1 4, 4, .inr (.inr (.inr (.inr (fun i => some (ad1 (90 + 5 * i))))))) := (hfr1 89 (by omega)).trans (hrr.trans (by rw [show (fun i => some (ad1 (90 + 5 * i))) = (fun i => some (ad (90 + 5 * i))) from funext fun i => by rw [hAd1 (90 + 5 * i) (by omega)]]))
        have hFr : ∀ t, t < 4 → ∃ u l, isFr B ad1 ct2 (90 + 5 * t) u l := fun t ht => by
          obtain ⟨u, l, h⟩ := hFr t ht
          exact ⟨u, l, h.move (fun r h1 h2 => hAd1 r (by omega)) (fun r h1 h2 => hfr1 r (by omega))⟩
        have hAd : ∀ r, r < 83 ∨ r = 85 ∨ 87 < r → ad1 r = ad r := fun r h => hAd1 r h
        have hfr : ∀ r, r < 81 ∨ 87 < r → ct2 r = ct r := fun r h => (hfr1 r h).trans (hfr r h)
        refine g_same (L' := [(3, .int (nI (kA + kB))), (2, .int (nI kA)), (0, .ref (ad1 0)), (1, .int (nI w))]) (st' := [.int q3]) (by rw [hAd1 0 (by decide)]) rfl ?_
        refine g_istore (L' := [(4, .int q3), (3, .int (nI (kA + kB))), (2, .int (nI kA)), (0, .ref (ad1 0)), (1, .int (nI w))]) fx dX11_labels_60 (by decide) rfl ?_
        refine g_iload fx 0 dX11_labels_62 rfl ?_
        refine g_aload_n fx 3 dX11_labels_64 rfl ?_
        refine g_aload_n fx 3 dX11_labels_65 rfl ?_
        refine g_get (r := 0) fx lkX11_25 (by omega) hx rfl dX11_labels_66 ?_
        refine g_iload_n fx 4 dX11_labels_69 rfl ?_
        refine g_callVxi (As := [.ref (ad1 5), .int (nI w)]) (rest := [.int q3]) fx slX11_176 (c_X11_takeScores_B B ad1 ct2 n kA kB w kA (tkN1 (lbA w fs kA kB) 0 N1 kA) (tkN2 (lbA w fs kA kB) 0 N2 kA) fA fB fs (nI (kA * 131072)) (lN (sumF (fun q => ch (kA + kB) q) kA)) (lN (ch (kA + kB) kA)) hx hA hAr hB hBr hn hAk hBk hw hfA hfB hsb hso hSS (by omega) (fun i hi => by unfold smp; rw [if_neg (by omega), Nat.add_sub_cancel_left]; exact (hfB i hi).symm)) (by omega) hx rfl rfl rfl (Nat.le_of_ble_eq_true rfl) ⟨by dsimp only; omega, by dsimp only; omega⟩ ⟨by dsimp only; omega, by dsimp only; omega⟩ dX11_labels_70 (fun q4 ad2 ct3 hq4 => ?_)
        obtain ⟨hq4t, hAd2, hso, hSS, hfr2⟩ := hq4
        have hx : ct3 0 = .inr (11, [.ref (ad2 1), .ref (ad2 3), .ref (ad2 5), .ref (ad2 7), .ref (ad2 9), .ref (ad2 11), .ref (ad2 79), .ref (ad2 81), .ref (ad2 88), .ref (ad2 110), .ref (ad2 115)]) := (hfr2 0 (by decide)).trans (hx.trans (by rw [hAd2 1 (by decide), hAd2 3 (by decide), hAd2 5 (by decide), hAd2 7 (by decide), hAd2 9 (by decide), hAd2 11 (by decide), hAd2 79 (by decide), hAd2 81 (by decide), hAd2 88 (by decide), hAd2 110 (by decide), hAd2 115 (by decide)]))
        have hA : ct3 3 = .inr (5, [.ref (ad2 4), .int (nI kA)]) := (hfr2 3 (by decide)).trans (hA.trans (by rw [hAd2 4 (by decide)]))
        have hAr : ct3 4 = .inl (B.2.1 0, 15, .inl fA) := (hfr2 4 (by decide)).trans hAr
        have hB : ct3 5 = .inr (5, [.ref (ad2 6), .int (nI kB)]) := (hfr2 5 (by decide)).trans (hB.trans (by rw [hAd2 6 (by decide)]))
        have hBr : ct3 6 = .inl (B.2.1 0, 15, .inl fB) := (hfr2 6 (by decide)).trans hBr
        have hr : ct3 88 = .inr (6, [.ref (ad2 89), .int th, .int te, .int sta, .int ask]) := by rw [hfr2 88 (by omega), hAd2 89 (by omega)]; exact hr
        have hrr : ct3 89 = .inl (B.2.1 4, 4, .inr (.inr (.inr (.inr (fun i => some (ad2 (90 + 5 * i))))))) := (hfr2 89 (by omega)).trans (hrr.trans (by rw [show (fun i => some (ad2 (90 + 5 * i))) = (fun i => some (ad1 (90 + 5 * i))) from funext fun i => by rw [hAd2 (90 + 5 * i) (by omega)]]))
        have hFr : ∀ t, t < 4 → ∃ u l, isFr B ad2 ct3 (90 + 5 * t) u l := fun t ht => by
          obtain ⟨u, l, h⟩ := hFr t ht
          exact ⟨u, l, h.move (fun r h1 h2 => hAd2 r (by omega)) (fun r h1 h2 => hfr2 r (by omega))⟩
        have hAd : ∀ r, r < 83 ∨ r = 85 ∨ 87 < r → ad2 r = ad r := fun r h => (hAd2 r h).trans (hAd r h)
        have hfr : ∀ r, r < 81 ∨ 87 < r → ct3 r = ct r := fun r h => (hfr2 r h).trans (hfr r h)
        have hvb : ∀ j, j < kA + kB → (lbV w fs kA kB j).natAbs ≤ 1000 := fun j hj => (lbV_bd hAk hBk hj hsb).1
        have hsA := sumI_bd (V := lbV w fs kA kB) (b := 1000) kA (fun j hj => hvb j (by omega))
        have hsT := sumI_bd (V := lbV w fs kA kB) (b := 1000) (kA + kB) hvb
        have hspl := sumI_split (V := lbV w fs kA kB) (a := kA) kB
        have hws : sumF (wN (lbN w fs kA kB) (kA + kB) kA) 30001 = (ch (kA + kB) kA) := wN_sum (kA + kB) kA 30001 (fun i hi => by have := lbV_bd (w := w) (k := i) hAk hBk hi hsb; unfold lbN; omega) (by omega)
        rw [← hws] at hso
        refine g_same (L' := [(4, .int q3), (3, .int (nI (kA + kB))), (2, .int (nI kA)), (0, .ref (ad2 0)), (1, .int (nI w))]) (st' := [.int q4, .int q3]) (by rw [hAd2 0 (by decide)]) rfl ?_
        refine g_iadd fx dX11_labels_73 ?_
        refine g_topi (fun tg etg => ?_)
        have htg : tg.toInt = sumI (lbV w fs kA kB) (kA + kB) := by rw [etg, hspl]; exact add_toInt hq3t hq4t (by omega)
        refine g_istore (L' := [(5, .int tg), (4, .int q3), (3, .int (nI (kA + kB))), (2, .int (nI kA)), (0, .ref (ad2 0)), (1, .int (nI w))]) fx dX11_labels_74 (by decide) rfl ?_
        refine g_aload_n fx 4 dX11_labels_76 rfl ?_
        refine g_get (r := 0) fx lkX11_58 (by omega) hx rfl dX11_labels_77 ?_
        refine g_iconst (v := nI 1) fx dX11_labels_80 (by decide +kernel) ?_
        refine g_iload_n fx 5 dX11_labels_81 rfl ?_
        refine g_iaddN fx dX11_labels_82 ?_
        refine g_iload fx 1 dX11_labels_83 rfl ?_
        refine g_iload_n fx 2 dX11_labels_85 rfl ?_
        refine g_callVv (As := [.int (nI (1 + w)), .int q3, .int (nI (kA + kB))]) (rest := []) fx slX11_139 (c_X6_begin B ad2 ct3 n th te sta ask hn hr hrr (nI (1 + w)) q3 (nI (kA + kB))) (by omega) hr rfl rfl rfl (Nat.le_of_ble_eq_true rfl) ⟨by dsimp only; omega, by dsimp only; omega⟩ ⟨by dsimp only; omega, by dsimp only; omega⟩ dX11_labels_86 (fun ct4 hz4 => ?_)
        have hs4 : ∀ r, r ≠ 88 → ct4 r = ct3 r := fun r h => by rw [hz4, va_up_ne _ _ h]
        have hr : ct4 88 = .inr (6, [.ref (ad2 89), .int 1, .int (nI (1 + w)), .int q3, .int (nI (kA + kB))]) := by rw [hz4, va_up_self]
        have hx : ct4 0 = .inr (11, [.ref (ad2 1), .ref (ad2 3), .ref (ad2 5), .ref (ad2 7), .ref (ad2 9), .ref (ad2 11), .ref (ad2 79), .ref (ad2 81), .ref (ad2 88), .ref (ad2 110), .ref (ad2 115)]) := (hs4 0 (by decide)).trans hx
        have hA : ct4 3 = .inr (5, [.ref (ad2 4), .int (nI kA)]) := (hs4 3 (by decide)).trans hA
        have hAr : ct4 4 = .inl (B.2.1 0, 15, .inl fA) := (hs4 4 (by decide)).trans hAr
        have hB : ct4 5 = .inr (5, [.ref (ad2 6), .int (nI kB)]) := (hs4 5 (by decide)).trans hB
        have hBr : ct4 6 = .inl (B.2.1 0, 15, .inl fB) := (hs4 6 (by decide)).trans hBr
        have hso : ct4 81 = .inr (8, [.ref (ad2 82), .ref (ad2 85), .int (nI (1 - (kA + kB) % 2)), .int (nI 131072), .int (nI (kA * 131072)), .long (lN (sumF (fun q => ch (kA + kB) q) kA)), .long (lN (sumF (wN (lbN w fs kA kB) (kA + kB) kA) 30001))]) := (hs4 81 (by decide)).trans hso
        have hrr : ct4 89 = .inl (B.2.1 4, 4, .inr (.inr (.inr (.inr (fun i => some (ad2 (90 + 5 * i))))))) := (hs4 89 (by decide)).trans hrr
        have hFr : ∀ t, t < 4 → ∃ u l, isFr B ad2 ct4 (90 + 5 * t) u l := fun t ht => by
          obtain ⟨u, l, h⟩ := hFr t ht
          exact ⟨u, l, h.other (fun r h1 h2 => hs4 r (by omega))⟩
        have hSS := hSS.move (ct' := ct4) (fun _ _ _ => rfl) (fun r h1 h2 => hs4 r (by omega))
        refine g_aload_n fx 4 dX11_labels_89 rfl ?_
        refine g_iload fx 1 dX11_labels_90 rfl ?_
        refine g_iload fx 0 dX11_labels_92 rfl ?_
        refine g_iload_n fx 3 dX11_labels_94 rfl ?_
        refine g_imul fx dX11_labels_95 ?_
        refine g_topi (fun md emd => ?_)
        have hmd : md.toInt = ((kA : Int) * sumI (lbV w fs kA kB) (kA + kB)) := by rw [emd, Int.mul_comm]; exact mul_toInt htg (nI_toInt (by omega)) (by have := mid_b (k := kA) (m := kA + kB) hAk hsT; rw [Int.mul_comm] at this; omega)
        refine g_iload_n fx 2 dX11_labels_96 rfl ?_
        refine g_callVv (As := [.int q3, .int md, .int (nI (kA + kB))]) (rest := []) fx slX11_180 (c_X11_judge B ad2 ct4 n hx (nI (1 - (kA + kB) % 2)) (nI 131072) (nI (kA * 131072)) (sumF (fun q => ch (kA + kB) q) kA) (wN (lbN w fs kA kB) (kA + kB) kA) 30001 hso (lbA w fs kA kB) (kA + kB) _ _ hSS hn (by omega) (fun j hj => by have q1 := lbV_bd (w := w) (k := j) hAk hBk hj hsb; have q2 := lbA_is q1.2.1; omega) 1 (nI (1 + w)) q3 (nI (kA + kB)) hr hrr hFr q3 md (sumI (lbV w fs kA kB) kA) ((kA : Int) * sumI (lbV w fs kA kB) (kA + kB)) (lbL w * (kA : Int)) ((kA * 131072 : Nat) : Int) (kA + kB) 15000 15000 hq3t hmd (nI_toInt (by omega)) (by omega) (by omega) (by omega) (mid_b hAk hsT) (by omega) (by omega) (by omega) (by rw [hws]; exact ch_pos (by omega)) (by rw [hws]; exact Nat.lt_of_le_of_lt (ch_30 (by omega)) (by decide)) (by rw [hws]; exact Sm.ch (by omega) (by omega)) (fun v hv => by have hb := lbL_b (w := w) hAk; rw [← lab_off (w := w)]; exact lab_up (s := lbN w fs kA kB) (fun i hi => by have := lbV_bd (w := w) (k := i) hAk hBk hi hsb; unfold lbN; omega) hAk hA0 (by unfold lbc; split <;> omega) (by omega) (by omega)) (fun v hv => by have hb := lbL_b (w := w) hAk; rw [← lab_off (w := w)]; exact lab_ex (s := lbN w fs kA kB) (fun i hi => by have := lbV_bd (w := w) (k := i) hAk hBk hi hsb; unfold lbN; omega) hAk hA0 (by unfold lbc; split <;> omega) (by omega) (by omega))) (by omega) hx rfl rfl rfl (Nat.le_of_ble_eq_true rfl) ⟨by dsimp only; omega, by dsimp only; omega⟩ ⟨by dsimp only; omega, by dsimp only; omega⟩ dX11_labels_97 (fun ct5 hz5 => ?_)
        obtain ⟨hfc, hs5⟩ := hz5
        refine g_iload fx 1 dX11_labels_100 rfl ?_
        refine g_more (k1 := 60) (s1 := (lbMs x fs kA kB N1 N2)) (by omega) (by omega) ?_
        refine g_iret fx rt dX11_labels_102 ?_
        refine gPxi.mk (Or.inr (Or.inr ⟨hin, hA0, hB0, w, hw, hxw, hq3t, hAd, (hs5 81 (by decide)).trans hso, hSS.move (fun _ _ _ => rfl) (fun r h1 h2 => hs5 r (by omega)), (hs5 88 (by decide)).trans hr, hfc, fun r h => ?_⟩))
        by_cases q : r = 89
        · subst q; rw [hs5 89 (by decide), hs4 89 (by decide)]; exact hfr 89 (by decide)
        · rw [hs5 r (by omega), hs4 r (by omega)]; exact hfr r (by omega)
      · skip
        have hz : kA = 0 ∨ kB = 0 := Or.inr (by have := (nI_eq (by omega) (by omega)).mp c36; omega)
        refine g_ldc fx kcX11_172 dX11_labels_39 ?_
        refine g_more (k1 := 60) (s1 := (lbMs x fs kA kB N1 N2)) (by omega) (by omega) ?_
        refine g_iret fx rt dX11_labels_41 ?_
        exact gPxi.mk (Or.inr (Or.inl ⟨hin, hz, rfl, rfl, rfl⟩))
  refine g_iload_n fx 1 dX11_labels_0 rfl ?_
  refine g_if_eq fx 12 dX11_labels_1 (by decide) (fun c1 => ?_) (fun c1 => ?_)
  · skip
    have cw : x = nI 0 := c1
    refine g_locals (L' := [(0, .ref (ad 0)), (1, .int x)]) [0, 1] rfl ?_
    rw [show x = nI 0 from cw]
    exact J12 0 (by decide) cw
  · skip
    refine g_iload_n fx 1 dX11_labels_4 rfl ?_
    refine g_iconst (v := nI 1) fx dX11_labels_5 (by decide +kernel) ?_
    refine g_icmp_eq fx 12 dX11_labels_6 (by decide) (fun c6 => ?_) (fun c6 => ?_)
    · skip
      have cw : x = nI 1 := c6
      refine g_locals (L' := [(0, .ref (ad 0)), (1, .int x)]) [0, 1] rfl ?_
      rw [show x = nI 1 from cw]
      exact J12 1 (by decide) cw
    · skip
      have hno : ¬ ((0 : Int) ≤ x.toInt ∧ x.toInt ≤ 1) := fun h => by
        have h2 : x.toInt = 0 ∨ x.toInt = 1 := by omega
        rcases h2 with h2 | h2
        · exact c1 (Int32.toInt_inj.mp (by rw [h2]; rfl))
        · exact c6 (Int32.toInt_inj.mp (by rw [h2]; rfl))
      refine g_ldc fx kcX11_168 dX11_labels_9 ?_
      refine g_more (k1 := 60) (s1 := (lbMs x fs kA kB N1 N2)) (by omega) (by omega) ?_
      refine g_iret fx rt dX11_labels_11 ?_
      exact gPxi.mk (Or.inl ⟨hno, rfl, rfl, rfl⟩)
