theorem lev {u v : Nat} (hu : u < 2 ^ 180) (hv : v < 2 ^ 180) : u * v < 4294967296 ^ 12 := by
  rw [show (4294967296 : Nat) ^ 12 = 2 ^ 180 * 2 ^ 204 by decide +kernel]
  exact Nat.mul_lt_mul_of_lt_of_le hu (Nat.le_of_lt (Nat.lt_of_lt_of_le hv (by decide))) (by decide)
theorem dec1 {k : Nat} (h : 0 < k) : nI k + Int32.ofInt (-1) = nI (k - 1) := by rw [m1_sub, m1_eq h]
set_option maxHeartbeats 4000000 in
set_option maxRecDepth 100000 in
theorem c_X6_begin (B : gB) (ad : Nat → Nat) (ct : Nat → va_E) (n : Nat) (th te sta ask : Int32) (hn : 178 ≤ n) (hr : ct 88 = .inr (6, [.ref (ad 89), .int th, .int te, .int sta, .int ask])) (hrr : ct 89 = .inl (B.2.1 4, 4, .inr (.inr (.inr (.inr (fun i => some (ad (90 + 5 * i)))))))) (a b c : Int32) : Ctr B yX6_begin cX6_begin 4 none 0 0 0 0 ad ct n [.ref (ad 88), .int a, .int b, .int c] (gPv ad n (fun ct' => ct' = va_up ct 88 (.inr (6, [.ref (ad 89), .int 1, .int a, .int b, .int c])))) := by
  refine Ctr.ofG (L := [(0, .ref (ad 88)), (1, .int a), (2, .int b), (3, .int c)]) (by decide +kernel) rfl (Nat.le_of_ble_eq_true rfl) (fun E fx rt hnm => ?_)
  refine g_aload_n fx 0 dX6_begin_0 rfl ?_
  refine g_iconst (v := nI 1) fx dX6_begin_1 (by decide +kernel) ?_
  refine g_put (r := 88) (fs' := [.ref (ad 89), .int (nI 1), .int te, .int sta, .int ask]) fx lpX6_18 (by omega) hr rfl rfl (Nat.le_of_ble_eq_true rfl) rfl dX6_begin_2 (fun c1 ec1 => ?_)
  have hr : c1 88 = .inr (6, [.ref (ad 89), .int (nI 1), .int te, .int sta, .int ask]) := by rw [ec1, va_up_self]
  have hrr : c1 89 = .inl (B.2.1 4, 4, .inr (.inr (.inr (.inr (fun i => some (ad (90 + 5 * i))))))) := (congrFun ec1 _).trans ((va_up_ne _ _ (by omega)).trans hrr)
  refine g_aload_n fx 0 dX6_begin_5 rfl ?_
  refine g_iload_n fx 1 dX6_begin_6 rfl ?_
  refine g_put (r := 88) (fs' := [.ref (ad 89), .int (nI 1), .int a, .int sta, .int ask]) fx lpX6_22 (by omega) hr rfl rfl (Nat.le_of_ble_eq_true rfl) rfl dX6_begin_7 (fun c2 ec2 => ?_)
  have hr : c2 88 = .inr (6, [.ref (ad 89), .int (nI 1), .int a, .int sta, .int ask]) := by rw [ec2, va_up_self]
  have hrr : c2 89 = .inl (B.2.1 4, 4, .inr (.inr (.inr (.inr (fun i => some (ad (90 + 5 * i))))))) := (congrFun ec2 _).trans ((va_up_ne _ _ (by omega)).trans hrr)
  refine g_aload_n fx 0 dX6_begin_10 rfl ?_
  refine g_iload_n fx 2 dX6_begin_11 rfl ?_
  refine g_put (r := 88) (fs' := [.ref (ad 89), .int (nI 1), .int a, .int b, .int ask]) fx lpX6_26 (by omega) hr rfl rfl (Nat.le_of_ble_eq_true rfl) rfl dX6_begin_12 (fun c3 ec3 => ?_)
  have hr : c3 88 = .inr (6, [.ref (ad 89), .int (nI 1), .int a, .int b, .int ask]) := by rw [ec3, va_up_self]
  have hrr : c3 89 = .inl (B.2.1 4, 4, .inr (.inr (.inr (.inr (fun i => some (ad (90 + 5 * i))))))) := (congrFun ec3 _).trans ((va_up_ne _ _ (by omega)).trans hrr)
  refine g_aload_n fx 0 dX6_begin_15 rfl ?_
  refine g_iload_n fx 3 dX6_begin_16 rfl ?_
  refine g_put (r := 88) (fs' := [.ref (ad 89), .int (nI 1), .int a, .int b, .int c]) fx lpX6_29 (by omega) hr rfl rfl (Nat.le_of_ble_eq_true rfl) rfl dX6_begin_17 (fun c4 ec4 => ?_)
  have hr : c4 88 = .inr (6, [.ref (ad 89), .int (nI 1), .int a, .int b, .int c]) := by rw [ec4, va_up_self]
  have hrr : c4 89 = .inl (B.2.1 4, 4, .inr (.inr (.inr (.inr (fun i => some (ad (90 + 5 * i))))))) := (congrFun ec4 _).trans ((va_up_ne _ _ (by omega)).trans hrr)
  refine g_vret fx rt dX6_begin_20 ?_
  refine gPv.mk ?_
  rw [ec4, ec3, ec2, ec1, bx_uu, bx_uu, bx_uu]
  rfl
set_option maxHeartbeats 4000000 in
set_option maxRecDepth 100000 in
theorem c_X6_areThere (B : gB) (ad : Nat → Nat) (ct : Nat → va_E) (n : Nat) (th te sta ask : Int32) (hn : 178 ≤ n) (hr : ct 88 = .inr (6, [.ref (ad 89), .int th, .int te, .int sta, .int ask])) (hrr : ct 89 = .inl (B.2.1 4, 4, .inr (.inr (.inr (.inr (fun i => some (ad (90 + 5 * i)))))))) (hz : narrow .boolean (.int th) = .int th) : Ctr B yX6_areThere cX6_areThere 1 (some .boolean) 0 0 0 0 ad ct n [.ref (ad 88)] (gPip ad ct n (fun r => r = th)) := by
  refine Ctr.ofG (L := [(0, .ref (ad 88))]) (by decide +kernel) rfl (Nat.le_of_ble_eq_true rfl) (fun E fx rt hnm => ?_)
  refine g_aload_n fx 0 dX6_areThere_0 rfl ?_
  refine g_get (r := 88) fx lkX6_18 (by omega) hr rfl dX6_areThere_1 ?_
  refine g_zret fx rt dX6_areThere_4 hz ?_
  refine gPip.mk ?_
  rfl
set_option maxHeartbeats 4000000 in
set_option maxRecDepth 100000 in
theorem c_X6_test (B : gB) (ad : Nat → Nat) (ct : Nat → va_E) (n : Nat) (th te sta ask : Int32) (hn : 178 ≤ n) (hr : ct 88 = .inr (6, [.ref (ad 89), .int th, .int te, .int sta, .int ask])) (hrr : ct 89 = .inl (B.2.1 4, 4, .inr (.inr (.inr (.inr (fun i => some (ad (90 + 5 * i)))))))) : Ctr B yX6_test cX6_test 1 (some .int) 0 0 0 0 ad ct n [.ref (ad 88)] (gPip ad ct n (fun r => r = te)) := by
  refine Ctr.ofG (L := [(0, .ref (ad 88))]) (by decide +kernel) rfl (Nat.le_of_ble_eq_true rfl) (fun E fx rt hnm => ?_)
  refine g_aload_n fx 0 dX6_test_0 rfl ?_
  refine g_get (r := 88) fx lkX6_22 (by omega) hr rfl dX6_test_1 ?_
  refine g_iret fx rt dX6_test_4 ?_
  refine gPip.mk ?_
  rfl
set_option maxHeartbeats 4000000 in
set_option maxRecDepth 100000 in
theorem c_X6_statistic (B : gB) (ad : Nat → Nat) (ct : Nat → va_E) (n : Nat) (th te sta ask : Int32) (hn : 178 ≤ n) (hr : ct 88 = .inr (6, [.ref (ad 89), .int th, .int te, .int sta, .int ask])) (hrr : ct 89 = .inl (B.2.1 4, 4, .inr (.inr (.inr (.inr (fun i => some (ad (90 + 5 * i)))))))) : Ctr B yX6_statistic cX6_statistic 1 (some .int) 0 0 0 0 ad ct n [.ref (ad 88)] (gPip ad ct n (fun r => r = sta)) := by
  refine Ctr.ofG (L := [(0, .ref (ad 88))]) (by decide +kernel) rfl (Nat.le_of_ble_eq_true rfl) (fun E fx rt hnm => ?_)
  refine g_aload_n fx 0 dX6_statistic_0 rfl ?_
  refine g_get (r := 88) fx lkX6_26 (by omega) hr rfl dX6_statistic_1 ?_
  refine g_iret fx rt dX6_statistic_4 ?_
  refine gPip.mk ?_
  rfl
set_option maxHeartbeats 4000000 in
set_option maxRecDepth 100000 in
theorem c_X6_asked (B : gB) (ad : Nat → Nat) (ct : Nat → va_E) (n : Nat) (th te sta ask : Int32) (hn : 178 ≤ n) (hr : ct 88 = .inr (6, [.ref (ad 89), .int th, .int te, .int sta, .int ask])) (hrr : ct 89 = .inl (B.2.1 4, 4, .inr (.inr (.inr (.inr (fun i => some (ad (90 + 5 * i)))))))) : Ctr B yX6_asked cX6_asked 1 (some .int) 0 0 0 0 ad ct n [.ref (ad 88)] (gPip ad ct n (fun r => r = ask)) := by
  refine Ctr.ofG (L := [(0, .ref (ad 88))]) (by decide +kernel) rfl (Nat.le_of_ble_eq_true rfl) (fun E fx rt hnm => ?_)
  refine g_aload_n fx 0 dX6_asked_0 rfl ?_
  refine g_get (r := 88) fx lkX6_29 (by omega) hr rfl dX6_asked_1 ?_
  refine g_iret fx rt dX6_asked_4 ?_
  refine gPip.mk ?_
  rfl
set_option maxHeartbeats 4000000 in
set_option maxRecDepth 100000 in
theorem c_X6_chance (B : gB) (ad : Nat → Nat) (ct : Nat → va_E) (n : Nat) (th te sta ask : Int32) (hn : 178 ≤ n) (hr : ct 88 = .inr (6, [.ref (ad 89), .int th, .int te, .int sta, .int ask])) (hrr : ct 89 = .inl (B.2.1 4, 4, .inr (.inr (.inr (.inr (fun i => some (ad (90 + 5 * i)))))))) (t : Nat) (ht : t < 4) : Ctr B yX6_chance cX6_chance 2 (some (.object "ExactTests$Fraction")) 0 0 0 0 ad ct n [.ref (ad 88), .int (nI t)] (gPrp ad ct n (fun r => r = ad (90 + 5 * t))) := by
  refine Ctr.ofG (L := [(0, .ref (ad 88)), (1, .int (nI t))]) (by decide +kernel) rfl (Nat.le_of_ble_eq_true rfl) (fun E fx rt hnm => ?_)
  refine g_aload_n fx 0 dX6_chance_0 rfl ?_
  refine g_get (r := 88) fx lkX6_11 (by omega) hr rfl dX6_chance_1 ?_
  refine g_iload_n fx 1 dX6_chance_4 rfl ?_
  refine g_if_lt fx 17 dX6_chance_5 (by decide) (fun c5 => ?_) (fun c5 => ?_)
  · exact absurd c5 (fun q => by have := (nI_ltI (a := t) (b := 0) (by omega) (by omega)).mp q; omega)
  refine g_iload_n fx 1 dX6_chance_8 rfl ?_
  refine g_iconst (v := nI 4) fx dX6_chance_9 (by decide +kernel) ?_
  refine g_icmp_ge fx 17 dX6_chance_10 (by decide) (fun c10 => ?_) (fun c10 => ?_)
  · exact absurd ((nI_leI (by omega) (by omega)).mp c10) (by omega)
  refine g_iload_n fx 1 dX6_chance_13 rfl ?_
  refine g_goto fx 18 dX6_chance_14 (by decide) ?_
  refine g_aald (r := 89) (j := t) (t0 := 4) fx rfl (by omega) hrr (nI_toInt (by omega)) (by omega) rfl dX6_chance_18 ?_
  refine g_aret fx rt dX6_chance_19 ?_
  exact gPrp.mk rfl
set_option maxHeartbeats 4000000 in
set_option maxRecDepth 100000 in
theorem c_X1_size (B : gB) (ad : Nat → Nat) (ct : Nat → va_E) (n : Nat) (k : Nat) (o : Nat → Nat) (hn : 178 ≤ n) (hc : ct 115 = .inr (1, [.ref (ad 116), .ref (ad 117), .ref (ad 110), .int (nI k)])) (hcr : ct 116 = .inl (B.2.1 4, 12, .inr (.inr (.inr (.inr (fun i => some (ad (118 + 5 * i)))))))) (hco : ct 117 = .inl (B.2.1 0, 12, .inl (nF o))) (hk12 : k ≤ 12) : Ctr B yX1_size cX1_size 1 (some .int) 0 0 0 0 ad ct n [.ref (ad 115)] (gPip ad ct n (fun r => r = nI k)) := by
  refine Ctr.ofG (L := [(0, .ref (ad 115))]) (by decide +kernel) rfl (Nat.le_of_ble_eq_true rfl) (fun E fx rt hnm => ?_)
  refine g_aload_n fx 0 dX1_size_0 rfl ?_
  refine g_get (r := 115) fx lkX1_26 (by omega) hc rfl dX1_size_1 ?_
  refine g_iret fx rt dX1_size_4 ?_
  refine gPip.mk ?_
  rfl
set_option maxHeartbeats 4000000 in
set_option maxRecDepth 100000 in
theorem c_X1_isFull (B : gB) (ad : Nat → Nat) (ct : Nat → va_E) (n : Nat) (k : Nat) (o : Nat → Nat) (hn : 178 ≤ n) (hc : ct 115 = .inr (1, [.ref (ad 116), .ref (ad 117), .ref (ad 110), .int (nI k)])) (hcr : ct 116 = .inl (B.2.1 4, 12, .inr (.inr (.inr (.inr (fun i => some (ad (118 + 5 * i)))))))) (hco : ct 117 = .inl (B.2.1 0, 12, .inl (nF o))) (hk12 : k ≤ 12) : Ctr B yX1_isFull cX1_isFull 1 (some .boolean) 0 0 0 0 ad ct n [.ref (ad 115)] (gPip ad ct n (fun r => r = if 12 ≤ k then 1 else 0)) := by
  refine Ctr.ofG (L := [(0, .ref (ad 115))]) (by decide +kernel) rfl (Nat.le_of_ble_eq_true rfl) (fun E fx rt hnm => ?_)
  refine g_aload_n fx 0 dX1_isFull_0 rfl ?_
  refine g_get (r := 115) fx lkX1_26 (by omega) hc rfl dX1_isFull_1 ?_
  refine g_bipush (v := nI 12) fx dX1_isFull_4 (by decide +kernel) ?_
  refine g_icmp_lt fx 13 dX1_isFull_6 (by decide) (fun c6 => ?_) (fun c6 => ?_)
  · skip
    refine g_iconst (v := nI 0) fx dX1_isFull_13 (by decide +kernel) ?_
    refine g_zret fx rt dX1_isFull_14 rfl ?_
    refine gPip.mk ?_
    first | (rw [if_pos (by have := (nI_leI (by omega) (by omega)).mp (Int32.not_lt.mp c6); omega)]; rfl) | (rw [if_neg (by have := (nI_ltI (by omega) (by omega)).mp c6; omega)]; rfl)
  · skip
    refine g_iconst (v := nI 1) fx dX1_isFull_9 (by decide +kernel) ?_
    refine g_goto fx 14 dX1_isFull_10 (by decide) ?_
    refine g_zret fx rt dX1_isFull_14 rfl ?_
    refine gPip.mk ?_
    first | (rw [if_pos (by have := (nI_leI (by omega) (by omega)).mp (Int32.not_lt.mp c6); omega)]; rfl) | (rw [if_neg (by have := (nI_ltI (by omega) (by omega)).mp c6; omega)]; rfl)
set_option maxHeartbeats 4000000 in
set_option maxRecDepth 100000 in
theorem c_X1_has (B : gB) (ad : Nat → Nat) (ct : Nat → va_E) (n : Nat) (k : Nat) (o : Nat → Nat) (hn : 178 ≤ n) (hc : ct 115 = .inr (1, [.ref (ad 116), .ref (ad 117), .ref (ad 110), .int (nI k)])) (hcr : ct 116 = .inl (B.2.1 4, 12, .inr (.inr (.inr (.inr (fun i => some (ad (118 + 5 * i)))))))) (hco : ct 117 = .inl (B.2.1 0, 12, .inl (nF o))) (hk12 : k ≤ 12) (x : Int32) : Ctr B yX1_has cX1_has 2 (some .boolean) 0 0 0 0 ad ct n [.ref (ad 115), .int x] (gPip ad ct n (fun r => r = if 0 ≤ x.toInt ∧ x.toInt < (k : Int) then 1 else 0)) := by
  refine Ctr.ofG (L := [(0, .ref (ad 115)), (1, .int x)]) (by decide +kernel) rfl (Nat.le_of_ble_eq_true rfl) (fun E fx rt hnm => ?_)
  refine g_iload_n fx 1 dX1_has_0 rfl ?_
  refine g_if_lt fx 16 dX1_has_1 (by decide) (fun c1 => ?_) (fun c1 => ?_)
  · skip
    refine g_iconst (v := 0) fx dX1_has_16 (by decide +kernel) ?_
    have hk := nI_toInt (n := k) (by omega)
    refine g_zret fx rt dX1_has_17 rfl ?_
    refine gPip.mk ?_
    first | (rw [if_neg (by have := Int32.lt_iff_toInt_lt.mp c1; simp at this; omega)]; done) | (rw [if_neg (by have := Int32.le_iff_toInt_le.mp c9; omega)]; done) | (rw [if_pos (by have h1 := Int32.not_lt.mp c1; have h1 := Int32.le_iff_toInt_le.mp h1; have h2 := Int32.lt_iff_toInt_lt.mp (Int32.not_le.mp c9); simp at h1; omega)]; done)
  · skip
    refine g_iload_n fx 1 dX1_has_4 rfl ?_
    refine g_aload_n fx 0 dX1_has_5 rfl ?_
    refine g_get (r := 115) fx lkX1_26 (by omega) hc rfl dX1_has_6 ?_
    refine g_icmp_ge fx 16 dX1_has_9 (by decide) (fun c9 => ?_) (fun c9 => ?_)
    · skip
      refine g_iconst (v := 0) fx dX1_has_16 (by decide +kernel) ?_
      have hk := nI_toInt (n := k) (by omega)
      refine g_zret fx rt dX1_has_17 rfl ?_
      refine gPip.mk ?_
      first | (rw [if_neg (by have := Int32.lt_iff_toInt_lt.mp c1; simp at this; omega)]; done) | (rw [if_neg (by have := Int32.le_iff_toInt_le.mp c9; omega)]; done) | (rw [if_pos (by have h1 := Int32.not_lt.mp c1; have h1 := Int32.le_iff_toInt_le.mp h1; have h2 := Int32.lt_iff_toInt_lt.mp (Int32.not_le.mp c9); simp at h1; omega)]; done)
    · skip
      refine g_iconst (v := 1) fx dX1_has_12 (by decide +kernel) ?_
      refine g_goto fx 17 dX1_has_13 (by decide) ?_
      have hk := nI_toInt (n := k) (by omega)
      refine g_zret fx rt dX1_has_17 rfl ?_
      refine gPip.mk ?_
      first | (rw [if_neg (by have := Int32.lt_iff_toInt_lt.mp c1; simp at this; omega)]; done) | (rw [if_neg (by have := Int32.le_iff_toInt_le.mp c9; omega)]; done) | (rw [if_pos (by have h1 := Int32.not_lt.mp c1; have h1 := Int32.le_iff_toInt_le.mp h1; have h2 := Int32.lt_iff_toInt_lt.mp (Int32.not_le.mp c9); simp at h1; omega)]; done)
set_option maxHeartbeats 4000000 in
set_option maxRecDepth 100000 in
theorem c_X1_empty (B : gB) (ad : Nat → Nat) (ct : Nat → va_E) (n : Nat) (k : Nat) (o : Nat → Nat) (hn : 178 ≤ n) (hc : ct 115 = .inr (1, [.ref (ad 116), .ref (ad 117), .ref (ad 110), .int (nI k)])) (hcr : ct 116 = .inl (B.2.1 4, 12, .inr (.inr (.inr (.inr (fun i => some (ad (118 + 5 * i)))))))) (hco : ct 117 = .inl (B.2.1 0, 12, .inl (nF o))) (hk12 : k ≤ 12) : Ctr B yX1_empty cX1_empty 2 (some .int) 0 0 0 0 ad ct n [.ref (ad 115)] (gPi ad n (fun r ct' => r = nI k ∧ ct' = va_up ct 115 (.inr (1, [.ref (ad 116), .ref (ad 117), .ref (ad 110), .int (nI 0)])))) := by
  refine Ctr.ofG (L := [(0, .ref (ad 115))]) (by decide +kernel) rfl (Nat.le_of_ble_eq_true rfl) (fun E fx rt hnm => ?_)
  refine g_aload_n fx 0 dX1_empty_0 rfl ?_
  refine g_get (r := 115) fx lkX1_26 (by omega) hc rfl dX1_empty_1 ?_
  refine g_istore_n (L' := [(1, .int (nI k)), (0, .ref (ad 115))]) fx dX1_empty_4 (by decide) rfl ?_
  refine g_aload_n fx 1 dX1_empty_5 rfl ?_
  refine g_iconst (v := nI 0) fx dX1_empty_6 (by decide +kernel) ?_
  refine g_put (r := 115) (fs' := [.ref (ad 116), .ref (ad 117), .ref (ad 110), .int (nI 0)]) fx lpX1_26 (by omega) hc rfl rfl (Nat.le_of_ble_eq_true rfl) rfl dX1_empty_7 (fun cu1 ecu1 => ?_)
  have hc : cu1 115 = .inr (1, [.ref (ad 116), .ref (ad 117), .ref (ad 110), .int (nI 0)]) := by rw [ecu1, va_up_self]
  have hcr : cu1 116 = .inl (B.2.1 4, 12, .inr (.inr (.inr (.inr (fun i => some (ad (118 + 5 * i))))))) := (congrFun ecu1 _).trans ((va_up_ne _ _ (by omega)).trans hcr)
  have hco : cu1 117 = .inl (B.2.1 0, 12, .inl (nF o)) := (congrFun ecu1 _).trans ((va_up_ne _ _ (by omega)).trans hco)
  refine g_iload_n fx 0 dX1_empty_10 rfl ?_
  refine g_iret fx rt dX1_empty_11 ?_
  exact gPi.mk ⟨rfl, ecu1⟩
set_option maxHeartbeats 4000000 in
set_option maxRecDepth 100000 in
theorem c_X1_placeOf (B : gB) (ad : Nat → Nat) (ct : Nat → va_E) (n : Nat) (k : Nat) (o : Nat → Nat) (hn : 178 ≤ n) (hc : ct 115 = .inr (1, [.ref (ad 116), .ref (ad 117), .ref (ad 110), .int (nI k)])) (hcr : ct 116 = .inl (B.2.1 4, 12, .inr (.inr (.inr (.inr (fun i => some (ad (118 + 5 * i)))))))) (hco : ct 117 = .inl (B.2.1 0, 12, .inl (nF o))) (hk12 : k ≤ 12) (i : Nat) (hi : i < 2 ^ 30) (ho : ∀ j, j < k → o j < 12) : Ctr B yX1_placeOf cX1_placeOf 3 (some .int) 0 0 0 0 ad ct n [.ref (ad 115), .int (nI i)] (gPip ad ct n (fun r => ∃ j : Nat, r = nI j ∧ j ≤ k ∧ (j < k → o j = i) ∧ ∀ j2, j2 < j → ¬ o j2 = i)) := by
  refine Ctr.ofG (L := [(0, .ref (ad 115)), (1, .int (nI i))]) (by decide +kernel) rfl (Nat.le_of_ble_eq_true rfl) (fun E fx rt hnm => ?_)
  refine g_iconst (v := nI 0) fx dX1_placeOf_0 (by decide +kernel) ?_
  refine g_istore_n (L' := [(2, .int (nI 0)), (0, .ref (ad 115)), (1, .int (nI i))]) fx dX1_placeOf_1 (by decide) rfl ?_
  have LP2 : ∀ (M : Nat) (j : Nat), (j ≤ k) → (∀ j2, j2 < j → ¬ o j2 = i) →  (k - j) < M → G B 3 E ad ct n 0 0 [(0, .ref (ad 115)), (1, .int (nI i)), (2, .int (nI j))] 2 [] := by
    intro M
    induction M with
    | zero => intro j _ _ hM; exact absurd hM (Nat.not_lt_zero _)
    | succ M ih =>
      intro j hj hno hM
      have ih2 := ih
      refine g_iload_n fx 2 dX1_placeOf_2 rfl ?_
      refine g_aload_n fx 0 dX1_placeOf_3 rfl ?_
      refine g_get (r := 115) fx lkX1_26 (by omega) hc rfl dX1_placeOf_4 ?_
      refine g_icmp_ge fx 28 dX1_placeOf_7 (by decide) (fun c7 => ?_) (fun c7 => ?_)
      · skip
        have hje : j = k := by have := (nI_leI (by omega) (by omega)).mp c7; omega
        refine g_aload_n fx 0 dX1_placeOf_28 rfl ?_
        refine g_get (r := 115) fx lkX1_26 (by omega) hc rfl dX1_placeOf_29 ?_
        refine g_iret fx rt dX1_placeOf_32 ?_
        refine gPip.mk ?_
        exact ⟨k, rfl, Nat.le_refl _, fun h => absurd h (by omega), by rw [← hje]; exact hno⟩
      · skip
        have hlt : j < k := (nI_ltI (by omega) (by omega)).mp (Int32.not_le.mp c7)
        have hoj := ho j hlt
        refine g_aload_n fx 0 dX1_placeOf_10 rfl ?_
        refine g_get (r := 115) fx lkX1_17 (by omega) hc rfl dX1_placeOf_11 ?_
        refine g_iload_n fx 2 dX1_placeOf_14 rfl ?_
        refine g_iald (r := 117) (j := j) fx (by omega) hco (nI_toInt (by omega)) (by omega) dX1_placeOf_15 ?_
        refine g_isi (y := nI (o j)) rfl ?_
        refine g_iload_n fx 1 dX1_placeOf_16 rfl ?_
        refine g_icmp_ne fx 22 dX1_placeOf_17 (by decide) (fun c17 => ?_) (fun c17 => ?_)
        · skip
          have hne : ¬ o j = i := fun q => c17 (by rw [q])
          refine g_iinc (L' := [(2, .int (nI (j + 1))), (0, .ref (ad 115)), (1, .int (nI i))]) fx (nI (j + 1)) 2 dX1_placeOf_22 rfl (gInc _) (by decide) rfl ?_
          refine g_goto fx 2 dX1_placeOf_25 (by decide) ?_
          refine g_locals (L' := [(0, .ref (ad 115)), (1, .int (nI i)), (2, .int (nI (j + 1)))]) [1, 2, 0] rfl ?_
          exact ih2 (j + 1) (by omega) (fun j2 h => by by_cases q : j2 = j; (rw [q]; exact hne); (exact hno j2 (by omega))) (by omega)
        · skip
          have heq : o j = i := (nI_eq (by omega) (by omega)).mp c17
          refine g_iload_n fx 2 dX1_placeOf_20 rfl ?_
          refine g_iret fx rt dX1_placeOf_21 ?_
          refine gPip.mk ?_
          exact ⟨j, rfl, hj, fun _ => heq, hno⟩
  refine g_locals (L' := [(0, .ref (ad 115)), (1, .int (nI i)), (2, .int (nI 0))]) [1, 2, 0] rfl ?_
  exact LP2 (k + 1) 0 (by omega) (fun j2 h => absurd h (by omega)) (by omega)
set_option maxHeartbeats 4000000 in
set_option maxRecDepth 100000 in
theorem c_X1_countRejected (B : gB) (ad : Nat → Nat) (ct : Nat → va_E) (n : Nat) (k : Nat) (o : Nat → Nat) (hn : 178 ≤ n) (hc : ct 115 = .inr (1, [.ref (ad 116), .ref (ad 117), .ref (ad 110), .int (nI k)])) (hcr : ct 116 = .inl (B.2.1 4, 12, .inr (.inr (.inr (.inr (fun i => some (ad (118 + 5 * i)))))))) (hco : ct 117 = .inl (B.2.1 0, 12, .inl (nF o))) (hk12 : k ≤ 12) (s0 : ct 110 = .inr (7, [.ref (ad 111), .ref (ad 113)])) (x y : Nat) (sl : isW B ad ct 111 x) (sr : isW B ad ct 113 y) (U V : Nat → Nat) (hN : ∀ i, i < 12 → isFr B ad ct (118 + 5 * i) (U i) (V i)) (hB : ∀ i, i < 12 → U i < 2 ^ 180 ∧ V i < 2 ^ 180) (ho : ∀ j, j < k → o j < 12) (u v : Nat) (hu : u ≤ 1000000) (hv : v ≤ 1000000) : Ctr B yX1_countRejected cX1_countRejected 6 (some .int) 4 101 0 0 ad ct n [.ref (ad 115), .int (nI u), .int (nI v)] (gPi ad n (fun r ct' => (∃ q : Nat, r = nI q ∧ q ≤ k ∧ (∀ j, j < q → U (o j) * v * (k - j) ≤ V (o j) * u) ∧ (q < k → ¬ U (o q) * v * (k - q) ≤ V (o q) * u)) ∧ ∃ x' y', ct' 110 = .inr (7, [.ref (ad 111), .ref (ad 113)]) ∧ isW B ad ct' 111 x' ∧ isW B ad ct' 113 y' ∧ ∀ r, r < 111 ∨ 114 < r → ct' r = ct r)) := by
  refine Ctr.ofG (L := [(0, .ref (ad 115)), (1, .int (nI u)), (2, .int (nI v))]) (by decide +kernel) rfl (Nat.le_of_ble_eq_true rfl) (fun E fx rt hnm => ?_)
  refine g_iconst (v := nI 0) fx dX1_countRejected_0 (by decide +kernel) ?_
  refine g_istore_n (L' := [(3, .int (nI 0)), (0, .ref (ad 115)), (1, .int (nI u)), (2, .int (nI v))]) fx dX1_countRejected_1 (by decide) rfl ?_
  have LP2 : ∀ (M : Nat) (j x1 y1 : Nat) (ct1 : Nat → va_E), (j ≤ k) → (∀ j2, j2 < j → U (o j2) * v * (k - j2) ≤ V (o j2) * u) → (ct1 110 = .inr (7, [.ref (ad 111), .ref (ad 113)])) → (isW B ad ct1 111 x1) → (isW B ad ct1 113 y1) → (ct1 115 = .inr (1, [.ref (ad 116), .ref (ad 117), .ref (ad 110), .int (nI k)])) → (ct1 116 = .inl (B.2.1 4, 12, .inr (.inr (.inr (.inr (fun i => some (ad (118 + 5 * i)))))))) → (ct1 117 = .inl (B.2.1 0, 12, .inl (nF o))) → (∀ r, r < 111 ∨ 114 < r → ct1 r = ct r) →  (k - j) < M → G B 6 E ad ct1 n 0 0 [(0, .ref (ad 115)), (1, .int (nI u)), (2, .int (nI v)), (3, .int (nI j))] 2 [] := by
    intro M
    induction M with
    | zero => intro j x1 y1 ct1 _ _ _ _ _ _ _ _ _ hM; exact absurd hM (Nat.not_lt_zero _)
    | succ M ih =>
      intro j x1 y1 ct1 hj hall s0 sl sr hc hcr hco hfr hM
      have ih2 := ih
      refine g_iload_n fx 3 dX1_countRejected_2 rfl ?_
      refine g_aload_n fx 0 dX1_countRejected_3 rfl ?_
      refine g_get (r := 115) fx lkX1_26 (by omega) hc rfl dX1_countRejected_4 ?_
      refine g_icmp_ge fx 55 dX1_countRejected_7 (by decide) (fun c7 => ?_) (fun c7 => ?_)
      · skip
        have hje : j = k := by have := (nI_leI (by omega) (by omega)).mp c7; omega
        refine g_aload_n fx 0 dX1_countRejected_55 rfl ?_
        refine g_get (r := 115) fx lkX1_26 (by omega) hc rfl dX1_countRejected_56 ?_
        refine g_iret fx rt dX1_countRejected_59 ?_
        exact gPi.mk ⟨⟨k, rfl, Nat.le_refl _, fun j2 h2 => hall j2 (by omega), fun h => absurd h (by omega)⟩, _, _, s0, sl, sr, hfr⟩
      · skip
        have hlt : j < k := (nI_ltI (by omega) (by omega)).mp (Int32.not_le.mp c7)
        have hoj := ho j hlt
        have hFr := (hN (o j) hoj).other (ct' := ct1) (fun r h1 h2 => hfr r (by omega))
        have hBd := hB (o j) hoj
        refine g_aload_n fx 0 dX1_countRejected_10 rfl ?_
        refine g_get (r := 115) fx lkX1_26 (by omega) hc rfl dX1_countRejected_11 ?_
        refine g_iload_n fx 3 dX1_countRejected_14 rfl ?_
        refine g_isubN fx dX1_countRejected_15 (by omega) ?_
        refine g_i2l fx dX1_countRejected_16 ?_
        refine g_isl (y := lN (k - j)) (nI_l (by omega)) ?_
        refine g_lstore (L' := [(4, .long (lN (k - j))), (0, .ref (ad 115)), (1, .int (nI u)), (2, .int (nI v)), (3, .int (nI j))]) fx dX1_countRejected_17 (by decide) rfl ?_
        refine g_aload_n fx 1 dX1_countRejected_19 rfl ?_
        refine g_get (r := 115) fx lkX1_21 (by omega) hc rfl dX1_countRejected_20 ?_
        refine g_aload_n fx 1 dX1_countRejected_23 rfl ?_
        refine g_get (r := 115) fx lkX1_11 (by omega) hc rfl dX1_countRejected_24 ?_
        refine g_aload_n fx 1 dX1_countRejected_27 rfl ?_
        refine g_get (r := 115) fx lkX1_17 (by omega) hc rfl dX1_countRejected_28 ?_
        refine g_iload_n fx 4 dX1_countRejected_31 rfl ?_
        refine g_iald (r := 117) (j := j) fx (by omega) hco (nI_toInt (by omega)) (by omega) dX1_countRejected_32 ?_
        refine g_isi (y := nI (o j)) rfl ?_
        refine g_aald (r := 116) (j := (o j)) (t0 := 4) fx rfl (by omega) hcr (nI_toInt (by omega)) (by omega) rfl dX1_countRejected_33 ?_
        refine g_iload_n fx 2 dX1_countRejected_34 rfl ?_
        refine g_i2l fx dX1_countRejected_35 ?_
        refine g_isl (y := lN u) (nI_l (by omega)) ?_
        refine g_iload_n fx 3 dX1_countRejected_36 rfl ?_
        refine g_i2l fx dX1_countRejected_37 ?_
        refine g_isl (y := lN v) (nI_l (by omega)) ?_
        refine g_lload fx 0 dX1_countRejected_38 rfl ?_
        refine g_lmul fx dX1_countRejected_40 ?_
        refine g_isl (y := lN (v * (k - j))) (lN_mul _ _) ?_
        have hvk : v * (k - j) ≤ 12000000 := Nat.mul_le_mul hv (show k - j ≤ 12 by omega)
        refine g_callVi (As := [.ref (ad (118 + 5 * (o j))), .long (lN u), .long (lN (v * (k - j)))]) (rest := []) fx slX1_44 (c_X7_compareToLevel B ad ct1 n hn s0 x1 y1 sl sr (118 + 5 * o j) (U (o j)) (V (o j)) (by omega) (by omega) hFr.1 hFr.2.1 hFr.2.2 u (v * (k - j)) (by omega) (by omega) (lev hBd.1 (Nat.lt_of_le_of_lt hvk (by decide))) (lev hBd.2 (Nat.lt_of_le_of_lt hu (by decide)))) (by omega) s0 rfl rfl rfl (Nat.le_of_ble_eq_true rfl) ⟨by decide, by decide⟩ ⟨by decide, by decide⟩ dX1_countRejected_41 (fun q1 ct2 hq1 => ?_)
        obtain ⟨eq1, x2, y2, s0, sl, sr, hs2⟩ := hq1
        have hc : ct2 115 = .inr (1, [.ref (ad 116), .ref (ad 117), .ref (ad 110), .int (nI k)]) := (hs2 115 (by omega)).trans hc
        have hcr : ct2 116 = .inl (B.2.1 4, 12, .inr (.inr (.inr (.inr (fun i => some (ad (118 + 5 * i))))))) := (hs2 116 (by omega)).trans hcr
        have hco : ct2 117 = .inl (B.2.1 0, 12, .inl (nF o)) := (hs2 117 (by omega)).trans hco
        have hfr : ∀ r, r < 111 ∨ 114 < r → ct2 r = ct r := fun r h => (hs2 r h).trans (hfr r h)
        rw [← Nat.mul_assoc] at eq1
        refine g_if_le fx 49 dX1_countRejected_44 (by decide) (fun c44 => ?_) (fun c44 => ?_)
        · skip
          have hle : U (o j) * v * (k - j) ≤ V (o j) * u := cmp_nonpos.mp (eq1 ▸ c44)
          refine g_iinc (L' := [(3, .int (nI (j + 1))), (4, .long (lN (k - j))), (0, .ref (ad 115)), (1, .int (nI u)), (2, .int (nI v))]) fx (nI (j + 1)) 4 dX1_countRejected_49 rfl (gInc _) (by decide) rfl ?_
          refine g_goto fx 2 dX1_countRejected_52 (by decide) ?_
          refine g_locals (L' := [(0, .ref (ad 115)), (1, .int (nI u)), (2, .int (nI v)), (3, .int (nI (j + 1)))]) [2, 3, 4, 0] rfl ?_
          exact ih2 (j + 1) _ _ _ (by omega) (fun j2 h => by by_cases q : j2 = j; (rw [q]; exact hle); (exact hall j2 (by omega))) s0 sl sr hc hcr hco hfr (by omega)
        · skip
          have hgt : ¬ U (o j) * v * (k - j) ≤ V (o j) * u := fun w => c44 (eq1 ▸ cmp_nonpos.mpr w)
          refine g_iload_n fx 4 dX1_countRejected_47 rfl ?_
          refine g_iret fx rt dX1_countRejected_48 ?_
          exact gPi.mk ⟨⟨j, rfl, hj, hall, fun _ => hgt⟩, _, _, s0, sl, sr, hfr⟩
  refine g_locals (L' := [(0, .ref (ad 115)), (1, .int (nI u)), (2, .int (nI v)), (3, .int (nI 0))]) [1, 2, 3, 0] rfl ?_
  exact LP2 (k + 1) 0 x y ct (by omega) (fun j2 h => absurd h (by omega)) s0 sl sr hc hcr hco (fun _ _ => rfl) (by omega)
set_option maxHeartbeats 4000000 in
set_option maxRecDepth 100000 in
theorem c_X1_add (B : gB) (ad : Nat → Nat) (ct : Nat → va_E) (n : Nat) (k : Nat) (o : Nat → Nat) (hn : 178 ≤ n) (hc : ct 115 = .inr (1, [.ref (ad 116), .ref (ad 117), .ref (ad 110), .int (nI k)])) (hcr : ct 116 = .inl (B.2.1 4, 12, .inr (.inr (.inr (.inr (fun i => some (ad (118 + 5 * i)))))))) (hco : ct 117 = .inl (B.2.1 0, 12, .inl (nF o))) (hk12 : k ≤ 12) (s0 : ct 110 = .inr (7, [.ref (ad 111), .ref (ad 113)])) (x y : Nat) (sl : isW B ad ct 111 x) (sr : isW B ad ct 113 y) (U V : Nat → Nat) (hN : ∀ i, i < 12 → isFr B ad ct (118 + 5 * i) (U i) (V i)) (hB : ∀ i, i < 12 → U i < 2 ^ 180 ∧ V i < 2 ^ 180) (ho : ∀ j, j < k → o j < k) (p u l : Nat) (hnp : p + 4 < n) (hap : p + 4 < 110 ∨ 114 < p) (hp0 : ct p = .inr (2, [.ref (ad (p + 1)), .ref (ad (p + 3))])) (hpU : isW B ad ct (p + 1) u) (hpL : isW B ad ct (p + 3) l) (hpr : p + 4 < 110) (hub : u < 2 ^ 180) (hlb : l < 2 ^ 180) : Ctr B yX1_add cX1_add 3 (some .int) 4 96 0 0 ad ct n [.ref (ad 115), .ref (ad p)] (gPi ad n (fun r ct' => (12 ≤ k ∧ r = nI k ∧ ct' = ct) ∨ (k < 12 ∧ r = nI (k + 1) ∧ ct' 115 = .inr (1, [.ref (ad 116), .ref (ad 117), .ref (ad 110), .int (nI (k + 1))]) ∧ ct' 117 = .inl (B.2.1 0, 12, .inl (nF (insR (ltF (va_up U k u) (va_up V k l)) k k o))) ∧ (∀ i, i < 12 → isFr B ad ct' (118 + 5 * i) ((va_up U k u) i) ((va_up V k l) i)) ∧ ct' 110 = .inr (7, [.ref (ad 111), .ref (ad 113)]) ∧ (∃ x' y', isW B ad ct' 111 x' ∧ isW B ad ct' 113 y') ∧ ∀ r, r < 111 ∨ r = 116 ∨ 177 < r → ct' r = ct r))) := by
  refine Ctr.ofG (L := [(0, .ref (ad 115)), (1, .ref (ad p))]) (by decide +kernel) rfl (Nat.le_of_ble_eq_true rfl) (fun E fx rt hnm => ?_)
  refine g_aload_n fx 0 dX1_add_0 rfl ?_
  refine g_callVip (As := []) (rest := []) fx slX1_30 (c_X1_isFull B ad ct n k o hn hc hcr hco hk12) (by omega) hc rfl rfl rfl (Nat.le_of_ble_eq_true rfl) ⟨by decide, by decide⟩ ⟨by decide, by decide⟩ dX1_add_1 (fun q1 hq1 => ?_)
  refine g_if_eq fx 12 dX1_add_4 (by decide) (fun c4 => ?_) (fun c4 => ?_)
  · skip
    have hlt : ¬ 12 ≤ k := if01_z.mp (hq1 ▸ c4)
    have hFk := hN k (by omega)
    refine g_aload_n fx 0 dX1_add_12 rfl ?_
    refine g_get (r := 115) fx lkX1_11 (by omega) hc rfl dX1_add_13 ?_
    refine g_aload_n fx 0 dX1_add_16 rfl ?_
    refine g_get (r := 115) fx lkX1_26 (by omega) hc rfl dX1_add_17 ?_
    refine g_aald (r := 116) (j := k) (t0 := 4) fx rfl (by omega) hcr (nI_toInt (by omega)) (by omega) rfl dX1_add_20 ?_
    have hk0 := hFk.1
    refine g_aload_n fx 1 dX1_add_21 rfl ?_
    refine g_callVv (As := [.ref (ad p)]) (rest := []) fx slX1_34 (c_X2_copy B ad ct n (118 + 5 * k) (U k) (V k) (by omega) hFk.1 hFk.2.1 hFk.2.2 p u l (by omega) hnp ⟨hp0, hpU, hpL⟩) (by omega) hk0 rfl rfl rfl (Nat.le_of_ble_eq_true rfl) ⟨by decide, by decide⟩ ⟨by decide, by decide⟩ dX1_add_22 (fun ct1 hz1 => ?_)
    obtain ⟨hF1, hs1⟩ := hz1
    have hN : ∀ i, i < 12 → isFr B ad ct1 (118 + 5 * i) ((va_up U k u) i) ((va_up V k l) i) := fun i hi => by
      by_cases q : i = k
      · subst q; rw [va_up_self, va_up_self]; exact hF1
      · rw [va_up_ne _ _ q, va_up_ne _ _ q]; exact (hN i hi).other (fun r h1 h2 => hs1 r (by omega))
    have hB : ∀ i, i < 12 → (va_up U k u) i < 2 ^ 180 ∧ (va_up V k l) i < 2 ^ 180 := fun i hi => by
      by_cases q : i = k
      · subst q; rw [va_up_self, va_up_self]; exact ⟨hub, hlb⟩
      · rw [va_up_ne _ _ q, va_up_ne _ _ q]; exact hB i hi
    have s0 : ct1 110 = .inr (7, [.ref (ad 111), .ref (ad 113)]) := (hs1 110 (by omega)).trans s0
    have sl : isW B ad ct1 111 x := sl.frame (hs1 _ (by omega)) (hs1 _ (by omega))
    have sr : isW B ad ct1 113 y := sr.frame (hs1 _ (by omega)) (hs1 _ (by omega))
    have hp0 : ct1 p = .inr (2, [.ref (ad (p + 1)), .ref (ad (p + 3))]) := (hs1 p (by omega)).trans hp0
    have hpU : isW B ad ct1 (p + 1) u := hpU.frame (hs1 _ (by omega)) (hs1 _ (by omega))
    have hpL : isW B ad ct1 (p + 3) l := hpL.frame (hs1 _ (by omega)) (hs1 _ (by omega))
    have hc : ct1 115 = .inr (1, [.ref (ad 116), .ref (ad 117), .ref (ad 110), .int (nI k)]) := (hs1 115 (by omega)).trans hc
    have hcr : ct1 116 = .inl (B.2.1 4, 12, .inr (.inr (.inr (.inr (fun i => some (ad (118 + 5 * i))))))) := (hs1 116 (by omega)).trans hcr
    have hco : ct1 117 = .inl (B.2.1 0, 12, .inl (nF o)) := (hs1 117 (by omega)).trans hco
    have hfr : ∀ r, r < 111 ∨ r = 116 ∨ 177 < r → ct1 r = ct r := fun r h => hs1 r (by omega)
    refine g_aload_n fx 0 dX1_add_25 rfl ?_
    refine g_get (r := 115) fx lkX1_26 (by omega) hc rfl dX1_add_26 ?_
    refine g_istore_n (L' := [(2, .int (nI k)), (0, .ref (ad 115)), (1, .ref (ad p))]) fx dX1_add_29 (by decide) rfl ?_
    have LP30 : ∀ (M : Nat) (pl x1 y1 : Nat) (ct2 : Nat → va_E) (o2 : Nat → Nat), (pl ≤ k) → (insR (ltF (va_up U k u) (va_up V k l)) k pl o2 = insR (ltF (va_up U k u) (va_up V k l)) k k o) → (∀ j, j < pl → o2 j < k) → (ct2 110 = .inr (7, [.ref (ad 111), .ref (ad 113)])) → (isW B ad ct2 111 x1) → (isW B ad ct2 113 y1) → (ct2 115 = .inr (1, [.ref (ad 116), .ref (ad 117), .ref (ad 110), .int (nI k)])) → (ct2 116 = .inl (B.2.1 4, 12, .inr (.inr (.inr (.inr (fun i => some (ad (118 + 5 * i)))))))) → (ct2 117 = .inl (B.2.1 0, 12, .inl (nF o2))) → (ct2 p = .inr (2, [.ref (ad (p + 1)), .ref (ad (p + 3))])) → (isW B ad ct2 (p + 1) u) → (isW B ad ct2 (p + 3) l) → (∀ i, i < 12 → isFr B ad ct2 (118 + 5 * i) ((va_up U k u) i) ((va_up V k l) i)) → (∀ r, r < 111 ∨ r = 116 ∨ 177 < r → ct2 r = ct r) →  pl < M → G B 3 E ad ct2 n 0 0 [(0, .ref (ad 115)), (1, .ref (ad p)), (2, .int (nI pl))] 30 [] := by
      intro M
      induction M with
      | zero => intro pl x1 y1 ct2 o2 _ _ _ _ _ _ _ _ _ _ _ _ _ _ hM; exact absurd hM (Nat.not_lt_zero _)
      | succ M ih =>
        intro pl x1 y1 ct2 o2 hpl hins ho2 s0 sl sr hc hcr hco hp0 hpU hpL hN hfr hM
        have ih30 := ih
        refine g_iload_n fx 2 dX1_add_30 rfl ?_
        refine g_if_le fx 78 dX1_add_31 (by decide) (fun c31 => ?_) (fun c31 => ?_)
        · skip
          have hp00 : pl = 0 := by have := (nI_leI (b := 0) (by omega) (by omega)).mp c31; omega
          have hend : insR (ltF (va_up U k u) (va_up V k l)) k pl o2 = va_up o2 pl k := by rw [hp00]; exact insR_0
          refine g_aload_n fx 0 dX1_add_78 rfl ?_
          refine g_get (r := 115) fx lkX1_17 (by omega) hc rfl dX1_add_79 ?_
          refine g_iload_n fx 2 dX1_add_82 rfl ?_
          refine g_aload_n fx 0 dX1_add_83 rfl ?_
          refine g_get (r := 115) fx lkX1_26 (by omega) hc rfl dX1_add_84 ?_
          refine g_iast (r := 117) (j := pl) fx (by omega) hco (nI_toInt (by omega)) (by omega) dX1_add_87 (fun ct5 ect5 => ?_)
          have hc : ct5 115 = .inr (1, [.ref (ad 116), .ref (ad 117), .ref (ad 110), .int (nI k)]) := (congrFun ect5 _).trans ((va_up_ne _ _ (by omega)).trans hc)
          have hcr : ct5 116 = .inl (B.2.1 4, 12, .inr (.inr (.inr (.inr (fun i => some (ad (118 + 5 * i))))))) := (congrFun ect5 _).trans ((va_up_ne _ _ (by omega)).trans hcr)
          have hco : ct5 117 = .inl (B.2.1 0, 12, .inl (nF (va_up o2 pl k))) := by rw [ect5, va_up_self, nF_up]
          have s0 : ct5 110 = .inr (7, [.ref (ad 111), .ref (ad 113)]) := (congrFun ect5 _).trans ((va_up_ne _ _ (by omega)).trans s0)
          have hp0 : ct5 p = .inr (2, [.ref (ad (p + 1)), .ref (ad (p + 3))]) := (congrFun ect5 _).trans ((va_up_ne _ _ (by omega)).trans hp0)
          have hsU : ∀ r, r ≠ 117 → ct5 r = ct2 r := fun r h => (congrFun ect5 r).trans (va_up_ne _ _ h)
          have sl : isW B ad ct5 111 x1 := sl.frame (hsU _ (by omega)) (hsU _ (by omega))
          have sr : isW B ad ct5 113 y1 := sr.frame (hsU _ (by omega)) (hsU _ (by omega))
          have hpU : isW B ad ct5 (p + 1) u := hpU.frame (hsU _ (by omega)) (hsU _ (by omega))
          have hpL : isW B ad ct5 (p + 3) l := hpL.frame (hsU _ (by omega)) (hsU _ (by omega))
          have hN : ∀ i, i < 12 → isFr B ad ct5 (118 + 5 * i) ((va_up U k u) i) ((va_up V k l) i) := fun i hi => (hN i hi).other (fun r h1 h2 => hsU r (by omega))
          have hfr : ∀ r, r < 111 ∨ r = 116 ∨ 177 < r → ct5 r = ct r := fun r h => (hsU r (by omega)).trans (hfr r h)
          refine g_aload_n fx 0 dX1_add_88 rfl ?_
          refine g_dup fx dX1_add_89 rfl ?_
          refine g_get (r := 115) fx lkX1_26 (by omega) hc rfl dX1_add_90 ?_
          refine g_iconst (v := nI 1) fx dX1_add_93 (by decide +kernel) ?_
          refine g_iaddN fx dX1_add_94 ?_
          refine g_put (r := 115) (fs' := [.ref (ad 116), .ref (ad 117), .ref (ad 110), .int (nI (k + 1))]) fx lpX1_26 (by omega) hc rfl rfl (Nat.le_of_ble_eq_true rfl) rfl dX1_add_95 (fun ct6 ect6 => ?_)
          have hc : ct6 115 = .inr (1, [.ref (ad 116), .ref (ad 117), .ref (ad 110), .int (nI (k + 1))]) := by rw [ect6, va_up_self]
          have hcr : ct6 116 = .inl (B.2.1 4, 12, .inr (.inr (.inr (.inr (fun i => some (ad (118 + 5 * i))))))) := (congrFun ect6 _).trans ((va_up_ne _ _ (by omega)).trans hcr)
          have hco : ct6 117 = .inl (B.2.1 0, 12, .inl (nF (va_up o2 pl k))) := (congrFun ect6 _).trans ((va_up_ne _ _ (by omega)).trans hco)
          have s0 : ct6 110 = .inr (7, [.ref (ad 111), .ref (ad 113)]) := (congrFun ect6 _).trans ((va_up_ne _ _ (by omega)).trans s0)
          have hp0 : ct6 p = .inr (2, [.ref (ad (p + 1)), .ref (ad (p + 3))]) := (congrFun ect6 _).trans ((va_up_ne _ _ (by omega)).trans hp0)
          have hsU : ∀ r, r ≠ 115 → ct6 r = ct5 r := fun r h => (congrFun ect6 r).trans (va_up_ne _ _ h)
          have sl : isW B ad ct6 111 x1 := sl.frame (hsU _ (by omega)) (hsU _ (by omega))
          have sr : isW B ad ct6 113 y1 := sr.frame (hsU _ (by omega)) (hsU _ (by omega))
          have hpU : isW B ad ct6 (p + 1) u := hpU.frame (hsU _ (by omega)) (hsU _ (by omega))
          have hpL : isW B ad ct6 (p + 3) l := hpL.frame (hsU _ (by omega)) (hsU _ (by omega))
          have hN : ∀ i, i < 12 → isFr B ad ct6 (118 + 5 * i) ((va_up U k u) i) ((va_up V k l) i) := fun i hi => (hN i hi).other (fun r h1 h2 => hsU r (by omega))
          have hfr : ∀ r, r < 111 ∨ r = 116 ∨ 177 < r → ct6 r = ct r := fun r h => (hsU r (by omega)).trans (hfr r h)
          refine g_aload_n fx 0 dX1_add_98 rfl ?_
          refine g_get (r := 115) fx lkX1_26 (by omega) hc rfl dX1_add_99 ?_
          refine g_iret fx rt dX1_add_102 ?_
          rw [← hins, hend]
          exact gPi.mk (Or.inr ⟨by omega, rfl, hc, hco, hN, s0, ⟨_, _, sl, sr⟩, hfr⟩)
        · skip
          have hpp : 0 < pl := (nI_ltI (a := 0) (by omega) (by omega)).mp (Int32.not_le.mp c31)
          have hoj := ho2 (pl - 1) (by omega)
          have hFr := hN (o2 (pl - 1)) (by omega)
          have hBd := hB (o2 (pl - 1)) (by omega)
          refine g_aload_n fx 0 dX1_add_34 rfl ?_
          refine g_get (r := 115) fx lkX1_21 (by omega) hc rfl dX1_add_35 ?_
          refine g_aload_n fx 1 dX1_add_38 rfl ?_
          refine g_aload_n fx 0 dX1_add_39 rfl ?_
          refine g_get (r := 115) fx lkX1_11 (by omega) hc rfl dX1_add_40 ?_
          refine g_aload_n fx 0 dX1_add_43 rfl ?_
          refine g_get (r := 115) fx lkX1_17 (by omega) hc rfl dX1_add_44 ?_
          refine g_iload_n fx 2 dX1_add_47 rfl ?_
          refine g_iconst (v := nI 1) fx dX1_add_48 (by decide +kernel) ?_
          refine g_isubN fx dX1_add_49 (by omega) ?_
          refine g_iald (r := 117) (j := (pl - 1)) fx (by omega) hco (nI_toInt (by omega)) (by omega) dX1_add_50 ?_
          refine g_isi (y := nI (o2 (pl - 1))) rfl ?_
          refine g_aald (r := 116) (j := (o2 (pl - 1))) (t0 := 4) fx rfl (by omega) hcr (nI_toInt (by omega)) (by omega) rfl dX1_add_51 ?_
          refine g_callVi (As := [.ref (ad p), .ref (ad (118 + 5 * (o2 (pl - 1))))]) (rest := []) fx slX1_38 (c_X7_compareChances B ad ct2 n hn s0 x1 y1 sl sr p u l hnp hap hp0 hpU hpL (118 + 5 * o2 (pl - 1)) ((va_up U k u) (o2 (pl - 1))) ((va_up V k l) (o2 (pl - 1))) (by omega) (by omega) hFr.1 hFr.2.1 hFr.2.2 (lev hub hBd.2) (lev hBd.1 hlb)) (by omega) s0 rfl rfl rfl (Nat.le_of_ble_eq_true rfl) ⟨by decide, by decide⟩ ⟨by decide, by decide⟩ dX1_add_52 (fun q3 ct3 hq3 => ?_)
          obtain ⟨eq3, x2, y2, s0, sl, sr, hs3⟩ := hq3
          have hc : ct3 115 = .inr (1, [.ref (ad 116), .ref (ad 117), .ref (ad 110), .int (nI k)]) := (hs3 115 (by omega)).trans hc
          have hcr : ct3 116 = .inl (B.2.1 4, 12, .inr (.inr (.inr (.inr (fun i => some (ad (118 + 5 * i))))))) := (hs3 116 (by omega)).trans hcr
          have hco : ct3 117 = .inl (B.2.1 0, 12, .inl (nF o2)) := (hs3 117 (by omega)).trans hco
          have hp0 : ct3 p = .inr (2, [.ref (ad (p + 1)), .ref (ad (p + 3))]) := (hs3 p (by omega)).trans hp0
          have hpU : isW B ad ct3 (p + 1) u := hpU.frame (hs3 _ (by omega)) (hs3 _ (by omega))
          have hpL : isW B ad ct3 (p + 3) l := hpL.frame (hs3 _ (by omega)) (hs3 _ (by omega))
          have hN : ∀ i, i < 12 → isFr B ad ct3 (118 + 5 * i) ((va_up U k u) i) ((va_up V k l) i) := fun i hi => (hN i hi).other (fun r h1 h2 => hs3 r (by omega))
          have hfr : ∀ r, r < 111 ∨ r = 116 ∨ 177 < r → ct3 r = ct r := fun r h => (hs3 r (by omega)).trans (hfr r h)
          refine g_if_ge fx 78 dX1_add_55 (by decide) (fun c55 => ?_) (fun c55 => ?_)
          · skip
            have hltf : (ltF (va_up U k u) (va_up V k l)) k (o2 (pl - 1)) = false := decide_eq_false (fun w => by rw [va_up_self, va_up_self] at w; exact Int32.not_lt.mpr (eq3 ▸ c55) (cmp_neg.mpr w))
            have hend : insR (ltF (va_up U k u) (va_up V k l)) k pl o2 = va_up o2 pl k := insR_f hpp hltf
            refine g_aload_n fx 0 dX1_add_78 rfl ?_
            refine g_get (r := 115) fx lkX1_17 (by omega) hc rfl dX1_add_79 ?_
            refine g_iload_n fx 2 dX1_add_82 rfl ?_
            refine g_aload_n fx 0 dX1_add_83 rfl ?_
            refine g_get (r := 115) fx lkX1_26 (by omega) hc rfl dX1_add_84 ?_
            refine g_iast (r := 117) (j := pl) fx (by omega) hco (nI_toInt (by omega)) (by omega) dX1_add_87 (fun ct5 ect5 => ?_)
            have hc : ct5 115 = .inr (1, [.ref (ad 116), .ref (ad 117), .ref (ad 110), .int (nI k)]) := (congrFun ect5 _).trans ((va_up_ne _ _ (by omega)).trans hc)
            have hcr : ct5 116 = .inl (B.2.1 4, 12, .inr (.inr (.inr (.inr (fun i => some (ad (118 + 5 * i))))))) := (congrFun ect5 _).trans ((va_up_ne _ _ (by omega)).trans hcr)
            have hco : ct5 117 = .inl (B.2.1 0, 12, .inl (nF (va_up o2 pl k))) := by rw [ect5, va_up_self, nF_up]
            have s0 : ct5 110 = .inr (7, [.ref (ad 111), .ref (ad 113)]) := (congrFun ect5 _).trans ((va_up_ne _ _ (by omega)).trans s0)
            have hp0 : ct5 p = .inr (2, [.ref (ad (p + 1)), .ref (ad (p + 3))]) := (congrFun ect5 _).trans ((va_up_ne _ _ (by omega)).trans hp0)
            have hsU : ∀ r, r ≠ 117 → ct5 r = ct3 r := fun r h => (congrFun ect5 r).trans (va_up_ne _ _ h)
            have sl : isW B ad ct5 111 x2 := sl.frame (hsU _ (by omega)) (hsU _ (by omega))
            have sr : isW B ad ct5 113 y2 := sr.frame (hsU _ (by omega)) (hsU _ (by omega))
            have hpU : isW B ad ct5 (p + 1) u := hpU.frame (hsU _ (by omega)) (hsU _ (by omega))
            have hpL : isW B ad ct5 (p + 3) l := hpL.frame (hsU _ (by omega)) (hsU _ (by omega))
            have hN : ∀ i, i < 12 → isFr B ad ct5 (118 + 5 * i) ((va_up U k u) i) ((va_up V k l) i) := fun i hi => (hN i hi).other (fun r h1 h2 => hsU r (by omega))
            have hfr : ∀ r, r < 111 ∨ r = 116 ∨ 177 < r → ct5 r = ct r := fun r h => (hsU r (by omega)).trans (hfr r h)
            refine g_aload_n fx 0 dX1_add_88 rfl ?_
            refine g_dup fx dX1_add_89 rfl ?_
            refine g_get (r := 115) fx lkX1_26 (by omega) hc rfl dX1_add_90 ?_
            refine g_iconst (v := nI 1) fx dX1_add_93 (by decide +kernel) ?_
            refine g_iaddN fx dX1_add_94 ?_
            refine g_put (r := 115) (fs' := [.ref (ad 116), .ref (ad 117), .ref (ad 110), .int (nI (k + 1))]) fx lpX1_26 (by omega) hc rfl rfl (Nat.le_of_ble_eq_true rfl) rfl dX1_add_95 (fun ct6 ect6 => ?_)
            have hc : ct6 115 = .inr (1, [.ref (ad 116), .ref (ad 117), .ref (ad 110), .int (nI (k + 1))]) := by rw [ect6, va_up_self]
            have hcr : ct6 116 = .inl (B.2.1 4, 12, .inr (.inr (.inr (.inr (fun i => some (ad (118 + 5 * i))))))) := (congrFun ect6 _).trans ((va_up_ne _ _ (by omega)).trans hcr)
            have hco : ct6 117 = .inl (B.2.1 0, 12, .inl (nF (va_up o2 pl k))) := (congrFun ect6 _).trans ((va_up_ne _ _ (by omega)).trans hco)
            have s0 : ct6 110 = .inr (7, [.ref (ad 111), .ref (ad 113)]) := (congrFun ect6 _).trans ((va_up_ne _ _ (by omega)).trans s0)
            have hp0 : ct6 p = .inr (2, [.ref (ad (p + 1)), .ref (ad (p + 3))]) := (congrFun ect6 _).trans ((va_up_ne _ _ (by omega)).trans hp0)
            have hsU : ∀ r, r ≠ 115 → ct6 r = ct5 r := fun r h => (congrFun ect6 r).trans (va_up_ne _ _ h)
            have sl : isW B ad ct6 111 x2 := sl.frame (hsU _ (by omega)) (hsU _ (by omega))
            have sr : isW B ad ct6 113 y2 := sr.frame (hsU _ (by omega)) (hsU _ (by omega))
            have hpU : isW B ad ct6 (p + 1) u := hpU.frame (hsU _ (by omega)) (hsU _ (by omega))
            have hpL : isW B ad ct6 (p + 3) l := hpL.frame (hsU _ (by omega)) (hsU _ (by omega))
            have hN : ∀ i, i < 12 → isFr B ad ct6 (118 + 5 * i) ((va_up U k u) i) ((va_up V k l) i) := fun i hi => (hN i hi).other (fun r h1 h2 => hsU r (by omega))
            have hfr : ∀ r, r < 111 ∨ r = 116 ∨ 177 < r → ct6 r = ct r := fun r h => (hsU r (by omega)).trans (hfr r h)
            refine g_aload_n fx 0 dX1_add_98 rfl ?_
            refine g_get (r := 115) fx lkX1_26 (by omega) hc rfl dX1_add_99 ?_
            refine g_iret fx rt dX1_add_102 ?_
            rw [← hins, hend]
            exact gPi.mk (Or.inr ⟨by omega, rfl, hc, hco, hN, s0, ⟨_, _, sl, sr⟩, hfr⟩)
          · skip
            have hltt : (ltF (va_up U k u) (va_up V k l)) k (o2 (pl - 1)) = true := decide_eq_true (by rw [va_up_self, va_up_self]; exact cmp_neg.mp (Int32.not_le.mp (eq3 ▸ c55)))
            refine g_aload_n fx 0 dX1_add_58 rfl ?_
            refine g_get (r := 115) fx lkX1_17 (by omega) hc rfl dX1_add_59 ?_
            refine g_iload_n fx 2 dX1_add_62 rfl ?_
            refine g_aload_n fx 0 dX1_add_63 rfl ?_
            refine g_get (r := 115) fx lkX1_17 (by omega) hc rfl dX1_add_64 ?_
            refine g_iload_n fx 2 dX1_add_67 rfl ?_
            refine g_iconst (v := nI 1) fx dX1_add_68 (by decide +kernel) ?_
            refine g_isubN fx dX1_add_69 (by omega) ?_
            refine g_iald (r := 117) (j := (pl - 1)) fx (by omega) hco (nI_toInt (by omega)) (by omega) dX1_add_70 ?_
            refine g_isi (y := nI (o2 (pl - 1))) rfl ?_
            refine g_iast (r := 117) (j := pl) fx (by omega) hco (nI_toInt (by omega)) (by omega) dX1_add_71 (fun ct4 ect4 => ?_)
            have hc : ct4 115 = .inr (1, [.ref (ad 116), .ref (ad 117), .ref (ad 110), .int (nI k)]) := (congrFun ect4 _).trans ((va_up_ne _ _ (by omega)).trans hc)
            have hcr : ct4 116 = .inl (B.2.1 4, 12, .inr (.inr (.inr (.inr (fun i => some (ad (118 + 5 * i))))))) := (congrFun ect4 _).trans ((va_up_ne _ _ (by omega)).trans hcr)
            have hco : ct4 117 = .inl (B.2.1 0, 12, .inl (nF (va_up o2 pl (o2 (pl - 1))))) := by rw [ect4, va_up_self, nF_up]
            have s0 : ct4 110 = .inr (7, [.ref (ad 111), .ref (ad 113)]) := (congrFun ect4 _).trans ((va_up_ne _ _ (by omega)).trans s0)
            have hp0 : ct4 p = .inr (2, [.ref (ad (p + 1)), .ref (ad (p + 3))]) := (congrFun ect4 _).trans ((va_up_ne _ _ (by omega)).trans hp0)
            have hsU : ∀ r, r ≠ 117 → ct4 r = ct3 r := fun r h => (congrFun ect4 r).trans (va_up_ne _ _ h)
            have sl : isW B ad ct4 111 x2 := sl.frame (hsU _ (by omega)) (hsU _ (by omega))
            have sr : isW B ad ct4 113 y2 := sr.frame (hsU _ (by omega)) (hsU _ (by omega))
            have hpU : isW B ad ct4 (p + 1) u := hpU.frame (hsU _ (by omega)) (hsU _ (by omega))
            have hpL : isW B ad ct4 (p + 3) l := hpL.frame (hsU _ (by omega)) (hsU _ (by omega))
            have hN : ∀ i, i < 12 → isFr B ad ct4 (118 + 5 * i) ((va_up U k u) i) ((va_up V k l) i) := fun i hi => (hN i hi).other (fun r h1 h2 => hsU r (by omega))
            have hfr : ∀ r, r < 111 ∨ r = 116 ∨ 177 < r → ct4 r = ct r := fun r h => (hsU r (by omega)).trans (hfr r h)
            refine g_iinc (L' := [(2, .int (nI (pl - 1))), (0, .ref (ad 115)), (1, .ref (ad p))]) fx (nI (pl - 1)) 2 dX1_add_72 rfl (dec1 hpp) (by decide) rfl ?_
            refine g_goto fx 30 dX1_add_75 (by decide) ?_
            refine g_locals (L' := [(0, .ref (ad 115)), (1, .ref (ad p)), (2, .int (nI (pl - 1)))]) [1, 2, 0] rfl ?_
            exact ih30 (pl - 1) _ _ _ _ (by omega) ((insR_t hpp hltt).symm.trans hins) (fun j hj => by rw [va_up_ne _ _ (by omega)]; exact ho2 j (by omega)) s0 sl sr hc hcr hco hp0 hpU hpL hN hfr (by omega)
    refine g_locals (L' := [(0, .ref (ad 115)), (1, .ref (ad p)), (2, .int (nI k))]) [1, 2, 0] rfl ?_
    exact LP30 (k + 1) k x y ct1 o (by omega) rfl ho s0 sl sr hc hcr hco hp0 hpU hpL hN hfr (by omega)
  · skip
    have hge : 12 ≤ k := if01_n.mp (hq1 ▸ c4)
    refine g_aload_n fx 0 dX1_add_7 rfl ?_
    refine g_get (r := 115) fx lkX1_26 (by omega) hc rfl dX1_add_8 ?_
    refine g_iret fx rt dX1_add_11 ?_
    exact gPi.mk (Or.inl ⟨hge, rfl, rfl⟩)
