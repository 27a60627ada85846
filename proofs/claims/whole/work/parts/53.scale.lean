theorem digit {U W : Nat} (h : 0 < W) (h10 : U < 10 * W) : U / W ≤ 9 := by
  have := (Nat.div_lt_iff_lt_mul h).mpr h10; omega
theorem take_out {u W t v : Nat} (h : v + t * W = u) (hv : v < W) : t = u / W ∧ v = u % W := by
  have h0 : 0 < W := by omega
  have h1 : (v + t * W) / W = t := by rw [Nat.add_mul_div_right _ _ h0, Nat.div_eq_of_lt hv, Nat.zero_add]
  have h2 : (v + t * W) % W = v := by rw [Nat.add_mul_mod_self_right, Nat.mod_eq_of_lt hv]
  rw [h] at h1 h2
  exact ⟨h1.symm, h2.symm⟩
theorem sub_step {v W t u : Nat} (h : v + t * W = u) (hv : W ≤ v) : v - W + (t + 1) * W = u := by
  rw [Nat.succ_mul]; omega
set_option maxHeartbeats 4000000 in
set_option maxRecDepth 100000 in
theorem c_X2_setWholes (B : gB) (ad : Nat → Nat) (ct : Nat → va_E) (n : Nat) (p u l : Nat) (hn : p + 4 < n) (h0 : ct p = .inr (2, [.ref (ad (p + 1)), .ref (ad (p + 3))])) (hU : isW B ad ct (p + 1) u) (hL : isW B ad ct (p + 3) l) (a x : Nat) (ha : a + 1 < p ∨ p + 4 < a) (hna : a + 1 < n) (hA : isW B ad ct a x) (b y : Nat) (hb : b + 1 < p ∨ p + 4 < b) (hnb : b + 1 < n) (hB : isW B ad ct b y) (hy : 0 < y) (hS : Sm y) : Ctr B yX2_setWholes cX2_setWholes 3 none 4 91 0 0 ad ct n [.ref (ad p), .ref (ad a), .ref (ad b)] (gPv ad n (fun ct' => isFr B ad ct' p (x / Nat.gcd x y) (y / Nat.gcd x y) ∧ sameF ct ct' p)) := by
  have hfr : sameF ct ct p := fun _ _ => rfl
  obtain ⟨su, gu, hru⟩ := hU.row
  refine Ctr.ofG (L := [(0, .ref (ad p)), (1, .ref (ad a)), (2, .ref (ad b))]) (by decide +kernel) rfl (Nat.le_of_ble_eq_true rfl) (fun E fx rt hnm => ?_)
  refine g_aload_n fx 0 dX2_setWholes_0 rfl ?_
  refine g_get (r := p) fx lkX2_10 (by omega) h0 rfl dX2_setWholes_1 ?_
  refine g_aload_n fx 1 dX2_setWholes_4 rfl ?_
  refine g_callVv (As := [.ref (ad a)]) (rest := []) fx slX2_19 (c_X10_copy B ad ct n (p + 1) a su x gu (by omega) hna (by omega) (by omega) (by omega) hru hA) (by omega) (isW.ob hU).choose_spec rfl rfl rfl (Nat.le_of_ble_eq_true rfl) ⟨by decide, by decide⟩ ⟨by decide, by decide⟩ dX2_setWholes_5 (fun ct1 hz1 => ?_)
  obtain ⟨hw1, hs1⟩ := hz1
  have h0 : ct1 p = .inr (2, [.ref (ad (p + 1)), .ref (ad (p + 3))]) := (hs1 p (by omega) (by omega)).trans h0
  have hL : isW B ad ct1 (p + 3) l := hL.other hs1 (by omega) (by omega) (by omega)
  have hU := hw1
  have hfr : sameF ct ct1 p := fun r hr => (hs1 r (by omega) (by omega)).trans (hfr r hr)
  have hB : isW B ad ct1 b y := hB.other hs1 (by omega) (by omega) (by omega)
  obtain ⟨sl, gl, hrl⟩ := hL.row
  refine g_aload_n fx 0 dX2_setWholes_8 rfl ?_
  refine g_get (r := p) fx lkX2_16 (by omega) h0 rfl dX2_setWholes_9 ?_
  refine g_aload_n fx 2 dX2_setWholes_12 rfl ?_
  refine g_callVv (As := [.ref (ad b)]) (rest := []) fx slX2_19 (c_X10_copy B ad ct1 n (p + 3) b sl y gl (by omega) hnb (by omega) (by omega) (by omega) hrl hB) (by omega) (isW.ob hL).choose_spec rfl rfl rfl (Nat.le_of_ble_eq_true rfl) ⟨by decide, by decide⟩ ⟨by decide, by decide⟩ dX2_setWholes_13 (fun ct2 hz2 => ?_)
  obtain ⟨hw2, hs2⟩ := hz2
  have h0 : ct2 p = .inr (2, [.ref (ad (p + 1)), .ref (ad (p + 3))]) := (hs2 p (by omega) (by omega)).trans h0
  have hU : isW B ad ct2 (p + 1) x := hU.other hs2 (by omega) (by omega) (by omega)
  have hL := hw2
  have hfr : sameF ct ct2 p := fun r hr => (hs2 r (by omega) (by omega)).trans (hfr r hr)
  refine g_aload_n fx 0 dX2_setWholes_16 rfl ?_
  refine g_callVv (As := []) (rest := []) fx slX2_23 (c_X2_reduce B ad ct2 n p x y hn h0 hU hL hy hS) (by omega) h0 rfl rfl rfl (Nat.le_of_ble_eq_true rfl) ⟨by decide, by decide⟩ ⟨by decide, by decide⟩ dX2_setWholes_17 (fun ct3 hz3 => ?_)
  obtain ⟨hf3, hs3⟩ := hz3
  refine g_vret fx rt dX2_setWholes_20 ?_
  exact gPv.mk ⟨hf3, fun r hr => (hs3 r hr).trans (hfr r hr)⟩
set_option maxHeartbeats 4000000 in
set_option maxRecDepth 100000 in
theorem c_X2_setLongs (B : gB) (ad : Nat → Nat) (ct : Nat → va_E) (n : Nat) (p u l : Nat) (hn : p + 4 < n) (h0 : ct p = .inr (2, [.ref (ad (p + 1)), .ref (ad (p + 3))])) (hU : isW B ad ct (p + 1) u) (hL : isW B ad ct (p + 3) l) (x y : Nat) (hx : x < 18446744073709551616) (hy2 : y < 18446744073709551616) (hy : 0 < y) (hS : Sm y) : Ctr B yX2_setLongs cX2_setLongs 5 none 4 91 0 0 ad ct n [.ref (ad p), .long (lN x), .long (lN y)] (gPv ad n (fun ct' => isFr B ad ct' p (x / Nat.gcd x y) (y / Nat.gcd x y) ∧ sameF ct ct' p)) := by
  have hfr : sameF ct ct p := fun _ _ => rfl
  obtain ⟨su, gu, hru⟩ := hU.row
  refine Ctr.ofG (L := [(0, .ref (ad p)), (1, .long (lN x)), (3, .long (lN y))]) (by decide +kernel) rfl (Nat.le_of_ble_eq_true rfl) (fun E fx rt hnm => ?_)
  refine g_aload_n fx 0 dX2_setLongs_0 rfl ?_
  refine g_get (r := p) fx lkX2_10 (by omega) h0 rfl dX2_setLongs_1 ?_
  refine g_lload_n fx 1 dX2_setLongs_4 rfl ?_
  refine g_callVv (As := [.long (lN x)]) (rest := []) fx slX2_26 (c_X10_set B ad ct n (p + 1) su x gu (by omega) hru hx) (by omega) (isW.ob hU).choose_spec rfl rfl rfl (Nat.le_of_ble_eq_true rfl) ⟨by decide, by decide⟩ ⟨by decide, by decide⟩ dX2_setLongs_5 (fun ct1 hz1 => ?_)
  obtain ⟨hw1, hs1⟩ := hz1
  have h0 : ct1 p = .inr (2, [.ref (ad (p + 1)), .ref (ad (p + 3))]) := (hs1 p (by omega) (by omega)).trans h0
  have hL : isW B ad ct1 (p + 3) l := hL.other hs1 (by omega) (by omega) (by omega)
  have hU := hw1
  have hfr : sameF ct ct1 p := fun r hr => (hs1 r (by omega) (by omega)).trans (hfr r hr)
  obtain ⟨sl, gl, hrl⟩ := hL.row
  refine g_aload_n fx 0 dX2_setLongs_8 rfl ?_
  refine g_get (r := p) fx lkX2_16 (by omega) h0 rfl dX2_setLongs_9 ?_
  refine g_lload_n fx 2 dX2_setLongs_12 rfl ?_
  refine g_callVv (As := [.long (lN y)]) (rest := []) fx slX2_26 (c_X10_set B ad ct1 n (p + 3) sl y gl (by omega) hrl hy2) (by omega) (isW.ob hL).choose_spec rfl rfl rfl (Nat.le_of_ble_eq_true rfl) ⟨by decide, by decide⟩ ⟨by decide, by decide⟩ dX2_setLongs_13 (fun ct2 hz2 => ?_)
  obtain ⟨hw2, hs2⟩ := hz2
  have h0 : ct2 p = .inr (2, [.ref (ad (p + 1)), .ref (ad (p + 3))]) := (hs2 p (by omega) (by omega)).trans h0
  have hU : isW B ad ct2 (p + 1) x := hU.other hs2 (by omega) (by omega) (by omega)
  have hL := hw2
  have hfr : sameF ct ct2 p := fun r hr => (hs2 r (by omega) (by omega)).trans (hfr r hr)
  refine g_aload_n fx 0 dX2_setLongs_16 rfl ?_
  refine g_callVv (As := []) (rest := []) fx slX2_23 (c_X2_reduce B ad ct2 n p x y hn h0 hU hL hy hS) (by omega) h0 rfl rfl rfl (Nat.le_of_ble_eq_true rfl) ⟨by decide, by decide⟩ ⟨by decide, by decide⟩ dX2_setLongs_17 (fun ct3 hz3 => ?_)
  obtain ⟨hf3, hs3⟩ := hz3
  refine g_vret fx rt dX2_setLongs_20 ?_
  exact gPv.mk ⟨hf3, fun r hr => (hs3 r hr).trans (hfr r hr)⟩
set_option maxHeartbeats 4000000 in
set_option maxRecDepth 100000 in
theorem c_X2_copy (B : gB) (ad : Nat → Nat) (ct : Nat → va_E) (n : Nat) (p u l : Nat) (hn : p + 4 < n) (h0 : ct p = .inr (2, [.ref (ad (p + 1)), .ref (ad (p + 3))])) (hU : isW B ad ct (p + 1) u) (hL : isW B ad ct (p + 3) l) (q x y : Nat) (hq : q + 4 < p ∨ p + 4 < q) (hnq : q + 4 < n) (hQ : isFr B ad ct q x y) : Ctr B yX2_copy cX2_copy 2 none 2 43 0 0 ad ct n [.ref (ad p), .ref (ad q)] (gPv ad n (fun ct' => isFr B ad ct' p x y ∧ sameF ct ct' p)) := by
  have hfr : sameF ct ct p := fun _ _ => rfl
  obtain ⟨su, gu, hru⟩ := hU.row
  obtain ⟨hq0, hqU, hqL⟩ := hQ
  refine Ctr.ofG (L := [(0, .ref (ad p)), (1, .ref (ad q))]) (by decide +kernel) rfl (Nat.le_of_ble_eq_true rfl) (fun E fx rt hnm => ?_)
  refine g_aload_n fx 0 dX2_copy_0 rfl ?_
  refine g_get (r := p) fx lkX2_10 (by omega) h0 rfl dX2_copy_1 ?_
  refine g_aload_n fx 1 dX2_copy_4 rfl ?_
  refine g_get (r := q) fx lkX2_10 (by omega) hq0 rfl dX2_copy_5 ?_
  refine g_callVv (As := [.ref (ad (q + 1))]) (rest := []) fx slX2_19 (c_X10_copy B ad ct n (p + 1) (q + 1) su x gu (by omega) (by omega) (by omega) (by omega) (by omega) hru hqU) (by omega) (isW.ob hU).choose_spec rfl rfl rfl (Nat.le_of_ble_eq_true rfl) ⟨by decide, by decide⟩ ⟨by decide, by decide⟩ dX2_copy_8 (fun ct1 hz1 => ?_)
  obtain ⟨hw1, hs1⟩ := hz1
  have h0 : ct1 p = .inr (2, [.ref (ad (p + 1)), .ref (ad (p + 3))]) := (hs1 p (by omega) (by omega)).trans h0
  have hL : isW B ad ct1 (p + 3) l := hL.other hs1 (by omega) (by omega) (by omega)
  have hU := hw1
  have hfr : sameF ct ct1 p := fun r hr => (hs1 r (by omega) (by omega)).trans (hfr r hr)
  have hqL : isW B ad ct1 (q + 3) y := hqL.other hs1 (by omega) (by omega) (by omega)
  have hq0 : ct1 q = .inr (2, [.ref (ad (q + 1)), .ref (ad (q + 3))]) := (hs1 q (by omega) (by omega)).trans hq0
  obtain ⟨sl, gl, hrl⟩ := hL.row
  refine g_aload_n fx 0 dX2_copy_11 rfl ?_
  refine g_get (r := p) fx lkX2_16 (by omega) h0 rfl dX2_copy_12 ?_
  refine g_aload_n fx 1 dX2_copy_15 rfl ?_
  refine g_get (r := q) fx lkX2_16 (by omega) hq0 rfl dX2_copy_16 ?_
  refine g_callVv (As := [.ref (ad (q + 3))]) (rest := []) fx slX2_19 (c_X10_copy B ad ct1 n (p + 3) (q + 3) sl y gl (by omega) (by omega) (by omega) (by omega) (by omega) hrl hqL) (by omega) (isW.ob hL).choose_spec rfl rfl rfl (Nat.le_of_ble_eq_true rfl) ⟨by decide, by decide⟩ ⟨by decide, by decide⟩ dX2_copy_19 (fun ct2 hz2 => ?_)
  obtain ⟨hw2, hs2⟩ := hz2
  have h0 : ct2 p = .inr (2, [.ref (ad (p + 1)), .ref (ad (p + 3))]) := (hs2 p (by omega) (by omega)).trans h0
  have hU : isW B ad ct2 (p + 1) x := hU.other hs2 (by omega) (by omega) (by omega)
  have hL := hw2
  have hfr : sameF ct ct2 p := fun r hr => (hs2 r (by omega) (by omega)).trans (hfr r hr)
  refine g_vret fx rt dX2_copy_22 ?_
  exact gPv.mk ⟨⟨h0, hU, hL⟩, hfr⟩
set_option maxHeartbeats 4000000 in
set_option maxRecDepth 100000 in
theorem c_X2_part (B : gB) (ad : Nat → Nat) (ct : Nat → va_E) (n : Nat) (p u l : Nat) (hn : p + 4 < n) (h0 : ct p = .inr (2, [.ref (ad (p + 1)), .ref (ad (p + 3))])) (hU : isW B ad ct (p + 1) u) (hL : isW B ad ct (p + 3) l) (x : Int32) : Ctr B yX2_part cX2_part 2 (some (.object "ExactTests$Whole")) 0 0 0 0 ad ct n [.ref (ad p), .int x] (gPrp ad ct n (fun r => r = if x = 0 then ad (p + 1) else ad (p + 3))) := by
  have hfr : sameF ct ct p := fun _ _ => rfl
  refine Ctr.ofG (L := [(0, .ref (ad p)), (1, .int x)]) (by decide +kernel) rfl (Nat.le_of_ble_eq_true rfl) (fun E fx rt hnm => ?_)
  refine g_iload_n fx 1 dX2_part_0 rfl ?_
  refine g_if_ne fx 11 dX2_part_1 (by decide) (fun c1 => ?_) (fun c1 => ?_)
  · skip
    refine g_aload_n fx 0 dX2_part_11 rfl ?_
    refine g_get (r := p) fx lkX2_16 (by omega) h0 rfl dX2_part_12 ?_
    refine g_aret fx rt dX2_part_15 ?_
    refine gPrp.mk ?_
    first | (rw [if_neg c1]; done) | (rw [if_pos c1]; done)
  · skip
    refine g_aload_n fx 0 dX2_part_4 rfl ?_
    refine g_get (r := p) fx lkX2_10 (by omega) h0 rfl dX2_part_5 ?_
    refine g_goto fx 15 dX2_part_8 (by decide) ?_
    refine g_aret fx rt dX2_part_15 ?_
    refine gPrp.mk ?_
    first | (rw [if_neg c1]; done) | (rw [if_pos c1]; done)
set_option maxHeartbeats 4000000 in
set_option maxRecDepth 100000 in
theorem c_X2_countWords (B : gB) (ad : Nat → Nat) (ct : Nat → va_E) (n : Nat) (p u l : Nat) (hn : p + 4 < n) (h0 : ct p = .inr (2, [.ref (ad (p + 1)), .ref (ad (p + 3))])) (hU : isW B ad ct (p + 1) u) (hL : isW B ad ct (p + 3) l) : Ctr B yX2_countWords cX2_countWords 1 (some .int) 4 83 0 0 ad ct n [.ref (ad p)] (gPip ad ct n (fun r => r = nI (((nbits l + 15) / 16) + ((nbits u + 15) / 16)))) := by
  have hfr : sameF ct ct p := fun _ _ => rfl
  refine Ctr.ofG (L := [(0, .ref (ad p))]) (by decide +kernel) rfl (Nat.le_of_ble_eq_true rfl) (fun E fx rt hnm => ?_)
  refine g_aload_n fx 0 dX2_countWords_0 rfl ?_
  refine g_get (r := p) fx lkX2_16 (by omega) h0 rfl dX2_countWords_1 ?_
  refine g_callVip (As := []) (rest := []) fx slX2_30 (c_X10_countWords B ad ct n (p + 3) l (by omega) hL) (by omega) (isW.ob hL).choose_spec rfl rfl rfl (Nat.le_of_ble_eq_true rfl) ⟨by decide, by decide⟩ ⟨by decide, by decide⟩ dX2_countWords_4 (fun q1 hq1 => ?_)
  obtain rfl := hq1
  refine g_aload_n fx 0 dX2_countWords_7 rfl ?_
  refine g_get (r := p) fx lkX2_10 (by omega) h0 rfl dX2_countWords_8 ?_
  refine g_callVip (As := []) (rest := [.int (nI ((nbits l + 15) / 16))]) fx slX2_30 (c_X10_countWords B ad ct n (p + 1) u (by omega) hU) (by omega) (isW.ob hU).choose_spec rfl rfl rfl (Nat.le_of_ble_eq_true rfl) ⟨by decide, by decide⟩ ⟨by decide, by decide⟩ dX2_countWords_11 (fun q2 hq2 => ?_)
  obtain rfl := hq2
  refine g_iaddN fx dX2_countWords_14 ?_
  refine g_iret fx rt dX2_countWords_15 ?_
  refine gPip.mk ?_
  rfl
set_option maxHeartbeats 4000000 in
set_option maxRecDepth 100000 in
theorem c_X2_wordInTurn (B : gB) (ad : Nat → Nat) (ct : Nat → va_E) (n : Nat) (p u l : Nat) (hn : p + 4 < n) (h0 : ct p = .inr (2, [.ref (ad (p + 1)), .ref (ad (p + 3))])) (hU : isW B ad ct (p + 1) u) (hL : isW B ad ct (p + 3) l) (i : Nat) (hi : i < 2 ^ 30) (hnb : nbits l < 2 ^ 30) : Ctr B yX2_wordInTurn cX2_wordInTurn 3 (some .int) 4 83 0 0 ad ct n [.ref (ad p), .int (nI i)] (gPip ad ct n (fun r => r = nI (wdS u l i))) := by
  have hfr : sameF ct ct p := fun _ _ => rfl
  refine Ctr.ofG (L := [(0, .ref (ad p)), (1, .int (nI i))]) (by decide +kernel) rfl (Nat.le_of_ble_eq_true rfl) (fun E fx rt hnm => ?_)
  refine g_aload_n fx 0 dX2_wordInTurn_0 rfl ?_
  refine g_get (r := p) fx lkX2_16 (by omega) h0 rfl dX2_wordInTurn_1 ?_
  refine g_callVip (As := []) (rest := []) fx slX2_30 (c_X10_countWords B ad ct n (p + 3) l (by omega) hL) (by omega) (isW.ob hL).choose_spec rfl rfl rfl (Nat.le_of_ble_eq_true rfl) ⟨by decide, by decide⟩ ⟨by decide, by decide⟩ dX2_wordInTurn_4 (fun q1 hq1 => ?_)
  obtain rfl := hq1
  refine g_istore_n (L' := [(2, .int (nI ((nbits l + 15) / 16))), (0, .ref (ad p)), (1, .int (nI i))]) fx dX2_wordInTurn_7 (by decide) rfl ?_
  refine g_iload_n fx 2 dX2_wordInTurn_8 rfl ?_
  refine g_iload_n fx 0 dX2_wordInTurn_9 rfl ?_
  refine g_icmp_ge fx 24 dX2_wordInTurn_10 (by decide) (fun c10 => ?_) (fun c10 => ?_)
  · skip
    have hge : ((nbits l + 15) / 16) ≤ i := (nI_leI (by omega) (by omega)).mp c10
    refine g_aload_n fx 1 dX2_wordInTurn_24 rfl ?_
    refine g_get (r := p) fx lkX2_10 (by omega) h0 rfl dX2_wordInTurn_25 ?_
    refine g_iload_n fx 2 dX2_wordInTurn_28 rfl ?_
    refine g_iload_n fx 0 dX2_wordInTurn_29 rfl ?_
    refine g_isubN fx dX2_wordInTurn_30 hge ?_
    refine g_callVip (As := [.int (nI (i - ((nbits l + 15) / 16)))]) (rest := []) fx slX2_34 (c_X10_sixteenBits B ad ct n (p + 1) u (i - ((nbits l + 15) / 16)) (by omega) hU (by omega)) (by omega) (isW.ob hU).choose_spec rfl rfl rfl (Nat.le_of_ble_eq_true rfl) ⟨by decide, by decide⟩ ⟨by decide, by decide⟩ dX2_wordInTurn_31 (fun q3 hq3 => ?_)
    have hfin : q3 = nI (wdS u l i) := by unfold wdS; rw [if_neg (by omega)]; exact hq3
    refine g_iret fx rt dX2_wordInTurn_34 ?_
    refine gPip.mk ?_
    exact hfin
  · skip
    have hlt : i < ((nbits l + 15) / 16) := (nI_ltI (by omega) (by omega)).mp (Int32.not_le.mp c10)
    refine g_aload_n fx 1 dX2_wordInTurn_13 rfl ?_
    refine g_get (r := p) fx lkX2_16 (by omega) h0 rfl dX2_wordInTurn_14 ?_
    refine g_iload_n fx 2 dX2_wordInTurn_17 rfl ?_
    refine g_callVip (As := [.int (nI i)]) (rest := []) fx slX2_34 (c_X10_sixteenBits B ad ct n (p + 3) l i (by omega) hL (by omega)) (by omega) (isW.ob hL).choose_spec rfl rfl rfl (Nat.le_of_ble_eq_true rfl) ⟨by decide, by decide⟩ ⟨by decide, by decide⟩ dX2_wordInTurn_18 (fun q2 hq2 => ?_)
    have hfin : q2 = nI (wdS u l i) := by unfold wdS; rw [if_pos hlt]; exact hq2
    refine g_goto fx 34 dX2_wordInTurn_21 (by decide) ?_
    refine g_iret fx rt dX2_wordInTurn_34 ?_
    refine gPip.mk ?_
    exact hfin
set_option maxHeartbeats 4000000 in
set_option maxRecDepth 100000 in
theorem c_X7_compareChances (B : gB) (ad : Nat → Nat) (ct : Nat → va_E) (n : Nat) (hn : 178 ≤ n) (s0 : ct 110 = .inr (7, [.ref (ad 111), .ref (ad 113)])) (x y : Nat) (sl : isW B ad ct 111 x) (sr : isW B ad ct 113 y) (p u l : Nat) (hnp : p + 4 < n) (hap : p + 4 < 110 ∨ 114 < p) (hp0 : ct p = .inr (2, [.ref (ad (p + 1)), .ref (ad (p + 3))])) (hpU : isW B ad ct (p + 1) u) (hpL : isW B ad ct (p + 3) l) (q v m : Nat) (hnq : q + 4 < n) (haq : q + 4 < 110 ∨ 114 < q) (hq0 : ct q = .inr (2, [.ref (ad (q + 1)), .ref (ad (q + 3))])) (hqU : isW B ad ct (q + 1) v) (hqL : isW B ad ct (q + 3) m) (ho1 : u * m < 4294967296 ^ 12) (ho2 : v * l < 4294967296 ^ 12) : Ctr B yX7_compareChances cX7_compareChances 3 (some .int) 3 74 0 0 ad ct n [.ref (ad 110), .ref (ad p), .ref (ad q)] (gPi ad n (fun r ct' => r = cmpI (u * m) (v * l) ∧ ∃ x' y', ct' 110 = .inr (7, [.ref (ad 111), .ref (ad 113)]) ∧ isW B ad ct' 111 x' ∧ isW B ad ct' 113 y' ∧ ∀ r, r < 111 ∨ 114 < r → ct' r = ct r)) := by
  have hfr : ∀ r, r < 111 ∨ 114 < r → ct r = ct r := fun _ _ => rfl
  obtain ⟨su, gu, hru⟩ := sl.row
  refine Ctr.ofG (L := [(0, .ref (ad 110)), (1, .ref (ad p)), (2, .ref (ad q))]) (by decide +kernel) rfl (Nat.le_of_ble_eq_true rfl) (fun E fx rt hnm => ?_)
  refine g_aload_n fx 0 dX7_compareChances_0 rfl ?_
  refine g_get (r := 110) fx lkX7_10 (by omega) s0 rfl dX7_compareChances_1 ?_
  refine g_aload_n fx 1 dX7_compareChances_4 rfl ?_
  refine g_get (r := p) fx lkX7_19 (by omega) hp0 rfl dX7_compareChances_5 ?_
  refine g_aload_n fx 2 dX7_compareChances_8 rfl ?_
  refine g_get (r := q) fx lkX7_24 (by omega) hq0 rfl dX7_compareChances_9 ?_
  refine g_callVv (As := [.ref (ad (p + 1)), .ref (ad (q + 3))]) (rest := []) fx slX7_27 (c_X10_setProductOf B ad ct n 111 (p + 1) (q + 3) su u m gu (by omega) (by omega) (by omega) (by omega) (by omega) (by omega) (by omega) (by omega) (by omega) hru hpU hqL ho1) (by omega) (isW.ob sl).choose_spec rfl rfl rfl (Nat.le_of_ble_eq_true rfl) ⟨by decide, by decide⟩ ⟨by decide, by decide⟩ dX7_compareChances_12 (fun ct1 hz1 => ?_)
  obtain ⟨hw1, hs1⟩ := hz1
  have s0 : ct1 110 = .inr (7, [.ref (ad 111), .ref (ad 113)]) := (hs1 110 (by omega) (by omega)).trans s0
  have sr : isW B ad ct1 113 y := sr.other hs1 (by omega) (by omega) (by omega)
  have sl := hw1
  have hp0 : ct1 p = .inr (2, [.ref (ad (p + 1)), .ref (ad (p + 3))]) := (hs1 p (by omega) (by omega)).trans hp0
  have hpU : isW B ad ct1 (p + 1) u := hpU.other hs1 (by omega) (by omega) (by omega)
  have hpL : isW B ad ct1 (p + 3) l := hpL.other hs1 (by omega) (by omega) (by omega)
  have hq0 : ct1 q = .inr (2, [.ref (ad (q + 1)), .ref (ad (q + 3))]) := (hs1 q (by omega) (by omega)).trans hq0
  have hqU : isW B ad ct1 (q + 1) v := hqU.other hs1 (by omega) (by omega) (by omega)
  have hqL : isW B ad ct1 (q + 3) m := hqL.other hs1 (by omega) (by omega) (by omega)
  have hfr : ∀ r, r < 111 ∨ 114 < r → ct1 r = ct r := fun r hr => (hs1 r (by omega) (by omega)).trans (hfr r hr)
  obtain ⟨sv, gv, hrv⟩ := sr.row
  refine g_aload_n fx 0 dX7_compareChances_15 rfl ?_
  refine g_get (r := 110) fx lkX7_16 (by omega) s0 rfl dX7_compareChances_16 ?_
  refine g_aload_n fx 2 dX7_compareChances_19 rfl ?_
  refine g_get (r := q) fx lkX7_19 (by omega) hq0 rfl dX7_compareChances_20 ?_
  refine g_aload_n fx 1 dX7_compareChances_23 rfl ?_
  refine g_get (r := p) fx lkX7_24 (by omega) hp0 rfl dX7_compareChances_24 ?_
  refine g_callVv (As := [.ref (ad (q + 1)), .ref (ad (p + 3))]) (rest := []) fx slX7_27 (c_X10_setProductOf B ad ct1 n 113 (q + 1) (p + 3) sv v l gv (by omega) (by omega) (by omega) (by omega) (by omega) (by omega) (by omega) (by omega) (by omega) hrv hqU hpL ho2) (by omega) (isW.ob sr).choose_spec rfl rfl rfl (Nat.le_of_ble_eq_true rfl) ⟨by decide, by decide⟩ ⟨by decide, by decide⟩ dX7_compareChances_27 (fun ct2 hz2 => ?_)
  obtain ⟨hw2, hs2⟩ := hz2
  have s0 : ct2 110 = .inr (7, [.ref (ad 111), .ref (ad 113)]) := (hs2 110 (by omega) (by omega)).trans s0
  have sl : isW B ad ct2 111 (u * m) := sl.other hs2 (by omega) (by omega) (by omega)
  have sr := hw2
  have hp0 : ct2 p = .inr (2, [.ref (ad (p + 1)), .ref (ad (p + 3))]) := (hs2 p (by omega) (by omega)).trans hp0
  have hpU : isW B ad ct2 (p + 1) u := hpU.other hs2 (by omega) (by omega) (by omega)
  have hpL : isW B ad ct2 (p + 3) l := hpL.other hs2 (by omega) (by omega) (by omega)
  have hq0 : ct2 q = .inr (2, [.ref (ad (q + 1)), .ref (ad (q + 3))]) := (hs2 q (by omega) (by omega)).trans hq0
  have hqU : isW B ad ct2 (q + 1) v := hqU.other hs2 (by omega) (by omega) (by omega)
  have hqL : isW B ad ct2 (q + 3) m := hqL.other hs2 (by omega) (by omega) (by omega)
  have hfr : ∀ r, r < 111 ∨ 114 < r → ct2 r = ct r := fun r hr => (hs2 r (by omega) (by omega)).trans (hfr r hr)
  refine g_aload_n fx 0 dX7_compareChances_30 rfl ?_
  refine g_get (r := 110) fx lkX7_10 (by omega) s0 rfl dX7_compareChances_31 ?_
  refine g_aload_n fx 0 dX7_compareChances_34 rfl ?_
  refine g_get (r := 110) fx lkX7_16 (by omega) s0 rfl dX7_compareChances_35 ?_
  refine g_callVip (As := [.ref (ad 113)]) (rest := []) fx slX7_31 (c_X10_compare B ad ct2 n 111 113 (u * m) (v * l) (by omega) (by omega) (by omega) (by omega) (by omega) sl sr) (by omega) (isW.ob sl).choose_spec rfl rfl rfl (Nat.le_of_ble_eq_true rfl) ⟨by decide, by decide⟩ ⟨by decide, by decide⟩ dX7_compareChances_38 (fun q3 hq3 => ?_)
  refine g_iret fx rt dX7_compareChances_41 ?_
  exact gPi.mk ⟨hq3, _, _, s0, sl, sr, hfr⟩
set_option maxHeartbeats 4000000 in
set_option maxRecDepth 100000 in
theorem c_X7_compareToLevel (B : gB) (ad : Nat → Nat) (ct : Nat → va_E) (n : Nat) (hn : 178 ≤ n) (s0 : ct 110 = .inr (7, [.ref (ad 111), .ref (ad 113)])) (x y : Nat) (sl : isW B ad ct 111 x) (sr : isW B ad ct 113 y) (p u l : Nat) (hnp : p + 4 < n) (hap : p + 4 < 110 ∨ 114 < p) (hp0 : ct p = .inr (2, [.ref (ad (p + 1)), .ref (ad (p + 3))])) (hpU : isW B ad ct (p + 1) u) (hpL : isW B ad ct (p + 3) l) (a b : Nat) (hab : a < 18446744073709551616) (hbb : b < 18446744073709551616) (ho1 : u * b < 4294967296 ^ 12) (ho2 : l * a < 4294967296 ^ 12) : Ctr B yX7_compareToLevel cX7_compareToLevel 6 (some .int) 3 76 0 0 ad ct n [.ref (ad 110), .ref (ad p), .long (lN a), .long (lN b)] (gPi ad n (fun r ct' => r = cmpI (u * b) (l * a) ∧ ∃ x' y', ct' 110 = .inr (7, [.ref (ad 111), .ref (ad 113)]) ∧ isW B ad ct' 111 x' ∧ isW B ad ct' 113 y' ∧ ∀ r, r < 111 ∨ 114 < r → ct' r = ct r)) := by
  have hfr : ∀ r, r < 111 ∨ 114 < r → ct r = ct r := fun _ _ => rfl
  obtain ⟨su, gu, hru⟩ := sl.row
  refine Ctr.ofG (L := [(0, .ref (ad 110)), (1, .ref (ad p)), (2, .long (lN a)), (4, .long (lN b))]) (by decide +kernel) rfl (Nat.le_of_ble_eq_true rfl) (fun E fx rt hnm => ?_)
  refine g_aload_n fx 0 dX7_compareToLevel_0 rfl ?_
  refine g_get (r := 110) fx lkX7_10 (by omega) s0 rfl dX7_compareToLevel_1 ?_
  refine g_aload_n fx 1 dX7_compareToLevel_4 rfl ?_
  refine g_get (r := p) fx lkX7_19 (by omega) hp0 rfl dX7_compareToLevel_5 ?_
  refine g_lload fx 3 dX7_compareToLevel_8 rfl ?_
  refine g_callVv (As := [.ref (ad (p + 1)), .long (lN b)]) (rest := []) fx slX7_35 (c_X10_setProduct B ad ct n 111 (p + 1) su u b gu (by omega) (by omega) (by omega) (by omega) (by omega) hru hpU hbb ho1) (by omega) (isW.ob sl).choose_spec rfl rfl rfl (Nat.le_of_ble_eq_true rfl) ⟨by decide, by decide⟩ ⟨by decide, by decide⟩ dX7_compareToLevel_10 (fun ct1 hz1 => ?_)
  obtain ⟨hw1, hs1⟩ := hz1
  have s0 : ct1 110 = .inr (7, [.ref (ad 111), .ref (ad 113)]) := (hs1 110 (by omega) (by omega)).trans s0
  have sr : isW B ad ct1 113 y := sr.other hs1 (by omega) (by omega) (by omega)
  have sl := hw1
  have hp0 : ct1 p = .inr (2, [.ref (ad (p + 1)), .ref (ad (p + 3))]) := (hs1 p (by omega) (by omega)).trans hp0
  have hpU : isW B ad ct1 (p + 1) u := hpU.other hs1 (by omega) (by omega) (by omega)
  have hpL : isW B ad ct1 (p + 3) l := hpL.other hs1 (by omega) (by omega) (by omega)
  have hfr : ∀ r, r < 111 ∨ 114 < r → ct1 r = ct r := fun r hr => (hs1 r (by omega) (by omega)).trans (hfr r hr)
  obtain ⟨sv, gv, hrv⟩ := sr.row
  refine g_aload_n fx 0 dX7_compareToLevel_13 rfl ?_
  refine g_get (r := 110) fx lkX7_16 (by omega) s0 rfl dX7_compareToLevel_14 ?_
  refine g_aload_n fx 1 dX7_compareToLevel_17 rfl ?_
  refine g_get (r := p) fx lkX7_24 (by omega) hp0 rfl dX7_compareToLevel_18 ?_
  refine g_lload_n fx 2 dX7_compareToLevel_21 rfl ?_
  refine g_callVv (As := [.ref (ad (p + 3)), .long (lN a)]) (rest := []) fx slX7_35 (c_X10_setProduct B ad ct1 n 113 (p + 3) sv l a gv (by omega) (by omega) (by omega) (by omega) (by omega) hrv hpL hab ho2) (by omega) (isW.ob sr).choose_spec rfl rfl rfl (Nat.le_of_ble_eq_true rfl) ⟨by decide, by decide⟩ ⟨by decide, by decide⟩ dX7_compareToLevel_22 (fun ct2 hz2 => ?_)
  obtain ⟨hw2, hs2⟩ := hz2
  have s0 : ct2 110 = .inr (7, [.ref (ad 111), .ref (ad 113)]) := (hs2 110 (by omega) (by omega)).trans s0
  have sl : isW B ad ct2 111 (u * b) := sl.other hs2 (by omega) (by omega) (by omega)
  have sr := hw2
  have hp0 : ct2 p = .inr (2, [.ref (ad (p + 1)), .ref (ad (p + 3))]) := (hs2 p (by omega) (by omega)).trans hp0
  have hpU : isW B ad ct2 (p + 1) u := hpU.other hs2 (by omega) (by omega) (by omega)
  have hpL : isW B ad ct2 (p + 3) l := hpL.other hs2 (by omega) (by omega) (by omega)
  have hfr : ∀ r, r < 111 ∨ 114 < r → ct2 r = ct r := fun r hr => (hs2 r (by omega) (by omega)).trans (hfr r hr)
  refine g_aload_n fx 0 dX7_compareToLevel_25 rfl ?_
  refine g_get (r := 110) fx lkX7_10 (by omega) s0 rfl dX7_compareToLevel_26 ?_
  refine g_aload_n fx 0 dX7_compareToLevel_29 rfl ?_
  refine g_get (r := 110) fx lkX7_16 (by omega) s0 rfl dX7_compareToLevel_30 ?_
  refine g_callVip (As := [.ref (ad 113)]) (rest := []) fx slX7_31 (c_X10_compare B ad ct2 n 111 113 (u * b) (l * a) (by omega) (by omega) (by omega) (by omega) (by omega) sl sr) (by omega) (isW.ob sl).choose_spec rfl rfl rfl (Nat.le_of_ble_eq_true rfl) ⟨by decide, by decide⟩ ⟨by decide, by decide⟩ dX7_compareToLevel_33 (fun q3 hq3 => ?_)
  refine g_iret fx rt dX7_compareToLevel_36 ?_
  exact gPi.mk ⟨hq3, _, _, s0, sl, sr, hfr⟩
set_option maxHeartbeats 4000000 in
set_option maxRecDepth 100000 in
theorem c_X7_takeOut (B : gB) (ad : Nat → Nat) (ct : Nat → va_E) (n : Nat) (u W w : Nat) (hn : 178 ≤ n) (hnw : w + 1 < n) (hw : w + 1 < 110 ∨ 114 < w) (hA : isW B ad ct 111 u) (hB : isW B ad ct w W) (hW : 0 < W) (h10 : u < 10 * W) : Ctr B yX7_takeOut cX7_takeOut 3 (some .int) 3 68 0 0 ad ct n [.ref (ad 111), .ref (ad w)] (gPi ad n (fun r ct' => r = nI (u / W) ∧ isW B ad ct' 111 (u % W) ∧ sameB ct ct' 111)) := by
  have hfr : sameB ct ct 111 := fun _ _ _ => rfl
  have hdg := digit hW h10
  refine Ctr.ofG (L := [(0, .ref (ad 111)), (1, .ref (ad w))]) (by decide +kernel) rfl (Nat.le_of_ble_eq_true rfl) (fun E fx rt hnm => ?_)
  refine g_iconst (v := nI 0) fx dX7_takeOut_0 (by decide +kernel) ?_
  refine g_istore_n (L' := [(2, .int (nI 0)), (0, .ref (ad 111)), (1, .ref (ad w))]) fx dX7_takeOut_1 (by decide) rfl ?_
  have LP2 : ∀ (M : Nat) (t v : Nat) (ct1 : Nat → va_E), (t ≤ 9) → (isW B ad ct1 111 v) → (isW B ad ct1 w W) → (sameB ct ct1 111) → (v + t * W = u) →  (9 - t) < M → G B 3 E ad ct1 n 0 0 [(0, .ref (ad 111)), (1, .ref (ad w)), (2, .int (nI t))] 2 [] := by
    intro M
    induction M with
    | zero => intro t v ct1 _ _ _ _ _ hM; exact absurd hM (Nat.not_lt_zero _)
    | succ M ih =>
      intro t v ct1 ht hA hB hfr hv hM
      have ih2 := ih
      refine g_iload_n fx 2 dX7_takeOut_2 rfl ?_
      refine g_bipush (v := nI 9) fx dX7_takeOut_3 (by decide +kernel) ?_
      refine g_icmp_ge fx 27 dX7_takeOut_5 (by decide) (fun c5 => ?_) (fun c5 => ?_)
      · skip
        have hte : t = 9 := by have := (nI_leI (by omega) (by omega)).mp c5; omega
        have hlt : v < W := by rw [hte] at hv; omega
        refine g_iload_n fx 2 dX7_takeOut_27 rfl ?_
        refine g_iret fx rt dX7_takeOut_28 ?_
        obtain ⟨e1, e2⟩ := take_out hv hlt
        exact gPi.mk ⟨by rw [← e1], by rw [← e2]; exact hA, hfr⟩
      · skip
        have ht9 : t < 9 := (nI_ltI (by omega) (by omega)).mp (Int32.not_le.mp c5)
        refine g_aload_n fx 0 dX7_takeOut_8 rfl ?_
        refine g_aload_n fx 1 dX7_takeOut_9 rfl ?_
        refine g_callVip (As := [.ref (ad w)]) (rest := []) fx slX7_31 (c_X10_compare B ad ct1 n 111 w v W (by omega) (by omega) (by omega) (by omega) (by omega) hA hB) (by omega) (isW.ob hA).choose_spec rfl rfl rfl (Nat.le_of_ble_eq_true rfl) ⟨by decide, by decide⟩ ⟨by decide, by decide⟩ dX7_takeOut_10 (fun q1 hq1 => ?_)
        obtain rfl := hq1
        refine g_if_lt fx 27 dX7_takeOut_13 (by decide) (fun c13 => ?_) (fun c13 => ?_)
        · skip
          have hlt : v < W := cmp_neg.mp c13
          refine g_iload_n fx 2 dX7_takeOut_27 rfl ?_
          refine g_iret fx rt dX7_takeOut_28 ?_
          obtain ⟨e1, e2⟩ := take_out hv hlt
          exact gPi.mk ⟨by rw [← e1], by rw [← e2]; exact hA, hfr⟩
        · skip
          have hle : W ≤ v := cmp_nonneg.mp (Int32.not_lt.mp c13)
          refine g_aload_n fx 0 dX7_takeOut_16 rfl ?_
          refine g_aload_n fx 1 dX7_takeOut_17 rfl ?_
          refine g_callVv (As := [.ref (ad w)]) (rest := []) fx slX7_49 (c_X10_subtract B ad ct1 n 111 w v W (by omega) (by omega) (by omega) (by omega) (by omega) hA hB hle) (by omega) (isW.ob hA).choose_spec rfl rfl rfl (Nat.le_of_ble_eq_true rfl) ⟨by decide, by decide⟩ ⟨by decide, by decide⟩ dX7_takeOut_18 (fun ct2 hz2 => ?_)
          obtain ⟨hA, hs2⟩ := hz2
          have hB : isW B ad ct2 w W := hB.other hs2 (by omega) (by omega) (by omega)
          have hfr : sameB ct ct2 111 := fun r h1 h2 => (hs2 r h1 h2).trans (hfr r h1 h2)
          refine g_iinc (L' := [(2, .int (nI (t + 1))), (0, .ref (ad 111)), (1, .ref (ad w))]) fx (nI (t + 1)) 2 dX7_takeOut_21 rfl (gInc _) (by decide) rfl ?_
          refine g_goto fx 2 dX7_takeOut_24 (by decide) ?_
          refine g_locals (L' := [(0, .ref (ad 111)), (1, .ref (ad w)), (2, .int (nI (t + 1)))]) [1, 2, 0] rfl ?_
          exact ih2 (t + 1) (v - W) _ (by omega) hA hB hfr (sub_step hv hle) (by omega)
  refine g_locals (L' := [(0, .ref (ad 111)), (1, .ref (ad w)), (2, .int (nI 0))]) [1, 2, 0] rfl ?_
  exact LP2 10 0 u ct (by omega) hA hB hfr (by omega) (by omega)
set_option maxHeartbeats 4000000 in
set_option maxRecDepth 100000 in
theorem c_X7_figureOf (B : gB) (ad : Nat → Nat) (ct : Nat → va_E) (n : Nat) (hn : 178 ≤ n) (s0 : ct 110 = .inr (7, [.ref (ad 111), .ref (ad 113)])) (x y : Nat) (sl : isW B ad ct 111 x) (sr : isW B ad ct 113 y) (p u l : Nat) (hnp : p + 4 < n) (hap : p + 4 < 110 ∨ 114 < p) (hp0 : ct p = .inr (2, [.ref (ad (p + 1)), .ref (ad (p + 3))])) (hpU : isW B ad ct (p + 1) u) (hpL : isW B ad ct (p + 3) l) (i : Nat) (hi : i ≤ 60) (hl0 : 0 < l) (hul : u ≤ l) (hlb : l * 10 < 4294967296 ^ 12) : Ctr B yX7_figureOf cX7_figureOf 6 (some .int) 4 90 0 0 ad ct n [.ref (ad 110), .ref (ad p), .int (nI i)] (gPi ad n (fun r ct' => r = nI (fig u l i) ∧ ∃ x' y', ct' 110 = .inr (7, [.ref (ad 111), .ref (ad 113)]) ∧ isW B ad ct' 111 x' ∧ isW B ad ct' 113 y' ∧ ∀ r, r < 111 ∨ 114 < r → ct' r = ct r)) := by
  have hfr : ∀ r, r < 111 ∨ 114 < r → ct r = ct r := fun _ _ => rfl
  obtain ⟨su, gu, hru⟩ := sl.row
  refine Ctr.ofG (L := [(0, .ref (ad 110)), (1, .ref (ad p)), (2, .int (nI i))]) (by decide +kernel) rfl (Nat.le_of_ble_eq_true rfl) (fun E fx rt hnm => ?_)
  refine g_aload_n fx 0 dX7_figureOf_0 rfl ?_
  refine g_get (r := 110) fx lkX7_10 (by omega) s0 rfl dX7_figureOf_1 ?_
  refine g_astore_n (L' := [(3, .ref (ad 111)), (0, .ref (ad 110)), (1, .ref (ad p)), (2, .int (nI i))]) fx dX7_figureOf_4 (by decide) rfl ?_
  refine g_aload_n fx 0 dX7_figureOf_5 rfl ?_
  refine g_aload_n fx 2 dX7_figureOf_6 rfl ?_
  refine g_get (r := p) fx lkX7_19 (by omega) hp0 rfl dX7_figureOf_7 ?_
  refine g_callVv (As := [.ref (ad (p + 1))]) (rest := []) fx slX7_39 (c_X10_copy B ad ct n 111 (p + 1) su u gu (by omega) (by omega) (by omega) (by omega) (by omega) hru hpU) (by omega) (isW.ob sl).choose_spec rfl rfl rfl (Nat.le_of_ble_eq_true rfl) ⟨by decide, by decide⟩ ⟨by decide, by decide⟩ dX7_figureOf_10 (fun ct1 hz1 => ?_)
  obtain ⟨hw1, hs1⟩ := hz1
  have s0 : ct1 110 = .inr (7, [.ref (ad 111), .ref (ad 113)]) := (hs1 110 (by omega) (by omega)).trans s0
  have sr : isW B ad ct1 113 y := sr.other hs1 (by omega) (by omega) (by omega)
  have sl := hw1
  have hp0 : ct1 p = .inr (2, [.ref (ad (p + 1)), .ref (ad (p + 3))]) := (hs1 p (by omega) (by omega)).trans hp0
  have hpU : isW B ad ct1 (p + 1) u := hpU.other hs1 (by omega) (by omega) (by omega)
  have hpL : isW B ad ct1 (p + 3) l := hpL.other hs1 (by omega) (by omega) (by omega)
  have hfr : ∀ r, r < 111 ∨ 114 < r → ct1 r = ct r := fun r hr => (hs1 r (by omega) (by omega)).trans (hfr r hr)
  refine g_aload_n fx 0 dX7_figureOf_13 rfl ?_
  refine g_aload_n fx 2 dX7_figureOf_14 rfl ?_
  refine g_get (r := p) fx lkX7_24 (by omega) hp0 rfl dX7_figureOf_15 ?_
  refine g_callSi (As := [.ref (ad 111), .ref (ad (p + 3))]) (rest := []) fx slX7_43 (c_X7_takeOut B ad ct1 n u l (p + 3) hn (by omega) (by omega) sl hpL hl0 (by omega)) rfl rfl (Nat.le_of_ble_eq_true rfl) ⟨by decide, by decide⟩ ⟨by decide, by decide⟩ dX7_figureOf_18 (fun q2 ct2 hq2 => ?_)
  obtain ⟨e2, hw2, hs2⟩ := hq2
  have s0 : ct2 110 = .inr (7, [.ref (ad 111), .ref (ad 113)]) := (hs2 110 (by omega) (by omega)).trans s0
  have sr : isW B ad ct2 113 y := sr.other hs2 (by omega) (by omega) (by omega)
  have sl := hw2
  have hp0 : ct2 p = .inr (2, [.ref (ad (p + 1)), .ref (ad (p + 3))]) := (hs2 p (by omega) (by omega)).trans hp0
  have hpU : isW B ad ct2 (p + 1) u := hpU.other hs2 (by omega) (by omega) (by omega)
  have hpL : isW B ad ct2 (p + 3) l := hpL.other hs2 (by omega) (by omega) (by omega)
  have hfr : ∀ r, r < 111 ∨ 114 < r → ct2 r = ct r := fun r hr => (hs2 r (by omega) (by omega)).trans (hfr r hr)
  refine g_isi (y := nI (fig u l 0)) e2 ?_
  refine g_istore (L' := [(4, .int (nI (fig u l 0))), (3, .ref (ad 111)), (0, .ref (ad 110)), (1, .ref (ad p)), (2, .int (nI i))]) fx dX7_figureOf_21 (by decide) rfl ?_
  refine g_iconst (v := nI 0) fx dX7_figureOf_23 (by decide +kernel) ?_
  refine g_istore (L' := [(5, .int (nI 0)), (4, .int (nI (fig u l 0))), (3, .ref (ad 111)), (0, .ref (ad 110)), (1, .ref (ad p)), (2, .int (nI i))]) fx dX7_figureOf_24 (by decide) rfl ?_
  have LP26 : ∀ (M : Nat) (k y1 : Nat) (ct3 : Nat → va_E), (k ≤ i) → (ct3 110 = .inr (7, [.ref (ad 111), .ref (ad 113)])) → (isW B ad ct3 111 (figR u l k)) → (isW B ad ct3 113 y1) → (ct3 p = .inr (2, [.ref (ad (p + 1)), .ref (ad (p + 3))])) → (isW B ad ct3 (p + 1) u) → (isW B ad ct3 (p + 3) l) → (∀ r, r < 111 ∨ 114 < r → ct3 r = ct r) →  (i - k) < M → G B 6 E ad ct3 n 0 0 [(0, .ref (ad 110)), (1, .ref (ad p)), (2, .int (nI i)), (3, .ref (ad 111)), (4, .int (nI (fig u l k))), (5, .int (nI k))] 26 [] := by
    intro M
    induction M with
    | zero => intro k y1 ct3 _ _ _ _ _ _ _ _ hM; exact absurd hM (Nat.not_lt_zero _)
    | succ M ih =>
      intro k y1 ct3 hk s0 sl sr hp0 hpU hpL hfr hM
      have ih26 := ih
      refine g_iload fx 5 dX7_figureOf_26 rfl ?_
      refine g_iload_n fx 2 dX7_figureOf_28 rfl ?_
      refine g_icmp_ge fx 67 dX7_figureOf_29 (by decide) (fun c29 => ?_) (fun c29 => ?_)
      · skip
        have hke : k = i := by have := (nI_leI (by omega) (by omega)).mp c29; omega
        refine g_iload fx 4 dX7_figureOf_67 rfl ?_
        refine g_iret fx rt dX7_figureOf_69 ?_
        exact gPi.mk ⟨by rw [hke], _, _, s0, sl, sr, hfr⟩
      · skip
        have hlt : k < i := (nI_ltI (by omega) (by omega)).mp (Int32.not_le.mp c29)
        have hrl := figR_lt (U := u) hl0 k
        obtain ⟨sv, gv, hrv⟩ := sr.row
        refine g_aload_n fx 0 dX7_figureOf_32 rfl ?_
        refine g_get (r := 110) fx lkX7_16 (by omega) s0 rfl dX7_figureOf_33 ?_
        refine g_aload_n fx 3 dX7_figureOf_36 rfl ?_
        refine g_callVv (As := [.ref (ad 111)]) (rest := []) fx slX7_39 (c_X10_copy B ad ct3 n 113 111 sv (figR u l k) gv (by omega) (by omega) (by omega) (by omega) (by omega) hrv sl) (by omega) (isW.ob sr).choose_spec rfl rfl rfl (Nat.le_of_ble_eq_true rfl) ⟨by decide, by decide⟩ ⟨by decide, by decide⟩ dX7_figureOf_37 (fun ct4 hz4 => ?_)
        obtain ⟨hw4, hs4⟩ := hz4
        have s0 : ct4 110 = .inr (7, [.ref (ad 111), .ref (ad 113)]) := (hs4 110 (by omega) (by omega)).trans s0
        have sl : isW B ad ct4 111 (figR u l k) := sl.other hs4 (by omega) (by omega) (by omega)
        have sr := hw4
        have hp0 : ct4 p = .inr (2, [.ref (ad (p + 1)), .ref (ad (p + 3))]) := (hs4 p (by omega) (by omega)).trans hp0
        have hpU : isW B ad ct4 (p + 1) u := hpU.other hs4 (by omega) (by omega) (by omega)
        have hpL : isW B ad ct4 (p + 3) l := hpL.other hs4 (by omega) (by omega) (by omega)
        have hfr : ∀ r, r < 111 ∨ 114 < r → ct4 r = ct r := fun r hr => (hs4 r (by omega) (by omega)).trans (hfr r hr)
        obtain ⟨sw, gw2, hrw⟩ := sl.row
        refine g_aload_n fx 3 dX7_figureOf_40 rfl ?_
        refine g_aload_n fx 0 dX7_figureOf_41 rfl ?_
        refine g_get (r := 110) fx lkX7_16 (by omega) s0 rfl dX7_figureOf_42 ?_
        refine g_ldc2 fx kcX7_47 dX7_figureOf_45 ?_
        refine g_isl (y := lN 10) (by decide +kernel) ?_
        refine g_callVv (As := [.ref (ad 113), .long (lN 10)]) (rest := []) fx slX7_35 (c_X10_setProduct B ad ct4 n 111 113 sw (figR u l k) 10 gw2 (by omega) (by omega) (by omega) (by omega) (by omega) hrw sr (by decide) (Nat.lt_of_le_of_lt (Nat.mul_le_mul_right 10 (Nat.le_of_lt hrl)) hlb)) (by omega) (isW.ob sl).choose_spec rfl rfl rfl (Nat.le_of_ble_eq_true rfl) ⟨by decide, by decide⟩ ⟨by decide, by decide⟩ dX7_figureOf_48 (fun ct5 hz5 => ?_)
        obtain ⟨hw5, hs5⟩ := hz5
        have s0 : ct5 110 = .inr (7, [.ref (ad 111), .ref (ad 113)]) := (hs5 110 (by omega) (by omega)).trans s0
        have sr : isW B ad ct5 113 (figR u l k) := sr.other hs5 (by omega) (by omega) (by omega)
        have sl := hw5
        have hp0 : ct5 p = .inr (2, [.ref (ad (p + 1)), .ref (ad (p + 3))]) := (hs5 p (by omega) (by omega)).trans hp0
        have hpU : isW B ad ct5 (p + 1) u := hpU.other hs5 (by omega) (by omega) (by omega)
        have hpL : isW B ad ct5 (p + 3) l := hpL.other hs5 (by omega) (by omega) (by omega)
        have hfr : ∀ r, r < 111 ∨ 114 < r → ct5 r = ct r := fun r hr => (hs5 r (by omega) (by omega)).trans (hfr r hr)
        refine g_aload_n fx 3 dX7_figureOf_51 rfl ?_
        refine g_aload_n fx 1 dX7_figureOf_52 rfl ?_
        refine g_get (r := p) fx lkX7_24 (by omega) hp0 rfl dX7_figureOf_53 ?_
        refine g_callSi (As := [.ref (ad 111), .ref (ad (p + 3))]) (rest := []) fx slX7_43 (c_X7_takeOut B ad ct5 n (figR u l k * 10) l (p + 3) hn (by omega) (by omega) sl hpL hl0 (by omega)) rfl rfl (Nat.le_of_ble_eq_true rfl) ⟨by decide, by decide⟩ ⟨by decide, by decide⟩ dX7_figureOf_56 (fun q6 ct6 hq6 => ?_)
        obtain ⟨e6, hw6, hs6⟩ := hq6
        have s0 : ct6 110 = .inr (7, [.ref (ad 111), .ref (ad 113)]) := (hs6 110 (by omega) (by omega)).trans s0
        have sr : isW B ad ct6 113 (figR u l k) := sr.other hs6 (by omega) (by omega) (by omega)
        have sl := hw6
        have hp0 : ct6 p = .inr (2, [.ref (ad (p + 1)), .ref (ad (p + 3))]) := (hs6 p (by omega) (by omega)).trans hp0
        have hpU : isW B ad ct6 (p + 1) u := hpU.other hs6 (by omega) (by omega) (by omega)
        have hpL : isW B ad ct6 (p + 3) l := hpL.other hs6 (by omega) (by omega) (by omega)
        have hfr : ∀ r, r < 111 ∨ 114 < r → ct6 r = ct r := fun r hr => (hs6 r (by omega) (by omega)).trans (hfr r hr)
        refine g_isi (y := nI (fig u l (k + 1))) e6 ?_
        refine g_istore (L' := [(4, .int (nI (fig u l (k + 1)))), (0, .ref (ad 110)), (1, .ref (ad p)), (2, .int (nI i)), (3, .ref (ad 111)), (5, .int (nI k))]) fx dX7_figureOf_59 (by decide) rfl ?_
        refine g_iinc (L' := [(5, .int (nI (k + 1))), (4, .int (nI (fig u l (k + 1)))), (0, .ref (ad 110)), (1, .ref (ad p)), (2, .int (nI i)), (3, .ref (ad 111))]) fx (nI (k + 1)) 5 dX7_figureOf_61 rfl (gInc _) (by decide) rfl ?_
        refine g_goto fx 26 dX7_figureOf_64 (by decide) ?_
        refine g_locals (L' := [(0, .ref (ad 110)), (1, .ref (ad p)), (2, .int (nI i)), (3, .ref (ad 111)), (4, .int (nI (fig u l (k + 1)))), (5, .int (nI (k + 1)))]) [2, 3, 4, 5, 1, 0] rfl ?_
        exact ih26 (k + 1) _ _ (by omega) s0 sl sr hp0 hpU hpL hfr (by omega)
  refine g_locals (L' := [(0, .ref (ad 110)), (1, .ref (ad p)), (2, .int (nI i)), (3, .ref (ad 111)), (4, .int (nI (fig u l 0))), (5, .int (nI 0))]) [3, 4, 5, 2, 1, 0] rfl ?_
  exact LP26 (i + 1) 0 y ct2 (by omega) s0 sl sr hp0 hpU hpL hfr (by omega)
