/-- how many of the first k places hold what p asks for -/
def gCnt (p : Int32 → Bool) (f : Nat → Int32) : Nat → Nat
  | 0 => 0
  | k + 1 => gCnt p f k + if p (f k) then 1 else 0
theorem gCnt_t {p : Int32 → Bool} {f : Nat → Int32} (k : Nat) (h : p (f k) = true) : gCnt p f (k + 1) = gCnt p f k + 1 := by simp [gCnt, h]
theorem gCnt_f {p : Int32 → Bool} {f : Nat → Int32} (k : Nat) (h : p (f k) = false) : gCnt p f (k + 1) = gCnt p f k + 0 := by simp [gCnt, h]
set_option maxHeartbeats 4000000 in
set_option maxRecDepth 100000 in
theorem c_J9_min_7cf53 (B : gB) (ad : Nat → Nat) (ct : Nat → va_E) (n : Nat) (x y : Int32) : Ctr B yJ9_min_7cf53 cJ9_min_7cf53 2 (some .int) 0 0 0 0 ad ct n [.int x, .int y] (gPip ad ct n (fun r => r = if y < x then y else x)) := by
  refine Ctr.ofG (L := [(0, .int x), (1, .int y)]) (by decide +kernel) rfl (Nat.le_of_ble_eq_true rfl) (fun E fx rt hnm => ?_)
  refine g_iload_n fx 0 dJ9_min_7cf53_0 rfl ?_
  refine g_iload_n fx 1 dJ9_min_7cf53_1 rfl ?_
  refine g_icmp_gt fx 9 dJ9_min_7cf53_2 (by decide) (fun c2 => ?_) (fun c2 => ?_)
  · skip
    refine g_iload_n fx 1 dJ9_min_7cf53_9 rfl ?_
    refine g_iret fx rt dJ9_min_7cf53_10 ?_
    refine gPip.mk ?_
    first | rw [if_pos c2] | rw [if_neg c2]
  · skip
    refine g_iload_n fx 0 dJ9_min_7cf53_5 rfl ?_
    refine g_goto fx 10 dJ9_min_7cf53_6 (by decide) ?_
    refine g_iret fx rt dJ9_min_7cf53_10 ?_
    refine gPip.mk ?_
    first | rw [if_pos c2] | rw [if_neg c2]
set_option maxHeartbeats 4000000 in
set_option maxRecDepth 100000 in
theorem c_J9_max_7cf53 (B : gB) (ad : Nat → Nat) (ct : Nat → va_E) (n : Nat) (x y : Int32) : Ctr B yJ9_max_7cf53 cJ9_max_7cf53 2 (some .int) 0 0 0 0 ad ct n [.int x, .int y] (gPip ad ct n (fun r => r = if x < y then y else x)) := by
  refine Ctr.ofG (L := [(0, .int x), (1, .int y)]) (by decide +kernel) rfl (Nat.le_of_ble_eq_true rfl) (fun E fx rt hnm => ?_)
  refine g_iload_n fx 0 dJ9_max_7cf53_0 rfl ?_
  refine g_iload_n fx 1 dJ9_max_7cf53_1 rfl ?_
  refine g_icmp_lt fx 9 dJ9_max_7cf53_2 (by decide) (fun c2 => ?_) (fun c2 => ?_)
  · skip
    refine g_iload_n fx 1 dJ9_max_7cf53_9 rfl ?_
    refine g_iret fx rt dJ9_max_7cf53_10 ?_
    refine gPip.mk ?_
    first | rw [if_pos c2] | rw [if_neg c2]
  · skip
    refine g_iload_n fx 0 dJ9_max_7cf53_5 rfl ?_
    refine g_goto fx 10 dJ9_max_7cf53_6 (by decide) ?_
    refine g_iret fx rt dJ9_max_7cf53_10 ?_
    refine gPip.mk ?_
    first | rw [if_pos c2] | rw [if_neg c2]
set_option maxHeartbeats 4000000 in
set_option maxRecDepth 100000 in
theorem c_J9_abs_0f7a4 (B : gB) (ad : Nat → Nat) (ct : Nat → va_E) (n : Nat) (x : Int32) : Ctr B yJ9_abs_0f7a4 cJ9_abs_0f7a4 1 (some .int) 0 0 0 0 ad ct n [.int x] (gPip ad ct n (fun r => r = if 0 ≤ x then x else -x)) := by
  refine Ctr.ofG (L := [(0, .int x)]) (by decide +kernel) rfl (Nat.le_of_ble_eq_true rfl) (fun E fx rt hnm => ?_)
  refine g_iload_n fx 0 dJ9_abs_0f7a4_0 rfl ?_
  refine g_if_ge fx 9 dJ9_abs_0f7a4_1 (by decide) (fun c1 => ?_) (fun c1 => ?_)
  · skip
    refine g_iload_n fx 0 dJ9_abs_0f7a4_9 rfl ?_
    refine g_iret fx rt dJ9_abs_0f7a4_10 ?_
    refine gPip.mk ?_
    first | rw [if_pos c1] | rw [if_neg c1]
  · skip
    refine g_iload_n fx 0 dJ9_abs_0f7a4_4 rfl ?_
    refine g_ineg fx dJ9_abs_0f7a4_5 ?_
    refine g_goto fx 10 dJ9_abs_0f7a4_6 (by decide) ?_
    refine g_iret fx rt dJ9_abs_0f7a4_10 ?_
    refine gPip.mk ?_
    first | rw [if_pos c1] | rw [if_neg c1]
set_option maxHeartbeats 4000000 in
set_option maxRecDepth 100000 in
theorem c_J9_floorDiv_7cf53 (B : gB) (ad : Nat → Nat) (ct : Nat → va_E) (n : Nat) (x y : Int32) (hy : ¬ y = 0) : Ctr B yJ9_floorDiv_7cf53 cJ9_floorDiv_7cf53 3 (some .int) 0 0 0 0 ad ct n [.int x, .int y] (gPip ad ct n (fun r => r = if ¬ 0 ≤ x ^^^ y ∧ ¬ x / y * y = x then x / y - 1 else x / y)) := by
  refine Ctr.ofG (L := [(0, .int x), (1, .int y)]) (by decide +kernel) rfl (Nat.le_of_ble_eq_true rfl) (fun E fx rt hnm => ?_)
  refine g_iload_n fx 0 dJ9_floorDiv_7cf53_0 rfl ?_
  refine g_iload_n fx 1 dJ9_floorDiv_7cf53_1 rfl ?_
  refine g_idiv fx dJ9_floorDiv_7cf53_2 hy ?_
  refine g_topi (fun q eq => ?_)
  refine g_istore_n (L' := [(2, .int q), (0, .int x), (1, .int y)]) fx dJ9_floorDiv_7cf53_3 (by decide) rfl ?_
  refine g_iload_n fx 1 dJ9_floorDiv_7cf53_4 rfl ?_
  refine g_iload_n fx 2 dJ9_floorDiv_7cf53_5 rfl ?_
  refine g_ixor fx dJ9_floorDiv_7cf53_6 ?_
  refine g_if_ge fx 21 dJ9_floorDiv_7cf53_7 (by decide) (fun c7 => ?_) (fun c7 => ?_)
  · skip
    refine g_iload_n fx 0 dJ9_floorDiv_7cf53_21 rfl ?_
    refine g_iret fx rt dJ9_floorDiv_7cf53_22 ?_
    refine gPip.mk ?_
    subst eq
    first | (rw [if_neg (fun h => h.1 c7)]; done) | (rw [if_neg (fun h => h.2 c14)]; done)
  · skip
    refine g_iload_n fx 0 dJ9_floorDiv_7cf53_10 rfl ?_
    refine g_iload_n fx 2 dJ9_floorDiv_7cf53_11 rfl ?_
    refine g_imul fx dJ9_floorDiv_7cf53_12 ?_
    refine g_iload_n fx 1 dJ9_floorDiv_7cf53_13 rfl ?_
    refine g_icmp_eq fx 21 dJ9_floorDiv_7cf53_14 (by decide) (fun c14 => ?_) (fun c14 => ?_)
    · skip
      refine g_iload_n fx 0 dJ9_floorDiv_7cf53_21 rfl ?_
      refine g_iret fx rt dJ9_floorDiv_7cf53_22 ?_
      refine gPip.mk ?_
      subst eq
      first | (rw [if_neg (fun h => h.1 c7)]; done) | (rw [if_neg (fun h => h.2 c14)]; done)
    · skip
      refine g_iload_n fx 0 dJ9_floorDiv_7cf53_17 rfl ?_
      refine g_iconst (v := 1) fx dJ9_floorDiv_7cf53_18 (by decide +kernel) ?_
      refine g_isub fx dJ9_floorDiv_7cf53_19 ?_
      refine g_iret fx rt dJ9_floorDiv_7cf53_20 ?_
      refine gPip.mk ?_
      subst eq
      rw [if_pos ⟨c7, c14⟩]
set_option maxHeartbeats 4000000 in
set_option maxRecDepth 100000 in
theorem c_X5_size (B : gB) (ad : Nat → Nat) (ct : Nat → va_E) (n : Nat) (a N k : Nat) (f : Nat → Int32) (hn : a + 1 < n) (hkN : k ≤ N) (hN : N < 2 ^ 31) (ha : ct a = .inr (5, [.ref (ad (a + 1)), .int (nI k)])) (hb : ct (a + 1) = .inl (B.2.1 0, N, .inl f)) : Ctr B yX5_size cX5_size 1 (some .int) 0 0 0 0 ad ct n [.ref (ad a)] (gPip ad ct n (fun r => r = nI k)) := by
  refine Ctr.ofG (L := [(0, .ref (ad a))]) (by decide +kernel) rfl (Nat.le_of_ble_eq_true rfl) (fun E fx rt hnm => ?_)
  refine g_aload_n fx 0 dX5_size_0 rfl ?_
  refine g_get (r := a) fx lkX5_19 (by omega) ha rfl dX5_size_1 ?_
  refine g_iret fx rt dX5_size_4 ?_
  refine gPip.mk ?_
  rfl
set_option maxHeartbeats 4000000 in
set_option maxRecDepth 100000 in
theorem c_X5_isFull (B : gB) (ad : Nat → Nat) (ct : Nat → va_E) (n : Nat) (a N k : Nat) (f : Nat → Int32) (hn : a + 1 < n) (hkN : k ≤ N) (hN : N < 2 ^ 31) (ha : ct a = .inr (5, [.ref (ad (a + 1)), .int (nI k)])) (hb : ct (a + 1) = .inl (B.2.1 0, N, .inl f)) : Ctr B yX5_isFull cX5_isFull 1 (some .boolean) 0 0 0 0 ad ct n [.ref (ad a)] (gPip ad ct n (fun r => r = if N ≤ k then 1 else 0)) := by
  refine Ctr.ofG (L := [(0, .ref (ad a))]) (by decide +kernel) rfl (Nat.le_of_ble_eq_true rfl) (fun E fx rt hnm => ?_)
  refine g_aload_n fx 0 dX5_isFull_0 rfl ?_
  refine g_get (r := a) fx lkX5_19 (by omega) ha rfl dX5_isFull_1 ?_
  refine g_aload_n fx 0 dX5_isFull_4 rfl ?_
  refine g_get (r := a) fx lkX5_13 (by omega) ha rfl dX5_isFull_5 ?_
  refine g_alen (r := a + 1) (t0 := 0) fx rfl (by omega) hb dX5_isFull_8 ?_
  refine g_icmp_lt fx 16 dX5_isFull_9 (by decide) (fun c9 => ?_) (fun c9 => ?_)
  · skip
    refine g_iconst (v := 0) fx dX5_isFull_16 (by decide +kernel) ?_
    refine g_zret fx rt dX5_isFull_17 rfl ?_
    refine gPip.mk ?_
    first | (rw [if_pos (by have := (nI_leI (by omega) (by omega)).mp (Int32.not_lt.mp c9); omega)]; done) | (rw [if_neg (by have := (nI_ltI (by omega) (by omega)).mp c9; omega)]; done)
  · skip
    refine g_iconst (v := 1) fx dX5_isFull_12 (by decide +kernel) ?_
    refine g_goto fx 17 dX5_isFull_13 (by decide) ?_
    refine g_zret fx rt dX5_isFull_17 rfl ?_
    refine gPip.mk ?_
    first | (rw [if_pos (by have := (nI_leI (by omega) (by omega)).mp (Int32.not_lt.mp c9); omega)]; done) | (rw [if_neg (by have := (nI_ltI (by omega) (by omega)).mp c9; omega)]; done)
set_option maxHeartbeats 4000000 in
set_option maxRecDepth 100000 in
theorem c_X5_has (B : gB) (ad : Nat → Nat) (ct : Nat → va_E) (n : Nat) (a N k : Nat) (f : Nat → Int32) (hn : a + 1 < n) (hkN : k ≤ N) (hN : N < 2 ^ 31) (ha : ct a = .inr (5, [.ref (ad (a + 1)), .int (nI k)])) (hb : ct (a + 1) = .inl (B.2.1 0, N, .inl f)) (i : Int32) : Ctr B yX5_has cX5_has 2 (some .boolean) 0 0 0 0 ad ct n [.ref (ad a), .int i] (gPip ad ct n (fun r => r = if 0 ≤ i.toInt ∧ i.toInt < k then 1 else 0)) := by
  refine Ctr.ofG (L := [(0, .ref (ad a)), (1, .int i)]) (by decide +kernel) rfl (Nat.le_of_ble_eq_true rfl) (fun E fx rt hnm => ?_)
  refine g_iload_n fx 1 dX5_has_0 rfl ?_
  refine g_if_lt fx 16 dX5_has_1 (by decide) (fun c1 => ?_) (fun c1 => ?_)
  · skip
    refine g_iconst (v := 0) fx dX5_has_16 (by decide +kernel) ?_
    have hk := nI_toInt (n := k) (by omega)
    refine g_zret fx rt dX5_has_17 rfl ?_
    refine gPip.mk ?_
    first | (rw [if_neg (by have := Int32.lt_iff_toInt_lt.mp c1; simp at this; omega)]; done) | (rw [if_neg (by have := Int32.le_iff_toInt_le.mp c9; omega)]; done) | (rw [if_pos (by have h1 := Int32.not_lt.mp c1; have h1 := Int32.le_iff_toInt_le.mp h1; have h2 := Int32.lt_iff_toInt_lt.mp (Int32.not_le.mp c9); simp at h1; omega)]; done)
  · skip
    refine g_iload_n fx 1 dX5_has_4 rfl ?_
    refine g_aload_n fx 0 dX5_has_5 rfl ?_
    refine g_get (r := a) fx lkX5_19 (by omega) ha rfl dX5_has_6 ?_
    refine g_icmp_ge fx 16 dX5_has_9 (by decide) (fun c9 => ?_) (fun c9 => ?_)
    · skip
      refine g_iconst (v := 0) fx dX5_has_16 (by decide +kernel) ?_
      have hk := nI_toInt (n := k) (by omega)
      refine g_zret fx rt dX5_has_17 rfl ?_
      refine gPip.mk ?_
      first | (rw [if_neg (by have := Int32.lt_iff_toInt_lt.mp c1; simp at this; omega)]; done) | (rw [if_neg (by have := Int32.le_iff_toInt_le.mp c9; omega)]; done) | (rw [if_pos (by have h1 := Int32.not_lt.mp c1; have h1 := Int32.le_iff_toInt_le.mp h1; have h2 := Int32.lt_iff_toInt_lt.mp (Int32.not_le.mp c9); simp at h1; omega)]; done)
    · skip
      refine g_iconst (v := 1) fx dX5_has_12 (by decide +kernel) ?_
      refine g_goto fx 17 dX5_has_13 (by decide) ?_
      have hk := nI_toInt (n := k) (by omega)
      refine g_zret fx rt dX5_has_17 rfl ?_
      refine gPip.mk ?_
      first | (rw [if_neg (by have := Int32.lt_iff_toInt_lt.mp c1; simp at this; omega)]; done) | (rw [if_neg (by have := Int32.le_iff_toInt_le.mp c9; omega)]; done) | (rw [if_pos (by have h1 := Int32.not_lt.mp c1; have h1 := Int32.le_iff_toInt_le.mp h1; have h2 := Int32.lt_iff_toInt_lt.mp (Int32.not_le.mp c9); simp at h1; omega)]; done)
set_option maxHeartbeats 4000000 in
set_option maxRecDepth 100000 in
theorem c_X5_empty (B : gB) (ad : Nat → Nat) (ct : Nat → va_E) (n : Nat) (a N k : Nat) (f : Nat → Int32) (hn : a + 1 < n) (hkN : k ≤ N) (hN : N < 2 ^ 31) (ha : ct a = .inr (5, [.ref (ad (a + 1)), .int (nI k)])) (hb : ct (a + 1) = .inl (B.2.1 0, N, .inl f)) : Ctr B yX5_empty cX5_empty 2 (some .int) 0 0 0 0 ad ct n [.ref (ad a)] (gPi ad n (fun r ct' => r = nI k ∧ ct' = va_up ct a (.inr (5, [.ref (ad (a + 1)), .int (nI 0)])))) := by
  refine Ctr.ofG (L := [(0, .ref (ad a))]) (by decide +kernel) rfl (Nat.le_of_ble_eq_true rfl) (fun E fx rt hnm => ?_)
  refine g_aload_n fx 0 dX5_empty_0 rfl ?_
  refine g_get (r := a) fx lkX5_19 (by omega) ha rfl dX5_empty_1 ?_
  refine g_istore_n (L' := [(1, .int (nI k)), (0, .ref (ad a))]) fx dX5_empty_4 (by decide) rfl ?_
  refine g_aload_n fx 1 dX5_empty_5 rfl ?_
  refine g_iconst (v := nI 0) fx dX5_empty_6 (by decide +kernel) ?_
  refine g_put (r := a) (fs' := [.ref (ad (a + 1)), .int (nI 0)]) fx lpX5_19 (by omega) ha rfl rfl (Nat.le_of_ble_eq_true rfl) rfl dX5_empty_7 (fun cu1 ecu1 => ?_)
  have ha : cu1 a = .inr (5, [.ref (ad (a + 1)), .int (nI 0)]) := by rw [ecu1, va_up_self]
  have hb : cu1 (a + 1) = .inl (B.2.1 0, N, .inl f) := by rw [ecu1, va_up_ne _ _ (by omega)]; exact hb
  refine g_iload_n fx 0 dX5_empty_10 rfl ?_
  refine g_iret fx rt dX5_empty_11 ?_
  exact gPi.mk ⟨rfl, ecu1⟩
set_option maxHeartbeats 4000000 in
set_option maxRecDepth 100000 in
theorem c_X5_get (B : gB) (ad : Nat → Nat) (ct : Nat → va_E) (n : Nat) (a N k : Nat) (f : Nat → Int32) (hn : a + 1 < n) (hkN : k ≤ N) (hN : N < 2 ^ 31) (ha : ct a = .inr (5, [.ref (ad (a + 1)), .int (nI k)])) (hb : ct (a + 1) = .inl (B.2.1 0, N, .inl f)) (i : Int32) : Ctr B yX5_get cX5_get 2 (some .int) 1 21 0 0 ad ct n [.ref (ad a), .int i] (gPip ad ct n (fun r => r = if 0 ≤ i.toInt ∧ i.toInt < k then f i.toInt.toNat else 0)) := by
  refine Ctr.ofG (L := [(0, .ref (ad a)), (1, .int i)]) (by decide +kernel) rfl (Nat.le_of_ble_eq_true rfl) (fun E fx rt hnm => ?_)
  refine g_aload_n fx 0 dX5_get_0 rfl ?_
  refine g_iload_n fx 1 dX5_get_1 rfl ?_
  refine g_callVip (As := [.int i]) (rest := []) fx slX5_23 (c_X5_has B ad ct n a N k f hn hkN hN ha hb i) (by omega) ha rfl rfl rfl (Nat.le_of_ble_eq_true rfl) ⟨by decide, by decide⟩ ⟨by decide, by decide⟩ dX5_get_2 (fun hs hhs => ?_)
  refine g_if_eq fx 17 dX5_get_5 (by decide) (fun c5 => ?_) (fun c5 => ?_)
  · skip
    have hc : ¬ (0 ≤ i.toInt ∧ i.toInt < k) := fun h => by rw [if_pos h] at hhs; rw [hhs] at c5; exact absurd c5 (by decide)
    refine g_iconst (v := 0) fx dX5_get_17 (by decide +kernel) ?_
    refine g_iret fx rt dX5_get_18 ?_
    refine gPip.mk ?_
    first | (rw [if_pos hc]; done) | (rw [if_neg hc]; done)
  · skip
    have hc : 0 ≤ i.toInt ∧ i.toInt < k := Decidable.byContradiction (fun h => c5 (by rw [hhs, if_neg h]))
    refine g_aload_n fx 0 dX5_get_8 rfl ?_
    refine g_get (r := a) fx lkX5_13 (by omega) ha rfl dX5_get_9 ?_
    refine g_iload_n fx 1 dX5_get_12 rfl ?_
    refine g_iald (r := a + 1) (j := i.toInt.toNat) fx (by omega) hb (by omega) (by omega) dX5_get_13 ?_
    refine g_goto fx 18 dX5_get_14 (by decide) ?_
    refine g_iret fx rt dX5_get_18 ?_
    refine gPip.mk ?_
    first | (rw [if_pos hc]; done) | (rw [if_neg hc]; done)
set_option maxHeartbeats 4000000 in
set_option maxRecDepth 100000 in
theorem c_X5_add (B : gB) (ad : Nat → Nat) (ct : Nat → va_E) (n : Nat) (a N k : Nat) (f : Nat → Int32) (hn : a + 1 < n) (hkN : k ≤ N) (hN : N < 2 ^ 31) (ha : ct a = .inr (5, [.ref (ad (a + 1)), .int (nI k)])) (hb : ct (a + 1) = .inl (B.2.1 0, N, .inl f)) (v : Int32) : Ctr B yX5_add cX5_add 2 (some .int) 1 20 0 0 ad ct n [.ref (ad a), .int v] (gPi ad n (fun r ct' => if N ≤ k then r = nI k ∧ ct' = ct else r = nI (k + 1) ∧ ct' = va_up (va_up ct (a + 1) (.inl (B.2.1 0, N, .inl (va_up f k v)))) a (.inr (5, [.ref (ad (a + 1)), .int (nI (k + 1))])))) := by
  refine Ctr.ofG (L := [(0, .ref (ad a)), (1, .int v)]) (by decide +kernel) rfl (Nat.le_of_ble_eq_true rfl) (fun E fx rt hnm => ?_)
  refine g_aload_n fx 0 dX5_add_0 rfl ?_
  refine g_callVip (As := []) (rest := []) fx slX5_27 (c_X5_isFull B ad ct n a N k f hn hkN hN ha hb) (by omega) ha rfl rfl rfl (Nat.le_of_ble_eq_true rfl) ⟨by decide, by decide⟩ ⟨by decide, by decide⟩ dX5_add_1 (fun hs hhs => ?_)
  refine g_if_ne fx 27 dX5_add_4 (by decide) (fun c4 => ?_) (fun c4 => ?_)
  · skip
    have hc : N ≤ k := Decidable.byContradiction (fun h => c4 (by rw [hhs, if_neg h]))
    refine g_aload_n fx 0 dX5_add_27 rfl ?_
    refine g_get (r := a) fx lkX5_19 (by omega) ha rfl dX5_add_28 ?_
    refine g_iret fx rt dX5_add_31 ?_
    refine gPi.mk ?_
    first | (rw [if_pos hc]; exact ⟨rfl, rfl⟩) | (rw [if_neg hc]; exact ⟨rfl, by rw [ecu3, ecu2]⟩)
  · skip
    have hc : ¬ N ≤ k := fun h => by rw [if_pos h] at hhs; rw [hhs] at c4; exact absurd c4 (by decide)
    refine g_aload_n fx 0 dX5_add_7 rfl ?_
    refine g_get (r := a) fx lkX5_13 (by omega) ha rfl dX5_add_8 ?_
    refine g_aload_n fx 0 dX5_add_11 rfl ?_
    refine g_get (r := a) fx lkX5_19 (by omega) ha rfl dX5_add_12 ?_
    refine g_iload_n fx 1 dX5_add_15 rfl ?_
    refine g_iast (r := a + 1) (j := k) fx (by omega) hb (nI_toInt (by omega)) (by omega) dX5_add_16 (fun cu2 ecu2 => ?_)
    have ha : cu2 a = .inr (5, [.ref (ad (a + 1)), .int (nI k)]) := by rw [ecu2, va_up_ne _ _ (by omega)]; exact ha
    have hb : cu2 (a + 1) = .inl (B.2.1 0, N, .inl (va_up f k v)) := by rw [ecu2, va_up_self]
    refine g_aload_n fx 0 dX5_add_17 rfl ?_
    refine g_dup fx dX5_add_18 rfl ?_
    refine g_get (r := a) fx lkX5_19 (by omega) ha rfl dX5_add_19 ?_
    refine g_iconst (v := nI 1) fx dX5_add_22 (by decide +kernel) ?_
    refine g_iaddN fx dX5_add_23 ?_
    refine g_put (r := a) (fs' := [.ref (ad (a + 1)), .int (nI (k + 1))]) fx lpX5_19 (by omega) ha rfl rfl (Nat.le_of_ble_eq_true rfl) rfl dX5_add_24 (fun cu3 ecu3 => ?_)
    have ha : cu3 a = .inr (5, [.ref (ad (a + 1)), .int (nI (k + 1))]) := by rw [ecu3, va_up_self]
    have hb : cu3 (a + 1) = .inl (B.2.1 0, N, .inl (va_up f k v)) := by rw [ecu3, va_up_ne _ _ (by omega)]; exact hb
    refine g_aload_n fx 0 dX5_add_27 rfl ?_
    refine g_get (r := a) fx lkX5_19 (by omega) ha rfl dX5_add_28 ?_
    refine g_iret fx rt dX5_add_31 ?_
    refine gPi.mk ?_
    first | (rw [if_pos hc]; exact ⟨rfl, rfl⟩) | (rw [if_neg hc]; exact ⟨rfl, by rw [ecu3, ecu2]⟩)
set_option maxHeartbeats 4000000 in
set_option maxRecDepth 100000 in
theorem c_X5_countOf (B : gB) (ad : Nat → Nat) (ct : Nat → va_E) (n : Nat) (a N k : Nat) (f : Nat → Int32) (hn : a + 1 < n) (hkN : k ≤ N) (hN : N < 2 ^ 31) (ha : ct a = .inr (5, [.ref (ad (a + 1)), .int (nI k)])) (hb : ct (a + 1) = .inl (B.2.1 0, N, .inl f)) (v : Int32) : Ctr B yX5_countOf cX5_countOf 4 (some .int) 0 0 0 0 ad ct n [.ref (ad a), .int v] (gPip ad ct n (fun r => r = nI (gCnt (fun x => decide (x = v)) f k))) := by
  refine Ctr.ofG (L := [(0, .ref (ad a)), (1, .int v)]) (by decide +kernel) rfl (Nat.le_of_ble_eq_true rfl) (fun E fx rt hnm => ?_)
  refine g_iconst (v := nI 0) fx dX5_countOf_0 (by decide +kernel) ?_
  refine g_istore_n (L' := [(2, .int (nI 0)), (0, .ref (ad a)), (1, .int v)]) fx dX5_countOf_1 (by decide) rfl ?_
  refine g_iconst (v := nI 0) fx dX5_countOf_2 (by decide +kernel) ?_
  refine g_istore_n (L' := [(3, .int (nI 0)), (2, .int (nI 0)), (0, .ref (ad a)), (1, .int v)]) fx dX5_countOf_3 (by decide) rfl ?_
  have LP4 : ∀ (M : Nat) (i : Nat), (i ≤ k) →  (k - i) < M → G B 4 E ad ct n 0 0 [(0, .ref (ad a)), (1, .int v), (2, .int (nI (gCnt (fun x => decide (x = v)) f i))), (3, .int (nI i))] 4 [] := by
    intro M
    induction M with
    | zero => intro i _ hM; exact absurd hM (Nat.not_lt_zero _)
    | succ M ih =>
      intro i hi hM
      refine g_iload_n fx 3 dX5_countOf_4 rfl ?_
      refine g_aload_n fx 0 dX5_countOf_5 rfl ?_
      refine g_get (r := a) fx lkX5_19 (by omega) ha rfl dX5_countOf_6 ?_
      refine g_icmp_ge fx 36 dX5_countOf_9 (by decide) (fun c9 => ?_) (fun c9 => ?_)
      · skip
        have hle := (nI_leI (by omega) (by omega)).mp c9
        have hik : i = k := by omega
        subst hik
        refine g_iload_n fx 2 dX5_countOf_36 rfl ?_
        refine g_iret fx rt dX5_countOf_37 ?_
        refine gPip.mk ?_
        rfl
      · skip
        have hlt : i < k := by have := (nI_ltI (by omega) (by omega)).mp (Int32.not_le.mp c9); omega
        refine g_iload_n fx 2 dX5_countOf_12 rfl ?_
        refine g_aload_n fx 0 dX5_countOf_13 rfl ?_
        refine g_get (r := a) fx lkX5_13 (by omega) ha rfl dX5_countOf_14 ?_
        refine g_iload_n fx 3 dX5_countOf_17 rfl ?_
        refine g_iald (r := a + 1) (j := i) fx (by omega) hb (nI_toInt (by omega)) (by omega) dX5_countOf_18 ?_
        refine g_iload_n fx 1 dX5_countOf_19 rfl ?_
        refine g_icmp_ne fx 27 dX5_countOf_20 (by decide) (fun c20 => ?_) (fun c20 => ?_)
        · skip
          refine g_iconst (v := nI 0) fx dX5_countOf_27 (by decide +kernel) ?_
          refine g_iaddN fx dX5_countOf_28 ?_
          refine g_isi (y := nI (gCnt (fun x => decide (x = v)) f (i + 1))) (by first | (rw [gCnt_t _ (decide_eq_true c20)]) | (rw [gCnt_f _ (decide_eq_false c20)])) ?_
          refine g_istore_n (L' := [(2, .int (nI (gCnt (fun x => decide (x = v)) f (i + 1)))), (0, .ref (ad a)), (1, .int v), (3, .int (nI i))]) fx dX5_countOf_29 (by decide) rfl ?_
          refine g_iinc (L' := [(3, .int (nI (i + 1))), (2, .int (nI (gCnt (fun x => decide (x = v)) f (i + 1)))), (0, .ref (ad a)), (1, .int v)]) fx (nI (i + 1)) 3 dX5_countOf_30 rfl (gInc _) (by decide) rfl ?_
          refine g_goto fx 4 dX5_countOf_33 (by decide) ?_
          refine g_locals (L' := [(0, .ref (ad a)), (1, .int v), (2, .int (nI (gCnt (fun x => decide (x = v)) f (i + 1)))), (3, .int (nI (i + 1)))]) [2, 3, 1, 0] rfl ?_
          exact ih (i + 1) hlt (by omega)
        · skip
          refine g_iconst (v := nI 1) fx dX5_countOf_23 (by decide +kernel) ?_
          refine g_goto fx 28 dX5_countOf_24 (by decide) ?_
          refine g_iaddN fx dX5_countOf_28 ?_
          refine g_isi (y := nI (gCnt (fun x => decide (x = v)) f (i + 1))) (by first | (rw [gCnt_t _ (decide_eq_true c20)]) | (rw [gCnt_f _ (decide_eq_false c20)])) ?_
          refine g_istore_n (L' := [(2, .int (nI (gCnt (fun x => decide (x = v)) f (i + 1)))), (0, .ref (ad a)), (1, .int v), (3, .int (nI i))]) fx dX5_countOf_29 (by decide) rfl ?_
          refine g_iinc (L' := [(3, .int (nI (i + 1))), (2, .int (nI (gCnt (fun x => decide (x = v)) f (i + 1)))), (0, .ref (ad a)), (1, .int v)]) fx (nI (i + 1)) 3 dX5_countOf_30 rfl (gInc _) (by decide) rfl ?_
          refine g_goto fx 4 dX5_countOf_33 (by decide) ?_
          refine g_locals (L' := [(0, .ref (ad a)), (1, .int v), (2, .int (nI (gCnt (fun x => decide (x = v)) f (i + 1)))), (3, .int (nI (i + 1)))]) [2, 3, 1, 0] rfl ?_
          exact ih (i + 1) hlt (by omega)
  refine g_locals (L' := [(0, .ref (ad a)), (1, .int v), (2, .int (nI 0)), (3, .int (nI 0))]) [2, 3, 1, 0] rfl ?_
  exact LP4 (k + 1) 0 (Nat.zero_le _) (by omega)
set_option maxHeartbeats 4000000 in
set_option maxRecDepth 100000 in
theorem c_X5_countBelow (B : gB) (ad : Nat → Nat) (ct : Nat → va_E) (n : Nat) (a N k : Nat) (f : Nat → Int32) (hn : a + 1 < n) (hkN : k ≤ N) (hN : N < 2 ^ 31) (ha : ct a = .inr (5, [.ref (ad (a + 1)), .int (nI k)])) (hb : ct (a + 1) = .inl (B.2.1 0, N, .inl f)) (v : Int32) : Ctr B yX5_countBelow cX5_countBelow 4 (some .int) 0 0 0 0 ad ct n [.ref (ad a), .int v] (gPip ad ct n (fun r => r = nI (gCnt (fun x => decide (x < v)) f k))) := by
  refine Ctr.ofG (L := [(0, .ref (ad a)), (1, .int v)]) (by decide +kernel) rfl (Nat.le_of_ble_eq_true rfl) (fun E fx rt hnm => ?_)
  refine g_iconst (v := nI 0) fx dX5_countBelow_0 (by decide +kernel) ?_
  refine g_istore_n (L' := [(2, .int (nI 0)), (0, .ref (ad a)), (1, .int v)]) fx dX5_countBelow_1 (by decide) rfl ?_
  refine g_iconst (v := nI 0) fx dX5_countBelow_2 (by decide +kernel) ?_
  refine g_istore_n (L' := [(3, .int (nI 0)), (2, .int (nI 0)), (0, .ref (ad a)), (1, .int v)]) fx dX5_countBelow_3 (by decide) rfl ?_
  have LP4 : ∀ (M : Nat) (i : Nat), (i ≤ k) →  (k - i) < M → G B 4 E ad ct n 0 0 [(0, .ref (ad a)), (1, .int v), (2, .int (nI (gCnt (fun x => decide (x < v)) f i))), (3, .int (nI i))] 4 [] := by
    intro M
    induction M with
    | zero => intro i _ hM; exact absurd hM (Nat.not_lt_zero _)
    | succ M ih =>
      intro i hi hM
      refine g_iload_n fx 3 dX5_countBelow_4 rfl ?_
      refine g_aload_n fx 0 dX5_countBelow_5 rfl ?_
      refine g_get (r := a) fx lkX5_19 (by omega) ha rfl dX5_countBelow_6 ?_
      refine g_icmp_ge fx 36 dX5_countBelow_9 (by decide) (fun c9 => ?_) (fun c9 => ?_)
      · skip
        have hle := (nI_leI (by omega) (by omega)).mp c9
        have hik : i = k := by omega
        subst hik
        refine g_iload_n fx 2 dX5_countBelow_36 rfl ?_
        refine g_iret fx rt dX5_countBelow_37 ?_
        refine gPip.mk ?_
        rfl
      · skip
        have hlt : i < k := by have := (nI_ltI (by omega) (by omega)).mp (Int32.not_le.mp c9); omega
        refine g_iload_n fx 2 dX5_countBelow_12 rfl ?_
        refine g_aload_n fx 0 dX5_countBelow_13 rfl ?_
        refine g_get (r := a) fx lkX5_13 (by omega) ha rfl dX5_countBelow_14 ?_
        refine g_iload_n fx 3 dX5_countBelow_17 rfl ?_
        refine g_iald (r := a + 1) (j := i) fx (by omega) hb (nI_toInt (by omega)) (by omega) dX5_countBelow_18 ?_
        refine g_iload_n fx 1 dX5_countBelow_19 rfl ?_
        refine g_icmp_ge fx 27 dX5_countBelow_20 (by decide) (fun c20 => ?_) (fun c20 => ?_)
        · skip
          refine g_iconst (v := nI 0) fx dX5_countBelow_27 (by decide +kernel) ?_
          refine g_iaddN fx dX5_countBelow_28 ?_
          refine g_isi (y := nI (gCnt (fun x => decide (x < v)) f (i + 1))) (by first | (rw [gCnt_t _ (decide_eq_true (Int32.not_le.mp c20))]) | (rw [gCnt_f _ (decide_eq_false (Int32.not_lt.mpr c20))])) ?_
          refine g_istore_n (L' := [(2, .int (nI (gCnt (fun x => decide (x < v)) f (i + 1)))), (0, .ref (ad a)), (1, .int v), (3, .int (nI i))]) fx dX5_countBelow_29 (by decide) rfl ?_
          refine g_iinc (L' := [(3, .int (nI (i + 1))), (2, .int (nI (gCnt (fun x => decide (x < v)) f (i + 1)))), (0, .ref (ad a)), (1, .int v)]) fx (nI (i + 1)) 3 dX5_countBelow_30 rfl (gInc _) (by decide) rfl ?_
          refine g_goto fx 4 dX5_countBelow_33 (by decide) ?_
          refine g_locals (L' := [(0, .ref (ad a)), (1, .int v), (2, .int (nI (gCnt (fun x => decide (x < v)) f (i + 1)))), (3, .int (nI (i + 1)))]) [2, 3, 1, 0] rfl ?_
          exact ih (i + 1) hlt (by omega)
        · skip
          refine g_iconst (v := nI 1) fx dX5_countBelow_23 (by decide +kernel) ?_
          refine g_goto fx 28 dX5_countBelow_24 (by decide) ?_
          refine g_iaddN fx dX5_countBelow_28 ?_
          refine g_isi (y := nI (gCnt (fun x => decide (x < v)) f (i + 1))) (by first | (rw [gCnt_t _ (decide_eq_true (Int32.not_le.mp c20))]) | (rw [gCnt_f _ (decide_eq_false (Int32.not_lt.mpr c20))])) ?_
          refine g_istore_n (L' := [(2, .int (nI (gCnt (fun x => decide (x < v)) f (i + 1)))), (0, .ref (ad a)), (1, .int v), (3, .int (nI i))]) fx dX5_countBelow_29 (by decide) rfl ?_
          refine g_iinc (L' := [(3, .int (nI (i + 1))), (2, .int (nI (gCnt (fun x => decide (x < v)) f (i + 1)))), (0, .ref (ad a)), (1, .int v)]) fx (nI (i + 1)) 3 dX5_countBelow_30 rfl (gInc _) (by decide) rfl ?_
          refine g_goto fx 4 dX5_countBelow_33 (by decide) ?_
          refine g_locals (L' := [(0, .ref (ad a)), (1, .int v), (2, .int (nI (gCnt (fun x => decide (x < v)) f (i + 1)))), (3, .int (nI (i + 1)))]) [2, 3, 1, 0] rfl ?_
          exact ih (i + 1) hlt (by omega)
  refine g_locals (L' := [(0, .ref (ad a)), (1, .int v), (2, .int (nI 0)), (3, .int (nI 0))]) [2, 3, 1, 0] rfl ?_
  exact LP4 (k + 1) 0 (Nat.zero_le _) (by omega)
