/-! half sums -/
theorem one_of {y : Nat} : ∀ M, y < M → sumF (fun x => if x = y then 1 else 0) M = 1
  | 0, h => absurd h (Nat.not_lt_zero _)
  | M + 1, h => by
    show sumF (fun x => if x = y then 1 else 0) M + (if M = y then 1 else 0) = 1
    by_cases q : M = y
    · rw [if_pos q]
      have : sumF (fun x => if x = y then 1 else 0) M = 0 := by
        have := sumF_le (f := fun x => if x = y then 1 else 0) (b := 0) M (fun i hi => by rw [if_neg (by omega)]; exact Nat.le_refl _)
        omega
      omega
    · rw [if_neg q, one_of M (by omega)]
theorem row_0 {s t : Nat → Nat} {x : Nat} : ∀ sz, (∀ i, i < sz → s i ≠ x) → sumF (fun i => if s i = x then t i else 0) sz = 0
  | 0, _ => rfl
  | sz + 1, h => by
    show sumF (fun i => if s i = x then t i else 0) sz + (if s sz = x then t sz else 0) = 0
    rw [row_0 sz (fun i hi => h i (by omega)), if_neg (h sz (by omega))]
theorem row_size {s t : Nat → Nat} {M : Nat} : ∀ sz, (∀ p q, p < q → q < sz → s p < s q) → (∀ i, i < sz → s i < M) → (∀ i, i < sz → 0 < t i) → sumF (fun x => if sumF (fun i => if s i = x then t i else 0) sz = 0 then 0 else 1) M = sz
  | 0, _, _, _ => by
    have := sumF_le (f := fun x => if sumF (fun i => if s i = x then t i else 0) 0 = 0 then 0 else 1) (b := 0) M (fun i hi => Nat.le_of_eq (if_pos rfl))
    omega
  | sz + 1, h1, h2, h3 => by
    have ih := row_size (s := s) (t := t) (M := M) sz (fun p q a b => h1 p q a (by omega)) (fun i hi => h2 i (by omega)) (fun i hi => h3 i (by omega))
    have e : ∀ x, (if sumF (fun i => if s i = x then t i else 0) (sz + 1) = 0 then 0 else 1) = (if sumF (fun i => if s i = x then t i else 0) sz = 0 then 0 else 1) + (if x = s sz then 1 else 0) := by
      intro x
      show (if sumF (fun i => if s i = x then t i else 0) sz + (if s sz = x then t sz else 0) = 0 then 0 else 1) = _
      by_cases q : x = s sz
      · have h4 := h3 sz (by omega)
        rw [q, row_0 (x := s sz) sz (fun i hi => by have := h1 i sz hi (by omega); omega), if_pos rfl, if_neg (by omega), if_pos rfl, if_pos rfl]
      · have e1 : (if s sz = x then t sz else 0) = 0 := if_neg (fun e => q e.symm)
        rw [e1, if_neg q, Nat.add_zero, Nat.add_zero]
    rw [sumF_congr (g := fun x => (if sumF (fun i => if s i = x then t i else 0) sz = 0 then 0 else 1) + (if x = s sz then 1 else 0)) M (fun x _ => e x), sumF_add, ih, one_of M (h2 sz (by omega))]
def cntS (a : Nat → Nat) : Nat → Nat → Nat
  | 0, x => if x = 0 then 1 else 0
  | m + 1, x => cntS a m x + (if a m ≤ x then cntS a m (x - a m) else 0)
def HS (a : Nat → Nat) (m sz : Nat) (s t : Nat → Nat) : Prop := (∀ p q, p < q → q < sz → s p < s q) ∧ (∀ i, i < sz → s i ≤ sumF a m) ∧ (∀ x, sumF (fun i => if s i = x then t i else 0) sz = cntS a m x) ∧ sz ≤ 2 ^ m ∧ ∀ i, i < sz → 0 < t i
/-- how many sums there are -/
def dS (a : Nat → Nat) (m : Nat) : Nat := sumF (fun x => if cntS a m x = 0 then 0 else 1) (sumF a m + 1)
theorem HS.size {a : Nat → Nat} {m sz : Nat} {s t : Nat → Nat} (h : HS a m sz s t) : sz = dS a m := by
  have h1 := row_size (s := s) (t := t) (M := sumF a m + 1) sz h.1 (fun i hi => by have := h.2.1 i hi; omega) h.2.2.2.2
  unfold dS
  rw [← h1]
  exact sumF_congr _ (fun x _ => by rw [h.2.2.1 x])
def okL (N : Nat) : Prop := N = 64 ∨ N = 512 ∨ N = 4096 ∨ N = 32768
def hsL (N need : Nat) : Nat := if need ≤ N then N else 8 * N
theorem okL_up {N need : Nat} (h : okL N) (hn : need ≤ 32768) : okL (hsL N need) := by
  unfold hsL okL at *
  split <;> omega
def OUT (s t : Nat → Nat) (lo hi y : Nat) : Nat := sumF (fun q => if s (lo + q) = y then t (lo + q) else 0) (hi - lo)
theorem out_new {s t : Nat → Nat} {lo hi y x o : Nat} (h : 0 < lo) (hl : lo ≤ hi) : OUT (va_up s (lo - 1) x) (va_up t (lo - 1) o) (lo - 1) hi y = (if x = y then o else 0) + OUT s t lo hi y := by
  unfold OUT
  rw [show hi - (lo - 1) = (hi - lo) + 1 by omega, sumF_head, Nat.add_zero, va_up_self, va_up_self]
  congr 1
  refine sumF_congr _ (fun q _ => ?_)
  rw [show lo - 1 + (q + 1) = lo + q by omega, va_up_ne _ _ (by omega), va_up_ne _ _ (by omega)]
theorem out_mrg {s t : Nat → Nat} {lo hi y x o : Nat} (hl : lo < hi) (hx : s lo = x) : OUT s (va_up t lo (t lo + o)) lo hi y = (if x = y then o else 0) + OUT s t lo hi y := by
  unfold OUT
  obtain ⟨d, hd⟩ : ∃ d, hi - lo = d + 1 := ⟨hi - lo - 1, by omega⟩
  rw [hd, sumF_head, sumF_head, Nat.add_zero, va_up_self, hx]
  have e : sumF (fun i => if s (lo + (i + 1)) = y then va_up t lo (t lo + o) (lo + (i + 1)) else 0) d = sumF (fun i => if s (lo + (i + 1)) = y then t (lo + (i + 1)) else 0) d := sumF_congr _ (fun q _ => by rw [va_up_ne _ _ (by omega)])
  rw [e]
  split <;> omega
theorem in2_eq {s t : Nat → Nat} {num y : Nat} : ∀ k, sumF (fun i => if s i + num = y then t i else 0) k = if num ≤ y then sumF (fun i => if s i = y - num then t i else 0) k else 0
  | 0 => by split <;> rfl
  | k + 1 => by
    show sumF (fun i => if s i + num = y then t i else 0) k + (if s k + num = y then t k else 0) = _
    rw [in2_eq k]
    by_cases q : num ≤ y
    · rw [if_pos q, if_pos q]
      show _ = sumF (fun i => if s i = y - num then t i else 0) k + (if s k = y - num then t k else 0)
      congr 1
      by_cases q2 : s k + num = y
      · rw [if_pos q2, if_pos (by omega)]
      · rw [if_neg q2, if_neg (by omega)]
    · rw [if_neg q, if_neg q, if_neg (by omega)]
theorem cpy_nF {f g : Nat → Nat} {a b c : Nat} : va_cpy (nF f) (nF g) a b c = nF (va_cpy f g a b c) := by
  funext k
  show (if b ≤ k ∧ k < b + c then nI (f (a + (k - b))) else nI (g k)) = nI (if b ≤ k ∧ k < b + c then f (a + (k - b)) else g k)
  split <;> rfl
theorem cpy_in {f g : Nat → Nat} {a c i : Nat} (h : i < c) : va_cpy f g a 0 c i = f (a + i) := by
  unfold va_cpy
  rw [if_pos ⟨Nat.zero_le _, by omega⟩, Nat.sub_zero]
theorem HS.start {a : Nat → Nat} {s t : Nat → Nat} (h1 : s 0 = 0) (h2 : t 0 = 1) : HS a 0 1 s t := by
  refine ⟨fun p q h1 h2 => absurd h2 (by omega), fun i hi => ?_, fun x => ?_, Nat.le_refl _, fun i hi => by rw [show i = 0 by omega, h2]; decide⟩
  · rw [show i = 0 by omega, h1]; exact Nat.zero_le _
  · show 0 + (if s 0 = x then t 0 else 0) = if x = 0 then 1 else 0
    rw [h1, h2]
    by_cases q : x = 0
    · rw [if_pos q, if_pos q.symm]
    · rw [if_neg q, if_neg (fun e => q e.symm)]
theorem HS.done {a s t s1 t1 s2 t2 : Nat → Nat} {m at_ e num sz2 : Nat} (h0 : at_ + sz2 = e) (hinc : ∀ p q, at_ ≤ p → p < q → q < e → s1 p < s1 q) (hbd : ∀ p, at_ ≤ p → p < e → s1 p ≤ sumF a (m + 1)) (hsum : ∀ y, OUT s1 t1 at_ e y = cntS a (m + 1) y) (h1 : ∀ i, i < sz2 → s2 i = s1 (at_ + i)) (h2 : ∀ i, i < sz2 → t2 i = t1 (at_ + i)) (hz : sz2 ≤ 2 ^ (m + 1)) (hpos : ∀ p, at_ ≤ p → p < e → 0 < t1 p) : HS a (m + 1) sz2 s2 t2 := by
  refine ⟨fun p q hp hq => by rw [h1 p (by omega), h1 q hq]; exact hinc _ _ (by omega) (by omega) (by omega), fun i hi => by rw [h1 i hi]; exact hbd _ (by omega) (by omega), fun x => ?_, hz, fun i hi => by rw [h2 i hi]; exact hpos _ (by omega) (by omega)⟩
  rw [← hsum x]
  unfold OUT
  rw [show e - at_ = sz2 by omega]
  exact sumF_congr _ (fun i hi => by rw [h1 i hi, h2 i hi])
set_option maxHeartbeats 4000000 in
set_option maxRecDepth 100000 in
theorem c_X4_begin (B : gB) (ad : Nat → Nat) (ct : Nat → va_E) (n : Nat) (w sz N : Nat) (s t : Nat → Nat) (hn : w + 2 < n) (hh : ct w = .inr (4, [.ref (ad (w + 1)), .ref (ad (w + 2)), .int (nI sz)])) (hs : ct (w + 1) = .inl (B.2.1 0, N, .inl (nF s))) (ht : ct (w + 2) = .inl (B.2.1 0, N, .inl (nF t))) (hN : 0 < N) : Ctr B yX4_begin cX4_begin 1 none 0 0 0 0 ad ct n [.ref (ad w)] (gPv ad n (fun ct' => ∃ s' t', ct' w = .inr (4, [.ref (ad (w + 1)), .ref (ad (w + 2)), .int (nI 1)]) ∧ ct' (w + 1) = .inl (B.2.1 0, N, .inl (nF s')) ∧ ct' (w + 2) = .inl (B.2.1 0, N, .inl (nF t')) ∧ (∀ a, HS a 0 1 s' t') ∧ ∀ r, r ≠ w → r ≠ w + 1 → r ≠ w + 2 → ct' r = ct r)) := by
  have hfr : ∀ r, r ≠ w → r ≠ w + 1 → r ≠ w + 2 → ct r = ct r := fun _ _ _ _ => rfl
  refine Ctr.ofG (L := [(0, .ref (ad w))]) (by decide +kernel) rfl (Nat.le_of_ble_eq_true rfl) (fun E fx rt hnm => ?_)
  refine g_aload_n fx 0 dX4_begin_0 rfl ?_
  refine g_get (r := w) fx lkX4_7 (by omega) hh rfl dX4_begin_1 ?_
  refine g_iconst (v := nI 0) fx dX4_begin_4 (by decide +kernel) ?_
  refine g_iconst (v := nI 0) fx dX4_begin_5 (by decide +kernel) ?_
  refine g_iast (r := w + 1) (j := 0) fx (by omega) hs (nI_toInt (by omega)) (by omega) dX4_begin_6 (fun cu1 ecu1 => ?_)
  have hfr : ∀ r, r ≠ w → r ≠ w + 1 → r ≠ w + 2 → cu1 r = ct r := fun r _ _ _ => (congrFun ecu1 r).trans ((va_up_ne _ _ (by assumption)).trans (hfr r (by assumption) (by assumption) (by assumption)))
  have hh : cu1 w = .inr (4, [.ref (ad (w + 1)), .ref (ad (w + 2)), .int (nI sz)]) := (congrFun ecu1 _).trans ((va_up_ne _ _ (by omega)).trans hh)
  have hs : cu1 (w + 1) = .inl (B.2.1 0, N, .inl (nF (va_up s 0 0))) := by rw [ecu1, va_up_self, nF_up]
  have ht : cu1 (w + 2) = .inl (B.2.1 0, N, .inl (nF t)) := (congrFun ecu1 _).trans ((va_up_ne _ _ (by omega)).trans ht)
  refine g_aload_n fx 0 dX4_begin_7 rfl ?_
  refine g_get (r := w) fx lkX4_13 (by omega) hh rfl dX4_begin_8 ?_
  refine g_iconst (v := nI 0) fx dX4_begin_11 (by decide +kernel) ?_
  refine g_iconst (v := nI 1) fx dX4_begin_12 (by decide +kernel) ?_
  refine g_iast (r := w + 2) (j := 0) fx (by omega) ht (nI_toInt (by omega)) (by omega) dX4_begin_13 (fun cu2 ecu2 => ?_)
  have hfr : ∀ r, r ≠ w → r ≠ w + 1 → r ≠ w + 2 → cu2 r = ct r := fun r _ _ _ => (congrFun ecu2 r).trans ((va_up_ne _ _ (by assumption)).trans (hfr r (by assumption) (by assumption) (by assumption)))
  have hh : cu2 w = .inr (4, [.ref (ad (w + 1)), .ref (ad (w + 2)), .int (nI sz)]) := (congrFun ecu2 _).trans ((va_up_ne _ _ (by omega)).trans hh)
  have hs : cu2 (w + 1) = .inl (B.2.1 0, N, .inl (nF (va_up s 0 0))) := (congrFun ecu2 _).trans ((va_up_ne _ _ (by omega)).trans hs)
  have ht : cu2 (w + 2) = .inl (B.2.1 0, N, .inl (nF (va_up t 0 1))) := by rw [ecu2, va_up_self, nF_up]
  refine g_aload_n fx 0 dX4_begin_14 rfl ?_
  refine g_iconst (v := nI 1) fx dX4_begin_15 (by decide +kernel) ?_
  refine g_put (r := w) (fs' := [.ref (ad (w + 1)), .ref (ad (w + 2)), .int (nI 1)]) fx lpX4_16 (by omega) hh rfl rfl (Nat.le_of_ble_eq_true rfl) rfl dX4_begin_16 (fun cu3 ecu3 => ?_)
  have hfr : ∀ r, r ≠ w → r ≠ w + 1 → r ≠ w + 2 → cu3 r = ct r := fun r _ _ _ => (congrFun ecu3 r).trans ((va_up_ne _ _ (by assumption)).trans (hfr r (by assumption) (by assumption) (by assumption)))
  have hh : cu3 w = .inr (4, [.ref (ad (w + 1)), .ref (ad (w + 2)), .int (nI 1)]) := by rw [ecu3, va_up_self]
  have hs : cu3 (w + 1) = .inl (B.2.1 0, N, .inl (nF (va_up s 0 0))) := (congrFun ecu3 _).trans ((va_up_ne _ _ (by omega)).trans hs)
  have ht : cu3 (w + 2) = .inl (B.2.1 0, N, .inl (nF (va_up t 0 1))) := (congrFun ecu3 _).trans ((va_up_ne _ _ (by omega)).trans ht)
  refine g_vret fx rt dX4_begin_19 ?_
  exact gPv.mk ⟨_, _, hh, hs, ht, fun a => HS.start (va_up_self _ _ _) (va_up_self _ _ _), hfr⟩
set_option maxHeartbeats 4000000 in
set_option maxRecDepth 100000 in
theorem c_X4_makeRoom (B : gB) (ad : Nat → Nat) (ct : Nat → va_E) (n : Nat) (w sz N : Nat) (s t : Nat → Nat) (hn : w + 2 < n) (hh : ct w = .inr (4, [.ref (ad (w + 1)), .ref (ad (w + 2)), .int (nI sz)])) (hs : ct (w + 1) = .inl (B.2.1 0, N, .inl (nF s))) (ht : ct (w + 2) = .inl (B.2.1 0, N, .inl (nF t))) (need : Nat) (hL : okL N) (hz : sz ≤ N) (h2 : need ≤ 2 * N) (hne : need ≤ 32768) : Ctr B yX4_makeRoom cX4_makeRoom 5 none 1 40 2 (4 * ((hsL N need) - N)) ad ct n [.ref (ad w), .int (nI need)] (gPx n (fun ad' ct' => ∃ s' t', (∀ r, r ≠ w + 1 → r ≠ w + 2 → ad' r = ad r) ∧ ct' w = .inr (4, [.ref (ad' (w + 1)), .ref (ad' (w + 2)), .int (nI sz)]) ∧ ct' (w + 1) = .inl (B.2.1 0, (hsL N need), .inl (nF s')) ∧ ct' (w + 2) = .inl (B.2.1 0, (hsL N need), .inl (nF t')) ∧ (∀ i, i < sz → s' i = s i) ∧ (∀ i, i < sz → t' i = t i) ∧ ∀ r, r ≠ w → r ≠ w + 1 → r ≠ w + 2 → ct' r = ct r)) := by
  have hfr : ∀ r, r ≠ w ∧ r < n → ct r = ct r := fun _ _ => rfl
  have hfra : ∀ r, r < n → ad r = ad r := fun _ _ => rfl
  have hNb : N ≤ 32768 := by unfold okL at hL; omega
  refine Ctr.ofG (L := [(0, .ref (ad w)), (1, .int (nI need))]) (by decide +kernel) rfl (Nat.le_of_ble_eq_true rfl) (fun E fx rt hnm => ?_)
  refine g_iload_n fx 1 dX4_makeRoom_0 rfl ?_
  refine g_aload_n fx 0 dX4_makeRoom_1 rfl ?_
  refine g_get (r := w) fx lkX4_7 (by omega) hh rfl dX4_makeRoom_2 ?_
  refine g_alen (r := w + 1) (t0 := 0) fx rfl (by omega) hs dX4_makeRoom_5 ?_
  refine g_icmp_gt fx 10 dX4_makeRoom_6 (by decide) (fun c6 => ?_) (fun c6 => ?_)
  · skip
    have hgt : N < need := (nI_ltI (by omega) (by omega)).mp c6
    have hN2 : (hsL N need) = 8 * N := if_neg (by omega)
    have hN4 : N ≤ 4096 := by unfold okL at hL; omega
    have hN1 : 64 ≤ N := by unfold okL at hL; omega
    refine g_iload_n fx 1 dX4_makeRoom_10 rfl ?_
    refine g_ldc fx kcX4_20 dX4_makeRoom_11 ?_
    refine g_isi (y := nI 32768) (by decide) ?_
    refine g_bipush (v := nI 8) fx dX4_makeRoom_13 (by decide +kernel) ?_
    refine g_aload_n fx 0 dX4_makeRoom_15 rfl ?_
    refine g_get (r := w) fx lkX4_7 (by omega) hh rfl dX4_makeRoom_16 ?_
    refine g_alen (r := w + 1) (t0 := 0) fx rfl (by omega) hs dX4_makeRoom_19 ?_
    refine g_imulN fx dX4_makeRoom_20 ?_
    refine g_callSip (As := [.int (nI 32768), .int (nI (8 * N))]) (rest := [.int (nI need)]) fx slX4_31 (c_J9_min_7cf53 B ad ct n (nI 32768) (nI (8 * N))) rfl rfl (Nat.le_of_ble_eq_true rfl) ⟨by dsimp only; omega, by dsimp only; omega⟩ ⟨by dsimp only; omega, by dsimp only; omega⟩ dX4_makeRoom_21 (fun q1 hq1 => ?_)
    rw [min_nI (by omega) (by omega), Nat.min_eq_right (by omega)] at hq1
    refine g_isi (y := nI (8 * N)) hq1 ?_
    refine g_callSip (As := [.int (nI need), .int (nI (8 * N))]) (rest := []) fx slX4_37 (c_J9_max_7cf53 B ad ct n (nI need) (nI (8 * N))) rfl rfl (Nat.le_of_ble_eq_true rfl) ⟨by dsimp only; omega, by dsimp only; omega⟩ ⟨by dsimp only; omega, by dsimp only; omega⟩ dX4_makeRoom_24 (fun q2 hq2 => ?_)
    rw [mx_nI (by omega) (by omega), Nat.max_eq_right (by omega)] at hq2
    refine g_isi (y := nI (8 * N)) hq2 ?_
    refine g_istore_n (L' := [(2, .int (nI (8 * N))), (0, .ref (ad w)), (1, .int (nI need))]) fx dX4_makeRoom_27 (by decide) rfl ?_
    refine g_iload_n fx 0 dX4_makeRoom_28 rfl ?_
    refine g_newi (N := (8 * N)) fx (nI_toInt (by omega)) (by omega) ⟨by dsimp only; omega, by dsimp only; omega⟩ dX4_makeRoom_29 (fun ad_1 ct_1 hA_1 hC_1 hN_1 => ?_)
    refine g_same (L' := [(2, .int (nI (8 * N))), (0, .ref (ad_1 w)), (1, .int (nI need))]) (st' := [.ref (ad_1 n)]) (by rw [hA_1 w (by omega)]) rfl ?_
    have hh : ct_1 w = .inr (4, [.ref (ad_1 (w + 1)), .ref (ad_1 (w + 2)), .int (nI sz)]) := (hC_1 w (by omega)).trans (hh.trans (by rw [hA_1 (w + 1) (by omega), hA_1 (w + 2) (by omega)]))
    have hs : ct_1 (w + 1) = .inl (B.2.1 0, N, .inl (nF s)) := (hC_1 (w + 1) (by omega)).trans hs
    have ht : ct_1 (w + 2) = .inl (B.2.1 0, N, .inl (nF t)) := (hC_1 (w + 2) (by omega)).trans ht
    have hfra : ∀ r, r < n → ad_1 r = ad r := fun r hp => (hA_1 r (by omega)).trans (hfra r hp)
    have hfr : ∀ r, r ≠ w ∧ r < n → ct_1 r = ct r := fun r hp => (hC_1 r (by omega)).trans (hfr r hp)
    refine g_astore_n (L' := [(3, .ref (ad_1 n)), (2, .int (nI (8 * N))), (0, .ref (ad_1 w)), (1, .int (nI need))]) fx dX4_makeRoom_31 (by decide) rfl ?_
    refine g_iload_n fx 1 dX4_makeRoom_32 rfl ?_
    refine g_newi (N := (8 * N)) fx (nI_toInt (by omega)) (by omega) ⟨by dsimp only; omega, by dsimp only; omega⟩ dX4_makeRoom_33 (fun ad_2 ct_2 hA_2 hC_2 hN_2 => ?_)
    refine g_same (L' := [(3, .ref (ad_2 n)), (2, .int (nI (8 * N))), (0, .ref (ad_2 w)), (1, .int (nI need))]) (st' := [.ref (ad_2 (n + 1))]) (by rw [hA_2 n (by omega), hA_2 w (by omega)]) rfl ?_
    have hh : ct_2 w = .inr (4, [.ref (ad_2 (w + 1)), .ref (ad_2 (w + 2)), .int (nI sz)]) := (hC_2 w (by omega)).trans (hh.trans (by rw [hA_2 (w + 1) (by omega), hA_2 (w + 2) (by omega)]))
    have hs : ct_2 (w + 1) = .inl (B.2.1 0, N, .inl (nF s)) := (hC_2 (w + 1) (by omega)).trans hs
    have ht : ct_2 (w + 2) = .inl (B.2.1 0, N, .inl (nF t)) := (hC_2 (w + 2) (by omega)).trans ht
    have hN_1 : ct_2 n = .inl (B.2.1 0, (8 * N), .inl (nF (fun _ => 0))) := (hC_2 n (by omega)).trans hN_1
    have hfra : ∀ r, r < n → ad_2 r = ad r := fun r hp => (hA_2 r (by omega)).trans (hfra r hp)
    have hfr : ∀ r, r ≠ w ∧ r < n → ct_2 r = ct r := fun r hp => (hC_2 r (by omega)).trans (hfr r hp)
    refine g_astore (L' := [(4, .ref (ad_2 (n + 1))), (3, .ref (ad_2 n)), (2, .int (nI (8 * N))), (0, .ref (ad_2 w)), (1, .int (nI need))]) fx dX4_makeRoom_35 (by decide) rfl ?_
    refine g_aload_n fx 3 dX4_makeRoom_37 rfl ?_
    refine g_get (r := w) fx lkX4_7 (by omega) hh rfl dX4_makeRoom_38 ?_
    refine g_iconst (v := nI 0) fx dX4_makeRoom_41 (by decide +kernel) ?_
    refine g_aload_n fx 1 dX4_makeRoom_42 rfl ?_
    refine g_iconst (v := nI 0) fx dX4_makeRoom_43 (by decide +kernel) ?_
    refine g_aload_n fx 3 dX4_makeRoom_44 rfl ?_
    refine g_get (r := w) fx lkX4_16 (by omega) hh rfl dX4_makeRoom_45 ?_
    refine g_copy (r0 := (w + 1)) (r1 := n) (sp := 0) (dp := 0) (m := sz) fx oiX4_25 (by omega) (by omega) hs hN_1 (nI_toInt (by omega)) (nI_toInt (by omega)) (nI_toInt (by omega)) (by omega) (by omega) ⟨by dsimp only; decide, by dsimp only; decide⟩ dX4_makeRoom_48 (fun cu3 ecu3 => ?_)
    have hfr : ∀ r, r ≠ w ∧ r < n → cu3 r = ct r := fun r hp => (congrFun ecu3 r).trans ((va_up_ne _ _ (by omega)).trans (hfr r hp))
    have hh : cu3 w = .inr (4, [.ref (ad_2 (w + 1)), .ref (ad_2 (w + 2)), .int (nI sz)]) := (congrFun ecu3 _).trans ((va_up_ne _ _ (by omega)).trans hh)
    have hs : cu3 (w + 1) = .inl (B.2.1 0, N, .inl (nF s)) := (congrFun ecu3 _).trans ((va_up_ne _ _ (by omega)).trans hs)
    have ht : cu3 (w + 2) = .inl (B.2.1 0, N, .inl (nF t)) := (congrFun ecu3 _).trans ((va_up_ne _ _ (by omega)).trans ht)
    have hN_1 : cu3 n = .inl (B.2.1 0, (8 * N), .inl (va_cpy (nF s) (nF (fun _ => 0)) 0 0 sz)) := by rw [ecu3, va_up_self]
    have hN_2 : cu3 (n + 1) = .inl (B.2.1 0, (8 * N), .inl (nF (fun _ => 0))) := (congrFun ecu3 _).trans ((va_up_ne _ _ (by omega)).trans hN_2)
    rw [cpy_nF] at hN_1
    refine g_aload_n fx 3 dX4_makeRoom_51 rfl ?_
    refine g_get (r := w) fx lkX4_13 (by omega) hh rfl dX4_makeRoom_52 ?_
    refine g_iconst (v := nI 0) fx dX4_makeRoom_55 (by decide +kernel) ?_
    refine g_aload fx 0 dX4_makeRoom_56 rfl ?_
    refine g_iconst (v := nI 0) fx dX4_makeRoom_58 (by decide +kernel) ?_
    refine g_aload_n fx 3 dX4_makeRoom_59 rfl ?_
    refine g_get (r := w) fx lkX4_16 (by omega) hh rfl dX4_makeRoom_60 ?_
    refine g_copy (r0 := (w + 2)) (r1 := (n + 1)) (sp := 0) (dp := 0) (m := sz) fx oiX4_25 (by omega) (by omega) ht hN_2 (nI_toInt (by omega)) (nI_toInt (by omega)) (nI_toInt (by omega)) (by omega) (by omega) ⟨by dsimp only; decide, by dsimp only; decide⟩ dX4_makeRoom_63 (fun cu4 ecu4 => ?_)
    have hfr : ∀ r, r ≠ w ∧ r < n → cu4 r = ct r := fun r hp => (congrFun ecu4 r).trans ((va_up_ne _ _ (by omega)).trans (hfr r hp))
    have hh : cu4 w = .inr (4, [.ref (ad_2 (w + 1)), .ref (ad_2 (w + 2)), .int (nI sz)]) := (congrFun ecu4 _).trans ((va_up_ne _ _ (by omega)).trans hh)
    have hs : cu4 (w + 1) = .inl (B.2.1 0, N, .inl (nF s)) := (congrFun ecu4 _).trans ((va_up_ne _ _ (by omega)).trans hs)
    have ht : cu4 (w + 2) = .inl (B.2.1 0, N, .inl (nF t)) := (congrFun ecu4 _).trans ((va_up_ne _ _ (by omega)).trans ht)
    have hN_1 : cu4 n = .inl (B.2.1 0, (8 * N), .inl (nF (va_cpy s (fun _ => 0) 0 0 sz))) := (congrFun ecu4 _).trans ((va_up_ne _ _ (by omega)).trans hN_1)
    have hN_2 : cu4 (n + 1) = .inl (B.2.1 0, (8 * N), .inl (va_cpy (nF t) (nF (fun _ => 0)) 0 0 sz)) := by rw [ecu4, va_up_self]
    rw [cpy_nF] at hN_2
    refine g_aload_n fx 3 dX4_makeRoom_66 rfl ?_
    refine g_aload_n fx 1 dX4_makeRoom_67 rfl ?_
    refine g_put (r := w) (fs' := [.ref (ad_2 n), .ref (ad_2 (w + 2)), .int (nI sz)]) fx lpX4_7 (by omega) hh rfl rfl (Nat.le_of_ble_eq_true rfl) rfl dX4_makeRoom_68 (fun cu5 ecu5 => ?_)
    have hfr : ∀ r, r ≠ w ∧ r < n → cu5 r = ct r := fun r hp => (congrFun ecu5 r).trans ((va_up_ne _ _ (by omega)).trans (hfr r hp))
    have hh : cu5 w = .inr (4, [.ref (ad_2 n), .ref (ad_2 (w + 2)), .int (nI sz)]) := by rw [ecu5, va_up_self]
    have hs : cu5 (w + 1) = .inl (B.2.1 0, N, .inl (nF s)) := (congrFun ecu5 _).trans ((va_up_ne _ _ (by omega)).trans hs)
    have ht : cu5 (w + 2) = .inl (B.2.1 0, N, .inl (nF t)) := (congrFun ecu5 _).trans ((va_up_ne _ _ (by omega)).trans ht)
    have hN_1 : cu5 n = .inl (B.2.1 0, (8 * N), .inl (nF (va_cpy s (fun _ => 0) 0 0 sz))) := (congrFun ecu5 _).trans ((va_up_ne _ _ (by omega)).trans hN_1)
    have hN_2 : cu5 (n + 1) = .inl (B.2.1 0, (8 * N), .inl (nF (va_cpy t (fun _ => 0) 0 0 sz))) := (congrFun ecu5 _).trans ((va_up_ne _ _ (by omega)).trans hN_2)
    refine g_aload_n fx 3 dX4_makeRoom_71 rfl ?_
    refine g_aload fx 0 dX4_makeRoom_72 rfl ?_
    refine g_put (r := w) (fs' := [.ref (ad_2 n), .ref (ad_2 (n + 1)), .int (nI sz)]) fx lpX4_13 (by omega) hh rfl rfl (Nat.le_of_ble_eq_true rfl) rfl dX4_makeRoom_74 (fun cu6 ecu6 => ?_)
    have hfr : ∀ r, r ≠ w ∧ r < n → cu6 r = ct r := fun r hp => (congrFun ecu6 r).trans ((va_up_ne _ _ (by omega)).trans (hfr r hp))
    have hh : cu6 w = .inr (4, [.ref (ad_2 n), .ref (ad_2 (n + 1)), .int (nI sz)]) := by rw [ecu6, va_up_self]
    have hs : cu6 (w + 1) = .inl (B.2.1 0, N, .inl (nF s)) := (congrFun ecu6 _).trans ((va_up_ne _ _ (by omega)).trans hs)
    have ht : cu6 (w + 2) = .inl (B.2.1 0, N, .inl (nF t)) := (congrFun ecu6 _).trans ((va_up_ne _ _ (by omega)).trans ht)
    have hN_1 : cu6 n = .inl (B.2.1 0, (8 * N), .inl (nF (va_cpy s (fun _ => 0) 0 0 sz))) := (congrFun ecu6 _).trans ((va_up_ne _ _ (by omega)).trans hN_1)
    have hN_2 : cu6 (n + 1) = .inl (B.2.1 0, (8 * N), .inl (nF (va_cpy t (fun _ => 0) 0 0 sz))) := (congrFun ecu6 _).trans ((va_up_ne _ _ (by omega)).trans hN_2)
    refine g_view (ad2 := va_up (va_up ad (w + 1) (ad_2 n)) (w + 2) (ad_2 (n + 1))) (ct2 := va_up (va_up (va_up ct w (.inr (4, [.ref (ad_2 n), .ref (ad_2 (n + 1)), .int (nI sz)]))) (w + 1) (.inl (B.2.1 0, (8 * N), .inl (nF (va_cpy s (fun _ => 0) 0 0 sz))))) (w + 2) (.inl (B.2.1 0, (8 * N), .inl (nF (va_cpy t (fun _ => 0) 0 0 sz))))) (m := n) (fun k => if k = w + 1 then n else if k = w + 2 then n + 1 else k) (fun k hk => by split; (omega); (split <;> omega)) (fun j k hj hk e => by split at e <;> split at e <;> (try split at e) <;> (try split at e) <;> omega) (fun k hk => ?_) (fun k hk => ?_) ?_
    · by_cases q2 : k = w + 2
      · rw [q2, va_up_self, if_neg (by omega), if_pos rfl]
      · rw [va_up_ne _ _ q2]
        by_cases q1 : k = w + 1
        · rw [q1, va_up_self, if_pos rfl]
        · rw [va_up_ne _ _ q1, if_neg q1, if_neg q2]; exact (hfra k hk).symm
    · by_cases q2 : k = w + 2
      · rw [q2, va_up_self, if_neg (by omega), if_pos rfl]; exact hN_2.symm
      · rw [va_up_ne _ _ q2]
        by_cases q1 : k = w + 1
        · rw [q1, va_up_self, if_pos rfl]; exact hN_1.symm
        · rw [va_up_ne _ _ q1, if_neg q1, if_neg q2]
          by_cases q0 : k = w
          · rw [q0, va_up_self]; exact hh.symm
          · rw [va_up_ne _ _ q0]; exact (hfr k ⟨q0, hk⟩).symm
    refine g_more (k1 := 2) (s1 := (4 * ((hsL N need) - N))) (by omega) (by omega) ?_
    refine g_vret fx rt dX4_makeRoom_77 ?_
    rw [hN2]
    refine gPx.mk ⟨_, _, fun r h1 h2 => by rw [va_up_ne _ _ h2, va_up_ne _ _ h1], ?_, by rw [va_up_ne _ _ (by omega), va_up_self], va_up_self _ _ _, fun i hi => by rw [cpy_in hi, Nat.zero_add], fun i hi => by rw [cpy_in hi, Nat.zero_add], fun r h0 h1 h2 => by rw [va_up_ne _ _ h2, va_up_ne _ _ h1, va_up_ne _ _ h0]⟩
    rw [va_up_ne _ _ (by omega), va_up_ne _ _ (by omega), va_up_self, va_up_ne _ _ (by omega), va_up_self, va_up_self]
  · skip
    have hle : need ≤ N := Nat.le_of_not_lt (fun q => c6 ((nI_ltI (by omega) (by omega)).mpr q))
    have hN2 : (hsL N need) = N := if_pos hle
    refine g_more (k1 := 2) (s1 := (4 * ((hsL N need) - N))) (by omega) (by omega) ?_
    refine g_vret fx rt dX4_makeRoom_9 ?_
    rw [hN2]
    exact gPx.mk ⟨s, t, fun _ _ _ => rfl, hh, hs, ht, fun _ _ => rfl, fun _ _ => rfl, fun _ _ _ _ => rfl⟩
