theorem sumF_pred {f : Nat → Nat} {j : Nat} (h : 0 < j) : sumF f j = sumF f (j - 1) + f (j - 1) := by
  obtain ⟨k, rfl⟩ : ∃ k, j = k + 1 := ⟨j - 1, by omega⟩
  rfl
theorem inc_new {s1 : Nat → Nat} {p e x : Nat} (hp : 0 < p) (hinc : ∀ u v, p ≤ u → u < v → v < e → s1 u < s1 v) (hlt : p < e → x < s1 p) : ∀ u v, p - 1 ≤ u → u < v → v < e → va_up s1 (p - 1) x u < va_up s1 (p - 1) x v := by
  intro u v h1 h2 h3
  have hv : va_up s1 (p - 1) x v = s1 v := va_up_ne _ _ (by omega)
  rw [hv]
  by_cases q : u = p - 1
  · rw [q, va_up_self]
    by_cases q2 : v = p
    · rw [q2]; exact hlt (by omega)
    · exact Nat.lt_trans (hlt (by omega)) (hinc p v (Nat.le_refl _) (by omega) h3)
  · rw [va_up_ne _ _ q]
    exact hinc u v (by omega) h2 h3
theorem HS.mono {a : Nat → Nat} {m sz : Nat} {s t : Nat → Nat} (h : HS a m sz s t) {i j : Nat} (hij : i ≤ j) (hj : j < sz) : s i ≤ s j := by
  by_cases q : i = j
  · rw [q]; exact Nat.le_refl _
  · exact Nat.le_of_lt (h.1 i j (by omega) hj)
theorem pow14 {m : Nat} (h : m < 15) : 2 ^ m ≤ 16384 := Nat.pow_le_pow_right (show 0 < 2 by decide) (show m ≤ 14 by omega)
set_option maxHeartbeats 4000000 in
set_option maxRecDepth 100000 in
theorem c_X4_take (B : gB) (ad : Nat → Nat) (ct : Nat → va_E) (n : Nat) (w sz N : Nat) (s t : Nat → Nat) (hn : w + 2 < n) (hh : ct w = .inr (4, [.ref (ad (w + 1)), .ref (ad (w + 2)), .int (nI sz)])) (hs : ct (w + 1) = .inl (B.2.1 0, N, .inl (nF s))) (ht : ct (w + 2) = .inl (B.2.1 0, N, .inl (nF t))) (a : Nat → Nat) (m num : Nat) (hL : okL N) (hz : sz ≤ N) (hHS : HS a m sz s t) (hm : m < 15) (hnum : 0 < num) (hnb : num ≤ 200000) (hsb : sumF a m ≤ 3000000) (ham : a m = num) : Ctr B yX4_take cX4_take 11 none 2 64 2 (4 * ((hsL N (2 * sz)) - N)) ad ct n [.ref (ad w), .int (nI num)] (gPx n (fun ad' ct' => ∃ sz' s' t', (∀ r, r ≠ w + 1 → r ≠ w + 2 → ad' r = ad r) ∧ ct' w = .inr (4, [.ref (ad' (w + 1)), .ref (ad' (w + 2)), .int (nI sz')]) ∧ ct' (w + 1) = .inl (B.2.1 0, (hsL N (2 * sz)), .inl (nF s')) ∧ ct' (w + 2) = .inl (B.2.1 0, (hsL N (2 * sz)), .inl (nF t')) ∧ HS a (m + 1) sz' s' t' ∧ sz' ≤ (hsL N (2 * sz)) ∧ okL (hsL N (2 * sz)) ∧ ∀ r, r ≠ w → r ≠ w + 1 → r ≠ w + 2 → ct' r = ct r)) := by
  have hp14 := pow14 hm
  have hz2 := hHS.2.2.2.1
  have hfr : ∀ r, r ≠ w → r ≠ w + 1 → r ≠ w + 2 → ct r = ct r := fun _ _ _ _ => rfl
  have hsa : sumF a (m + 1) = sumF a m + num := by show sumF a m + a m = _; rw [ham]
  refine Ctr.ofG (L := [(0, .ref (ad w)), (1, .int (nI num))]) (by decide +kernel) rfl (Nat.le_of_ble_eq_true rfl) (fun E fx rt hnm => ?_)
  refine g_iconst (v := nI 2) fx dX4_take_0 (by decide +kernel) ?_
  refine g_aload_n fx 0 dX4_take_1 rfl ?_
  refine g_get (r := w) fx lkX4_16 (by omega) hh rfl dX4_take_2 ?_
  refine g_imulN fx dX4_take_5 ?_
  refine g_istore_n (L' := [(2, .int (nI (2 * sz))), (0, .ref (ad w)), (1, .int (nI num))]) fx dX4_take_6 (by decide) rfl ?_
  refine g_iload_n fx 0 dX4_take_7 rfl ?_
  refine g_ldc fx kcX4_20 dX4_take_8 ?_
  refine g_isi (y := nI 32768) (by decide) ?_
  refine g_icmp_gt fx 17 dX4_take_10 (by decide) (fun c10 => ?_) (fun c10 => ?_)
  · exact absurd ((nI_ltI (by omega) (by omega)).mp c10) (by omega)
  refine g_iload_n fx 2 dX4_take_13 rfl ?_
  refine g_if_gt fx 18 dX4_take_14 (by decide) (fun c14 => ?_) (fun c14 => ?_)
  rotate_left
  · exact absurd ((nI_ltI (a := 0) (by omega) (by omega)).mpr hnum) c14
  refine g_aload_n fx 1 dX4_take_18 rfl ?_
  refine g_iload_n fx 0 dX4_take_19 rfl ?_
  refine g_callVx (As := [.int (nI (2 * sz))]) (rest := []) fx slX4_21 (c_X4_makeRoom B ad ct n w sz N s t hn hh hs ht (2 * sz) hL hz (by omega) (by omega)) (by omega) hh rfl rfl rfl (Nat.le_of_ble_eq_true rfl) ⟨by dsimp only; omega, by dsimp only; omega⟩ ⟨by dsimp only; omega, by dsimp only; omega⟩ dX4_take_20 (fun ad1 ctA hz1 => ?_)
  obtain ⟨sA, tA, hA1, hh, hs, ht, hsA, htA, hfr⟩ := hz1
  have hok := okL_up hL (show 2 * sz ≤ 32768 by omega)
  have hNe : 2 * sz ≤ (hsL N (2 * sz)) := by unfold hsL; split; (assumption); (omega)
  have hNb : (hsL N (2 * sz)) ≤ 32768 := by unfold okL at hok; omega
  refine g_same (L' := [(2, .int (nI (2 * sz))), (0, .ref (ad1 w)), (1, .int (nI num))]) (st' := []) (by rw [hA1 w (by omega) (by omega)]) rfl ?_
  refine g_aload_n fx 1 dX4_take_23 rfl ?_
  refine g_get (r := w) fx lkX4_16 (by omega) hh rfl dX4_take_24 ?_
  refine g_iconst (v := nI 1) fx dX4_take_27 (by decide +kernel) ?_
  refine g_isub fx dX4_take_28 ?_
  refine g_isi (y := nI sz - nI 1) rfl ?_
  refine g_istore_n (L' := [(3, .int (nI sz - nI 1)), (2, .int (nI (2 * sz))), (0, .ref (ad1 w)), (1, .int (nI num))]) fx dX4_take_29 (by decide) rfl ?_
  refine g_aload_n fx 2 dX4_take_30 rfl ?_
  refine g_get (r := w) fx lkX4_16 (by omega) hh rfl dX4_take_31 ?_
  refine g_iconst (v := nI 1) fx dX4_take_34 (by decide +kernel) ?_
  refine g_isub fx dX4_take_35 ?_
  refine g_isi (y := nI sz - nI 1) rfl ?_
  refine g_istore (L' := [(4, .int (nI sz - nI 1)), (3, .int (nI sz - nI 1)), (2, .int (nI (2 * sz))), (0, .ref (ad1 w)), (1, .int (nI num))]) fx dX4_take_36 (by decide) rfl ?_
  refine g_iload_n fx 2 dX4_take_38 rfl ?_
  refine g_istore (L' := [(5, .int (nI (2 * sz))), (4, .int (nI sz - nI 1)), (3, .int (nI sz - nI 1)), (2, .int (nI (2 * sz))), (0, .ref (ad1 w)), (1, .int (nI num))]) fx dX4_take_39 (by decide) rfl ?_
  refine g_iload_n fx 3 dX4_take_41 rfl ?_
  refine g_istore (L' := [(6, .int (nI (2 * sz))), (5, .int (nI (2 * sz))), (4, .int (nI sz - nI 1)), (3, .int (nI sz - nI 1)), (2, .int (nI (2 * sz))), (0, .ref (ad1 w)), (1, .int (nI num))]) fx dX4_take_42 (by decide) rfl ?_
  have LP44 : ∀ (M : Nat) (j k p l : Nat) (s1 t1 : Nat → Nat) (ct1 : Nat → va_E), (l = j + k) → (k ≤ j) → (j ≤ sz) → (j + k ≤ p) → (p ≤ 2 * sz) → (∀ i, i < j → s1 i = s i) → (∀ i, i < j → t1 i = t i) → (∀ u v, p ≤ u → u < v → v < 2 * sz → s1 u < s1 v) → (∀ u, p ≤ u → u < 2 * sz → s1 u ≤ sumF a (m + 1)) → (p < 2 * sz → ∀ i, i < j → s i ≤ s1 p) → (p < 2 * sz → ∀ i, i < k → s i + num ≤ s1 p) → (∀ y, OUT s1 t1 p (2 * sz) y + (sumF (fun i => if s i = y then t i else 0) j + sumF (fun i => if s i + num = y then t i else 0) k) = cntS a (m + 1) y) → (∀ u, p ≤ u → u < 2 * sz → 0 < t1 u) → (ct1 w = .inr (4, [.ref (ad1 (w + 1)), .ref (ad1 (w + 2)), .int (nI sz)])) → (ct1 (w + 1) = .inl (B.2.1 0, (hsL N (2 * sz)), .inl (nF s1))) → (ct1 (w + 2) = .inl (B.2.1 0, (hsL N (2 * sz)), .inl (nF t1))) → (∀ r, r ≠ w → r ≠ w + 1 → r ≠ w + 2 → ct1 r = ct r) →  (j + k) < M → G B 11 E ad1 ct1 n 2 (0 + (4 * ((hsL N (2 * sz)) - N))) [(0, .ref (ad1 w)), (1, .int (nI num)), (2, .int (nI (2 * sz))), (3, .int (nI j - nI 1)), (4, .int (nI k - nI 1)), (5, .int (nI p)), (6, .int (nI l))] 44 [] := by
    intro M
    induction M with
    | zero => intro j k p l s1 t1 ct1 _ _ _ _ _ _ _ _ _ _ _ _ _ _ _ _ _ hM; exact absurd hM (Nat.not_lt_zero _)
    | succ M ih =>
      intro j k p l s1 t1 ct1 hl hjk hj hp hpe hs1 ht1 hinc hbd hb1 hb2 hsm hpos hh hs ht hfr hM
      have ih44 := ih
      refine g_iload fx 6 dX4_take_44 rfl ?_
      have J145 : ∀ (j2 k2 x o : Nat), (0 < o) → (k2 ≤ j2) → (j2 ≤ j) → (j2 + k2 + 1 ≤ p) → (j2 + k2 + 1 = j + k) → (p < 2 * sz → x ≤ s1 p) → (x ≤ sumF a (m + 1)) → (∀ i, i < j2 → s i ≤ x) → (∀ i, i < k2 → s i + num ≤ x) → (∀ y, OUT s1 t1 p (2 * sz) y + (if x = y then o else 0) + (sumF (fun i => if s i = y then t i else 0) j2 + sumF (fun i => if s i + num = y then t i else 0) k2) = cntS a (m + 1) y) → G B 11 E ad1 ct1 n 2 (0 + (4 * ((hsL N (2 * sz)) - N))) [(0, .ref (ad1 w)), (1, .int (nI num)), (2, .int (nI (2 * sz))), (3, .int (nI j2 - nI 1)), (4, .int (nI k2 - nI 1)), (5, .int (nI p)), (6, .int (nI l)), (9, .int (nI x)), (10, .int (nI o))] 145 [] := by
        intro j2 k2 x o ho hjk2 hjs hp2 hms hx hxb hx1 hx2 hsm2
        refine g_iload fx 5 dX4_take_145 rfl ?_
        refine g_iload_n fx 2 dX4_take_147 rfl ?_
        refine g_icmp_ge fx 178 dX4_take_148 (by decide) (fun c148 => ?_) (fun c148 => ?_)
        · skip
          have hpE : p = 2 * sz := by have := (nI_leI (by omega) (by omega)).mp c148; omega
          have hlt : p < 2 * sz → x < s1 p := fun h => absurd h (by omega)
          refine g_iinc (L' := [(5, .int (nI (p - 1))), (0, .ref (ad1 w)), (1, .int (nI num)), (2, .int (nI (2 * sz))), (3, .int (nI j2 - nI 1)), (4, .int (nI k2 - nI 1)), (6, .int (nI l)), (9, .int (nI x)), (10, .int (nI o))]) fx (nI (p - 1)) 5 dX4_take_178 rfl (dec1 (by omega)) (by decide) rfl ?_
          refine g_aload_n fx 1 dX4_take_181 rfl ?_
          refine g_get (r := w) fx lkX4_7 (by omega) hh rfl dX4_take_182 ?_
          refine g_iload fx 0 dX4_take_185 rfl ?_
          refine g_iload fx 7 dX4_take_187 rfl ?_
          refine g_iast (r := w + 1) (j := (p - 1)) fx (by omega) hs (nI_toInt (by omega)) (by omega) dX4_take_189 (fun cu1 ecu1 => ?_)
          have hfr : ∀ r, r ≠ w → r ≠ w + 1 → r ≠ w + 2 → cu1 r = ct r := fun r _ _ _ => (congrFun ecu1 r).trans ((va_up_ne _ _ (by assumption)).trans (hfr r (by assumption) (by assumption) (by assumption)))
          have hh : cu1 w = .inr (4, [.ref (ad1 (w + 1)), .ref (ad1 (w + 2)), .int (nI sz)]) := (congrFun ecu1 _).trans ((va_up_ne _ _ (by omega)).trans hh)
          have hs : cu1 (w + 1) = .inl (B.2.1 0, (hsL N (2 * sz)), .inl (nF (va_up s1 (p - 1) x))) := by rw [ecu1, va_up_self, nF_up]
          have ht : cu1 (w + 2) = .inl (B.2.1 0, (hsL N (2 * sz)), .inl (nF t1)) := (congrFun ecu1 _).trans ((va_up_ne _ _ (by omega)).trans ht)
          refine g_aload_n fx 1 dX4_take_190 rfl ?_
          refine g_get (r := w) fx lkX4_13 (by omega) hh rfl dX4_take_191 ?_
          refine g_iload fx 0 dX4_take_194 rfl ?_
          refine g_iload fx 8 dX4_take_196 rfl ?_
          refine g_iast (r := w + 2) (j := (p - 1)) fx (by omega) ht (nI_toInt (by omega)) (by omega) dX4_take_198 (fun cu2 ecu2 => ?_)
          have hfr : ∀ r, r ≠ w → r ≠ w + 1 → r ≠ w + 2 → cu2 r = ct r := fun r _ _ _ => (congrFun ecu2 r).trans ((va_up_ne _ _ (by assumption)).trans (hfr r (by assumption) (by assumption) (by assumption)))
          have hh : cu2 w = .inr (4, [.ref (ad1 (w + 1)), .ref (ad1 (w + 2)), .int (nI sz)]) := (congrFun ecu2 _).trans ((va_up_ne _ _ (by omega)).trans hh)
          have hs : cu2 (w + 1) = .inl (B.2.1 0, (hsL N (2 * sz)), .inl (nF (va_up s1 (p - 1) x))) := (congrFun ecu2 _).trans ((va_up_ne _ _ (by omega)).trans hs)
          have ht : cu2 (w + 2) = .inl (B.2.1 0, (hsL N (2 * sz)), .inl (nF (va_up t1 (p - 1) o))) := by rw [ecu2, va_up_self, nF_up]
          refine g_iinc (L' := [(6, .int (nI (l - 1))), (5, .int (nI (p - 1))), (0, .ref (ad1 w)), (1, .int (nI num)), (2, .int (nI (2 * sz))), (3, .int (nI j2 - nI 1)), (4, .int (nI k2 - nI 1)), (9, .int (nI x)), (10, .int (nI o))]) fx (nI (l - 1)) 6 dX4_take_199 rfl (dec1 (by omega)) (by decide) rfl ?_
          refine g_goto fx 44 dX4_take_202 (by decide) ?_
          refine g_locals (L' := [(0, .ref (ad1 w)), (1, .int (nI num)), (2, .int (nI (2 * sz))), (3, .int (nI j2 - nI 1)), (4, .int (nI k2 - nI 1)), (5, .int (nI (p - 1))), (6, .int (nI (l - 1)))]) [2, 3, 4, 5, 6, 1, 0] rfl ?_
          exact ih44 j2 k2 _ (l - 1) _ _ _ (by omega) hjk2 (by omega) (by omega) (by omega) (fun i hi => by rw [va_up_ne _ _ (by omega)]; exact hs1 i (by omega)) (fun i hi => by rw [va_up_ne _ _ (by omega)]; exact ht1 i (by omega)) (inc_new (by omega) hinc hlt) (fun u h1 h2 => by by_cases q : u = p - 1; (rw [q, va_up_self]; exact hxb); (rw [va_up_ne _ _ q]; exact hbd u (by omega) h2)) (fun _ i hi => by rw [va_up_self]; exact hx1 i hi) (fun _ i hi => by rw [va_up_self]; exact hx2 i hi) (fun y => by rw [out_new (by omega) hpe]; have := hsm2 y; omega) (fun u h1 h2 => by by_cases q : u = p - 1; (rw [q, va_up_self]; exact ho); (rw [va_up_ne _ _ q]; exact hpos u (by omega) h2)) hh hs ht hfr (by omega)
        · skip
          have hpl : p < 2 * sz := (nI_ltI (by omega) (by omega)).mp (Int32.not_le.mp c148)
          have hvp := hbd p (Nat.le_refl _) hpl
          refine g_aload_n fx 0 dX4_take_151 rfl ?_
          refine g_get (r := w) fx lkX4_7 (by omega) hh rfl dX4_take_152 ?_
          refine g_iload fx 5 dX4_take_155 rfl ?_
          refine g_iald (r := w + 1) (j := p) fx (by omega) hs (nI_toInt (by omega)) (by omega) dX4_take_157 ?_
          refine g_isi (y := nI (s1 p)) rfl ?_
          refine g_iload fx 7 dX4_take_158 rfl ?_
          refine g_icmp_ne fx 178 dX4_take_160 (by decide) (fun c160 => ?_) (fun c160 => ?_)
          · skip
            have hlt : p < 2 * sz → x < s1 p := fun h => Nat.lt_of_le_of_ne (hx h) (fun e => c160 (by rw [e]))
            refine g_iinc (L' := [(5, .int (nI (p - 1))), (0, .ref (ad1 w)), (1, .int (nI num)), (2, .int (nI (2 * sz))), (3, .int (nI j2 - nI 1)), (4, .int (nI k2 - nI 1)), (6, .int (nI l)), (9, .int (nI x)), (10, .int (nI o))]) fx (nI (p - 1)) 5 dX4_take_178 rfl (dec1 (by omega)) (by decide) rfl ?_
            refine g_aload_n fx 1 dX4_take_181 rfl ?_
            refine g_get (r := w) fx lkX4_7 (by omega) hh rfl dX4_take_182 ?_
            refine g_iload fx 0 dX4_take_185 rfl ?_
            refine g_iload fx 7 dX4_take_187 rfl ?_
            refine g_iast (r := w + 1) (j := (p - 1)) fx (by omega) hs (nI_toInt (by omega)) (by omega) dX4_take_189 (fun cu3 ecu3 => ?_)
            have hfr : ∀ r, r ≠ w → r ≠ w + 1 → r ≠ w + 2 → cu3 r = ct r := fun r _ _ _ => (congrFun ecu3 r).trans ((va_up_ne _ _ (by assumption)).trans (hfr r (by assumption) (by assumption) (by assumption)))
            have hh : cu3 w = .inr (4, [.ref (ad1 (w + 1)), .ref (ad1 (w + 2)), .int (nI sz)]) := (congrFun ecu3 _).trans ((va_up_ne _ _ (by omega)).trans hh)
            have hs : cu3 (w + 1) = .inl (B.2.1 0, (hsL N (2 * sz)), .inl (nF (va_up s1 (p - 1) x))) := by rw [ecu3, va_up_self, nF_up]
            have ht : cu3 (w + 2) = .inl (B.2.1 0, (hsL N (2 * sz)), .inl (nF t1)) := (congrFun ecu3 _).trans ((va_up_ne _ _ (by omega)).trans ht)
            refine g_aload_n fx 1 dX4_take_190 rfl ?_
            refine g_get (r := w) fx lkX4_13 (by omega) hh rfl dX4_take_191 ?_
            refine g_iload fx 0 dX4_take_194 rfl ?_
            refine g_iload fx 8 dX4_take_196 rfl ?_
            refine g_iast (r := w + 2) (j := (p - 1)) fx (by omega) ht (nI_toInt (by omega)) (by omega) dX4_take_198 (fun cu4 ecu4 => ?_)
            have hfr : ∀ r, r ≠ w → r ≠ w + 1 → r ≠ w + 2 → cu4 r = ct r := fun r _ _ _ => (congrFun ecu4 r).trans ((va_up_ne _ _ (by assumption)).trans (hfr r (by assumption) (by assumption) (by assumption)))
            have hh : cu4 w = .inr (4, [.ref (ad1 (w + 1)), .ref (ad1 (w + 2)), .int (nI sz)]) := (congrFun ecu4 _).trans ((va_up_ne _ _ (by omega)).trans hh)
            have hs : cu4 (w + 1) = .inl (B.2.1 0, (hsL N (2 * sz)), .inl (nF (va_up s1 (p - 1) x))) := (congrFun ecu4 _).trans ((va_up_ne _ _ (by omega)).trans hs)
            have ht : cu4 (w + 2) = .inl (B.2.1 0, (hsL N (2 * sz)), .inl (nF (va_up t1 (p - 1) o))) := by rw [ecu4, va_up_self, nF_up]
            refine g_iinc (L' := [(6, .int (nI (l - 1))), (5, .int (nI (p - 1))), (0, .ref (ad1 w)), (1, .int (nI num)), (2, .int (nI (2 * sz))), (3, .int (nI j2 - nI 1)), (4, .int (nI k2 - nI 1)), (9, .int (nI x)), (10, .int (nI o))]) fx (nI (l - 1)) 6 dX4_take_199 rfl (dec1 (by omega)) (by decide) rfl ?_
            refine g_goto fx 44 dX4_take_202 (by decide) ?_
            refine g_locals (L' := [(0, .ref (ad1 w)), (1, .int (nI num)), (2, .int (nI (2 * sz))), (3, .int (nI j2 - nI 1)), (4, .int (nI k2 - nI 1)), (5, .int (nI (p - 1))), (6, .int (nI (l - 1)))]) [2, 3, 4, 5, 6, 1, 0] rfl ?_
            exact ih44 j2 k2 _ (l - 1) _ _ _ (by omega) hjk2 (by omega) (by omega) (by omega) (fun i hi => by rw [va_up_ne _ _ (by omega)]; exact hs1 i (by omega)) (fun i hi => by rw [va_up_ne _ _ (by omega)]; exact ht1 i (by omega)) (inc_new (by omega) hinc hlt) (fun u h1 h2 => by by_cases q : u = p - 1; (rw [q, va_up_self]; exact hxb); (rw [va_up_ne _ _ q]; exact hbd u (by omega) h2)) (fun _ i hi => by rw [va_up_self]; exact hx1 i hi) (fun _ i hi => by rw [va_up_self]; exact hx2 i hi) (fun y => by rw [out_new (by omega) hpe]; have := hsm2 y; omega) (fun u h1 h2 => by by_cases q : u = p - 1; (rw [q, va_up_self]; exact ho); (rw [va_up_ne _ _ q]; exact hpos u (by omega) h2)) hh hs ht hfr (by omega)
          · skip
            have hxe : s1 p = x := (nI_eq (by omega) (by omega)).mp c160
            refine g_aload_n fx 0 dX4_take_163 rfl ?_
            refine g_get (r := w) fx lkX4_13 (by omega) hh rfl dX4_take_164 ?_
            refine g_iload fx 5 dX4_take_167 rfl ?_
            refine g_dup2_11 fx dX4_take_169 rfl rfl ?_
            refine g_iald (r := w + 2) (j := p) fx (by omega) ht (nI_toInt (by omega)) (by omega) dX4_take_170 ?_
            refine g_isi (y := nI (t1 p)) rfl ?_
            refine g_iload fx 8 dX4_take_171 rfl ?_
            refine g_iaddN fx dX4_take_173 ?_
            refine g_iast (r := w + 2) (j := p) fx (by omega) ht (nI_toInt (by omega)) (by omega) dX4_take_174 (fun cu5 ecu5 => ?_)
            have hfr : ∀ r, r ≠ w → r ≠ w + 1 → r ≠ w + 2 → cu5 r = ct r := fun r _ _ _ => (congrFun ecu5 r).trans ((va_up_ne _ _ (by assumption)).trans (hfr r (by assumption) (by assumption) (by assumption)))
            have hh : cu5 w = .inr (4, [.ref (ad1 (w + 1)), .ref (ad1 (w + 2)), .int (nI sz)]) := (congrFun ecu5 _).trans ((va_up_ne _ _ (by omega)).trans hh)
            have hs : cu5 (w + 1) = .inl (B.2.1 0, (hsL N (2 * sz)), .inl (nF s1)) := (congrFun ecu5 _).trans ((va_up_ne _ _ (by omega)).trans hs)
            have ht : cu5 (w + 2) = .inl (B.2.1 0, (hsL N (2 * sz)), .inl (nF (va_up t1 p ((t1 p) + o)))) := by rw [ecu5, va_up_self, nF_up]
            refine g_goto fx 199 dX4_take_175 (by decide) ?_
            refine g_iinc (L' := [(6, .int (nI (l - 1))), (0, .ref (ad1 w)), (1, .int (nI num)), (2, .int (nI (2 * sz))), (3, .int (nI j2 - nI 1)), (4, .int (nI k2 - nI 1)), (5, .int (nI p)), (9, .int (nI x)), (10, .int (nI o))]) fx (nI (l - 1)) 6 dX4_take_199 rfl (dec1 (by omega)) (by decide) rfl ?_
            refine g_goto fx 44 dX4_take_202 (by decide) ?_
            refine g_locals (L' := [(0, .ref (ad1 w)), (1, .int (nI num)), (2, .int (nI (2 * sz))), (3, .int (nI j2 - nI 1)), (4, .int (nI k2 - nI 1)), (5, .int (nI p)), (6, .int (nI (l - 1)))]) [1, 2, 3, 4, 5, 6, 0] rfl ?_
            exact ih44 j2 k2 _ (l - 1) _ _ _ (by omega) hjk2 (by omega) (by omega) (by omega) (fun i hi => hs1 i (by omega)) (fun i hi => by rw [va_up_ne _ _ (by omega)]; exact ht1 i (by omega)) hinc hbd (fun _ i hi => by rw [hxe]; exact hx1 i hi) (fun _ i hi => by rw [hxe]; exact hx2 i hi) (fun y => by rw [out_mrg hpl hxe]; have := hsm2 y; omega) (fun u h1 h2 => by by_cases q : u = p; (rw [q, va_up_self]; omega); (rw [va_up_ne _ _ q]; exact hpos u h1 h2)) hh hs ht hfr (by omega)
      refine g_if_le fx 205 dX4_take_46 (by decide) (fun c46 => ?_) (fun c46 => ?_)
      · skip
        have hl0 : l ≤ 0 := (nI_leI (b := 0) (by omega) (by omega)).mp (show nI l ≤ nI 0 from c46)
        have hj0 : j = 0 := by omega
        have hk0 : k = 0 := by omega
        refine g_aload_n fx 0 dX4_take_205 rfl ?_
        refine g_iload_n fx 2 dX4_take_206 rfl ?_
        refine g_iload fx 5 dX4_take_207 rfl ?_
        refine g_isubN fx dX4_take_209 hpe ?_
        refine g_put (r := w) (fs' := [.ref (ad1 (w + 1)), .ref (ad1 (w + 2)), .int (nI ((2 * sz) - p))]) fx lpX4_16 (by omega) hh rfl rfl (Nat.le_of_ble_eq_true rfl) rfl dX4_take_210 (fun cu6 ecu6 => ?_)
        have hfr : ∀ r, r ≠ w → r ≠ w + 1 → r ≠ w + 2 → cu6 r = ct r := fun r _ _ _ => (congrFun ecu6 r).trans ((va_up_ne _ _ (by assumption)).trans (hfr r (by assumption) (by assumption) (by assumption)))
        have hh : cu6 w = .inr (4, [.ref (ad1 (w + 1)), .ref (ad1 (w + 2)), .int (nI ((2 * sz) - p))]) := by rw [ecu6, va_up_self]
        have hs : cu6 (w + 1) = .inl (B.2.1 0, (hsL N (2 * sz)), .inl (nF s1)) := (congrFun ecu6 _).trans ((va_up_ne _ _ (by omega)).trans hs)
        have ht : cu6 (w + 2) = .inl (B.2.1 0, (hsL N (2 * sz)), .inl (nF t1)) := (congrFun ecu6 _).trans ((va_up_ne _ _ (by omega)).trans ht)
        refine g_aload_n fx 0 dX4_take_213 rfl ?_
        refine g_get (r := w) fx lkX4_7 (by omega) hh rfl dX4_take_214 ?_
        refine g_iload fx 5 dX4_take_217 rfl ?_
        refine g_aload_n fx 0 dX4_take_219 rfl ?_
        refine g_get (r := w) fx lkX4_7 (by omega) hh rfl dX4_take_220 ?_
        refine g_iconst (v := nI 0) fx dX4_take_223 (by decide +kernel) ?_
        refine g_aload_n fx 0 dX4_take_224 rfl ?_
        refine g_get (r := w) fx lkX4_16 (by omega) hh rfl dX4_take_225 ?_
        refine g_copy (r0 := (w + 1)) (r1 := (w + 1)) (sp := p) (dp := 0) (m := ((2 * sz) - p)) fx oiX4_25 (by omega) (by omega) hs hs (nI_toInt (by omega)) (nI_toInt (by omega)) (nI_toInt (by omega)) (by omega) (by omega) ⟨by dsimp only; decide, by dsimp only; decide⟩ dX4_take_228 (fun cu7 ecu7 => ?_)
        have hfr : ∀ r, r ≠ w → r ≠ w + 1 → r ≠ w + 2 → cu7 r = ct r := fun r _ _ _ => (congrFun ecu7 r).trans ((va_up_ne _ _ (by assumption)).trans (hfr r (by assumption) (by assumption) (by assumption)))
        have hh : cu7 w = .inr (4, [.ref (ad1 (w + 1)), .ref (ad1 (w + 2)), .int (nI ((2 * sz) - p))]) := (congrFun ecu7 _).trans ((va_up_ne _ _ (by omega)).trans hh)
        have hs : cu7 (w + 1) = .inl (B.2.1 0, (hsL N (2 * sz)), .inl (va_cpy (nF s1) (nF s1) p 0 ((2 * sz) - p))) := by rw [ecu7, va_up_self]
        have ht : cu7 (w + 2) = .inl (B.2.1 0, (hsL N (2 * sz)), .inl (nF t1)) := (congrFun ecu7 _).trans ((va_up_ne _ _ (by omega)).trans ht)
        rw [cpy_nF] at hs
        refine g_aload_n fx 0 dX4_take_231 rfl ?_
        refine g_get (r := w) fx lkX4_13 (by omega) hh rfl dX4_take_232 ?_
        refine g_iload fx 5 dX4_take_235 rfl ?_
        refine g_aload_n fx 0 dX4_take_237 rfl ?_
        refine g_get (r := w) fx lkX4_13 (by omega) hh rfl dX4_take_238 ?_
        refine g_iconst (v := nI 0) fx dX4_take_241 (by decide +kernel) ?_
        refine g_aload_n fx 0 dX4_take_242 rfl ?_
        refine g_get (r := w) fx lkX4_16 (by omega) hh rfl dX4_take_243 ?_
        refine g_copy (r0 := (w + 2)) (r1 := (w + 2)) (sp := p) (dp := 0) (m := ((2 * sz) - p)) fx oiX4_25 (by omega) (by omega) ht ht (nI_toInt (by omega)) (nI_toInt (by omega)) (nI_toInt (by omega)) (by omega) (by omega) ⟨by dsimp only; decide, by dsimp only; decide⟩ dX4_take_246 (fun cu8 ecu8 => ?_)
        have hfr : ∀ r, r ≠ w → r ≠ w + 1 → r ≠ w + 2 → cu8 r = ct r := fun r _ _ _ => (congrFun ecu8 r).trans ((va_up_ne _ _ (by assumption)).trans (hfr r (by assumption) (by assumption) (by assumption)))
        have hh : cu8 w = .inr (4, [.ref (ad1 (w + 1)), .ref (ad1 (w + 2)), .int (nI ((2 * sz) - p))]) := (congrFun ecu8 _).trans ((va_up_ne _ _ (by omega)).trans hh)
        have hs : cu8 (w + 1) = .inl (B.2.1 0, (hsL N (2 * sz)), .inl (nF (va_cpy s1 s1 p 0 ((2 * sz) - p)))) := (congrFun ecu8 _).trans ((va_up_ne _ _ (by omega)).trans hs)
        have ht : cu8 (w + 2) = .inl (B.2.1 0, (hsL N (2 * sz)), .inl (va_cpy (nF t1) (nF t1) p 0 ((2 * sz) - p))) := by rw [ecu8, va_up_self]
        rw [cpy_nF] at ht
        refine g_more (k1 := 2) (s1 := (4 * ((hsL N (2 * sz)) - N))) (by omega) (by omega) ?_
        refine g_vret fx rt dX4_take_249 ?_
        exact gPx.mk ⟨2 * sz - p, _, _, hA1, hh, hs, ht, HS.done (s := s1) (t := t1) (num := num) (at_ := p) (e := 2 * sz) (by omega) hinc hbd (fun y => by have := hsm y; rw [hj0, hk0] at this; exact this) (fun i hi => cpy_in hi) (fun i hi => cpy_in hi) (Nat.le_trans (show 2 * sz - p ≤ 2 * 2 ^ m by omega) (by rw [Nat.pow_succ]; omega)) hpos, by omega, hok, hfr⟩
      · skip
        refine g_iload_n fx 3 dX4_take_49 rfl ?_
        refine g_if_lt fx 205 dX4_take_50 (by decide) (fun c50 => ?_) (fun c50 => ?_)
        · skip
          have hj0 : j = 0 := (m1_neg (by omega)).mp c50
          have hk0 : k = 0 := by omega
          refine g_aload_n fx 0 dX4_take_205 rfl ?_
          refine g_iload_n fx 2 dX4_take_206 rfl ?_
          refine g_iload fx 5 dX4_take_207 rfl ?_
          refine g_isubN fx dX4_take_209 hpe ?_
          refine g_put (r := w) (fs' := [.ref (ad1 (w + 1)), .ref (ad1 (w + 2)), .int (nI ((2 * sz) - p))]) fx lpX4_16 (by omega) hh rfl rfl (Nat.le_of_ble_eq_true rfl) rfl dX4_take_210 (fun cu9 ecu9 => ?_)
          have hfr : ∀ r, r ≠ w → r ≠ w + 1 → r ≠ w + 2 → cu9 r = ct r := fun r _ _ _ => (congrFun ecu9 r).trans ((va_up_ne _ _ (by assumption)).trans (hfr r (by assumption) (by assumption) (by assumption)))
          have hh : cu9 w = .inr (4, [.ref (ad1 (w + 1)), .ref (ad1 (w + 2)), .int (nI ((2 * sz) - p))]) := by rw [ecu9, va_up_self]
          have hs : cu9 (w + 1) = .inl (B.2.1 0, (hsL N (2 * sz)), .inl (nF s1)) := (congrFun ecu9 _).trans ((va_up_ne _ _ (by omega)).trans hs)
          have ht : cu9 (w + 2) = .inl (B.2.1 0, (hsL N (2 * sz)), .inl (nF t1)) := (congrFun ecu9 _).trans ((va_up_ne _ _ (by omega)).trans ht)
          refine g_aload_n fx 0 dX4_take_213 rfl ?_
          refine g_get (r := w) fx lkX4_7 (by omega) hh rfl dX4_take_214 ?_
          refine g_iload fx 5 dX4_take_217 rfl ?_
          refine g_aload_n fx 0 dX4_take_219 rfl ?_
          refine g_get (r := w) fx lkX4_7 (by omega) hh rfl dX4_take_220 ?_
          refine g_iconst (v := nI 0) fx dX4_take_223 (by decide +kernel) ?_
          refine g_aload_n fx 0 dX4_take_224 rfl ?_
          refine g_get (r := w) fx lkX4_16 (by omega) hh rfl dX4_take_225 ?_
          refine g_copy (r0 := (w + 1)) (r1 := (w + 1)) (sp := p) (dp := 0) (m := ((2 * sz) - p)) fx oiX4_25 (by omega) (by omega) hs hs (nI_toInt (by omega)) (nI_toInt (by omega)) (nI_toInt (by omega)) (by omega) (by omega) ⟨by dsimp only; decide, by dsimp only; decide⟩ dX4_take_228 (fun cu10 ecu10 => ?_)
          have hfr : ∀ r, r ≠ w → r ≠ w + 1 → r ≠ w + 2 → cu10 r = ct r := fun r _ _ _ => (congrFun ecu10 r).trans ((va_up_ne _ _ (by assumption)).trans (hfr r (by assumption) (by assumption) (by assumption)))
          have hh : cu10 w = .inr (4, [.ref (ad1 (w + 1)), .ref (ad1 (w + 2)), .int (nI ((2 * sz) - p))]) := (congrFun ecu10 _).trans ((va_up_ne _ _ (by omega)).trans hh)
          have hs : cu10 (w + 1) = .inl (B.2.1 0, (hsL N (2 * sz)), .inl (va_cpy (nF s1) (nF s1) p 0 ((2 * sz) - p))) := by rw [ecu10, va_up_self]
          have ht : cu10 (w + 2) = .inl (B.2.1 0, (hsL N (2 * sz)), .inl (nF t1)) := (congrFun ecu10 _).trans ((va_up_ne _ _ (by omega)).trans ht)
          rw [cpy_nF] at hs
          refine g_aload_n fx 0 dX4_take_231 rfl ?_
          refine g_get (r := w) fx lkX4_13 (by omega) hh rfl dX4_take_232 ?_
          refine g_iload fx 5 dX4_take_235 rfl ?_
          refine g_aload_n fx 0 dX4_take_237 rfl ?_
          refine g_get (r := w) fx lkX4_13 (by omega) hh rfl dX4_take_238 ?_
          refine g_iconst (v := nI 0) fx dX4_take_241 (by decide +kernel) ?_
          refine g_aload_n fx 0 dX4_take_242 rfl ?_
          refine g_get (r := w) fx lkX4_16 (by omega) hh rfl dX4_take_243 ?_
          refine g_copy (r0 := (w + 2)) (r1 := (w + 2)) (sp := p) (dp := 0) (m := ((2 * sz) - p)) fx oiX4_25 (by omega) (by omega) ht ht (nI_toInt (by omega)) (nI_toInt (by omega)) (nI_toInt (by omega)) (by omega) (by omega) ⟨by dsimp only; decide, by dsimp only; decide⟩ dX4_take_246 (fun cu11 ecu11 => ?_)
          have hfr : ∀ r, r ≠ w → r ≠ w + 1 → r ≠ w + 2 → cu11 r = ct r := fun r _ _ _ => (congrFun ecu11 r).trans ((va_up_ne _ _ (by assumption)).trans (hfr r (by assumption) (by assumption) (by assumption)))
          have hh : cu11 w = .inr (4, [.ref (ad1 (w + 1)), .ref (ad1 (w + 2)), .int (nI ((2 * sz) - p))]) := (congrFun ecu11 _).trans ((va_up_ne _ _ (by omega)).trans hh)
          have hs : cu11 (w + 1) = .inl (B.2.1 0, (hsL N (2 * sz)), .inl (nF (va_cpy s1 s1 p 0 ((2 * sz) - p)))) := (congrFun ecu11 _).trans ((va_up_ne _ _ (by omega)).trans hs)
          have ht : cu11 (w + 2) = .inl (B.2.1 0, (hsL N (2 * sz)), .inl (va_cpy (nF t1) (nF t1) p 0 ((2 * sz) - p))) := by rw [ecu11, va_up_self]
          rw [cpy_nF] at ht
          refine g_more (k1 := 2) (s1 := (4 * ((hsL N (2 * sz)) - N))) (by omega) (by omega) ?_
          refine g_vret fx rt dX4_take_249 ?_
          exact gPx.mk ⟨2 * sz - p, _, _, hA1, hh, hs, ht, HS.done (s := s1) (t := t1) (num := num) (at_ := p) (e := 2 * sz) (by omega) hinc hbd (fun y => by have := hsm y; rw [hj0, hk0] at this; exact this) (fun i hi => cpy_in hi) (fun i hi => cpy_in hi) (Nat.le_trans (show 2 * sz - p ≤ 2 * 2 ^ m by omega) (by rw [Nat.pow_succ]; omega)) hpos, by omega, hok, hfr⟩
        · skip
          have hj0 : 0 < j := Nat.pos_of_ne_zero (fun q => c50 ((m1_neg (by omega)).mpr q))
          have hvj := hHS.2.1 (j - 1) (by omega)
          refine g_iload fx 4 dX4_take_53 rfl ?_
          refine g_if_lt fx 80 dX4_take_55 (by decide) (fun c55 => ?_) (fun c55 => ?_)
          · skip
            have hk0 : k = 0 := (m1_neg (by omega)).mp c55
            refine g_iconst (v := nI 0) fx dX4_take_80 (by decide +kernel) ?_
            refine g_istore (L' := [(7, .int (nI 0)), (0, .ref (ad1 w)), (1, .int (nI num)), (2, .int (nI (2 * sz))), (3, .int (nI j - nI 1)), (4, .int (nI k - nI 1)), (5, .int (nI p)), (6, .int (nI l))]) fx dX4_take_81 (by decide) rfl ?_
            refine g_iload fx 0 dX4_take_83 rfl ?_
            refine g_if_eq fx 93 dX4_take_85 (by decide) (fun c85 => ?_) (fun c85 => ?_)
            rotate_left
            · exact absurd (by decide) c85
            refine g_iload_n fx 4 dX4_take_93 rfl ?_
            refine g_istore (L' := [(8, .int (nI j - nI 1)), (7, .int (nI 0)), (0, .ref (ad1 w)), (1, .int (nI num)), (2, .int (nI (2 * sz))), (3, .int (nI j - nI 1)), (4, .int (nI k - nI 1)), (5, .int (nI p)), (6, .int (nI l))]) fx dX4_take_94 (by decide) rfl ?_
            refine g_iload fx 1 dX4_take_96 rfl ?_
            refine g_if_eq fx 113 dX4_take_98 (by decide) (fun c98 => ?_) (fun c98 => ?_)
            rotate_left
            · exact absurd (by decide) c98
            refine g_aload_n fx 2 dX4_take_113 rfl ?_
            refine g_get (r := w) fx lkX4_7 (by omega) hh rfl dX4_take_114 ?_
            refine g_iload fx 0 dX4_take_117 rfl ?_
            refine g_iald (r := w + 1) (j := (j - 1)) fx (by omega) hs (m1_ix hj0 (by omega)) (by omega) dX4_take_119 ?_
            refine g_isi (y := nI (s1 (j - 1))) rfl ?_
            refine g_istore (L' := [(9, .int (nI (s1 (j - 1)))), (8, .int (nI j - nI 1)), (7, .int (nI 0)), (0, .ref (ad1 w)), (1, .int (nI num)), (2, .int (nI (2 * sz))), (3, .int (nI j - nI 1)), (4, .int (nI k - nI 1)), (5, .int (nI p)), (6, .int (nI l))]) fx dX4_take_120 (by decide) rfl ?_
            refine g_aload_n fx 3 dX4_take_122 rfl ?_
            refine g_get (r := w) fx lkX4_13 (by omega) hh rfl dX4_take_123 ?_
            refine g_iload fx 1 dX4_take_126 rfl ?_
            refine g_iald (r := w + 2) (j := (j - 1)) fx (by omega) ht (m1_ix hj0 (by omega)) (by omega) dX4_take_128 ?_
            refine g_isi (y := nI (t1 (j - 1))) rfl ?_
            refine g_istore (L' := [(10, .int (nI (t1 (j - 1)))), (9, .int (nI (s1 (j - 1)))), (8, .int (nI j - nI 1)), (7, .int (nI 0)), (0, .ref (ad1 w)), (1, .int (nI num)), (2, .int (nI (2 * sz))), (3, .int (nI j - nI 1)), (4, .int (nI k - nI 1)), (5, .int (nI p)), (6, .int (nI l))]) fx dX4_take_129 (by decide) rfl ?_
            refine g_iload fx 3 dX4_take_131 rfl ?_
            refine g_if_eq fx 142 dX4_take_133 (by decide) (fun c133 => ?_) (fun c133 => ?_)
            rotate_left
            · exact absurd (by decide) c133
            refine g_iinc (L' := [(3, .int (nI (j - 1) - nI 1)), (10, .int (nI (t1 (j - 1)))), (9, .int (nI (s1 (j - 1)))), (8, .int (nI j - nI 1)), (7, .int (nI 0)), (0, .ref (ad1 w)), (1, .int (nI num)), (2, .int (nI (2 * sz))), (4, .int (nI k - nI 1)), (5, .int (nI p)), (6, .int (nI l))]) fx (nI (j - 1) - nI 1) 7 dX4_take_142 rfl (m1_dec hj0) (by decide) rfl ?_
            refine g_locals (L' := [(0, .ref (ad1 w)), (1, .int (nI num)), (2, .int (nI (2 * sz))), (3, .int (nI (j - 1) - nI 1)), (4, .int (nI k - nI 1)), (5, .int (nI p)), (6, .int (nI l)), (9, .int (nI (s1 (j - 1)))), (10, .int (nI (t1 (j - 1))))]) [5, 6, 7, 0, 8, 9, 10, 2, 1] rfl ?_
            exact J145 (j - 1) k (s1 (j - 1)) (t1 (j - 1)) (by rw [ht1 _ (by omega)]; exact hHS.2.2.2.2 _ (by omega)) (by omega) (by omega) (by omega) (by omega) (fun h => by rw [hs1 _ (by omega)]; exact hb1 h _ (by omega)) (by rw [hs1 _ (by omega)]; have := hHS.2.1 (j - 1) (by omega); omega) (fun i hi => by rw [hs1 _ (by omega)]; exact hHS.mono (show i ≤ j - 1 by omega) (by omega)) (fun i hi => absurd hi (by omega)) (fun y => by have e := hsm y; rw [sumF_pred (j := j) hj0] at e; rw [hs1 _ (by omega), ht1 _ (by omega)]; omega)
          · skip
            have hk0 : 0 < k := Nat.pos_of_ne_zero (fun q => c55 ((m1_neg (by omega)).mpr q))
            have hvk := hHS.2.1 (k - 1) (by omega)
            refine g_aload_n fx 0 dX4_take_58 rfl ?_
            refine g_get (r := w) fx lkX4_7 (by omega) hh rfl dX4_take_59 ?_
            refine g_iload fx 4 dX4_take_62 rfl ?_
            refine g_iald (r := w + 1) (j := (k - 1)) fx (by omega) hs (m1_ix hk0 (by omega)) (by omega) dX4_take_64 ?_
            refine g_isi (y := nI (s1 (k - 1))) rfl ?_
            refine g_iload_n fx 1 dX4_take_65 rfl ?_
            refine g_iaddN fx dX4_take_66 ?_
            refine g_aload_n fx 0 dX4_take_67 rfl ?_
            refine g_get (r := w) fx lkX4_7 (by omega) hh rfl dX4_take_68 ?_
            refine g_iload_n fx 3 dX4_take_71 rfl ?_
            refine g_iald (r := w + 1) (j := (j - 1)) fx (by omega) hs (m1_ix hj0 (by omega)) (by omega) dX4_take_72 ?_
            refine g_isi (y := nI (s1 (j - 1))) rfl ?_
            have hej := hs1 (j - 1) (by omega)
            have hek := hs1 (k - 1) (by omega)
            refine g_icmp_lt fx 80 dX4_take_73 (by decide) (fun c73 => ?_) (fun c73 => ?_)
            · skip
              have hcmp : s1 (k - 1) + num < s1 (j - 1) := (nI_ltI (by omega) (by omega)).mp c73
              have hkj : k < j := by
                by_cases q : k = j
                · subst q; omega
                · omega
              rw [hs1 _ (by omega), hs1 _ (by omega)] at hcmp
              refine g_iconst (v := nI 0) fx dX4_take_80 (by decide +kernel) ?_
              refine g_istore (L' := [(7, .int (nI 0)), (0, .ref (ad1 w)), (1, .int (nI num)), (2, .int (nI (2 * sz))), (3, .int (nI j - nI 1)), (4, .int (nI k - nI 1)), (5, .int (nI p)), (6, .int (nI l))]) fx dX4_take_81 (by decide) rfl ?_
              refine g_iload fx 0 dX4_take_83 rfl ?_
              refine g_if_eq fx 93 dX4_take_85 (by decide) (fun c85 => ?_) (fun c85 => ?_)
              rotate_left
              · exact absurd (by decide) c85
              refine g_iload_n fx 4 dX4_take_93 rfl ?_
              refine g_istore (L' := [(8, .int (nI j - nI 1)), (7, .int (nI 0)), (0, .ref (ad1 w)), (1, .int (nI num)), (2, .int (nI (2 * sz))), (3, .int (nI j - nI 1)), (4, .int (nI k - nI 1)), (5, .int (nI p)), (6, .int (nI l))]) fx dX4_take_94 (by decide) rfl ?_
              refine g_iload fx 1 dX4_take_96 rfl ?_
              refine g_if_eq fx 113 dX4_take_98 (by decide) (fun c98 => ?_) (fun c98 => ?_)
              rotate_left
              · exact absurd (by decide) c98
              refine g_aload_n fx 2 dX4_take_113 rfl ?_
              refine g_get (r := w) fx lkX4_7 (by omega) hh rfl dX4_take_114 ?_
              refine g_iload fx 0 dX4_take_117 rfl ?_
              refine g_iald (r := w + 1) (j := (j - 1)) fx (by omega) hs (m1_ix hj0 (by omega)) (by omega) dX4_take_119 ?_
              refine g_isi (y := nI (s1 (j - 1))) rfl ?_
              refine g_istore (L' := [(9, .int (nI (s1 (j - 1)))), (8, .int (nI j - nI 1)), (7, .int (nI 0)), (0, .ref (ad1 w)), (1, .int (nI num)), (2, .int (nI (2 * sz))), (3, .int (nI j - nI 1)), (4, .int (nI k - nI 1)), (5, .int (nI p)), (6, .int (nI l))]) fx dX4_take_120 (by decide) rfl ?_
              refine g_aload_n fx 3 dX4_take_122 rfl ?_
              refine g_get (r := w) fx lkX4_13 (by omega) hh rfl dX4_take_123 ?_
              refine g_iload fx 1 dX4_take_126 rfl ?_
              refine g_iald (r := w + 2) (j := (j - 1)) fx (by omega) ht (m1_ix hj0 (by omega)) (by omega) dX4_take_128 ?_
              refine g_isi (y := nI (t1 (j - 1))) rfl ?_
              refine g_istore (L' := [(10, .int (nI (t1 (j - 1)))), (9, .int (nI (s1 (j - 1)))), (8, .int (nI j - nI 1)), (7, .int (nI 0)), (0, .ref (ad1 w)), (1, .int (nI num)), (2, .int (nI (2 * sz))), (3, .int (nI j - nI 1)), (4, .int (nI k - nI 1)), (5, .int (nI p)), (6, .int (nI l))]) fx dX4_take_129 (by decide) rfl ?_
              refine g_iload fx 3 dX4_take_131 rfl ?_
              refine g_if_eq fx 142 dX4_take_133 (by decide) (fun c133 => ?_) (fun c133 => ?_)
              rotate_left
              · exact absurd (by decide) c133
              refine g_iinc (L' := [(3, .int (nI (j - 1) - nI 1)), (10, .int (nI (t1 (j - 1)))), (9, .int (nI (s1 (j - 1)))), (8, .int (nI j - nI 1)), (7, .int (nI 0)), (0, .ref (ad1 w)), (1, .int (nI num)), (2, .int (nI (2 * sz))), (4, .int (nI k - nI 1)), (5, .int (nI p)), (6, .int (nI l))]) fx (nI (j - 1) - nI 1) 7 dX4_take_142 rfl (m1_dec hj0) (by decide) rfl ?_
              refine g_locals (L' := [(0, .ref (ad1 w)), (1, .int (nI num)), (2, .int (nI (2 * sz))), (3, .int (nI (j - 1) - nI 1)), (4, .int (nI k - nI 1)), (5, .int (nI p)), (6, .int (nI l)), (9, .int (nI (s1 (j - 1)))), (10, .int (nI (t1 (j - 1))))]) [5, 6, 7, 0, 8, 9, 10, 2, 1] rfl ?_
              exact J145 (j - 1) k (s1 (j - 1)) (t1 (j - 1)) (by rw [ht1 _ (by omega)]; exact hHS.2.2.2.2 _ (by omega)) (by omega) (by omega) (by omega) (by omega) (fun h => by rw [hs1 _ (by omega)]; exact hb1 h _ (by omega)) (by rw [hs1 _ (by omega)]; have := hHS.2.1 (j - 1) (by omega); omega) (fun i hi => by rw [hs1 _ (by omega)]; exact hHS.mono (show i ≤ j - 1 by omega) (by omega)) (fun i hi => by have := hHS.mono (show i ≤ k - 1 by omega) (by omega); omega) (fun y => by have e := hsm y; rw [sumF_pred (j := j) hj0] at e; rw [hs1 _ (by omega), ht1 _ (by omega)]; omega)
            · skip
              have hcmp : s1 (j - 1) ≤ s1 (k - 1) + num := Nat.le_of_not_lt (fun q => c73 ((nI_ltI (by omega) (by omega)).mpr q))
              refine g_iconst (v := nI 1) fx dX4_take_76 (by decide +kernel) ?_
              refine g_goto fx 81 dX4_take_77 (by decide) ?_
              refine g_istore (L' := [(7, .int (nI 1)), (0, .ref (ad1 w)), (1, .int (nI num)), (2, .int (nI (2 * sz))), (3, .int (nI j - nI 1)), (4, .int (nI k - nI 1)), (5, .int (nI p)), (6, .int (nI l))]) fx dX4_take_81 (by decide) rfl ?_
              refine g_iload fx 0 dX4_take_83 rfl ?_
              refine g_if_eq fx 93 dX4_take_85 (by decide) (fun c85 => ?_) (fun c85 => ?_)
              · exact absurd c85 (by decide)
              refine g_iload fx 5 dX4_take_88 rfl ?_
              refine g_goto fx 94 dX4_take_90 (by decide) ?_
              refine g_istore (L' := [(8, .int (nI k - nI 1)), (7, .int (nI 1)), (0, .ref (ad1 w)), (1, .int (nI num)), (2, .int (nI (2 * sz))), (3, .int (nI j - nI 1)), (4, .int (nI k - nI 1)), (5, .int (nI p)), (6, .int (nI l))]) fx dX4_take_94 (by decide) rfl ?_
              refine g_iload fx 1 dX4_take_96 rfl ?_
              refine g_if_eq fx 113 dX4_take_98 (by decide) (fun c98 => ?_) (fun c98 => ?_)
              · exact absurd c98 (by decide)
              refine g_aload_n fx 2 dX4_take_101 rfl ?_
              refine g_get (r := w) fx lkX4_7 (by omega) hh rfl dX4_take_102 ?_
              refine g_iload fx 0 dX4_take_105 rfl ?_
              refine g_iald (r := w + 1) (j := (k - 1)) fx (by omega) hs (m1_ix hk0 (by omega)) (by omega) dX4_take_107 ?_
              refine g_isi (y := nI (s1 (k - 1))) rfl ?_
              refine g_iload_n fx 3 dX4_take_108 rfl ?_
              refine g_iaddN fx dX4_take_109 ?_
              refine g_goto fx 120 dX4_take_110 (by decide) ?_
              refine g_istore (L' := [(9, .int (nI ((s1 (k - 1)) + num))), (8, .int (nI k - nI 1)), (7, .int (nI 1)), (0, .ref (ad1 w)), (1, .int (nI num)), (2, .int (nI (2 * sz))), (3, .int (nI j - nI 1)), (4, .int (nI k - nI 1)), (5, .int (nI p)), (6, .int (nI l))]) fx dX4_take_120 (by decide) rfl ?_
              refine g_aload_n fx 3 dX4_take_122 rfl ?_
              refine g_get (r := w) fx lkX4_13 (by omega) hh rfl dX4_take_123 ?_
              refine g_iload fx 1 dX4_take_126 rfl ?_
              refine g_iald (r := w + 2) (j := (k - 1)) fx (by omega) ht (m1_ix hk0 (by omega)) (by omega) dX4_take_128 ?_
              refine g_isi (y := nI (t1 (k - 1))) rfl ?_
              refine g_istore (L' := [(10, .int (nI (t1 (k - 1)))), (9, .int (nI ((s1 (k - 1)) + num))), (8, .int (nI k - nI 1)), (7, .int (nI 1)), (0, .ref (ad1 w)), (1, .int (nI num)), (2, .int (nI (2 * sz))), (3, .int (nI j - nI 1)), (4, .int (nI k - nI 1)), (5, .int (nI p)), (6, .int (nI l))]) fx dX4_take_129 (by decide) rfl ?_
              refine g_iload fx 3 dX4_take_131 rfl ?_
              refine g_if_eq fx 142 dX4_take_133 (by decide) (fun c133 => ?_) (fun c133 => ?_)
              · exact absurd c133 (by decide)
              refine g_iinc (L' := [(4, .int (nI (k - 1) - nI 1)), (10, .int (nI (t1 (k - 1)))), (9, .int (nI ((s1 (k - 1)) + num))), (8, .int (nI k - nI 1)), (7, .int (nI 1)), (0, .ref (ad1 w)), (1, .int (nI num)), (2, .int (nI (2 * sz))), (3, .int (nI j - nI 1)), (5, .int (nI p)), (6, .int (nI l))]) fx (nI (k - 1) - nI 1) 8 dX4_take_136 rfl (m1_dec hk0) (by decide) rfl ?_
              refine g_goto fx 145 dX4_take_139 (by decide) ?_
              refine g_locals (L' := [(0, .ref (ad1 w)), (1, .int (nI num)), (2, .int (nI (2 * sz))), (3, .int (nI j - nI 1)), (4, .int (nI (k - 1) - nI 1)), (5, .int (nI p)), (6, .int (nI l)), (9, .int (nI ((s1 (k - 1)) + num))), (10, .int (nI (t1 (k - 1))))]) [5, 6, 7, 8, 0, 9, 10, 2, 1] rfl ?_
              exact J145 j (k - 1) (s1 (k - 1) + num) (t1 (k - 1)) (by rw [ht1 _ (by omega)]; exact hHS.2.2.2.2 _ (by omega)) (by omega) (Nat.le_refl _) (by omega) (by omega) (fun h => by rw [hs1 _ (by omega)]; exact hb2 h _ (by omega)) (by rw [hs1 _ (by omega)]; have := hHS.2.1 (k - 1) (by omega); omega) (fun i hi => Nat.le_trans (hHS.mono (show i ≤ j - 1 by omega) (by omega)) (by rw [hs1 _ (by omega)] at hcmp ⊢; rw [hs1 _ (by omega)] at hcmp; exact hcmp)) (fun i hi => by rw [hs1 _ (by omega)]; have := hHS.mono (show i ≤ k - 1 by omega) (by omega); omega) (fun y => by have e := hsm y; rw [sumF_pred (j := k) hk0] at e; rw [hs1 _ (by omega), ht1 _ (by omega)]; omega)
  refine g_locals (L' := [(0, .ref (ad1 w)), (1, .int (nI num)), (2, .int (nI (2 * sz))), (3, .int (nI sz - nI 1)), (4, .int (nI sz - nI 1)), (5, .int (nI (2 * sz))), (6, .int (nI (2 * sz)))]) [5, 6, 4, 3, 2, 1, 0] rfl ?_
  exact LP44 (sz + sz + 1) sz sz (2 * sz) (2 * sz) sA tA _ (by omega) (Nat.le_refl _) (Nat.le_refl _) (by omega) (Nat.le_refl _) hsA htA (fun u v h1 h2 h3 => absurd h3 (by omega)) (fun u h1 h2 => absurd h2 (by omega)) (fun h => absurd h (by omega)) (fun h => absurd h (by omega)) (fun y => by unfold OUT; rw [Nat.sub_self]; show 0 + _ = _; rw [Nat.zero_add, in2_eq, hHS.2.2.1, hHS.2.2.1, ← ham]; rfl) (fun u h1 h2 => absurd h2 (by omega)) hh hs ht hfr (by omega)
