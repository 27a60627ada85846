theorem w62 {x : Nat} (h : x < 2 ^ 62) : x * 2 ≤ 16777216 ^ 40 := Nat.le_trans (Nat.mul_le_mul_right 2 (Nat.le_of_lt h)) (by decide +kernel)
set_option maxHeartbeats 4000000 in
set_option maxRecDepth 100000 in
theorem c_X12_findChances (B : gB) (ad : Nat → Nat) (ct : Nat → va_E) (n : Nat) (f : Nat → Int32) (gq gl go gt gu gw gb wh : Nat → Nat) (hn : 33 ≤ n) (h0 : ct 0 = mObj ad f) (hq : ct 1 = .inl (B.2.1 0, 40, .inl (nF gq))) (hlf : ct 2 = .inl (B.2.1 0, 40, .inl (nF gl))) (ho : ct 3 = .inl (B.2.1 0, 40, .inl (nF go))) (ht : ct 4 = .inl (B.2.1 0, 40, .inl (nF gt))) (hu : ct 9 = .inl (B.2.1 0, 160, .inl (nF gu))) (hw : ct 10 = .inl (B.2.1 0, 160, .inl (nF gw))) (hb : ct 11 = .inl (B.2.1 1, 60001, .inr (.inl (lF gb)))) (hwh : ct 21 = .inl (B.2.1 0, 40, .inl (nF wh))) (S : Nat) (hS : f 18 = nI S) (hS2 : S ≤ 60001) (tm mid st bs : Int) (x y : Int32) (hst : (f 13).toInt = st) (hbs : (f 19).toInt = bs) (hx : x.toInt = tm) (hy : y.toInt = mid) (hstb : st.natAbs ≤ 60000) (hbsb : bs.natAbs ≤ 60000) (htm : tm.natAbs ≤ 30) (hmid : mid.natAbs < 2 ^ 30) (hgp : 0 < sumF gb S) (hgl : sumF gb S < 2 ^ 62) : Ctr B yX12_findChances cX12_findChances 18 none 4 97 0 0 ad ct n [.ref (ad 0), .int x, .int y] (gPv ad n (fun ct' => ∃ gq' gl' go' gt' gu' gw' wh', ct' 1 = .inl (B.2.1 0, 40, .inl (nF gq')) ∧ ct' 2 = .inl (B.2.1 0, 40, .inl (nF gl')) ∧ ct' 3 = .inl (B.2.1 0, 40, .inl (nF go')) ∧ ct' 4 = .inl (B.2.1 0, 40, .inl (nF gt')) ∧ ct' 9 = .inl (B.2.1 0, 160, .inl (nF gu')) ∧ ct' 10 = .inl (B.2.1 0, 160, .inl (nF gw')) ∧ ct' 21 = .inl (B.2.1 0, 40, .inl (nF wh')) ∧ (∀ t, t < 4 → okN gu' (40 * t) ∧ okN gw' (40 * t) ∧ nv gu' (40 * t) = fcS tm mid st bs gb S t / Nat.gcd (fcS tm mid st bs gb S t) (sumF gb S) ∧ nv gw' (40 * t) = sumF gb S / Nat.gcd (fcS tm mid st bs gb S t) (sumF gb S)) ∧ ∀ r, r ≠ 1 → r ≠ 2 → r ≠ 3 → r ≠ 4 → r ≠ 9 → r ≠ 10 → r ≠ 21 → ct' r = ct r)) := by
  have hfr : ∀ r, r ≠ 1 → r ≠ 2 → r ≠ 3 → r ≠ 4 → r ≠ 9 → r ≠ 10 → r ≠ 21 → ct r = ct r := fun _ _ _ _ _ _ _ _ => rfl
  have hsle : ∀ t, fcS tm mid st bs gb S t < 4611686018427387904 := fun t => Nat.lt_of_le_of_lt fcS_le hgl
  refine Ctr.ofG (L := [(0, .ref (ad 0)), (1, .int x), (2, .int y)]) (by decide +kernel) rfl (Nat.le_of_ble_eq_true rfl) (fun E fx rt hnm => ?_)
  refine g_lconst (v := lN 0) fx dX12_findChances_0 (by decide +kernel) ?_
  refine g_lstore_n (L' := [(3, .long (lN 0)), (0, .ref (ad 0)), (1, .int x), (2, .int y)]) fx dX12_findChances_1 (by decide) rfl ?_
  refine g_lconst (v := lN 0) fx dX12_findChances_2 (by decide +kernel) ?_
  refine g_lstore (L' := [(5, .long (lN 0)), (3, .long (lN 0)), (0, .ref (ad 0)), (1, .int x), (2, .int y)]) fx dX12_findChances_3 (by decide) rfl ?_
  refine g_lconst (v := lN 0) fx dX12_findChances_5 (by decide +kernel) ?_
  refine g_lstore (L' := [(7, .long (lN 0)), (5, .long (lN 0)), (3, .long (lN 0)), (0, .ref (ad 0)), (1, .int x), (2, .int y)]) fx dX12_findChances_6 (by decide) rfl ?_
  refine g_lconst (v := lN 0) fx dX12_findChances_8 (by decide +kernel) ?_
  refine g_lstore (L' := [(9, .long (lN 0)), (7, .long (lN 0)), (5, .long (lN 0)), (3, .long (lN 0)), (0, .ref (ad 0)), (1, .int x), (2, .int y)]) fx dX12_findChances_9 (by decide) rfl ?_
  refine g_lconst (v := lN 0) fx dX12_findChances_11 (by decide +kernel) ?_
  refine g_lstore (L' := [(11, .long (lN 0)), (9, .long (lN 0)), (7, .long (lN 0)), (5, .long (lN 0)), (3, .long (lN 0)), (0, .ref (ad 0)), (1, .int x), (2, .int y)]) fx dX12_findChances_12 (by decide) rfl ?_
  refine g_iload_n fx 6 dX12_findChances_14 rfl ?_
  refine g_aload_n fx 5 dX12_findChances_15 rfl ?_
  refine g_get (r := 0) fx lkX12_237 (by omega) h0 rfl dX12_findChances_16 ?_
  refine g_imul fx dX12_findChances_19 ?_
  refine g_iload_n fx 7 dX12_findChances_20 rfl ?_
  refine g_isub fx dX12_findChances_21 ?_
  refine g_callSip (As := [.int ((x * (f 13)) - y)]) (rest := []) fx slX12_253 (c_X12_sizeOf B ad ct n (x * f 13 - y)) rfl rfl (Nat.le_of_ble_eq_true rfl) ⟨by decide, by decide⟩ ⟨by decide, by decide⟩ dX12_findChances_22 (fun q1 hq1 => ?_)
  have haw : q1.toInt = ((tm * st - mid).natAbs : Int) := by
    have hp := mul_abs htm hstb
    rw [hq1]; exact sz_toInt (lin_toInt hx hst hy (by omega) hmid) (by omega)
  refine g_istore (L' := [(13, .int q1), (11, .long (lN 0)), (9, .long (lN 0)), (7, .long (lN 0)), (5, .long (lN 0)), (3, .long (lN 0)), (0, .ref (ad 0)), (1, .int x), (2, .int y)]) fx dX12_findChances_25 (by decide) rfl ?_
  refine g_iconst (v := nI 0) fx dX12_findChances_27 (by decide +kernel) ?_
  refine g_istore (L' := [(14, .int (nI 0)), (13, .int q1), (11, .long (lN 0)), (9, .long (lN 0)), (7, .long (lN 0)), (5, .long (lN 0)), (3, .long (lN 0)), (0, .ref (ad 0)), (1, .int x), (2, .int y)]) fx dX12_findChances_28 (by decide) rfl ?_
  have LP30 : ∀ (M : Nat) (k : Nat), (k ≤ S) →  (S - k) < M → G B 18 E ad ct n 0 0 [(0, .ref (ad 0)), (1, .int x), (2, .int y), (3, .long (lN (sumF (fcF tm mid st bs gb) k))), (5, .long (lN (sumF (fcL st bs gb) k))), (7, .long (lN (sumF (fcH st bs gb) k))), (9, .long (lN (sumF (fcJ st bs gb) k))), (11, .long (lN (sumF (gb) k))), (13, .int q1), (14, .int (nI k))] 30 [] := by
    intro M
    induction M with
    | zero => intro k _ hM; exact absurd hM (Nat.not_lt_zero _)
    | succ M ih =>
      intro k hk hM
      have ih30 := ih
      refine g_iload fx 9 dX12_findChances_30 rfl ?_
      refine g_aload_n fx 0 dX12_findChances_32 rfl ?_
      refine g_get (r := 0) fx lkX12_273 (by omega) h0 rfl dX12_findChances_33 ?_
      refine g_isi (y := nI S) hS ?_
      refine g_icmp_ge fx 160 dX12_findChances_36 (by decide) (fun c36 => ?_) (fun c36 => ?_)
      · skip
        have hkS : k = S := by have := (nI_leI (by omega) (by omega)).mp c36; omega
        refine g_relocal (L' := [(0, .ref (ad 0)), (1, .int x), (2, .int y), (3, .long (lN (sumF (fcF tm mid st bs gb) S))), (5, .long (lN (sumF (fcL st bs gb) S))), (7, .long (lN (sumF (fcH st bs gb) S))), (9, .long (lN (sumF (fcJ st bs gb) S))), (11, .long (lN (sumF (gb) S))), (13, .int q1), (14, .int (nI k))]) (by rw [hkS]) ?_
        refine g_aload_n fx 0 dX12_findChances_160 rfl ?_
        refine g_get (r := 0) fx lkX12_38 (by omega) h0 rfl dX12_findChances_161 ?_
        refine g_iconst (v := nI 0) fx dX12_findChances_164 (by decide +kernel) ?_
        refine g_lload_n fx 3 dX12_findChances_165 rfl ?_
        refine g_callSv (As := [.ref (ad 9), .int (nI 0), .long (lN (sumF (fcF tm mid st bs gb) S))]) (rest := []) fx slX12_127 (c_X12_set B ad ct n 9 0 160 gu (by omega) (by decide) (by decide) hu (sumF (fcF tm mid st bs gb) S) (hsle 0)) rfl rfl (Nat.le_of_ble_eq_true rfl) ⟨by decide, by decide⟩ ⟨by decide, by decide⟩ dX12_findChances_166 (fun cs1 hzs1 => ?_)
        obtain ⟨gu1, es1, hos1, hoks1, hvs1⟩ := hzs1
        have hfr : ∀ r, r ≠ 1 → r ≠ 2 → r ≠ 3 → r ≠ 4 → r ≠ 9 → r ≠ 10 → r ≠ 21 → cs1 r = ct r := fun r _ _ _ _ _ _ _ => (congrFun es1 r).trans ((va_up_ne _ _ (by assumption)).trans (hfr r (by assumption) (by assumption) (by assumption) (by assumption) (by assumption) (by assumption) (by assumption)))
        have h0 : cs1 0 = mObj ad f := (congrFun es1 _).trans ((va_up_ne _ _ (by omega)).trans h0)
        have hq : cs1 1 = .inl (B.2.1 0, 40, .inl (nF gq)) := (congrFun es1 _).trans ((va_up_ne _ _ (by omega)).trans hq)
        have hlf : cs1 2 = .inl (B.2.1 0, 40, .inl (nF gl)) := (congrFun es1 _).trans ((va_up_ne _ _ (by omega)).trans hlf)
        have ho : cs1 3 = .inl (B.2.1 0, 40, .inl (nF go)) := (congrFun es1 _).trans ((va_up_ne _ _ (by omega)).trans ho)
        have ht : cs1 4 = .inl (B.2.1 0, 40, .inl (nF gt)) := (congrFun es1 _).trans ((va_up_ne _ _ (by omega)).trans ht)
        have hu : cs1 9 = .inl (B.2.1 0, 160, .inl (nF gu1)) := by rw [es1, va_up_self]
        have hw : cs1 10 = .inl (B.2.1 0, 160, .inl (nF gw)) := (congrFun es1 _).trans ((va_up_ne _ _ (by omega)).trans hw)
        have hb : cs1 11 = .inl (B.2.1 1, 60001, .inr (.inl (lF gb))) := (congrFun es1 _).trans ((va_up_ne _ _ (by omega)).trans hb)
        have hwh : cs1 21 = .inl (B.2.1 0, 40, .inl (nF wh)) := (congrFun es1 _).trans ((va_up_ne _ _ (by omega)).trans hwh)
        refine g_aload_n fx 0 dX12_findChances_169 rfl ?_
        refine g_get (r := 0) fx lkX12_38 (by omega) h0 rfl dX12_findChances_170 ?_
        refine g_bipush (v := nI 40) fx dX12_findChances_173 (by decide +kernel) ?_
        refine g_lload fx 4 dX12_findChances_175 rfl ?_
        refine g_callSv (As := [.ref (ad 9), .int (nI 40), .long (lN (sumF (fcL st bs gb) S))]) (rest := []) fx slX12_127 (c_X12_set B ad cs1 n 9 40 160 gu1 (by omega) (by decide) (by decide) hu (sumF (fcL st bs gb) S) (hsle 1)) rfl rfl (Nat.le_of_ble_eq_true rfl) ⟨by decide, by decide⟩ ⟨by decide, by decide⟩ dX12_findChances_177 (fun cs2 hzs2 => ?_)
        obtain ⟨gu2, es2, hos2, hoks2, hvs2⟩ := hzs2
        have hfr : ∀ r, r ≠ 1 → r ≠ 2 → r ≠ 3 → r ≠ 4 → r ≠ 9 → r ≠ 10 → r ≠ 21 → cs2 r = ct r := fun r _ _ _ _ _ _ _ => (congrFun es2 r).trans ((va_up_ne _ _ (by assumption)).trans (hfr r (by assumption) (by assumption) (by assumption) (by assumption) (by assumption) (by assumption) (by assumption)))
        have h0 : cs2 0 = mObj ad f := (congrFun es2 _).trans ((va_up_ne _ _ (by omega)).trans h0)
        have hq : cs2 1 = .inl (B.2.1 0, 40, .inl (nF gq)) := (congrFun es2 _).trans ((va_up_ne _ _ (by omega)).trans hq)
        have hlf : cs2 2 = .inl (B.2.1 0, 40, .inl (nF gl)) := (congrFun es2 _).trans ((va_up_ne _ _ (by omega)).trans hlf)
        have ho : cs2 3 = .inl (B.2.1 0, 40, .inl (nF go)) := (congrFun es2 _).trans ((va_up_ne _ _ (by omega)).trans ho)
        have ht : cs2 4 = .inl (B.2.1 0, 40, .inl (nF gt)) := (congrFun es2 _).trans ((va_up_ne _ _ (by omega)).trans ht)
        have hu : cs2 9 = .inl (B.2.1 0, 160, .inl (nF gu2)) := by rw [es2, va_up_self]
        have hw : cs2 10 = .inl (B.2.1 0, 160, .inl (nF gw)) := (congrFun es2 _).trans ((va_up_ne _ _ (by omega)).trans hw)
        have hb : cs2 11 = .inl (B.2.1 1, 60001, .inr (.inl (lF gb))) := (congrFun es2 _).trans ((va_up_ne _ _ (by omega)).trans hb)
        have hwh : cs2 21 = .inl (B.2.1 0, 40, .inl (nF wh)) := (congrFun es2 _).trans ((va_up_ne _ _ (by omega)).trans hwh)
        refine g_aload_n fx 0 dX12_findChances_180 rfl ?_
        refine g_get (r := 0) fx lkX12_38 (by omega) h0 rfl dX12_findChances_181 ?_
        refine g_bipush (v := nI 80) fx dX12_findChances_184 (by decide +kernel) ?_
        refine g_lload fx 5 dX12_findChances_186 rfl ?_
        refine g_callSv (As := [.ref (ad 9), .int (nI 80), .long (lN (sumF (fcH st bs gb) S))]) (rest := []) fx slX12_127 (c_X12_set B ad cs2 n 9 80 160 gu2 (by omega) (by decide) (by decide) hu (sumF (fcH st bs gb) S) (hsle 2)) rfl rfl (Nat.le_of_ble_eq_true rfl) ⟨by decide, by decide⟩ ⟨by decide, by decide⟩ dX12_findChances_188 (fun cs3 hzs3 => ?_)
        obtain ⟨gu3, es3, hos3, hoks3, hvs3⟩ := hzs3
        have hfr : ∀ r, r ≠ 1 → r ≠ 2 → r ≠ 3 → r ≠ 4 → r ≠ 9 → r ≠ 10 → r ≠ 21 → cs3 r = ct r := fun r _ _ _ _ _ _ _ => (congrFun es3 r).trans ((va_up_ne _ _ (by assumption)).trans (hfr r (by assumption) (by assumption) (by assumption) (by assumption) (by assumption) (by assumption) (by assumption)))
        have h0 : cs3 0 = mObj ad f := (congrFun es3 _).trans ((va_up_ne _ _ (by omega)).trans h0)
        have hq : cs3 1 = .inl (B.2.1 0, 40, .inl (nF gq)) := (congrFun es3 _).trans ((va_up_ne _ _ (by omega)).trans hq)
        have hlf : cs3 2 = .inl (B.2.1 0, 40, .inl (nF gl)) := (congrFun es3 _).trans ((va_up_ne _ _ (by omega)).trans hlf)
        have ho : cs3 3 = .inl (B.2.1 0, 40, .inl (nF go)) := (congrFun es3 _).trans ((va_up_ne _ _ (by omega)).trans ho)
        have ht : cs3 4 = .inl (B.2.1 0, 40, .inl (nF gt)) := (congrFun es3 _).trans ((va_up_ne _ _ (by omega)).trans ht)
        have hu : cs3 9 = .inl (B.2.1 0, 160, .inl (nF gu3)) := by rw [es3, va_up_self]
        have hw : cs3 10 = .inl (B.2.1 0, 160, .inl (nF gw)) := (congrFun es3 _).trans ((va_up_ne _ _ (by omega)).trans hw)
        have hb : cs3 11 = .inl (B.2.1 1, 60001, .inr (.inl (lF gb))) := (congrFun es3 _).trans ((va_up_ne _ _ (by omega)).trans hb)
        have hwh : cs3 21 = .inl (B.2.1 0, 40, .inl (nF wh)) := (congrFun es3 _).trans ((va_up_ne _ _ (by omega)).trans hwh)
        refine g_aload_n fx 0 dX12_findChances_191 rfl ?_
        refine g_get (r := 0) fx lkX12_38 (by omega) h0 rfl dX12_findChances_192 ?_
        refine g_bipush (v := nI 120) fx dX12_findChances_195 (by decide +kernel) ?_
        refine g_lload fx 6 dX12_findChances_197 rfl ?_
        refine g_callSv (As := [.ref (ad 9), .int (nI 120), .long (lN (sumF (fcJ st bs gb) S))]) (rest := []) fx slX12_127 (c_X12_set B ad cs3 n 9 120 160 gu3 (by omega) (by decide) (by decide) hu (sumF (fcJ st bs gb) S) (hsle 3)) rfl rfl (Nat.le_of_ble_eq_true rfl) ⟨by decide, by decide⟩ ⟨by decide, by decide⟩ dX12_findChances_199 (fun cs4 hzs4 => ?_)
        obtain ⟨gu4, es4, hos4, hoks4, hvs4⟩ := hzs4
        have hfr : ∀ r, r ≠ 1 → r ≠ 2 → r ≠ 3 → r ≠ 4 → r ≠ 9 → r ≠ 10 → r ≠ 21 → cs4 r = ct r := fun r _ _ _ _ _ _ _ => (congrFun es4 r).trans ((va_up_ne _ _ (by assumption)).trans (hfr r (by assumption) (by assumption) (by assumption) (by assumption) (by assumption) (by assumption) (by assumption)))
        have h0 : cs4 0 = mObj ad f := (congrFun es4 _).trans ((va_up_ne _ _ (by omega)).trans h0)
        have hq : cs4 1 = .inl (B.2.1 0, 40, .inl (nF gq)) := (congrFun es4 _).trans ((va_up_ne _ _ (by omega)).trans hq)
        have hlf : cs4 2 = .inl (B.2.1 0, 40, .inl (nF gl)) := (congrFun es4 _).trans ((va_up_ne _ _ (by omega)).trans hlf)
        have ho : cs4 3 = .inl (B.2.1 0, 40, .inl (nF go)) := (congrFun es4 _).trans ((va_up_ne _ _ (by omega)).trans ho)
        have ht : cs4 4 = .inl (B.2.1 0, 40, .inl (nF gt)) := (congrFun es4 _).trans ((va_up_ne _ _ (by omega)).trans ht)
        have hu : cs4 9 = .inl (B.2.1 0, 160, .inl (nF gu4)) := by rw [es4, va_up_self]
        have hw : cs4 10 = .inl (B.2.1 0, 160, .inl (nF gw)) := (congrFun es4 _).trans ((va_up_ne _ _ (by omega)).trans hw)
        have hb : cs4 11 = .inl (B.2.1 1, 60001, .inr (.inl (lF gb))) := (congrFun es4 _).trans ((va_up_ne _ _ (by omega)).trans hb)
        have hwh : cs4 21 = .inl (B.2.1 0, 40, .inl (nF wh)) := (congrFun es4 _).trans ((va_up_ne _ _ (by omega)).trans hwh)
        refine g_aload_n fx 0 dX12_findChances_202 rfl ?_
        refine g_get (r := 0) fx lkX12_78 (by omega) h0 rfl dX12_findChances_203 ?_
        refine g_iconst (v := nI 0) fx dX12_findChances_206 (by decide +kernel) ?_
        refine g_lload fx 7 dX12_findChances_207 rfl ?_
        refine g_callSv (As := [.ref (ad 21), .int (nI 0), .long (lN (sumF (gb) S))]) (rest := []) fx slX12_127 (c_X12_set B ad cs4 n 21 0 40 wh (by omega) (by decide) (by decide) hwh (sumF (gb) S) hgl) rfl rfl (Nat.le_of_ble_eq_true rfl) ⟨by decide, by decide⟩ ⟨by decide, by decide⟩ dX12_findChances_209 (fun cs5 hzs5 => ?_)
        obtain ⟨wh1, es5, hos5, hoks5, hvs5⟩ := hzs5
        have hfr : ∀ r, r ≠ 1 → r ≠ 2 → r ≠ 3 → r ≠ 4 → r ≠ 9 → r ≠ 10 → r ≠ 21 → cs5 r = ct r := fun r _ _ _ _ _ _ _ => (congrFun es5 r).trans ((va_up_ne _ _ (by assumption)).trans (hfr r (by assumption) (by assumption) (by assumption) (by assumption) (by assumption) (by assumption) (by assumption)))
        have h0 : cs5 0 = mObj ad f := (congrFun es5 _).trans ((va_up_ne _ _ (by omega)).trans h0)
        have hq : cs5 1 = .inl (B.2.1 0, 40, .inl (nF gq)) := (congrFun es5 _).trans ((va_up_ne _ _ (by omega)).trans hq)
        have hlf : cs5 2 = .inl (B.2.1 0, 40, .inl (nF gl)) := (congrFun es5 _).trans ((va_up_ne _ _ (by omega)).trans hlf)
        have ho : cs5 3 = .inl (B.2.1 0, 40, .inl (nF go)) := (congrFun es5 _).trans ((va_up_ne _ _ (by omega)).trans ho)
        have ht : cs5 4 = .inl (B.2.1 0, 40, .inl (nF gt)) := (congrFun es5 _).trans ((va_up_ne _ _ (by omega)).trans ht)
        have hu : cs5 9 = .inl (B.2.1 0, 160, .inl (nF gu4)) := (congrFun es5 _).trans ((va_up_ne _ _ (by omega)).trans hu)
        have hw : cs5 10 = .inl (B.2.1 0, 160, .inl (nF gw)) := (congrFun es5 _).trans ((va_up_ne _ _ (by omega)).trans hw)
        have hb : cs5 11 = .inl (B.2.1 1, 60001, .inr (.inl (lF gb))) := (congrFun es5 _).trans ((va_up_ne _ _ (by omega)).trans hb)
        have hwh : cs5 21 = .inl (B.2.1 0, 40, .inl (nF wh1)) := by rw [es5, va_up_self]
        refine g_aload_n fx 0 dX12_findChances_212 rfl ?_
        refine g_aload_n fx 0 dX12_findChances_213 rfl ?_
        refine g_get (r := 0) fx lkX12_78 (by omega) h0 rfl dX12_findChances_214 ?_
        have hvU : ∀ t, t < 4 → okN gu4 (40 * t) ∧ nv gu4 (40 * t) = fcS tm mid st bs gb S t := fun t ht4 => by
          have h4 : t = 0 ∨ t = 1 ∨ t = 2 ∨ t = 3 := by omega
          rcases h4 with rfl | rfl | rfl | rfl
          · exact ⟨ok_out hos4 (by omega) (ok_out hos3 (by omega) (ok_out hos2 (by omega) hoks1)), (nv_out hos4 (by omega)).trans ((nv_out hos3 (by omega)).trans ((nv_out hos2 (by omega)).trans hvs1))⟩
          · exact ⟨ok_out hos4 (by omega) (ok_out hos3 (by omega) hoks2), (nv_out hos4 (by omega)).trans ((nv_out hos3 (by omega)).trans hvs2)⟩
          · exact ⟨ok_out hos4 (by omega) hoks3, (nv_out hos4 (by omega)).trans hvs3⟩
          · exact ⟨hoks4, hvs4⟩
        refine g_callVv (As := [.ref (ad 21)]) (rest := []) fx slX12_243 (c_X12_shorten B ad cs5 n f gq gl hn h0 hq hlf go gt ho ht gu4 gw wh1 hu hw hwh hoks5 (by rw [hvs5]; exact hgp) (by rw [hvs5]; exact w62 hgl) (fun t ht4 => (hvU t ht4).1) (fun t ht4 => by rw [(hvU t ht4).2]; exact w62 (hsle t))) (by omega) h0 rfl rfl rfl (Nat.le_of_ble_eq_true rfl) ⟨by decide, by decide⟩ ⟨by decide, by decide⟩ dX12_findChances_217 (fun cs6 hz6 => ?_)
        obtain ⟨gq9, gl9, go9, gt9, gu9, gw9, hq, hlf, ho, ht, hu, hw, hfin, hs6⟩ := hz6
        have hwh : cs6 21 = .inl (B.2.1 0, 40, .inl (nF wh1)) := (hs6 21 (by decide) (by decide) (by decide) (by decide) (by decide) (by decide)).trans hwh
        have hfr : ∀ r, r ≠ 1 → r ≠ 2 → r ≠ 3 → r ≠ 4 → r ≠ 9 → r ≠ 10 → r ≠ 21 → cs6 r = ct r := fun r q1 q2 q3 q4 q5 q6 q7 => (hs6 r q1 q2 q3 q4 q5 q6).trans (hfr r q1 q2 q3 q4 q5 q6 q7)
        refine g_vret fx rt dX12_findChances_220 ?_
        refine gPv.mk ⟨gq9, gl9, go9, gt9, gu9, gw9, wh1, hq, hlf, ho, ht, hu, hw, hwh, fun t ht4 => ?_, hfr⟩
        obtain ⟨p1, p2, p3, p4⟩ := hfin t ht4
        rw [(hvU t ht4).2, hvs5] at p3 p4
        exact ⟨p1, p2, p3, p4⟩
      · skip
        have hlt : k < S := (nI_ltI (by omega) (by omega)).mp (Int32.not_le.mp c36)
        have hgk : gb k < 2 ^ 62 := Nat.lt_of_le_of_lt (sumF_mem hlt) hgl
        refine g_aload_n fx 0 dX12_findChances_39 rfl ?_
        refine g_get (r := 0) fx lkX12_45 (by omega) h0 rfl dX12_findChances_40 ?_
        refine g_iload fx 9 dX12_findChances_43 rfl ?_
        refine g_lald (r := 11) (j := k) fx (by omega) hb (nI_toInt (by omega)) (by omega) dX12_findChances_45 ?_
        refine g_isl (y := lN (gb k)) rfl ?_
        refine g_lstore (L' := [(15, .long (lN (gb k))), (0, .ref (ad 0)), (1, .int x), (2, .int y), (3, .long (lN (sumF (fcF tm mid st bs gb) k))), (5, .long (lN (sumF (fcL st bs gb) k))), (7, .long (lN (sumF (fcH st bs gb) k))), (9, .long (lN (sumF (fcJ st bs gb) k))), (11, .long (lN (sumF (gb) k))), (13, .int q1), (14, .int (nI k))]) fx dX12_findChances_46 (by decide) rfl ?_
        refine g_lload fx 0 dX12_findChances_48 rfl ?_
        refine g_lconst (v := lN 0) fx dX12_findChances_50 (by decide +kernel) ?_
        refine g_lcmp fx dX12_findChances_51 ?_
        refine g_if_le fx 154 dX12_findChances_52 (by decide) (fun c52 => ?_) (fun c52 => ?_)
        · skip
          have hz : gb k = 0 := (l_le0 (by omega)).mp c52
          obtain ⟨z1, z2, z3, z4⟩ := fcs_z (tm := tm) (mid := mid) (st := st) (bs := bs) hz
          refine g_relocal (L' := [(15, .long (lN (gb k))), (0, .ref (ad 0)), (1, .int x), (2, .int y), (3, .long (lN (sumF (fcF tm mid st bs gb) k + fcF tm mid st bs gb k))), (5, .long (lN (sumF (fcL st bs gb) k + fcL st bs gb k))), (7, .long (lN (sumF (fcH st bs gb) k + fcH st bs gb k))), (9, .long (lN (sumF (fcJ st bs gb) k + fcJ st bs gb k))), (11, .long (lN (sumF (gb) k + gb k))), (13, .int q1), (14, .int (nI k))]) (by rw [z1, z2, z3, z4, hz]; rfl) ?_
          refine g_iinc (L' := [(14, .int (nI (k + 1))), (15, .long (lN (gb k))), (0, .ref (ad 0)), (1, .int x), (2, .int y), (3, .long (lN (sumF (fcF tm mid st bs gb) k + fcF tm mid st bs gb k))), (5, .long (lN (sumF (fcL st bs gb) k + fcL st bs gb k))), (7, .long (lN (sumF (fcH st bs gb) k + fcH st bs gb k))), (9, .long (lN (sumF (fcJ st bs gb) k + fcJ st bs gb k))), (11, .long (lN (sumF (gb) k + gb k))), (13, .int q1)]) fx (nI (k + 1)) 10 dX12_findChances_154 rfl (gInc _) (by decide) rfl ?_
          refine g_goto fx 30 dX12_findChances_157 (by decide) ?_
          refine g_locals (L' := [(0, .ref (ad 0)), (1, .int x), (2, .int y), (3, .long (lN (sumF (fcF tm mid st bs gb) k + fcF tm mid st bs gb k))), (5, .long (lN (sumF (fcL st bs gb) k + fcL st bs gb k))), (7, .long (lN (sumF (fcH st bs gb) k + fcH st bs gb k))), (9, .long (lN (sumF (fcJ st bs gb) k + fcJ st bs gb k))), (11, .long (lN (sumF (gb) k + gb k))), (13, .int q1), (14, .int (nI (k + 1)))]) [2, 3, 4, 5, 6, 7, 8, 9, 10, 0] rfl ?_
          exact ih30 (k + 1) (by omega) (by omega)
        · skip
          refine g_aload_n fx 1 dX12_findChances_55 rfl ?_
          refine g_get (r := 0) fx lkX12_276 (by omega) h0 rfl dX12_findChances_56 ?_
          refine g_iload fx 10 dX12_findChances_59 rfl ?_
          refine g_iadd fx dX12_findChances_61 ?_
          refine g_topi (fun sv esv => ?_)
          have hsv : sv.toInt = bs + (k : Int) := by rw [esv]; exact add_toInt hbs (nI_toInt (by omega)) (by omega)
          refine g_istore (L' := [(17, .int sv), (15, .long (lN (gb k))), (0, .ref (ad 0)), (1, .int x), (2, .int y), (3, .long (lN (sumF (fcF tm mid st bs gb) k))), (5, .long (lN (sumF (fcL st bs gb) k))), (7, .long (lN (sumF (fcH st bs gb) k))), (9, .long (lN (sumF (fcJ st bs gb) k))), (11, .long (lN (sumF (gb) k))), (13, .int q1), (14, .int (nI k))]) fx dX12_findChances_62 (by decide) rfl ?_
          refine g_lload fx 9 dX12_findChances_64 rfl ?_
          refine g_lload fx 1 dX12_findChances_66 rfl ?_
          refine g_ladd fx dX12_findChances_68 ?_
          refine g_isl (y := lN (sumF (gb) k + gb k)) (lN_add _ _) ?_
          refine g_lstore (L' := [(11, .long (lN (sumF (gb) k + gb k))), (17, .int sv), (15, .long (lN (gb k))), (0, .ref (ad 0)), (1, .int x), (2, .int y), (3, .long (lN (sumF (fcF tm mid st bs gb) k))), (5, .long (lN (sumF (fcL st bs gb) k))), (7, .long (lN (sumF (fcH st bs gb) k))), (9, .long (lN (sumF (fcJ st bs gb) k))), (13, .int q1), (14, .int (nI k))]) fx dX12_findChances_69 (by decide) rfl ?_
          refine g_lload_n fx 6 dX12_findChances_71 rfl ?_
          refine g_iload_n fx 4 dX12_findChances_72 rfl ?_
          refine g_iload fx 1 dX12_findChances_73 rfl ?_
          refine g_imul fx dX12_findChances_75 ?_
          refine g_iload_n fx 5 dX12_findChances_76 rfl ?_
          refine g_isub fx dX12_findChances_77 ?_
          refine g_callSip (As := [.int ((x * sv) - y)]) (rest := [.long (lN (sumF (fcF tm mid st bs gb) k))]) fx slX12_253 (c_X12_sizeOf B ad ct n (x * sv - y)) rfl rfl (Nat.le_of_ble_eq_true rfl) ⟨by decide, by decide⟩ ⟨by decide, by decide⟩ dX12_findChances_78 (fun q2 hq2 => ?_)
          have haz : q2.toInt = ((tm * (bs + (k : Int)) - mid).natAbs : Int) := by
            have hp := mul_abs (b := bs + (k : Int)) (y := 120001) htm (by omega)
            rw [hq2]; exact sz_toInt (lin_toInt hx hsv hy (by omega) hmid) (by omega)
          refine g_iload fx 10 dX12_findChances_81 rfl ?_
          refine g_icmp_lt fx 91 dX12_findChances_83 (by decide) (fun c83 => ?_) (fun c83 => ?_)
          · skip
            have hcF : ¬ (tm * st - mid).natAbs ≤ (tm * (bs + (k : Int)) - mid).natAbs := by rw [Int32.lt_iff_toInt_lt, haw, haz] at c83; omega
            refine g_lconst (v := lN 0) fx dX12_findChances_91 (by decide +kernel) ?_
            refine g_ladd fx dX12_findChances_92 ?_
            refine g_isl (y := lN (sumF (fcF tm mid st bs gb) k + fcF tm mid st bs gb k)) ((lN_add _ _).trans (by rw [show fcF tm mid st bs gb k = 0 from if_neg hcF])) ?_
            refine g_lstore_n (L' := [(3, .long (lN (sumF (fcF tm mid st bs gb) k + fcF tm mid st bs gb k))), (11, .long (lN (sumF (gb) k + gb k))), (17, .int sv), (15, .long (lN (gb k))), (0, .ref (ad 0)), (1, .int x), (2, .int y), (5, .long (lN (sumF (fcL st bs gb) k))), (7, .long (lN (sumF (fcH st bs gb) k))), (9, .long (lN (sumF (fcJ st bs gb) k))), (13, .int q1), (14, .int (nI k))]) fx dX12_findChances_93 (by decide) rfl ?_
            refine g_lload fx 7 dX12_findChances_94 rfl ?_
            refine g_iload fx 2 dX12_findChances_96 rfl ?_
            refine g_aload_n fx 4 dX12_findChances_98 rfl ?_
            refine g_get (r := 0) fx lkX12_237 (by omega) h0 rfl dX12_findChances_99 ?_
            refine g_icmp_gt fx 110 dX12_findChances_102 (by decide) (fun c102 => ?_) (fun c102 => ?_)
            · skip
              have hcL : ¬ (bs + (k : Int) ≤ st) := by have c102 := (show f 13 < sv from c102); rw [Int32.lt_iff_toInt_lt, hst, hsv] at c102; omega
              refine g_lconst (v := lN 0) fx dX12_findChances_110 (by decide +kernel) ?_
              refine g_ladd fx dX12_findChances_111 ?_
              refine g_isl (y := lN (sumF (fcL st bs gb) k + fcL st bs gb k)) ((lN_add _ _).trans (by rw [show fcL st bs gb k = 0 from if_neg hcL])) ?_
              refine g_lstore (L' := [(5, .long (lN (sumF (fcL st bs gb) k + fcL st bs gb k))), (3, .long (lN (sumF (fcF tm mid st bs gb) k + fcF tm mid st bs gb k))), (11, .long (lN (sumF (gb) k + gb k))), (17, .int sv), (15, .long (lN (gb k))), (0, .ref (ad 0)), (1, .int x), (2, .int y), (7, .long (lN (sumF (fcH st bs gb) k))), (9, .long (lN (sumF (fcJ st bs gb) k))), (13, .int q1), (14, .int (nI k))]) fx dX12_findChances_112 (by decide) rfl ?_
              refine g_lload fx 8 dX12_findChances_114 rfl ?_
              refine g_iload fx 3 dX12_findChances_116 rfl ?_
              refine g_aload_n fx 5 dX12_findChances_118 rfl ?_
              refine g_get (r := 0) fx lkX12_237 (by omega) h0 rfl dX12_findChances_119 ?_
              refine g_icmp_lt fx 130 dX12_findChances_122 (by decide) (fun c122 => ?_) (fun c122 => ?_)
              · skip
                have hcH : ¬ (st ≤ bs + (k : Int)) := by rw [Int32.lt_iff_toInt_lt, hst, hsv] at c122; omega
                refine g_lconst (v := lN 0) fx dX12_findChances_130 (by decide +kernel) ?_
                refine g_ladd fx dX12_findChances_131 ?_
                refine g_isl (y := lN (sumF (fcH st bs gb) k + fcH st bs gb k)) ((lN_add _ _).trans (by rw [show fcH st bs gb k = 0 from if_neg hcH])) ?_
                refine g_lstore (L' := [(7, .long (lN (sumF (fcH st bs gb) k + fcH st bs gb k))), (5, .long (lN (sumF (fcL st bs gb) k + fcL st bs gb k))), (3, .long (lN (sumF (fcF tm mid st bs gb) k + fcF tm mid st bs gb k))), (11, .long (lN (sumF (gb) k + gb k))), (17, .int sv), (15, .long (lN (gb k))), (0, .ref (ad 0)), (1, .int x), (2, .int y), (9, .long (lN (sumF (fcJ st bs gb) k))), (13, .int q1), (14, .int (nI k))]) fx dX12_findChances_132 (by decide) rfl ?_
                refine g_lload fx 9 dX12_findChances_134 rfl ?_
                refine g_iload fx 4 dX12_findChances_136 rfl ?_
                refine g_aload_n fx 6 dX12_findChances_138 rfl ?_
                refine g_get (r := 0) fx lkX12_237 (by omega) h0 rfl dX12_findChances_139 ?_
                refine g_icmp_ne fx 150 dX12_findChances_142 (by decide) (fun c142 => ?_) (fun c142 => ?_)
                · skip
                  have hcJ : ¬ (bs + (k : Int) = st) := fun w => c142 (Int32.toInt_inj.mp (by rw [hst, hsv, w]))
                  refine g_lconst (v := lN 0) fx dX12_findChances_150 (by decide +kernel) ?_
                  refine g_ladd fx dX12_findChances_151 ?_
                  refine g_isl (y := lN (sumF (fcJ st bs gb) k + fcJ st bs gb k)) ((lN_add _ _).trans (by rw [show fcJ st bs gb k = 0 from if_neg hcJ])) ?_
                  refine g_lstore (L' := [(9, .long (lN (sumF (fcJ st bs gb) k + fcJ st bs gb k))), (7, .long (lN (sumF (fcH st bs gb) k + fcH st bs gb k))), (5, .long (lN (sumF (fcL st bs gb) k + fcL st bs gb k))), (3, .long (lN (sumF (fcF tm mid st bs gb) k + fcF tm mid st bs gb k))), (11, .long (lN (sumF (gb) k + gb k))), (17, .int sv), (15, .long (lN (gb k))), (0, .ref (ad 0)), (1, .int x), (2, .int y), (13, .int q1), (14, .int (nI k))]) fx dX12_findChances_152 (by decide) rfl ?_
                  refine g_iinc (L' := [(14, .int (nI (k + 1))), (9, .long (lN (sumF (fcJ st bs gb) k + fcJ st bs gb k))), (7, .long (lN (sumF (fcH st bs gb) k + fcH st bs gb k))), (5, .long (lN (sumF (fcL st bs gb) k + fcL st bs gb k))), (3, .long (lN (sumF (fcF tm mid st bs gb) k + fcF tm mid st bs gb k))), (11, .long (lN (sumF (gb) k + gb k))), (17, .int sv), (15, .long (lN (gb k))), (0, .ref (ad 0)), (1, .int x), (2, .int y), (13, .int q1)]) fx (nI (k + 1)) 11 dX12_findChances_154 rfl (gInc _) (by decide) rfl ?_
                  refine g_goto fx 30 dX12_findChances_157 (by decide) ?_
                  refine g_locals (L' := [(0, .ref (ad 0)), (1, .int x), (2, .int y), (3, .long (lN (sumF (fcF tm mid st bs gb) k + fcF tm mid st bs gb k))), (5, .long (lN (sumF (fcL st bs gb) k + fcL st bs gb k))), (7, .long (lN (sumF (fcH st bs gb) k + fcH st bs gb k))), (9, .long (lN (sumF (fcJ st bs gb) k + fcJ st bs gb k))), (11, .long (lN (sumF (gb) k + gb k))), (13, .int q1), (14, .int (nI (k + 1)))]) [8, 9, 10, 4, 3, 2, 1, 5, 11, 0] rfl ?_
                  exact ih30 (k + 1) (by omega) (by omega)
                · skip
                  have hcJ : bs + (k : Int) = st := by rw [← hsv, ← hst, c142]
                  refine g_lload fx 5 dX12_findChances_145 rfl ?_
                  refine g_goto fx 151 dX12_findChances_147 (by decide) ?_
                  refine g_ladd fx dX12_findChances_151 ?_
                  refine g_isl (y := lN (sumF (fcJ st bs gb) k + fcJ st bs gb k)) ((lN_add _ _).trans (by rw [show fcJ st bs gb k = gb k from if_pos hcJ])) ?_
                  refine g_lstore (L' := [(9, .long (lN (sumF (fcJ st bs gb) k + fcJ st bs gb k))), (7, .long (lN (sumF (fcH st bs gb) k + fcH st bs gb k))), (5, .long (lN (sumF (fcL st bs gb) k + fcL st bs gb k))), (3, .long (lN (sumF (fcF tm mid st bs gb) k + fcF tm mid st bs gb k))), (11, .long (lN (sumF (gb) k + gb k))), (17, .int sv), (15, .long (lN (gb k))), (0, .ref (ad 0)), (1, .int x), (2, .int y), (13, .int q1), (14, .int (nI k))]) fx dX12_findChances_152 (by decide) rfl ?_
                  refine g_iinc (L' := [(14, .int (nI (k + 1))), (9, .long (lN (sumF (fcJ st bs gb) k + fcJ st bs gb k))), (7, .long (lN (sumF (fcH st bs gb) k + fcH st bs gb k))), (5, .long (lN (sumF (fcL st bs gb) k + fcL st bs gb k))), (3, .long (lN (sumF (fcF tm mid st bs gb) k + fcF tm mid st bs gb k))), (11, .long (lN (sumF (gb) k + gb k))), (17, .int sv), (15, .long (lN (gb k))), (0, .ref (ad 0)), (1, .int x), (2, .int y), (13, .int q1)]) fx (nI (k + 1)) 11 dX12_findChances_154 rfl (gInc _) (by decide) rfl ?_
                  refine g_goto fx 30 dX12_findChances_157 (by decide) ?_
                  refine g_locals (L' := [(0, .ref (ad 0)), (1, .int x), (2, .int y), (3, .long (lN (sumF (fcF tm mid st bs gb) k + fcF tm mid st bs gb k))), (5, .long (lN (sumF (fcL st bs gb) k + fcL st bs gb k))), (7, .long (lN (sumF (fcH st bs gb) k + fcH st bs gb k))), (9, .long (lN (sumF (fcJ st bs gb) k + fcJ st bs gb k))), (11, .long (lN (sumF (gb) k + gb k))), (13, .int q1), (14, .int (nI (k + 1)))]) [8, 9, 10, 4, 3, 2, 1, 5, 11, 0] rfl ?_
                  exact ih30 (k + 1) (by omega) (by omega)
              · skip
                have hcH : st ≤ bs + (k : Int) := by have c122 := Int32.not_lt.mp c122; rw [Int32.le_iff_toInt_le, hst, hsv] at c122; omega
                refine g_lload fx 4 dX12_findChances_125 rfl ?_
                refine g_goto fx 131 dX12_findChances_127 (by decide) ?_
                refine g_ladd fx dX12_findChances_131 ?_
                refine g_isl (y := lN (sumF (fcH st bs gb) k + fcH st bs gb k)) ((lN_add _ _).trans (by rw [show fcH st bs gb k = gb k from if_pos hcH])) ?_
                refine g_lstore (L' := [(7, .long (lN (sumF (fcH st bs gb) k + fcH st bs gb k))), (5, .long (lN (sumF (fcL st bs gb) k + fcL st bs gb k))), (3, .long (lN (sumF (fcF tm mid st bs gb) k + fcF tm mid st bs gb k))), (11, .long (lN (sumF (gb) k + gb k))), (17, .int sv), (15, .long (lN (gb k))), (0, .ref (ad 0)), (1, .int x), (2, .int y), (9, .long (lN (sumF (fcJ st bs gb) k))), (13, .int q1), (14, .int (nI k))]) fx dX12_findChances_132 (by decide) rfl ?_
                refine g_lload fx 9 dX12_findChances_134 rfl ?_
                refine g_iload fx 4 dX12_findChances_136 rfl ?_
                refine g_aload_n fx 6 dX12_findChances_138 rfl ?_
                refine g_get (r := 0) fx lkX12_237 (by omega) h0 rfl dX12_findChances_139 ?_
                refine g_icmp_ne fx 150 dX12_findChances_142 (by decide) (fun c142 => ?_) (fun c142 => ?_)
                · skip
                  have hcJ : ¬ (bs + (k : Int) = st) := fun w => c142 (Int32.toInt_inj.mp (by rw [hst, hsv, w]))
                  refine g_lconst (v := lN 0) fx dX12_findChances_150 (by decide +kernel) ?_
                  refine g_ladd fx dX12_findChances_151 ?_
                  refine g_isl (y := lN (sumF (fcJ st bs gb) k + fcJ st bs gb k)) ((lN_add _ _).trans (by rw [show fcJ st bs gb k = 0 from if_neg hcJ])) ?_
                  refine g_lstore (L' := [(9, .long (lN (sumF (fcJ st bs gb) k + fcJ st bs gb k))), (7, .long (lN (sumF (fcH st bs gb) k + fcH st bs gb k))), (5, .long (lN (sumF (fcL st bs gb) k + fcL st bs gb k))), (3, .long (lN (sumF (fcF tm mid st bs gb) k + fcF tm mid st bs gb k))), (11, .long (lN (sumF (gb) k + gb k))), (17, .int sv), (15, .long (lN (gb k))), (0, .ref (ad 0)), (1, .int x), (2, .int y), (13, .int q1), (14, .int (nI k))]) fx dX12_findChances_152 (by decide) rfl ?_
                  refine g_iinc (L' := [(14, .int (nI (k + 1))), (9, .long (lN (sumF (fcJ st bs gb) k + fcJ st bs gb k))), (7, .long (lN (sumF (fcH st bs gb) k + fcH st bs gb k))), (5, .long (lN (sumF (fcL st bs gb) k + fcL st bs gb k))), (3, .long (lN (sumF (fcF tm mid st bs gb) k + fcF tm mid st bs gb k))), (11, .long (lN (sumF (gb) k + gb k))), (17, .int sv), (15, .long (lN (gb k))), (0, .ref (ad 0)), (1, .int x), (2, .int y), (13, .int q1)]) fx (nI (k + 1)) 11 dX12_findChances_154 rfl (gInc _) (by decide) rfl ?_
                  refine g_goto fx 30 dX12_findChances_157 (by decide) ?_
                  refine g_locals (L' := [(0, .ref (ad 0)), (1, .int x), (2, .int y), (3, .long (lN (sumF (fcF tm mid st bs gb) k + fcF tm mid st bs gb k))), (5, .long (lN (sumF (fcL st bs gb) k + fcL st bs gb k))), (7, .long (lN (sumF (fcH st bs gb) k + fcH st bs gb k))), (9, .long (lN (sumF (fcJ st bs gb) k + fcJ st bs gb k))), (11, .long (lN (sumF (gb) k + gb k))), (13, .int q1), (14, .int (nI (k + 1)))]) [8, 9, 10, 4, 3, 2, 1, 5, 11, 0] rfl ?_
                  exact ih30 (k + 1) (by omega) (by omega)
                · skip
                  have hcJ : bs + (k : Int) = st := by rw [← hsv, ← hst, c142]
                  refine g_lload fx 5 dX12_findChances_145 rfl ?_
                  refine g_goto fx 151 dX12_findChances_147 (by decide) ?_
                  refine g_ladd fx dX12_findChances_151 ?_
                  refine g_isl (y := lN (sumF (fcJ st bs gb) k + fcJ st bs gb k)) ((lN_add _ _).trans (by rw [show fcJ st bs gb k = gb k from if_pos hcJ])) ?_
                  refine g_lstore (L' := [(9, .long (lN (sumF (fcJ st bs gb) k + fcJ st bs gb k))), (7, .long (lN (sumF (fcH st bs gb) k + fcH st bs gb k))), (5, .long (lN (sumF (fcL st bs gb) k + fcL st bs gb k))), (3, .long (lN (sumF (fcF tm mid st bs gb) k + fcF tm mid st bs gb k))), (11, .long (lN (sumF (gb) k + gb k))), (17, .int sv), (15, .long (lN (gb k))), (0, .ref (ad 0)), (1, .int x), (2, .int y), (13, .int q1), (14, .int (nI k))]) fx dX12_findChances_152 (by decide) rfl ?_
                  refine g_iinc (L' := [(14, .int (nI (k + 1))), (9, .long (lN (sumF (fcJ st bs gb) k + fcJ st bs gb k))), (7, .long (lN (sumF (fcH st bs gb) k + fcH st bs gb k))), (5, .long (lN (sumF (fcL st bs gb) k + fcL st bs gb k))), (3, .long (lN (sumF (fcF tm mid st bs gb) k + fcF tm mid st bs gb k))), (11, .long (lN (sumF (gb) k + gb k))), (17, .int sv), (15, .long (lN (gb k))), (0, .ref (ad 0)), (1, .int x), (2, .int y), (13, .int q1)]) fx (nI (k + 1)) 11 dX12_findChances_154 rfl (gInc _) (by decide) rfl ?_
                  refine g_goto fx 30 dX12_findChances_157 (by decide) ?_
                  refine g_locals (L' := [(0, .ref (ad 0)), (1, .int x), (2, .int y), (3, .long (lN (sumF (fcF tm mid st bs gb) k + fcF tm mid st bs gb k))), (5, .long (lN (sumF (fcL st bs gb) k + fcL st bs gb k))), (7, .long (lN (sumF (fcH st bs gb) k + fcH st bs gb k))), (9, .long (lN (sumF (fcJ st bs gb) k + fcJ st bs gb k))), (11, .long (lN (sumF (gb) k + gb k))), (13, .int q1), (14, .int (nI (k + 1)))]) [8, 9, 10, 4, 3, 2, 1, 5, 11, 0] rfl ?_
                  exact ih30 (k + 1) (by omega) (by omega)
            · skip
              have hcL : bs + (k : Int) ≤ st := by have c102 := Int32.not_lt.mp c102; rw [Int32.le_iff_toInt_le, hst, hsv] at c102; omega
              refine g_lload fx 3 dX12_findChances_105 rfl ?_
              refine g_goto fx 111 dX12_findChances_107 (by decide) ?_
              refine g_ladd fx dX12_findChances_111 ?_
              refine g_isl (y := lN (sumF (fcL st bs gb) k + fcL st bs gb k)) ((lN_add _ _).trans (by rw [show fcL st bs gb k = gb k from if_pos hcL])) ?_
              refine g_lstore (L' := [(5, .long (lN (sumF (fcL st bs gb) k + fcL st bs gb k))), (3, .long (lN (sumF (fcF tm mid st bs gb) k + fcF tm mid st bs gb k))), (11, .long (lN (sumF (gb) k + gb k))), (17, .int sv), (15, .long (lN (gb k))), (0, .ref (ad 0)), (1, .int x), (2, .int y), (7, .long (lN (sumF (fcH st bs gb) k))), (9, .long (lN (sumF (fcJ st bs gb) k))), (13, .int q1), (14, .int (nI k))]) fx dX12_findChances_112 (by decide) rfl ?_
              refine g_lload fx 8 dX12_findChances_114 rfl ?_
              refine g_iload fx 3 dX12_findChances_116 rfl ?_
              refine g_aload_n fx 5 dX12_findChances_118 rfl ?_
              refine g_get (r := 0) fx lkX12_237 (by omega) h0 rfl dX12_findChances_119 ?_
              refine g_icmp_lt fx 130 dX12_findChances_122 (by decide) (fun c122 => ?_) (fun c122 => ?_)
              · skip
                have hcH : ¬ (st ≤ bs + (k : Int)) := by rw [Int32.lt_iff_toInt_lt, hst, hsv] at c122; omega
                refine g_lconst (v := lN 0) fx dX12_findChances_130 (by decide +kernel) ?_
                refine g_ladd fx dX12_findChances_131 ?_
                refine g_isl (y := lN (sumF (fcH st bs gb) k + fcH st bs gb k)) ((lN_add _ _).trans (by rw [show fcH st bs gb k = 0 from if_neg hcH])) ?_
                refine g_lstore (L' := [(7, .long (lN (sumF (fcH st bs gb) k + fcH st bs gb k))), (5, .long (lN (sumF (fcL st bs gb) k + fcL st bs gb k))), (3, .long (lN (sumF (fcF tm mid st bs gb) k + fcF tm mid st bs gb k))), (11, .long (lN (sumF (gb) k + gb k))), (17, .int sv), (15, .long (lN (gb k))), (0, .ref (ad 0)), (1, .int x), (2, .int y), (9, .long (lN (sumF (fcJ st bs gb) k))), (13, .int q1), (14, .int (nI k))]) fx dX12_findChances_132 (by decide) rfl ?_
                refine g_lload fx 9 dX12_findChances_134 rfl ?_
                refine g_iload fx 4 dX12_findChances_136 rfl ?_
                refine g_aload_n fx 6 dX12_findChances_138 rfl ?_
                refine g_get (r := 0) fx lkX12_237 (by omega) h0 rfl dX12_findChances_139 ?_
                refine g_icmp_ne fx 150 dX12_findChances_142 (by decide) (fun c142 => ?_) (fun c142 => ?_)
                · skip
                  have hcJ : ¬ (bs + (k : Int) = st) := fun w => c142 (Int32.toInt_inj.mp (by rw [hst, hsv, w]))
                  refine g_lconst (v := lN 0) fx dX12_findChances_150 (by decide +kernel) ?_
                  refine g_ladd fx dX12_findChances_151 ?_
                  refine g_isl (y := lN (sumF (fcJ st bs gb) k + fcJ st bs gb k)) ((lN_add _ _).trans (by rw [show fcJ st bs gb k = 0 from if_neg hcJ])) ?_
                  refine g_lstore (L' := [(9, .long (lN (sumF (fcJ st bs gb) k + fcJ st bs gb k))), (7, .long (lN (sumF (fcH st bs gb) k + fcH st bs gb k))), (5, .long (lN (sumF (fcL st bs gb) k + fcL st bs gb k))), (3, .long (lN (sumF (fcF tm mid st bs gb) k + fcF tm mid st bs gb k))), (11, .long (lN (sumF (gb) k + gb k))), (17, .int sv), (15, .long (lN (gb k))), (0, .ref (ad 0)), (1, .int x), (2, .int y), (13, .int q1), (14, .int (nI k))]) fx dX12_findChances_152 (by decide) rfl ?_
                  refine g_iinc (L' := [(14, .int (nI (k + 1))), (9, .long (lN (sumF (fcJ st bs gb) k + fcJ st bs gb k))), (7, .long (lN (sumF (fcH st bs gb) k + fcH st bs gb k))), (5, .long (lN (sumF (fcL st bs gb) k + fcL st bs gb k))), (3, .long (lN (sumF (fcF tm mid st bs gb) k + fcF tm mid st bs gb k))), (11, .long (lN (sumF (gb) k + gb k))), (17, .int sv), (15, .long (lN (gb k))), (0, .ref (ad 0)), (1, .int x), (2, .int y), (13, .int q1)]) fx (nI (k + 1)) 11 dX12_findChances_154 rfl (gInc _) (by decide) rfl ?_
                  refine g_goto fx 30 dX12_findChances_157 (by decide) ?_
                  refine g_locals (L' := [(0, .ref (ad 0)), (1, .int x), (2, .int y), (3, .long (lN (sumF (fcF tm mid st bs gb) k + fcF tm mid st bs gb k))), (5, .long (lN (sumF (fcL st bs gb) k + fcL st bs gb k))), (7, .long (lN (sumF (fcH st bs gb) k + fcH st bs gb k))), (9, .long (lN (sumF (fcJ st bs gb) k + fcJ st bs gb k))), (11, .long (lN (sumF (gb) k + gb k))), (13, .int q1), (14, .int (nI (k + 1)))]) [8, 9, 10, 4, 3, 2, 1, 5, 11, 0] rfl ?_
                  exact ih30 (k + 1) (by omega) (by omega)
                · skip
                  have hcJ : bs + (k : Int) = st := by rw [← hsv, ← hst, c142]
                  refine g_lload fx 5 dX12_findChances_145 rfl ?_
                  refine g_goto fx 151 dX12_findChances_147 (by decide) ?_
                  refine g_ladd fx dX12_findChances_151 ?_
                  refine g_isl (y := lN (sumF (fcJ st bs gb) k + fcJ st bs gb k)) ((lN_add _ _).trans (by rw [show fcJ st bs gb k = gb k from if_pos hcJ])) ?_
                  refine g_lstore (L' := [(9, .long (lN (sumF (fcJ st bs gb) k + fcJ st bs gb k))), (7, .long (lN (sumF (fcH st bs gb) k + fcH st bs gb k))), (5, .long (lN (sumF (fcL st bs gb) k + fcL st bs gb k))), (3, .long (lN (sumF (fcF tm mid st bs gb) k + fcF tm mid st bs gb k))), (11, .long (lN (sumF (gb) k + gb k))), (17, .int sv), (15, .long (lN (gb k))), (0, .ref (ad 0)), (1, .int x), (2, .int y), (13, .int q1), (14, .int (nI k))]) fx dX12_findChances_152 (by decide) rfl ?_
                  refine g_iinc (L' := [(14, .int (nI (k + 1))), (9, .long (lN (sumF (fcJ st bs gb) k + fcJ st bs gb k))), (7, .long (lN (sumF (fcH st bs gb) k + fcH st bs gb k))), (5, .long (lN (sumF (fcL st bs gb) k + fcL st bs gb k))), (3, .long (lN (sumF (fcF tm mid st bs gb) k + fcF tm mid st bs gb k))), (11, .long (lN (sumF (gb) k + gb k))), (17, .int sv), (15, .long (lN (gb k))), (0, .ref (ad 0)), (1, .int x), (2, .int y), (13, .int q1)]) fx (nI (k + 1)) 11 dX12_findChances_154 rfl (gInc _) (by decide) rfl ?_
                  refine g_goto fx 30 dX12_findChances_157 (by decide) ?_
                  refine g_locals (L' := [(0, .ref (ad 0)), (1, .int x), (2, .int y), (3, .long (lN (sumF (fcF tm mid st bs gb) k + fcF tm mid st bs gb k))), (5, .long (lN (sumF (fcL st bs gb) k + fcL st bs gb k))), (7, .long (lN (sumF (fcH st bs gb) k + fcH st bs gb k))), (9, .long (lN (sumF (fcJ st bs gb) k + fcJ st bs gb k))), (11, .long (lN (sumF (gb) k + gb k))), (13, .int q1), (14, .int (nI (k + 1)))]) [8, 9, 10, 4, 3, 2, 1, 5, 11, 0] rfl ?_
                  exact ih30 (k + 1) (by omega) (by omega)
              · skip
                have hcH : st ≤ bs + (k : Int) := by have c122 := Int32.not_lt.mp c122; rw [Int32.le_iff_toInt_le, hst, hsv] at c122; omega
                refine g_lload fx 4 dX12_findChances_125 rfl ?_
                refine g_goto fx 131 dX12_findChances_127 (by decide) ?_
                refine g_ladd fx dX12_findChances_131 ?_
                refine g_isl (y := lN (sumF (fcH st bs gb) k + fcH st bs gb k)) ((lN_add _ _).trans (by rw [show fcH st bs gb k = gb k from if_pos hcH])) ?_
                refine g_lstore (L' := [(7, .long (lN (sumF (fcH st bs gb) k + fcH st bs gb k))), (5, .long (lN (sumF (fcL st bs gb) k + fcL st bs gb k))), (3, .long (lN (sumF (fcF tm mid st bs gb) k + fcF tm mid st bs gb k))), (11, .long (lN (sumF (gb) k + gb k))), (17, .int sv), (15, .long (lN (gb k))), (0, .ref (ad 0)), (1, .int x), (2, .int y), (9, .long (lN (sumF (fcJ st bs gb) k))), (13, .int q1), (14, .int (nI k))]) fx dX12_findChances_132 (by decide) rfl ?_
                refine g_lload fx 9 dX12_findChances_134 rfl ?_
                refine g_iload fx 4 dX12_findChances_136 rfl ?_
                refine g_aload_n fx 6 dX12_findChances_138 rfl ?_
                refine g_get (r := 0) fx lkX12_237 (by omega) h0 rfl dX12_findChances_139 ?_
                refine g_icmp_ne fx 150 dX12_findChances_142 (by decide) (fun c142 => ?_) (fun c142 => ?_)
                · skip
                  have hcJ : ¬ (bs + (k : Int) = st) := fun w => c142 (Int32.toInt_inj.mp (by rw [hst, hsv, w]))
                  refine g_lconst (v := lN 0) fx dX12_findChances_150 (by decide +kernel) ?_
                  refine g_ladd fx dX12_findChances_151 ?_
                  refine g_isl (y := lN (sumF (fcJ st bs gb) k + fcJ st bs gb k)) ((lN_add _ _).trans (by rw [show fcJ st bs gb k = 0 from if_neg hcJ])) ?_
                  refine g_lstore (L' := [(9, .long (lN (sumF (fcJ st bs gb) k + fcJ st bs gb k))), (7, .long (lN (sumF (fcH st bs gb) k + fcH st bs gb k))), (5, .long (lN (sumF (fcL st bs gb) k + fcL st bs gb k))), (3, .long (lN (sumF (fcF tm mid st bs gb) k + fcF tm mid st bs gb k))), (11, .long (lN (sumF (gb) k + gb k))), (17, .int sv), (15, .long (lN (gb k))), (0, .ref (ad 0)), (1, .int x), (2, .int y), (13, .int q1), (14, .int (nI k))]) fx dX12_findChances_152 (by decide) rfl ?_
                  refine g_iinc (L' := [(14, .int (nI (k + 1))), (9, .long (lN (sumF (fcJ st bs gb) k + fcJ st bs gb k))), (7, .long (lN (sumF (fcH st bs gb) k + fcH st bs gb k))), (5, .long (lN (sumF (fcL st bs gb) k + fcL st bs gb k))), (3, .long (lN (sumF (fcF tm mid st bs gb) k + fcF tm mid st bs gb k))), (11, .long (lN (sumF (gb) k + gb k))), (17, .int sv), (15, .long (lN (gb k))), (0, .ref (ad 0)), (1, .int x), (2, .int y), (13, .int q1)]) fx (nI (k + 1)) 11 dX12_findChances_154 rfl (gInc _) (by decide) rfl ?_
                  refine g_goto fx 30 dX12_findChances_157 (by decide) ?_
                  refine g_locals (L' := [(0, .ref (ad 0)), (1, .int x), (2, .int y), (3, .long (lN (sumF (fcF tm mid st bs gb) k + fcF tm mid st bs gb k))), (5, .long (lN (sumF (fcL st bs gb) k + fcL st bs gb k))), (7, .long (lN (sumF (fcH st bs gb) k + fcH st bs gb k))), (9, .long (lN (sumF (fcJ st bs gb) k + fcJ st bs gb k))), (11, .long (lN (sumF (gb) k + gb k))), (13, .int q1), (14, .int (nI (k + 1)))]) [8, 9, 10, 4, 3, 2, 1, 5, 11, 0] rfl ?_
                  exact ih30 (k + 1) (by omega) (by omega)
                · skip
                  have hcJ : bs + (k : Int) = st := by rw [← hsv, ← hst, c142]
                  refine g_lload fx 5 dX12_findChances_145 rfl ?_
                  refine g_goto fx 151 dX12_findChances_147 (by decide) ?_
                  refine g_ladd fx dX12_findChances_151 ?_
                  refine g_isl (y := lN (sumF (fcJ st bs gb) k + fcJ st bs gb k)) ((lN_add _ _).trans (by rw [show fcJ st bs gb k = gb k from if_pos hcJ])) ?_
                  refine g_lstore (L' := [(9, .long (lN (sumF (fcJ st bs gb) k + fcJ st bs gb k))), (7, .long (lN (sumF (fcH st bs gb) k + fcH st bs gb k))), (5, .long (lN (sumF (fcL st bs gb) k + fcL st bs gb k))), (3, .long (lN (sumF (fcF tm mid st bs gb) k + fcF tm mid st bs gb k))), (11, .long (lN (sumF (gb) k + gb k))), (17, .int sv), (15, .long (lN (gb k))), (0, .ref (ad 0)), (1, .int x), (2, .int y), (13, .int q1), (14, .int (nI k))]) fx dX12_findChances_152 (by decide) rfl ?_
                  refine g_iinc (L' := [(14, .int (nI (k + 1))), (9, .long (lN (sumF (fcJ st bs gb) k + fcJ st bs gb k))), (7, .long (lN (sumF (fcH st bs gb) k + fcH st bs gb k))), (5, .long (lN (sumF (fcL st bs gb) k + fcL st bs gb k))), (3, .long (lN (sumF (fcF tm mid st bs gb) k + fcF tm mid st bs gb k))), (11, .long (lN (sumF (gb) k + gb k))), (17, .int sv), (15, .long (lN (gb k))), (0, .ref (ad 0)), (1, .int x), (2, .int y), (13, .int q1)]) fx (nI (k + 1)) 11 dX12_findChances_154 rfl (gInc _) (by decide) rfl ?_
                  refine g_goto fx 30 dX12_findChances_157 (by decide) ?_
                  refine g_locals (L' := [(0, .ref (ad 0)), (1, .int x), (2, .int y), (3, .long (lN (sumF (fcF tm mid st bs gb) k + fcF tm mid st bs gb k))), (5, .long (lN (sumF (fcL st bs gb) k + fcL st bs gb k))), (7, .long (lN (sumF (fcH st bs gb) k + fcH st bs gb k))), (9, .long (lN (sumF (fcJ st bs gb) k + fcJ st bs gb k))), (11, .long (lN (sumF (gb) k + gb k))), (13, .int q1), (14, .int (nI (k + 1)))]) [8, 9, 10, 4, 3, 2, 1, 5, 11, 0] rfl ?_
                  exact ih30 (k + 1) (by omega) (by omega)
          · skip
            have hcF : (tm * st - mid).natAbs ≤ (tm * (bs + (k : Int)) - mid).natAbs := by have c83 := Int32.not_lt.mp c83; rw [Int32.le_iff_toInt_le, haw, haz] at c83; omega
            refine g_lload fx 2 dX12_findChances_86 rfl ?_
            refine g_goto fx 92 dX12_findChances_88 (by decide) ?_
            refine g_ladd fx dX12_findChances_92 ?_
            refine g_isl (y := lN (sumF (fcF tm mid st bs gb) k + fcF tm mid st bs gb k)) ((lN_add _ _).trans (by rw [show fcF tm mid st bs gb k = gb k from if_pos hcF])) ?_
            refine g_lstore_n (L' := [(3, .long (lN (sumF (fcF tm mid st bs gb) k + fcF tm mid st bs gb k))), (11, .long (lN (sumF (gb) k + gb k))), (17, .int sv), (15, .long (lN (gb k))), (0, .ref (ad 0)), (1, .int x), (2, .int y), (5, .long (lN (sumF (fcL st bs gb) k))), (7, .long (lN (sumF (fcH st bs gb) k))), (9, .long (lN (sumF (fcJ st bs gb) k))), (13, .int q1), (14, .int (nI k))]) fx dX12_findChances_93 (by decide) rfl ?_
            refine g_lload fx 7 dX12_findChances_94 rfl ?_
            refine g_iload fx 2 dX12_findChances_96 rfl ?_
            refine g_aload_n fx 4 dX12_findChances_98 rfl ?_
            refine g_get (r := 0) fx lkX12_237 (by omega) h0 rfl dX12_findChances_99 ?_
            refine g_icmp_gt fx 110 dX12_findChances_102 (by decide) (fun c102 => ?_) (fun c102 => ?_)
            · skip
              have hcL : ¬ (bs + (k : Int) ≤ st) := by have c102 := (show f 13 < sv from c102); rw [Int32.lt_iff_toInt_lt, hst, hsv] at c102; omega
              refine g_lconst (v := lN 0) fx dX12_findChances_110 (by decide +kernel) ?_
              refine g_ladd fx dX12_findChances_111 ?_
              refine g_isl (y := lN (sumF (fcL st bs gb) k + fcL st bs gb k)) ((lN_add _ _).trans (by rw [show fcL st bs gb k = 0 from if_neg hcL])) ?_
              refine g_lstore (L' := [(5, .long (lN (sumF (fcL st bs gb) k + fcL st bs gb k))), (3, .long (lN (sumF (fcF tm mid st bs gb) k + fcF tm mid st bs gb k))), (11, .long (lN (sumF (gb) k + gb k))), (17, .int sv), (15, .long (lN (gb k))), (0, .ref (ad 0)), (1, .int x), (2, .int y), (7, .long (lN (sumF (fcH st bs gb) k))), (9, .long (lN (sumF (fcJ st bs gb) k))), (13, .int q1), (14, .int (nI k))]) fx dX12_findChances_112 (by decide) rfl ?_
              refine g_lload fx 8 dX12_findChances_114 rfl ?_
              refine g_iload fx 3 dX12_findChances_116 rfl ?_
              refine g_aload_n fx 5 dX12_findChances_118 rfl ?_
              refine g_get (r := 0) fx lkX12_237 (by omega) h0 rfl dX12_findChances_119 ?_
              refine g_icmp_lt fx 130 dX12_findChances_122 (by decide) (fun c122 => ?_) (fun c122 => ?_)
              · skip
                have hcH : ¬ (st ≤ bs + (k : Int)) := by rw [Int32.lt_iff_toInt_lt, hst, hsv] at c122; omega
                refine g_lconst (v := lN 0) fx dX12_findChances_130 (by decide +kernel) ?_
                refine g_ladd fx dX12_findChances_131 ?_
                refine g_isl (y := lN (sumF (fcH st bs gb) k + fcH st bs gb k)) ((lN_add _ _).trans (by rw [show fcH st bs gb k = 0 from if_neg hcH])) ?_
                refine g_lstore (L' := [(7, .long (lN (sumF (fcH st bs gb) k + fcH st bs gb k))), (5, .long (lN (sumF (fcL st bs gb) k + fcL st bs gb k))), (3, .long (lN (sumF (fcF tm mid st bs gb) k + fcF tm mid st bs gb k))), (11, .long (lN (sumF (gb) k + gb k))), (17, .int sv), (15, .long (lN (gb k))), (0, .ref (ad 0)), (1, .int x), (2, .int y), (9, .long (lN (sumF (fcJ st bs gb) k))), (13, .int q1), (14, .int (nI k))]) fx dX12_findChances_132 (by decide) rfl ?_
                refine g_lload fx 9 dX12_findChances_134 rfl ?_
                refine g_iload fx 4 dX12_findChances_136 rfl ?_
                refine g_aload_n fx 6 dX12_findChances_138 rfl ?_
                refine g_get (r := 0) fx lkX12_237 (by omega) h0 rfl dX12_findChances_139 ?_
                refine g_icmp_ne fx 150 dX12_findChances_142 (by decide) (fun c142 => ?_) (fun c142 => ?_)
                · skip
                  have hcJ : ¬ (bs + (k : Int) = st) := fun w => c142 (Int32.toInt_inj.mp (by rw [hst, hsv, w]))
                  refine g_lconst (v := lN 0) fx dX12_findChances_150 (by decide +kernel) ?_
                  refine g_ladd fx dX12_findChances_151 ?_
                  refine g_isl (y := lN (sumF (fcJ st bs gb) k + fcJ st bs gb k)) ((lN_add _ _).trans (by rw [show fcJ st bs gb k = 0 from if_neg hcJ])) ?_
                  refine g_lstore (L' := [(9, .long (lN (sumF (fcJ st bs gb) k + fcJ st bs gb k))), (7, .long (lN (sumF (fcH st bs gb) k + fcH st bs gb k))), (5, .long (lN (sumF (fcL st bs gb) k + fcL st bs gb k))), (3, .long (lN (sumF (fcF tm mid st bs gb) k + fcF tm mid st bs gb k))), (11, .long (lN (sumF (gb) k + gb k))), (17, .int sv), (15, .long (lN (gb k))), (0, .ref (ad 0)), (1, .int x), (2, .int y), (13, .int q1), (14, .int (nI k))]) fx dX12_findChances_152 (by decide) rfl ?_
                  refine g_iinc (L' := [(14, .int (nI (k + 1))), (9, .long (lN (sumF (fcJ st bs gb) k + fcJ st bs gb k))), (7, .long (lN (sumF (fcH st bs gb) k + fcH st bs gb k))), (5, .long (lN (sumF (fcL st bs gb) k + fcL st bs gb k))), (3, .long (lN (sumF (fcF tm mid st bs gb) k + fcF tm mid st bs gb k))), (11, .long (lN (sumF (gb) k + gb k))), (17, .int sv), (15, .long (lN (gb k))), (0, .ref (ad 0)), (1, .int x), (2, .int y), (13, .int q1)]) fx (nI (k + 1)) 11 dX12_findChances_154 rfl (gInc _) (by decide) rfl ?_
                  refine g_goto fx 30 dX12_findChances_157 (by decide) ?_
                  refine g_locals (L' := [(0, .ref (ad 0)), (1, .int x), (2, .int y), (3, .long (lN (sumF (fcF tm mid st bs gb) k + fcF tm mid st bs gb k))), (5, .long (lN (sumF (fcL st bs gb) k + fcL st bs gb k))), (7, .long (lN (sumF (fcH st bs gb) k + fcH st bs gb k))), (9, .long (lN (sumF (fcJ st bs gb) k + fcJ st bs gb k))), (11, .long (lN (sumF (gb) k + gb k))), (13, .int q1), (14, .int (nI (k + 1)))]) [8, 9, 10, 4, 3, 2, 1, 5, 11, 0] rfl ?_
                  exact ih30 (k + 1) (by omega) (by omega)
                · skip
                  have hcJ : bs + (k : Int) = st := by rw [← hsv, ← hst, c142]
                  refine g_lload fx 5 dX12_findChances_145 rfl ?_
                  refine g_goto fx 151 dX12_findChances_147 (by decide) ?_
                  refine g_ladd fx dX12_findChances_151 ?_
                  refine g_isl (y := lN (sumF (fcJ st bs gb) k + fcJ st bs gb k)) ((lN_add _ _).trans (by rw [show fcJ st bs gb k = gb k from if_pos hcJ])) ?_
                  refine g_lstore (L' := [(9, .long (lN (sumF (fcJ st bs gb) k + fcJ st bs gb k))), (7, .long (lN (sumF (fcH st bs gb) k + fcH st bs gb k))), (5, .long (lN (sumF (fcL st bs gb) k + fcL st bs gb k))), (3, .long (lN (sumF (fcF tm mid st bs gb) k + fcF tm mid st bs gb k))), (11, .long (lN (sumF (gb) k + gb k))), (17, .int sv), (15, .long (lN (gb k))), (0, .ref (ad 0)), (1, .int x), (2, .int y), (13, .int q1), (14, .int (nI k))]) fx dX12_findChances_152 (by decide) rfl ?_
                  refine g_iinc (L' := [(14, .int (nI (k + 1))), (9, .long (lN (sumF (fcJ st bs gb) k + fcJ st bs gb k))), (7, .long (lN (sumF (fcH st bs gb) k + fcH st bs gb k))), (5, .long (lN (sumF (fcL st bs gb) k + fcL st bs gb k))), (3, .long (lN (sumF (fcF tm mid st bs gb) k + fcF tm mid st bs gb k))), (11, .long (lN (sumF (gb) k + gb k))), (17, .int sv), (15, .long (lN (gb k))), (0, .ref (ad 0)), (1, .int x), (2, .int y), (13, .int q1)]) fx (nI (k + 1)) 11 dX12_findChances_154 rfl (gInc _) (by decide) rfl ?_
                  refine g_goto fx 30 dX12_findChances_157 (by decide) ?_
                  refine g_locals (L' := [(0, .ref (ad 0)), (1, .int x), (2, .int y), (3, .long (lN (sumF (fcF tm mid st bs gb) k + fcF tm mid st bs gb k))), (5, .long (lN (sumF (fcL st bs gb) k + fcL st bs gb k))), (7, .long (lN (sumF (fcH st bs gb) k + fcH st bs gb k))), (9, .long (lN (sumF (fcJ st bs gb) k + fcJ st bs gb k))), (11, .long (lN (sumF (gb) k + gb k))), (13, .int q1), (14, .int (nI (k + 1)))]) [8, 9, 10, 4, 3, 2, 1, 5, 11, 0] rfl ?_
                  exact ih30 (k + 1) (by omega) (by omega)
              · skip
                have hcH : st ≤ bs + (k : Int) := by have c122 := Int32.not_lt.mp c122; rw [Int32.le_iff_toInt_le, hst, hsv] at c122; omega
                refine g_lload fx 4 dX12_findChances_125 rfl ?_
                refine g_goto fx 131 dX12_findChances_127 (by decide) ?_
                refine g_ladd fx dX12_findChances_131 ?_
                refine g_isl (y := lN (sumF (fcH st bs gb) k + fcH st bs gb k)) ((lN_add _ _).trans (by rw [show fcH st bs gb k = gb k from if_pos hcH])) ?_
                refine g_lstore (L' := [(7, .long (lN (sumF (fcH st bs gb) k + fcH st bs gb k))), (5, .long (lN (sumF (fcL st bs gb) k + fcL st bs gb k))), (3, .long (lN (sumF (fcF tm mid st bs gb) k + fcF tm mid st bs gb k))), (11, .long (lN (sumF (gb) k + gb k))), (17, .int sv), (15, .long (lN (gb k))), (0, .ref (ad 0)), (1, .int x), (2, .int y), (9, .long (lN (sumF (fcJ st bs gb) k))), (13, .int q1), (14, .int (nI k))]) fx dX12_findChances_132 (by decide) rfl ?_
                refine g_lload fx 9 dX12_findChances_134 rfl ?_
                refine g_iload fx 4 dX12_findChances_136 rfl ?_
                refine g_aload_n fx 6 dX12_findChances_138 rfl ?_
                refine g_get (r := 0) fx lkX12_237 (by omega) h0 rfl dX12_findChances_139 ?_
                refine g_icmp_ne fx 150 dX12_findChances_142 (by decide) (fun c142 => ?_) (fun c142 => ?_)
                · skip
                  have hcJ : ¬ (bs + (k : Int) = st) := fun w => c142 (Int32.toInt_inj.mp (by rw [hst, hsv, w]))
                  refine g_lconst (v := lN 0) fx dX12_findChances_150 (by decide +kernel) ?_
                  refine g_ladd fx dX12_findChances_151 ?_
                  refine g_isl (y := lN (sumF (fcJ st bs gb) k + fcJ st bs gb k)) ((lN_add _ _).trans (by rw [show fcJ st bs gb k = 0 from if_neg hcJ])) ?_
                  refine g_lstore (L' := [(9, .long (lN (sumF (fcJ st bs gb) k + fcJ st bs gb k))), (7, .long (lN (sumF (fcH st bs gb) k + fcH st bs gb k))), (5, .long (lN (sumF (fcL st bs gb) k + fcL st bs gb k))), (3, .long (lN (sumF (fcF tm mid st bs gb) k + fcF tm mid st bs gb k))), (11, .long (lN (sumF (gb) k + gb k))), (17, .int sv), (15, .long (lN (gb k))), (0, .ref (ad 0)), (1, .int x), (2, .int y), (13, .int q1), (14, .int (nI k))]) fx dX12_findChances_152 (by decide) rfl ?_
                  refine g_iinc (L' := [(14, .int (nI (k + 1))), (9, .long (lN (sumF (fcJ st bs gb) k + fcJ st bs gb k))), (7, .long (lN (sumF (fcH st bs gb) k + fcH st bs gb k))), (5, .long (lN (sumF (fcL st bs gb) k + fcL st bs gb k))), (3, .long (lN (sumF (fcF tm mid st bs gb) k + fcF tm mid st bs gb k))), (11, .long (lN (sumF (gb) k + gb k))), (17, .int sv), (15, .long (lN (gb k))), (0, .ref (ad 0)), (1, .int x), (2, .int y), (13, .int q1)]) fx (nI (k + 1)) 11 dX12_findChances_154 rfl (gInc _) (by decide) rfl ?_
                  refine g_goto fx 30 dX12_findChances_157 (by decide) ?_
                  refine g_locals (L' := [(0, .ref (ad 0)), (1, .int x), (2, .int y), (3, .long (lN (sumF (fcF tm mid st bs gb) k + fcF tm mid st bs gb k))), (5, .long (lN (sumF (fcL st bs gb) k + fcL st bs gb k))), (7, .long (lN (sumF (fcH st bs gb) k + fcH st bs gb k))), (9, .long (lN (sumF (fcJ st bs gb) k + fcJ st bs gb k))), (11, .long (lN (sumF (gb) k + gb k))), (13, .int q1), (14, .int (nI (k + 1)))]) [8, 9, 10, 4, 3, 2, 1, 5, 11, 0] rfl ?_
                  exact ih30 (k + 1) (by omega) (by omega)
                · skip
                  have hcJ : bs + (k : Int) = st := by rw [← hsv, ← hst, c142]
                  refine g_lload fx 5 dX12_findChances_145 rfl ?_
                  refine g_goto fx 151 dX12_findChances_147 (by decide) ?_
                  refine g_ladd fx dX12_findChances_151 ?_
                  refine g_isl (y := lN (sumF (fcJ st bs gb) k + fcJ st bs gb k)) ((lN_add _ _).trans (by rw [show fcJ st bs gb k = gb k from if_pos hcJ])) ?_
                  refine g_lstore (L' := [(9, .long (lN (sumF (fcJ st bs gb) k + fcJ st bs gb k))), (7, .long (lN (sumF (fcH st bs gb) k + fcH st bs gb k))), (5, .long (lN (sumF (fcL st bs gb) k + fcL st bs gb k))), (3, .long (lN (sumF (fcF tm mid st bs gb) k + fcF tm mid st bs gb k))), (11, .long (lN (sumF (gb) k + gb k))), (17, .int sv), (15, .long (lN (gb k))), (0, .ref (ad 0)), (1, .int x), (2, .int y), (13, .int q1), (14, .int (nI k))]) fx dX12_findChances_152 (by decide) rfl ?_
                  refine g_iinc (L' := [(14, .int (nI (k + 1))), (9, .long (lN (sumF (fcJ st bs gb) k + fcJ st bs gb k))), (7, .long (lN (sumF (fcH st bs gb) k + fcH st bs gb k))), (5, .long (lN (sumF (fcL st bs gb) k + fcL st bs gb k))), (3, .long (lN (sumF (fcF tm mid st bs gb) k + fcF tm mid st bs gb k))), (11, .long (lN (sumF (gb) k + gb k))), (17, .int sv), (15, .long (lN (gb k))), (0, .ref (ad 0)), (1, .int x), (2, .int y), (13, .int q1)]) fx (nI (k + 1)) 11 dX12_findChances_154 rfl (gInc _) (by decide) rfl ?_
                  refine g_goto fx 30 dX12_findChances_157 (by decide) ?_
                  refine g_locals (L' := [(0, .ref (ad 0)), (1, .int x), (2, .int y), (3, .long (lN (sumF (fcF tm mid st bs gb) k + fcF tm mid st bs gb k))), (5, .long (lN (sumF (fcL st bs gb) k + fcL st bs gb k))), (7, .long (lN (sumF (fcH st bs gb) k + fcH st bs gb k))), (9, .long (lN (sumF (fcJ st bs gb) k + fcJ st bs gb k))), (11, .long (lN (sumF (gb) k + gb k))), (13, .int q1), (14, .int (nI (k + 1)))]) [8, 9, 10, 4, 3, 2, 1, 5, 11, 0] rfl ?_
                  exact ih30 (k + 1) (by omega) (by omega)
            · skip
              have hcL : bs + (k : Int) ≤ st := by have c102 := Int32.not_lt.mp c102; rw [Int32.le_iff_toInt_le, hst, hsv] at c102; omega
              refine g_lload fx 3 dX12_findChances_105 rfl ?_
              refine g_goto fx 111 dX12_findChances_107 (by decide) ?_
              refine g_ladd fx dX12_findChances_111 ?_
              refine g_isl (y := lN (sumF (fcL st bs gb) k + fcL st bs gb k)) ((lN_add _ _).trans (by rw [show fcL st bs gb k = gb k from if_pos hcL])) ?_
              refine g_lstore (L' := [(5, .long (lN (sumF (fcL st bs gb) k + fcL st bs gb k))), (3, .long (lN (sumF (fcF tm mid st bs gb) k + fcF tm mid st bs gb k))), (11, .long (lN (sumF (gb) k + gb k))), (17, .int sv), (15, .long (lN (gb k))), (0, .ref (ad 0)), (1, .int x), (2, .int y), (7, .long (lN (sumF (fcH st bs gb) k))), (9, .long (lN (sumF (fcJ st bs gb) k))), (13, .int q1), (14, .int (nI k))]) fx dX12_findChances_112 (by decide) rfl ?_
              refine g_lload fx 8 dX12_findChances_114 rfl ?_
              refine g_iload fx 3 dX12_findChances_116 rfl ?_
              refine g_aload_n fx 5 dX12_findChances_118 rfl ?_
              refine g_get (r := 0) fx lkX12_237 (by omega) h0 rfl dX12_findChances_119 ?_
              refine g_icmp_lt fx 130 dX12_findChances_122 (by decide) (fun c122 => ?_) (fun c122 => ?_)
              · skip
                have hcH : ¬ (st ≤ bs + (k : Int)) := by rw [Int32.lt_iff_toInt_lt, hst, hsv] at c122; omega
                refine g_lconst (v := lN 0) fx dX12_findChances_130 (by decide +kernel) ?_
                refine g_ladd fx dX12_findChances_131 ?_
                refine g_isl (y := lN (sumF (fcH st bs gb) k + fcH st bs gb k)) ((lN_add _ _).trans (by rw [show fcH st bs gb k = 0 from if_neg hcH])) ?_
                refine g_lstore (L' := [(7, .long (lN (sumF (fcH st bs gb) k + fcH st bs gb k))), (5, .long (lN (sumF (fcL st bs gb) k + fcL st bs gb k))), (3, .long (lN (sumF (fcF tm mid st bs gb) k + fcF tm mid st bs gb k))), (11, .long (lN (sumF (gb) k + gb k))), (17, .int sv), (15, .long (lN (gb k))), (0, .ref (ad 0)), (1, .int x), (2, .int y), (9, .long (lN (sumF (fcJ st bs gb) k))), (13, .int q1), (14, .int (nI k))]) fx dX12_findChances_132 (by decide) rfl ?_
                refine g_lload fx 9 dX12_findChances_134 rfl ?_
                refine g_iload fx 4 dX12_findChances_136 rfl ?_
                refine g_aload_n fx 6 dX12_findChances_138 rfl ?_
                refine g_get (r := 0) fx lkX12_237 (by omega) h0 rfl dX12_findChances_139 ?_
                refine g_icmp_ne fx 150 dX12_findChances_142 (by decide) (fun c142 => ?_) (fun c142 => ?_)
                · skip
                  have hcJ : ¬ (bs + (k : Int) = st) := fun w => c142 (Int32.toInt_inj.mp (by rw [hst, hsv, w]))
                  refine g_lconst (v := lN 0) fx dX12_findChances_150 (by decide +kernel) ?_
                  refine g_ladd fx dX12_findChances_151 ?_
                  refine g_isl (y := lN (sumF (fcJ st bs gb) k + fcJ st bs gb k)) ((lN_add _ _).trans (by rw [show fcJ st bs gb k = 0 from if_neg hcJ])) ?_
                  refine g_lstore (L' := [(9, .long (lN (sumF (fcJ st bs gb) k + fcJ st bs gb k))), (7, .long (lN (sumF (fcH st bs gb) k + fcH st bs gb k))), (5, .long (lN (sumF (fcL st bs gb) k + fcL st bs gb k))), (3, .long (lN (sumF (fcF tm mid st bs gb) k + fcF tm mid st bs gb k))), (11, .long (lN (sumF (gb) k + gb k))), (17, .int sv), (15, .long (lN (gb k))), (0, .ref (ad 0)), (1, .int x), (2, .int y), (13, .int q1), (14, .int (nI k))]) fx dX12_findChances_152 (by decide) rfl ?_
                  refine g_iinc (L' := [(14, .int (nI (k + 1))), (9, .long (lN (sumF (fcJ st bs gb) k + fcJ st bs gb k))), (7, .long (lN (sumF (fcH st bs gb) k + fcH st bs gb k))), (5, .long (lN (sumF (fcL st bs gb) k + fcL st bs gb k))), (3, .long (lN (sumF (fcF tm mid st bs gb) k + fcF tm mid st bs gb k))), (11, .long (lN (sumF (gb) k + gb k))), (17, .int sv), (15, .long (lN (gb k))), (0, .ref (ad 0)), (1, .int x), (2, .int y), (13, .int q1)]) fx (nI (k + 1)) 11 dX12_findChances_154 rfl (gInc _) (by decide) rfl ?_
                  refine g_goto fx 30 dX12_findChances_157 (by decide) ?_
                  refine g_locals (L' := [(0, .ref (ad 0)), (1, .int x), (2, .int y), (3, .long (lN (sumF (fcF tm mid st bs gb) k + fcF tm mid st bs gb k))), (5, .long (lN (sumF (fcL st bs gb) k + fcL st bs gb k))), (7, .long (lN (sumF (fcH st bs gb) k + fcH st bs gb k))), (9, .long (lN (sumF (fcJ st bs gb) k + fcJ st bs gb k))), (11, .long (lN (sumF (gb) k + gb k))), (13, .int q1), (14, .int (nI (k + 1)))]) [8, 9, 10, 4, 3, 2, 1, 5, 11, 0] rfl ?_
                  exact ih30 (k + 1) (by omega) (by omega)
                · skip
                  have hcJ : bs + (k : Int) = st := by rw [← hsv, ← hst, c142]
                  refine g_lload fx 5 dX12_findChances_145 rfl ?_
                  refine g_goto fx 151 dX12_findChances_147 (by decide) ?_
                  refine g_ladd fx dX12_findChances_151 ?_
                  refine g_isl (y := lN (sumF (fcJ st bs gb) k + fcJ st bs gb k)) ((lN_add _ _).trans (by rw [show fcJ st bs gb k = gb k from if_pos hcJ])) ?_
                  refine g_lstore (L' := [(9, .long (lN (sumF (fcJ st bs gb) k + fcJ st bs gb k))), (7, .long (lN (sumF (fcH st bs gb) k + fcH st bs gb k))), (5, .long (lN (sumF (fcL st bs gb) k + fcL st bs gb k))), (3, .long (lN (sumF (fcF tm mid st bs gb) k + fcF tm mid st bs gb k))), (11, .long (lN (sumF (gb) k + gb k))), (17, .int sv), (15, .long (lN (gb k))), (0, .ref (ad 0)), (1, .int x), (2, .int y), (13, .int q1), (14, .int (nI k))]) fx dX12_findChances_152 (by decide) rfl ?_
                  refine g_iinc (L' := [(14, .int (nI (k + 1))), (9, .long (lN (sumF (fcJ st bs gb) k + fcJ st bs gb k))), (7, .long (lN (sumF (fcH st bs gb) k + fcH st bs gb k))), (5, .long (lN (sumF (fcL st bs gb) k + fcL st bs gb k))), (3, .long (lN (sumF (fcF tm mid st bs gb) k + fcF tm mid st bs gb k))), (11, .long (lN (sumF (gb) k + gb k))), (17, .int sv), (15, .long (lN (gb k))), (0, .ref (ad 0)), (1, .int x), (2, .int y), (13, .int q1)]) fx (nI (k + 1)) 11 dX12_findChances_154 rfl (gInc _) (by decide) rfl ?_
                  refine g_goto fx 30 dX12_findChances_157 (by decide) ?_
                  refine g_locals (L' := [(0, .ref (ad 0)), (1, .int x), (2, .int y), (3, .long (lN (sumF (fcF tm mid st bs gb) k + fcF tm mid st bs gb k))), (5, .long (lN (sumF (fcL st bs gb) k + fcL st bs gb k))), (7, .long (lN (sumF (fcH st bs gb) k + fcH st bs gb k))), (9, .long (lN (sumF (fcJ st bs gb) k + fcJ st bs gb k))), (11, .long (lN (sumF (gb) k + gb k))), (13, .int q1), (14, .int (nI (k + 1)))]) [8, 9, 10, 4, 3, 2, 1, 5, 11, 0] rfl ?_
                  exact ih30 (k + 1) (by omega) (by omega)
              · skip
                have hcH : st ≤ bs + (k : Int) := by have c122 := Int32.not_lt.mp c122; rw [Int32.le_iff_toInt_le, hst, hsv] at c122; omega
                refine g_lload fx 4 dX12_findChances_125 rfl ?_
                refine g_goto fx 131 dX12_findChances_127 (by decide) ?_
                refine g_ladd fx dX12_findChances_131 ?_
                refine g_isl (y := lN (sumF (fcH st bs gb) k + fcH st bs gb k)) ((lN_add _ _).trans (by rw [show fcH st bs gb k = gb k from if_pos hcH])) ?_
                refine g_lstore (L' := [(7, .long (lN (sumF (fcH st bs gb) k + fcH st bs gb k))), (5, .long (lN (sumF (fcL st bs gb) k + fcL st bs gb k))), (3, .long (lN (sumF (fcF tm mid st bs gb) k + fcF tm mid st bs gb k))), (11, .long (lN (sumF (gb) k + gb k))), (17, .int sv), (15, .long (lN (gb k))), (0, .ref (ad 0)), (1, .int x), (2, .int y), (9, .long (lN (sumF (fcJ st bs gb) k))), (13, .int q1), (14, .int (nI k))]) fx dX12_findChances_132 (by decide) rfl ?_
                refine g_lload fx 9 dX12_findChances_134 rfl ?_
                refine g_iload fx 4 dX12_findChances_136 rfl ?_
                refine g_aload_n fx 6 dX12_findChances_138 rfl ?_
                refine g_get (r := 0) fx lkX12_237 (by omega) h0 rfl dX12_findChances_139 ?_
                refine g_icmp_ne fx 150 dX12_findChances_142 (by decide) (fun c142 => ?_) (fun c142 => ?_)
                · skip
                  have hcJ : ¬ (bs + (k : Int) = st) := fun w => c142 (Int32.toInt_inj.mp (by rw [hst, hsv, w]))
                  refine g_lconst (v := lN 0) fx dX12_findChances_150 (by decide +kernel) ?_
                  refine g_ladd fx dX12_findChances_151 ?_
                  refine g_isl (y := lN (sumF (fcJ st bs gb) k + fcJ st bs gb k)) ((lN_add _ _).trans (by rw [show fcJ st bs gb k = 0 from if_neg hcJ])) ?_
                  refine g_lstore (L' := [(9, .long (lN (sumF (fcJ st bs gb) k + fcJ st bs gb k))), (7, .long (lN (sumF (fcH st bs gb) k + fcH st bs gb k))), (5, .long (lN (sumF (fcL st bs gb) k + fcL st bs gb k))), (3, .long (lN (sumF (fcF tm mid st bs gb) k + fcF tm mid st bs gb k))), (11, .long (lN (sumF (gb) k + gb k))), (17, .int sv), (15, .long (lN (gb k))), (0, .ref (ad 0)), (1, .int x), (2, .int y), (13, .int q1), (14, .int (nI k))]) fx dX12_findChances_152 (by decide) rfl ?_
                  refine g_iinc (L' := [(14, .int (nI (k + 1))), (9, .long (lN (sumF (fcJ st bs gb) k + fcJ st bs gb k))), (7, .long (lN (sumF (fcH st bs gb) k + fcH st bs gb k))), (5, .long (lN (sumF (fcL st bs gb) k + fcL st bs gb k))), (3, .long (lN (sumF (fcF tm mid st bs gb) k + fcF tm mid st bs gb k))), (11, .long (lN (sumF (gb) k + gb k))), (17, .int sv), (15, .long (lN (gb k))), (0, .ref (ad 0)), (1, .int x), (2, .int y), (13, .int q1)]) fx (nI (k + 1)) 11 dX12_findChances_154 rfl (gInc _) (by decide) rfl ?_
                  refine g_goto fx 30 dX12_findChances_157 (by decide) ?_
                  refine g_locals (L' := [(0, .ref (ad 0)), (1, .int x), (2, .int y), (3, .long (lN (sumF (fcF tm mid st bs gb) k + fcF tm mid st bs gb k))), (5, .long (lN (sumF (fcL st bs gb) k + fcL st bs gb k))), (7, .long (lN (sumF (fcH st bs gb) k + fcH st bs gb k))), (9, .long (lN (sumF (fcJ st bs gb) k + fcJ st bs gb k))), (11, .long (lN (sumF (gb) k + gb k))), (13, .int q1), (14, .int (nI (k + 1)))]) [8, 9, 10, 4, 3, 2, 1, 5, 11, 0] rfl ?_
                  exact ih30 (k + 1) (by omega) (by omega)
                · skip
                  have hcJ : bs + (k : Int) = st := by rw [← hsv, ← hst, c142]
                  refine g_lload fx 5 dX12_findChances_145 rfl ?_
                  refine g_goto fx 151 dX12_findChances_147 (by decide) ?_
                  refine g_ladd fx dX12_findChances_151 ?_
                  refine g_isl (y := lN (sumF (fcJ st bs gb) k + fcJ st bs gb k)) ((lN_add _ _).trans (by rw [show fcJ st bs gb k = gb k from if_pos hcJ])) ?_
                  refine g_lstore (L' := [(9, .long (lN (sumF (fcJ st bs gb) k + fcJ st bs gb k))), (7, .long (lN (sumF (fcH st bs gb) k + fcH st bs gb k))), (5, .long (lN (sumF (fcL st bs gb) k + fcL st bs gb k))), (3, .long (lN (sumF (fcF tm mid st bs gb) k + fcF tm mid st bs gb k))), (11, .long (lN (sumF (gb) k + gb k))), (17, .int sv), (15, .long (lN (gb k))), (0, .ref (ad 0)), (1, .int x), (2, .int y), (13, .int q1), (14, .int (nI k))]) fx dX12_findChances_152 (by decide) rfl ?_
                  refine g_iinc (L' := [(14, .int (nI (k + 1))), (9, .long (lN (sumF (fcJ st bs gb) k + fcJ st bs gb k))), (7, .long (lN (sumF (fcH st bs gb) k + fcH st bs gb k))), (5, .long (lN (sumF (fcL st bs gb) k + fcL st bs gb k))), (3, .long (lN (sumF (fcF tm mid st bs gb) k + fcF tm mid st bs gb k))), (11, .long (lN (sumF (gb) k + gb k))), (17, .int sv), (15, .long (lN (gb k))), (0, .ref (ad 0)), (1, .int x), (2, .int y), (13, .int q1)]) fx (nI (k + 1)) 11 dX12_findChances_154 rfl (gInc _) (by decide) rfl ?_
                  refine g_goto fx 30 dX12_findChances_157 (by decide) ?_
                  refine g_locals (L' := [(0, .ref (ad 0)), (1, .int x), (2, .int y), (3, .long (lN (sumF (fcF tm mid st bs gb) k + fcF tm mid st bs gb k))), (5, .long (lN (sumF (fcL st bs gb) k + fcL st bs gb k))), (7, .long (lN (sumF (fcH st bs gb) k + fcH st bs gb k))), (9, .long (lN (sumF (fcJ st bs gb) k + fcJ st bs gb k))), (11, .long (lN (sumF (gb) k + gb k))), (13, .int q1), (14, .int (nI (k + 1)))]) [8, 9, 10, 4, 3, 2, 1, 5, 11, 0] rfl ?_
                  exact ih30 (k + 1) (by omega) (by omega)
  refine g_locals (L' := [(0, .ref (ad 0)), (1, .int x), (2, .int y), (3, .long (lN 0)), (5, .long (lN 0)), (7, .long (lN 0)), (9, .long (lN 0)), (11, .long (lN 0)), (13, .int q1), (14, .int (nI 0))]) [7, 8, 9, 6, 5, 4, 3, 2, 1, 0] rfl ?_
  exact LP30 (S + 1) 0 (by omega) (by omega)
