theorem CL.congr {C : Nat} {cm v w cl : Nat → Nat} {r c : Nat} (hcC : c ≤ C) (h : CL C cm v r c cl) (hw : ∀ i, i < C * r + c → w i = v i) : CL C cm w r c cl := by
  intro j hj
  rw [h j hj]
  by_cases q : j < c
  · rw [if_pos q]
    refine tLeft_congr (fun i hi => (hw _ ?_).symm)
    have : C * i ≤ C * r := Nat.mul_le_mul_left _ (by omega)
    omega
  · rw [if_neg q]
    refine tLeft_congr (fun i hi => (hw _ ?_).symm)
    have : C * (i + 1) ≤ C * r := Nat.mul_le_mul_left _ hi
    rw [Nat.mul_succ] at this
    omega
theorem steps_congr {N C : Nat} {rm cm v w : Nat → Nat} (hC : 0 < C) : ∀ k, k ≤ N → (∀ i, i < k → v i = w i) → sumF (tStep N C rm cm v) k = sumF (tStep N C rm cm w) k :=
  fun k hk h => sumF_congr k (fun j hj => tStep_congr hC (by omega) (fun i hi => h i (by omega)))
theorem base_step {N C : Nat} {rm cm v v1 : Nat → Nat} {k m : Nat} (hC : 0 < C) (hk : k < N) (h : ∀ i, i < k → v1 i = v i) : sumF (tStep N C rm cm (va_up v1 k m)) (k + 1) = sumF (tStep N C rm cm v) k + sumF (fun n => tCnt N C rm cm (N - (k + 1)) (va_up v k (tLo C rm cm v k + n))) (m - tLo C rm cm v k) := by
  have hlo : tLo C rm cm (va_up v1 k m) k = tLo C rm cm v k := tLo_congr hC (fun i hi => by rw [va_up_ne _ _ (by omega)]; exact h i hi)
  show sumF (tStep N C rm cm (va_up v1 k m)) k + tStep N C rm cm (va_up v1 k m) k = _
  rw [steps_congr (v := va_up v1 k m) (w := v) hC k (by omega) (fun i hi => by rw [va_up_ne _ _ (by omega)]; exact h i hi)]
  congr 1
  unfold tStep
  rw [hlo, va_up_self]
  refine sumF_congr _ (fun n _ => tCnt_congr hC _ _ _ (by omega) (fun i hi => ?_))
  by_cases q : i = k
  · rw [q, va_up_self, va_up_self]
  · rw [va_up_ne _ _ q, va_up_ne _ _ q, va_up_ne _ _ q]; exact h i (by omega)
theorem leaf_val {r C : Nat} {rs cm v v1 cl : Nat → Nat} (hC : 0 < C) (hs : sumF rs (r + 1) = sumF cm C) (hval : Val C rs cm (C * r) v) (hCL : CL C cm v r 0 cl) (h1 : ∀ j, j < C * r → v1 j = v j) (h2 : ∀ j, j < C → v1 (C * r + j) = cl j) : ∀ c, c ≤ C → Val C rs cm (C * r + c) v1 ∧ ∀ j, j < c → v1 (C * r + j) = tLo C rs cm v1 (C * r + j)
  | 0, _ => ⟨hval.congr hC (fun i hi => (h1 i (by omega)).symm), fun j hj => absurd hj (Nat.not_lt_zero _)⟩
  | c + 1, hc => by
    obtain ⟨ih, ih2⟩ := leaf_val hC hs hval hCL h1 h2 c (by omega)
    have e := last_rest (R := r) hC hs c (by omega) ih
    have hl : v1 (C * r + c) = tLeft C cm v1 r c := by
      rw [h2 c (by omega), hCL c (by omega), if_neg (by omega)]
      refine tLeft_congr (fun i hi => (h1 _ ?_).symm)
      have : C * (i + 1) ≤ C * r := Nat.mul_le_mul_left _ hi
      rw [Nat.mul_succ] at this
      omega
    have hlo := lo_eq (rm := rs) (cm := cm) (v := v1) (r := r) (show c < C by omega)
    have hhi := hi_eq (rm := rs) (cm := cm) (v := v1) (r := r) (show c < C by omega)
    refine ⟨val_next (w := v1) hC ih (fun _ _ => rfl) (show tLo C rs cm v1 (C * r + c) ≤ v1 (C * r + c) by omega) (show v1 (C * r + c) ≤ tHi C rs cm v1 (C * r + c) by omega), fun j hj => ?_⟩
    by_cases q : j = c
    · subst q; omega
    · exact ih2 j (by omega)
theorem leaf {r C : Nat} {rs cm v v1 cl : Nat → Nat} (hC : 0 < C) (hs : sumF rs (r + 1) = sumF cm C) (hval : Val C rs cm (C * r) v) (hCL : CL C cm v r 0 cl) (h1 : ∀ j, j < C * r → v1 j = v j) (h2 : ∀ j, j < C → v1 (C * r + j) = cl j) : Val C rs cm (C * (r + 1)) v1 ∧ tIdx (C * (r + 1)) C rs cm v1 = sumF (tStep (C * (r + 1)) C rs cm v) (C * r) ∧ facP v1 (C * (r + 1)) = facP v (C * r) * facP cl C := by
  obtain ⟨a, b⟩ := leaf_val hC hs hval hCL h1 h2 C (Nat.le_refl _)
  rw [← Nat.mul_succ] at a
  refine ⟨a, ?_, ?_⟩
  · unfold tIdx
    rw [Nat.mul_succ, sumF_split, steps_congr hC (C * r) (by omega) (fun i hi => h1 i hi)]
    have z := sumF_le (f := fun i => tStep (C * r + C) C rs cm v1 (C * r + i)) (b := 0) C (fun i hi => Nat.le_of_eq (tStep_lo (b i hi)))
    omega
  · rw [Nat.mul_succ, facP_split, facP_congr (C * r) h1, facP_congr C h2]
def KP (cm rs : Nat → Nat) (C R SN sd cn : Nat) (g : Nat → Nat) (vs : Nat → Nat → Nat) : Prop := ∀ j, j < cn → Val C rs cm (C * R) (vs j) ∧ tIdx (C * R) C rs cm (vs j) = j ∧ ∀ i, i < sd → g (j * sd + i) = bval 64 (blk (vs j) (R * C) i (ccode (Wc cm C (C * R) (vs j)) SN)) 11
def FS (B : gB) (ad : Nat → Nat) (ct : Nat → va_E) (cm rs : Nat → Nat) (C R SN g0 sd cn NL : Nat) (g : Nat → Nat) (vs : Nat → Nat → Nat) (wv : Nat → Nat) : Prop :=
  isW B ad ct 19 SN ∧ isW B ad ct 21 (sFar cm C (C * R) SN vs cn) ∧ isW B ad ct 23 (sLow cm C (C * R) g0 vs cn) ∧ isW B ad ct 25 (sHigh cm C (C * R) g0 vs cn) ∧ (∀ i, i < 26 → isW B ad ct (27 + 2 * i) (wv i)) ∧ ct 79 = .inr (0, [.ref (ad 80), .int (nI R), .int (nI C), .int (nI sd), .int (nI cn)]) ∧ ct 80 = .inl (B.2.1 1, NL, .inr (.inl (lF g))) ∧ KP cm rs C R SN sd cn g vs
theorem FS.frame {B : gB} {ad : Nat → Nat} {ct ct' : Nat → va_E} {cm rs : Nat → Nat} {C R SN g0 sd cn NL : Nat} {g : Nat → Nat} {vs : Nat → Nat → Nat} {wv : Nat → Nat} (h : FS B ad ct cm rs C R SN g0 sd cn NL g vs wv) (hs : ∀ r, 19 ≤ r → r ≤ 80 → ct' r = ct r) : FS B ad ct' cm rs C R SN g0 sd cn NL g vs wv :=
  ⟨h.1.frame (hs _ (by omega) (by omega)) (hs _ (by omega) (by omega)), h.2.1.frame (hs _ (by omega) (by omega)) (hs _ (by omega) (by omega)), h.2.2.1.frame (hs _ (by omega) (by omega)) (hs _ (by omega) (by omega)), h.2.2.2.1.frame (hs _ (by omega) (by omega)) (hs _ (by omega) (by omega)), fun i hi => (h.2.2.2.2.1 i hi).frame (hs _ (by omega) (by omega)) (hs _ (by omega) (by omega)), (hs 79 (by omega) (by omega)).trans h.2.2.2.2.2.1, (hs 80 (by omega) (by omega)).trans h.2.2.2.2.2.2.1, h.2.2.2.2.2.2.2⟩
theorem FS.wt {B : gB} {ad : Nat → Nat} {ct ct' : Nat → va_E} {cm rs : Nat → Nat} {C R SN g0 sd cn NL : Nat} {g : Nat → Nat} {vs : Nat → Nat → Nat} {wv : Nat → Nat} {j x : Nat} (h : FS B ad ct cm rs C R SN g0 sd cn NL g vs wv) (hj : j < 26) (hx : isW B ad ct' (27 + 2 * j) x) (hs : sameB ct ct' (27 + 2 * j)) : FS B ad ct' cm rs C R SN g0 sd cn NL g vs (va_up wv j x) :=
  ⟨h.1.other hs (by omega) (by omega) (by omega), h.2.1.other hs (by omega) (by omega) (by omega), h.2.2.1.other hs (by omega) (by omega) (by omega), h.2.2.2.1.other hs (by omega) (by omega) (by omega), fun i hi => by
    by_cases q : i = j
    · subst q; rw [va_up_self]; exact hx
    · rw [va_up_ne _ _ q]; exact (h.2.2.2.2.1 i hi).other hs (by omega) (by omega) (by omega), (hs 79 (by omega) (by omega)).trans h.2.2.2.2.2.1, (hs 80 (by omega) (by omega)).trans h.2.2.2.2.2.2.1, h.2.2.2.2.2.2.2⟩
theorem KP.keep {cm rs : Nat → Nat} {C R SN sd cn : Nat} {g g' : Nat → Nat} {vs : Nat → Nat → Nat} {v : Nat → Nat} (h : KP cm rs C R SN sd cn g vs) (h1 : Val C rs cm (C * R) v) (h2 : tIdx (C * R) C rs cm v = cn) (h3 : ∀ i, i < sd → g' (cn * sd + i) = bval 64 (blk v (R * C) i (ccode (Wc cm C (C * R) v) SN)) 11) (h4 : ∀ j, j < cn * sd → g' j = g j) : KP cm rs C R SN sd (cn + 1) g' (va_up vs cn v) := by
  intro j hj
  by_cases q : j = cn
  · subst q; rw [va_up_self]; exact ⟨h1, h2, h3⟩
  · rw [va_up_ne _ _ q]
    obtain ⟨a, b, c⟩ := h j (by omega)
    refine ⟨a, b, fun i hi => ?_⟩
    rw [h4 _ (by have : (j + 1) * sd ≤ cn * sd := Nat.mul_le_mul_right _ (by omega); rw [Nat.succ_mul] at this; omega)]
    exact c i hi
theorem facP_fac {f : Nat → Nat} {n : Nat} (h : sumF f n ≤ 60) : facP f n ≤ fac 60 := facP_lt2 h
set_option maxHeartbeats 4000000 in
set_option maxRecDepth 100000 in
theorem c_X9_choose (B : gB) (ad : Nat → Nat) (ct : Nat → va_E) (n : Nat) (gt : Nat → Nat) (R C co F : Nat) (cz : Value) (hn : 178 ≤ n) (hw : ct 11 = .inr (9, [.ref (ad 12), .ref (ad 13), .ref (ad 14), .ref (ad 15), .ref (ad 16), .int (nI R), .int (nI C), .int (nI co), .int (nI F), cz, .ref (ad 17), .ref (ad 19), .ref (ad 21), .ref (ad 23), .ref (ad 25)])) (ht : ct 12 = .inl (B.2.1 1, 1891, .inr (.inl (lF gt)))) (htri : (∀ a b, a ≤ 60 → b ≤ a → gt (a * (a + 1) / 2 + b) = ch a b)) (a b : Nat) (ha : a ≤ 60) (hb : b ≤ a) : Ctr B yX9_choose cX9_choose 3 (some .long) 0 0 0 0 ad ct n [.ref (ad 11), .int (nI a), .int (nI b)] (gPlp ad ct n (fun r => r = lN (ch a b))) := by
  have haa : a * (a + 1) ≤ 60 * 61 := Nat.mul_le_mul ha (by omega)
  refine Ctr.ofG (L := [(0, .ref (ad 11)), (1, .int (nI a)), (2, .int (nI b))]) (by decide +kernel) rfl (Nat.le_of_ble_eq_true rfl) (fun E fx rt hnm => ?_)
  refine g_iload_n fx 2 dX9_choose_0 rfl ?_
  refine g_if_lt fx 32 dX9_choose_1 (by decide) (fun c1 => ?_) (fun c1 => ?_)
  · exact absurd ((nI_ltI (b := 0) (by omega) (by omega)).mp c1) (by omega)
  refine g_iload_n fx 2 dX9_choose_4 rfl ?_
  refine g_iload_n fx 1 dX9_choose_5 rfl ?_
  refine g_icmp_gt fx 32 dX9_choose_6 (by decide) (fun c6 => ?_) (fun c6 => ?_)
  · exact absurd ((nI_ltI (by omega) (by omega)).mp c6) (by omega)
  refine g_iload_n fx 1 dX9_choose_9 rfl ?_
  refine g_bipush (v := nI 60) fx dX9_choose_10 (by decide +kernel) ?_
  refine g_icmp_gt fx 32 dX9_choose_12 (by decide) (fun c12 => ?_) (fun c12 => ?_)
  · exact absurd ((nI_ltI (by omega) (by omega)).mp c12) (by omega)
  refine g_aload_n fx 0 dX9_choose_15 rfl ?_
  refine g_get (r := 11) fx lkX9_9 (by omega) hw rfl dX9_choose_16 ?_
  refine g_iload_n fx 1 dX9_choose_19 rfl ?_
  refine g_iload_n fx 1 dX9_choose_20 rfl ?_
  refine g_iconst (v := nI 1) fx dX9_choose_21 (by decide +kernel) ?_
  refine g_iaddN fx dX9_choose_22 ?_
  refine g_imulN fx dX9_choose_23 ?_
  refine g_iconst (v := nI 2) fx dX9_choose_24 (by decide +kernel) ?_
  refine g_idiv fx dX9_choose_25 (by decide) ?_
  refine g_isi (y := nI (a * (a + 1) / 2)) (nI_div2 (by omega)) ?_
  refine g_iload_n fx 2 dX9_choose_26 rfl ?_
  refine g_iaddN fx dX9_choose_27 ?_
  refine g_lald (r := 12) (j := ((a * (a + 1) / 2) + b)) fx (by omega) ht (nI_toInt (by omega)) (by omega) dX9_choose_28 ?_
  refine g_isl (y := lN (gt ((a * (a + 1) / 2) + b))) rfl ?_
  rw [htri a b ha hb]
  refine g_goto fx 33 dX9_choose_29 (by decide) ?_
  refine g_lret fx rt dX9_choose_33 ?_
  exact gPlp.mk rfl
set_option maxHeartbeats 4000000 in
set_option maxRecDepth 100000 in
theorem c_X9_fillLastRow (B : gB) (ad : Nat → Nat) (ct : Nat → va_E) (n : Nat) (rs cl cm v wv g gt : Nat → Nat) (vs : Nat → Nat → Nat) (R C co F SN sd cn NL : Nat) (hn : 178 ≤ n) (hw : ct 11 = .inr (9, [.ref (ad 12), .ref (ad 13), .ref (ad 14), .ref (ad 15), .ref (ad 16), .int (nI R), .int (nI C), .int (nI co), .int (nI F), .ref (ad 79), .ref (ad 17), .ref (ad 19), .ref (ad 21), .ref (ad 23), .ref (ad 25)])) (ht : ct 12 = .inl (B.2.1 1, 1891, .inr (.inl (lF gt)))) (htri : (∀ a b, a ≤ 60 → b ≤ a → gt (a * (a + 1) / 2 + b) = ch a b)) (hrs : ct 13 = .inl (B.2.1 0, 5, .inl (nF rs))) (hcl : ct 14 = .inl (B.2.1 0, 5, .inl (nF cl))) (hv : ct 15 = .inl (B.2.1 0, 25, .inl (nF v))) (hwr : ct 16 = .inl (B.2.1 3, 26, .inr (.inr (.inr (.inr (fun i => some (ad (27 + 2 * i)))))))) (hR5 : R ≤ 5) (hC5 : C ≤ 5) (hCp : 0 < C) (hsum : sumF rs R = sumF cm C) (hT : sumF cm C ≤ 60) (hco : co ≤ 60) (hsd : sd = (R * C + 9) / 10) (hNL : NL ≤ 200000) (hFS : FS B ad ct cm rs C R SN co sd cn NL g vs wv) (r : Nat) (hRr : R = r + 1) (hval : Val C rs cm (C * r) v) (hCL : CL C cm v r 0 cl) (hb : cn = sumF (tStep (C * R) C rs cm v) (C * r)) (hwt : wv (C * r) * (facP v (C * r) * facP cl C) = facP cm C) (hcn : cn < 20000) (hrm : cn * sd + sd ≤ NL) : Ctr B yX9_fillLastRow cX9_fillLastRow 4 none 2 50 0 0 ad ct n [.ref (ad 11), .int (nI (C * r))] (gPv ad n (fun ct' => ∃ v' g' vs' wv', ct' 15 = .inl (B.2.1 0, 25, .inl (nF v')) ∧ (∀ j, j < (C * r) → v' j = v j) ∧ FS B ad ct' cm rs C R SN co sd (cn + 1) NL g' vs' wv' ∧ (∀ j, j < cn → vs' j = vs j) ∧ (∀ i, i ≤ (C * r) → wv' i = wv i) ∧ sTot cm C (C * R) vs' (cn + 1) = sTot cm C (C * R) vs cn + wv (C * r) * (1) ∧ ∀ r, r < 15 ∨ (15 < r ∧ r < 21) ∨ 80 < r → ct' r = ct r)) := by
  obtain ⟨hSN, hfa, hlw, hhg, hwv, hk, hkr, hKP⟩ := hFS
  have hfr : ∀ r, r < 15 ∨ (15 < r ∧ r < 21) ∨ 80 < r → ct r = ct r := fun _ _ => rfl
  have hr4 : C * r ≤ 20 := Nat.mul_le_mul hC5 (show r ≤ 4 by omega)
  have hCR : C * R = C * r + C := by rw [hRr, Nat.mul_succ]
  have hcmf := facP_fac hT
  have hpw : (wv (C * r)) ≤ facP cm C := by rw [← hwt]; exact Nat.le_mul_of_pos_right _ (Nat.mul_pos (facP_pos _ _) (facP_pos _ _))
  have hbf : (sFar cm C (C * R) SN vs cn) ≤ cn * facP cm C := sumF_le cn (fun j _ => Nat.le_trans ite_le Wc_le)
  have hbl : (sLow cm C (C * R) co vs cn) ≤ cn * facP cm C := sumF_le cn (fun j _ => Nat.le_trans ite_le Wc_le)
  have hbh : (sHigh cm C (C * R) co vs cn) ≤ cn * facP cm C := sumF_le cn (fun j _ => Nat.le_trans ite_le Wc_le)
  have hcl60 : ∀ j, j < C → cl j ≤ 60 := fun j hj => by rw [hCL j hj]; exact Nat.le_trans (Nat.sub_le _ _) (Nat.le_trans (sumF_mem hj) hT)
  refine Ctr.ofG (L := [(0, .ref (ad 11)), (1, .int (nI (C * r)))]) (by decide +kernel) rfl (Nat.le_of_ble_eq_true rfl) (fun E fx rt hnm => ?_)
  refine g_iconst (v := nI 0) fx dX9_fillLastRow_0 (by decide +kernel) ?_
  refine g_istore_n (L' := [(2, .int (nI 0)), (0, .ref (ad 11)), (1, .int (nI (C * r)))]) fx dX9_fillLastRow_1 (by decide) rfl ?_
  have LP2 : ∀ (M : Nat) (k : Nat) (ct1 : Nat → va_E) (v1 : Nat → Nat), (k ≤ C) → (∀ j, j < C * r → v1 j = v j) → (∀ j, j < k → v1 (C * r + j) = cl j) → (ct1 15 = .inl (B.2.1 0, 25, .inl (nF v1))) → (∀ r, r ≠ 15 → ct1 r = ct r) →  (C - k) < M → G B 4 E ad ct1 n 0 0 [(0, .ref (ad 11)), (1, .int (nI (C * r))), (2, .int (nI k))] 2 [] := by
    intro M
    induction M with
    | zero => intro k ct1 v1 _ _ _ _ _ hM; exact absurd hM (Nat.not_lt_zero _)
    | succ M ih =>
      intro k ct1 v1 hk0 hv1 hv2 hv hs0 hM
      have ih2 := ih
      have hw1 : ct1 11 = .inr (9, [.ref (ad 12), .ref (ad 13), .ref (ad 14), .ref (ad 15), .ref (ad 16), .int (nI R), .int (nI C), .int (nI co), .int (nI F), .ref (ad 79), .ref (ad 17), .ref (ad 19), .ref (ad 21), .ref (ad 23), .ref (ad 25)]) := (hs0 11 (by decide)).trans hw
      have hcl1 : ct1 14 = .inl (B.2.1 0, 5, .inl (nF cl)) := (hs0 14 (by decide)).trans hcl
      have hwr1 : ct1 16 = .inl (B.2.1 3, 26, .inr (.inr (.inr (.inr (fun i => some (ad (27 + 2 * i))))))) := (hs0 16 (by decide)).trans hwr
      refine g_iload_n fx 2 dX9_fillLastRow_2 rfl ?_
      refine g_aload_n fx 0 dX9_fillLastRow_3 rfl ?_
      refine g_get (r := 11) fx lkX9_97 (by omega) hw1 rfl dX9_fillLastRow_4 ?_
      refine g_icmp_ge fx 30 dX9_fillLastRow_7 (by decide) (fun c7 => ?_) (fun c7 => ?_)
      · skip
        have hke : k = C := by have := (nI_leI (by omega) (by omega)).mp c7; omega
        rw [hke] at hv2
        obtain ⟨hlv, hli, hlf⟩ := leaf hCp (by rw [← hRr]; exact hsum) hval hCL hv1 hv2
        rw [← hRr] at hlv hli hlf
        have hWc : Wc cm C (C * R) v1 = (wv (C * r)) := Wc_of (by rw [hlf]; exact hwt)
        have hv60 : ∀ j, j < C * R → v1 j ≤ 60 := fun j hj => by have q1 := (hlv j hj).2; unfold tHi tRest at q1; have q2 := sumF_mem (f := rs) (n := R) (i := j / C) ((Nat.div_lt_iff_lt_mul hCp).mpr (by rw [Nat.mul_comm]; exact hj)); omega
        have hw := hw1
        have hcl := hcl1
        have hwr := hwr1
        have hk : ct1 79 = .inr (0, [.ref (ad 80), .int (nI R), .int (nI C), .int (nI sd), .int (nI cn)]) := (hs0 79 (by decide)).trans hk
        have hkr : ct1 80 = .inl (B.2.1 1, NL, .inr (.inl (lF g))) := (hs0 80 (by decide)).trans hkr
        have hSN : isW B ad ct1 19 SN := hSN.frame (hs0 _ (by decide)) (hs0 _ (by decide))
        have hfa := hfa.frame (ct' := ct1) (hs0 _ (by decide)) (hs0 _ (by decide))
        have hlw := hlw.frame (ct' := ct1) (hs0 _ (by decide)) (hs0 _ (by decide))
        have hhg := hhg.frame (ct' := ct1) (hs0 _ (by decide)) (hs0 _ (by decide))
        have hwv : ∀ i, i < 26 → isW B ad ct1 (27 + 2 * i) (wv i) := fun i hi => (hwv i hi).frame (hs0 _ (by omega)) (hs0 _ (by omega))
        have hfr : ∀ r, r < 15 ∨ (15 < r ∧ r < 21) ∨ 80 < r → ct1 r = ct r := fun r h => hs0 r (by omega)
        refine g_aload_n fx 0 dX9_fillLastRow_30 rfl ?_
        refine g_get (r := 11) fx lkX9_27 (by omega) hw rfl dX9_fillLastRow_31 ?_
        refine g_iload_n fx 1 dX9_fillLastRow_34 rfl ?_
        refine g_aald (r := 16) (j := (C * r)) (t0 := 3) fx rfl (by omega) hwr (nI_toInt (by omega)) (by omega) rfl dX9_fillLastRow_35 ?_
        refine g_astore_n (L' := [(2, .ref (ad (27 + 2 * (C * r)))), (0, .ref (ad 11)), (1, .int (nI (C * r)))]) fx dX9_fillLastRow_36 (by decide) rfl ?_
        refine g_aload_n fx 0 dX9_fillLastRow_37 rfl ?_
        refine g_aload_n fx 1 dX9_fillLastRow_38 rfl ?_
        refine g_get (r := 11) fx lkX9_36 (by omega) hw rfl dX9_fillLastRow_39 ?_
        refine g_callVip (As := [.ref (ad 19)]) (rest := []) fx slX9_140 (c_X10_compare B ad ct1 n (27 + 2 * (C * r)) 19 (wv (C * r)) SN (by omega) (by omega) (by omega) (by omega) (by omega) (hwv (C * r) (by omega)) hSN) (by omega) (isW.ob (hwv (C * r) (by omega))).choose_spec rfl rfl rfl (Nat.le_of_ble_eq_true rfl) ⟨by decide, by decide⟩ ⟨by decide, by decide⟩ dX9_fillLastRow_42 (fun q3 hq3 => ?_)
        obtain rfl := hq3
        refine g_istore_n (L' := [(3, .int (cmpI (wv (C * r)) SN)), (2, .ref (ad (27 + 2 * (C * r)))), (0, .ref (ad 11)), (1, .int (nI (C * r)))]) fx dX9_fillLastRow_45 (by decide) rfl ?_
        refine g_iload_n fx 0 dX9_fillLastRow_46 rfl ?_
        refine g_if_gt fx 58 dX9_fillLastRow_47 (by decide) (fun c47 => ?_) (fun c47 => ?_)
        · skip
          have hcdA : ¬ ((wv (C * r)) ≤ SN) := fun w => Int32.not_le.mpr c47 (cmp_nonpos.mpr w)
          have hfa : isW B ad ct1 21 ((sFar cm C (C * R) SN vs cn) + (if (wv (C * r)) ≤ SN then (wv (C * r)) else 0)) := by rw [if_neg hcdA, Nat.add_zero]; exact hfa
          refine g_aload_n fx 2 dX9_fillLastRow_58 rfl ?_
          refine g_get (r := 11) fx lkX9_22 (by omega) hw rfl dX9_fillLastRow_59 ?_
          refine g_iconst (v := nI 0) fx dX9_fillLastRow_62 (by decide +kernel) ?_
          refine g_iald (r := 15) (j := 0) fx (by omega) hv (nI_toInt (by omega)) (by omega) dX9_fillLastRow_63 ?_
          refine g_isi (y := nI (v1 0)) rfl ?_
          refine g_aload_n fx 2 dX9_fillLastRow_64 rfl ?_
          refine g_get (r := 11) fx lkX9_102 (by omega) hw rfl dX9_fillLastRow_65 ?_
          have hv00 := hv60 0 (by omega)
          refine g_icmp_gt fx 79 dX9_fillLastRow_68 (by decide) (fun c68 => ?_) (fun c68 => ?_)
          · skip
            have hcdB : ¬ (v1 0 ≤ co) := Nat.not_le.mpr ((nI_ltI (by omega) (by omega)).mp c68)
            have hlw : isW B ad ct1 23 ((sLow cm C (C * R) co vs cn) + (if v1 0 ≤ co then (wv (C * r)) else 0)) := by rw [if_neg hcdB, Nat.add_zero]; exact hlw
            refine g_aload_n fx 2 dX9_fillLastRow_79 rfl ?_
            refine g_get (r := 11) fx lkX9_22 (by omega) hw rfl dX9_fillLastRow_80 ?_
            refine g_iconst (v := nI 0) fx dX9_fillLastRow_83 (by decide +kernel) ?_
            refine g_iald (r := 15) (j := 0) fx (by omega) hv (nI_toInt (by omega)) (by omega) dX9_fillLastRow_84 ?_
            refine g_isi (y := nI (v1 0)) rfl ?_
            refine g_aload_n fx 2 dX9_fillLastRow_85 rfl ?_
            refine g_get (r := 11) fx lkX9_102 (by omega) hw rfl dX9_fillLastRow_86 ?_
            refine g_icmp_lt fx 100 dX9_fillLastRow_89 (by decide) (fun c89 => ?_) (fun c89 => ?_)
            · skip
              have hcdC : ¬ (co ≤ v1 0) := Nat.not_le.mpr ((nI_ltI (by omega) (by omega)).mp c89)
              have hhg : isW B ad ct1 25 ((sHigh cm C (C * R) co vs cn) + (if co ≤ v1 0 then (wv (C * r)) else 0)) := by rw [if_neg hcdC, Nat.add_zero]; exact hhg
              refine g_aload_n fx 2 dX9_fillLastRow_100 rfl ?_
              refine g_get (r := 11) fx lkX9_76 (by omega) hw rfl dX9_fillLastRow_101 ?_
              refine g_ifnull fx dX9_fillLastRow_104 ?_
              refine g_aload_n fx 2 dX9_fillLastRow_107 rfl ?_
              refine g_get (r := 11) fx lkX9_76 (by omega) hw rfl dX9_fillLastRow_108 ?_
              refine g_aload_n fx 2 dX9_fillLastRow_111 rfl ?_
              refine g_get (r := 11) fx lkX9_22 (by omega) hw rfl dX9_fillLastRow_112 ?_
              refine g_iload_n fx 0 dX9_fillLastRow_115 rfl ?_
              refine g_callVv (As := [.ref (ad 15), .int (cmpI (wv (C * r)) SN)]) (rest := []) fx slX9_147 (c_X0_keep B ad ct1 n R C sd cn NL g hn hk hkr hR5 hC5 hsd (by omega) hNL v1 hv (fun k hk => by have := hv60 k (by rw [Nat.mul_comm]; exact hk); omega) (by rw [Nat.mul_comm, hCR]; omega) (cmpI (wv (C * r)) SN) (ccode (wv (C * r)) SN) cmp_code ccode_le hrm) (by omega) hk rfl rfl rfl (Nat.le_of_ble_eq_true rfl) ⟨by decide, by decide⟩ ⟨by decide, by decide⟩ dX9_fillLastRow_116 (fun ct8 hz8 => ?_)
              obtain ⟨g8, hk8, hkr8, hg8, hg8b, hs8⟩ := hz8
              rw [← hWc] at hg8
              refine g_vret fx rt dX9_fillLastRow_119 ?_
              refine gPv.mk ⟨v1, g8, va_up vs cn v1, wv, (hs8 15 (by decide) (by decide)).trans hv, hv1, ⟨hSN.frame (hs8 _ (by decide) (by decide)) (hs8 _ (by decide) (by decide)), ?_, ?_, ?_, fun i hi => (hwv i hi).frame (hs8 _ (by omega) (by omega)) (hs8 _ (by omega) (by omega)), hk8, hkr8, hKP.keep hlv (by rw [hli, ← hb]) hg8 hg8b⟩, fun j hj => va_up_ne _ _ (by omega), fun _ _ => rfl, ?_, fun r h => (hs8 r (by omega) (by omega)).trans (hfr r h)⟩
              · have e : sFar cm C (C * R) SN (va_up vs cn v1) (cn + 1) = _ := s_up (f := fun t => if Wc cm C (C * R) t ≤ SN then Wc cm C (C * R) t else 0)
                rw [e, hWc]; exact hfa.frame (hs8 _ (by decide) (by decide)) (hs8 _ (by decide) (by decide))
              · have e : sLow cm C (C * R) co (va_up vs cn v1) (cn + 1) = _ := s_up (f := fun t => if t 0 ≤ co then Wc cm C (C * R) t else 0)
                rw [e, hWc]; exact hlw.frame (hs8 _ (by decide) (by decide)) (hs8 _ (by decide) (by decide))
              · have e : sHigh cm C (C * R) co (va_up vs cn v1) (cn + 1) = _ := s_up (f := fun t => if co ≤ t 0 then Wc cm C (C * R) t else 0)
                rw [e, hWc]; exact hhg.frame (hs8 _ (by decide) (by decide)) (hs8 _ (by decide) (by decide))
              · have e : sTot cm C (C * R) (va_up vs cn v1) (cn + 1) = _ := s_up (f := fun t => Wc cm C (C * R) t)
                rw [e, hWc, Nat.mul_one]; rfl
            · skip
              have hcdC : co ≤ v1 0 := Nat.le_of_not_lt (fun q => c89 ((nI_ltI (by omega) (by omega)).mpr q))
              refine g_aload_n fx 2 dX9_fillLastRow_92 rfl ?_
              refine g_get (r := 11) fx lkX9_45 (by omega) hw rfl dX9_fillLastRow_93 ?_
              refine g_aload_n fx 1 dX9_fillLastRow_96 rfl ?_
              refine g_callVv (As := [.ref (ad (27 + 2 * (C * r)))]) (rest := []) fx slX9_144 (c_X10_add B ad ct1 n 25 (27 + 2 * (C * r)) (sHigh cm C (C * R) co vs cn) (wv (C * r)) (by omega) (by omega) (by omega) (by omega) (by omega) hhg (hwv (C * r) (by omega)) (up_bd hbh (by omega) hcmf hpw)) (by omega) (isW.ob hhg).choose_spec rfl rfl rfl (Nat.le_of_ble_eq_true rfl) ⟨by decide, by decide⟩ ⟨by decide, by decide⟩ dX9_fillLastRow_97 (fun cta3 hza3 => ?_)
              obtain ⟨hac, hs3⟩ := hza3
              have hfa := hfa.other hs3 (by omega) (by omega) (by omega)
              have hlw := hlw.other hs3 (by omega) (by omega) (by omega)
              have hhg := hac
              have hw : cta3 11 = .inr (9, [.ref (ad 12), .ref (ad 13), .ref (ad 14), .ref (ad 15), .ref (ad 16), .int (nI R), .int (nI C), .int (nI co), .int (nI F), .ref (ad 79), .ref (ad 17), .ref (ad 19), .ref (ad 21), .ref (ad 23), .ref (ad 25)]) := (hs3 11 (by omega) (by omega)).trans hw
              have hcl : cta3 14 = .inl (B.2.1 0, 5, .inl (nF cl)) := (hs3 14 (by omega) (by omega)).trans hcl
              have hv : cta3 15 = .inl (B.2.1 0, 25, .inl (nF v1)) := (hs3 15 (by omega) (by omega)).trans hv
              have hk : cta3 79 = .inr (0, [.ref (ad 80), .int (nI R), .int (nI C), .int (nI sd), .int (nI cn)]) := (hs3 79 (by omega) (by omega)).trans hk
              have hkr : cta3 80 = .inl (B.2.1 1, NL, .inr (.inl (lF g))) := (hs3 80 (by omega) (by omega)).trans hkr
              have hSN : isW B ad cta3 19 SN := hSN.other hs3 (by omega) (by omega) (by omega)
              have hwv : ∀ i, i < 26 → isW B ad cta3 (27 + 2 * i) (wv i) := fun i hi => (hwv i hi).other hs3 (by omega) (by omega) (by omega)
              have hfr : ∀ r, r < 15 ∨ (15 < r ∧ r < 21) ∨ 80 < r → cta3 r = ct r := fun r h => (hs3 r (by omega) (by omega)).trans (hfr r h)
              have hhg : isW B ad cta3 25 ((sHigh cm C (C * R) co vs cn) + (if co ≤ v1 0 then (wv (C * r)) else 0)) := by rw [if_pos hcdC]; exact hhg
              refine g_aload_n fx 2 dX9_fillLastRow_100 rfl ?_
              refine g_get (r := 11) fx lkX9_76 (by omega) hw rfl dX9_fillLastRow_101 ?_
              refine g_ifnull fx dX9_fillLastRow_104 ?_
              refine g_aload_n fx 2 dX9_fillLastRow_107 rfl ?_
              refine g_get (r := 11) fx lkX9_76 (by omega) hw rfl dX9_fillLastRow_108 ?_
              refine g_aload_n fx 2 dX9_fillLastRow_111 rfl ?_
              refine g_get (r := 11) fx lkX9_22 (by omega) hw rfl dX9_fillLastRow_112 ?_
              refine g_iload_n fx 0 dX9_fillLastRow_115 rfl ?_
              refine g_callVv (As := [.ref (ad 15), .int (cmpI (wv (C * r)) SN)]) (rest := []) fx slX9_147 (c_X0_keep B ad cta3 n R C sd cn NL g hn hk hkr hR5 hC5 hsd (by omega) hNL v1 hv (fun k hk => by have := hv60 k (by rw [Nat.mul_comm]; exact hk); omega) (by rw [Nat.mul_comm, hCR]; omega) (cmpI (wv (C * r)) SN) (ccode (wv (C * r)) SN) cmp_code ccode_le hrm) (by omega) hk rfl rfl rfl (Nat.le_of_ble_eq_true rfl) ⟨by decide, by decide⟩ ⟨by decide, by decide⟩ dX9_fillLastRow_116 (fun ct8 hz8 => ?_)
              obtain ⟨g8, hk8, hkr8, hg8, hg8b, hs8⟩ := hz8
              rw [← hWc] at hg8
              refine g_vret fx rt dX9_fillLastRow_119 ?_
              refine gPv.mk ⟨v1, g8, va_up vs cn v1, wv, (hs8 15 (by decide) (by decide)).trans hv, hv1, ⟨hSN.frame (hs8 _ (by decide) (by decide)) (hs8 _ (by decide) (by decide)), ?_, ?_, ?_, fun i hi => (hwv i hi).frame (hs8 _ (by omega) (by omega)) (hs8 _ (by omega) (by omega)), hk8, hkr8, hKP.keep hlv (by rw [hli, ← hb]) hg8 hg8b⟩, fun j hj => va_up_ne _ _ (by omega), fun _ _ => rfl, ?_, fun r h => (hs8 r (by omega) (by omega)).trans (hfr r h)⟩
              · have e : sFar cm C (C * R) SN (va_up vs cn v1) (cn + 1) = _ := s_up (f := fun t => if Wc cm C (C * R) t ≤ SN then Wc cm C (C * R) t else 0)
                rw [e, hWc]; exact hfa.frame (hs8 _ (by decide) (by decide)) (hs8 _ (by decide) (by decide))
              · have e : sLow cm C (C * R) co (va_up vs cn v1) (cn + 1) = _ := s_up (f := fun t => if t 0 ≤ co then Wc cm C (C * R) t else 0)
                rw [e, hWc]; exact hlw.frame (hs8 _ (by decide) (by decide)) (hs8 _ (by decide) (by decide))
              · have e : sHigh cm C (C * R) co (va_up vs cn v1) (cn + 1) = _ := s_up (f := fun t => if co ≤ t 0 then Wc cm C (C * R) t else 0)
                rw [e, hWc]; exact hhg.frame (hs8 _ (by decide) (by decide)) (hs8 _ (by decide) (by decide))
              · have e : sTot cm C (C * R) (va_up vs cn v1) (cn + 1) = _ := s_up (f := fun t => Wc cm C (C * R) t)
                rw [e, hWc, Nat.mul_one]; rfl
          · skip
            have hcdB : v1 0 ≤ co := Nat.le_of_not_lt (fun q => c68 ((nI_ltI (by omega) (by omega)).mpr q))
            refine g_aload_n fx 2 dX9_fillLastRow_71 rfl ?_
            refine g_get (r := 11) fx lkX9_42 (by omega) hw rfl dX9_fillLastRow_72 ?_
            refine g_aload_n fx 1 dX9_fillLastRow_75 rfl ?_
            refine g_callVv (As := [.ref (ad (27 + 2 * (C * r)))]) (rest := []) fx slX9_144 (c_X10_add B ad ct1 n 23 (27 + 2 * (C * r)) (sLow cm C (C * R) co vs cn) (wv (C * r)) (by omega) (by omega) (by omega) (by omega) (by omega) hlw (hwv (C * r) (by omega)) (up_bd hbl (by omega) hcmf hpw)) (by omega) (isW.ob hlw).choose_spec rfl rfl rfl (Nat.le_of_ble_eq_true rfl) ⟨by decide, by decide⟩ ⟨by decide, by decide⟩ dX9_fillLastRow_76 (fun cta2 hza2 => ?_)
            obtain ⟨hac, hs2⟩ := hza2
            have hfa := hfa.other hs2 (by omega) (by omega) (by omega)
            have hhg := hhg.other hs2 (by omega) (by omega) (by omega)
            have hlw := hac
            have hw : cta2 11 = .inr (9, [.ref (ad 12), .ref (ad 13), .ref (ad 14), .ref (ad 15), .ref (ad 16), .int (nI R), .int (nI C), .int (nI co), .int (nI F), .ref (ad 79), .ref (ad 17), .ref (ad 19), .ref (ad 21), .ref (ad 23), .ref (ad 25)]) := (hs2 11 (by omega) (by omega)).trans hw
            have hcl : cta2 14 = .inl (B.2.1 0, 5, .inl (nF cl)) := (hs2 14 (by omega) (by omega)).trans hcl
            have hv : cta2 15 = .inl (B.2.1 0, 25, .inl (nF v1)) := (hs2 15 (by omega) (by omega)).trans hv
            have hk : cta2 79 = .inr (0, [.ref (ad 80), .int (nI R), .int (nI C), .int (nI sd), .int (nI cn)]) := (hs2 79 (by omega) (by omega)).trans hk
            have hkr : cta2 80 = .inl (B.2.1 1, NL, .inr (.inl (lF g))) := (hs2 80 (by omega) (by omega)).trans hkr
            have hSN : isW B ad cta2 19 SN := hSN.other hs2 (by omega) (by omega) (by omega)
            have hwv : ∀ i, i < 26 → isW B ad cta2 (27 + 2 * i) (wv i) := fun i hi => (hwv i hi).other hs2 (by omega) (by omega) (by omega)
            have hfr : ∀ r, r < 15 ∨ (15 < r ∧ r < 21) ∨ 80 < r → cta2 r = ct r := fun r h => (hs2 r (by omega) (by omega)).trans (hfr r h)
            have hlw : isW B ad cta2 23 ((sLow cm C (C * R) co vs cn) + (if v1 0 ≤ co then (wv (C * r)) else 0)) := by rw [if_pos hcdB]; exact hlw
            refine g_aload_n fx 2 dX9_fillLastRow_79 rfl ?_
            refine g_get (r := 11) fx lkX9_22 (by omega) hw rfl dX9_fillLastRow_80 ?_
            refine g_iconst (v := nI 0) fx dX9_fillLastRow_83 (by decide +kernel) ?_
            refine g_iald (r := 15) (j := 0) fx (by omega) hv (nI_toInt (by omega)) (by omega) dX9_fillLastRow_84 ?_
            refine g_isi (y := nI (v1 0)) rfl ?_
            refine g_aload_n fx 2 dX9_fillLastRow_85 rfl ?_
            refine g_get (r := 11) fx lkX9_102 (by omega) hw rfl dX9_fillLastRow_86 ?_
            refine g_icmp_lt fx 100 dX9_fillLastRow_89 (by decide) (fun c89 => ?_) (fun c89 => ?_)
            · skip
              have hcdC : ¬ (co ≤ v1 0) := Nat.not_le.mpr ((nI_ltI (by omega) (by omega)).mp c89)
              have hhg : isW B ad cta2 25 ((sHigh cm C (C * R) co vs cn) + (if co ≤ v1 0 then (wv (C * r)) else 0)) := by rw [if_neg hcdC, Nat.add_zero]; exact hhg
              refine g_aload_n fx 2 dX9_fillLastRow_100 rfl ?_
              refine g_get (r := 11) fx lkX9_76 (by omega) hw rfl dX9_fillLastRow_101 ?_
              refine g_ifnull fx dX9_fillLastRow_104 ?_
              refine g_aload_n fx 2 dX9_fillLastRow_107 rfl ?_
              refine g_get (r := 11) fx lkX9_76 (by omega) hw rfl dX9_fillLastRow_108 ?_
              refine g_aload_n fx 2 dX9_fillLastRow_111 rfl ?_
              refine g_get (r := 11) fx lkX9_22 (by omega) hw rfl dX9_fillLastRow_112 ?_
              refine g_iload_n fx 0 dX9_fillLastRow_115 rfl ?_
              refine g_callVv (As := [.ref (ad 15), .int (cmpI (wv (C * r)) SN)]) (rest := []) fx slX9_147 (c_X0_keep B ad cta2 n R C sd cn NL g hn hk hkr hR5 hC5 hsd (by omega) hNL v1 hv (fun k hk => by have := hv60 k (by rw [Nat.mul_comm]; exact hk); omega) (by rw [Nat.mul_comm, hCR]; omega) (cmpI (wv (C * r)) SN) (ccode (wv (C * r)) SN) cmp_code ccode_le hrm) (by omega) hk rfl rfl rfl (Nat.le_of_ble_eq_true rfl) ⟨by decide, by decide⟩ ⟨by decide, by decide⟩ dX9_fillLastRow_116 (fun ct8 hz8 => ?_)
              obtain ⟨g8, hk8, hkr8, hg8, hg8b, hs8⟩ := hz8
              rw [← hWc] at hg8
              refine g_vret fx rt dX9_fillLastRow_119 ?_
              refine gPv.mk ⟨v1, g8, va_up vs cn v1, wv, (hs8 15 (by decide) (by decide)).trans hv, hv1, ⟨hSN.frame (hs8 _ (by decide) (by decide)) (hs8 _ (by decide) (by decide)), ?_, ?_, ?_, fun i hi => (hwv i hi).frame (hs8 _ (by omega) (by omega)) (hs8 _ (by omega) (by omega)), hk8, hkr8, hKP.keep hlv (by rw [hli, ← hb]) hg8 hg8b⟩, fun j hj => va_up_ne _ _ (by omega), fun _ _ => rfl, ?_, fun r h => (hs8 r (by omega) (by omega)).trans (hfr r h)⟩
              · have e : sFar cm C (C * R) SN (va_up vs cn v1) (cn + 1) = _ := s_up (f := fun t => if Wc cm C (C * R) t ≤ SN then Wc cm C (C * R) t else 0)
                rw [e, hWc]; exact hfa.frame (hs8 _ (by decide) (by decide)) (hs8 _ (by decide) (by decide))
              · have e : sLow cm C (C * R) co (va_up vs cn v1) (cn + 1) = _ := s_up (f := fun t => if t 0 ≤ co then Wc cm C (C * R) t else 0)
                rw [e, hWc]; exact hlw.frame (hs8 _ (by decide) (by decide)) (hs8 _ (by decide) (by decide))
              · have e : sHigh cm C (C * R) co (va_up vs cn v1) (cn + 1) = _ := s_up (f := fun t => if co ≤ t 0 then Wc cm C (C * R) t else 0)
                rw [e, hWc]; exact hhg.frame (hs8 _ (by decide) (by decide)) (hs8 _ (by decide) (by decide))
              · have e : sTot cm C (C * R) (va_up vs cn v1) (cn + 1) = _ := s_up (f := fun t => Wc cm C (C * R) t)
                rw [e, hWc, Nat.mul_one]; rfl
            · skip
              have hcdC : co ≤ v1 0 := Nat.le_of_not_lt (fun q => c89 ((nI_ltI (by omega) (by omega)).mpr q))
              refine g_aload_n fx 2 dX9_fillLastRow_92 rfl ?_
              refine g_get (r := 11) fx lkX9_45 (by omega) hw rfl dX9_fillLastRow_93 ?_
              refine g_aload_n fx 1 dX9_fillLastRow_96 rfl ?_
              refine g_callVv (As := [.ref (ad (27 + 2 * (C * r)))]) (rest := []) fx slX9_144 (c_X10_add B ad cta2 n 25 (27 + 2 * (C * r)) (sHigh cm C (C * R) co vs cn) (wv (C * r)) (by omega) (by omega) (by omega) (by omega) (by omega) hhg (hwv (C * r) (by omega)) (up_bd hbh (by omega) hcmf hpw)) (by omega) (isW.ob hhg).choose_spec rfl rfl rfl (Nat.le_of_ble_eq_true rfl) ⟨by decide, by decide⟩ ⟨by decide, by decide⟩ dX9_fillLastRow_97 (fun cta3 hza3 => ?_)
              obtain ⟨hac, hs3⟩ := hza3
              have hfa := hfa.other hs3 (by omega) (by omega) (by omega)
              have hlw := hlw.other hs3 (by omega) (by omega) (by omega)
              have hhg := hac
              have hw : cta3 11 = .inr (9, [.ref (ad 12), .ref (ad 13), .ref (ad 14), .ref (ad 15), .ref (ad 16), .int (nI R), .int (nI C), .int (nI co), .int (nI F), .ref (ad 79), .ref (ad 17), .ref (ad 19), .ref (ad 21), .ref (ad 23), .ref (ad 25)]) := (hs3 11 (by omega) (by omega)).trans hw
              have hcl : cta3 14 = .inl (B.2.1 0, 5, .inl (nF cl)) := (hs3 14 (by omega) (by omega)).trans hcl
              have hv : cta3 15 = .inl (B.2.1 0, 25, .inl (nF v1)) := (hs3 15 (by omega) (by omega)).trans hv
              have hk : cta3 79 = .inr (0, [.ref (ad 80), .int (nI R), .int (nI C), .int (nI sd), .int (nI cn)]) := (hs3 79 (by omega) (by omega)).trans hk
              have hkr : cta3 80 = .inl (B.2.1 1, NL, .inr (.inl (lF g))) := (hs3 80 (by omega) (by omega)).trans hkr
              have hSN : isW B ad cta3 19 SN := hSN.other hs3 (by omega) (by omega) (by omega)
              have hwv : ∀ i, i < 26 → isW B ad cta3 (27 + 2 * i) (wv i) := fun i hi => (hwv i hi).other hs3 (by omega) (by omega) (by omega)
              have hfr : ∀ r, r < 15 ∨ (15 < r ∧ r < 21) ∨ 80 < r → cta3 r = ct r := fun r h => (hs3 r (by omega) (by omega)).trans (hfr r h)
              have hhg : isW B ad cta3 25 ((sHigh cm C (C * R) co vs cn) + (if co ≤ v1 0 then (wv (C * r)) else 0)) := by rw [if_pos hcdC]; exact hhg
              refine g_aload_n fx 2 dX9_fillLastRow_100 rfl ?_
              refine g_get (r := 11) fx lkX9_76 (by omega) hw rfl dX9_fillLastRow_101 ?_
              refine g_ifnull fx dX9_fillLastRow_104 ?_
              refine g_aload_n fx 2 dX9_fillLastRow_107 rfl ?_
              refine g_get (r := 11) fx lkX9_76 (by omega) hw rfl dX9_fillLastRow_108 ?_
              refine g_aload_n fx 2 dX9_fillLastRow_111 rfl ?_
              refine g_get (r := 11) fx lkX9_22 (by omega) hw rfl dX9_fillLastRow_112 ?_
              refine g_iload_n fx 0 dX9_fillLastRow_115 rfl ?_
              refine g_callVv (As := [.ref (ad 15), .int (cmpI (wv (C * r)) SN)]) (rest := []) fx slX9_147 (c_X0_keep B ad cta3 n R C sd cn NL g hn hk hkr hR5 hC5 hsd (by omega) hNL v1 hv (fun k hk => by have := hv60 k (by rw [Nat.mul_comm]; exact hk); omega) (by rw [Nat.mul_comm, hCR]; omega) (cmpI (wv (C * r)) SN) (ccode (wv (C * r)) SN) cmp_code ccode_le hrm) (by omega) hk rfl rfl rfl (Nat.le_of_ble_eq_true rfl) ⟨by decide, by decide⟩ ⟨by decide, by decide⟩ dX9_fillLastRow_116 (fun ct8 hz8 => ?_)
              obtain ⟨g8, hk8, hkr8, hg8, hg8b, hs8⟩ := hz8
              rw [← hWc] at hg8
              refine g_vret fx rt dX9_fillLastRow_119 ?_
              refine gPv.mk ⟨v1, g8, va_up vs cn v1, wv, (hs8 15 (by decide) (by decide)).trans hv, hv1, ⟨hSN.frame (hs8 _ (by decide) (by decide)) (hs8 _ (by decide) (by decide)), ?_, ?_, ?_, fun i hi => (hwv i hi).frame (hs8 _ (by omega) (by omega)) (hs8 _ (by omega) (by omega)), hk8, hkr8, hKP.keep hlv (by rw [hli, ← hb]) hg8 hg8b⟩, fun j hj => va_up_ne _ _ (by omega), fun _ _ => rfl, ?_, fun r h => (hs8 r (by omega) (by omega)).trans (hfr r h)⟩
              · have e : sFar cm C (C * R) SN (va_up vs cn v1) (cn + 1) = _ := s_up (f := fun t => if Wc cm C (C * R) t ≤ SN then Wc cm C (C * R) t else 0)
                rw [e, hWc]; exact hfa.frame (hs8 _ (by decide) (by decide)) (hs8 _ (by decide) (by decide))
              · have e : sLow cm C (C * R) co (va_up vs cn v1) (cn + 1) = _ := s_up (f := fun t => if t 0 ≤ co then Wc cm C (C * R) t else 0)
                rw [e, hWc]; exact hlw.frame (hs8 _ (by decide) (by decide)) (hs8 _ (by decide) (by decide))
              · have e : sHigh cm C (C * R) co (va_up vs cn v1) (cn + 1) = _ := s_up (f := fun t => if co ≤ t 0 then Wc cm C (C * R) t else 0)
                rw [e, hWc]; exact hhg.frame (hs8 _ (by decide) (by decide)) (hs8 _ (by decide) (by decide))
              · have e : sTot cm C (C * R) (va_up vs cn v1) (cn + 1) = _ := s_up (f := fun t => Wc cm C (C * R) t)
                rw [e, hWc, Nat.mul_one]; rfl
        · skip
          have hcdA : (wv (C * r)) ≤ SN := cmp_nonpos.mp (Int32.not_lt.mp c47)
          refine g_aload_n fx 2 dX9_fillLastRow_50 rfl ?_
          refine g_get (r := 11) fx lkX9_39 (by omega) hw rfl dX9_fillLastRow_51 ?_
          refine g_aload_n fx 1 dX9_fillLastRow_54 rfl ?_
          refine g_callVv (As := [.ref (ad (27 + 2 * (C * r)))]) (rest := []) fx slX9_144 (c_X10_add B ad ct1 n 21 (27 + 2 * (C * r)) (sFar cm C (C * R) SN vs cn) (wv (C * r)) (by omega) (by omega) (by omega) (by omega) (by omega) hfa (hwv (C * r) (by omega)) (up_bd hbf (by omega) hcmf hpw)) (by omega) (isW.ob hfa).choose_spec rfl rfl rfl (Nat.le_of_ble_eq_true rfl) ⟨by decide, by decide⟩ ⟨by decide, by decide⟩ dX9_fillLastRow_55 (fun cta1 hza1 => ?_)
          obtain ⟨hac, hs1⟩ := hza1
          have hlw := hlw.other hs1 (by omega) (by omega) (by omega)
          have hhg := hhg.other hs1 (by omega) (by omega) (by omega)
          have hfa := hac
          have hw : cta1 11 = .inr (9, [.ref (ad 12), .ref (ad 13), .ref (ad 14), .ref (ad 15), .ref (ad 16), .int (nI R), .int (nI C), .int (nI co), .int (nI F), .ref (ad 79), .ref (ad 17), .ref (ad 19), .ref (ad 21), .ref (ad 23), .ref (ad 25)]) := (hs1 11 (by omega) (by omega)).trans hw
          have hcl : cta1 14 = .inl (B.2.1 0, 5, .inl (nF cl)) := (hs1 14 (by omega) (by omega)).trans hcl
          have hv : cta1 15 = .inl (B.2.1 0, 25, .inl (nF v1)) := (hs1 15 (by omega) (by omega)).trans hv
          have hk : cta1 79 = .inr (0, [.ref (ad 80), .int (nI R), .int (nI C), .int (nI sd), .int (nI cn)]) := (hs1 79 (by omega) (by omega)).trans hk
          have hkr : cta1 80 = .inl (B.2.1 1, NL, .inr (.inl (lF g))) := (hs1 80 (by omega) (by omega)).trans hkr
          have hSN : isW B ad cta1 19 SN := hSN.other hs1 (by omega) (by omega) (by omega)
          have hwv : ∀ i, i < 26 → isW B ad cta1 (27 + 2 * i) (wv i) := fun i hi => (hwv i hi).other hs1 (by omega) (by omega) (by omega)
          have hfr : ∀ r, r < 15 ∨ (15 < r ∧ r < 21) ∨ 80 < r → cta1 r = ct r := fun r h => (hs1 r (by omega) (by omega)).trans (hfr r h)
          have hfa : isW B ad cta1 21 ((sFar cm C (C * R) SN vs cn) + (if (wv (C * r)) ≤ SN then (wv (C * r)) else 0)) := by rw [if_pos hcdA]; exact hfa
          refine g_aload_n fx 2 dX9_fillLastRow_58 rfl ?_
          refine g_get (r := 11) fx lkX9_22 (by omega) hw rfl dX9_fillLastRow_59 ?_
          refine g_iconst (v := nI 0) fx dX9_fillLastRow_62 (by decide +kernel) ?_
          refine g_iald (r := 15) (j := 0) fx (by omega) hv (nI_toInt (by omega)) (by omega) dX9_fillLastRow_63 ?_
          refine g_isi (y := nI (v1 0)) rfl ?_
          refine g_aload_n fx 2 dX9_fillLastRow_64 rfl ?_
          refine g_get (r := 11) fx lkX9_102 (by omega) hw rfl dX9_fillLastRow_65 ?_
          have hv00 := hv60 0 (by omega)
          refine g_icmp_gt fx 79 dX9_fillLastRow_68 (by decide) (fun c68 => ?_) (fun c68 => ?_)
          · skip
            have hcdB : ¬ (v1 0 ≤ co) := Nat.not_le.mpr ((nI_ltI (by omega) (by omega)).mp c68)
            have hlw : isW B ad cta1 23 ((sLow cm C (C * R) co vs cn) + (if v1 0 ≤ co then (wv (C * r)) else 0)) := by rw [if_neg hcdB, Nat.add_zero]; exact hlw
            refine g_aload_n fx 2 dX9_fillLastRow_79 rfl ?_
            refine g_get (r := 11) fx lkX9_22 (by omega) hw rfl dX9_fillLastRow_80 ?_
            refine g_iconst (v := nI 0) fx dX9_fillLastRow_83 (by decide +kernel) ?_
            refine g_iald (r := 15) (j := 0) fx (by omega) hv (nI_toInt (by omega)) (by omega) dX9_fillLastRow_84 ?_
            refine g_isi (y := nI (v1 0)) rfl ?_
            refine g_aload_n fx 2 dX9_fillLastRow_85 rfl ?_
            refine g_get (r := 11) fx lkX9_102 (by omega) hw rfl dX9_fillLastRow_86 ?_
            refine g_icmp_lt fx 100 dX9_fillLastRow_89 (by decide) (fun c89 => ?_) (fun c89 => ?_)
            · skip
              have hcdC : ¬ (co ≤ v1 0) := Nat.not_le.mpr ((nI_ltI (by omega) (by omega)).mp c89)
              have hhg : isW B ad cta1 25 ((sHigh cm C (C * R) co vs cn) + (if co ≤ v1 0 then (wv (C * r)) else 0)) := by rw [if_neg hcdC, Nat.add_zero]; exact hhg
              refine g_aload_n fx 2 dX9_fillLastRow_100 rfl ?_
              refine g_get (r := 11) fx lkX9_76 (by omega) hw rfl dX9_fillLastRow_101 ?_
              refine g_ifnull fx dX9_fillLastRow_104 ?_
              refine g_aload_n fx 2 dX9_fillLastRow_107 rfl ?_
              refine g_get (r := 11) fx lkX9_76 (by omega) hw rfl dX9_fillLastRow_108 ?_
              refine g_aload_n fx 2 dX9_fillLastRow_111 rfl ?_
              refine g_get (r := 11) fx lkX9_22 (by omega) hw rfl dX9_fillLastRow_112 ?_
              refine g_iload_n fx 0 dX9_fillLastRow_115 rfl ?_
              refine g_callVv (As := [.ref (ad 15), .int (cmpI (wv (C * r)) SN)]) (rest := []) fx slX9_147 (c_X0_keep B ad cta1 n R C sd cn NL g hn hk hkr hR5 hC5 hsd (by omega) hNL v1 hv (fun k hk => by have := hv60 k (by rw [Nat.mul_comm]; exact hk); omega) (by rw [Nat.mul_comm, hCR]; omega) (cmpI (wv (C * r)) SN) (ccode (wv (C * r)) SN) cmp_code ccode_le hrm) (by omega) hk rfl rfl rfl (Nat.le_of_ble_eq_true rfl) ⟨by decide, by decide⟩ ⟨by decide, by decide⟩ dX9_fillLastRow_116 (fun ct8 hz8 => ?_)
              obtain ⟨g8, hk8, hkr8, hg8, hg8b, hs8⟩ := hz8
              rw [← hWc] at hg8
              refine g_vret fx rt dX9_fillLastRow_119 ?_
              refine gPv.mk ⟨v1, g8, va_up vs cn v1, wv, (hs8 15 (by decide) (by decide)).trans hv, hv1, ⟨hSN.frame (hs8 _ (by decide) (by decide)) (hs8 _ (by decide) (by decide)), ?_, ?_, ?_, fun i hi => (hwv i hi).frame (hs8 _ (by omega) (by omega)) (hs8 _ (by omega) (by omega)), hk8, hkr8, hKP.keep hlv (by rw [hli, ← hb]) hg8 hg8b⟩, fun j hj => va_up_ne _ _ (by omega), fun _ _ => rfl, ?_, fun r h => (hs8 r (by omega) (by omega)).trans (hfr r h)⟩
              · have e : sFar cm C (C * R) SN (va_up vs cn v1) (cn + 1) = _ := s_up (f := fun t => if Wc cm C (C * R) t ≤ SN then Wc cm C (C * R) t else 0)
                rw [e, hWc]; exact hfa.frame (hs8 _ (by decide) (by decide)) (hs8 _ (by decide) (by decide))
              · have e : sLow cm C (C * R) co (va_up vs cn v1) (cn + 1) = _ := s_up (f := fun t => if t 0 ≤ co then Wc cm C (C * R) t else 0)
                rw [e, hWc]; exact hlw.frame (hs8 _ (by decide) (by decide)) (hs8 _ (by decide) (by decide))
              · have e : sHigh cm C (C * R) co (va_up vs cn v1) (cn + 1) = _ := s_up (f := fun t => if co ≤ t 0 then Wc cm C (C * R) t else 0)
                rw [e, hWc]; exact hhg.frame (hs8 _ (by decide) (by decide)) (hs8 _ (by decide) (by decide))
              · have e : sTot cm C (C * R) (va_up vs cn v1) (cn + 1) = _ := s_up (f := fun t => Wc cm C (C * R) t)
                rw [e, hWc, Nat.mul_one]; rfl
            · skip
              have hcdC : co ≤ v1 0 := Nat.le_of_not_lt (fun q => c89 ((nI_ltI (by omega) (by omega)).mpr q))
              refine g_aload_n fx 2 dX9_fillLastRow_92 rfl ?_
              refine g_get (r := 11) fx lkX9_45 (by omega) hw rfl dX9_fillLastRow_93 ?_
              refine g_aload_n fx 1 dX9_fillLastRow_96 rfl ?_
              refine g_callVv (As := [.ref (ad (27 + 2 * (C * r)))]) (rest := []) fx slX9_144 (c_X10_add B ad cta1 n 25 (27 + 2 * (C * r)) (sHigh cm C (C * R) co vs cn) (wv (C * r)) (by omega) (by omega) (by omega) (by omega) (by omega) hhg (hwv (C * r) (by omega)) (up_bd hbh (by omega) hcmf hpw)) (by omega) (isW.ob hhg).choose_spec rfl rfl rfl (Nat.le_of_ble_eq_true rfl) ⟨by decide, by decide⟩ ⟨by decide, by decide⟩ dX9_fillLastRow_97 (fun cta3 hza3 => ?_)
              obtain ⟨hac, hs3⟩ := hza3
              have hfa := hfa.other hs3 (by omega) (by omega) (by omega)
              have hlw := hlw.other hs3 (by omega) (by omega) (by omega)
              have hhg := hac
              have hw : cta3 11 = .inr (9, [.ref (ad 12), .ref (ad 13), .ref (ad 14), .ref (ad 15), .ref (ad 16), .int (nI R), .int (nI C), .int (nI co), .int (nI F), .ref (ad 79), .ref (ad 17), .ref (ad 19), .ref (ad 21), .ref (ad 23), .ref (ad 25)]) := (hs3 11 (by omega) (by omega)).trans hw
              have hcl : cta3 14 = .inl (B.2.1 0, 5, .inl (nF cl)) := (hs3 14 (by omega) (by omega)).trans hcl
              have hv : cta3 15 = .inl (B.2.1 0, 25, .inl (nF v1)) := (hs3 15 (by omega) (by omega)).trans hv
              have hk : cta3 79 = .inr (0, [.ref (ad 80), .int (nI R), .int (nI C), .int (nI sd), .int (nI cn)]) := (hs3 79 (by omega) (by omega)).trans hk
              have hkr : cta3 80 = .inl (B.2.1 1, NL, .inr (.inl (lF g))) := (hs3 80 (by omega) (by omega)).trans hkr
              have hSN : isW B ad cta3 19 SN := hSN.other hs3 (by omega) (by omega) (by omega)
              have hwv : ∀ i, i < 26 → isW B ad cta3 (27 + 2 * i) (wv i) := fun i hi => (hwv i hi).other hs3 (by omega) (by omega) (by omega)
              have hfr : ∀ r, r < 15 ∨ (15 < r ∧ r < 21) ∨ 80 < r → cta3 r = ct r := fun r h => (hs3 r (by omega) (by omega)).trans (hfr r h)
              have hhg : isW B ad cta3 25 ((sHigh cm C (C * R) co vs cn) + (if co ≤ v1 0 then (wv (C * r)) else 0)) := by rw [if_pos hcdC]; exact hhg
              refine g_aload_n fx 2 dX9_fillLastRow_100 rfl ?_
              refine g_get (r := 11) fx lkX9_76 (by omega) hw rfl dX9_fillLastRow_101 ?_
              refine g_ifnull fx dX9_fillLastRow_104 ?_
              refine g_aload_n fx 2 dX9_fillLastRow_107 rfl ?_
              refine g_get (r := 11) fx lkX9_76 (by omega) hw rfl dX9_fillLastRow_108 ?_
              refine g_aload_n fx 2 dX9_fillLastRow_111 rfl ?_
              refine g_get (r := 11) fx lkX9_22 (by omega) hw rfl dX9_fillLastRow_112 ?_
              refine g_iload_n fx 0 dX9_fillLastRow_115 rfl ?_
              refine g_callVv (As := [.ref (ad 15), .int (cmpI (wv (C * r)) SN)]) (rest := []) fx slX9_147 (c_X0_keep B ad cta3 n R C sd cn NL g hn hk hkr hR5 hC5 hsd (by omega) hNL v1 hv (fun k hk => by have := hv60 k (by rw [Nat.mul_comm]; exact hk); omega) (by rw [Nat.mul_comm, hCR]; omega) (cmpI (wv (C * r)) SN) (ccode (wv (C * r)) SN) cmp_code ccode_le hrm) (by omega) hk rfl rfl rfl (Nat.le_of_ble_eq_true rfl) ⟨by decide, by decide⟩ ⟨by decide, by decide⟩ dX9_fillLastRow_116 (fun ct8 hz8 => ?_)
              obtain ⟨g8, hk8, hkr8, hg8, hg8b, hs8⟩ := hz8
              rw [← hWc] at hg8
              refine g_vret fx rt dX9_fillLastRow_119 ?_
              refine gPv.mk ⟨v1, g8, va_up vs cn v1, wv, (hs8 15 (by decide) (by decide)).trans hv, hv1, ⟨hSN.frame (hs8 _ (by decide) (by decide)) (hs8 _ (by decide) (by decide)), ?_, ?_, ?_, fun i hi => (hwv i hi).frame (hs8 _ (by omega) (by omega)) (hs8 _ (by omega) (by omega)), hk8, hkr8, hKP.keep hlv (by rw [hli, ← hb]) hg8 hg8b⟩, fun j hj => va_up_ne _ _ (by omega), fun _ _ => rfl, ?_, fun r h => (hs8 r (by omega) (by omega)).trans (hfr r h)⟩
              · have e : sFar cm C (C * R) SN (va_up vs cn v1) (cn + 1) = _ := s_up (f := fun t => if Wc cm C (C * R) t ≤ SN then Wc cm C (C * R) t else 0)
                rw [e, hWc]; exact hfa.frame (hs8 _ (by decide) (by decide)) (hs8 _ (by decide) (by decide))
              · have e : sLow cm C (C * R) co (va_up vs cn v1) (cn + 1) = _ := s_up (f := fun t => if t 0 ≤ co then Wc cm C (C * R) t else 0)
                rw [e, hWc]; exact hlw.frame (hs8 _ (by decide) (by decide)) (hs8 _ (by decide) (by decide))
              · have e : sHigh cm C (C * R) co (va_up vs cn v1) (cn + 1) = _ := s_up (f := fun t => if co ≤ t 0 then Wc cm C (C * R) t else 0)
                rw [e, hWc]; exact hhg.frame (hs8 _ (by decide) (by decide)) (hs8 _ (by decide) (by decide))
              · have e : sTot cm C (C * R) (va_up vs cn v1) (cn + 1) = _ := s_up (f := fun t => Wc cm C (C * R) t)
                rw [e, hWc, Nat.mul_one]; rfl
          · skip
            have hcdB : v1 0 ≤ co := Nat.le_of_not_lt (fun q => c68 ((nI_ltI (by omega) (by omega)).mpr q))
            refine g_aload_n fx 2 dX9_fillLastRow_71 rfl ?_
            refine g_get (r := 11) fx lkX9_42 (by omega) hw rfl dX9_fillLastRow_72 ?_
            refine g_aload_n fx 1 dX9_fillLastRow_75 rfl ?_
            refine g_callVv (As := [.ref (ad (27 + 2 * (C * r)))]) (rest := []) fx slX9_144 (c_X10_add B ad cta1 n 23 (27 + 2 * (C * r)) (sLow cm C (C * R) co vs cn) (wv (C * r)) (by omega) (by omega) (by omega) (by omega) (by omega) hlw (hwv (C * r) (by omega)) (up_bd hbl (by omega) hcmf hpw)) (by omega) (isW.ob hlw).choose_spec rfl rfl rfl (Nat.le_of_ble_eq_true rfl) ⟨by decide, by decide⟩ ⟨by decide, by decide⟩ dX9_fillLastRow_76 (fun cta2 hza2 => ?_)
            obtain ⟨hac, hs2⟩ := hza2
            have hfa := hfa.other hs2 (by omega) (by omega) (by omega)
            have hhg := hhg.other hs2 (by omega) (by omega) (by omega)
            have hlw := hac
            have hw : cta2 11 = .inr (9, [.ref (ad 12), .ref (ad 13), .ref (ad 14), .ref (ad 15), .ref (ad 16), .int (nI R), .int (nI C), .int (nI co), .int (nI F), .ref (ad 79), .ref (ad 17), .ref (ad 19), .ref (ad 21), .ref (ad 23), .ref (ad 25)]) := (hs2 11 (by omega) (by omega)).trans hw
            have hcl : cta2 14 = .inl (B.2.1 0, 5, .inl (nF cl)) := (hs2 14 (by omega) (by omega)).trans hcl
            have hv : cta2 15 = .inl (B.2.1 0, 25, .inl (nF v1)) := (hs2 15 (by omega) (by omega)).trans hv
            have hk : cta2 79 = .inr (0, [.ref (ad 80), .int (nI R), .int (nI C), .int (nI sd), .int (nI cn)]) := (hs2 79 (by omega) (by omega)).trans hk
            have hkr : cta2 80 = .inl (B.2.1 1, NL, .inr (.inl (lF g))) := (hs2 80 (by omega) (by omega)).trans hkr
            have hSN : isW B ad cta2 19 SN := hSN.other hs2 (by omega) (by omega) (by omega)
            have hwv : ∀ i, i < 26 → isW B ad cta2 (27 + 2 * i) (wv i) := fun i hi => (hwv i hi).other hs2 (by omega) (by omega) (by omega)
            have hfr : ∀ r, r < 15 ∨ (15 < r ∧ r < 21) ∨ 80 < r → cta2 r = ct r := fun r h => (hs2 r (by omega) (by omega)).trans (hfr r h)
            have hlw : isW B ad cta2 23 ((sLow cm C (C * R) co vs cn) + (if v1 0 ≤ co then (wv (C * r)) else 0)) := by rw [if_pos hcdB]; exact hlw
            refine g_aload_n fx 2 dX9_fillLastRow_79 rfl ?_
            refine g_get (r := 11) fx lkX9_22 (by omega) hw rfl dX9_fillLastRow_80 ?_
            refine g_iconst (v := nI 0) fx dX9_fillLastRow_83 (by decide +kernel) ?_
            refine g_iald (r := 15) (j := 0) fx (by omega) hv (nI_toInt (by omega)) (by omega) dX9_fillLastRow_84 ?_
            refine g_isi (y := nI (v1 0)) rfl ?_
            refine g_aload_n fx 2 dX9_fillLastRow_85 rfl ?_
            refine g_get (r := 11) fx lkX9_102 (by omega) hw rfl dX9_fillLastRow_86 ?_
            refine g_icmp_lt fx 100 dX9_fillLastRow_89 (by decide) (fun c89 => ?_) (fun c89 => ?_)
            · skip
              have hcdC : ¬ (co ≤ v1 0) := Nat.not_le.mpr ((nI_ltI (by omega) (by omega)).mp c89)
              have hhg : isW B ad cta2 25 ((sHigh cm C (C * R) co vs cn) + (if co ≤ v1 0 then (wv (C * r)) else 0)) := by rw [if_neg hcdC, Nat.add_zero]; exact hhg
              refine g_aload_n fx 2 dX9_fillLastRow_100 rfl ?_
              refine g_get (r := 11) fx lkX9_76 (by omega) hw rfl dX9_fillLastRow_101 ?_
              refine g_ifnull fx dX9_fillLastRow_104 ?_
              refine g_aload_n fx 2 dX9_fillLastRow_107 rfl ?_
              refine g_get (r := 11) fx lkX9_76 (by omega) hw rfl dX9_fillLastRow_108 ?_
              refine g_aload_n fx 2 dX9_fillLastRow_111 rfl ?_
              refine g_get (r := 11) fx lkX9_22 (by omega) hw rfl dX9_fillLastRow_112 ?_
              refine g_iload_n fx 0 dX9_fillLastRow_115 rfl ?_
              refine g_callVv (As := [.ref (ad 15), .int (cmpI (wv (C * r)) SN)]) (rest := []) fx slX9_147 (c_X0_keep B ad cta2 n R C sd cn NL g hn hk hkr hR5 hC5 hsd (by omega) hNL v1 hv (fun k hk => by have := hv60 k (by rw [Nat.mul_comm]; exact hk); omega) (by rw [Nat.mul_comm, hCR]; omega) (cmpI (wv (C * r)) SN) (ccode (wv (C * r)) SN) cmp_code ccode_le hrm) (by omega) hk rfl rfl rfl (Nat.le_of_ble_eq_true rfl) ⟨by decide, by decide⟩ ⟨by decide, by decide⟩ dX9_fillLastRow_116 (fun ct8 hz8 => ?_)
              obtain ⟨g8, hk8, hkr8, hg8, hg8b, hs8⟩ := hz8
              rw [← hWc] at hg8
              refine g_vret fx rt dX9_fillLastRow_119 ?_
              refine gPv.mk ⟨v1, g8, va_up vs cn v1, wv, (hs8 15 (by decide) (by decide)).trans hv, hv1, ⟨hSN.frame (hs8 _ (by decide) (by decide)) (hs8 _ (by decide) (by decide)), ?_, ?_, ?_, fun i hi => (hwv i hi).frame (hs8 _ (by omega) (by omega)) (hs8 _ (by omega) (by omega)), hk8, hkr8, hKP.keep hlv (by rw [hli, ← hb]) hg8 hg8b⟩, fun j hj => va_up_ne _ _ (by omega), fun _ _ => rfl, ?_, fun r h => (hs8 r (by omega) (by omega)).trans (hfr r h)⟩
              · have e : sFar cm C (C * R) SN (va_up vs cn v1) (cn + 1) = _ := s_up (f := fun t => if Wc cm C (C * R) t ≤ SN then Wc cm C (C * R) t else 0)
                rw [e, hWc]; exact hfa.frame (hs8 _ (by decide) (by decide)) (hs8 _ (by decide) (by decide))
              · have e : sLow cm C (C * R) co (va_up vs cn v1) (cn + 1) = _ := s_up (f := fun t => if t 0 ≤ co then Wc cm C (C * R) t else 0)
                rw [e, hWc]; exact hlw.frame (hs8 _ (by decide) (by decide)) (hs8 _ (by decide) (by decide))
              · have e : sHigh cm C (C * R) co (va_up vs cn v1) (cn + 1) = _ := s_up (f := fun t => if co ≤ t 0 then Wc cm C (C * R) t else 0)
                rw [e, hWc]; exact hhg.frame (hs8 _ (by decide) (by decide)) (hs8 _ (by decide) (by decide))
              · have e : sTot cm C (C * R) (va_up vs cn v1) (cn + 1) = _ := s_up (f := fun t => Wc cm C (C * R) t)
                rw [e, hWc, Nat.mul_one]; rfl
            · skip
              have hcdC : co ≤ v1 0 := Nat.le_of_not_lt (fun q => c89 ((nI_ltI (by omega) (by omega)).mpr q))
              refine g_aload_n fx 2 dX9_fillLastRow_92 rfl ?_
              refine g_get (r := 11) fx lkX9_45 (by omega) hw rfl dX9_fillLastRow_93 ?_
              refine g_aload_n fx 1 dX9_fillLastRow_96 rfl ?_
              refine g_callVv (As := [.ref (ad (27 + 2 * (C * r)))]) (rest := []) fx slX9_144 (c_X10_add B ad cta2 n 25 (27 + 2 * (C * r)) (sHigh cm C (C * R) co vs cn) (wv (C * r)) (by omega) (by omega) (by omega) (by omega) (by omega) hhg (hwv (C * r) (by omega)) (up_bd hbh (by omega) hcmf hpw)) (by omega) (isW.ob hhg).choose_spec rfl rfl rfl (Nat.le_of_ble_eq_true rfl) ⟨by decide, by decide⟩ ⟨by decide, by decide⟩ dX9_fillLastRow_97 (fun cta3 hza3 => ?_)
              obtain ⟨hac, hs3⟩ := hza3
              have hfa := hfa.other hs3 (by omega) (by omega) (by omega)
              have hlw := hlw.other hs3 (by omega) (by omega) (by omega)
              have hhg := hac
              have hw : cta3 11 = .inr (9, [.ref (ad 12), .ref (ad 13), .ref (ad 14), .ref (ad 15), .ref (ad 16), .int (nI R), .int (nI C), .int (nI co), .int (nI F), .ref (ad 79), .ref (ad 17), .ref (ad 19), .ref (ad 21), .ref (ad 23), .ref (ad 25)]) := (hs3 11 (by omega) (by omega)).trans hw
              have hcl : cta3 14 = .inl (B.2.1 0, 5, .inl (nF cl)) := (hs3 14 (by omega) (by omega)).trans hcl
              have hv : cta3 15 = .inl (B.2.1 0, 25, .inl (nF v1)) := (hs3 15 (by omega) (by omega)).trans hv
              have hk : cta3 79 = .inr (0, [.ref (ad 80), .int (nI R), .int (nI C), .int (nI sd), .int (nI cn)]) := (hs3 79 (by omega) (by omega)).trans hk
              have hkr : cta3 80 = .inl (B.2.1 1, NL, .inr (.inl (lF g))) := (hs3 80 (by omega) (by omega)).trans hkr
              have hSN : isW B ad cta3 19 SN := hSN.other hs3 (by omega) (by omega) (by omega)
              have hwv : ∀ i, i < 26 → isW B ad cta3 (27 + 2 * i) (wv i) := fun i hi => (hwv i hi).other hs3 (by omega) (by omega) (by omega)
              have hfr : ∀ r, r < 15 ∨ (15 < r ∧ r < 21) ∨ 80 < r → cta3 r = ct r := fun r h => (hs3 r (by omega) (by omega)).trans (hfr r h)
              have hhg : isW B ad cta3 25 ((sHigh cm C (C * R) co vs cn) + (if co ≤ v1 0 then (wv (C * r)) else 0)) := by rw [if_pos hcdC]; exact hhg
              refine g_aload_n fx 2 dX9_fillLastRow_100 rfl ?_
              refine g_get (r := 11) fx lkX9_76 (by omega) hw rfl dX9_fillLastRow_101 ?_
              refine g_ifnull fx dX9_fillLastRow_104 ?_
              refine g_aload_n fx 2 dX9_fillLastRow_107 rfl ?_
              refine g_get (r := 11) fx lkX9_76 (by omega) hw rfl dX9_fillLastRow_108 ?_
              refine g_aload_n fx 2 dX9_fillLastRow_111 rfl ?_
              refine g_get (r := 11) fx lkX9_22 (by omega) hw rfl dX9_fillLastRow_112 ?_
              refine g_iload_n fx 0 dX9_fillLastRow_115 rfl ?_
              refine g_callVv (As := [.ref (ad 15), .int (cmpI (wv (C * r)) SN)]) (rest := []) fx slX9_147 (c_X0_keep B ad cta3 n R C sd cn NL g hn hk hkr hR5 hC5 hsd (by omega) hNL v1 hv (fun k hk => by have := hv60 k (by rw [Nat.mul_comm]; exact hk); omega) (by rw [Nat.mul_comm, hCR]; omega) (cmpI (wv (C * r)) SN) (ccode (wv (C * r)) SN) cmp_code ccode_le hrm) (by omega) hk rfl rfl rfl (Nat.le_of_ble_eq_true rfl) ⟨by decide, by decide⟩ ⟨by decide, by decide⟩ dX9_fillLastRow_116 (fun ct8 hz8 => ?_)
              obtain ⟨g8, hk8, hkr8, hg8, hg8b, hs8⟩ := hz8
              rw [← hWc] at hg8
              refine g_vret fx rt dX9_fillLastRow_119 ?_
              refine gPv.mk ⟨v1, g8, va_up vs cn v1, wv, (hs8 15 (by decide) (by decide)).trans hv, hv1, ⟨hSN.frame (hs8 _ (by decide) (by decide)) (hs8 _ (by decide) (by decide)), ?_, ?_, ?_, fun i hi => (hwv i hi).frame (hs8 _ (by omega) (by omega)) (hs8 _ (by omega) (by omega)), hk8, hkr8, hKP.keep hlv (by rw [hli, ← hb]) hg8 hg8b⟩, fun j hj => va_up_ne _ _ (by omega), fun _ _ => rfl, ?_, fun r h => (hs8 r (by omega) (by omega)).trans (hfr r h)⟩
              · have e : sFar cm C (C * R) SN (va_up vs cn v1) (cn + 1) = _ := s_up (f := fun t => if Wc cm C (C * R) t ≤ SN then Wc cm C (C * R) t else 0)
                rw [e, hWc]; exact hfa.frame (hs8 _ (by decide) (by decide)) (hs8 _ (by decide) (by decide))
              · have e : sLow cm C (C * R) co (va_up vs cn v1) (cn + 1) = _ := s_up (f := fun t => if t 0 ≤ co then Wc cm C (C * R) t else 0)
                rw [e, hWc]; exact hlw.frame (hs8 _ (by decide) (by decide)) (hs8 _ (by decide) (by decide))
              · have e : sHigh cm C (C * R) co (va_up vs cn v1) (cn + 1) = _ := s_up (f := fun t => if co ≤ t 0 then Wc cm C (C * R) t else 0)
                rw [e, hWc]; exact hhg.frame (hs8 _ (by decide) (by decide)) (hs8 _ (by decide) (by decide))
              · have e : sTot cm C (C * R) (va_up vs cn v1) (cn + 1) = _ := s_up (f := fun t => Wc cm C (C * R) t)
                rw [e, hWc, Nat.mul_one]; rfl
      · skip
        have hlt : k < C := (nI_ltI (by omega) (by omega)).mp (Int32.not_le.mp c7)
        refine g_aload_n fx 0 dX9_fillLastRow_10 rfl ?_
        refine g_get (r := 11) fx lkX9_22 (by omega) hw1 rfl dX9_fillLastRow_11 ?_
        refine g_iload_n fx 1 dX9_fillLastRow_14 rfl ?_
        refine g_iload_n fx 2 dX9_fillLastRow_15 rfl ?_
        refine g_iaddN fx dX9_fillLastRow_16 ?_
        refine g_aload_n fx 0 dX9_fillLastRow_17 rfl ?_
        refine g_get (r := 11) fx lkX9_19 (by omega) hw1 rfl dX9_fillLastRow_18 ?_
        refine g_iload_n fx 2 dX9_fillLastRow_21 rfl ?_
        refine g_iald (r := 14) (j := k) fx (by omega) hcl1 (nI_toInt (by omega)) (by omega) dX9_fillLastRow_22 ?_
        refine g_isi (y := nI (cl k)) rfl ?_
        refine g_iast (r := 15) (j := ((C * r) + k)) fx (by omega) hv (nI_toInt (by omega)) (by omega) dX9_fillLastRow_23 (fun ctS ectS => ?_)
        have hw1 : ctS 11 = .inr (9, [.ref (ad 12), .ref (ad 13), .ref (ad 14), .ref (ad 15), .ref (ad 16), .int (nI R), .int (nI C), .int (nI co), .int (nI F), .ref (ad 79), .ref (ad 17), .ref (ad 19), .ref (ad 21), .ref (ad 23), .ref (ad 25)]) := (congrFun ectS _).trans ((va_up_ne _ _ (by omega)).trans hw1)
        have hcl1 : ctS 14 = .inl (B.2.1 0, 5, .inl (nF cl)) := (congrFun ectS _).trans ((va_up_ne _ _ (by omega)).trans hcl1)
        have hv : ctS 15 = .inl (B.2.1 0, 25, .inl (nF (va_up v1 ((C * r) + k) (cl k)))) := by rw [ectS, va_up_self, nF_up]
        have hwr1 : ctS 16 = .inl (B.2.1 3, 26, .inr (.inr (.inr (.inr (fun i => some (ad (27 + 2 * i))))))) := (congrFun ectS _).trans ((va_up_ne _ _ (by omega)).trans hwr1)
        refine g_iinc (L' := [(2, .int (nI (k + 1))), (0, .ref (ad 11)), (1, .int (nI (C * r)))]) fx (nI (k + 1)) 2 dX9_fillLastRow_24 rfl (gInc _) (by decide) rfl ?_
        refine g_goto fx 2 dX9_fillLastRow_27 (by decide) ?_
        refine g_locals (L' := [(0, .ref (ad 11)), (1, .int (nI (C * r))), (2, .int (nI (k + 1)))]) [1, 2, 0] rfl ?_
        exact ih2 (k + 1) _ _ (by omega) (fun j hj => by rw [va_up_ne _ _ (by omega)]; exact hv1 j hj) (fun j hj => by by_cases q : j = k; (rw [q, va_up_self]); (rw [va_up_ne _ _ (by omega)]; exact hv2 j (by omega))) hv (fun r h => (congrFun ectS r).trans ((va_up_ne _ _ h).trans (hs0 r h))) (by omega)
  refine g_locals (L' := [(0, .ref (ad 11)), (1, .int (nI (C * r))), (2, .int (nI 0))]) [1, 2, 0] rfl ?_
  exact LP2 (C + 1) 0 ct v (by omega) (fun _ _ => rfl) (fun j hj => absurd hj (by omega)) hv (fun _ _ => rfl) (by omega)
