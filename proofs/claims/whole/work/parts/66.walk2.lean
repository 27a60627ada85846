/-- all ways to deal the numbers out to the first m rows -/
def aP (rs : Nat → Nat) (T : Nat) : Nat → Nat
  | 0 => 1
  | m + 1 => aP rs T m * ch (T - sumF rs m) (rs m)
theorem aP_fac {rs : Nat → Nat} {T : Nat} : ∀ m, sumF rs m ≤ T → aP rs T m * (facP rs m * fac (T - sumF rs m)) = fac T
  | 0, _ => by show 1 * (1 * fac (T - 0)) = fac T; rw [Nat.one_mul, Nat.one_mul, Nat.sub_zero]
  | m + 1, h => by
    have h0 : sumF rs (m + 1) = sumF rs m + rs m := rfl
    have ih := aP_fac (rs := rs) (T := T) m (by omega)
    have h1 := ch_fac (T - sumF rs m) (rs m) (by omega)
    show aP rs T m * ch (T - sumF rs m) (rs m) * (facP rs m * fac (rs m) * fac (T - sumF rs (m + 1))) = fac T
    rw [h0, show T - (sumF rs m + rs m) = T - sumF rs m - rs m by omega, ← ih, ← h1]
    grind
theorem aP_le {rs : Nat → Nat} {T : Nat} (m : Nat) (h : sumF rs m ≤ T) (hT : T ≤ 60) : aP rs T m ≤ fac 60 := by
  have h1 := aP_fac m h
  have h2 : aP rs T m ≤ fac T := by
    rw [← h1]; exact Nat.le_mul_of_pos_right _ (Nat.mul_pos (facP_pos _ _) (fac_pos _))
  exact Nat.le_trans h2 (fac_mono hT)
theorem aP_congr {rs rs2 : Nat → Nat} {T : Nat} : ∀ m, (∀ i, i < m → rs i = rs2 i) → aP rs T m = aP rs2 T m
  | 0, _ => rfl
  | m + 1, h => by
    show aP rs T m * ch (T - sumF rs m) (rs m) = aP rs2 T m * ch (T - sumF rs2 m) (rs2 m)
    rw [aP_congr m (fun i hi => h i (by omega)), h m (by omega), sumF_congr m (fun i hi => h i (by omega))]
theorem rp_aP {rs : Nat → Nat} {R T : Nat} (hs : sumF rs R = T) : ∀ m, m + 1 ≤ R → aP rs T (R - (m + 1)) * rpN rs R (m + 1) = aP rs T R
  | 0, h => by
    obtain ⟨k, rfl⟩ : ∃ k, R = k + 1 := ⟨R - 1, by omega⟩
    have h0 : sumF rs (k + 1) = sumF rs k + rs k := rfl
    show aP rs T (k + 1 - (0 + 1)) * 1 = aP rs T k * ch (T - sumF rs k) (rs k)
    rw [show T - sumF rs k = rs k by omega, ch_self]
    rfl
  | m + 1, h => by
    have ih := rp_aP hs m (by omega)
    rw [← ih]
    show aP rs T (R - (m + 2)) * (ch (sumF (fun j => rs (R - (m + 2) + j)) (m + 2)) (rs (R - (m + 2))) * rpN rs R (m + 1)) = _
    have h2 := sumF_split (f := rs) (a := R - (m + 2)) (m + 2)
    rw [show R - (m + 2) + (m + 2) = R by omega] at h2
    rw [show R - (m + 1) = R - (m + 2) + 1 by omega, show sumF (fun j => rs (R - (m + 2) + j)) (m + 2) = T - sumF rs (R - (m + 2)) by omega, ← Nat.mul_assoc]
    rfl
theorem rp_all {rs : Nat → Nat} {R T : Nat} (hs : sumF rs R = T) (hR : 0 < R) : rpN rs R R = aP rs T R := by
  obtain ⟨m, rfl⟩ : ∃ m, R = m + 1 := ⟨R - 1, by omega⟩
  have h := rp_aP hs m (Nat.le_refl _)
  rw [Nat.sub_self] at h
  rw [← h]
  exact (Nat.one_mul _).symm
theorem fin_choice {P : Nat → Nat → Prop} : ∀ n, (∀ i, i < n → ∃ x, P i x) → ∃ f : Nat → Nat, ∀ i, i < n → P i (f i)
  | 0, _ => ⟨fun _ => 0, fun i hi => absurd hi (Nat.not_lt_zero _)⟩
  | n + 1, h => by
    obtain ⟨f, hf⟩ := fin_choice n (fun i hi => h i (by omega))
    obtain ⟨x, hx⟩ := h n (by omega)
    refine ⟨va_up f n x, fun i hi => ?_⟩
    by_cases q : i = n
    · subst q; rw [va_up_self]; exact hx
    · rw [va_up_ne _ _ q]; exact hf i (by omega)
/-- the table that the grid holds -/
def gv (gk : Nat → Nat) (C k : Nat) : Nat := gk (5 * (k / C) + k % C)
theorem gv_at {gk : Nat → Nat} {C r c : Nat} (hc : c < C) : gv gk C (C * r + c) = gk (5 * r + c) := by
  unfold gv; rw [(dm hc).1, (dm hc).2]
theorem gv_left {gk : Nat → Nat} {R C r c : Nat} (hc : c < C) : tLeft C (fun c => sumF (fun k => gk (5 * k + c)) R) (gv gk C) r c = sumF (fun k => gk (5 * k + c)) R - sumF (fun k => gk (5 * k + c)) r := by
  unfold tLeft
  rw [sumF_congr r (fun i _ => gv_at hc)]
theorem gv_fits {gk : Nat → Nat} {R C r c : Nat} (hr : r < R) (hc : c < C) : gk (5 * r + c) ≤ tLeft C (fun c => sumF (fun k => gk (5 * k + c)) R) (gv gk C) r c := by
  rw [gv_left hc]
  have h := sumF_le2 (f := fun k => gk (5 * k + c)) (a := r + 1) (b := R) (by omega)
  have h0 : sumF (fun k => gk (5 * k + c)) (r + 1) = sumF (fun k => gk (5 * k + c)) r + gk (5 * r + c) := rfl
  omega
theorem gv_end {gk : Nat → Nat} {R C : Nat} {cl : Nat → Nat} (h : CL C (fun c => sumF (fun k => gk (5 * k + c)) R) (gv gk C) R 0 cl) : facP cl C = 1 := by
  have h1 : facP cl C = facP (fun _ => 0) C := facP_congr C (fun j hj => by rw [h j hj, if_neg (by omega), gv_left hj]; omega)
  rw [h1]
  have : ∀ n, facP (fun _ => 0) n = 1 := fun n => by
    induction n with
    | zero => rfl
    | succ n ih => show facP (fun _ => 0) n * 1 = 1; rw [ih]
  exact this C
theorem isW.rw_ {B : gB} {ad : Nat → Nat} {ct : Nat → va_E} {w v : Nat} (h : isW B ad ct w v) : ∃ sz g, rW B ad ct w sz g := ⟨h.choose, h.choose_spec.choose, h.choose_spec.choose_spec.1⟩
set_option maxHeartbeats 4000000 in
set_option maxRecDepth 100000 in
theorem c_X9_begin (B : gB) (ad : Nat → Nat) (ct : Nat → va_E) (n : Nat) (gk : Nat → Nat) (R C : Nat) (hn : 178 ≤ n) (hg : ct 1 = .inr (3, [.ref (ad 2), .int (nI R), .int (nI C)])) (hgc : ct 2 = .inl (B.2.1 0, 25, .inl (nF gk))) (hR5 : R ≤ 5) (hC5 : C ≤ 5) (hRp : 0 < R) (hCp : 0 < C) (hgb : ∀ j, j < 25 → gk j ≤ 60) (rs0 cl0 : Nat → Nat) (R0 C0 co0 F : Nat) (cz : Value) (hw : ct 11 = .inr (9, [.ref (ad 12), .ref (ad 13), .ref (ad 14), .ref (ad 15), .ref (ad 16), .int (nI R0), .int (nI C0), .int (nI co0), .int (nI F), cz, .ref (ad 17), .ref (ad 19), .ref (ad 21), .ref (ad 23), .ref (ad 25)])) (hrs : ct 13 = .inl (B.2.1 0, 5, .inl (nF rs0))) (hcl : ct 14 = .inl (B.2.1 0, 5, .inl (nF cl0))) : Ctr B yX9_begin cX9_begin 3 none 3 66 0 0 ad ct n [.ref (ad 11), .ref (ad 1)] (gPv ad n (fun ct' => ∃ rs cl, ct' 11 = .inr (9, [.ref (ad 12), .ref (ad 13), .ref (ad 14), .ref (ad 15), .ref (ad 16), .int (nI R), .int (nI C), .int (nI (gk 0)), .int (nI F), cz, .ref (ad 17), .ref (ad 19), .ref (ad 21), .ref (ad 23), .ref (ad 25)]) ∧ ct' 13 = .inl (B.2.1 0, 5, .inl (nF rs)) ∧ ct' 14 = .inl (B.2.1 0, 5, .inl (nF cl)) ∧ (∀ i, i < R → rs i = sumF (fun k => gk (5 * i + k)) C) ∧ (∀ i, i < C → cl i = sumF (fun k => gk (5 * k + i)) R) ∧ ∀ r, r ≠ 11 → r ≠ 13 → r ≠ 14 → ct' r = ct r)) := by
  have hfr : ∀ r, r ≠ 11 → r ≠ 13 → r ≠ 14 → ct r = ct r := fun _ _ _ _ => rfl
  refine Ctr.ofG (L := [(0, .ref (ad 11)), (1, .ref (ad 1))]) (by decide +kernel) rfl (Nat.le_of_ble_eq_true rfl) (fun E fx rt hnm => ?_)
  refine g_aload_n fx 0 dX9_begin_0 rfl ?_
  refine g_aload_n fx 1 dX9_begin_1 rfl ?_
  refine g_callVip (As := []) (rest := [.ref (ad 11)]) fx slX9_83 (c_X3_rows B ad ct n gk R C hn hg hgc hR5 hC5) (by omega) hg rfl rfl rfl (Nat.le_of_ble_eq_true rfl) ⟨by decide, by decide⟩ ⟨by decide, by decide⟩ dX9_begin_2 (fun q1 hq1 => ?_)
  obtain rfl := hq1
  refine g_iconst (v := nI 5) fx dX9_begin_5 (by decide +kernel) ?_
  refine g_callSip (As := [.int (nI R), .int (nI 5)]) (rest := [.ref (ad 11)]) fx slX9_86 (c_J9_min_7cf53 B ad ct n (nI R) (nI 5)) rfl rfl (Nat.le_of_ble_eq_true rfl) ⟨by decide, by decide⟩ ⟨by decide, by decide⟩ dX9_begin_6 (fun q2 hq2 => ?_)
  rw [min_nI (by omega) (by omega), Nat.min_eq_left hR5] at hq2
  refine g_isi (y := nI R) hq2 ?_
  refine g_put (r := 11) (fs' := [.ref (ad 12), .ref (ad 13), .ref (ad 14), .ref (ad 15), .ref (ad 16), .int (nI R), .int (nI C0), .int (nI co0), .int (nI F), cz, .ref (ad 17), .ref (ad 19), .ref (ad 21), .ref (ad 23), .ref (ad 25)]) fx lpX9_92 (by omega) hw rfl rfl (Nat.le_of_ble_eq_true rfl) rfl dX9_begin_9 (fun cu3 ecu3 => ?_)
  have hfr : ∀ r, r ≠ 11 → r ≠ 13 → r ≠ 14 → cu3 r = ct r := fun r _ _ _ => (congrFun ecu3 r).trans ((va_up_ne _ _ (by assumption)).trans (hfr r (by assumption) (by assumption) (by assumption)))
  have hg : cu3 1 = .inr (3, [.ref (ad 2), .int (nI R), .int (nI C)]) := (congrFun ecu3 _).trans ((va_up_ne _ _ (by omega)).trans hg)
  have hgc : cu3 2 = .inl (B.2.1 0, 25, .inl (nF gk)) := (congrFun ecu3 _).trans ((va_up_ne _ _ (by omega)).trans hgc)
  have hw : cu3 11 = .inr (9, [.ref (ad 12), .ref (ad 13), .ref (ad 14), .ref (ad 15), .ref (ad 16), .int (nI R), .int (nI C0), .int (nI co0), .int (nI F), cz, .ref (ad 17), .ref (ad 19), .ref (ad 21), .ref (ad 23), .ref (ad 25)]) := by rw [ecu3, va_up_self]
  have hrs : cu3 13 = .inl (B.2.1 0, 5, .inl (nF rs0)) := (congrFun ecu3 _).trans ((va_up_ne _ _ (by omega)).trans hrs)
  have hcl : cu3 14 = .inl (B.2.1 0, 5, .inl (nF cl0)) := (congrFun ecu3 _).trans ((va_up_ne _ _ (by omega)).trans hcl)
  refine g_aload_n fx 0 dX9_begin_12 rfl ?_
  refine g_aload_n fx 1 dX9_begin_13 rfl ?_
  refine g_callVip (As := []) (rest := [.ref (ad 11)]) fx slX9_94 (c_X3_columns B ad cu3 n gk R C hn hg hgc hR5 hC5) (by omega) hg rfl rfl rfl (Nat.le_of_ble_eq_true rfl) ⟨by decide, by decide⟩ ⟨by decide, by decide⟩ dX9_begin_14 (fun q3 hq3 => ?_)
  obtain rfl := hq3
  refine g_iconst (v := nI 5) fx dX9_begin_17 (by decide +kernel) ?_
  refine g_callSip (As := [.int (nI C), .int (nI 5)]) (rest := [.ref (ad 11)]) fx slX9_86 (c_J9_min_7cf53 B ad cu3 n (nI C) (nI 5)) rfl rfl (Nat.le_of_ble_eq_true rfl) ⟨by decide, by decide⟩ ⟨by decide, by decide⟩ dX9_begin_18 (fun q4 hq4 => ?_)
  rw [min_nI (by omega) (by omega), Nat.min_eq_left hC5] at hq4
  refine g_isi (y := nI C) hq4 ?_
  refine g_put (r := 11) (fs' := [.ref (ad 12), .ref (ad 13), .ref (ad 14), .ref (ad 15), .ref (ad 16), .int (nI R), .int (nI C), .int (nI co0), .int (nI F), cz, .ref (ad 17), .ref (ad 19), .ref (ad 21), .ref (ad 23), .ref (ad 25)]) fx lpX9_97 (by omega) hw rfl rfl (Nat.le_of_ble_eq_true rfl) rfl dX9_begin_21 (fun cu6 ecu6 => ?_)
  have hfr : ∀ r, r ≠ 11 → r ≠ 13 → r ≠ 14 → cu6 r = ct r := fun r _ _ _ => (congrFun ecu6 r).trans ((va_up_ne _ _ (by assumption)).trans (hfr r (by assumption) (by assumption) (by assumption)))
  have hg : cu6 1 = .inr (3, [.ref (ad 2), .int (nI R), .int (nI C)]) := (congrFun ecu6 _).trans ((va_up_ne _ _ (by omega)).trans hg)
  have hgc : cu6 2 = .inl (B.2.1 0, 25, .inl (nF gk)) := (congrFun ecu6 _).trans ((va_up_ne _ _ (by omega)).trans hgc)
  have hw : cu6 11 = .inr (9, [.ref (ad 12), .ref (ad 13), .ref (ad 14), .ref (ad 15), .ref (ad 16), .int (nI R), .int (nI C), .int (nI co0), .int (nI F), cz, .ref (ad 17), .ref (ad 19), .ref (ad 21), .ref (ad 23), .ref (ad 25)]) := by rw [ecu6, va_up_self]
  have hrs : cu6 13 = .inl (B.2.1 0, 5, .inl (nF rs0)) := (congrFun ecu6 _).trans ((va_up_ne _ _ (by omega)).trans hrs)
  have hcl : cu6 14 = .inl (B.2.1 0, 5, .inl (nF cl0)) := (congrFun ecu6 _).trans ((va_up_ne _ _ (by omega)).trans hcl)
  refine g_aload_n fx 0 dX9_begin_24 rfl ?_
  refine g_aload_n fx 1 dX9_begin_25 rfl ?_
  refine g_iconst (v := nI 0) fx dX9_begin_26 (by decide +kernel) ?_
  refine g_iconst (v := nI 0) fx dX9_begin_27 (by decide +kernel) ?_
  refine g_callVip (As := [.int (nI 0), .int (nI 0)]) (rest := [.ref (ad 11)]) fx slX9_99 (c_X3_at B ad cu6 n gk R C hn hg hgc hR5 hC5 (nI 0) (nI 0)) (by omega) hg rfl rfl rfl (Nat.le_of_ble_eq_true rfl) ⟨by decide, by decide⟩ ⟨by decide, by decide⟩ dX9_begin_28 (fun q5 hq5 => ?_)
  rw [if_pos ⟨inR hRp (by omega), inR hCp (by omega)⟩] at hq5
  have hq5 : q5 = nI (gk 0) := hq5
  refine g_isi (y := nI (gk 0)) hq5 ?_
  refine g_put (r := 11) (fs' := [.ref (ad 12), .ref (ad 13), .ref (ad 14), .ref (ad 15), .ref (ad 16), .int (nI R), .int (nI C), .int (nI (gk 0)), .int (nI F), cz, .ref (ad 17), .ref (ad 19), .ref (ad 21), .ref (ad 23), .ref (ad 25)]) fx lpX9_102 (by omega) hw rfl rfl (Nat.le_of_ble_eq_true rfl) rfl dX9_begin_31 (fun ctA ectA => ?_)
  have hfr : ∀ r, r ≠ 11 → r ≠ 13 → r ≠ 14 → ctA r = ct r := fun r _ _ _ => (congrFun ectA r).trans ((va_up_ne _ _ (by assumption)).trans (hfr r (by assumption) (by assumption) (by assumption)))
  have hg : ctA 1 = .inr (3, [.ref (ad 2), .int (nI R), .int (nI C)]) := (congrFun ectA _).trans ((va_up_ne _ _ (by omega)).trans hg)
  have hgc : ctA 2 = .inl (B.2.1 0, 25, .inl (nF gk)) := (congrFun ectA _).trans ((va_up_ne _ _ (by omega)).trans hgc)
  have hw : ctA 11 = .inr (9, [.ref (ad 12), .ref (ad 13), .ref (ad 14), .ref (ad 15), .ref (ad 16), .int (nI R), .int (nI C), .int (nI (gk 0)), .int (nI F), cz, .ref (ad 17), .ref (ad 19), .ref (ad 21), .ref (ad 23), .ref (ad 25)]) := by rw [ectA, va_up_self]
  have hrs : ctA 13 = .inl (B.2.1 0, 5, .inl (nF rs0)) := (congrFun ectA _).trans ((va_up_ne _ _ (by omega)).trans hrs)
  have hcl : ctA 14 = .inl (B.2.1 0, 5, .inl (nF cl0)) := (congrFun ectA _).trans ((va_up_ne _ _ (by omega)).trans hcl)
  refine g_iconst (v := nI 0) fx dX9_begin_34 (by decide +kernel) ?_
  refine g_istore_n (L' := [(2, .int (nI 0)), (0, .ref (ad 11)), (1, .ref (ad 1))]) fx dX9_begin_35 (by decide) rfl ?_
  have LP36 : ∀ (M : Nat) (i : Nat) (rs : Nat → Nat) (ct1 : Nat → va_E), (i ≤ R) → (∀ j, j < i → rs j = sumF (fun k => gk (5 * j + k)) C) → (ct1 1 = .inr (3, [.ref (ad 2), .int (nI R), .int (nI C)])) → (ct1 2 = .inl (B.2.1 0, 25, .inl (nF gk))) → (ct1 11 = .inr (9, [.ref (ad 12), .ref (ad 13), .ref (ad 14), .ref (ad 15), .ref (ad 16), .int (nI R), .int (nI C), .int (nI (gk 0)), .int (nI F), cz, .ref (ad 17), .ref (ad 19), .ref (ad 21), .ref (ad 23), .ref (ad 25)])) → (ct1 13 = .inl (B.2.1 0, 5, .inl (nF rs))) → (ct1 14 = .inl (B.2.1 0, 5, .inl (nF cl0))) → (∀ r, r ≠ 11 → r ≠ 13 → r ≠ 14 → ct1 r = ct r) →  (R - i) < M → G B 3 E ad ct1 n 0 0 [(0, .ref (ad 11)), (1, .ref (ad 1)), (2, .int (nI i))] 36 [] := by
    intro M
    induction M with
    | zero => intro i rs ct1 _ _ _ _ _ _ _ _ hM; exact absurd hM (Nat.not_lt_zero _)
    | succ M ih =>
      intro i rs ct1 hi hrr hg hgc hw hrs hcl hfr hM
      have ih36 := ih
      refine g_iload_n fx 2 dX9_begin_36 rfl ?_
      refine g_aload_n fx 0 dX9_begin_37 rfl ?_
      refine g_get (r := 11) fx lkX9_92 (by omega) hw rfl dX9_begin_38 ?_
      refine g_icmp_ge fx 61 dX9_begin_41 (by decide) (fun c41 => ?_) (fun c41 => ?_)
      · skip
        have hie : i = R := by have := (nI_leI (by omega) (by omega)).mp c41; omega
        rw [hie] at hrr
        refine g_iconst (v := nI 0) fx dX9_begin_61 (by decide +kernel) ?_
        refine g_istore_n (L' := [(2, .int (nI 0)), (0, .ref (ad 11)), (1, .ref (ad 1))]) fx dX9_begin_62 (by decide) rfl ?_
        have LP63 : ∀ (M : Nat) (j : Nat) (cl : Nat → Nat) (ct2 : Nat → va_E), (j ≤ C) → (∀ m, m < j → cl m = sumF (fun k => gk (5 * k + m)) R) → (ct2 1 = .inr (3, [.ref (ad 2), .int (nI R), .int (nI C)])) → (ct2 2 = .inl (B.2.1 0, 25, .inl (nF gk))) → (ct2 11 = .inr (9, [.ref (ad 12), .ref (ad 13), .ref (ad 14), .ref (ad 15), .ref (ad 16), .int (nI R), .int (nI C), .int (nI (gk 0)), .int (nI F), cz, .ref (ad 17), .ref (ad 19), .ref (ad 21), .ref (ad 23), .ref (ad 25)])) → (ct2 13 = .inl (B.2.1 0, 5, .inl (nF rs))) → (ct2 14 = .inl (B.2.1 0, 5, .inl (nF cl))) → (∀ r, r ≠ 11 → r ≠ 13 → r ≠ 14 → ct2 r = ct r) →  (C - j) < M → G B 3 E ad ct2 n 0 0 [(0, .ref (ad 11)), (1, .ref (ad 1)), (2, .int (nI j))] 63 [] := by
          intro M
          induction M with
          | zero => intro j cl ct2 _ _ _ _ _ _ _ _ hM; exact absurd hM (Nat.not_lt_zero _)
          | succ M ih =>
            intro j cl ct2 hj hcc hg hgc hw hrs hcl hfr hM
            have ih63 := ih
            refine g_iload_n fx 2 dX9_begin_63 rfl ?_
            refine g_aload_n fx 0 dX9_begin_64 rfl ?_
            refine g_get (r := 11) fx lkX9_97 (by omega) hw rfl dX9_begin_65 ?_
            refine g_icmp_ge fx 88 dX9_begin_68 (by decide) (fun c68 => ?_) (fun c68 => ?_)
            · skip
              have hje : j = C := by have := (nI_leI (by omega) (by omega)).mp c68; omega
              rw [hje] at hcc
              refine g_vret fx rt dX9_begin_88 ?_
              exact gPv.mk ⟨rs, cl, hw, hrs, hcl, hrr, hcc, hfr⟩
            · skip
              have hltc : j < C := (nI_ltI (by omega) (by omega)).mp (Int32.not_le.mp c68)
              refine g_aload_n fx 0 dX9_begin_71 rfl ?_
              refine g_get (r := 11) fx lkX9_19 (by omega) hw rfl dX9_begin_72 ?_
              refine g_iload_n fx 2 dX9_begin_75 rfl ?_
              refine g_aload_n fx 1 dX9_begin_76 rfl ?_
              refine g_iload_n fx 2 dX9_begin_77 rfl ?_
              refine g_callVip (As := [.int (nI j)]) (rest := [.int (nI j), .ref (ad 14)]) fx slX9_109 (c_X3_columnSum B ad ct2 n gk R C hn hg hgc hR5 hC5 j hltc hgb) (by omega) hg rfl rfl rfl (Nat.le_of_ble_eq_true rfl) ⟨by decide, by decide⟩ ⟨by decide, by decide⟩ dX9_begin_78 (fun q7 hq7 => ?_)
              obtain rfl := hq7
              refine g_iast (r := 14) (j := j) fx (by omega) hcl (nI_toInt (by omega)) (by omega) dX9_begin_81 (fun cu9 ecu9 => ?_)
              have hfr : ∀ r, r ≠ 11 → r ≠ 13 → r ≠ 14 → cu9 r = ct r := fun r _ _ _ => (congrFun ecu9 r).trans ((va_up_ne _ _ (by assumption)).trans (hfr r (by assumption) (by assumption) (by assumption)))
              have hg : cu9 1 = .inr (3, [.ref (ad 2), .int (nI R), .int (nI C)]) := (congrFun ecu9 _).trans ((va_up_ne _ _ (by omega)).trans hg)
              have hgc : cu9 2 = .inl (B.2.1 0, 25, .inl (nF gk)) := (congrFun ecu9 _).trans ((va_up_ne _ _ (by omega)).trans hgc)
              have hw : cu9 11 = .inr (9, [.ref (ad 12), .ref (ad 13), .ref (ad 14), .ref (ad 15), .ref (ad 16), .int (nI R), .int (nI C), .int (nI (gk 0)), .int (nI F), cz, .ref (ad 17), .ref (ad 19), .ref (ad 21), .ref (ad 23), .ref (ad 25)]) := (congrFun ecu9 _).trans ((va_up_ne _ _ (by omega)).trans hw)
              have hrs : cu9 13 = .inl (B.2.1 0, 5, .inl (nF rs)) := (congrFun ecu9 _).trans ((va_up_ne _ _ (by omega)).trans hrs)
              have hcl : cu9 14 = .inl (B.2.1 0, 5, .inl (nF (va_up cl j (sumF (fun k => gk (5 * k + j)) R)))) := by rw [ecu9, va_up_self, nF_up]
              refine g_iinc (L' := [(2, .int (nI (j + 1))), (0, .ref (ad 11)), (1, .ref (ad 1))]) fx (nI (j + 1)) 2 dX9_begin_82 rfl (gInc _) (by decide) rfl ?_
              refine g_goto fx 63 dX9_begin_85 (by decide) ?_
              refine g_locals (L' := [(0, .ref (ad 11)), (1, .ref (ad 1)), (2, .int (nI (j + 1)))]) [1, 2, 0] rfl ?_
              exact ih63 (j + 1) _ _ (by omega) (fun m hm => by by_cases q : m = j; (rw [q, va_up_self]); (rw [va_up_ne _ _ q]; exact hcc m (by omega))) hg hgc hw hrs hcl hfr (by omega)
        refine g_locals (L' := [(0, .ref (ad 11)), (1, .ref (ad 1)), (2, .int (nI 0))]) [1, 2, 0] rfl ?_
        exact LP63 (C + 1) 0 cl0 _ (by omega) (fun j hj => absurd hj (by omega)) hg hgc hw hrs hcl hfr (by omega)
      · skip
        have hlt : i < R := (nI_ltI (by omega) (by omega)).mp (Int32.not_le.mp c41)
        refine g_aload_n fx 0 dX9_begin_44 rfl ?_
        refine g_get (r := 11) fx lkX9_15 (by omega) hw rfl dX9_begin_45 ?_
        refine g_iload_n fx 2 dX9_begin_48 rfl ?_
        refine g_aload_n fx 1 dX9_begin_49 rfl ?_
        refine g_iload_n fx 2 dX9_begin_50 rfl ?_
        refine g_callVip (As := [.int (nI i)]) (rest := [.int (nI i), .ref (ad 13)]) fx slX9_105 (c_X3_rowSum B ad ct1 n gk R C hn hg hgc hR5 hC5 i hlt hgb) (by omega) hg rfl rfl rfl (Nat.le_of_ble_eq_true rfl) ⟨by decide, by decide⟩ ⟨by decide, by decide⟩ dX9_begin_51 (fun q6 hq6 => ?_)
        obtain rfl := hq6
        refine g_iast (r := 13) (j := i) fx (by omega) hrs (nI_toInt (by omega)) (by omega) dX9_begin_54 (fun cu11 ecu11 => ?_)
        have hfr : ∀ r, r ≠ 11 → r ≠ 13 → r ≠ 14 → cu11 r = ct r := fun r _ _ _ => (congrFun ecu11 r).trans ((va_up_ne _ _ (by assumption)).trans (hfr r (by assumption) (by assumption) (by assumption)))
        have hg : cu11 1 = .inr (3, [.ref (ad 2), .int (nI R), .int (nI C)]) := (congrFun ecu11 _).trans ((va_up_ne _ _ (by omega)).trans hg)
        have hgc : cu11 2 = .inl (B.2.1 0, 25, .inl (nF gk)) := (congrFun ecu11 _).trans ((va_up_ne _ _ (by omega)).trans hgc)
        have hw : cu11 11 = .inr (9, [.ref (ad 12), .ref (ad 13), .ref (ad 14), .ref (ad 15), .ref (ad 16), .int (nI R), .int (nI C), .int (nI (gk 0)), .int (nI F), cz, .ref (ad 17), .ref (ad 19), .ref (ad 21), .ref (ad 23), .ref (ad 25)]) := (congrFun ecu11 _).trans ((va_up_ne _ _ (by omega)).trans hw)
        have hrs : cu11 13 = .inl (B.2.1 0, 5, .inl (nF (va_up rs i (sumF (fun k => gk (5 * i + k)) C)))) := by rw [ecu11, va_up_self, nF_up]
        have hcl : cu11 14 = .inl (B.2.1 0, 5, .inl (nF cl0)) := (congrFun ecu11 _).trans ((va_up_ne _ _ (by omega)).trans hcl)
        refine g_iinc (L' := [(2, .int (nI (i + 1))), (0, .ref (ad 11)), (1, .ref (ad 1))]) fx (nI (i + 1)) 2 dX9_begin_55 rfl (gInc _) (by decide) rfl ?_
        refine g_goto fx 36 dX9_begin_58 (by decide) ?_
        refine g_locals (L' := [(0, .ref (ad 11)), (1, .ref (ad 1)), (2, .int (nI (i + 1)))]) [1, 2, 0] rfl ?_
        exact ih36 (i + 1) _ _ (by omega) (fun j hj => by by_cases q : j = i; (rw [q, va_up_self]); (rw [va_up_ne _ _ q]; exact hrr j (by omega))) hg hgc hw hrs hcl hfr (by omega)
  refine g_locals (L' := [(0, .ref (ad 11)), (1, .ref (ad 1)), (2, .int (nI 0))]) [1, 2, 0] rfl ?_
  exact LP36 (R + 1) 0 rs0 _ (by omega) (fun j hj => absurd hj (by omega)) hg hgc hw hrs hcl hfr (by omega)
set_option maxHeartbeats 4000000 in
set_option maxRecDepth 100000 in
theorem c_X9_weighAll (B : gB) (ad : Nat → Nat) (ct : Nat → va_E) (n : Nat) (rs gt : Nat → Nat) (R C co F T : Nat) (cz : Value) (hn : 178 ≤ n) (hw : ct 11 = .inr (9, [.ref (ad 12), .ref (ad 13), .ref (ad 14), .ref (ad 15), .ref (ad 16), .int (nI R), .int (nI C), .int (nI co), .int (nI F), cz, .ref (ad 17), .ref (ad 19), .ref (ad 21), .ref (ad 23), .ref (ad 25)])) (ht : ct 12 = .inl (B.2.1 1, 1891, .inr (.inl (lF gt)))) (htri : (∀ a b, a ≤ 60 → b ≤ a → gt (a * (a + 1) / 2 + b) = ch a b)) (hrs : ct 13 = .inl (B.2.1 0, 5, .inl (nF rs))) (hwr : ct 16 = .inl (B.2.1 3, 26, .inr (.inr (.inr (.inr (fun i => some (ad (27 + 2 * i)))))))) (hR5 : R ≤ 5) (hs : sumF rs R = T) (hT : T ≤ 60) (x0 y0 : Nat) (hA : isW B ad ct 17 x0) (hZ : isW B ad ct 27 y0) : Ctr B yX9_weighAll cX9_weighAll 4 none 3 76 0 0 ad ct n [.ref (ad 11), .int (nI T)] (gPv ad n (fun ct' => isW B ad ct' 17 (aP rs T R) ∧ (∃ y, isW B ad ct' 27 y) ∧ ∀ r, r ≠ 17 → r ≠ 18 → r ≠ 27 → r ≠ 28 → ct' r = ct r)) := by
  refine Ctr.ofG (L := [(0, .ref (ad 11)), (1, .int (nI T))]) (by decide +kernel) rfl (Nat.le_of_ble_eq_true rfl) (fun E fx rt hnm => ?_)
  refine g_iload_n fx 1 dX9_weighAll_0 rfl ?_
  refine g_isi (y := nI (T - sumF rs 0)) rfl ?_
  refine g_istore_n (L' := [(2, .int (nI (T - sumF rs 0))), (0, .ref (ad 11)), (1, .int (nI T))]) fx dX9_weighAll_1 (by decide) rfl ?_
  refine g_aload_n fx 1 dX9_weighAll_2 rfl ?_
  refine g_get (r := 11) fx lkX9_32 (by omega) hw rfl dX9_weighAll_3 ?_
  refine g_lconst (v := lN 1) fx dX9_weighAll_6 (by decide +kernel) ?_
  obtain ⟨sz0, g0, hr0⟩ := hA.rw_
  refine g_callVv (As := [.long (lN 1)]) (rest := []) fx slX9_72 (c_X10_set B ad ct n 17 sz0 1 g0 (by omega) hr0 (by decide)) (by omega) (isW.ob hA).choose_spec rfl rfl rfl (Nat.le_of_ble_eq_true rfl) ⟨by decide, by decide⟩ ⟨by decide, by decide⟩ dX9_weighAll_7 (fun ctA hz1 => ?_)
  obtain ⟨hA, hs1⟩ := hz1
  have hZ := hZ.other hs1 (by decide) (by decide) (by decide)
  have hw : ctA 11 = .inr (9, [.ref (ad 12), .ref (ad 13), .ref (ad 14), .ref (ad 15), .ref (ad 16), .int (nI R), .int (nI C), .int (nI co), .int (nI F), cz, .ref (ad 17), .ref (ad 19), .ref (ad 21), .ref (ad 23), .ref (ad 25)]) := (hs1 11 (by omega) (by omega)).trans hw
  have ht : ctA 12 = .inl (B.2.1 1, 1891, .inr (.inl (lF gt))) := (hs1 12 (by omega) (by omega)).trans ht
  have hrs : ctA 13 = .inl (B.2.1 0, 5, .inl (nF rs)) := (hs1 13 (by omega) (by omega)).trans hrs
  have hwr : ctA 16 = .inl (B.2.1 3, 26, .inr (.inr (.inr (.inr (fun i => some (ad (27 + 2 * i))))))) := (hs1 16 (by omega) (by omega)).trans hwr
  refine g_iconst (v := nI 0) fx dX9_weighAll_10 (by decide +kernel) ?_
  refine g_istore_n (L' := [(3, .int (nI 0)), (2, .int (nI (T - sumF rs 0))), (0, .ref (ad 11)), (1, .int (nI T))]) fx dX9_weighAll_11 (by decide) rfl ?_
  have LP12 : ∀ (M : Nat) (i y : Nat) (ct1 : Nat → va_E), (i ≤ R) → (ct1 11 = .inr (9, [.ref (ad 12), .ref (ad 13), .ref (ad 14), .ref (ad 15), .ref (ad 16), .int (nI R), .int (nI C), .int (nI co), .int (nI F), cz, .ref (ad 17), .ref (ad 19), .ref (ad 21), .ref (ad 23), .ref (ad 25)])) → (ct1 12 = .inl (B.2.1 1, 1891, .inr (.inl (lF gt)))) → (ct1 13 = .inl (B.2.1 0, 5, .inl (nF rs))) → (ct1 16 = .inl (B.2.1 3, 26, .inr (.inr (.inr (.inr (fun i => some (ad (27 + 2 * i)))))))) → (isW B ad ct1 17 (aP rs T i)) → (isW B ad ct1 27 y) → (∀ r, r ≠ 17 → r ≠ 18 → r ≠ 27 → r ≠ 28 → ct1 r = ct r) →  (R - i) < M → G B 4 E ad ct1 n 0 0 [(0, .ref (ad 11)), (2, .int (nI (T - sumF rs i))), (3, .int (nI i))] 12 [] := by
    intro M
    induction M with
    | zero => intro i y ct1 _ _ _ _ _ _ _ _ hM; exact absurd hM (Nat.not_lt_zero _)
    | succ M ih =>
      intro i y ct1 hi hw ht hrs hwr hA hZ hfr hM
      have ih12 := ih
      refine g_iload_n fx 2 dX9_weighAll_12 rfl ?_
      refine g_aload_n fx 0 dX9_weighAll_13 rfl ?_
      refine g_get (r := 11) fx lkX9_92 (by omega) hw rfl dX9_weighAll_14 ?_
      refine g_icmp_ge fx 72 dX9_weighAll_17 (by decide) (fun c17 => ?_) (fun c17 => ?_)
      · skip
        have hie : i = R := by have := (nI_leI (by omega) (by omega)).mp c17; omega
        refine g_vret fx rt dX9_weighAll_72 ?_
        rw [hie] at hA
        exact gPv.mk ⟨hA, ⟨_, hZ⟩, hfr⟩
      · skip
        have hlt : i < R := (nI_ltI (by omega) (by omega)).mp (Int32.not_le.mp c17)
        have hsi : sumF rs (i + 1) = sumF rs i + rs i := rfl
        have hsl := sumF_le2 (f := rs) (a := i + 1) (b := R) (by omega)
        have hpb := aP_le (rs := rs) (T := T) (i + 1) (by omega) hT
        refine g_aload_n fx 0 dX9_weighAll_20 rfl ?_
        refine g_get (r := 11) fx lkX9_27 (by omega) hw rfl dX9_weighAll_21 ?_
        refine g_iconst (v := nI 0) fx dX9_weighAll_24 (by decide +kernel) ?_
        refine g_aald (r := 16) (j := 0) (t0 := 3) fx rfl (by omega) hwr (nI_toInt (by omega)) (by omega) rfl dX9_weighAll_25 ?_
        refine g_aload_n fx 0 dX9_weighAll_26 rfl ?_
        refine g_get (r := 11) fx lkX9_32 (by omega) hw rfl dX9_weighAll_27 ?_
        obtain ⟨sz2, g2, hr2⟩ := hZ.rw_
        refine g_callVv (As := [.ref (ad 17)]) (rest := []) fx slX9_112 (c_X10_copy B ad ct1 n 27 17 sz2 (aP rs T i) g2 (by omega) (by omega) (by decide) (by decide) (by decide) hr2 hA) (by omega) (isW.ob hZ).choose_spec rfl rfl rfl (Nat.le_of_ble_eq_true rfl) ⟨by decide, by decide⟩ ⟨by decide, by decide⟩ dX9_weighAll_30 (fun ct2 hz2 => ?_)
        obtain ⟨hZ, hs2⟩ := hz2
        have hA := hA.other hs2 (by decide) (by decide) (by decide)
        have hw : ct2 11 = .inr (9, [.ref (ad 12), .ref (ad 13), .ref (ad 14), .ref (ad 15), .ref (ad 16), .int (nI R), .int (nI C), .int (nI co), .int (nI F), cz, .ref (ad 17), .ref (ad 19), .ref (ad 21), .ref (ad 23), .ref (ad 25)]) := (hs2 11 (by omega) (by omega)).trans hw
        have ht : ct2 12 = .inl (B.2.1 1, 1891, .inr (.inl (lF gt))) := (hs2 12 (by omega) (by omega)).trans ht
        have hrs : ct2 13 = .inl (B.2.1 0, 5, .inl (nF rs)) := (hs2 13 (by omega) (by omega)).trans hrs
        have hwr : ct2 16 = .inl (B.2.1 3, 26, .inr (.inr (.inr (.inr (fun i => some (ad (27 + 2 * i))))))) := (hs2 16 (by omega) (by omega)).trans hwr
        refine g_aload_n fx 0 dX9_weighAll_33 rfl ?_
        refine g_get (r := 11) fx lkX9_32 (by omega) hw rfl dX9_weighAll_34 ?_
        refine g_aload_n fx 0 dX9_weighAll_37 rfl ?_
        refine g_get (r := 11) fx lkX9_27 (by omega) hw rfl dX9_weighAll_38 ?_
        refine g_iconst (v := nI 0) fx dX9_weighAll_41 (by decide +kernel) ?_
        refine g_aald (r := 16) (j := 0) (t0 := 3) fx rfl (by omega) hwr (nI_toInt (by omega)) (by omega) rfl dX9_weighAll_42 ?_
        refine g_aload_n fx 0 dX9_weighAll_43 rfl ?_
        refine g_iload_n fx 1 dX9_weighAll_44 rfl ?_
        refine g_aload_n fx 0 dX9_weighAll_45 rfl ?_
        refine g_get (r := 11) fx lkX9_15 (by omega) hw rfl dX9_weighAll_46 ?_
        refine g_iload_n fx 2 dX9_weighAll_49 rfl ?_
        refine g_iald (r := 13) (j := i) fx (by omega) hrs (nI_toInt (by omega)) (by omega) dX9_weighAll_50 ?_
        refine g_isi (y := nI (rs i)) rfl ?_
        refine g_callVlp (As := [.int (nI (T - sumF rs i)), .int (nI (rs i))]) (rest := [.ref (ad 27), .ref (ad 17)]) fx slX9_116 (c_X9_choose B ad ct2 n gt R C co F cz hn hw ht htri (T - sumF rs i) (rs i) (by omega) (by omega)) (by omega) hw rfl rfl rfl (Nat.le_of_ble_eq_true rfl) ⟨by decide, by decide⟩ ⟨by decide, by decide⟩ dX9_weighAll_51 (fun q3 hq3 => ?_)
        obtain rfl := hq3
        obtain ⟨sz4, g4, hr4⟩ := hA.rw_
        refine g_callVv (As := [.ref (ad 27), .long (lN (ch (T - sumF rs i) (rs i)))]) (rest := []) fx slX9_120 (c_X10_setProduct B ad ct2 n 17 27 sz4 (aP rs T i) (ch (T - sumF rs i) (rs i)) g4 (by omega) (by omega) (by decide) (by decide) (by decide) hr4 hZ (ch_64 (by omega)) (Nat.lt_of_le_of_lt hpb fac_w)) (by omega) (isW.ob hA).choose_spec rfl rfl rfl (Nat.le_of_ble_eq_true rfl) ⟨by decide, by decide⟩ ⟨by decide, by decide⟩ dX9_weighAll_54 (fun ct4 hz4 => ?_)
        obtain ⟨hA, hs4⟩ := hz4
        have hA : isW B ad ct4 17 (aP rs T (i + 1)) := hA
        have hZ := hZ.other hs4 (by decide) (by decide) (by decide)
        have hw : ct4 11 = .inr (9, [.ref (ad 12), .ref (ad 13), .ref (ad 14), .ref (ad 15), .ref (ad 16), .int (nI R), .int (nI C), .int (nI co), .int (nI F), cz, .ref (ad 17), .ref (ad 19), .ref (ad 21), .ref (ad 23), .ref (ad 25)]) := (hs4 11 (by omega) (by omega)).trans hw
        have ht : ct4 12 = .inl (B.2.1 1, 1891, .inr (.inl (lF gt))) := (hs4 12 (by omega) (by omega)).trans ht
        have hrs : ct4 13 = .inl (B.2.1 0, 5, .inl (nF rs)) := (hs4 13 (by omega) (by omega)).trans hrs
        have hwr : ct4 16 = .inl (B.2.1 3, 26, .inr (.inr (.inr (.inr (fun i => some (ad (27 + 2 * i))))))) := (hs4 16 (by omega) (by omega)).trans hwr
        have hfr : ∀ r, r ≠ 17 → r ≠ 18 → r ≠ 27 → r ≠ 28 → ct4 r = ct r := fun r h1 h2 h3 h4 => (hs4 r h1 h2).trans ((hs2 r h3 h4).trans (hfr r h1 h2 h3 h4))
        refine g_iload_n fx 1 dX9_weighAll_57 rfl ?_
        refine g_aload_n fx 0 dX9_weighAll_58 rfl ?_
        refine g_get (r := 11) fx lkX9_15 (by omega) hw rfl dX9_weighAll_59 ?_
        refine g_iload_n fx 2 dX9_weighAll_62 rfl ?_
        refine g_iald (r := 13) (j := i) fx (by omega) hrs (nI_toInt (by omega)) (by omega) dX9_weighAll_63 ?_
        refine g_isi (y := nI (rs i)) rfl ?_
        refine g_isub fx dX9_weighAll_64 ?_
        refine g_isi (y := nI (T - sumF rs (i + 1))) (by rw [pk_sub (by omega), hsi, Nat.sub_sub]) ?_
        refine g_istore_n (L' := [(2, .int (nI (T - sumF rs (i + 1)))), (0, .ref (ad 11)), (3, .int (nI i))]) fx dX9_weighAll_65 (by decide) rfl ?_
        refine g_iinc (L' := [(3, .int (nI (i + 1))), (2, .int (nI (T - sumF rs (i + 1)))), (0, .ref (ad 11))]) fx (nI (i + 1)) 2 dX9_weighAll_66 rfl (gInc _) (by decide) rfl ?_
        refine g_goto fx 12 dX9_weighAll_69 (by decide) ?_
        refine g_locals (L' := [(0, .ref (ad 11)), (2, .int (nI (T - sumF rs (i + 1)))), (3, .int (nI (i + 1)))]) [2, 1, 0] rfl ?_
        exact ih12 (i + 1) _ _ (by omega) hw ht hrs hwr hA hZ hfr (by omega)
  refine g_locals (L' := [(0, .ref (ad 11)), (2, .int (nI (T - sumF rs 0))), (3, .int (nI 0))]) [2, 1, 0] rfl ?_
  exact LP12 (R + 1) 0 y0 _ (by omega) hw ht hrs hwr hA hZ (fun r h1 h2 _ _ => hs1 r h1 h2) (by omega)
set_option maxHeartbeats 4000000 in
set_option maxRecDepth 100000 in
theorem c_X9_weighSeen (B : gB) (ad : Nat → Nat) (ct : Nat → va_E) (n : Nat) (gk : Nat → Nat) (R C : Nat) (hn : 178 ≤ n) (hg : ct 1 = .inr (3, [.ref (ad 2), .int (nI R), .int (nI C)])) (hgc : ct 2 = .inl (B.2.1 0, 25, .inl (nF gk))) (hR5 : R ≤ 5) (hC5 : C ≤ 5) (hRp : 0 < R) (hCp : 0 < C) (hgb : ∀ j, j < 25 → gk j ≤ 60) (hT : sumF (fun c => sumF (fun k => gk (5 * k + c)) R) C ≤ 60) (cl0 gt : Nat → Nat) (co F : Nat) (cz : Value) (hw : ct 11 = .inr (9, [.ref (ad 12), .ref (ad 13), .ref (ad 14), .ref (ad 15), .ref (ad 16), .int (nI R), .int (nI C), .int (nI co), .int (nI F), cz, .ref (ad 17), .ref (ad 19), .ref (ad 21), .ref (ad 23), .ref (ad 25)])) (ht : ct 12 = .inl (B.2.1 1, 1891, .inr (.inl (lF gt)))) (htri : (∀ a b, a ≤ 60 → b ≤ a → gt (a * (a + 1) / 2 + b) = ch a b)) (hcl : ct 14 = .inl (B.2.1 0, 5, .inl (nF cl0))) (hwr : ct 16 = .inl (B.2.1 3, 26, .inr (.inr (.inr (.inr (fun i => some (ad (27 + 2 * i)))))))) (hcc : ∀ i, i < C → cl0 i = sumF (fun k => gk (5 * k + i)) R) (x0 y0 : Nat) (hA : isW B ad ct 19 x0) (hZ : isW B ad ct 27 y0) : Ctr B yX9_weighSeen cX9_weighSeen 5 none 3 76 0 0 ad ct n [.ref (ad 11), .ref (ad 1)] (gPv ad n (fun ct' => isW B ad ct' 19 (Wc (fun c => sumF (fun k => gk (5 * k + c)) R) C (C * R) (gv gk C)) ∧ (∃ y, isW B ad ct' 27 y) ∧ (∃ cl, ct' 14 = .inl (B.2.1 0, 5, .inl (nF cl))) ∧ ∀ r, r ≠ 14 → r ≠ 19 → r ≠ 20 → r ≠ 27 → r ≠ 28 → ct' r = ct r)) := by
  have hc60 : ∀ c, c < C → sumF (fun k => gk (5 * k + c)) R ≤ 60 := fun c hc => by have := sumF_mem (f := (fun c => sumF (fun k => gk (5 * k + c)) R)) hc; omega
  have hcmf := facP_fac hT
  refine Ctr.ofG (L := [(0, .ref (ad 11)), (1, .ref (ad 1))]) (by decide +kernel) rfl (Nat.le_of_ble_eq_true rfl) (fun E fx rt hnm => ?_)
  refine g_aload_n fx 0 dX9_weighSeen_0 rfl ?_
  refine g_get (r := 11) fx lkX9_36 (by omega) hw rfl dX9_weighSeen_1 ?_
  refine g_lconst (v := lN 1) fx dX9_weighSeen_4 (by decide +kernel) ?_
  obtain ⟨sz0, g0, hr0⟩ := hA.rw_
  refine g_callVv (As := [.long (lN 1)]) (rest := []) fx slX9_72 (c_X10_set B ad ct n 19 sz0 1 g0 (by omega) hr0 (by decide)) (by omega) (isW.ob hA).choose_spec rfl rfl rfl (Nat.le_of_ble_eq_true rfl) ⟨by decide, by decide⟩ ⟨by decide, by decide⟩ dX9_weighSeen_5 (fun ctA hz1 => ?_)
  obtain ⟨hA, hs1⟩ := hz1
  have hZ := hZ.other hs1 (by decide) (by decide) (by decide)
  have hg : ctA 1 = .inr (3, [.ref (ad 2), .int (nI R), .int (nI C)]) := (hs1 1 (by omega) (by omega)).trans hg
  have hgc : ctA 2 = .inl (B.2.1 0, 25, .inl (nF gk)) := (hs1 2 (by omega) (by omega)).trans hgc
  have hw : ctA 11 = .inr (9, [.ref (ad 12), .ref (ad 13), .ref (ad 14), .ref (ad 15), .ref (ad 16), .int (nI R), .int (nI C), .int (nI co), .int (nI F), cz, .ref (ad 17), .ref (ad 19), .ref (ad 21), .ref (ad 23), .ref (ad 25)]) := (hs1 11 (by omega) (by omega)).trans hw
  have ht : ctA 12 = .inl (B.2.1 1, 1891, .inr (.inl (lF gt))) := (hs1 12 (by omega) (by omega)).trans ht
  have hcl : ctA 14 = .inl (B.2.1 0, 5, .inl (nF cl0)) := (hs1 14 (by omega) (by omega)).trans hcl
  have hwr : ctA 16 = .inl (B.2.1 3, 26, .inr (.inr (.inr (.inr (fun i => some (ad (27 + 2 * i))))))) := (hs1 16 (by omega) (by omega)).trans hwr
  refine g_iconst (v := nI 0) fx dX9_weighSeen_8 (by decide +kernel) ?_
  refine g_istore_n (L' := [(2, .int (nI 0)), (0, .ref (ad 11)), (1, .ref (ad 1))]) fx dX9_weighSeen_9 (by decide) rfl ?_
  have LP10 : ∀ (M : Nat) (r p y : Nat) (cl : Nat → Nat) (ct1 : Nat → va_E), (r ≤ R) → (ct1 1 = .inr (3, [.ref (ad 2), .int (nI R), .int (nI C)])) → (ct1 2 = .inl (B.2.1 0, 25, .inl (nF gk))) → (ct1 11 = .inr (9, [.ref (ad 12), .ref (ad 13), .ref (ad 14), .ref (ad 15), .ref (ad 16), .int (nI R), .int (nI C), .int (nI co), .int (nI F), cz, .ref (ad 17), .ref (ad 19), .ref (ad 21), .ref (ad 23), .ref (ad 25)])) → (ct1 12 = .inl (B.2.1 1, 1891, .inr (.inl (lF gt)))) → (ct1 14 = .inl (B.2.1 0, 5, .inl (nF cl))) → (ct1 16 = .inl (B.2.1 3, 26, .inr (.inr (.inr (.inr (fun i => some (ad (27 + 2 * i)))))))) → (isW B ad ct1 19 p) → (isW B ad ct1 27 y) → (CL C (fun c => sumF (fun k => gk (5 * k + c)) R) (gv gk C) r 0 cl) → (p * (facP (gv gk C) (C * r + 0) * facP cl C) = facP (fun c => sumF (fun k => gk (5 * k + c)) R) C) → (∀ r, r ≠ 14 → r ≠ 19 → r ≠ 20 → r ≠ 27 → r ≠ 28 → ct1 r = ct r) →  (R - r) < M → G B 5 E ad ct1 n 0 0 [(0, .ref (ad 11)), (1, .ref (ad 1)), (2, .int (nI r))] 10 [] := by
    intro M
    induction M with
    | zero => intro r p y cl ct1 _ _ _ _ _ _ _ _ _ _ _ _ hM; exact absurd hM (Nat.not_lt_zero _)
    | succ M ih =>
      intro r p y cl ct1 hr hg hgc hw ht hcl hwr hA hZ hCL hwt hfr hM
      have ih10 := ih
      refine g_iload_n fx 2 dX9_weighSeen_10 rfl ?_
      refine g_aload_n fx 0 dX9_weighSeen_11 rfl ?_
      refine g_get (r := 11) fx lkX9_92 (by omega) hw rfl dX9_weighSeen_12 ?_
      refine g_icmp_ge fx 97 dX9_weighSeen_15 (by decide) (fun c15 => ?_) (fun c15 => ?_)
      · skip
        have hre : r = R := by have := (nI_leI (by omega) (by omega)).mp c15; omega
        rw [hre] at hCL hwt
        refine g_vret fx rt dX9_weighSeen_97 ?_
        rw [gv_end hCL, Nat.mul_one, Nat.add_zero] at hwt
        rw [← Wc_of hwt] at hA
        exact gPv.mk ⟨hA, ⟨_, hZ⟩, ⟨_, hcl⟩, hfr⟩
      · skip
        have hlt : r < R := (nI_ltI (by omega) (by omega)).mp (Int32.not_le.mp c15)
        refine g_iconst (v := nI 0) fx dX9_weighSeen_18 (by decide +kernel) ?_
        refine g_istore_n (L' := [(3, .int (nI 0)), (0, .ref (ad 11)), (1, .ref (ad 1)), (2, .int (nI r))]) fx dX9_weighSeen_19 (by decide) rfl ?_
        have LP20 : ∀ (M : Nat) (c p y : Nat) (cl : Nat → Nat) (ct2 : Nat → va_E), (c ≤ C) → (ct2 1 = .inr (3, [.ref (ad 2), .int (nI R), .int (nI C)])) → (ct2 2 = .inl (B.2.1 0, 25, .inl (nF gk))) → (ct2 11 = .inr (9, [.ref (ad 12), .ref (ad 13), .ref (ad 14), .ref (ad 15), .ref (ad 16), .int (nI R), .int (nI C), .int (nI co), .int (nI F), cz, .ref (ad 17), .ref (ad 19), .ref (ad 21), .ref (ad 23), .ref (ad 25)])) → (ct2 12 = .inl (B.2.1 1, 1891, .inr (.inl (lF gt)))) → (ct2 14 = .inl (B.2.1 0, 5, .inl (nF cl))) → (ct2 16 = .inl (B.2.1 3, 26, .inr (.inr (.inr (.inr (fun i => some (ad (27 + 2 * i)))))))) → (isW B ad ct2 19 p) → (isW B ad ct2 27 y) → (CL C (fun c => sumF (fun k => gk (5 * k + c)) R) (gv gk C) r c cl) → (p * (facP (gv gk C) (C * r + c) * facP cl C) = facP (fun c => sumF (fun k => gk (5 * k + c)) R) C) → (∀ r, r ≠ 14 → r ≠ 19 → r ≠ 20 → r ≠ 27 → r ≠ 28 → ct2 r = ct r) →  (C - c) < M → G B 5 E ad ct2 n 0 0 [(0, .ref (ad 11)), (1, .ref (ad 1)), (2, .int (nI r)), (3, .int (nI c))] 20 [] := by
          intro M
          induction M with
          | zero => intro c p y cl ct2 _ _ _ _ _ _ _ _ _ _ _ _ hM; exact absurd hM (Nat.not_lt_zero _)
          | succ M ih =>
            intro c p y cl ct2 hc hg hgc hw ht hcl hwr hA hZ hCL hwt hfr hM
            have ih20 := ih
            refine g_iload_n fx 3 dX9_weighSeen_20 rfl ?_
            refine g_aload_n fx 0 dX9_weighSeen_21 rfl ?_
            refine g_get (r := 11) fx lkX9_97 (by omega) hw rfl dX9_weighSeen_22 ?_
            refine g_icmp_ge fx 91 dX9_weighSeen_25 (by decide) (fun c25 => ?_) (fun c25 => ?_)
            · skip
              have hce : c = C := by have := (nI_leI (by omega) (by omega)).mp c25; omega
              rw [hce] at hCL hwt
              have hCL2 := hCL
              have hwt2 : p * (facP (gv gk C) (C * (r + 1) + 0) * facP cl C) = facP (fun c => sumF (fun k => gk (5 * k + c)) R) C := by rw [Nat.add_zero, Nat.mul_succ]; exact hwt
              refine g_iinc (L' := [(2, .int (nI (r + 1))), (0, .ref (ad 11)), (1, .ref (ad 1)), (3, .int (nI c))]) fx (nI (r + 1)) 2 dX9_weighSeen_91 rfl (gInc _) (by decide) rfl ?_
              refine g_goto fx 10 dX9_weighSeen_94 (by decide) ?_
              refine g_locals (L' := [(0, .ref (ad 11)), (1, .ref (ad 1)), (2, .int (nI (r + 1)))]) [1, 2, 0] rfl ?_
              exact ih10 (r + 1) _ _ _ _ (by omega) hg hgc hw ht hcl hwr hA hZ hCL2.row hwt2 hfr (by omega)
            · skip
              have hltc : c < C := (nI_ltI (by omega) (by omega)).mp (Int32.not_le.mp c25)
              have hca := hCL.at hltc
              have hfit := gv_fits (gk := gk) hlt hltc
              rw [← hca] at hfit
              have hcb : cl c ≤ 60 := by rw [hca]; exact Nat.le_trans (Nat.sub_le _ _) (hc60 c hltc)
              have hgv := gv_at (gk := gk) (r := r) hltc
              have hwtn := wt_step (k := C * r + c) (m := gk (5 * r + c)) hltc hfit hwt
              rw [← hgv, up_same, hgv] at hwtn
              have hCLn := hCL.next (n := gk (5 * r + c)) hltc
              rw [← hgv, up_same, hgv] at hCLn
              have hpb : p * ch (cl c) (gk (5 * r + c)) ≤ fac 60 := Nat.le_trans (by rw [← hwtn]; exact Nat.le_mul_of_pos_right _ (Nat.mul_pos (facP_pos _ _) (facP_pos _ _))) hcmf
              refine g_aload_n fx 1 dX9_weighSeen_28 rfl ?_
              refine g_iload_n fx 2 dX9_weighSeen_29 rfl ?_
              refine g_iload_n fx 3 dX9_weighSeen_30 rfl ?_
              refine g_callVip (As := [.int (nI r), .int (nI c)]) (rest := []) fx slX9_99 (c_X3_at B ad ct2 n gk R C hn hg hgc hR5 hC5 (nI r) (nI c)) (by omega) hg rfl rfl rfl (Nat.le_of_ble_eq_true rfl) ⟨by decide, by decide⟩ ⟨by decide, by decide⟩ dX9_weighSeen_31 (fun q5 hq5 => ?_)
              rw [if_pos ⟨inR hlt (by omega), inR hltc (by omega)⟩, nI_toInt (by omega), nI_toInt (by omega), Int.toNat_natCast, Int.toNat_natCast] at hq5
              refine g_isi (y := nI (gk (5 * r + c))) hq5 ?_
              refine g_istore (L' := [(4, .int (nI (gk (5 * r + c)))), (0, .ref (ad 11)), (1, .ref (ad 1)), (2, .int (nI r)), (3, .int (nI c))]) fx dX9_weighSeen_34 (by decide) rfl ?_
              refine g_aload_n fx 1 dX9_weighSeen_36 rfl ?_
              refine g_get (r := 11) fx lkX9_27 (by omega) hw rfl dX9_weighSeen_37 ?_
              refine g_iconst (v := nI 0) fx dX9_weighSeen_40 (by decide +kernel) ?_
              refine g_aald (r := 16) (j := 0) (t0 := 3) fx rfl (by omega) hwr (nI_toInt (by omega)) (by omega) rfl dX9_weighSeen_41 ?_
              refine g_aload_n fx 1 dX9_weighSeen_42 rfl ?_
              refine g_get (r := 11) fx lkX9_36 (by omega) hw rfl dX9_weighSeen_43 ?_
              obtain ⟨sz2, g2, hr2⟩ := hZ.rw_
              refine g_callVv (As := [.ref (ad 19)]) (rest := []) fx slX9_112 (c_X10_copy B ad ct2 n 27 19 sz2 p g2 (by omega) (by omega) (by decide) (by decide) (by decide) hr2 hA) (by omega) (isW.ob hZ).choose_spec rfl rfl rfl (Nat.le_of_ble_eq_true rfl) ⟨by decide, by decide⟩ ⟨by decide, by decide⟩ dX9_weighSeen_46 (fun ct3 hz2 => ?_)
              obtain ⟨hZ, hs2⟩ := hz2
              have hA := hA.other hs2 (by decide) (by decide) (by decide)
              have hg : ct3 1 = .inr (3, [.ref (ad 2), .int (nI R), .int (nI C)]) := (hs2 1 (by omega) (by omega)).trans hg
              have hgc : ct3 2 = .inl (B.2.1 0, 25, .inl (nF gk)) := (hs2 2 (by omega) (by omega)).trans hgc
              have hw : ct3 11 = .inr (9, [.ref (ad 12), .ref (ad 13), .ref (ad 14), .ref (ad 15), .ref (ad 16), .int (nI R), .int (nI C), .int (nI co), .int (nI F), cz, .ref (ad 17), .ref (ad 19), .ref (ad 21), .ref (ad 23), .ref (ad 25)]) := (hs2 11 (by omega) (by omega)).trans hw
              have ht : ct3 12 = .inl (B.2.1 1, 1891, .inr (.inl (lF gt))) := (hs2 12 (by omega) (by omega)).trans ht
              have hcl : ct3 14 = .inl (B.2.1 0, 5, .inl (nF cl)) := (hs2 14 (by omega) (by omega)).trans hcl
              have hwr : ct3 16 = .inl (B.2.1 3, 26, .inr (.inr (.inr (.inr (fun i => some (ad (27 + 2 * i))))))) := (hs2 16 (by omega) (by omega)).trans hwr
              refine g_aload_n fx 1 dX9_weighSeen_49 rfl ?_
              refine g_get (r := 11) fx lkX9_36 (by omega) hw rfl dX9_weighSeen_50 ?_
              refine g_aload_n fx 1 dX9_weighSeen_53 rfl ?_
              refine g_get (r := 11) fx lkX9_27 (by omega) hw rfl dX9_weighSeen_54 ?_
              refine g_iconst (v := nI 0) fx dX9_weighSeen_57 (by decide +kernel) ?_
              refine g_aald (r := 16) (j := 0) (t0 := 3) fx rfl (by omega) hwr (nI_toInt (by omega)) (by omega) rfl dX9_weighSeen_58 ?_
              refine g_aload_n fx 1 dX9_weighSeen_59 rfl ?_
              refine g_aload_n fx 1 dX9_weighSeen_60 rfl ?_
              refine g_get (r := 11) fx lkX9_19 (by omega) hw rfl dX9_weighSeen_61 ?_
              refine g_iload_n fx 4 dX9_weighSeen_64 rfl ?_
              refine g_iald (r := 14) (j := c) fx (by omega) hcl (nI_toInt (by omega)) (by omega) dX9_weighSeen_65 ?_
              refine g_isi (y := nI (cl c)) rfl ?_
              refine g_iload fx 0 dX9_weighSeen_66 rfl ?_
              refine g_callVlp (As := [.int (nI (cl c)), .int (nI (gk (5 * r + c)))]) (rest := [.ref (ad 27), .ref (ad 19)]) fx slX9_116 (c_X9_choose B ad ct3 n gt R C co F cz hn hw ht htri (cl c) (gk (5 * r + c)) hcb hfit) (by omega) hw rfl rfl rfl (Nat.le_of_ble_eq_true rfl) ⟨by decide, by decide⟩ ⟨by decide, by decide⟩ dX9_weighSeen_68 (fun q3 hq3 => ?_)
              obtain rfl := hq3
              obtain ⟨sz4, g4, hr4⟩ := hA.rw_
              refine g_callVv (As := [.ref (ad 27), .long (lN (ch (cl c) (gk (5 * r + c))))]) (rest := []) fx slX9_120 (c_X10_setProduct B ad ct3 n 19 27 sz4 p (ch (cl c) (gk (5 * r + c))) g4 (by omega) (by omega) (by decide) (by decide) (by decide) hr4 hZ (ch_64 hcb) (Nat.lt_of_le_of_lt hpb fac_w)) (by omega) (isW.ob hA).choose_spec rfl rfl rfl (Nat.le_of_ble_eq_true rfl) ⟨by decide, by decide⟩ ⟨by decide, by decide⟩ dX9_weighSeen_71 (fun ct4 hz4 => ?_)
              obtain ⟨hA, hs4⟩ := hz4
              have hZ := hZ.other hs4 (by decide) (by decide) (by decide)
              have hg : ct4 1 = .inr (3, [.ref (ad 2), .int (nI R), .int (nI C)]) := (hs4 1 (by omega) (by omega)).trans hg
              have hgc : ct4 2 = .inl (B.2.1 0, 25, .inl (nF gk)) := (hs4 2 (by omega) (by omega)).trans hgc
              have hw : ct4 11 = .inr (9, [.ref (ad 12), .ref (ad 13), .ref (ad 14), .ref (ad 15), .ref (ad 16), .int (nI R), .int (nI C), .int (nI co), .int (nI F), cz, .ref (ad 17), .ref (ad 19), .ref (ad 21), .ref (ad 23), .ref (ad 25)]) := (hs4 11 (by omega) (by omega)).trans hw
              have ht : ct4 12 = .inl (B.2.1 1, 1891, .inr (.inl (lF gt))) := (hs4 12 (by omega) (by omega)).trans ht
              have hcl : ct4 14 = .inl (B.2.1 0, 5, .inl (nF cl)) := (hs4 14 (by omega) (by omega)).trans hcl
              have hwr : ct4 16 = .inl (B.2.1 3, 26, .inr (.inr (.inr (.inr (fun i => some (ad (27 + 2 * i))))))) := (hs4 16 (by omega) (by omega)).trans hwr
              have hfr : ∀ r, r ≠ 14 → r ≠ 19 → r ≠ 20 → r ≠ 27 → r ≠ 28 → ct4 r = ct r := fun r h0 h1 h2 h3 h4 => (hs4 r h1 h2).trans ((hs2 r h3 h4).trans (hfr r h0 h1 h2 h3 h4))
              refine g_aload_n fx 1 dX9_weighSeen_74 rfl ?_
              refine g_get (r := 11) fx lkX9_19 (by omega) hw rfl dX9_weighSeen_75 ?_
              refine g_iload_n fx 4 dX9_weighSeen_78 rfl ?_
              refine g_dup2_11 fx dX9_weighSeen_79 rfl rfl ?_
              refine g_iald (r := 14) (j := c) fx (by omega) hcl (nI_toInt (by omega)) (by omega) dX9_weighSeen_80 ?_
              refine g_isi (y := nI (cl c)) rfl ?_
              refine g_iload fx 0 dX9_weighSeen_81 rfl ?_
              refine g_isubN fx dX9_weighSeen_83 hfit ?_
              refine g_iast (r := 14) (j := c) fx (by omega) hcl (nI_toInt (by omega)) (by omega) dX9_weighSeen_84 (fun ct5 ect5 => ?_)
              have hg : ct5 1 = .inr (3, [.ref (ad 2), .int (nI R), .int (nI C)]) := (congrFun ect5 _).trans ((va_up_ne _ _ (by omega)).trans hg)
              have hgc : ct5 2 = .inl (B.2.1 0, 25, .inl (nF gk)) := (congrFun ect5 _).trans ((va_up_ne _ _ (by omega)).trans hgc)
              have hw : ct5 11 = .inr (9, [.ref (ad 12), .ref (ad 13), .ref (ad 14), .ref (ad 15), .ref (ad 16), .int (nI R), .int (nI C), .int (nI co), .int (nI F), cz, .ref (ad 17), .ref (ad 19), .ref (ad 21), .ref (ad 23), .ref (ad 25)]) := (congrFun ect5 _).trans ((va_up_ne _ _ (by omega)).trans hw)
              have ht : ct5 12 = .inl (B.2.1 1, 1891, .inr (.inl (lF gt))) := (congrFun ect5 _).trans ((va_up_ne _ _ (by omega)).trans ht)
              have hcl : ct5 14 = .inl (B.2.1 0, 5, .inl (nF (va_up cl c ((cl c) - (gk (5 * r + c)))))) := by rw [ect5, va_up_self, nF_up]
              have hwr : ct5 16 = .inl (B.2.1 3, 26, .inr (.inr (.inr (.inr (fun i => some (ad (27 + 2 * i))))))) := (congrFun ect5 _).trans ((va_up_ne _ _ (by omega)).trans hwr)
              have hs5 : ∀ r, r ≠ 14 → ct5 r = ct4 r := fun r h => by rw [ect5, va_up_ne _ _ h]
              have hA := hA.frame (ct' := ct5) (hs5 _ (by decide)) (hs5 _ (by decide))
              have hZ := hZ.frame (ct' := ct5) (hs5 _ (by decide)) (hs5 _ (by decide))
              have hfr : ∀ r, r ≠ 14 → r ≠ 19 → r ≠ 20 → r ≠ 27 → r ≠ 28 → ct5 r = ct r := fun r h0 h1 h2 h3 h4 => (hs5 r h0).trans (hfr r h0 h1 h2 h3 h4)
              refine g_iinc (L' := [(3, .int (nI (c + 1))), (4, .int (nI (gk (5 * r + c)))), (0, .ref (ad 11)), (1, .ref (ad 1)), (2, .int (nI r))]) fx (nI (c + 1)) 4 dX9_weighSeen_85 rfl (gInc _) (by decide) rfl ?_
              refine g_goto fx 20 dX9_weighSeen_88 (by decide) ?_
              refine g_locals (L' := [(0, .ref (ad 11)), (1, .ref (ad 1)), (2, .int (nI r)), (3, .int (nI (c + 1)))]) [2, 3, 4, 0] rfl ?_
              exact ih20 (c + 1) _ _ _ _ (by omega) hg hgc hw ht hcl hwr hA hZ hCLn hwtn hfr (by omega)
        refine g_locals (L' := [(0, .ref (ad 11)), (1, .ref (ad 1)), (2, .int (nI r)), (3, .int (nI 0))]) [1, 2, 3, 0] rfl ?_
        exact LP20 (C + 1) 0 _ _ _ _ (by omega) hg hgc hw ht hcl hwr hA hZ hCL hwt hfr (by omega)
  refine g_locals (L' := [(0, .ref (ad 11)), (1, .ref (ad 1)), (2, .int (nI 0))]) [1, 2, 0] rfl ?_
  exact LP10 (R + 1) 0 1 y0 cl0 _ (by omega) hg hgc hw ht hcl hwr hA hZ (fun j hj => by rw [if_neg (by omega), gv_left hj]; exact hcc j hj) (by rw [Nat.mul_zero, Nat.one_mul]; show 1 * facP cl0 C = _; rw [Nat.one_mul]; exact facP_congr C hcc) (fun r _ h1 h2 _ _ => hs1 r h1 h2) (by omega)
set_option maxHeartbeats 4000000 in
set_option maxRecDepth 100000 in
theorem c_X9_countCases (B : gB) (ad : Nat → Nat) (ct : Nat → va_E) (n : Nat) (gk : Nat → Nat) (R C : Nat) (hn : 178 ≤ n) (hg : ct 1 = .inr (3, [.ref (ad 2), .int (nI R), .int (nI C)])) (hgc : ct 2 = .inl (B.2.1 0, 25, .inl (nF gk))) (hR5 : R ≤ 5) (hC5 : C ≤ 5) (hRp : 0 < R) (hCp : 0 < C) (hgb : ∀ j, j < 25 → gk j ≤ 60) (hs : sumF (fun r => sumF (fun k => gk (5 * r + k)) C) R = sumF (fun c => sumF (fun k => gk (5 * k + c)) R) C) (hT : sumF (fun c => sumF (fun k => gk (5 * k + c)) R) C ≤ 60) (rs0 cl0 : Nat → Nat) (R0 C0 co0 F : Nat) (cz : Value) (hw : ct 11 = .inr (9, [.ref (ad 12), .ref (ad 13), .ref (ad 14), .ref (ad 15), .ref (ad 16), .int (nI R0), .int (nI C0), .int (nI co0), .int (nI F), cz, .ref (ad 17), .ref (ad 19), .ref (ad 21), .ref (ad 23), .ref (ad 25)])) (hrs : ct 13 = .inl (B.2.1 0, 5, .inl (nF rs0))) (hcl : ct 14 = .inl (B.2.1 0, 5, .inl (nF cl0))) : Ctr B yX9_countCases cX9_countCases 2 (some .int) 43 1075 0 0 ad ct n [.ref (ad 11), .ref (ad 1)] (gPi ad n (fun q ct' => ∃ F' rs cl, q = nI F' ∧ ((tTot R C (fun r => sumF (fun k => gk (5 * r + k)) C) (fun c => sumF (fun k => gk (5 * k + c)) R)) ≤ 20000 → F' = (tTot R C (fun r => sumF (fun k => gk (5 * r + k)) C) (fun c => sumF (fun k => gk (5 * k + c)) R))) ∧ (20000 < (tTot R C (fun r => sumF (fun k => gk (5 * r + k)) C) (fun c => sumF (fun k => gk (5 * k + c)) R)) → 20000 < F') ∧ F' ≤ 20100 ∧ ct' 11 = .inr (9, [.ref (ad 12), .ref (ad 13), .ref (ad 14), .ref (ad 15), .ref (ad 16), .int (nI R), .int (nI C), .int (nI (gk 0)), .int (nI F'), cz, .ref (ad 17), .ref (ad 19), .ref (ad 21), .ref (ad 23), .ref (ad 25)]) ∧ ct' 13 = .inl (B.2.1 0, 5, .inl (nF rs)) ∧ ct' 14 = .inl (B.2.1 0, 5, .inl (nF cl)) ∧ ∀ r, r ≠ 11 → r ≠ 13 → r ≠ 14 → ct' r = ct r)) := by
  refine Ctr.ofG (L := [(0, .ref (ad 11)), (1, .ref (ad 1))]) (by decide +kernel) rfl (Nat.le_of_ble_eq_true rfl) (fun E fx rt hnm => ?_)
  refine g_aload_n fx 0 dX9_countCases_0 rfl ?_
  refine g_aload_n fx 1 dX9_countCases_1 rfl ?_
  refine g_callVv (As := [.ref (ad 1)]) (rest := []) fx slX9_48 (c_X9_begin B ad ct n gk R C hn hg hgc hR5 hC5 hRp hCp hgb rs0 cl0 R0 C0 co0 F cz hw hrs hcl) (by omega) hw rfl rfl rfl (Nat.le_of_ble_eq_true rfl) ⟨by dsimp only; omega, by dsimp only; omega⟩ ⟨Nat.le_refl _, Nat.le_refl _⟩ dX9_countCases_2 (fun ct1 hz1 => ?_)
  obtain ⟨rs, cl, hw, hrs, hcl, hrr, hcc, hs1⟩ := hz1
  have hsr : sumF rs R = sumF (fun c => sumF (fun k => gk (5 * k + c)) R) C := by rw [← hs]; exact sumF_congr R hrr
  have hCL0 : CL C (fun c => sumF (fun k => gk (5 * k + c)) R) (fun _ => 0) 0 0 cl := fun j hj => by rw [hcc j hj, if_neg (by omega)]; rfl
  have hR20 : C * (R - 1) ≤ 20 := Nat.mul_le_mul hC5 (show R - 1 ≤ 4 by omega)
  have htt := tTot_of hCp hrr (fun c _ => rfl : ∀ c, c < C → (fun c => sumF (fun k => gk (5 * k + c)) R) c = (fun c => sumF (fun k => gk (5 * k + c)) R) c) (fun _ => 0)
  refine g_aload_n fx 0 dX9_countCases_5 rfl ?_
  refine g_iconst (v := nI 0) fx dX9_countCases_6 (by decide +kernel) ?_
  refine g_put (r := 11) (fs' := [.ref (ad 12), .ref (ad 13), .ref (ad 14), .ref (ad 15), .ref (ad 16), .int (nI R), .int (nI C), .int (nI (gk 0)), .int (nI 0), cz, .ref (ad 17), .ref (ad 19), .ref (ad 21), .ref (ad 23), .ref (ad 25)]) fx lpX9_52 (by omega) hw rfl rfl (Nat.le_of_ble_eq_true rfl) rfl dX9_countCases_7 (fun ct2 ect2 => ?_)
  have hw : ct2 11 = .inr (9, [.ref (ad 12), .ref (ad 13), .ref (ad 14), .ref (ad 15), .ref (ad 16), .int (nI R), .int (nI C), .int (nI (gk 0)), .int (nI 0), cz, .ref (ad 17), .ref (ad 19), .ref (ad 21), .ref (ad 23), .ref (ad 25)]) := by rw [ect2, va_up_self]
  have hrs : ct2 13 = .inl (B.2.1 0, 5, .inl (nF rs)) := (congrFun ect2 _).trans ((va_up_ne _ _ (by omega)).trans hrs)
  have hcl : ct2 14 = .inl (B.2.1 0, 5, .inl (nF cl)) := (congrFun ect2 _).trans ((va_up_ne _ _ (by omega)).trans hcl)
  refine g_aload_n fx 0 dX9_countCases_10 rfl ?_
  refine g_iconst (v := nI 0) fx dX9_countCases_11 (by decide +kernel) ?_
  refine g_callVv (As := [.int (nI 0)]) (rest := []) fx slX9_56 (c_X9_countRow B (C * (R - 1)) (c_PC B _) ad ct2 n rs cl (fun c => sumF (fun k => gk (5 * k + c)) R) (fun _ => 0) R C (gk 0) 0 cz hn hw hrs hcl hR5 hC5 hCp hsr hT (by omega) 0 hRp (by omega) (fun j hj => absurd hj (by omega)) hCL0) (by omega) hw rfl rfl rfl (Nat.le_of_ble_eq_true rfl) ⟨by dsimp only; omega, by dsimp only; omega⟩ ⟨Nat.le_refl _, Nat.le_refl _⟩ dX9_countCases_12 (fun ct3 hz2 => ?_)
  obtain ⟨F3, hw, h1, h2, h3, hs3⟩ := hz2
  rw [Nat.mul_zero, Nat.sub_zero, htt, Nat.zero_add] at h1 h2
  have hrs : ct3 13 = .inl (B.2.1 0, 5, .inl (nF rs)) := (hs3 13 (by decide)).trans hrs
  have hcl : ct3 14 = .inl (B.2.1 0, 5, .inl (nF cl)) := (hs3 14 (by decide)).trans hcl
  refine g_aload_n fx 0 dX9_countCases_15 rfl ?_
  refine g_get (r := 11) fx lkX9_52 (by omega) hw rfl dX9_countCases_16 ?_
  refine g_iret fx rt dX9_countCases_19 ?_
  exact gPi.mk ⟨F3, rs, cl, rfl, h1, h2, h3, hw, hrs, hcl, fun r q1 q2 q3 => (hs3 r q1).trans (by rw [ect2, va_up_ne _ _ q1]; exact hs1 r q1 q2 q3)⟩
set_option maxHeartbeats 4000000 in
set_option maxRecDepth 100000 in
theorem c_X9_weighCases (B : gB) (ad : Nat → Nat) (ct : Nat → va_E) (n : Nat) (gk : Nat → Nat) (R C : Nat) (hn : 178 ≤ n) (hg : ct 1 = .inr (3, [.ref (ad 2), .int (nI R), .int (nI C)])) (hgc : ct 2 = .inl (B.2.1 0, 25, .inl (nF gk))) (hR5 : R ≤ 5) (hC5 : C ≤ 5) (hRp : 0 < R) (hCp : 0 < C) (hgb : ∀ j, j < 25 → gk j ≤ 60) (hs : sumF (fun r => sumF (fun k => gk (5 * r + k)) C) R = sumF (fun c => sumF (fun k => gk (5 * k + c)) R) C) (hT : sumF (fun c => sumF (fun k => gk (5 * k + c)) R) C ≤ 60) (hT2 : sumF gk 25 = sumF (fun c => sumF (fun k => gk (5 * k + c)) R) C) (rs0 cl0 v0 gt g : Nat → Nat) (R0 C0 co0 F sd NL : Nat) (cz : Value) (hw : ct 11 = .inr (9, [.ref (ad 12), .ref (ad 13), .ref (ad 14), .ref (ad 15), .ref (ad 16), .int (nI R0), .int (nI C0), .int (nI co0), .int (nI F), cz, .ref (ad 17), .ref (ad 19), .ref (ad 21), .ref (ad 23), .ref (ad 25)])) (ht : ct 12 = .inl (B.2.1 1, 1891, .inr (.inl (lF gt)))) (htri : (∀ a b, a ≤ 60 → b ≤ a → gt (a * (a + 1) / 2 + b) = ch a b)) (hrs : ct 13 = .inl (B.2.1 0, 5, .inl (nF rs0))) (hcl : ct 14 = .inl (B.2.1 0, 5, .inl (nF cl0))) (hv : ct 15 = .inl (B.2.1 0, 25, .inl (nF v0))) (hwr : ct 16 = .inl (B.2.1 3, 26, .inr (.inr (.inr (.inr (fun i => some (ad (27 + 2 * i)))))))) (hWs : ∀ i, i < 31 → ∃ x, isW B ad ct (17 + 2 * i) x) (hk : ct 79 = .inr (0, [.ref (ad 80), .int (nI R), .int (nI C), .int (nI sd), .int (nI 0)])) (hkr : ct 80 = .inl (B.2.1 1, NL, .inr (.inl (lF g)))) (hsd : sd = (R * C + 9) / 10) (hNL : NL ≤ 200000) (hcn : (tTot R C (fun r => sumF (fun k => gk (5 * r + k)) C) (fun c => sumF (fun k => gk (5 * k + c)) R)) ≤ 20000) (hrm : (tTot R C (fun r => sumF (fun k => gk (5 * r + k)) C) (fun c => sumF (fun k => gk (5 * k + c)) R)) * sd ≤ NL) : Ctr B yX9_weighCases cX9_weighCases 3 none 45 1094 0 0 ad ct n [.ref (ad 11), .ref (ad 1), .ref (ad 79)] (gPv ad n (fun ct' => ∃ rs cl v' g' vs' wv', ct' 11 = .inr (9, [.ref (ad 12), .ref (ad 13), .ref (ad 14), .ref (ad 15), .ref (ad 16), .int (nI R), .int (nI C), .int (nI (gk 0)), .int (nI F), .ref (ad 79), .ref (ad 17), .ref (ad 19), .ref (ad 21), .ref (ad 23), .ref (ad 25)]) ∧ ct' 13 = .inl (B.2.1 0, 5, .inl (nF rs)) ∧ ct' 14 = .inl (B.2.1 0, 5, .inl (nF cl)) ∧ ct' 15 = .inl (B.2.1 0, 25, .inl (nF v')) ∧ (∀ i, i < R → rs i = sumF (fun k => gk (5 * i + k)) C) ∧ isW B ad ct' 17 (aP (fun r => sumF (fun k => gk (5 * r + k)) C) (sumF gk 25) R) ∧ FS B ad ct' (fun c => sumF (fun k => gk (5 * k + c)) R) rs C R (Wc (fun c => sumF (fun k => gk (5 * k + c)) R) C (C * R) (gv gk C)) (gk 0) sd (tTot R C (fun r => sumF (fun k => gk (5 * r + k)) C) (fun c => sumF (fun k => gk (5 * k + c)) R)) NL g' vs' wv' ∧ sTot (fun c => sumF (fun k => gk (5 * k + c)) R) C (C * R) vs' (tTot R C (fun r => sumF (fun k => gk (5 * r + k)) C) (fun c => sumF (fun k => gk (5 * k + c)) R)) = aP (fun r => sumF (fun k => gk (5 * r + k)) C) (sumF gk 25) R ∧ ∀ r, r < 11 ∨ r = 12 ∨ r = 16 ∨ 80 < r → ct' r = ct r)) := by
  have hs2 : sumF (fun r => sumF (fun k => gk (5 * r + k)) C) R = sumF gk 25 := by rw [hs, hT2]
  have hgk0 : gk 0 ≤ 60 := hgb 0 (by decide)
  refine Ctr.ofG (L := [(0, .ref (ad 11)), (1, .ref (ad 1)), (2, .ref (ad 79))]) (by decide +kernel) rfl (Nat.le_of_ble_eq_true rfl) (fun E fx rt hnm => ?_)
  refine g_aload_n fx 0 dX9_weighCases_0 rfl ?_
  refine g_aload_n fx 1 dX9_weighCases_1 rfl ?_
  refine g_callVv (As := [.ref (ad 1)]) (rest := []) fx slX9_48 (c_X9_begin B ad ct n gk R C hn hg hgc hR5 hC5 hRp hCp hgb rs0 cl0 R0 C0 co0 F cz hw hrs hcl) (by omega) hw rfl rfl rfl (Nat.le_of_ble_eq_true rfl) ⟨by dsimp only; omega, by dsimp only; omega⟩ ⟨Nat.le_refl _, Nat.le_refl _⟩ dX9_weighCases_2 (fun ct1 hz1 => ?_)
  obtain ⟨rs, cl, hw, hrs, hcl, hrr, hcc, hs1⟩ := hz1
  have hsr : sumF rs R = sumF (fun c => sumF (fun k => gk (5 * k + c)) R) C := by rw [← hs]; exact sumF_congr R hrr
  have hCL0 : CL C (fun c => sumF (fun k => gk (5 * k + c)) R) (fun _ => 0) 0 0 cl := fun j hj => by rw [hcc j hj, if_neg (by omega)]; rfl
  have hR20 : C * (R - 1) ≤ 20 := Nat.mul_le_mul hC5 (show R - 1 ≤ 4 by omega)
  have htt := tTot_of hCp hrr (fun c _ => rfl : ∀ c, c < C → (fun c => sumF (fun k => gk (5 * k + c)) R) c = (fun c => sumF (fun k => gk (5 * k + c)) R) c) (fun _ => 0)
  have hg : ct1 1 = .inr (3, [.ref (ad 2), .int (nI R), .int (nI C)]) := (hs1 1 (by decide) (by decide) (by decide)).trans hg
  have hgc : ct1 2 = .inl (B.2.1 0, 25, .inl (nF gk)) := (hs1 2 (by decide) (by decide) (by decide)).trans hgc
  have ht : ct1 12 = .inl (B.2.1 1, 1891, .inr (.inl (lF gt))) := (hs1 12 (by decide) (by decide) (by decide)).trans ht
  have hv : ct1 15 = .inl (B.2.1 0, 25, .inl (nF v0)) := (hs1 15 (by decide) (by decide) (by decide)).trans hv
  have hwr : ct1 16 = .inl (B.2.1 3, 26, .inr (.inr (.inr (.inr (fun i => some (ad (27 + 2 * i))))))) := (hs1 16 (by decide) (by decide) (by decide)).trans hwr
  have hk : ct1 79 = .inr (0, [.ref (ad 80), .int (nI R), .int (nI C), .int (nI sd), .int (nI 0)]) := (hs1 79 (by decide) (by decide) (by decide)).trans hk
  have hkr : ct1 80 = .inl (B.2.1 1, NL, .inr (.inl (lF g))) := (hs1 80 (by decide) (by decide) (by decide)).trans hkr
  have hWs : ∀ i, i < 31 → ∃ x, isW B ad ct1 (17 + 2 * i) x := fun i hi => by
    obtain ⟨x, hx⟩ := hWs i hi
    exact ⟨x, hx.frame (hs1 _ (by omega) (by omega) (by omega)) (hs1 _ (by omega) (by omega) (by omega))⟩
  have hfr : ∀ r, r < 11 ∨ r = 12 ∨ r = 16 ∨ 78 < r → ct1 r = ct r := fun r h => hs1 r (by omega) (by omega) (by omega)
  refine g_aload_n fx 0 dX9_weighCases_5 rfl ?_
  refine g_aload_n fx 1 dX9_weighCases_6 rfl ?_
  refine g_callVip (As := []) (rest := [.ref (ad 11)]) fx slX9_60 (c_X3_inAll B ad ct1 n gk R C hn hg hgc hR5 hC5) (by omega) hg rfl rfl rfl (Nat.le_of_ble_eq_true rfl) ⟨by dsimp only; omega, by dsimp only; omega⟩ ⟨Nat.le_refl _, Nat.le_refl _⟩ dX9_weighCases_7 (fun q1 hq1 => ?_)
  obtain rfl := hq1
  obtain ⟨x0, hx0⟩ := hWs 0 (by decide)
  obtain ⟨y0, hy0⟩ := hWs 5 (by decide)
  refine g_callVv (As := [.int (nI (sumF gk 25))]) (rest := []) fx slX9_66 (c_X9_weighAll B ad ct1 n rs gt R C (gk 0) F (sumF gk 25) cz hn hw ht htri hrs hwr hR5 (by rw [hT2]; exact hsr) (by omega) x0 y0 hx0 hy0) (by omega) hw rfl rfl rfl (Nat.le_of_ble_eq_true rfl) ⟨by dsimp only; omega, by dsimp only; omega⟩ ⟨Nat.le_refl _, Nat.le_refl _⟩ dX9_weighCases_10 (fun ct2 hz2 => ?_)
  obtain ⟨hV17, hZ, hs2b⟩ := hz2
  rw [aP_congr (rs2 := (fun r => sumF (fun k => gk (5 * r + k)) C)) R hrr] at hV17
  have hg : ct2 1 = .inr (3, [.ref (ad 2), .int (nI R), .int (nI C)]) := (hs2b 1 (by decide) (by decide) (by decide) (by decide)).trans hg
  have hgc : ct2 2 = .inl (B.2.1 0, 25, .inl (nF gk)) := (hs2b 2 (by decide) (by decide) (by decide) (by decide)).trans hgc
  have ht : ct2 12 = .inl (B.2.1 1, 1891, .inr (.inl (lF gt))) := (hs2b 12 (by decide) (by decide) (by decide) (by decide)).trans ht
  have hv : ct2 15 = .inl (B.2.1 0, 25, .inl (nF v0)) := (hs2b 15 (by decide) (by decide) (by decide) (by decide)).trans hv
  have hwr : ct2 16 = .inl (B.2.1 3, 26, .inr (.inr (.inr (.inr (fun i => some (ad (27 + 2 * i))))))) := (hs2b 16 (by decide) (by decide) (by decide) (by decide)).trans hwr
  have hk : ct2 79 = .inr (0, [.ref (ad 80), .int (nI R), .int (nI C), .int (nI sd), .int (nI 0)]) := (hs2b 79 (by decide) (by decide) (by decide) (by decide)).trans hk
  have hkr : ct2 80 = .inl (B.2.1 1, NL, .inr (.inl (lF g))) := (hs2b 80 (by decide) (by decide) (by decide) (by decide)).trans hkr
  have hrs : ct2 13 = .inl (B.2.1 0, 5, .inl (nF rs)) := (hs2b 13 (by decide) (by decide) (by decide) (by decide)).trans hrs
  have hcl : ct2 14 = .inl (B.2.1 0, 5, .inl (nF cl)) := (hs2b 14 (by decide) (by decide) (by decide) (by decide)).trans hcl
  have hw : ct2 11 = .inr (9, [.ref (ad 12), .ref (ad 13), .ref (ad 14), .ref (ad 15), .ref (ad 16), .int (nI R), .int (nI C), .int (nI (gk 0)), .int (nI F), cz, .ref (ad 17), .ref (ad 19), .ref (ad 21), .ref (ad 23), .ref (ad 25)]) := (hs2b 11 (by decide) (by decide) (by decide) (by decide)).trans hw
  have hWs : ∀ i, i < 31 → ∃ x, isW B ad ct2 (17 + 2 * i) x := fun i hi => by
    by_cases q0 : i = 0
    · subst q0; exact ⟨_, hV17⟩
    by_cases q5 : i = 5
    · subst q5; exact hZ
    obtain ⟨x, hx⟩ := hWs i hi
    exact ⟨x, hx.frame (hs2b _ (by omega) (by omega) (by omega) (by omega)) (hs2b _ (by omega) (by omega) (by omega) (by omega))⟩
  have hfr : ∀ r, r < 11 ∨ r = 12 ∨ r = 16 ∨ 78 < r → ct2 r = ct r := fun r h => (hs2b r (by omega) (by omega) (by omega) (by omega)).trans (hfr r h)
  refine g_aload_n fx 0 dX9_weighCases_13 rfl ?_
  refine g_aload_n fx 1 dX9_weighCases_14 rfl ?_
  obtain ⟨x1, hx1⟩ := hWs 1 (by decide)
  obtain ⟨y1, hy1⟩ := hWs 5 (by decide)
  refine g_callVv (As := [.ref (ad 1)]) (rest := []) fx slX9_69 (c_X9_weighSeen B ad ct2 n gk R C hn hg hgc hR5 hC5 hRp hCp hgb hT cl gt (gk 0) F cz hw ht htri hcl hwr hcc x1 y1 hx1 hy1) (by omega) hw rfl rfl rfl (Nat.le_of_ble_eq_true rfl) ⟨by dsimp only; omega, by dsimp only; omega⟩ ⟨Nat.le_refl _, Nat.le_refl _⟩ dX9_weighCases_15 (fun ct3 hz3 => ?_)
  obtain ⟨hV19, hZ3, ⟨cl3, hcl⟩, hs3⟩ := hz3
  have hV17 := hV17.frame (ct' := ct3) (hs3 _ (by decide) (by decide) (by decide) (by decide) (by decide)) (hs3 _ (by decide) (by decide) (by decide) (by decide) (by decide))
  have hg : ct3 1 = .inr (3, [.ref (ad 2), .int (nI R), .int (nI C)]) := (hs3 1 (by decide) (by decide) (by decide) (by decide) (by decide)).trans hg
  have hgc : ct3 2 = .inl (B.2.1 0, 25, .inl (nF gk)) := (hs3 2 (by decide) (by decide) (by decide) (by decide) (by decide)).trans hgc
  have ht : ct3 12 = .inl (B.2.1 1, 1891, .inr (.inl (lF gt))) := (hs3 12 (by decide) (by decide) (by decide) (by decide) (by decide)).trans ht
  have hv : ct3 15 = .inl (B.2.1 0, 25, .inl (nF v0)) := (hs3 15 (by decide) (by decide) (by decide) (by decide) (by decide)).trans hv
  have hwr : ct3 16 = .inl (B.2.1 3, 26, .inr (.inr (.inr (.inr (fun i => some (ad (27 + 2 * i))))))) := (hs3 16 (by decide) (by decide) (by decide) (by decide) (by decide)).trans hwr
  have hk : ct3 79 = .inr (0, [.ref (ad 80), .int (nI R), .int (nI C), .int (nI sd), .int (nI 0)]) := (hs3 79 (by decide) (by decide) (by decide) (by decide) (by decide)).trans hk
  have hkr : ct3 80 = .inl (B.2.1 1, NL, .inr (.inl (lF g))) := (hs3 80 (by decide) (by decide) (by decide) (by decide) (by decide)).trans hkr
  have hrs : ct3 13 = .inl (B.2.1 0, 5, .inl (nF rs)) := (hs3 13 (by decide) (by decide) (by decide) (by decide) (by decide)).trans hrs
  have hw : ct3 11 = .inr (9, [.ref (ad 12), .ref (ad 13), .ref (ad 14), .ref (ad 15), .ref (ad 16), .int (nI R), .int (nI C), .int (nI (gk 0)), .int (nI F), cz, .ref (ad 17), .ref (ad 19), .ref (ad 21), .ref (ad 23), .ref (ad 25)]) := (hs3 11 (by decide) (by decide) (by decide) (by decide) (by decide)).trans hw
  have hWs : ∀ i, i < 31 → ∃ x, isW B ad ct3 (17 + 2 * i) x := fun i hi => by
    by_cases q1 : i = 1
    · subst q1; exact ⟨_, hV19⟩
    by_cases q5 : i = 5
    · subst q5; exact hZ3
    obtain ⟨x, hx⟩ := hWs i hi
    exact ⟨x, hx.frame (hs3 _ (by omega) (by omega) (by omega) (by omega) (by omega)) (hs3 _ (by omega) (by omega) (by omega) (by omega) (by omega))⟩
  have hfr : ∀ r, r < 11 ∨ r = 12 ∨ r = 16 ∨ 78 < r → ct3 r = ct r := fun r h => (hs3 r (by omega) (by omega) (by omega) (by omega) (by omega)).trans (hfr r h)
  refine g_aload_n fx 0 dX9_weighCases_18 rfl ?_
  refine g_aload_n fx 1 dX9_weighCases_19 rfl ?_
  refine g_callVv (As := [.ref (ad 1)]) (rest := []) fx slX9_48 (c_X9_begin B ad ct3 n gk R C hn hg hgc hR5 hC5 hRp hCp hgb rs cl3 R C (gk 0) F cz hw hrs hcl) (by omega) hw rfl rfl rfl (Nat.le_of_ble_eq_true rfl) ⟨by dsimp only; omega, by dsimp only; omega⟩ ⟨Nat.le_refl _, Nat.le_refl _⟩ dX9_weighCases_20 (fun ct4 hz4 => ?_)
  obtain ⟨rs2, cl2, hw, hrs, hcl, hrr, hcc, hs4⟩ := hz4
  have hsr : sumF rs2 R = sumF (fun c => sumF (fun k => gk (5 * k + c)) R) C := by rw [← hs]; exact sumF_congr R hrr
  have hCL0 : CL C (fun c => sumF (fun k => gk (5 * k + c)) R) (fun _ => 0) 0 0 cl2 := fun j hj => by rw [hcc j hj, if_neg (by omega)]; rfl
  have hR20 : C * (R - 1) ≤ 20 := Nat.mul_le_mul hC5 (show R - 1 ≤ 4 by omega)
  have htt := tTot_of hCp hrr (fun c _ => rfl : ∀ c, c < C → (fun c => sumF (fun k => gk (5 * k + c)) R) c = (fun c => sumF (fun k => gk (5 * k + c)) R) c) (fun _ => 0)
  have hg : ct4 1 = .inr (3, [.ref (ad 2), .int (nI R), .int (nI C)]) := (hs4 1 (by decide) (by decide) (by decide)).trans hg
  have hgc : ct4 2 = .inl (B.2.1 0, 25, .inl (nF gk)) := (hs4 2 (by decide) (by decide) (by decide)).trans hgc
  have ht : ct4 12 = .inl (B.2.1 1, 1891, .inr (.inl (lF gt))) := (hs4 12 (by decide) (by decide) (by decide)).trans ht
  have hv : ct4 15 = .inl (B.2.1 0, 25, .inl (nF v0)) := (hs4 15 (by decide) (by decide) (by decide)).trans hv
  have hwr : ct4 16 = .inl (B.2.1 3, 26, .inr (.inr (.inr (.inr (fun i => some (ad (27 + 2 * i))))))) := (hs4 16 (by decide) (by decide) (by decide)).trans hwr
  have hk : ct4 79 = .inr (0, [.ref (ad 80), .int (nI R), .int (nI C), .int (nI sd), .int (nI 0)]) := (hs4 79 (by decide) (by decide) (by decide)).trans hk
  have hkr : ct4 80 = .inl (B.2.1 1, NL, .inr (.inl (lF g))) := (hs4 80 (by decide) (by decide) (by decide)).trans hkr
  have hV17 := hV17.frame (ct' := ct4) (hs4 _ (by decide) (by decide) (by decide)) (hs4 _ (by decide) (by decide) (by decide))
  have hV19 := hV19.frame (ct' := ct4) (hs4 _ (by decide) (by decide) (by decide)) (hs4 _ (by decide) (by decide) (by decide))
  have hWs : ∀ i, i < 31 → ∃ x, isW B ad ct4 (17 + 2 * i) x := fun i hi => by
    obtain ⟨x, hx⟩ := hWs i hi
    exact ⟨x, hx.frame (hs4 _ (by omega) (by omega) (by omega)) (hs4 _ (by omega) (by omega) (by omega))⟩
  have hfr : ∀ r, r < 11 ∨ r = 12 ∨ r = 16 ∨ 78 < r → ct4 r = ct r := fun r h => (hs4 r (by omega) (by omega) (by omega)).trans (hfr r h)
  refine g_aload_n fx 0 dX9_weighCases_23 rfl ?_
  refine g_get (r := 11) fx lkX9_39 (by omega) hw rfl dX9_weighCases_24 ?_
  refine g_lconst (v := lN 0) fx dX9_weighCases_27 (by decide +kernel) ?_
  obtain ⟨x5, hx5⟩ := hWs 2 (by decide)
  obtain ⟨sz5, g5, hr5⟩ := hx5.rw_
  refine g_callVv (As := [.long (lN 0)]) (rest := []) fx slX9_72 (c_X10_set B ad ct4 n 21 sz5 0 g5 (by omega) hr5 (by decide)) (by omega) (isW.ob (hWs 2 (by decide)).choose_spec).choose_spec rfl rfl rfl (Nat.le_of_ble_eq_true rfl) ⟨by dsimp only; omega, by dsimp only; omega⟩ ⟨Nat.le_refl _, Nat.le_refl _⟩ dX9_weighCases_28 (fun ct5 hz5 => ?_)
  obtain ⟨hV21, hs5⟩ := hz5
  have hg : ct5 1 = .inr (3, [.ref (ad 2), .int (nI R), .int (nI C)]) := (hs5 1 (by decide) (by decide)).trans hg
  have hgc : ct5 2 = .inl (B.2.1 0, 25, .inl (nF gk)) := (hs5 2 (by decide) (by decide)).trans hgc
  have ht : ct5 12 = .inl (B.2.1 1, 1891, .inr (.inl (lF gt))) := (hs5 12 (by decide) (by decide)).trans ht
  have hv : ct5 15 = .inl (B.2.1 0, 25, .inl (nF v0)) := (hs5 15 (by decide) (by decide)).trans hv
  have hwr : ct5 16 = .inl (B.2.1 3, 26, .inr (.inr (.inr (.inr (fun i => some (ad (27 + 2 * i))))))) := (hs5 16 (by decide) (by decide)).trans hwr
  have hk : ct5 79 = .inr (0, [.ref (ad 80), .int (nI R), .int (nI C), .int (nI sd), .int (nI 0)]) := (hs5 79 (by decide) (by decide)).trans hk
  have hkr : ct5 80 = .inl (B.2.1 1, NL, .inr (.inl (lF g))) := (hs5 80 (by decide) (by decide)).trans hkr
  have hrs : ct5 13 = .inl (B.2.1 0, 5, .inl (nF rs2)) := (hs5 13 (by decide) (by decide)).trans hrs
  have hcl : ct5 14 = .inl (B.2.1 0, 5, .inl (nF cl2)) := (hs5 14 (by decide) (by decide)).trans hcl
  have hw : ct5 11 = .inr (9, [.ref (ad 12), .ref (ad 13), .ref (ad 14), .ref (ad 15), .ref (ad 16), .int (nI R), .int (nI C), .int (nI (gk 0)), .int (nI F), cz, .ref (ad 17), .ref (ad 19), .ref (ad 21), .ref (ad 23), .ref (ad 25)]) := (hs5 11 (by decide) (by decide)).trans hw
  have hV17 := hV17.other hs5 (by decide) (by decide) (by decide)
  have hV19 := hV19.other hs5 (by decide) (by decide) (by decide)
  have hWs : ∀ i, i < 31 → ∃ x, isW B ad ct5 (17 + 2 * i) x := fun i hi => by
    by_cases q2 : i = 2
    · subst q2; exact ⟨_, hV21⟩
    obtain ⟨x, hx⟩ := hWs i hi
    exact ⟨x, hx.frame (hs5 _ (by omega) (by omega)) (hs5 _ (by omega) (by omega))⟩
  have hfr : ∀ r, r < 11 ∨ r = 12 ∨ r = 16 ∨ 78 < r → ct5 r = ct r := fun r h => (hs5 r (by omega) (by omega)).trans (hfr r h)
  refine g_aload_n fx 0 dX9_weighCases_31 rfl ?_
  refine g_get (r := 11) fx lkX9_42 (by omega) hw rfl dX9_weighCases_32 ?_
  refine g_lconst (v := lN 0) fx dX9_weighCases_35 (by decide +kernel) ?_
  obtain ⟨x6, hx6⟩ := hWs 3 (by decide)
  obtain ⟨sz6, g6, hr6⟩ := hx6.rw_
  refine g_callVv (As := [.long (lN 0)]) (rest := []) fx slX9_72 (c_X10_set B ad ct5 n 23 sz6 0 g6 (by omega) hr6 (by decide)) (by omega) (isW.ob (hWs 3 (by decide)).choose_spec).choose_spec rfl rfl rfl (Nat.le_of_ble_eq_true rfl) ⟨by dsimp only; omega, by dsimp only; omega⟩ ⟨Nat.le_refl _, Nat.le_refl _⟩ dX9_weighCases_36 (fun ct6 hz6 => ?_)
  obtain ⟨hV23, hs6⟩ := hz6
  have hg : ct6 1 = .inr (3, [.ref (ad 2), .int (nI R), .int (nI C)]) := (hs6 1 (by decide) (by decide)).trans hg
  have hgc : ct6 2 = .inl (B.2.1 0, 25, .inl (nF gk)) := (hs6 2 (by decide) (by decide)).trans hgc
  have ht : ct6 12 = .inl (B.2.1 1, 1891, .inr (.inl (lF gt))) := (hs6 12 (by decide) (by decide)).trans ht
  have hv : ct6 15 = .inl (B.2.1 0, 25, .inl (nF v0)) := (hs6 15 (by decide) (by decide)).trans hv
  have hwr : ct6 16 = .inl (B.2.1 3, 26, .inr (.inr (.inr (.inr (fun i => some (ad (27 + 2 * i))))))) := (hs6 16 (by decide) (by decide)).trans hwr
  have hk : ct6 79 = .inr (0, [.ref (ad 80), .int (nI R), .int (nI C), .int (nI sd), .int (nI 0)]) := (hs6 79 (by decide) (by decide)).trans hk
  have hkr : ct6 80 = .inl (B.2.1 1, NL, .inr (.inl (lF g))) := (hs6 80 (by decide) (by decide)).trans hkr
  have hrs : ct6 13 = .inl (B.2.1 0, 5, .inl (nF rs2)) := (hs6 13 (by decide) (by decide)).trans hrs
  have hcl : ct6 14 = .inl (B.2.1 0, 5, .inl (nF cl2)) := (hs6 14 (by decide) (by decide)).trans hcl
  have hw : ct6 11 = .inr (9, [.ref (ad 12), .ref (ad 13), .ref (ad 14), .ref (ad 15), .ref (ad 16), .int (nI R), .int (nI C), .int (nI (gk 0)), .int (nI F), cz, .ref (ad 17), .ref (ad 19), .ref (ad 21), .ref (ad 23), .ref (ad 25)]) := (hs6 11 (by decide) (by decide)).trans hw
  have hV17 := hV17.other hs6 (by decide) (by decide) (by decide)
  have hV19 := hV19.other hs6 (by decide) (by decide) (by decide)
  have hV21 := hV21.other hs6 (by decide) (by decide) (by decide)
  have hWs : ∀ i, i < 31 → ∃ x, isW B ad ct6 (17 + 2 * i) x := fun i hi => by
    by_cases q3 : i = 3
    · subst q3; exact ⟨_, hV23⟩
    obtain ⟨x, hx⟩ := hWs i hi
    exact ⟨x, hx.frame (hs6 _ (by omega) (by omega)) (hs6 _ (by omega) (by omega))⟩
  have hfr : ∀ r, r < 11 ∨ r = 12 ∨ r = 16 ∨ 78 < r → ct6 r = ct r := fun r h => (hs6 r (by omega) (by omega)).trans (hfr r h)
  refine g_aload_n fx 0 dX9_weighCases_39 rfl ?_
  refine g_get (r := 11) fx lkX9_45 (by omega) hw rfl dX9_weighCases_40 ?_
  refine g_lconst (v := lN 0) fx dX9_weighCases_43 (by decide +kernel) ?_
  obtain ⟨x7, hx7⟩ := hWs 4 (by decide)
  obtain ⟨sz7, g7, hr7⟩ := hx7.rw_
  refine g_callVv (As := [.long (lN 0)]) (rest := []) fx slX9_72 (c_X10_set B ad ct6 n 25 sz7 0 g7 (by omega) hr7 (by decide)) (by omega) (isW.ob (hWs 4 (by decide)).choose_spec).choose_spec rfl rfl rfl (Nat.le_of_ble_eq_true rfl) ⟨by dsimp only; omega, by dsimp only; omega⟩ ⟨Nat.le_refl _, Nat.le_refl _⟩ dX9_weighCases_44 (fun ct7 hz7 => ?_)
  obtain ⟨hV25, hs7⟩ := hz7
  have hg : ct7 1 = .inr (3, [.ref (ad 2), .int (nI R), .int (nI C)]) := (hs7 1 (by decide) (by decide)).trans hg
  have hgc : ct7 2 = .inl (B.2.1 0, 25, .inl (nF gk)) := (hs7 2 (by decide) (by decide)).trans hgc
  have ht : ct7 12 = .inl (B.2.1 1, 1891, .inr (.inl (lF gt))) := (hs7 12 (by decide) (by decide)).trans ht
  have hv : ct7 15 = .inl (B.2.1 0, 25, .inl (nF v0)) := (hs7 15 (by decide) (by decide)).trans hv
  have hwr : ct7 16 = .inl (B.2.1 3, 26, .inr (.inr (.inr (.inr (fun i => some (ad (27 + 2 * i))))))) := (hs7 16 (by decide) (by decide)).trans hwr
  have hk : ct7 79 = .inr (0, [.ref (ad 80), .int (nI R), .int (nI C), .int (nI sd), .int (nI 0)]) := (hs7 79 (by decide) (by decide)).trans hk
  have hkr : ct7 80 = .inl (B.2.1 1, NL, .inr (.inl (lF g))) := (hs7 80 (by decide) (by decide)).trans hkr
  have hrs : ct7 13 = .inl (B.2.1 0, 5, .inl (nF rs2)) := (hs7 13 (by decide) (by decide)).trans hrs
  have hcl : ct7 14 = .inl (B.2.1 0, 5, .inl (nF cl2)) := (hs7 14 (by decide) (by decide)).trans hcl
  have hw : ct7 11 = .inr (9, [.ref (ad 12), .ref (ad 13), .ref (ad 14), .ref (ad 15), .ref (ad 16), .int (nI R), .int (nI C), .int (nI (gk 0)), .int (nI F), cz, .ref (ad 17), .ref (ad 19), .ref (ad 21), .ref (ad 23), .ref (ad 25)]) := (hs7 11 (by decide) (by decide)).trans hw
  have hV17 := hV17.other hs7 (by decide) (by decide) (by decide)
  have hV19 := hV19.other hs7 (by decide) (by decide) (by decide)
  have hV21 := hV21.other hs7 (by decide) (by decide) (by decide)
  have hV23 := hV23.other hs7 (by decide) (by decide) (by decide)
  have hWs : ∀ i, i < 31 → ∃ x, isW B ad ct7 (17 + 2 * i) x := fun i hi => by
    by_cases q4 : i = 4
    · subst q4; exact ⟨_, hV25⟩
    obtain ⟨x, hx⟩ := hWs i hi
    exact ⟨x, hx.frame (hs7 _ (by omega) (by omega)) (hs7 _ (by omega) (by omega))⟩
  have hfr : ∀ r, r < 11 ∨ r = 12 ∨ r = 16 ∨ 78 < r → ct7 r = ct r := fun r h => (hs7 r (by omega) (by omega)).trans (hfr r h)
  refine g_aload_n fx 0 dX9_weighCases_47 rfl ?_
  refine g_get (r := 11) fx lkX9_27 (by omega) hw rfl dX9_weighCases_48 ?_
  refine g_iconst (v := nI 0) fx dX9_weighCases_51 (by decide +kernel) ?_
  refine g_aald (r := 16) (j := 0) (t0 := 3) fx rfl (by omega) hwr (nI_toInt (by omega)) (by omega) rfl dX9_weighCases_52 ?_
  refine g_lconst (v := lN 1) fx dX9_weighCases_53 (by decide +kernel) ?_
  obtain ⟨x8, hx8⟩ := hWs 5 (by decide)
  obtain ⟨sz8, g8, hr8⟩ := hx8.rw_
  refine g_callVv (As := [.long (lN 1)]) (rest := []) fx slX9_72 (c_X10_set B ad ct7 n 27 sz8 1 g8 (by omega) hr8 (by decide)) (by omega) (isW.ob (hWs 5 (by decide)).choose_spec).choose_spec rfl rfl rfl (Nat.le_of_ble_eq_true rfl) ⟨by dsimp only; omega, by dsimp only; omega⟩ ⟨Nat.le_refl _, Nat.le_refl _⟩ dX9_weighCases_54 (fun ct8 hz8 => ?_)
  obtain ⟨hV27, hs8⟩ := hz8
  have hg : ct8 1 = .inr (3, [.ref (ad 2), .int (nI R), .int (nI C)]) := (hs8 1 (by decide) (by decide)).trans hg
  have hgc : ct8 2 = .inl (B.2.1 0, 25, .inl (nF gk)) := (hs8 2 (by decide) (by decide)).trans hgc
  have ht : ct8 12 = .inl (B.2.1 1, 1891, .inr (.inl (lF gt))) := (hs8 12 (by decide) (by decide)).trans ht
  have hv : ct8 15 = .inl (B.2.1 0, 25, .inl (nF v0)) := (hs8 15 (by decide) (by decide)).trans hv
  have hwr : ct8 16 = .inl (B.2.1 3, 26, .inr (.inr (.inr (.inr (fun i => some (ad (27 + 2 * i))))))) := (hs8 16 (by decide) (by decide)).trans hwr
  have hk : ct8 79 = .inr (0, [.ref (ad 80), .int (nI R), .int (nI C), .int (nI sd), .int (nI 0)]) := (hs8 79 (by decide) (by decide)).trans hk
  have hkr : ct8 80 = .inl (B.2.1 1, NL, .inr (.inl (lF g))) := (hs8 80 (by decide) (by decide)).trans hkr
  have hrs : ct8 13 = .inl (B.2.1 0, 5, .inl (nF rs2)) := (hs8 13 (by decide) (by decide)).trans hrs
  have hcl : ct8 14 = .inl (B.2.1 0, 5, .inl (nF cl2)) := (hs8 14 (by decide) (by decide)).trans hcl
  have hw : ct8 11 = .inr (9, [.ref (ad 12), .ref (ad 13), .ref (ad 14), .ref (ad 15), .ref (ad 16), .int (nI R), .int (nI C), .int (nI (gk 0)), .int (nI F), cz, .ref (ad 17), .ref (ad 19), .ref (ad 21), .ref (ad 23), .ref (ad 25)]) := (hs8 11 (by decide) (by decide)).trans hw
  have hV17 := hV17.other hs8 (by decide) (by decide) (by decide)
  have hV19 := hV19.other hs8 (by decide) (by decide) (by decide)
  have hV21 := hV21.other hs8 (by decide) (by decide) (by decide)
  have hV23 := hV23.other hs8 (by decide) (by decide) (by decide)
  have hV25 := hV25.other hs8 (by decide) (by decide) (by decide)
  have hWs : ∀ i, i < 31 → ∃ x, isW B ad ct8 (17 + 2 * i) x := fun i hi => by
    by_cases q5 : i = 5
    · subst q5; exact ⟨_, hV27⟩
    obtain ⟨x, hx⟩ := hWs i hi
    exact ⟨x, hx.frame (hs8 _ (by omega) (by omega)) (hs8 _ (by omega) (by omega))⟩
  have hfr : ∀ r, r < 11 ∨ r = 12 ∨ r = 16 ∨ 78 < r → ct8 r = ct r := fun r h => (hs8 r (by omega) (by omega)).trans (hfr r h)
  refine g_aload_n fx 0 dX9_weighCases_57 rfl ?_
  refine g_aload_n fx 2 dX9_weighCases_58 rfl ?_
  refine g_put (r := 11) (fs' := [.ref (ad 12), .ref (ad 13), .ref (ad 14), .ref (ad 15), .ref (ad 16), .int (nI R), .int (nI C), .int (nI (gk 0)), .int (nI F), .ref (ad 79), .ref (ad 17), .ref (ad 19), .ref (ad 21), .ref (ad 23), .ref (ad 25)]) fx lpX9_76 (by omega) hw rfl rfl (Nat.le_of_ble_eq_true rfl) rfl dX9_weighCases_59 (fun ct9 ect9 => ?_)
  have hg : ct9 1 = .inr (3, [.ref (ad 2), .int (nI R), .int (nI C)]) := (congrFun ect9 _).trans ((va_up_ne _ _ (by omega)).trans hg)
  have hgc : ct9 2 = .inl (B.2.1 0, 25, .inl (nF gk)) := (congrFun ect9 _).trans ((va_up_ne _ _ (by omega)).trans hgc)
  have hw : ct9 11 = .inr (9, [.ref (ad 12), .ref (ad 13), .ref (ad 14), .ref (ad 15), .ref (ad 16), .int (nI R), .int (nI C), .int (nI (gk 0)), .int (nI F), .ref (ad 79), .ref (ad 17), .ref (ad 19), .ref (ad 21), .ref (ad 23), .ref (ad 25)]) := by rw [ect9, va_up_self]
  have ht : ct9 12 = .inl (B.2.1 1, 1891, .inr (.inl (lF gt))) := (congrFun ect9 _).trans ((va_up_ne _ _ (by omega)).trans ht)
  have hrs : ct9 13 = .inl (B.2.1 0, 5, .inl (nF rs2)) := (congrFun ect9 _).trans ((va_up_ne _ _ (by omega)).trans hrs)
  have hcl : ct9 14 = .inl (B.2.1 0, 5, .inl (nF cl2)) := (congrFun ect9 _).trans ((va_up_ne _ _ (by omega)).trans hcl)
  have hv : ct9 15 = .inl (B.2.1 0, 25, .inl (nF v0)) := (congrFun ect9 _).trans ((va_up_ne _ _ (by omega)).trans hv)
  have hwr : ct9 16 = .inl (B.2.1 3, 26, .inr (.inr (.inr (.inr (fun i => some (ad (27 + 2 * i))))))) := (congrFun ect9 _).trans ((va_up_ne _ _ (by omega)).trans hwr)
  have hk : ct9 79 = .inr (0, [.ref (ad 80), .int (nI R), .int (nI C), .int (nI sd), .int (nI 0)]) := (congrFun ect9 _).trans ((va_up_ne _ _ (by omega)).trans hk)
  have hkr : ct9 80 = .inl (B.2.1 1, NL, .inr (.inl (lF g))) := (congrFun ect9 _).trans ((va_up_ne _ _ (by omega)).trans hkr)
  have hs9 : ∀ r, r ≠ 11 → ct9 r = ct8 r := fun r h => by rw [ect9, va_up_ne _ _ h]
  have hV17 := hV17.frame (ct' := ct9) (hs9 _ (by decide)) (hs9 _ (by decide))
  have hV19 := hV19.frame (ct' := ct9) (hs9 _ (by decide)) (hs9 _ (by decide))
  have hV21 := hV21.frame (ct' := ct9) (hs9 _ (by decide)) (hs9 _ (by decide))
  have hV23 := hV23.frame (ct' := ct9) (hs9 _ (by decide)) (hs9 _ (by decide))
  have hV25 := hV25.frame (ct' := ct9) (hs9 _ (by decide)) (hs9 _ (by decide))
  have hV27 := hV27.frame (ct' := ct9) (hs9 _ (by decide)) (hs9 _ (by decide))
  have hWs : ∀ i, i < 31 → ∃ x, isW B ad ct9 (17 + 2 * i) x := fun i hi => by
    obtain ⟨x, hx⟩ := hWs i hi
    exact ⟨x, hx.frame (hs9 _ (by omega)) (hs9 _ (by omega))⟩
  have hfr : ∀ r, r < 11 ∨ r = 12 ∨ r = 16 ∨ 78 < r → ct9 r = ct r := fun r h => (hs9 r (by omega)).trans (hfr r h)
  obtain ⟨wv, hwv⟩ := fin_choice (P := fun i x => isW B ad ct9 (27 + 2 * i) x) 26 (fun i hi => by have h := hWs (i + 5) (by omega); rw [show 17 + 2 * (i + 5) = 27 + 2 * i by omega] at h; exact h)
  have hFS : FS B ad ct9 (fun c => sumF (fun k => gk (5 * k + c)) R) rs2 C R (Wc (fun c => sumF (fun k => gk (5 * k + c)) R) C (C * R) (gv gk C)) (gk 0) sd 0 NL g (fun _ _ => 0) (va_up wv 0 1) := ⟨hV19, hV21, hV23, hV25, fun i hi => by
    by_cases q : i = 0
    · subst q; rw [va_up_self]; exact hV27
    · rw [va_up_ne _ _ q]; exact hwv i hi
    , hk, hkr, fun j hj => absurd hj (Nat.not_lt_zero _)⟩
  refine g_aload_n fx 0 dX9_weighCases_62 rfl ?_
  refine g_iconst (v := nI 0) fx dX9_weighCases_63 (by decide +kernel) ?_
  refine g_callVv (As := [.int (nI 0)]) (rest := []) fx slX9_80 (c_X9_fillRow B (C * (R - 1)) (c_PF B _) ad ct9 n rs2 cl2 (fun c => sumF (fun k => gk (5 * k + c)) R) v0 (va_up wv 0 1) g gt (fun _ _ => 0) R C (gk 0) F (Wc (fun c => sumF (fun k => gk (5 * k + c)) R) C (C * R) (gv gk C)) sd 0 NL hn hw ht htri hrs hcl hv hwr hR5 hC5 hCp hsr hT hgk0 hsd hNL hFS 0 hRp (by omega) (fun j hj => absurd hj (by omega)) (fun j hj => by rw [hcc j hj, if_neg (by omega)]; rfl) rfl (by rw [Nat.mul_zero, va_up_self, Nat.one_mul]; show 1 * facP cl2 C = _; rw [Nat.one_mul]; exact facP_congr C hcc) (by rw [Nat.mul_zero, Nat.sub_zero, tTot_of hCp hrr (fun c _ => rfl : ∀ c, c < C → (fun c => sumF (fun k => gk (5 * k + c)) R) c = (fun c => sumF (fun k => gk (5 * k + c)) R) c) v0, Nat.zero_add]; exact hcn) (by rw [Nat.mul_zero, Nat.sub_zero, tTot_of hCp hrr (fun c _ => rfl : ∀ c, c < C → (fun c => sumF (fun k => gk (5 * k + c)) R) c = (fun c => sumF (fun k => gk (5 * k + c)) R) c) v0, Nat.zero_add]; exact hrm)) (by omega) hw rfl rfl rfl (Nat.le_of_ble_eq_true rfl) ⟨by dsimp only; omega, by dsimp only; omega⟩ ⟨Nat.le_refl _, Nat.le_refl _⟩ dX9_weighCases_64 (fun ct10 hz10 => ?_)
  rw [Nat.mul_zero, Nat.sub_zero, Nat.sub_zero, tTot_of hCp hrr (fun c _ => rfl : ∀ c, c < C → (fun c => sumF (fun k => gk (5 * k + c)) R) c = (fun c => sumF (fun k => gk (5 * k + c)) R) c) v0, Nat.zero_add, va_up_self, Nat.one_mul, rp_all (T := sumF gk 25) (by rw [hT2]; exact hsr) hRp, aP_congr (rs2 := (fun r => sumF (fun k => gk (5 * r + k)) C)) R hrr] at hz10
  obtain ⟨v5, g5, vs5, wv5, hv5, _, hFS5, _, _, hsT5, hfr5⟩ := hz10
  have hsT5 := hsT5.trans (Nat.zero_add _)
  refine g_vret fx rt dX9_weighCases_67 ?_
  exact gPv.mk ⟨rs2, cl2, v5, g5, vs5, wv5, (hfr5 11 (by decide)).trans hw, (hfr5 13 (by decide)).trans hrs, (hfr5 14 (by decide)).trans hcl, hv5, hrr, hV17.frame (hfr5 _ (by decide)) (hfr5 _ (by decide)), hFS5, hsT5, fun r h => (hfr5 r (by omega)).trans (hfr r (by omega))⟩
