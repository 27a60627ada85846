theorem cnt_split {N C : Nat} {rm cm v : Nat → Nat} {k n lo : Nat} (h : lo ≤ n) : sumF (fun m => tCnt N C rm cm (N - (k + 1)) (va_up v k (lo + m))) (n + 1 - lo) = sumF (fun m => tCnt N C rm cm (N - (k + 1)) (va_up v k (lo + m))) (n - lo) + tCnt N C rm cm (N - (k + 1)) (va_up v k n) := by
  rw [show n + 1 - lo = (n - lo) + 1 by omega]
  show _ + tCnt N C rm cm (N - (k + 1)) (va_up v k (lo + (n - lo))) = _
  rw [show lo + (n - lo) = n by omega]
theorem cap_step {F F1 F2 A t : Nat} (h1 : F + A ≤ 20000 → F1 = F + A) (h2 : 20000 < F + A → 20000 < F1) (hF : F1 ≤ 20000) (g1 : F1 + t ≤ 20000 → F2 = F1 + t) (g2 : 20000 < F1 + t → 20000 < F2) : (F + (A + t) ≤ 20000 → F2 = F + (A + t)) ∧ (20000 < F + (A + t) → 20000 < F2) := by
  omega
theorem cap_out {F F1 A X : Nat} (h1 : F + A ≤ 20000 → F1 = F + A) (hF : 20000 < F1) (hX : A ≤ X) : (F + X ≤ 20000 → F1 = F + X) ∧ (20000 < F + X → 20000 < F1) := by
  omega
theorem lo_eq {C : Nat} {rm cm v : Nat → Nat} {r c : Nat} (hc : c < C) : tLo C rm cm v (C * r + c) = tRest C rm v (C * r + c) - tBeh C cm v r c := by
  unfold tLo; rw [(dm hc).1, (dm hc).2]
theorem hi_eq {C : Nat} {rm cm v : Nat → Nat} {r c : Nat} (hc : c < C) : tHi C rm cm v (C * r + c) = min (tRest C rm v (C * r + c)) (tLeft C cm v r c) := by
  unfold tHi; rw [(dm hc).1, (dm hc).2]
theorem rest_le {C : Nat} {rm v : Nat → Nat} {r c : Nat} (hc : c < C) : tRest C rm v (C * r + c) ≤ rm r := by
  unfold tRest; rw [(dm hc).1]; omega
theorem beh_le {R C : Nat} {cm rm v : Nat → Nat} {r c : Nat} : tBeh C cm v r c ≤ sumF cm C := by
  unfold tBeh
  refine Nat.le_trans (sumF_mono (g := fun j => cm (c + 1 + j)) _ (fun j _ => Nat.sub_le _ _)) ?_
  by_cases q : c + 1 ≤ C
  · have h := sumF_split (f := cm) (a := c + 1) (C - (c + 1))
    rw [show c + 1 + (C - (c + 1)) = C by omega] at h
    omega
  · rw [show C - (c + 1) = 0 by omega]; exact Nat.zero_le _
set_option maxHeartbeats 4000000 in
set_option maxRecDepth 100000 in
theorem c_X9_sumOfColumnsLeft (B : gB) (ad : Nat → Nat) (ct : Nat → va_E) (n : Nat) (cl : Nat → Nat) (R C co F : Nat) (cz : Value) (hn : 178 ≤ n) (hw : ct 11 = .inr (9, [.ref (ad 12), .ref (ad 13), .ref (ad 14), .ref (ad 15), .ref (ad 16), .int (nI R), .int (nI C), .int (nI co), .int (nI F), cz, .ref (ad 17), .ref (ad 19), .ref (ad 21), .ref (ad 23), .ref (ad 25)])) (hcl : ct 14 = .inl (B.2.1 0, 5, .inl (nF cl))) (hC5 : C ≤ 5) : Ctr B yX9_sumOfColumnsLeft cX9_sumOfColumnsLeft 3 (some .int) 0 0 0 0 ad ct n [.ref (ad 11)] (gPip ad ct n (fun r => r = nI (sumF cl C))) := by
  refine Ctr.ofG (L := [(0, .ref (ad 11))]) (by decide +kernel) rfl (Nat.le_of_ble_eq_true rfl) (fun E fx rt hnm => ?_)
  refine g_iconst (v := nI 0) fx dX9_sumOfColumnsLeft_0 (by decide +kernel) ?_
  refine g_istore_n (L' := [(1, .int (nI 0)), (0, .ref (ad 11))]) fx dX9_sumOfColumnsLeft_1 (by decide) rfl ?_
  refine g_iconst (v := nI 0) fx dX9_sumOfColumnsLeft_2 (by decide +kernel) ?_
  refine g_istore_n (L' := [(2, .int (nI 0)), (1, .int (nI 0)), (0, .ref (ad 11))]) fx dX9_sumOfColumnsLeft_3 (by decide) rfl ?_
  have LP4 : ∀ (M : Nat) (k : Nat), (k ≤ C) →  (C - k) < M → G B 3 E ad ct n 0 0 [(0, .ref (ad 11)), (1, .int (nI (sumF cl k))), (2, .int (nI k))] 4 [] := by
    intro M
    induction M with
    | zero => intro k _ hM; exact absurd hM (Nat.not_lt_zero _)
    | succ M ih =>
      intro k hk hM
      have ih4 := ih
      refine g_iload_n fx 2 dX9_sumOfColumnsLeft_4 rfl ?_
      refine g_aload_n fx 0 dX9_sumOfColumnsLeft_5 rfl ?_
      refine g_get (r := 11) fx lkX9_97 (by omega) hw rfl dX9_sumOfColumnsLeft_6 ?_
      refine g_icmp_ge fx 27 dX9_sumOfColumnsLeft_9 (by decide) (fun c9 => ?_) (fun c9 => ?_)
      · skip
        have hke : k = C := by have := (nI_leI (by omega) (by omega)).mp c9; omega
        refine g_iload_n fx 1 dX9_sumOfColumnsLeft_27 rfl ?_
        refine g_iret fx rt dX9_sumOfColumnsLeft_28 ?_
        refine gPip.mk ?_
        rw [hke]
      · skip
        have hlt : k < C := (nI_ltI (by omega) (by omega)).mp (Int32.not_le.mp c9)
        refine g_iload_n fx 1 dX9_sumOfColumnsLeft_12 rfl ?_
        refine g_aload_n fx 0 dX9_sumOfColumnsLeft_13 rfl ?_
        refine g_get (r := 11) fx lkX9_19 (by omega) hw rfl dX9_sumOfColumnsLeft_14 ?_
        refine g_iload_n fx 2 dX9_sumOfColumnsLeft_17 rfl ?_
        refine g_iald (r := 14) (j := k) fx (by omega) hcl (nI_toInt (by omega)) (by omega) dX9_sumOfColumnsLeft_18 ?_
        refine g_isi (y := nI (cl k)) rfl ?_
        refine g_iaddN fx dX9_sumOfColumnsLeft_19 ?_
        refine g_istore_n (L' := [(1, .int (nI ((sumF cl k) + (cl k)))), (0, .ref (ad 11)), (2, .int (nI k))]) fx dX9_sumOfColumnsLeft_20 (by decide) rfl ?_
        refine g_iinc (L' := [(2, .int (nI (k + 1))), (1, .int (nI ((sumF cl k) + (cl k)))), (0, .ref (ad 11))]) fx (nI (k + 1)) 2 dX9_sumOfColumnsLeft_21 rfl (gInc _) (by decide) rfl ?_
        refine g_goto fx 4 dX9_sumOfColumnsLeft_24 (by decide) ?_
        refine g_locals (L' := [(0, .ref (ad 11)), (1, .int (nI ((sumF cl k) + (cl k)))), (2, .int (nI (k + 1)))]) [2, 1, 0] rfl ?_
        exact ih4 (k + 1) (by omega) (by omega)
  refine g_locals (L' := [(0, .ref (ad 11)), (1, .int (nI 0)), (2, .int (nI 0))]) [2, 1, 0] rfl ?_
  exact LP4 (C + 1) 0 (by omega) (by omega)
def PC (B : gB) (d : Nat) : Prop := ∀ (ad : Nat → Nat) (ct : Nat → va_E) (n : Nat) (rs cl cm v : Nat → Nat) (R C co F : Nat) (cz : Value) (hn : 178 ≤ n) (hw : ct 11 = .inr (9, [.ref (ad 12), .ref (ad 13), .ref (ad 14), .ref (ad 15), .ref (ad 16), .int (nI R), .int (nI C), .int (nI co), .int (nI F), cz, .ref (ad 17), .ref (ad 19), .ref (ad 21), .ref (ad 23), .ref (ad 25)])) (hrs : ct 13 = .inl (B.2.1 0, 5, .inl (nF rs))) (hcl : ct 14 = .inl (B.2.1 0, 5, .inl (nF cl))) (hR5 : R ≤ 5) (hC5 : C ≤ 5) (hCp : 0 < C) (hsum : sumF rs R = sumF cm C) (hT : sumF cm C ≤ 60) (hF : F ≤ 20000) (r c : Nat) (hr : r + 1 < R) (hc : c < C) (hd : C * r + c + d = C * (R - 1)) (hval : Val C rs cm (C * r + c) v) (hCL : CL C cm v r c cl), Ctr B yX9_countCell cX9_countCell 10 none (2 * d + 1) (50 * d + 25) 0 0 ad ct n [.ref (ad 11), .int (nI r), .int (nI c), .int (nI (tRest C rs v (C * r + c))), .int (nI (tLeft C cm v r c + tBeh C cm v r c))] (gPv ad n (fun ct' => ∃ F', ct' 11 = .inr (9, [.ref (ad 12), .ref (ad 13), .ref (ad 14), .ref (ad 15), .ref (ad 16), .int (nI R), .int (nI C), .int (nI co), .int (nI F'), cz, .ref (ad 17), .ref (ad 19), .ref (ad 21), .ref (ad 23), .ref (ad 25)]) ∧ (F + tCnt (C * R) C rs cm ((C * R) - (C * r + c)) v ≤ 20000 → F' = F + tCnt (C * R) C rs cm ((C * R) - (C * r + c)) v) ∧ (20000 < F + tCnt (C * R) C rs cm ((C * R) - (C * r + c)) v → 20000 < F') ∧ F' ≤ 20100 ∧ ∀ r, r ≠ 11 → ct' r = ct r))
set_option maxHeartbeats 4000000 in
set_option maxRecDepth 100000 in
theorem c_X9_countRow (B : gB) (d : Nat) (IH : PC B d) (ad : Nat → Nat) (ct : Nat → va_E) (n : Nat) (rs cl cm v : Nat → Nat) (R C co F : Nat) (cz : Value) (hn : 178 ≤ n) (hw : ct 11 = .inr (9, [.ref (ad 12), .ref (ad 13), .ref (ad 14), .ref (ad 15), .ref (ad 16), .int (nI R), .int (nI C), .int (nI co), .int (nI F), cz, .ref (ad 17), .ref (ad 19), .ref (ad 21), .ref (ad 23), .ref (ad 25)])) (hrs : ct 13 = .inl (B.2.1 0, 5, .inl (nF rs))) (hcl : ct 14 = .inl (B.2.1 0, 5, .inl (nF cl))) (hR5 : R ≤ 5) (hC5 : C ≤ 5) (hCp : 0 < C) (hsum : sumF rs R = sumF cm C) (hT : sumF cm C ≤ 60) (hF : F ≤ 20000) (r : Nat) (hr : r < R) (hd : C * r + d = C * (R - 1)) (hval : Val C rs cm (C * r) v) (hCL : CL C cm v r 0 cl) : Ctr B yX9_countRow cX9_countRow 2 none (2 * d + 2) (50 * d + 54) 0 0 ad ct n [.ref (ad 11), .int (nI r)] (gPv ad n (fun ct' => ∃ F', ct' 11 = .inr (9, [.ref (ad 12), .ref (ad 13), .ref (ad 14), .ref (ad 15), .ref (ad 16), .int (nI R), .int (nI C), .int (nI co), .int (nI F'), cz, .ref (ad 17), .ref (ad 19), .ref (ad 21), .ref (ad 23), .ref (ad 25)]) ∧ (F + tCnt (C * R) C rs cm ((C * R) - (C * r)) v ≤ 20000 → F' = F + tCnt (C * R) C rs cm ((C * R) - (C * r)) v) ∧ (20000 < F + tCnt (C * R) C rs cm ((C * R) - (C * r)) v → 20000 < F') ∧ F' ≤ 20100 ∧ ∀ r, r ≠ 11 → ct' r = ct r)) := by
  have hr60 : ∀ r, r < R → rs r ≤ 60 := fun r hr => by have := sumF_mem (f := rs) hr; omega
  have hc60 : ∀ c, c < C → cm c ≤ 60 := fun c hc => by have := sumF_mem (f := cm) hc; omega
  refine Ctr.ofG (L := [(0, .ref (ad 11)), (1, .int (nI r))]) (by decide +kernel) rfl (Nat.le_of_ble_eq_true rfl) (fun E fx rt hnm => ?_)
  refine g_iload_n fx 1 dX9_countRow_0 rfl ?_
  refine g_iconst (v := nI 1) fx dX9_countRow_1 (by decide +kernel) ?_
  refine g_iaddN fx dX9_countRow_2 ?_
  refine g_aload_n fx 0 dX9_countRow_3 rfl ?_
  refine g_get (r := 11) fx lkX9_92 (by omega) hw rfl dX9_countRow_4 ?_
  refine g_icmp_ge fx 29 dX9_countRow_7 (by decide) (fun c7 => ?_) (fun c7 => ?_)
  · skip
    have hRe : R = r + 1 := by have := (nI_leI (by omega) (by omega)).mp c7; omega
    refine g_aload_n fx 0 dX9_countRow_29 rfl ?_
    refine g_dup fx dX9_countRow_30 rfl ?_
    refine g_get (r := 11) fx lkX9_52 (by omega) hw rfl dX9_countRow_31 ?_
    refine g_iconst (v := nI 1) fx dX9_countRow_34 (by decide +kernel) ?_
    refine g_iaddN fx dX9_countRow_35 ?_
    refine g_put (r := 11) (fs' := [.ref (ad 12), .ref (ad 13), .ref (ad 14), .ref (ad 15), .ref (ad 16), .int (nI R), .int (nI C), .int (nI co), .int (nI (F + 1)), cz, .ref (ad 17), .ref (ad 19), .ref (ad 21), .ref (ad 23), .ref (ad 25)]) fx lpX9_52 (by omega) hw rfl rfl (Nat.le_of_ble_eq_true rfl) rfl dX9_countRow_36 (fun ct2 ect2 => ?_)
    have hw : ct2 11 = .inr (9, [.ref (ad 12), .ref (ad 13), .ref (ad 14), .ref (ad 15), .ref (ad 16), .int (nI R), .int (nI C), .int (nI co), .int (nI (F + 1)), cz, .ref (ad 17), .ref (ad 19), .ref (ad 21), .ref (ad 23), .ref (ad 25)]) := by rw [ect2, va_up_self]
    have hrs : ct2 13 = .inl (B.2.1 0, 5, .inl (nF rs)) := (congrFun ect2 _).trans ((va_up_ne _ _ (by omega)).trans hrs)
    have hcl : ct2 14 = .inl (B.2.1 0, 5, .inl (nF cl)) := (congrFun ect2 _).trans ((va_up_ne _ _ (by omega)).trans hcl)
    refine g_vret fx rt dX9_countRow_39 ?_
    have h1 : tCnt (C * R) C rs cm ((C * R) - (C * r)) v = 1 := by
      rw [hRe, show C * (r + 1) - C * r = C by rw [Nat.mul_succ]; omega]
      exact last_one (R := r) hCp (by rw [← hRe]; exact hsum) C v (Nat.le_refl _) (by rw [show C * (r + 1) - C = C * r by rw [Nat.mul_succ]; omega]; exact hval)
    rw [h1]
    exact gPv.mk ⟨F + 1, hw, by omega, by omega, by omega, fun r2 h2 => by rw [ect2, va_up_ne _ _ h2]⟩
  · skip
    have hr1 : r + 1 < R := (nI_ltI (by omega) (by omega)).mp (Int32.not_le.mp c7)
    refine g_aload_n fx 0 dX9_countRow_10 rfl ?_
    refine g_iload_n fx 1 dX9_countRow_11 rfl ?_
    refine g_iconst (v := nI 0) fx dX9_countRow_12 (by decide +kernel) ?_
    refine g_aload_n fx 0 dX9_countRow_13 rfl ?_
    refine g_get (r := 11) fx lkX9_15 (by omega) hw rfl dX9_countRow_14 ?_
    refine g_iload_n fx 1 dX9_countRow_17 rfl ?_
    refine g_iald (r := 13) (j := r) fx (by omega) hrs (nI_toInt (by omega)) (by omega) dX9_countRow_18 ?_
    refine g_isi (y := nI (rs r)) rfl ?_
    refine g_isi (y := nI (tRest C rs v (C * r + 0))) (by rw [Nat.add_zero, rest_row hCp]) ?_
    refine g_aload_n fx 0 dX9_countRow_19 rfl ?_
    refine g_callVip (As := []) (rest := [.int (nI (tRest C rs v (C * r + 0))), .int (nI 0), .int (nI r), .ref (ad 11)]) fx slX9_124 (c_X9_sumOfColumnsLeft B ad ct n cl R C co F cz hn hw hcl hC5) (by omega) hw rfl rfl rfl (Nat.le_of_ble_eq_true rfl) ⟨by dsimp only; omega, by dsimp only; omega⟩ ⟨Nat.le_refl _, Nat.le_refl _⟩ dX9_countRow_20 (fun q1 hq1 => ?_)
    rw [hCL.sum hCp] at hq1
    refine g_isi (y := nI (tLeft C cm v r 0 + tBeh C cm v r 0)) hq1 ?_
    refine g_callVv (As := [.int (nI r), .int (nI 0), .int (nI (tRest C rs v (C * r + 0))), .int (nI (tLeft C cm v r 0 + tBeh C cm v r 0))]) (rest := []) fx slX9_127 (IH ad ct n rs cl cm v R C co F cz hn hw hrs hcl hR5 hC5 hCp hsum hT hF r 0 hr1 hCp hd hval hCL) (by omega) hw rfl rfl rfl (Nat.le_of_ble_eq_true rfl) ⟨by dsimp only; omega, by dsimp only; omega⟩ ⟨Nat.le_refl _, Nat.le_refl _⟩ dX9_countRow_23 (fun ct1 hz1 => ?_)
    refine g_goto fx 39 dX9_countRow_26 (by decide) ?_
    refine g_vret fx rt dX9_countRow_39 ?_
    exact gPv.mk hz1
set_option maxHeartbeats 4000000 in
set_option maxRecDepth 100000 in
theorem c_X9_countCell_s (B : gB) (d : Nat) (IH : ∀ d2, d2 < d → PC B d2) (ad : Nat → Nat) (ct : Nat → va_E) (n : Nat) (rs cl cm v : Nat → Nat) (R C co F : Nat) (cz : Value) (hn : 178 ≤ n) (hw : ct 11 = .inr (9, [.ref (ad 12), .ref (ad 13), .ref (ad 14), .ref (ad 15), .ref (ad 16), .int (nI R), .int (nI C), .int (nI co), .int (nI F), cz, .ref (ad 17), .ref (ad 19), .ref (ad 21), .ref (ad 23), .ref (ad 25)])) (hrs : ct 13 = .inl (B.2.1 0, 5, .inl (nF rs))) (hcl : ct 14 = .inl (B.2.1 0, 5, .inl (nF cl))) (hR5 : R ≤ 5) (hC5 : C ≤ 5) (hCp : 0 < C) (hsum : sumF rs R = sumF cm C) (hT : sumF cm C ≤ 60) (hF : F ≤ 20000) (r c : Nat) (hr : r + 1 < R) (hc : c < C) (hd : C * r + c + d = C * (R - 1)) (hval : Val C rs cm (C * r + c) v) (hCL : CL C cm v r c cl) : Ctr B yX9_countCell cX9_countCell 10 none (2 * d + 1) (50 * d + 25) 0 0 ad ct n [.ref (ad 11), .int (nI r), .int (nI c), .int (nI (tRest C rs v (C * r + c))), .int (nI (tLeft C cm v r c + tBeh C cm v r c))] (gPv ad n (fun ct' => ∃ F', ct' 11 = .inr (9, [.ref (ad 12), .ref (ad 13), .ref (ad 14), .ref (ad 15), .ref (ad 16), .int (nI R), .int (nI C), .int (nI co), .int (nI F'), cz, .ref (ad 17), .ref (ad 19), .ref (ad 21), .ref (ad 23), .ref (ad 25)]) ∧ (F + tCnt (C * R) C rs cm ((C * R) - (C * r + c)) v ≤ 20000 → F' = F + tCnt (C * R) C rs cm ((C * R) - (C * r + c)) v) ∧ (20000 < F + tCnt (C * R) C rs cm ((C * R) - (C * r + c)) v → 20000 < F') ∧ F' ≤ 20100 ∧ ∀ r, r ≠ 11 → ct' r = ct r)) := by
  have hr60 : ∀ r, r < R → rs r ≤ 60 := fun r hr => by have := sumF_mem (f := rs) hr; omega
  have hc60 : ∀ c, c < C → cm c ≤ 60 := fun c hc => by have := sumF_mem (f := cm) hc; omega
  have hfr : ∀ r, r ≠ 11 → r ≠ 14 → ct r = ct r := fun _ _ _ => rfl
  have hcr : C * (r + 1) ≤ C * (R - 1) := Nat.mul_le_mul_left _ (by omega)
  rw [Nat.mul_succ] at hcr
  have hCR : C * R = C * (R - 1) + C := by obtain ⟨z, rfl⟩ : ∃ z, R = z + 1 := ⟨R - 1, by omega⟩; rw [Nat.mul_succ]; rfl
  have hd0 : 0 < d := by omega
  have hca := hCL.at hc
  have hlc : tLeft C cm v r c ≤ 60 := Nat.le_trans (Nat.sub_le _ _) (hc60 c hc)
  have hbe : (tBeh C cm v r c) ≤ 60 := Nat.le_trans (beh_le (R := R) (rm := rs)) hT
  have hle := Nat.le_trans (rest_le (rm := rs) (v := v) (r := r) hc) (hr60 r (by omega))
  have hlo := lo_eq (rm := rs) (cm := cm) (v := v) (r := r) hc
  have hhi := hi_eq (rm := rs) (cm := cm) (v := v) (r := r) hc
  have hlh := lo_hi hCp hsum (k := (C * r + c)) (by omega) hval
  have hcl0 := hcl
  refine Ctr.ofG (L := [(0, .ref (ad 11)), (1, .int (nI r)), (2, .int (nI c)), (3, .int (nI (tRest C rs v (C * r + c)))), (4, .int (nI (tLeft C cm v r c + tBeh C cm v r c)))]) (by decide +kernel) rfl (Nat.le_of_ble_eq_true rfl) (fun E fx rt hnm => ?_)
  refine g_aload_n fx 0 dX9_countCell_0 rfl ?_
  refine g_get (r := 11) fx lkX9_19 (by omega) hw rfl dX9_countCell_1 ?_
  refine g_iload_n fx 2 dX9_countCell_4 rfl ?_
  refine g_iald (r := 14) (j := c) fx (by omega) hcl (nI_toInt (by omega)) (by omega) dX9_countCell_5 ?_
  refine g_isi (y := nI (cl c)) rfl ?_
  refine g_istore (L' := [(5, .int (nI (cl c))), (0, .ref (ad 11)), (1, .int (nI r)), (2, .int (nI c)), (3, .int (nI (tRest C rs v (C * r + c)))), (4, .int (nI (tLeft C cm v r c + tBeh C cm v r c)))]) fx dX9_countCell_6 (by decide) rfl ?_
  refine g_iload fx 5 dX9_countCell_8 rfl ?_
  refine g_iload fx 0 dX9_countCell_10 rfl ?_
  refine g_isub fx dX9_countCell_12 ?_
  refine g_isi (y := nI (tBeh C cm v r c)) (by rw [hca, pk_sub (by omega), Nat.add_sub_cancel_left]) ?_
  refine g_istore (L' := [(6, .int (nI (tBeh C cm v r c))), (5, .int (nI (cl c))), (0, .ref (ad 11)), (1, .int (nI r)), (2, .int (nI c)), (3, .int (nI (tRest C rs v (C * r + c)))), (4, .int (nI (tLeft C cm v r c + tBeh C cm v r c)))]) fx dX9_countCell_13 (by decide) rfl ?_
  refine g_iconst (v := nI 0) fx dX9_countCell_15 (by decide +kernel) ?_
  refine g_iload_n fx 5 dX9_countCell_16 rfl ?_
  refine g_iload fx 0 dX9_countCell_17 rfl ?_
  refine g_isub fx dX9_countCell_19 ?_
  refine g_callSip (As := [.int (nI 0), .int ((nI (tRest C rs v (C * r + c))) - (nI (tBeh C cm v r c)))]) (rest := []) fx slX9_131 (c_J9_max_7cf53 B ad ct n (nI 0) (nI (tRest C rs v (C * r + c)) - nI (tBeh C cm v r c))) rfl rfl (Nat.le_of_ble_eq_true rfl) ⟨by dsimp only; omega, by dsimp only; omega⟩ ⟨Nat.le_refl _, Nat.le_refl _⟩ dX9_countCell_20 (fun q1 hq1 => ?_)
  rw [max0 (by omega) (by omega), ← hlo] at hq1
  refine g_isi (y := nI (tLo C rs cm v (C * r + c))) hq1 ?_
  refine g_istore (L' := [(7, .int (nI (tLo C rs cm v (C * r + c)))), (6, .int (nI (tBeh C cm v r c))), (5, .int (nI (cl c))), (0, .ref (ad 11)), (1, .int (nI r)), (2, .int (nI c)), (3, .int (nI (tRest C rs v (C * r + c)))), (4, .int (nI (tLeft C cm v r c + tBeh C cm v r c)))]) fx dX9_countCell_23 (by decide) rfl ?_
  refine g_iload_n fx 6 dX9_countCell_25 rfl ?_
  refine g_iload fx 2 dX9_countCell_26 rfl ?_
  refine g_callSip (As := [.int (nI (tRest C rs v (C * r + c))), .int (nI (cl c))]) (rest := []) fx slX9_86 (c_J9_min_7cf53 B ad ct n (nI (tRest C rs v (C * r + c))) (nI (cl c))) rfl rfl (Nat.le_of_ble_eq_true rfl) ⟨by dsimp only; omega, by dsimp only; omega⟩ ⟨Nat.le_refl _, Nat.le_refl _⟩ dX9_countCell_28 (fun q2 hq2 => ?_)
  rw [min_nI (by omega) (by omega), hca, ← hhi] at hq2
  refine g_isi (y := nI (tHi C rs cm v (C * r + c))) hq2 ?_
  refine g_istore (L' := [(8, .int (nI (tHi C rs cm v (C * r + c)))), (7, .int (nI (tLo C rs cm v (C * r + c)))), (6, .int (nI (tBeh C cm v r c))), (5, .int (nI (cl c))), (0, .ref (ad 11)), (1, .int (nI r)), (2, .int (nI c)), (3, .int (nI (tRest C rs v (C * r + c)))), (4, .int (nI (tLeft C cm v r c + tBeh C cm v r c)))]) fx dX9_countCell_31 (by decide) rfl ?_
  have J70 : ∀ (u : Nat), (u = u) → G B 10 E ad ct n 0 0 [(0, .ref (ad 11)), (1, .int (nI r)), (2, .int (nI c)), (3, .int (nI (tRest C rs v (C * r + c)))), (5, .int (nI (cl c))), (6, .int (nI (tBeh C cm v r c))), (7, .int (nI (tLo C rs cm v (C * r + c)))), (8, .int (nI (tHi C rs cm v (C * r + c))))] 70 [] := by
    intro u hu
    refine g_iload fx 6 dX9_countCell_70 rfl ?_
    refine g_istore (L' := [(9, .int (nI (tLo C rs cm v (C * r + c)))), (0, .ref (ad 11)), (1, .int (nI r)), (2, .int (nI c)), (3, .int (nI (tRest C rs v (C * r + c)))), (5, .int (nI (cl c))), (6, .int (nI (tBeh C cm v r c))), (7, .int (nI (tLo C rs cm v (C * r + c)))), (8, .int (nI (tHi C rs cm v (C * r + c))))]) fx dX9_countCell_72 (by decide) rfl ?_
    have LP74 : ∀ (M : Nat) (m F1 x : Nat) (ct1 : Nat → va_E), ((tLo C rs cm v (C * r + c)) ≤ m) → (m ≤ (tHi C rs cm v (C * r + c)) + 1) → (F + sumF (fun m => tCnt (C * R) C rs cm ((C * R) - ((C * r + c) + 1)) (va_up v (C * r + c) ((tLo C rs cm v (C * r + c)) + m))) (m - (tLo C rs cm v (C * r + c))) ≤ 20000 → F1 = F + sumF (fun m => tCnt (C * R) C rs cm ((C * R) - ((C * r + c) + 1)) (va_up v (C * r + c) ((tLo C rs cm v (C * r + c)) + m))) (m - (tLo C rs cm v (C * r + c)))) → (20000 < F + sumF (fun m => tCnt (C * R) C rs cm ((C * R) - ((C * r + c) + 1)) (va_up v (C * r + c) ((tLo C rs cm v (C * r + c)) + m))) (m - (tLo C rs cm v (C * r + c))) → 20000 < F1) → (F1 ≤ 20100) → (ct1 11 = .inr (9, [.ref (ad 12), .ref (ad 13), .ref (ad 14), .ref (ad 15), .ref (ad 16), .int (nI R), .int (nI C), .int (nI co), .int (nI F1), cz, .ref (ad 17), .ref (ad 19), .ref (ad 21), .ref (ad 23), .ref (ad 25)])) → (ct1 13 = .inl (B.2.1 0, 5, .inl (nF rs))) → (ct1 14 = .inl (B.2.1 0, 5, .inl (nF (va_up cl c x)))) → (∀ r, r ≠ 11 → r ≠ 14 → ct1 r = ct r) →  ((tHi C rs cm v (C * r + c)) + 1 - m) < M → G B 10 E ad ct1 n 0 0 [(0, .ref (ad 11)), (1, .int (nI r)), (2, .int (nI c)), (3, .int (nI (tRest C rs v (C * r + c)))), (5, .int (nI (cl c))), (6, .int (nI (tBeh C cm v r c))), (8, .int (nI (tHi C rs cm v (C * r + c)))), (9, .int (nI m))] 74 [] := by
      intro M
      induction M with
      | zero => intro m F1 x ct1 _ _ _ _ _ _ _ _ _ hM; exact absurd hM (Nat.not_lt_zero _)
      | succ M ih =>
        intro m F1 x ct1 hm1 hm2 hA1 hA2 hF1 hw hrs hcl hfr hM
        have ih74 := ih
        refine g_iload fx 7 dX9_countCell_74 rfl ?_
        refine g_iload fx 6 dX9_countCell_76 rfl ?_
        refine g_icmp_gt fx 142 dX9_countCell_78 (by decide) (fun c78 => ?_) (fun c78 => ?_)
        · skip
          have hme : m = (tHi C rs cm v (C * r + c)) + 1 := by have := (nI_ltI (a := (tHi C rs cm v (C * r + c))) (b := m) (by omega) (by omega)).mp c78; omega
          have hend : (F + tCnt (C * R) C rs cm ((C * R) - (C * r + c)) v ≤ 20000 → F1 = F + tCnt (C * R) C rs cm ((C * R) - (C * r + c)) v) ∧ (20000 < F + tCnt (C * R) C rs cm ((C * R) - (C * r + c)) v → 20000 < F1) := by
            rw [tCnt_step (k := (C * r + c)) (by omega), ← hme]; exact ⟨hA1, hA2⟩
          refine g_aload_n fx 0 dX9_countCell_142 rfl ?_
          refine g_get (r := 11) fx lkX9_19 (by omega) hw rfl dX9_countCell_143 ?_
          refine g_iload_n fx 2 dX9_countCell_146 rfl ?_
          refine g_iload fx 4 dX9_countCell_147 rfl ?_
          refine g_iast (r := 14) (j := c) fx (by omega) hcl (nI_toInt (by omega)) (by omega) dX9_countCell_149 (fun cu3 ecu3 => ?_)
          have hfr : ∀ r, r ≠ 11 → r ≠ 14 → cu3 r = ct r := fun r _ _ => (congrFun ecu3 r).trans ((va_up_ne _ _ (by assumption)).trans (hfr r (by assumption) (by assumption)))
          have hw : cu3 11 = .inr (9, [.ref (ad 12), .ref (ad 13), .ref (ad 14), .ref (ad 15), .ref (ad 16), .int (nI R), .int (nI C), .int (nI co), .int (nI F1), cz, .ref (ad 17), .ref (ad 19), .ref (ad 21), .ref (ad 23), .ref (ad 25)]) := (congrFun ecu3 _).trans ((va_up_ne _ _ (by omega)).trans hw)
          have hrs : cu3 13 = .inl (B.2.1 0, 5, .inl (nF rs)) := (congrFun ecu3 _).trans ((va_up_ne _ _ (by omega)).trans hrs)
          have hcl : cu3 14 = .inl (B.2.1 0, 5, .inl (nF (va_up (va_up cl c x) c (cl c)))) := by rw [ecu3, va_up_self, nF_up]
          rw [up_back] at hcl
          refine g_vret fx rt dX9_countCell_150 ?_
          refine gPv.mk ⟨F1, hw, hend.1, hend.2, hF1, fun r2 h2 => ?_⟩
          by_cases q : r2 = 14
          · subst q; exact hcl.trans hcl0.symm
          · exact hfr r2 h2 q
        · skip
          have hmh : m ≤ (tHi C rs cm v (C * r + c)) := Nat.le_of_not_lt (fun q => c78 ((nI_ltI (by omega) (by omega)).mpr q))
          refine g_aload_n fx 0 dX9_countCell_81 rfl ?_
          refine g_get (r := 11) fx lkX9_52 (by omega) hw rfl dX9_countCell_82 ?_
          refine g_sipush (v := nI 20000) fx dX9_countCell_85 (by decide +kernel) ?_
          refine g_icmp_gt fx 142 dX9_countCell_88 (by decide) (fun c88 => ?_) (fun c88 => ?_)
          · skip
            have hgt : 20000 < F1 := (nI_ltI (by omega) (by omega)).mp c88
            have hend := cap_out (X := tCnt (C * R) C rs cm ((C * R) - (C * r + c)) v) hA1 hgt (by rw [tCnt_step (k := (C * r + c)) (by omega)]; exact sumF_le2 (by omega))
            refine g_aload_n fx 0 dX9_countCell_142 rfl ?_
            refine g_get (r := 11) fx lkX9_19 (by omega) hw rfl dX9_countCell_143 ?_
            refine g_iload_n fx 2 dX9_countCell_146 rfl ?_
            refine g_iload fx 4 dX9_countCell_147 rfl ?_
            refine g_iast (r := 14) (j := c) fx (by omega) hcl (nI_toInt (by omega)) (by omega) dX9_countCell_149 (fun cu4 ecu4 => ?_)
            have hfr : ∀ r, r ≠ 11 → r ≠ 14 → cu4 r = ct r := fun r _ _ => (congrFun ecu4 r).trans ((va_up_ne _ _ (by assumption)).trans (hfr r (by assumption) (by assumption)))
            have hw : cu4 11 = .inr (9, [.ref (ad 12), .ref (ad 13), .ref (ad 14), .ref (ad 15), .ref (ad 16), .int (nI R), .int (nI C), .int (nI co), .int (nI F1), cz, .ref (ad 17), .ref (ad 19), .ref (ad 21), .ref (ad 23), .ref (ad 25)]) := (congrFun ecu4 _).trans ((va_up_ne _ _ (by omega)).trans hw)
            have hrs : cu4 13 = .inl (B.2.1 0, 5, .inl (nF rs)) := (congrFun ecu4 _).trans ((va_up_ne _ _ (by omega)).trans hrs)
            have hcl : cu4 14 = .inl (B.2.1 0, 5, .inl (nF (va_up (va_up cl c x) c (cl c)))) := by rw [ecu4, va_up_self, nF_up]
            rw [up_back] at hcl
            refine g_vret fx rt dX9_countCell_150 ?_
            refine gPv.mk ⟨F1, hw, hend.1, hend.2, hF1, fun r2 h2 => ?_⟩
            by_cases q : r2 = 14
            · subst q; exact hcl.trans hcl0.symm
            · exact hfr r2 h2 q
          · skip
            have hFc : F1 ≤ 20000 := Nat.le_of_not_lt (fun q => c88 ((nI_ltI (by omega) (by omega)).mpr q))
            have hmc : m ≤ cl c := by rw [hca]; omega
            have hv2 := val_next (w := (va_up v (C * r + c) m)) hCp hval (fun i hi => va_up_ne _ _ (by omega)) (by rw [va_up_self]; exact hm1) (by rw [va_up_self]; exact hmh)
            have hCL2 := hCL.next (n := m) hc
            refine g_aload_n fx 0 dX9_countCell_91 rfl ?_
            refine g_get (r := 11) fx lkX9_19 (by omega) hw rfl dX9_countCell_92 ?_
            refine g_iload_n fx 2 dX9_countCell_95 rfl ?_
            refine g_iload fx 4 dX9_countCell_96 rfl ?_
            refine g_iload fx 7 dX9_countCell_98 rfl ?_
            refine g_isubN fx dX9_countCell_100 hmc ?_
            refine g_iast (r := 14) (j := c) fx (by omega) hcl (nI_toInt (by omega)) (by omega) dX9_countCell_101 (fun cu5 ecu5 => ?_)
            have hfr : ∀ r, r ≠ 11 → r ≠ 14 → cu5 r = ct r := fun r _ _ => (congrFun ecu5 r).trans ((va_up_ne _ _ (by assumption)).trans (hfr r (by assumption) (by assumption)))
            have hw : cu5 11 = .inr (9, [.ref (ad 12), .ref (ad 13), .ref (ad 14), .ref (ad 15), .ref (ad 16), .int (nI R), .int (nI C), .int (nI co), .int (nI F1), cz, .ref (ad 17), .ref (ad 19), .ref (ad 21), .ref (ad 23), .ref (ad 25)]) := (congrFun ecu5 _).trans ((va_up_ne _ _ (by omega)).trans hw)
            have hrs : cu5 13 = .inl (B.2.1 0, 5, .inl (nF rs)) := (congrFun ecu5 _).trans ((va_up_ne _ _ (by omega)).trans hrs)
            have hcl : cu5 14 = .inl (B.2.1 0, 5, .inl (nF (va_up (va_up cl c x) c ((cl c) - m)))) := by rw [ecu5, va_up_self, nF_up]
            rw [up_twice] at hcl
            refine g_iload_n fx 2 dX9_countCell_102 rfl ?_
            refine g_iconst (v := nI 1) fx dX9_countCell_103 (by decide +kernel) ?_
            refine g_iaddN fx dX9_countCell_104 ?_
            refine g_aload_n fx 0 dX9_countCell_105 rfl ?_
            refine g_get (r := 11) fx lkX9_97 (by omega) hw rfl dX9_countCell_106 ?_
            refine g_icmp_ge fx 129 dX9_countCell_109 (by decide) (fun c109 => ?_) (fun c109 => ?_)
            · skip
              have hcC : c + 1 = C := by have := (nI_leI (by omega) (by omega)).mp c109; omega
              refine g_aload_n fx 0 dX9_countCell_129 rfl ?_
              refine g_iload_n fx 1 dX9_countCell_130 rfl ?_
              refine g_iconst (v := nI 1) fx dX9_countCell_131 (by decide +kernel) ?_
              refine g_iaddN fx dX9_countCell_132 ?_
              have hrk : C * (r + 1) = (C * r + c) + 1 := by rw [Nat.mul_succ]; omega
              rw [hcC] at hCL2
              refine g_callVv (As := [.int (nI (r + 1))]) (rest := []) fx slX9_56 (c_X9_countRow B (d - 1) (IH (d - 1) (by omega)) ad cu5 n rs (va_up cl c (cl c - m)) cm (va_up v (C * r + c) m) R C co F1 cz hn hw hrs hcl hR5 hC5 hCp hsum hT hFc (r + 1) (by omega) (by omega) (by rw [hrk]; exact hv2) hCL2.row) (by omega) hw rfl rfl rfl (Nat.le_of_ble_eq_true rfl) ⟨by dsimp only; omega, by dsimp only; omega⟩ ⟨Nat.le_refl _, Nat.le_refl _⟩ dX9_countCell_133 (fun ct6 hz6 => ?_)
              rw [hrk] at hz6
              obtain ⟨F2, hw, g1, g2, g3, hs6⟩ := hz6
              have hrs : ct6 13 = .inl (B.2.1 0, 5, .inl (nF rs)) := (hs6 13 (by decide)).trans hrs
              have hcl : ct6 14 = .inl (B.2.1 0, 5, .inl (nF (va_up cl c (cl c - m)))) := (hs6 14 (by decide)).trans hcl
              have hfr : ∀ r, r ≠ 11 → r ≠ 14 → ct6 r = ct r := fun r q1 q2 => (hs6 r q1).trans (hfr r q1 q2)
              refine g_iinc (L' := [(9, .int (nI (m + 1))), (0, .ref (ad 11)), (1, .int (nI r)), (2, .int (nI c)), (3, .int (nI (tRest C rs v (C * r + c)))), (5, .int (nI (cl c))), (6, .int (nI (tBeh C cm v r c))), (8, .int (nI (tHi C rs cm v (C * r + c))))]) fx (nI (m + 1)) 7 dX9_countCell_136 rfl (gInc _) (by decide) rfl ?_
              refine g_goto fx 74 dX9_countCell_139 (by decide) ?_
              refine g_locals (L' := [(0, .ref (ad 11)), (1, .int (nI r)), (2, .int (nI c)), (3, .int (nI (tRest C rs v (C * r + c)))), (5, .int (nI (cl c))), (6, .int (nI (tBeh C cm v r c))), (8, .int (nI (tHi C rs cm v (C * r + c)))), (9, .int (nI (m + 1)))]) [1, 2, 3, 4, 5, 6, 7, 0] rfl ?_
              exact ih74 (m + 1) F2 (cl c - m) _ (by omega) (by omega) (by rw [cnt_split hm1]; exact (cap_step hA1 hA2 hFc g1 g2).1) (by rw [cnt_split hm1]; exact (cap_step hA1 hA2 hFc g1 g2).2) g3 hw hrs hcl hfr (by omega)
            · skip
              have hc1 : c + 1 < C := (nI_ltI (by omega) (by omega)).mp (Int32.not_le.mp c109)
              have hbh := beh_head (cm := cm) (v := v) (r := r) hc1
              refine g_aload_n fx 0 dX9_countCell_112 rfl ?_
              refine g_iload_n fx 1 dX9_countCell_113 rfl ?_
              refine g_iload_n fx 2 dX9_countCell_114 rfl ?_
              refine g_iconst (v := nI 1) fx dX9_countCell_115 (by decide +kernel) ?_
              refine g_iaddN fx dX9_countCell_116 ?_
              refine g_iload_n fx 3 dX9_countCell_117 rfl ?_
              refine g_iload fx 7 dX9_countCell_118 rfl ?_
              refine g_isub fx dX9_countCell_120 ?_
              refine g_isi (y := nI (tRest C rs (va_up v (C * r + c) m) (C * r + (c + 1)))) (by rw [rest_step hc1 (fun i hi => va_up_ne _ _ (by omega)), va_up_self, pk_sub (by omega)]) ?_
              refine g_iload fx 5 dX9_countCell_121 rfl ?_
              refine g_isi (y := nI (tLeft C cm (va_up v (C * r + c) m) r (c + 1) + tBeh C cm (va_up v (C * r + c) m) r (c + 1))) (by rw [left_up (by omega), beh_up, hbh]) ?_
              refine g_callVv (As := [.int (nI r), .int (nI (c + 1)), .int (nI (tRest C rs (va_up v (C * r + c) m) (C * r + (c + 1)))), .int (nI (tLeft C cm (va_up v (C * r + c) m) r (c + 1) + tBeh C cm (va_up v (C * r + c) m) r (c + 1)))]) (rest := []) fx slX9_127 (IH (d - 1) (by omega) ad cu5 n rs (va_up cl c (cl c - m)) cm (va_up v (C * r + c) m) R C co F1 cz hn hw hrs hcl hR5 hC5 hCp hsum hT hFc r (c + 1) hr hc1 (by omega) hv2 hCL2) (by omega) hw rfl rfl rfl (Nat.le_of_ble_eq_true rfl) ⟨by dsimp only; omega, by dsimp only; omega⟩ ⟨Nat.le_refl _, Nat.le_refl _⟩ dX9_countCell_123 (fun ct5 hz5 => ?_)
              obtain ⟨F2, hw, g1, g2, g3, hs5⟩ := hz5
              have hrs : ct5 13 = .inl (B.2.1 0, 5, .inl (nF rs)) := (hs5 13 (by decide)).trans hrs
              have hcl : ct5 14 = .inl (B.2.1 0, 5, .inl (nF (va_up cl c (cl c - m)))) := (hs5 14 (by decide)).trans hcl
              have hfr : ∀ r, r ≠ 11 → r ≠ 14 → ct5 r = ct r := fun r q1 q2 => (hs5 r q1).trans (hfr r q1 q2)
              have g1 : F1 + tCnt (C * R) C rs cm ((C * R) - ((C * r + c) + 1)) (va_up v (C * r + c) m) ≤ 20000 → F2 = F1 + tCnt (C * R) C rs cm ((C * R) - ((C * r + c) + 1)) (va_up v (C * r + c) m) := g1
              refine g_goto fx 136 dX9_countCell_126 (by decide) ?_
              refine g_iinc (L' := [(9, .int (nI (m + 1))), (0, .ref (ad 11)), (1, .int (nI r)), (2, .int (nI c)), (3, .int (nI (tRest C rs v (C * r + c)))), (5, .int (nI (cl c))), (6, .int (nI (tBeh C cm v r c))), (8, .int (nI (tHi C rs cm v (C * r + c))))]) fx (nI (m + 1)) 7 dX9_countCell_136 rfl (gInc _) (by decide) rfl ?_
              refine g_goto fx 74 dX9_countCell_139 (by decide) ?_
              refine g_locals (L' := [(0, .ref (ad 11)), (1, .int (nI r)), (2, .int (nI c)), (3, .int (nI (tRest C rs v (C * r + c)))), (5, .int (nI (cl c))), (6, .int (nI (tBeh C cm v r c))), (8, .int (nI (tHi C rs cm v (C * r + c)))), (9, .int (nI (m + 1)))]) [1, 2, 3, 4, 5, 6, 7, 0] rfl ?_
              exact ih74 (m + 1) F2 (cl c - m) _ (by omega) (by omega) (by rw [cnt_split hm1]; exact (cap_step hA1 hA2 hFc g1 g2).1) (by rw [cnt_split hm1]; exact (cap_step hA1 hA2 hFc g1 g2).2) g3 hw hrs hcl hfr (by omega)
    refine g_locals (L' := [(0, .ref (ad 11)), (1, .int (nI r)), (2, .int (nI c)), (3, .int (nI (tRest C rs v (C * r + c)))), (5, .int (nI (cl c))), (6, .int (nI (tBeh C cm v r c))), (8, .int (nI (tHi C rs cm v (C * r + c)))), (9, .int (nI (tLo C rs cm v (C * r + c))))]) [1, 2, 3, 4, 5, 6, 8, 0] rfl ?_
    exact LP74 ((tHi C rs cm v (C * r + c)) + 2) (tLo C rs cm v (C * r + c)) F (cl c) ct (Nat.le_refl _) (by omega) (by rw [Nat.sub_self]; exact fun _ => rfl) (by rw [Nat.sub_self]; exact fun q => absurd q (Nat.not_lt.mpr hF)) (by omega) hw hrs (by rw [up_same]; exact hcl) hfr (by omega)
  refine g_iload_n fx 5 dX9_countCell_33 rfl ?_
  refine g_iconst (v := nI 2) fx dX9_countCell_34 (by decide +kernel) ?_
  refine g_iaddN fx dX9_countCell_35 ?_
  refine g_aload_n fx 4 dX9_countCell_36 rfl ?_
  refine g_get (r := 11) fx lkX9_92 (by omega) hw rfl dX9_countCell_37 ?_
  refine g_icmp_ne fx 70 dX9_countCell_40 (by decide) (fun c40 => ?_) (fun c40 => ?_)
  · skip
    refine g_locals (L' := [(0, .ref (ad 11)), (1, .int (nI r)), (2, .int (nI c)), (3, .int (nI (tRest C rs v (C * r + c)))), (5, .int (nI (cl c))), (6, .int (nI (tBeh C cm v r c))), (7, .int (nI (tLo C rs cm v (C * r + c)))), (8, .int (nI (tHi C rs cm v (C * r + c))))]) [4, 5, 6, 7, 3, 2, 1, 0] rfl ?_
    exact J70 0 rfl
  · skip
    have hr2 : r + 2 = R := (nI_eq (by omega) (by omega)).mp c40
    refine g_iload_n fx 6 dX9_countCell_43 rfl ?_
    refine g_iconst (v := nI 2) fx dX9_countCell_44 (by decide +kernel) ?_
    refine g_iaddN fx dX9_countCell_45 ?_
    refine g_aload_n fx 4 dX9_countCell_46 rfl ?_
    refine g_get (r := 11) fx lkX9_97 (by omega) hw rfl dX9_countCell_47 ?_
    refine g_icmp_ne fx 70 dX9_countCell_50 (by decide) (fun c50 => ?_) (fun c50 => ?_)
    · skip
      refine g_locals (L' := [(0, .ref (ad 11)), (1, .int (nI r)), (2, .int (nI c)), (3, .int (nI (tRest C rs v (C * r + c)))), (5, .int (nI (cl c))), (6, .int (nI (tBeh C cm v r c))), (7, .int (nI (tLo C rs cm v (C * r + c)))), (8, .int (nI (tHi C rs cm v (C * r + c))))]) [4, 5, 6, 7, 3, 2, 1, 0] rfl ?_
      exact J70 0 rfl
    · skip
      have hc2 : c + 2 = C := (nI_eq (by omega) (by omega)).mp c50
      refine g_aload_n fx 4 dX9_countCell_53 rfl ?_
      refine g_dup fx dX9_countCell_54 rfl ?_
      refine g_get (r := 11) fx lkX9_52 (by omega) hw rfl dX9_countCell_55 ?_
      refine g_iload fx 0 dX9_countCell_58 rfl ?_
      refine g_iload fx 1 dX9_countCell_60 rfl ?_
      refine g_isubN fx dX9_countCell_62 hlh ?_
      refine g_iconst (v := nI 1) fx dX9_countCell_63 (by decide +kernel) ?_
      refine g_iaddN fx dX9_countCell_64 ?_
      refine g_iaddN fx dX9_countCell_65 ?_
      refine g_put (r := 11) (fs' := [.ref (ad 12), .ref (ad 13), .ref (ad 14), .ref (ad 15), .ref (ad 16), .int (nI R), .int (nI C), .int (nI co), .int (nI (F + (((tHi C rs cm v (C * r + c)) - (tLo C rs cm v (C * r + c))) + 1))), cz, .ref (ad 17), .ref (ad 19), .ref (ad 21), .ref (ad 23), .ref (ad 25)]) fx lpX9_52 (by omega) hw rfl rfl (Nat.le_of_ble_eq_true rfl) rfl dX9_countCell_66 (fun ct2 ect2 => ?_)
      have hfr : ∀ r, r ≠ 11 → r ≠ 14 → ct2 r = ct r := fun r _ _ => (congrFun ect2 r).trans ((va_up_ne _ _ (by assumption)).trans (hfr r (by assumption) (by assumption)))
      have hw : ct2 11 = .inr (9, [.ref (ad 12), .ref (ad 13), .ref (ad 14), .ref (ad 15), .ref (ad 16), .int (nI R), .int (nI C), .int (nI co), .int (nI (F + (((tHi C rs cm v (C * r + c)) - (tLo C rs cm v (C * r + c))) + 1))), cz, .ref (ad 17), .ref (ad 19), .ref (ad 21), .ref (ad 23), .ref (ad 25)]) := by rw [ect2, va_up_self]
      have hrs : ct2 13 = .inl (B.2.1 0, 5, .inl (nF rs)) := (congrFun ect2 _).trans ((va_up_ne _ _ (by omega)).trans hrs)
      have hcl : ct2 14 = .inl (B.2.1 0, 5, .inl (nF cl)) := (congrFun ect2 _).trans ((va_up_ne _ _ (by omega)).trans hcl)
      refine g_vret fx rt dX9_countCell_69 ?_
      have hX : tCnt (C * R) C rs cm ((C * R) - (C * r + c)) v = (tHi C rs cm v (C * r + c)) + 1 - (tLo C rs cm v (C * r + c)) := by
        obtain ⟨z, rfl⟩ : ∃ z, R = z + 2 := ⟨R - 2, by omega⟩
        have hrz : r = z := by omega
        subst hrz
        have hcc : c = C - 2 := by omega
        subst hcc
        exact short_cut (R := r) (by omega) hsum hval
      have hhl : (tHi C rs cm v (C * r + c)) ≤ 60 := by omega
      exact gPv.mk ⟨F + ((tHi C rs cm v (C * r + c)) - (tLo C rs cm v (C * r + c)) + 1), hw, by omega, by omega, by omega, fun r2 h2 => by rw [ect2, va_up_ne _ _ h2]⟩
theorem c_PC (B : gB) : ∀ d, PC B d := by
  intro d
  induction d using Nat.strongRecOn with
  | ind d IH =>
    intro ad ct n rs cl cm v R C co F cz hn hw hrs hcl hR5 hC5 hCp hsum hT hF r c hr hc hd hval hCL
    exact c_X9_countCell_s B d (fun d2 h2 => IH d2 h2) ad ct n rs cl cm v R C co F cz hn hw hrs hcl hR5 hC5 hCp hsum hT hF r c hr hc hd hval hCL
