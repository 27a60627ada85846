theorem m1_p1 {k : Nat} : nI k - nI 1 + nI 1 = nI k := by rw [Int32.sub_add_cancel]
theorem tLeft_step {C : Nat} {cm v : Nat → Nat} {r c : Nat} : tLeft C cm v (r + 1) c = tLeft C cm v r c - v (C * r + c) := by
  show cm c - (sumF (fun i => v (C * i + c)) r + v (C * r + c)) = _
  unfold tLeft; omega
theorem sum_swap {C : Nat} {g : Nat → Nat} : ∀ R, sumF (fun r => sumF (fun c => g (C * r + c)) C) R = sumF (fun c => sumF (fun r => g (C * r + c)) R) C
  | 0 => by
    show 0 = sumF (fun _ => 0) C
    have := sumF_le (f := fun _ => 0) (b := 0) C (fun _ _ => Nat.le_refl _)
    omega
  | R + 1 => by
    show sumF (fun r => sumF (fun c => g (C * r + c)) C) R + sumF (fun c => g (C * R + c)) C = sumF (fun c => sumF (fun r => g (C * r + c)) R + g (C * R + c)) C
    rw [sum_swap R, sumF_add]
theorem tRest_mg {R C : Nat} {rm rm2 v : Nat → Nat} {k : Nat} (hC : 0 < C) (hk : k < C * R) (h : ∀ r, r < R → rm r = rm2 r) : tRest C rm v k = tRest C rm2 v k := by
  unfold tRest
  rw [h _ ((Nat.div_lt_iff_lt_mul hC).mpr (by rw [Nat.mul_comm]; exact hk))]
theorem tLeft_mg {C : Nat} {cm cm2 v : Nat → Nat} {r c : Nat} (hc : c < C) (h : ∀ c, c < C → cm c = cm2 c) : tLeft C cm v r c = tLeft C cm2 v r c := by
  unfold tLeft; rw [h c hc]
theorem tLo_mg {R C : Nat} {rm rm2 cm cm2 v : Nat → Nat} {k : Nat} (hC : 0 < C) (hk : k < C * R) (h : ∀ r, r < R → rm r = rm2 r) (h2 : ∀ c, c < C → cm c = cm2 c) : tLo C rm cm v k = tLo C rm2 cm2 v k := by
  unfold tLo tBeh
  rw [tRest_mg hC hk h, sumF_congr _ (fun j hj => tLeft_mg (by omega) h2)]
theorem tHi_mg {R C : Nat} {rm rm2 cm cm2 v : Nat → Nat} {k : Nat} (hC : 0 < C) (hk : k < C * R) (h : ∀ r, r < R → rm r = rm2 r) (h2 : ∀ c, c < C → cm c = cm2 c) : tHi C rm cm v k = tHi C rm2 cm2 v k := by
  unfold tHi
  rw [tRest_mg hC hk h, tLeft_mg (Nat.mod_lt _ hC) h2]
theorem Val.mg {R C : Nat} {rm rm2 cm cm2 v : Nat → Nat} {k : Nat} (hC : 0 < C) (hk : k ≤ C * R) (h : ∀ r, r < R → rm r = rm2 r) (h2 : ∀ c, c < C → cm c = cm2 c) (hv : Val C rm cm k v) : Val C rm2 cm2 k v := fun j hj => by
  rw [← tLo_mg (rm := rm) (cm := cm) hC (show j < C * R by omega) h h2, ← tHi_mg (rm := rm) (cm := cm) hC (show j < C * R by omega) h h2]
  exact hv j hj
/-- what 'open' needs to know of the cells ahead -/
theorem val_open {C : Nat} {rm cm v : Nat → Nat} {k : Nat} (hC : 0 < C) (hv : Val C rm cm k v) : (∀ c', c' ≤ k % C → sumF (fun j => v (C * (k / C) + j)) c' ≤ rm (k / C)) ∧ (∀ c, c < C → ∀ r', r' ≤ k / C → sumF (fun i => v (C * i + c)) r' ≤ cm c) := by
  have e := Nat.div_add_mod k C
  have hm := Nat.mod_lt k hC
  refine ⟨fun c' hc' => val_row hv c' (by omega) (fun j hj => by omega), fun c hc r' hr' => val_col hv hc r' (fun i hi => idx_lt hC (by omega) hc)⟩
theorem open_lo {a b : Nat} : (if b < a then a - b else 0) = a - b := by split <;> omega
set_option maxHeartbeats 4000000 in
set_option maxRecDepth 100000 in
theorem c_X12_columnLeft (B : gB) (ad : Nat → Nat) (ct : Nat → va_E) (n : Nat) (f : Nat → Int32) (v cm : Nat → Nat) (hn : 33 ≤ n) (h0 : ct 0 = mObj ad f) (hv : ct 12 = .inl (B.2.1 0, 25, .inl (nF v))) (hcm : ct 15 = .inl (B.2.1 0, 5, .inl (nF cm))) (C : Nat) (hC : f 5 = nI C) (hC5 : C ≤ 5) (r c : Nat) (hr : r ≤ 4) (hc : c < C) (hle : ∀ r', r' ≤ r → sumF (fun i => v (C * i + c)) r' ≤ cm c) : Ctr B yX12_columnLeft cX12_columnLeft 5 (some .int) 0 0 0 0 ad ct n [.ref (ad 0), .int (nI r), .int (nI c)] (gPip ad ct n (fun q => q = nI (tLeft C cm v r c))) := by
  refine Ctr.ofG (L := [(0, .ref (ad 0)), (1, .int (nI r)), (2, .int (nI c))]) (by decide +kernel) rfl (Nat.le_of_ble_eq_true rfl) (fun E fx rt hnm => ?_)
  refine g_aload_n fx 0 dX12_columnLeft_0 rfl ?_
  refine g_get (r := 0) fx lkX12_58 (by omega) h0 rfl dX12_columnLeft_1 ?_
  refine g_iload_n fx 2 dX12_columnLeft_4 rfl ?_
  refine g_iald (r := 15) (j := c) fx (by omega) hcm (nI_toInt (by omega)) (by omega) dX12_columnLeft_5 ?_
  refine g_isi (y := nI (cm c)) rfl ?_
  refine g_istore_n (L' := [(3, .int (nI (cm c))), (0, .ref (ad 0)), (1, .int (nI r)), (2, .int (nI c))]) fx dX12_columnLeft_6 (by decide) rfl ?_
  refine g_iconst (v := nI 0) fx dX12_columnLeft_7 (by decide +kernel) ?_
  refine g_istore (L' := [(4, .int (nI 0)), (3, .int (nI (cm c))), (0, .ref (ad 0)), (1, .int (nI r)), (2, .int (nI c))]) fx dX12_columnLeft_8 (by decide) rfl ?_
  have LP10 : ∀ (M : Nat) (k : Nat), (k ≤ r) →  (r - k) < M → G B 5 E ad ct n 0 0 [(0, .ref (ad 0)), (1, .int (nI r)), (2, .int (nI c)), (3, .int (nI (tLeft C cm v k c))), (4, .int (nI k))] 10 [] := by
    intro M
    induction M with
    | zero => intro k _ hM; exact absurd hM (Nat.not_lt_zero _)
    | succ M ih =>
      intro k hk hM
      have ih10 := ih
      refine g_iload fx 4 dX12_columnLeft_10 rfl ?_
      refine g_iload_n fx 1 dX12_columnLeft_12 rfl ?_
      refine g_icmp_ge fx 39 dX12_columnLeft_13 (by decide) (fun c13 => ?_) (fun c13 => ?_)
      · skip
        have hkr : k = r := by have := (nI_leI (by omega) (by omega)).mp c13; omega
        refine g_iload_n fx 3 dX12_columnLeft_39 rfl ?_
        refine g_iret fx rt dX12_columnLeft_40 ?_
        refine gPip.mk ?_
        rw [hkr]
      · skip
        have hlt2 : k < r := by have := (nI_ltI (by omega) (by omega)).mp (Int32.not_le.mp c13); omega
        have hix : C * k + c < 25 := by have : C * k ≤ C * 3 := Nat.mul_le_mul_left _ (by omega); omega
        have hsub : v (C * k + c) ≤ tLeft C cm v k c := by have : sumF (fun i => v (C * i + c)) k + v (C * k + c) ≤ cm c := hle (k + 1) hlt2; unfold tLeft; omega
        refine g_iload_n fx 3 dX12_columnLeft_16 rfl ?_
        refine g_aload_n fx 0 dX12_columnLeft_17 rfl ?_
        refine g_get (r := 0) fx lkX12_49 (by omega) h0 rfl dX12_columnLeft_18 ?_
        refine g_aload_n fx 0 dX12_columnLeft_21 rfl ?_
        refine g_get (r := 0) fx lkX12_118 (by omega) h0 rfl dX12_columnLeft_22 ?_
        refine g_isi (y := nI C) hC ?_
        refine g_iload fx 4 dX12_columnLeft_25 rfl ?_
        refine g_imulN fx dX12_columnLeft_27 ?_
        refine g_iload_n fx 2 dX12_columnLeft_28 rfl ?_
        refine g_iaddN fx dX12_columnLeft_29 ?_
        refine g_iald (r := 12) (j := C * k + c) fx (by omega) hv (nI_toInt (by omega)) hix dX12_columnLeft_30 ?_
        refine g_isi (y := nI (v (C * k + c))) rfl ?_
        refine g_isubN fx dX12_columnLeft_31 hsub ?_
        refine g_isi (y := nI (tLeft C cm v (k + 1) c)) (by rw [tLeft_step]) ?_
        refine g_istore_n (L' := [(3, .int (nI (tLeft C cm v (k + 1) c))), (0, .ref (ad 0)), (1, .int (nI r)), (2, .int (nI c)), (4, .int (nI k))]) fx dX12_columnLeft_32 (by decide) rfl ?_
        refine g_iinc (L' := [(4, .int (nI (k + 1))), (3, .int (nI (tLeft C cm v (k + 1) c))), (0, .ref (ad 0)), (1, .int (nI r)), (2, .int (nI c))]) fx (nI (k + 1)) 4 dX12_columnLeft_33 rfl (gInc _) (by decide) rfl ?_
        refine g_goto fx 10 dX12_columnLeft_36 (by decide) ?_
        refine g_locals (L' := [(0, .ref (ad 0)), (1, .int (nI r)), (2, .int (nI c)), (3, .int (nI (tLeft C cm v (k + 1) c))), (4, .int (nI (k + 1)))]) [2, 3, 4, 1, 0] rfl ?_
        exact ih (k + 1) hlt2 (by omega)
  refine g_locals (L' := [(0, .ref (ad 0)), (1, .int (nI r)), (2, .int (nI c)), (3, .int (nI (cm c))), (4, .int (nI 0))]) [2, 3, 4, 1, 0] rfl ?_
  exact LP10 (r + 1) 0 (by omega) (by omega)
set_option maxHeartbeats 4000000 in
set_option maxRecDepth 100000 in
theorem c_X12_open (B : gB) (ad : Nat → Nat) (ct : Nat → va_E) (n : Nat) (f : Nat → Int32) (v h rm cm : Nat → Nat) (hn : 33 ≤ n) (h0 : ct 0 = mObj ad f) (hv : ct 12 = .inl (B.2.1 0, 25, .inl (nF v))) (hh : ct 13 = .inl (B.2.1 0, 25, .inl (nF h))) (hrm : ct 14 = .inl (B.2.1 0, 5, .inl (nF rm))) (hcm : ct 15 = .inl (B.2.1 0, 5, .inl (nF cm))) (R C : Nat) (hR : f 4 = nI R) (hC : f 5 = nI C) (hR5 : R ≤ 5) (hC5 : C ≤ 5) (hCp : 0 < C) (k : Nat) (hk : k < C * R) (hr60 : ∀ r, r < R → rm r ≤ 60) (hc60 : ∀ c, c < C → cm c ≤ 60) (hrow : ∀ c', c' ≤ k % C → sumF (fun j => v (C * (k / C) + j)) c' ≤ rm (k / C)) (hcol : ∀ c, c < C → ∀ r', r' ≤ k / C → sumF (fun i => v (C * i + c)) r' ≤ cm c) : Ctr B yX12_open cX12_open 7 none 1 24 0 0 ad ct n [.ref (ad 0), .int (nI k)] (gPv ad n (fun ct' => ct' 12 = .inl (B.2.1 0, 25, .inl (nF (va_up v k (tLo C rm cm v k)))) ∧ ct' 13 = .inl (B.2.1 0, 25, .inl (nF (va_up h k (tHi C rm cm v k)))) ∧ ∀ r, r ≠ 12 → r ≠ 13 → ct' r = ct r)) := by
  have hfr : ∀ r, r ≠ 12 → r ≠ 13 → ct r = ct r := fun _ _ _ => rfl
  have hk25 : k < 25 := Nat.lt_of_lt_of_le hk (Nat.mul_le_mul hC5 hR5)
  have hrR : k / C < R := (Nat.div_lt_iff_lt_mul hCp).mpr (by rw [Nat.mul_comm]; exact hk)
  have hcC := Nat.mod_lt k hCp
  have hdm := Nat.div_add_mod k C
  have hrb := hr60 (k / C) hrR
  have hlb : ∀ r c, c < C → tLeft C cm v r c ≤ 60 := fun r c hc => by have := hc60 c hc; unfold tLeft; omega
  have hbb : ∀ j, j ≤ 5 → k % C + 1 + j ≤ C → (sumF (fun j => tLeft C cm v (k / C) (k % C + 1 + j)) j) ≤ j * 60 := fun j _ hj => sumF_le j (fun i hi => hlb _ _ (by omega))
  refine Ctr.ofG (L := [(0, .ref (ad 0)), (1, .int (nI k))]) (by decide +kernel) rfl (Nat.le_of_ble_eq_true rfl) (fun E fx rt hnm => ?_)
  refine g_iload_n fx 1 dX12_open_0 rfl ?_
  refine g_aload_n fx 0 dX12_open_1 rfl ?_
  refine g_get (r := 0) fx lkX12_118 (by omega) h0 rfl dX12_open_2 ?_
  refine g_isi (y := nI C) hC ?_
  refine g_idiv fx dX12_open_5 (nI_ne0 hCp (by omega)) ?_
  refine g_isi (y := nI (k / C)) (pk_div (by omega) hCp (by omega)) ?_
  refine g_istore_n (L' := [(2, .int (nI (k / C))), (0, .ref (ad 0)), (1, .int (nI k))]) fx dX12_open_6 (by decide) rfl ?_
  refine g_iload_n fx 2 dX12_open_7 rfl ?_
  refine g_aload_n fx 1 dX12_open_8 rfl ?_
  refine g_get (r := 0) fx lkX12_118 (by omega) h0 rfl dX12_open_9 ?_
  refine g_isi (y := nI C) hC ?_
  refine g_irem fx dX12_open_12 (nI_ne0 hCp (by omega)) ?_
  refine g_isi (y := nI (k % C)) (pk_rem (by omega) hCp (by omega)) ?_
  refine g_istore_n (L' := [(3, .int (nI (k % C))), (2, .int (nI (k / C))), (0, .ref (ad 0)), (1, .int (nI k))]) fx dX12_open_13 (by decide) rfl ?_
  refine g_aload_n fx 2 dX12_open_14 rfl ?_
  refine g_get (r := 0) fx lkX12_55 (by omega) h0 rfl dX12_open_15 ?_
  refine g_iload_n fx 1 dX12_open_18 rfl ?_
  refine g_iald (r := 14) (j := (k / C)) fx (by omega) hrm (nI_toInt (by omega)) (by omega) dX12_open_19 ?_
  refine g_isi (y := nI (rm (k / C))) rfl ?_
  refine g_istore (L' := [(4, .int (nI (rm (k / C)))), (3, .int (nI (k % C))), (2, .int (nI (k / C))), (0, .ref (ad 0)), (1, .int (nI k))]) fx dX12_open_20 (by decide) rfl ?_
  refine g_iconst (v := nI 0) fx dX12_open_22 (by decide +kernel) ?_
  refine g_istore (L' := [(5, .int (nI 0)), (4, .int (nI (rm (k / C)))), (3, .int (nI (k % C))), (2, .int (nI (k / C))), (0, .ref (ad 0)), (1, .int (nI k))]) fx dX12_open_23 (by decide) rfl ?_
  have LP25 : ∀ (M : Nat) (j : Nat), (j ≤ k % C) →  (k % C - j) < M → G B 7 E ad ct n 0 0 [(0, .ref (ad 0)), (1, .int (nI k)), (2, .int (nI (k / C))), (3, .int (nI (k % C))), (4, .int (nI (rm (k / C) - sumF (fun j => v (C * (k / C) + j)) j))), (5, .int (nI j))] 25 [] := by
    intro M
    induction M with
    | zero => intro j _ hM; exact absurd hM (Nat.not_lt_zero _)
    | succ M ih =>
      intro j hj hM
      have ih25 := ih
      refine g_iload fx 5 dX12_open_25 rfl ?_
      refine g_iload_n fx 3 dX12_open_27 rfl ?_
      refine g_icmp_ge fx 56 dX12_open_28 (by decide) (fun c28 => ?_) (fun c28 => ?_)
      · skip
        have hjc : j = k % C := by have := (nI_leI (by omega) (by omega)).mp c28; omega
        refine g_iconst (v := nI 0) fx dX12_open_56 (by decide +kernel) ?_
        refine g_istore (L' := [(5, .int (nI 0)), (0, .ref (ad 0)), (1, .int (nI k)), (2, .int (nI (k / C))), (3, .int (nI (k % C))), (4, .int (nI (rm (k / C) - sumF (fun j => v (C * (k / C) + j)) j)))]) fx dX12_open_57 (by decide) rfl ?_
        refine g_iload_n fx 4 dX12_open_59 rfl ?_
        refine g_iconst (v := nI 1) fx dX12_open_60 (by decide +kernel) ?_
        refine g_iaddN fx dX12_open_61 ?_
        refine g_istore (L' := [(6, .int (nI ((k % C) + 1))), (5, .int (nI 0)), (0, .ref (ad 0)), (1, .int (nI k)), (2, .int (nI (k / C))), (3, .int (nI (k % C))), (4, .int (nI (rm (k / C) - sumF (fun j => v (C * (k / C) + j)) j)))]) fx dX12_open_62 (by decide) rfl ?_
        have LP64 : ∀ (M : Nat) (j2 : Nat), (k % C + 1 + j2 ≤ C) →  (C - j2) < M → G B 7 E ad ct n 0 0 [(0, .ref (ad 0)), (1, .int (nI k)), (2, .int (nI (k / C))), (3, .int (nI (k % C))), (4, .int (nI (rm (k / C) - sumF (fun j => v (C * (k / C) + j)) j))), (5, .int (nI (sumF (fun j => tLeft C cm v (k / C) (k % C + 1 + j)) j2))), (6, .int (nI (k % C + 1 + j2)))] 64 [] := by
          intro M
          induction M with
          | zero => intro j2 _ hM; exact absurd hM (Nat.not_lt_zero _)
          | succ M ih =>
            intro j2 hj2 hM
            have ih64 := ih
            refine g_iload fx 6 dX12_open_64 rfl ?_
            refine g_aload_n fx 0 dX12_open_66 rfl ?_
            refine g_get (r := 0) fx lkX12_118 (by omega) h0 rfl dX12_open_67 ?_
            refine g_isi (y := nI C) hC ?_
            refine g_icmp_ge fx 91 dX12_open_70 (by decide) (fun c70 => ?_) (fun c70 => ?_)
            · skip
              have hje : j2 = C - (k % C + 1) := by have := (nI_leI (by omega) (by omega)).mp c70; omega
              refine g_aload_n fx 0 dX12_open_91 rfl ?_
              refine g_iload_n fx 2 dX12_open_92 rfl ?_
              refine g_iload_n fx 3 dX12_open_93 rfl ?_
              refine g_callVip (As := [.int (nI (k / C)), .int (nI (k % C))]) (rest := []) fx slX12_193 (c_X12_columnLeft B ad ct n f v cm hn h0 hv hcm C hC hC5 (k / C) (k % C) (by omega) (by omega) (hcol (k % C) (by omega))) (by omega) h0 rfl rfl rfl (Nat.le_of_ble_eq_true rfl) ⟨by decide, by decide⟩ ⟨by decide, by decide⟩ dX12_open_94 (fun q2 hq2 => ?_)
              obtain rfl := hq2
              have hrs : (rm (k / C) - sumF (fun j => v (C * (k / C) + j)) j) = tRest C rm v k := by rw [hjc]; rfl
              have hbs : (sumF (fun j => tLeft C cm v (k / C) (k % C + 1 + j)) j2) = tBeh C cm v (k / C) (k % C) := by rw [hje]; rfl
              have hb1 := hbb j2 (by omega) (by omega)
              have hb2 := hlb (k / C) (k % C) hcC
              refine g_istore (L' := [(6, .int (nI (tLeft C cm v (k / C) (k % C)))), (0, .ref (ad 0)), (1, .int (nI k)), (2, .int (nI (k / C))), (3, .int (nI (k % C))), (4, .int (nI (rm (k / C) - sumF (fun j => v (C * (k / C) + j)) j))), (5, .int (nI (sumF (fun j => tLeft C cm v (k / C) (k % C + 1 + j)) j2)))]) fx dX12_open_97 (by decide) rfl ?_
              refine g_aload_n fx 1 dX12_open_99 rfl ?_
              refine g_get (r := 0) fx lkX12_49 (by omega) h0 rfl dX12_open_100 ?_
              refine g_iload_n fx 2 dX12_open_103 rfl ?_
              refine g_iload fx 5 dX12_open_104 rfl ?_
              refine g_iload fx 6 dX12_open_106 rfl ?_
              refine g_icmp_le fx 119 dX12_open_108 (by decide) (fun c108 => ?_) (fun c108 => ?_)
              · skip
                have hcc : ¬ (sumF (fun j => tLeft C cm v (k / C) (k % C + 1 + j)) j2) < (rm (k / C) - sumF (fun j => v (C * (k / C) + j)) j) := by have := (nI_leI (by omega) (by omega)).mp c108; omega
                refine g_iconst (v := nI 0) fx dX12_open_119 (by decide +kernel) ?_
                refine g_isi (y := nI (tLo C rm cm v k)) (congrArg nI (by unfold tLo; omega)) ?_
                refine g_iast (r := 12) (j := k) fx (by omega) hv (nI_toInt (by omega)) (by omega) dX12_open_120 (fun cu2 ecu2 => ?_)
                have hfr : ∀ r, r ≠ 12 → r ≠ 13 → cu2 r = ct r := fun r _ _ => (congrFun ecu2 r).trans ((va_up_ne _ _ (by assumption)).trans (hfr r (by assumption) (by assumption)))
                have h0 : cu2 0 = mObj ad f := (congrFun ecu2 _).trans ((va_up_ne _ _ (by omega)).trans h0)
                have hv : cu2 12 = .inl (B.2.1 0, 25, .inl (nF (va_up v k (tLo C rm cm v k)))) := by rw [ecu2, va_up_self, nF_up]
                have hh : cu2 13 = .inl (B.2.1 0, 25, .inl (nF h)) := (congrFun ecu2 _).trans ((va_up_ne _ _ (by omega)).trans hh)
                have hrm : cu2 14 = .inl (B.2.1 0, 5, .inl (nF rm)) := (congrFun ecu2 _).trans ((va_up_ne _ _ (by omega)).trans hrm)
                have hcm : cu2 15 = .inl (B.2.1 0, 5, .inl (nF cm)) := (congrFun ecu2 _).trans ((va_up_ne _ _ (by omega)).trans hcm)
                refine g_aload_n fx 1 dX12_open_121 rfl ?_
                refine g_get (r := 0) fx lkX12_52 (by omega) h0 rfl dX12_open_122 ?_
                refine g_iload_n fx 2 dX12_open_125 rfl ?_
                refine g_iload fx 5 dX12_open_126 rfl ?_
                refine g_iload fx 0 dX12_open_128 rfl ?_
                refine g_icmp_ge fx 138 dX12_open_130 (by decide) (fun c130 => ?_) (fun c130 => ?_)
                · skip
                  have hcd : tLeft C cm v (k / C) (k % C) ≤ (rm (k / C) - sumF (fun j => v (C * (k / C) + j)) j) := (nI_leI (by omega) (by omega)).mp c130
                  refine g_iload fx 0 dX12_open_138 rfl ?_
                  refine g_isi (y := nI (tHi C rm cm v k)) (congrArg nI (by unfold tHi; omega)) ?_
                  refine g_iast (r := 13) (j := k) fx (by omega) hh (nI_toInt (by omega)) (by omega) dX12_open_140 (fun cu3 ecu3 => ?_)
                  have hfr : ∀ r, r ≠ 12 → r ≠ 13 → cu3 r = ct r := fun r _ _ => (congrFun ecu3 r).trans ((va_up_ne _ _ (by assumption)).trans (hfr r (by assumption) (by assumption)))
                  have h0 : cu3 0 = mObj ad f := (congrFun ecu3 _).trans ((va_up_ne _ _ (by omega)).trans h0)
                  have hv : cu3 12 = .inl (B.2.1 0, 25, .inl (nF (va_up v k (tLo C rm cm v k)))) := (congrFun ecu3 _).trans ((va_up_ne _ _ (by omega)).trans hv)
                  have hh : cu3 13 = .inl (B.2.1 0, 25, .inl (nF (va_up h k (tHi C rm cm v k)))) := by rw [ecu3, va_up_self, nF_up]
                  have hrm : cu3 14 = .inl (B.2.1 0, 5, .inl (nF rm)) := (congrFun ecu3 _).trans ((va_up_ne _ _ (by omega)).trans hrm)
                  have hcm : cu3 15 = .inl (B.2.1 0, 5, .inl (nF cm)) := (congrFun ecu3 _).trans ((va_up_ne _ _ (by omega)).trans hcm)
                  refine g_vret fx rt dX12_open_141 ?_
                  exact gPv.mk ⟨hv, hh, hfr⟩
                · skip
                  have hcd : (rm (k / C) - sumF (fun j => v (C * (k / C) + j)) j) < tLeft C cm v (k / C) (k % C) := by have := (nI_ltI (by omega) (by omega)).mp (Int32.not_le.mp c130); omega
                  refine g_iload fx 5 dX12_open_133 rfl ?_
                  refine g_goto fx 140 dX12_open_135 (by decide) ?_
                  refine g_isi (y := nI (tHi C rm cm v k)) (congrArg nI (by unfold tHi; omega)) ?_
                  refine g_iast (r := 13) (j := k) fx (by omega) hh (nI_toInt (by omega)) (by omega) dX12_open_140 (fun cu4 ecu4 => ?_)
                  have hfr : ∀ r, r ≠ 12 → r ≠ 13 → cu4 r = ct r := fun r _ _ => (congrFun ecu4 r).trans ((va_up_ne _ _ (by assumption)).trans (hfr r (by assumption) (by assumption)))
                  have h0 : cu4 0 = mObj ad f := (congrFun ecu4 _).trans ((va_up_ne _ _ (by omega)).trans h0)
                  have hv : cu4 12 = .inl (B.2.1 0, 25, .inl (nF (va_up v k (tLo C rm cm v k)))) := (congrFun ecu4 _).trans ((va_up_ne _ _ (by omega)).trans hv)
                  have hh : cu4 13 = .inl (B.2.1 0, 25, .inl (nF (va_up h k (tHi C rm cm v k)))) := by rw [ecu4, va_up_self, nF_up]
                  have hrm : cu4 14 = .inl (B.2.1 0, 5, .inl (nF rm)) := (congrFun ecu4 _).trans ((va_up_ne _ _ (by omega)).trans hrm)
                  have hcm : cu4 15 = .inl (B.2.1 0, 5, .inl (nF cm)) := (congrFun ecu4 _).trans ((va_up_ne _ _ (by omega)).trans hcm)
                  refine g_vret fx rt dX12_open_141 ?_
                  exact gPv.mk ⟨hv, hh, hfr⟩
              · skip
                have hcc : (sumF (fun j => tLeft C cm v (k / C) (k % C + 1 + j)) j2) < (rm (k / C) - sumF (fun j => v (C * (k / C) + j)) j) := by have := (nI_ltI (by omega) (by omega)).mp (Int32.not_le.mp c108); omega
                refine g_iload fx 5 dX12_open_111 rfl ?_
                refine g_iload fx 6 dX12_open_113 rfl ?_
                refine g_isubN fx dX12_open_115 (by omega) ?_
                refine g_goto fx 120 dX12_open_116 (by decide) ?_
                refine g_isi (y := nI (tLo C rm cm v k)) (congrArg nI (by unfold tLo; omega)) ?_
                refine g_iast (r := 12) (j := k) fx (by omega) hv (nI_toInt (by omega)) (by omega) dX12_open_120 (fun cu5 ecu5 => ?_)
                have hfr : ∀ r, r ≠ 12 → r ≠ 13 → cu5 r = ct r := fun r _ _ => (congrFun ecu5 r).trans ((va_up_ne _ _ (by assumption)).trans (hfr r (by assumption) (by assumption)))
                have h0 : cu5 0 = mObj ad f := (congrFun ecu5 _).trans ((va_up_ne _ _ (by omega)).trans h0)
                have hv : cu5 12 = .inl (B.2.1 0, 25, .inl (nF (va_up v k (tLo C rm cm v k)))) := by rw [ecu5, va_up_self, nF_up]
                have hh : cu5 13 = .inl (B.2.1 0, 25, .inl (nF h)) := (congrFun ecu5 _).trans ((va_up_ne _ _ (by omega)).trans hh)
                have hrm : cu5 14 = .inl (B.2.1 0, 5, .inl (nF rm)) := (congrFun ecu5 _).trans ((va_up_ne _ _ (by omega)).trans hrm)
                have hcm : cu5 15 = .inl (B.2.1 0, 5, .inl (nF cm)) := (congrFun ecu5 _).trans ((va_up_ne _ _ (by omega)).trans hcm)
                refine g_aload_n fx 1 dX12_open_121 rfl ?_
                refine g_get (r := 0) fx lkX12_52 (by omega) h0 rfl dX12_open_122 ?_
                refine g_iload_n fx 2 dX12_open_125 rfl ?_
                refine g_iload fx 5 dX12_open_126 rfl ?_
                refine g_iload fx 0 dX12_open_128 rfl ?_
                refine g_icmp_ge fx 138 dX12_open_130 (by decide) (fun c130 => ?_) (fun c130 => ?_)
                · skip
                  have hcd : tLeft C cm v (k / C) (k % C) ≤ (rm (k / C) - sumF (fun j => v (C * (k / C) + j)) j) := (nI_leI (by omega) (by omega)).mp c130
                  refine g_iload fx 0 dX12_open_138 rfl ?_
                  refine g_isi (y := nI (tHi C rm cm v k)) (congrArg nI (by unfold tHi; omega)) ?_
                  refine g_iast (r := 13) (j := k) fx (by omega) hh (nI_toInt (by omega)) (by omega) dX12_open_140 (fun cu6 ecu6 => ?_)
                  have hfr : ∀ r, r ≠ 12 → r ≠ 13 → cu6 r = ct r := fun r _ _ => (congrFun ecu6 r).trans ((va_up_ne _ _ (by assumption)).trans (hfr r (by assumption) (by assumption)))
                  have h0 : cu6 0 = mObj ad f := (congrFun ecu6 _).trans ((va_up_ne _ _ (by omega)).trans h0)
                  have hv : cu6 12 = .inl (B.2.1 0, 25, .inl (nF (va_up v k (tLo C rm cm v k)))) := (congrFun ecu6 _).trans ((va_up_ne _ _ (by omega)).trans hv)
                  have hh : cu6 13 = .inl (B.2.1 0, 25, .inl (nF (va_up h k (tHi C rm cm v k)))) := by rw [ecu6, va_up_self, nF_up]
                  have hrm : cu6 14 = .inl (B.2.1 0, 5, .inl (nF rm)) := (congrFun ecu6 _).trans ((va_up_ne _ _ (by omega)).trans hrm)
                  have hcm : cu6 15 = .inl (B.2.1 0, 5, .inl (nF cm)) := (congrFun ecu6 _).trans ((va_up_ne _ _ (by omega)).trans hcm)
                  refine g_vret fx rt dX12_open_141 ?_
                  exact gPv.mk ⟨hv, hh, hfr⟩
                · skip
                  have hcd : (rm (k / C) - sumF (fun j => v (C * (k / C) + j)) j) < tLeft C cm v (k / C) (k % C) := by have := (nI_ltI (by omega) (by omega)).mp (Int32.not_le.mp c130); omega
                  refine g_iload fx 5 dX12_open_133 rfl ?_
                  refine g_goto fx 140 dX12_open_135 (by decide) ?_
                  refine g_isi (y := nI (tHi C rm cm v k)) (congrArg nI (by unfold tHi; omega)) ?_
                  refine g_iast (r := 13) (j := k) fx (by omega) hh (nI_toInt (by omega)) (by omega) dX12_open_140 (fun cu7 ecu7 => ?_)
                  have hfr : ∀ r, r ≠ 12 → r ≠ 13 → cu7 r = ct r := fun r _ _ => (congrFun ecu7 r).trans ((va_up_ne _ _ (by assumption)).trans (hfr r (by assumption) (by assumption)))
                  have h0 : cu7 0 = mObj ad f := (congrFun ecu7 _).trans ((va_up_ne _ _ (by omega)).trans h0)
                  have hv : cu7 12 = .inl (B.2.1 0, 25, .inl (nF (va_up v k (tLo C rm cm v k)))) := (congrFun ecu7 _).trans ((va_up_ne _ _ (by omega)).trans hv)
                  have hh : cu7 13 = .inl (B.2.1 0, 25, .inl (nF (va_up h k (tHi C rm cm v k)))) := by rw [ecu7, va_up_self, nF_up]
                  have hrm : cu7 14 = .inl (B.2.1 0, 5, .inl (nF rm)) := (congrFun ecu7 _).trans ((va_up_ne _ _ (by omega)).trans hrm)
                  have hcm : cu7 15 = .inl (B.2.1 0, 5, .inl (nF cm)) := (congrFun ecu7 _).trans ((va_up_ne _ _ (by omega)).trans hcm)
                  refine g_vret fx rt dX12_open_141 ?_
                  exact gPv.mk ⟨hv, hh, hfr⟩
            · skip
              have hlt3 : k % C + 1 + j2 < C := by have := (nI_ltI (by omega) (by omega)).mp (Int32.not_le.mp c70); omega
              refine g_iload fx 5 dX12_open_73 rfl ?_
              refine g_aload_n fx 0 dX12_open_75 rfl ?_
              refine g_iload_n fx 2 dX12_open_76 rfl ?_
              refine g_iload fx 6 dX12_open_77 rfl ?_
              refine g_callVip (As := [.int (nI (k / C)), .int (nI (k % C + 1 + j2))]) (rest := [.int (nI (sumF (fun j => tLeft C cm v (k / C) (k % C + 1 + j)) j2))]) fx slX12_193 (c_X12_columnLeft B ad ct n f v cm hn h0 hv hcm C hC hC5 (k / C) (k % C + 1 + j2) (by omega) (by omega) (hcol (k % C + 1 + j2) (by omega))) (by omega) h0 rfl rfl rfl (Nat.le_of_ble_eq_true rfl) ⟨by decide, by decide⟩ ⟨by decide, by decide⟩ dX12_open_79 (fun q1 hq1 => ?_)
              obtain rfl := hq1
              refine g_iaddN fx dX12_open_82 ?_
              refine g_istore (L' := [(5, .int (nI (sumF (fun j => tLeft C cm v (k / C) (k % C + 1 + j)) (j2 + 1)))), (0, .ref (ad 0)), (1, .int (nI k)), (2, .int (nI (k / C))), (3, .int (nI (k % C))), (4, .int (nI (rm (k / C) - sumF (fun j => v (C * (k / C) + j)) j))), (6, .int (nI (k % C + 1 + j2)))]) fx dX12_open_83 (by decide) rfl ?_
              refine g_iinc (L' := [(6, .int (nI (k % C + 1 + (j2 + 1)))), (5, .int (nI (sumF (fun j => tLeft C cm v (k / C) (k % C + 1 + j)) (j2 + 1)))), (0, .ref (ad 0)), (1, .int (nI k)), (2, .int (nI (k / C))), (3, .int (nI (k % C))), (4, .int (nI (rm (k / C) - sumF (fun j => v (C * (k / C) + j)) j)))]) fx (nI (k % C + 1 + (j2 + 1))) 6 dX12_open_85 rfl (gInc _) (by decide) rfl ?_
              refine g_goto fx 64 dX12_open_88 (by decide) ?_
              refine g_locals (L' := [(0, .ref (ad 0)), (1, .int (nI k)), (2, .int (nI (k / C))), (3, .int (nI (k % C))), (4, .int (nI (rm (k / C) - sumF (fun j => v (C * (k / C) + j)) j))), (5, .int (nI (sumF (fun j => tLeft C cm v (k / C) (k % C + 1 + j)) (j2 + 1)))), (6, .int (nI (k % C + 1 + (j2 + 1))))]) [2, 3, 4, 5, 6, 1, 0] rfl ?_
              exact ih (j2 + 1) (by omega) (by omega)
        refine g_locals (L' := [(0, .ref (ad 0)), (1, .int (nI k)), (2, .int (nI (k / C))), (3, .int (nI (k % C))), (4, .int (nI (rm (k / C) - sumF (fun j => v (C * (k / C) + j)) j))), (5, .int (nI 0)), (6, .int (nI ((k % C) + 1)))]) [2, 3, 4, 5, 6, 1, 0] rfl ?_
        exact LP64 (C + 1) 0 (by omega) (by omega)
      · skip
        have hlt2 : j < k % C := by have := (nI_ltI (by omega) (by omega)).mp (Int32.not_le.mp c28); omega
        have hst : sumF (fun j => v (C * (k / C) + j)) j + v (C * (k / C) + j) ≤ rm (k / C) := hrow (j + 1) hlt2
        refine g_iload fx 4 dX12_open_31 rfl ?_
        refine g_aload_n fx 0 dX12_open_33 rfl ?_
        refine g_get (r := 0) fx lkX12_49 (by omega) h0 rfl dX12_open_34 ?_
        refine g_aload_n fx 0 dX12_open_37 rfl ?_
        refine g_get (r := 0) fx lkX12_118 (by omega) h0 rfl dX12_open_38 ?_
        refine g_isi (y := nI C) hC ?_
        refine g_iload_n fx 2 dX12_open_41 rfl ?_
        refine g_imulN fx dX12_open_42 ?_
        refine g_iload fx 5 dX12_open_43 rfl ?_
        refine g_iaddN fx dX12_open_45 ?_
        refine g_iald (r := 12) (j := C * (k / C) + j) fx (by omega) hv (nI_toInt (by omega)) (by omega) dX12_open_46 ?_
        refine g_isi (y := nI (v (C * (k / C) + j))) rfl ?_
        refine g_isubN fx dX12_open_47 (by omega) ?_
        refine g_isi (y := nI (rm (k / C) - sumF (fun j => v (C * (k / C) + j)) (j + 1))) (congrArg nI (by show _ = rm (k / C) - (sumF (fun j => v (C * (k / C) + j)) j + v (C * (k / C) + j)); omega)) ?_
        refine g_istore (L' := [(4, .int (nI (rm (k / C) - sumF (fun j => v (C * (k / C) + j)) (j + 1)))), (0, .ref (ad 0)), (1, .int (nI k)), (2, .int (nI (k / C))), (3, .int (nI (k % C))), (5, .int (nI j))]) fx dX12_open_48 (by decide) rfl ?_
        refine g_iinc (L' := [(5, .int (nI (j + 1))), (4, .int (nI (rm (k / C) - sumF (fun j => v (C * (k / C) + j)) (j + 1)))), (0, .ref (ad 0)), (1, .int (nI k)), (2, .int (nI (k / C))), (3, .int (nI (k % C)))]) fx (nI (j + 1)) 5 dX12_open_50 rfl (gInc _) (by decide) rfl ?_
        refine g_goto fx 25 dX12_open_53 (by decide) ?_
        refine g_locals (L' := [(0, .ref (ad 0)), (1, .int (nI k)), (2, .int (nI (k / C))), (3, .int (nI (k % C))), (4, .int (nI (rm (k / C) - sumF (fun j => v (C * (k / C) + j)) (j + 1)))), (5, .int (nI (j + 1)))]) [2, 3, 4, 5, 1, 0] rfl ?_
        exact ih (j + 1) hlt2 (by omega)
  refine g_locals (L' := [(0, .ref (ad 0)), (1, .int (nI k)), (2, .int (nI (k / C))), (3, .int (nI (k % C))), (4, .int (nI (rm (k / C)))), (5, .int (nI 0))]) [4, 5, 3, 2, 1, 0] rfl ?_
  exact LP25 (k % C + 1) 0 (by omega) (by omega)
set_option maxHeartbeats 4000000 in
set_option maxRecDepth 100000 in
theorem c_X12_openFrom (B : gB) (ad : Nat → Nat) (ct : Nat → va_E) (n : Nat) (f : Nat → Int32) (v h rm cm : Nat → Nat) (hn : 33 ≤ n) (h0 : ct 0 = mObj ad f) (hv : ct 12 = .inl (B.2.1 0, 25, .inl (nF v))) (hh : ct 13 = .inl (B.2.1 0, 25, .inl (nF h))) (hrm : ct 14 = .inl (B.2.1 0, 5, .inl (nF rm))) (hcm : ct 15 = .inl (B.2.1 0, 5, .inl (nF cm))) (R C : Nat) (hR : f 4 = nI R) (hC : f 5 = nI C) (hR5 : R ≤ 5) (hC5 : C ≤ 5) (hCp : 0 < C) (a : Nat) (ha : a ≤ C * R) (hr60 : ∀ r, r < R → rm r ≤ 60) (hc60 : ∀ c, c < C → cm c ≤ 60) (hsum : sumF rm R = sumF cm C) (hval : Val C rm cm a v) : Ctr B yX12_openFrom cX12_openFrom 3 none 2 50 0 0 ad ct n [.ref (ad 0), .int (nI a)] (gPv ad n (fun ct' => ∃ v' h', ct' 12 = .inl (B.2.1 0, 25, .inl (nF v')) ∧ ct' 13 = .inl (B.2.1 0, 25, .inl (nF h')) ∧ ((∀ j, j < a → v' j = v j) ∧ (∀ j, j < a → h' j = h j) ∧ (∀ j, a ≤ j → j < C * R → v' j = tLo C rm cm v' j ∧ h' j = tHi C rm cm v' j) ∧ Val C rm cm (C * R) v') ∧ ∀ r, r ≠ 12 → r ≠ 13 → ct' r = ct r)) := by
  have hfr : ∀ r, r ≠ 12 → r ≠ 13 → ct r = ct r := fun _ _ _ => rfl
  have h25 : C * R ≤ 25 := Nat.mul_le_mul hC5 hR5
  have hmc : R * C = C * R := Nat.mul_comm _ _
  refine Ctr.ofG (L := [(0, .ref (ad 0)), (1, .int (nI a))]) (by decide +kernel) rfl (Nat.le_of_ble_eq_true rfl) (fun E fx rt hnm => ?_)
  refine g_iload_n fx 1 dX12_openFrom_0 rfl ?_
  refine g_istore_n (L' := [(2, .int (nI a)), (0, .ref (ad 0)), (1, .int (nI a))]) fx dX12_openFrom_1 (by decide) rfl ?_
  have LP2 : ∀ (M : Nat) (k : Nat) (ct1 : Nat → va_E) (v1 h1 : Nat → Nat), (a ≤ k) → (k ≤ C * R) → (∀ j, j < a → v1 j = v j) → (∀ j, j < a → h1 j = h j) → (∀ j, a ≤ j → j < k → v1 j = tLo C rm cm v1 j ∧ h1 j = tHi C rm cm v1 j) → (Val C rm cm k v1) → (ct1 0 = mObj ad f) → (ct1 12 = .inl (B.2.1 0, 25, .inl (nF v1))) → (ct1 13 = .inl (B.2.1 0, 25, .inl (nF h1))) → (ct1 14 = .inl (B.2.1 0, 5, .inl (nF rm))) → (ct1 15 = .inl (B.2.1 0, 5, .inl (nF cm))) → (∀ r, r ≠ 12 → r ≠ 13 → ct1 r = ct r) →  (C * R - k) < M → G B 3 E ad ct1 n 0 0 [(0, .ref (ad 0)), (2, .int (nI k))] 2 [] := by
    intro M
    induction M with
    | zero => intro k ct1 v1 h1 _ _ _ _ _ _ _ _ _ _ _ _ hM; exact absurd hM (Nat.not_lt_zero _)
    | succ M ih =>
      intro k ct1 v1 h1 hk1 hk2 hp1 hp2 hop hvl h0 hv hh hrm hcm hfr hM
      have ih2 := ih
      refine g_iload_n fx 1 dX12_openFrom_2 rfl ?_
      refine g_aload_n fx 0 dX12_openFrom_3 rfl ?_
      refine g_get (r := 0) fx lkX12_115 (by omega) h0 rfl dX12_openFrom_4 ?_
      refine g_isi (y := nI R) hR ?_
      refine g_aload_n fx 0 dX12_openFrom_7 rfl ?_
      refine g_get (r := 0) fx lkX12_118 (by omega) h0 rfl dX12_openFrom_8 ?_
      refine g_isi (y := nI C) hC ?_
      refine g_imulN fx dX12_openFrom_11 ?_
      refine g_icmp_ge fx 26 dX12_openFrom_12 (by decide) (fun c12 => ?_) (fun c12 => ?_)
      · skip
        have hke : k = C * R := by have := (nI_leI (by omega) (by omega)).mp c12; omega
        refine g_vret fx rt dX12_openFrom_26 ?_
        rw [hke] at hop hvl
        exact gPv.mk ⟨v1, h1, hv, hh, ⟨hp1, hp2, hop, hvl⟩, hfr⟩
      · skip
        have hlt2 : k < C * R := by have := (nI_ltI (by omega) (by omega)).mp (Int32.not_le.mp c12); omega
        have hvo := val_open hCp hvl
        refine g_aload_n fx 0 dX12_openFrom_15 rfl ?_
        refine g_iload_n fx 1 dX12_openFrom_16 rfl ?_
        refine g_callVv (As := [.int (nI k)]) (rest := []) fx slX12_201 (c_X12_open B ad ct1 n f v1 h1 rm cm hn h0 hv hh hrm hcm R C hR hC hR5 hC5 hCp k hlt2 hr60 hc60 hvo.1 hvo.2) (by omega) h0 rfl rfl rfl (Nat.le_of_ble_eq_true rfl) ⟨by decide, by decide⟩ ⟨by decide, by decide⟩ dX12_openFrom_17 (fun ct2 hz2 => ?_)
        obtain ⟨hv, hh, hs2⟩ := hz2
        have h0 : ct2 0 = mObj ad f := (hs2 0 (by decide) (by decide)).trans h0
        have hrm : ct2 14 = .inl (B.2.1 0, 5, .inl (nF rm)) := (hs2 14 (by decide) (by decide)).trans hrm
        have hcm : ct2 15 = .inl (B.2.1 0, 5, .inl (nF cm)) := (hs2 15 (by decide) (by decide)).trans hcm
        have hfr : ∀ r, r ≠ 12 → r ≠ 13 → ct2 r = ct r := fun r q1 q2 => (hs2 r q1 q2).trans (hfr r q1 q2)
        refine g_iinc (L' := [(2, .int (nI (k + 1))), (0, .ref (ad 0))]) fx (nI (k + 1)) 1 dX12_openFrom_20 rfl (gInc _) (by decide) rfl ?_
        refine g_goto fx 2 dX12_openFrom_23 (by decide) ?_
        refine g_locals (L' := [(0, .ref (ad 0)), (2, .int (nI (k + 1)))]) [1, 0] rfl ?_
        exact ih (k + 1) _ (va_up v1 k (tLo C rm cm v1 k)) (va_up h1 k (tHi C rm cm v1 k)) (by omega) hlt2 (fun j hj => by rw [va_up_ne _ _ (by omega)]; exact hp1 j hj) (fun j hj => by rw [va_up_ne _ _ (by omega)]; exact hp2 j hj) (fun j q1 q2 => by by_cases q : j = k; (subst q; rw [va_up_self, va_up_self]; exact ⟨tLo_congr hCp (fun i hi => (va_up_ne _ _ (by omega)).symm), tHi_congr hCp (fun i hi => (va_up_ne _ _ (by omega)).symm)⟩); (rw [va_up_ne _ _ q, va_up_ne _ _ q, tLo_congr (w := v1) hCp (fun i hi => va_up_ne _ _ (by omega)), tHi_congr (w := v1) hCp (fun i hi => va_up_ne _ _ (by omega))]; exact hop j q1 (by omega))) (val_next hCp hvl (fun i hi => va_up_ne _ _ (by omega)) (by rw [va_up_self]; exact Nat.le_refl _) (by rw [va_up_self]; exact lo_hi hCp hsum hlt2 hvl)) h0 hv hh hrm hcm hfr (by omega)
  refine g_locals (L' := [(0, .ref (ad 0)), (2, .int (nI a))]) [1, 0] rfl ?_
  exact LP2 (C * R + 1) a ct v h (Nat.le_refl _) ha (fun _ _ => rfl) (fun _ _ => rfl) (fun j h1 h2 => absurd h2 (by omega)) hval h0 hv hh hrm hcm hfr (by omega)
