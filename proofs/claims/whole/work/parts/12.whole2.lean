theorem cmp_lt {v x : Nat} (h : v < x) : cmpI v x = -1 := by simp [cmpI, h]
theorem cmp_gt {v x : Nat} (h : x < v) : cmpI v x = 1 := by unfold cmpI; rw [if_neg (by omega), if_neg (by omega)]
theorem cmp_eq {v x : Nat} (h : v = x) : cmpI v x = 0 := by subst h; simp [cmpI]
theorem m1_toInt {k : Nat} (h : k < 2 ^ 31) : (nI k - nI 1).toInt = (k : Int) - 1 := by
  rw [Int32.toInt_sub, nI_toInt h, nI_toInt (by decide), Int.bmod_def]
  have e : (2 : Nat) ^ 32 = 4294967296 := rfl
  split <;> omega
theorem m1_ix {k : Nat} (h0 : 0 < k) (h : k < 2 ^ 31) : (nI k - nI 1).toInt = ((k - 1 : Nat) : Int) := by rw [m1_toInt h]; omega
theorem m1_neg {k : Nat} (h : k < 2 ^ 31) : nI k - nI 1 < 0 ↔ k = 0 := by
  rw [Int32.lt_iff_toInt_lt, m1_toInt h]
  have : (0 : Int32).toInt = 0 := by decide
  omega
theorem m1_dec {k : Nat} (h0 : 0 < k) : nI k - nI 1 + Int32.ofInt (-1) = nI (k - 1) - nI 1 := by
  obtain ⟨j, rfl⟩ : ∃ j, k = j + 1 := ⟨k - 1, by omega⟩
  have e : nI (j + 1) - nI 1 = nI j := nI_pred j
  rw [e, Nat.add_sub_cancel, Int32.sub_eq_add_neg]
  congr 1
theorem badd_step {b : Nat} {g g1 gu : Nat → Nat} {i c : Nat} (hk : g1 i = g i) (he : bval b g1 i + c * b ^ i = bval b g i + bval b gu i) : bval b (va_up g1 i ((g1 i + gu i + c) % b)) (i + 1) + (g1 i + gu i + c) / b * b ^ (i + 1) = bval b g (i + 1) + bval b gu (i + 1) := by
  show bval b (va_up g1 i ((g1 i + gu i + c) % b)) i + va_up g1 i ((g1 i + gu i + c) % b) i * b ^ i + (g1 i + gu i + c) / b * b ^ (i + 1) = bval b g i + g i * b ^ i + (bval b gu i + gu i * b ^ i)
  rw [bval_up_ge (Nat.le_refl i), va_up_self, Nat.pow_succ]
  have h1 := Nat.div_add_mod (g1 i + gu i + c) b
  generalize hq : (g1 i + gu i + c) / b = q at h1 ⊢
  generalize hr : (g1 i + gu i + c) % b = r at h1 ⊢
  generalize b ^ i = p at he ⊢
  have h2 : (b * q + r) * p = (g1 i + gu i + c) * p := by rw [h1]
  rw [hk] at h2
  grind
theorem bsub_step {b : Nat} {g g1 gu : Nat → Nat} {i c : Nat} (hb : 0 < b) (hg : g1 i < b) (hgu : gu i < b) (hc : c ≤ 1) (hk : g1 i = g i) (he : bval b g1 i + bval b gu i = bval b g i + c * b ^ i) : bval b (va_up g1 i ((g1 i + b - gu i - c) % b)) (i + 1) + bval b gu (i + 1) = bval b g (i + 1) + (if gu i + c ≤ g1 i then 0 else 1) * b ^ (i + 1) := by
  show bval b (va_up g1 i ((g1 i + b - gu i - c) % b)) i + va_up g1 i ((g1 i + b - gu i - c) % b) i * b ^ i + (bval b gu i + gu i * b ^ i) = bval b g i + g i * b ^ i + _
  rw [bval_up_ge (Nat.le_refl i), va_up_self, Nat.pow_succ]
  by_cases h : gu i + c ≤ g1 i
  · rw [if_pos h, show (g1 i + b - gu i - c) % b = g1 i - gu i - c by rw [show g1 i + b - gu i - c = (g1 i - gu i - c) + b by omega, Nat.add_mod_right, Nat.mod_eq_of_lt (by omega)]]
    obtain ⟨z, hz⟩ : ∃ z, g1 i = gu i + c + z := ⟨g1 i - gu i - c, by omega⟩
    rw [show g1 i - gu i - c = z by omega, ← hk, hz]
    generalize b ^ i = p at he ⊢
    grind
  · rw [if_neg h, Nat.mod_eq_of_lt (by omega)]
    obtain ⟨z, hz⟩ : ∃ z, g1 i + b = gu i + c + z := ⟨g1 i + b - gu i - c, by omega⟩
    rw [show g1 i + b - gu i - c = z by omega, ← hk]
    generalize b ^ i = p at he ⊢
    have h2 : (g1 i + b) * p = (gu i + c + z) * p := by rw [hz]
    grind
set_option maxHeartbeats 4000000 in
set_option maxRecDepth 100000 in
theorem c_X10_copy (B : gB) (ad : Nat → Nat) (ct : Nat → va_E) (n : Nat) (w u sz x : Nat) (g : Nat → Nat) (hn : w + 1 < n) (hnu : u + 1 < n) (h1 : u ≠ w) (h2 : u ≠ w + 1) (h3 : w ≠ u + 1) (h : rW B ad ct w sz g) (hU : isW B ad ct u x) : Ctr B yX10_copy cX10_copy 3 none 1 21 0 0 ad ct n [.ref (ad w), .ref (ad u)] (gPv ad n (fun ct' => isW B ad ct' w x ∧ sameB ct ct' w)) := by
  obtain ⟨hw, hl, hsz, hlt, hz⟩ := id h
  obtain ⟨su, gu, ⟨hu, hm, hsu, hltu, hzu⟩, hnou, hx⟩ := hU
  have hfr : ∀ r, r ≠ w → r ≠ w + 1 → ct r = ct r := fun _ _ _ => rfl
  refine Ctr.ofG (L := [(0, .ref (ad w)), (1, .ref (ad u))]) (by decide +kernel) rfl (Nat.le_of_ble_eq_true rfl) (fun E fx rt hnm => ?_)
  refine g_aload_n fx 0 dX10_copy_0 rfl ?_
  refine g_callVv (As := []) (rest := []) fx slX10_15 (c_X10_empty B ad ct n w sz g hn h) (by omega) hw rfl rfl rfl (Nat.le_of_ble_eq_true rfl) ⟨by decide, by decide⟩ ⟨by decide, by decide⟩ dX10_copy_1 (fun ct1 he => ?_)
  obtain ⟨⟨hw, hl, -, -, -⟩, hfr⟩ := he
  have hu : ct1 u = .inr (10, [.ref (ad (u + 1)), .int (nI su)]) := (hfr u h1 h2).trans hu
  have hm : ct1 (u + 1) = .inl (B.2.1 1, 12, .inr (.inl (lF gu))) := (hfr (u + 1) (by omega) (by omega)).trans hm
  refine g_aload_n fx 0 dX10_copy_4 rfl ?_
  refine g_aload_n fx 1 dX10_copy_5 rfl ?_
  refine g_get (r := u) fx lkX10_24 (by omega) hu rfl dX10_copy_6 ?_
  refine g_put (r := w) (fs' := [.ref (ad (w + 1)), .int (nI su)]) fx lpX10_24 (by omega) hw rfl rfl (Nat.le_of_ble_eq_true rfl) rfl dX10_copy_9 (fun ct2 ect2 => ?_)
  have hfr : ∀ r, r ≠ w → r ≠ w + 1 → ct2 r = ct r := fun r _ _ => (congrFun ect2 r).trans ((va_up_ne _ _ (by assumption)).trans (hfr r (by assumption) (by assumption)))
  have hw : ct2 w = .inr (10, [.ref (ad (w + 1)), .int (nI su)]) := by rw [ect2, va_up_self]
  have hl : ct2 (w + 1) = .inl (B.2.1 1, 12, .inr (.inl (lF (fun _ => 0)))) := (congrFun ect2 _).trans ((va_up_ne _ _ (by omega)).trans hl)
  have hu : ct2 u = .inr (10, [.ref (ad (u + 1)), .int (nI su)]) := (congrFun ect2 _).trans ((va_up_ne _ _ (by omega)).trans hu)
  have hm : ct2 (u + 1) = .inl (B.2.1 1, 12, .inr (.inl (lF gu))) := (congrFun ect2 _).trans ((va_up_ne _ _ (by omega)).trans hm)
  refine g_iconst (v := nI 0) fx dX10_copy_12 (by decide +kernel) ?_
  refine g_istore_n (L' := [(2, .int (nI 0)), (0, .ref (ad w)), (1, .ref (ad u))]) fx dX10_copy_13 (by decide) rfl ?_
  have LP14 : ∀ (M : Nat) (i : Nat) (ct3 : Nat → va_E) (g1 : Nat → Nat), (i ≤ su) → (∀ j, g1 j = if j < i then gu j else 0) → (ct3 w = .inr (10, [.ref (ad (w + 1)), .int (nI su)])) → (ct3 (w + 1) = .inl (B.2.1 1, 12, .inr (.inl (lF g1)))) → (∀ r, r ≠ w → r ≠ w + 1 → ct3 r = ct r) → (ct3 u = .inr (10, [.ref (ad (u + 1)), .int (nI su)])) → (ct3 (u + 1) = .inl (B.2.1 1, 12, .inr (.inl (lF gu)))) →  (su - i) < M → G B 3 E ad ct3 n 0 0 [(0, .ref (ad w)), (1, .ref (ad u)), (2, .int (nI i))] 14 [] := by
    intro M
    induction M with
    | zero => intro i ct3 g1 _ _ _ _ _ _ _ hM; exact absurd hM (Nat.not_lt_zero _)
    | succ M ih =>
      intro i ct3 g1 hi hg hw hl hfr hu hm hM
      refine g_iload_n fx 2 dX10_copy_14 rfl ?_
      refine g_aload_n fx 0 dX10_copy_15 rfl ?_
      refine g_get (r := w) fx lkX10_24 (by omega) hw rfl dX10_copy_16 ?_
      refine g_icmp_ge fx 40 dX10_copy_19 (by decide) (fun c19 => ?_) (fun c19 => ?_)
      · skip
        have hle := (nI_leI (by omega) (by omega)).mp c19
        refine g_vret fx rt dX10_copy_40 ?_
        have e0 : g1 = gu := by funext j; rw [hg j]; split; rfl; exact (hzu j (by omega)).symm
        rw [e0] at hl
        exact gPv.mk ⟨⟨su, gu, ⟨hw, hl, hsu, hltu, hzu⟩, hnou, hx⟩, hfr⟩
      · skip
        have hlt2 : i < su := by have := (nI_ltI (by omega) (by omega)).mp (Int32.not_le.mp c19); omega
        refine g_aload_n fx 0 dX10_copy_22 rfl ?_
        refine g_get (r := w) fx lkX10_11 (by omega) hw rfl dX10_copy_23 ?_
        refine g_iload_n fx 2 dX10_copy_26 rfl ?_
        refine g_aload_n fx 1 dX10_copy_27 rfl ?_
        refine g_get (r := u) fx lkX10_11 (by omega) hu rfl dX10_copy_28 ?_
        refine g_iload_n fx 2 dX10_copy_31 rfl ?_
        refine g_lald (r := u + 1) (j := i) fx (by omega) hm (nI_toInt (by omega)) (by omega) dX10_copy_32 ?_
        refine g_isl (y := lN (gu i)) rfl ?_
        refine g_last (r := w + 1) (j := i) fx (by omega) hl (nI_toInt (by omega)) (by omega) dX10_copy_33 (fun cu1 ecu1 => ?_)
        have hfr : ∀ r, r ≠ w → r ≠ w + 1 → cu1 r = ct r := fun r _ _ => (congrFun ecu1 r).trans ((va_up_ne _ _ (by assumption)).trans (hfr r (by assumption) (by assumption)))
        have hw : cu1 w = .inr (10, [.ref (ad (w + 1)), .int (nI su)]) := (congrFun ecu1 _).trans ((va_up_ne _ _ (by omega)).trans hw)
        have hl : cu1 (w + 1) = .inl (B.2.1 1, 12, .inr (.inl (lF (va_up g1 i (gu i))))) := by rw [ecu1, va_up_self, lF_up]
        have hu : cu1 u = .inr (10, [.ref (ad (u + 1)), .int (nI su)]) := (congrFun ecu1 _).trans ((va_up_ne _ _ (by omega)).trans hu)
        have hm : cu1 (u + 1) = .inl (B.2.1 1, 12, .inr (.inl (lF gu))) := (congrFun ecu1 _).trans ((va_up_ne _ _ (by omega)).trans hm)
        refine g_iinc (L' := [(2, .int (nI (i + 1))), (0, .ref (ad w)), (1, .ref (ad u))]) fx (nI (i + 1)) 2 dX10_copy_34 rfl (gInc _) (by decide) rfl ?_
        refine g_goto fx 14 dX10_copy_37 (by decide) ?_
        refine g_locals (L' := [(0, .ref (ad w)), (1, .ref (ad u)), (2, .int (nI (i + 1)))]) [1, 2, 0] rfl ?_
        exact ih (i + 1) _ _ hlt2 (by intro j; have := hg j; unfold va_up; split <;> split <;> simp_all <;> omega) hw hl hfr hu hm (by omega)
  refine g_locals (L' := [(0, .ref (ad w)), (1, .ref (ad u)), (2, .int (nI 0))]) [1, 2, 0] rfl ?_
  exact LP14 (su + 1) 0 ct2 (fun _ => 0) (by omega) (by simp) hw hl hfr hu hm (by omega)
set_option maxHeartbeats 4000000 in
set_option maxRecDepth 100000 in
theorem c_X10_compare (B : gB) (ad : Nat → Nat) (ct : Nat → va_E) (n : Nat) (w u v x : Nat) (hn : w + 1 < n) (hnu : u + 1 < n) (h1 : u ≠ w) (h2 : u ≠ w + 1) (h3 : w ≠ u + 1) (hW : isW B ad ct w v) (hU : isW B ad ct u x) : Ctr B yX10_compare cX10_compare 3 (some .int) 0 0 0 0 ad ct n [.ref (ad w), .ref (ad u)] (gPip ad ct n (fun r => r = cmpI v x)) := by
  obtain ⟨sz, g, ⟨hw, hl, hsz, hlt, hz⟩, hno, hv⟩ := hW
  obtain ⟨su, gu, ⟨hu, hm, hsu, hltu, hzu⟩, hnou, hx⟩ := hU
  have hfr : ∀ r, r ≠ w → r ≠ w + 1 → ct r = ct r := fun _ _ _ => rfl
  have hvs : bval 4294967296 g 12 = bval 4294967296 g sz := bval_ext hsz hz
  have hxs : bval 4294967296 gu 12 = bval 4294967296 gu su := bval_ext hsu hzu
  have hvlt : v < 4294967296 ^ sz := by rw [← hv, hvs]; exact bval_lt sz (fun i _ => hlt i)
  have hxlt : x < 4294967296 ^ su := by rw [← hx, hxs]; exact bval_lt su (fun i _ => hltu i)
  refine Ctr.ofG (L := [(0, .ref (ad w)), (1, .ref (ad u))]) (by decide +kernel) rfl (Nat.le_of_ble_eq_true rfl) (fun E fx rt hnm => ?_)
  refine g_aload_n fx 0 dX10_compare_0 rfl ?_
  refine g_get (r := w) fx lkX10_24 (by omega) hw rfl dX10_compare_1 ?_
  refine g_aload_n fx 1 dX10_compare_4 rfl ?_
  refine g_get (r := u) fx lkX10_24 (by omega) hu rfl dX10_compare_5 ?_
  refine g_icmp_eq fx 28 dX10_compare_8 (by decide) (fun c8 => ?_) (fun c8 => ?_)
  · skip
    have hss : sz = su := (nI_eq (by omega) (by omega)).mp c8
    refine g_aload_n fx 0 dX10_compare_28 rfl ?_
    refine g_get (r := w) fx lkX10_24 (by omega) hw rfl dX10_compare_29 ?_
    refine g_iconst (v := nI 1) fx dX10_compare_32 (by decide +kernel) ?_
    refine g_isub fx dX10_compare_33 ?_
    refine g_istore_n (L' := [(2, .int ((nI sz) - (nI 1))), (0, .ref (ad w)), (1, .ref (ad u))]) fx dX10_compare_34 (by decide) rfl ?_
    have LP35 : ∀ (M : Nat) (k : Nat), (k ≤ sz) → (∀ j, k ≤ j → g j = gu j) →  k < M → G B 3 E ad ct n 0 0 [(0, .ref (ad w)), (1, .ref (ad u)), (2, .int (nI k - nI 1))] 35 [] := by
      intro M
      induction M with
      | zero => intro k _ _ hM; exact absurd hM (Nat.not_lt_zero _)
      | succ M ih =>
        intro k hk hj hM
        refine g_iload_n fx 2 dX10_compare_35 rfl ?_
        refine g_if_lt fx 83 dX10_compare_36 (by decide) (fun c36 => ?_) (fun c36 => ?_)
        · skip
          have hk0 := (m1_neg (by omega)).mp c36
          refine g_iconst (v := nI 0) fx dX10_compare_83 (by decide +kernel) ?_
          refine g_iret fx rt dX10_compare_84 ?_
          refine gPip.mk ?_
          exact (cmp_eq (by rw [← hv, ← hx]; exact bval_congr 12 (fun i _ => hj i (by omega)))).symm
        · skip
          have hk0 : 0 < k := Nat.pos_of_ne_zero (fun q => c36 ((m1_neg (by omega)).mpr q))
          refine g_aload_n fx 0 dX10_compare_39 rfl ?_
          refine g_get (r := w) fx lkX10_11 (by omega) hw rfl dX10_compare_40 ?_
          refine g_iload_n fx 2 dX10_compare_43 rfl ?_
          refine g_lald (r := w + 1) (j := k - 1) fx (by omega) hl (m1_ix hk0 (by omega)) (by omega) dX10_compare_44 ?_
          refine g_isl (y := lN (g (k - 1))) rfl ?_
          refine g_aload_n fx 1 dX10_compare_45 rfl ?_
          refine g_get (r := u) fx lkX10_11 (by omega) hu rfl dX10_compare_46 ?_
          refine g_iload_n fx 2 dX10_compare_49 rfl ?_
          refine g_lald (r := u + 1) (j := k - 1) fx (by omega) hm (m1_ix hk0 (by omega)) (by omega) dX10_compare_50 ?_
          refine g_isl (y := lN (gu (k - 1))) rfl ?_
          refine g_lcmp fx dX10_compare_51 ?_
          have hb1 := hlt (k - 1)
          have hb2 := hltu (k - 1)
          refine g_if_eq fx 77 dX10_compare_52 (by decide) (fun c52 => ?_) (fun c52 => ?_)
          · skip
            have hgk : g (k - 1) = gu (k - 1) := (l_eq (by omega) (by omega)).mp c52
            refine g_iinc (L' := [(2, .int (nI (k - 1) - nI 1)), (0, .ref (ad w)), (1, .ref (ad u))]) fx (nI (k - 1) - nI 1) 2 dX10_compare_77 rfl (m1_dec hk0) (by decide) rfl ?_
            refine g_goto fx 35 dX10_compare_80 (by decide) ?_
            refine g_locals (L' := [(0, .ref (ad w)), (1, .ref (ad u)), (2, .int (nI (k - 1) - nI 1))]) [1, 2, 0] rfl ?_
            exact ih (k - 1) (by omega) (fun j hj2 => by by_cases q : j = k - 1; rw [q]; exact hgk; exact hj j (by omega)) (by omega)
          · skip
            have hgk : g (k - 1) ≠ gu (k - 1) := fun q => c52 ((l_eq (by omega) (by omega)).mpr q)
            refine g_aload_n fx 0 dX10_compare_55 rfl ?_
            refine g_get (r := w) fx lkX10_11 (by omega) hw rfl dX10_compare_56 ?_
            refine g_iload_n fx 2 dX10_compare_59 rfl ?_
            refine g_lald (r := w + 1) (j := k - 1) fx (by omega) hl (m1_ix hk0 (by omega)) (by omega) dX10_compare_60 ?_
            refine g_isl (y := lN (g (k - 1))) rfl ?_
            refine g_aload_n fx 1 dX10_compare_61 rfl ?_
            refine g_get (r := u) fx lkX10_11 (by omega) hu rfl dX10_compare_62 ?_
            refine g_iload_n fx 2 dX10_compare_65 rfl ?_
            refine g_lald (r := u + 1) (j := k - 1) fx (by omega) hm (m1_ix hk0 (by omega)) (by omega) dX10_compare_66 ?_
            refine g_isl (y := lN (gu (k - 1))) rfl ?_
            refine g_lcmp fx dX10_compare_67 ?_
            refine g_if_ge fx 75 dX10_compare_68 (by decide) (fun c68 => ?_) (fun c68 => ?_)
            · skip
              have hc : x < v := by rw [← hx, ← hv]; exact bval_less (k := k - 1) (by omega) (fun i _ => hltu i) (fun i h1 _ => (hj i (by omega)).symm) (by have := (l_ge (by omega) (by omega)).mp c68; omega)
              refine g_iconst (v := nI 1) fx dX10_compare_75 (by decide +kernel) ?_
              refine g_iret fx rt dX10_compare_76 ?_
              refine gPip.mk ?_
              first | exact (cmp_lt hc).symm | exact (cmp_gt hc).symm
            · skip
              have hc : v < x := by rw [← hx, ← hv]; exact bval_less (k := k - 1) (by omega) (fun i _ => hlt i) (fun i h1 _ => hj i (by omega)) (by have : ¬ gu (k - 1) ≤ g (k - 1) := fun q => c68 ((l_ge (by omega) (by omega)).mpr q); omega)
              refine g_iconst (v := (-1)) fx dX10_compare_71 (by decide +kernel) ?_
              refine g_goto fx 76 dX10_compare_72 (by decide) ?_
              refine g_iret fx rt dX10_compare_76 ?_
              refine gPip.mk ?_
              first | exact (cmp_lt hc).symm | exact (cmp_gt hc).symm
    refine g_locals (L' := [(0, .ref (ad w)), (1, .ref (ad u)), (2, .int ((nI sz) - (nI 1)))]) [1, 2, 0] rfl ?_
    exact LP35 (sz + 1) sz (by omega) (fun j hj => by rw [hz j hj, hzu j (by omega)]) (by omega)
  · skip
    have hss : sz ≠ su := fun z => c8 ((nI_eq (by omega) (by omega)).mpr z)
    refine g_aload_n fx 0 dX10_compare_11 rfl ?_
    refine g_get (r := w) fx lkX10_24 (by omega) hw rfl dX10_compare_12 ?_
    refine g_aload_n fx 1 dX10_compare_15 rfl ?_
    refine g_get (r := u) fx lkX10_24 (by omega) hu rfl dX10_compare_16 ?_
    refine g_icmp_ge fx 26 dX10_compare_19 (by decide) (fun c19 => ?_) (fun c19 => ?_)
    · skip
      have hc : x < v := size_lt (by decide) hxlt hno (by have := (nI_leI (by omega) (by omega)).mp c19; omega)
      refine g_iconst (v := nI 1) fx dX10_compare_26 (by decide +kernel) ?_
      refine g_iret fx rt dX10_compare_27 ?_
      refine gPip.mk ?_
      first | exact (cmp_lt hc).symm | exact (cmp_gt hc).symm
    · skip
      have hc : v < x := size_lt (by decide) hvlt hnou (by have := (nI_ltI (by omega) (by omega)).mp (Int32.not_le.mp c19); omega)
      refine g_iconst (v := (-1)) fx dX10_compare_22 (by decide +kernel) ?_
      refine g_goto fx 27 dX10_compare_23 (by decide) ?_
      refine g_iret fx rt dX10_compare_27 ?_
      refine gPip.mk ?_
      first | exact (cmp_lt hc).symm | exact (cmp_gt hc).symm
set_option maxHeartbeats 4000000 in
set_option maxRecDepth 100000 in
theorem c_X10_add (B : gB) (ad : Nat → Nat) (ct : Nat → va_E) (n : Nat) (w u v x : Nat) (hn : w + 1 < n) (hnu : u + 1 < n) (h1 : u ≠ w) (h2 : u ≠ w + 1) (h3 : w ≠ u + 1) (hW : isW B ad ct w v) (hU : isW B ad ct u x) (hs : v + x < 4294967296 ^ 12) : Ctr B yX10_add cX10_add 8 none 1 21 0 0 ad ct n [.ref (ad w), .ref (ad u)] (gPv ad n (fun ct' => isW B ad ct' w (v + x) ∧ sameB ct ct' w)) := by
  obtain ⟨sz, g, ⟨hw, hl, hsz, hlt, hz⟩, hno, hv⟩ := hW
  obtain ⟨su, gu, ⟨hu, hm, hsu, hltu, hzu⟩, hnou, hx⟩ := hU
  have hfr : ∀ r, r ≠ w → r ≠ w + 1 → ct r = ct r := fun _ _ _ => rfl
  have hvs : bval 4294967296 g 12 = bval 4294967296 g sz := bval_ext hsz hz
  have hxs : bval 4294967296 gu 12 = bval 4294967296 gu su := bval_ext hsu hzu
  have hvlt : v < 4294967296 ^ sz := by rw [← hv, hvs]; exact bval_lt sz (fun i _ => hlt i)
  have hxlt : x < 4294967296 ^ su := by rw [← hx, hxs]; exact bval_lt su (fun i _ => hltu i)
  refine Ctr.ofG (L := [(0, .ref (ad w)), (1, .ref (ad u))]) (by decide +kernel) rfl (Nat.le_of_ble_eq_true rfl) (fun E fx rt hnm => ?_)
  refine g_aload_n fx 0 dX10_add_0 rfl ?_
  refine g_get (r := w) fx lkX10_24 (by omega) hw rfl dX10_add_1 ?_
  refine g_aload_n fx 1 dX10_add_4 rfl ?_
  refine g_get (r := u) fx lkX10_24 (by omega) hu rfl dX10_add_5 ?_
  refine g_callSip (As := [.int (nI sz), .int (nI su)]) (rest := []) fx slX10_28 (c_J9_max_7cf53 B ad ct n (nI sz) (nI su)) rfl rfl (Nat.le_of_ble_eq_true rfl) ⟨by decide, by decide⟩ ⟨by decide, by decide⟩ dX10_add_8 (fun q hq => ?_)
  obtain ⟨m, hmm, rfl⟩ : ∃ m, m = max sz su ∧ q = nI m := ⟨max sz su, rfl, hq.trans (gMax (by omega) (by omega))⟩
  refine g_istore_n (L' := [(2, .int (nI m)), (0, .ref (ad w)), (1, .ref (ad u))]) fx dX10_add_11 (by decide) rfl ?_
  refine g_lconst (v := lN 0) fx dX10_add_12 (by decide +kernel) ?_
  refine g_lstore_n (L' := [(3, .long (lN 0)), (2, .int (nI m)), (0, .ref (ad w)), (1, .ref (ad u))]) fx dX10_add_13 (by decide) rfl ?_
  refine g_iconst (v := nI 0) fx dX10_add_14 (by decide +kernel) ?_
  refine g_istore (L' := [(5, .int (nI 0)), (3, .long (lN 0)), (2, .int (nI m)), (0, .ref (ad w)), (1, .ref (ad u))]) fx dX10_add_15 (by decide) rfl ?_
  have LP17 : ∀ (M : Nat) (i c : Nat) (ct1 : Nat → va_E) (g1 : Nat → Nat), (i ≤ m) → (c ≤ 1) → (∀ j, g1 j < 4294967296) → (∀ j, i ≤ j → g1 j = g j) → (bval 4294967296 g1 i + c * 4294967296 ^ i = bval 4294967296 g i + bval 4294967296 gu i) → (ct1 w = .inr (10, [.ref (ad (w + 1)), .int (nI sz)])) → (ct1 (w + 1) = .inl (B.2.1 1, 12, .inr (.inl (lF g1)))) → (∀ r, r ≠ w → r ≠ w + 1 → ct1 r = ct r) → (ct1 u = .inr (10, [.ref (ad (u + 1)), .int (nI su)])) → (ct1 (u + 1) = .inl (B.2.1 1, 12, .inr (.inl (lF gu)))) →  (m - i) < M → G B 8 E ad ct1 n 0 0 [(0, .ref (ad w)), (1, .ref (ad u)), (2, .int (nI m)), (3, .long (lN c)), (5, .int (nI i))] 17 [] := by
    intro M
    induction M with
    | zero => intro i c ct1 g1 _ _ _ _ _ _ _ _ _ _ hM; exact absurd hM (Nat.not_lt_zero _)
    | succ M ih =>
      intro i c ct1 g1 hi hc hb1 hk he hw hl hfr hu hm hM
      refine g_iload fx 4 dX10_add_17 rfl ?_
      refine g_iload_n fx 2 dX10_add_19 rfl ?_
      refine g_icmp_ge fx 67 dX10_add_20 (by decide) (fun c20 => ?_) (fun c20 => ?_)
      · skip
        have him : i = m := by have := (nI_leI (by omega) (by omega)).mp c20; omega
        rw [him] at he hk
        have hgm : bval 4294967296 g m = v := by rw [← hv, bval_ext (m := m) (n := 12) (by omega) (fun j hj => hz j (by omega))]
        have hum : bval 4294967296 gu m = x := by rw [← hx, bval_ext (m := m) (n := 12) (by omega) (fun j hj => hzu j (by omega))]
        rw [hgm, hum] at he
        have hz1 : ∀ j, m ≤ j → g1 j = 0 := fun j hj => by rw [hk j hj]; exact hz j (by omega)
        refine g_lload_n fx 3 dX10_add_67 rfl ?_
        refine g_lconst (v := lN 0) fx dX10_add_68 (by decide +kernel) ?_
        refine g_lcmp fx dX10_add_69 ?_
        refine g_if_eq fx 89 dX10_add_70 (by decide) (fun c70 => ?_) (fun c70 => ?_)
        · skip
          have hc0 : c = 0 := (l_eq0 (by omega)).mp c70
          have hA : m ≤ 12 ∧ (∀ j, g1 j < 4294967296) ∧ (∀ j, m ≤ j → g1 j = 0) ∧ (m = 0 ∨ 4294967296 ^ (m - 1) ≤ v + x) ∧ bval 4294967296 g1 12 = v + x := ⟨by omega, hb1, hz1, by
            by_cases q : m = sz
            · rcases hno with hno | hno
              · exact Or.inl (by omega)
              · exact Or.inr (by rw [q]; omega)
            · rcases hnou with hno | hno
              · exact Or.inl (by omega)
              · exact Or.inr (by rw [show m = su by omega]; omega), by
            rw [bval_ext (m := m) (by omega) hz1, ← he, hc0]; simp⟩
          refine g_aload_n fx 0 dX10_add_89 rfl ?_
          refine g_iload_n fx 2 dX10_add_90 rfl ?_
          refine g_put (r := w) (fs' := [.ref (ad (w + 1)), .int (nI m)]) fx lpX10_24 (by omega) hw rfl rfl (Nat.le_of_ble_eq_true rfl) rfl dX10_add_91 (fun cu2 ecu2 => ?_)
          have hfr : ∀ r, r ≠ w → r ≠ w + 1 → cu2 r = ct r := fun r _ _ => (congrFun ecu2 r).trans ((va_up_ne _ _ (by assumption)).trans (hfr r (by assumption) (by assumption)))
          have hw : cu2 w = .inr (10, [.ref (ad (w + 1)), .int (nI m)]) := by rw [ecu2, va_up_self]
          have hl : cu2 (w + 1) = .inl (B.2.1 1, 12, .inr (.inl (lF g1))) := (congrFun ecu2 _).trans ((va_up_ne _ _ (by omega)).trans hl)
          have hu : cu2 u = .inr (10, [.ref (ad (u + 1)), .int (nI su)]) := (congrFun ecu2 _).trans ((va_up_ne _ _ (by omega)).trans hu)
          have hm : cu2 (u + 1) = .inl (B.2.1 1, 12, .inr (.inl (lF gu))) := (congrFun ecu2 _).trans ((va_up_ne _ _ (by omega)).trans hm)
          refine g_vret fx rt dX10_add_94 ?_
          exact gPv.mk ⟨⟨_, _, ⟨hw, hl, hA.1, hA.2.1, hA.2.2.1⟩, hA.2.2.2.1, hA.2.2.2.2⟩, hfr⟩
        · skip
          have hc0 : c = 1 := by have : ¬ c = 0 := fun q => c70 ((l_eq0 (by omega)).mpr q); omega
          rw [hc0, Nat.one_mul] at he
          have hi12 : m < 12 := by
            rcases Nat.lt_or_ge m 12 with q | q
            · exact q
            · have := Nat.pow_le_pow_right (n := 4294967296) (by decide) q; omega
          have hA : m + 1 ≤ 12 ∧ (∀ j, va_up g1 m c j < 4294967296) ∧ (∀ j, m + 1 ≤ j → va_up g1 m c j = 0) ∧ (m + 1 = 0 ∨ 4294967296 ^ (m + 1 - 1) ≤ v + x) ∧ bval 4294967296 (va_up g1 m c) 12 = v + x := by
            have hz2 : ∀ j, m + 1 ≤ j → va_up g1 m c j = 0 := fun j hj => by rw [va_up_ne _ _ (by omega)]; exact hz1 j (by omega)
            refine ⟨by omega, fun j => by unfold va_up; split; omega; exact hb1 j, hz2, Or.inr (by rw [Nat.add_sub_cancel]; omega), ?_⟩
            rw [bval_ext (m := m + 1) (by omega) hz2]
            show bval 4294967296 (va_up g1 m c) m + va_up g1 m c m * 4294967296 ^ m = v + x
            rw [bval_up_ge (Nat.le_refl m), va_up_self, hc0, Nat.one_mul]; exact he
          refine g_iload_n fx 2 dX10_add_73 rfl ?_
          refine g_bipush (v := nI 12) fx dX10_add_74 (by decide +kernel) ?_
          refine g_icmp_ge fx 89 dX10_add_76 (by decide) (fun c76 => ?_) (fun c76 => ?_)
          · exact absurd ((nI_leI (by omega) (by omega)).mp c76) (by omega)
          refine g_aload_n fx 0 dX10_add_79 rfl ?_
          refine g_get (r := w) fx lkX10_11 (by omega) hw rfl dX10_add_80 ?_
          refine g_iload_n fx 2 dX10_add_83 rfl ?_
          refine g_lload_n fx 3 dX10_add_84 rfl ?_
          refine g_last (r := w + 1) (j := m) fx (by omega) hl (nI_toInt (by omega)) (by omega) dX10_add_85 (fun cu3 ecu3 => ?_)
          have hfr : ∀ r, r ≠ w → r ≠ w + 1 → cu3 r = ct r := fun r _ _ => (congrFun ecu3 r).trans ((va_up_ne _ _ (by assumption)).trans (hfr r (by assumption) (by assumption)))
          have hw : cu3 w = .inr (10, [.ref (ad (w + 1)), .int (nI sz)]) := (congrFun ecu3 _).trans ((va_up_ne _ _ (by omega)).trans hw)
          have hl : cu3 (w + 1) = .inl (B.2.1 1, 12, .inr (.inl (lF (va_up g1 m c)))) := by rw [ecu3, va_up_self, lF_up]
          have hu : cu3 u = .inr (10, [.ref (ad (u + 1)), .int (nI su)]) := (congrFun ecu3 _).trans ((va_up_ne _ _ (by omega)).trans hu)
          have hm : cu3 (u + 1) = .inl (B.2.1 1, 12, .inr (.inl (lF gu))) := (congrFun ecu3 _).trans ((va_up_ne _ _ (by omega)).trans hm)
          refine g_iinc (L' := [(2, .int (nI (m + 1))), (0, .ref (ad w)), (1, .ref (ad u)), (3, .long (lN c)), (5, .int (nI i))]) fx (nI (m + 1)) 2 dX10_add_86 rfl (gInc _) (by decide) rfl ?_
          refine g_aload_n fx 1 dX10_add_89 rfl ?_
          refine g_iload_n fx 0 dX10_add_90 rfl ?_
          refine g_put (r := w) (fs' := [.ref (ad (w + 1)), .int (nI (m + 1))]) fx lpX10_24 (by omega) hw rfl rfl (Nat.le_of_ble_eq_true rfl) rfl dX10_add_91 (fun cu4 ecu4 => ?_)
          have hfr : ∀ r, r ≠ w → r ≠ w + 1 → cu4 r = ct r := fun r _ _ => (congrFun ecu4 r).trans ((va_up_ne _ _ (by assumption)).trans (hfr r (by assumption) (by assumption)))
          have hw : cu4 w = .inr (10, [.ref (ad (w + 1)), .int (nI (m + 1))]) := by rw [ecu4, va_up_self]
          have hl : cu4 (w + 1) = .inl (B.2.1 1, 12, .inr (.inl (lF (va_up g1 m c)))) := (congrFun ecu4 _).trans ((va_up_ne _ _ (by omega)).trans hl)
          have hu : cu4 u = .inr (10, [.ref (ad (u + 1)), .int (nI su)]) := (congrFun ecu4 _).trans ((va_up_ne _ _ (by omega)).trans hu)
          have hm : cu4 (u + 1) = .inl (B.2.1 1, 12, .inr (.inl (lF gu))) := (congrFun ecu4 _).trans ((va_up_ne _ _ (by omega)).trans hm)
          refine g_vret fx rt dX10_add_94 ?_
          exact gPv.mk ⟨⟨_, _, ⟨hw, hl, hA.1, hA.2.1, hA.2.2.1⟩, hA.2.2.2.1, hA.2.2.2.2⟩, hfr⟩
      · skip
        have hlt2 : i < m := by have := (nI_ltI (by omega) (by omega)).mp (Int32.not_le.mp c20); omega
        have hq1 := hb1 i
        have hq2 := hltu i
        refine g_aload_n fx 0 dX10_add_23 rfl ?_
        refine g_get (r := w) fx lkX10_11 (by omega) hw rfl dX10_add_24 ?_
        refine g_iload fx 4 dX10_add_27 rfl ?_
        refine g_lald (r := w + 1) (j := i) fx (by omega) hl (nI_toInt (by omega)) (by omega) dX10_add_29 ?_
        refine g_isl (y := lN (g1 i)) rfl ?_
        refine g_aload_n fx 1 dX10_add_30 rfl ?_
        refine g_get (r := u) fx lkX10_11 (by omega) hu rfl dX10_add_31 ?_
        refine g_iload fx 4 dX10_add_34 rfl ?_
        refine g_lald (r := u + 1) (j := i) fx (by omega) hm (nI_toInt (by omega)) (by omega) dX10_add_36 ?_
        refine g_isl (y := lN (gu i)) rfl ?_
        refine g_ladd fx dX10_add_37 ?_
        refine g_lload_n fx 3 dX10_add_38 rfl ?_
        refine g_ladd fx dX10_add_39 ?_
        refine g_isl (y := lN (g1 i + gu i + c)) (by rw [lN_add, lN_add]) ?_
        refine g_lstore (L' := [(6, .long (lN (g1 i + gu i + c))), (0, .ref (ad w)), (1, .ref (ad u)), (2, .int (nI m)), (3, .long (lN c)), (5, .int (nI i))]) fx dX10_add_40 (by decide) rfl ?_
        refine g_aload_n fx 1 dX10_add_42 rfl ?_
        refine g_get (r := w) fx lkX10_11 (by omega) hw rfl dX10_add_43 ?_
        refine g_iload fx 5 dX10_add_46 rfl ?_
        refine g_lload fx 0 dX10_add_48 rfl ?_
        refine g_ldc2 fx kcX10_18 dX10_add_50 ?_
        refine g_land fx dX10_add_53 ?_
        refine g_isl (y := lN ((g1 i + gu i + c) % 4294967296)) (l_mask (by omega)) ?_
        refine g_last (r := w + 1) (j := i) fx (by omega) hl (nI_toInt (by omega)) (by omega) dX10_add_54 (fun cu5 ecu5 => ?_)
        have hfr : ∀ r, r ≠ w → r ≠ w + 1 → cu5 r = ct r := fun r _ _ => (congrFun ecu5 r).trans ((va_up_ne _ _ (by assumption)).trans (hfr r (by assumption) (by assumption)))
        have hw : cu5 w = .inr (10, [.ref (ad (w + 1)), .int (nI sz)]) := (congrFun ecu5 _).trans ((va_up_ne _ _ (by omega)).trans hw)
        have hl : cu5 (w + 1) = .inl (B.2.1 1, 12, .inr (.inl (lF (va_up g1 i ((g1 i + gu i + c) % 4294967296))))) := by rw [ecu5, va_up_self, lF_up]
        have hu : cu5 u = .inr (10, [.ref (ad (u + 1)), .int (nI su)]) := (congrFun ecu5 _).trans ((va_up_ne _ _ (by omega)).trans hu)
        have hm : cu5 (u + 1) = .inl (B.2.1 1, 12, .inr (.inl (lF gu))) := (congrFun ecu5 _).trans ((va_up_ne _ _ (by omega)).trans hm)
        refine g_lload fx 0 dX10_add_55 rfl ?_
        refine g_bipush (v := nI 32) fx dX10_add_57 (by decide +kernel) ?_
        refine g_lushr fx dX10_add_59 ?_
        refine g_isl (y := lN ((g1 i + gu i + c) / 4294967296)) (l_shr (by omega)) ?_
        refine g_lstore_n (L' := [(3, .long (lN ((g1 i + gu i + c) / 4294967296))), (6, .long (lN (g1 i + gu i + c))), (0, .ref (ad w)), (1, .ref (ad u)), (2, .int (nI m)), (5, .int (nI i))]) fx dX10_add_60 (by decide) rfl ?_
        refine g_iinc (L' := [(5, .int (nI (i + 1))), (3, .long (lN ((g1 i + gu i + c) / 4294967296))), (6, .long (lN (g1 i + gu i + c))), (0, .ref (ad w)), (1, .ref (ad u)), (2, .int (nI m))]) fx (nI (i + 1)) 5 dX10_add_61 rfl (gInc _) (by decide) rfl ?_
        refine g_goto fx 17 dX10_add_64 (by decide) ?_
        refine g_locals (L' := [(0, .ref (ad w)), (1, .ref (ad u)), (2, .int (nI m)), (3, .long (lN ((g1 i + gu i + c) / 4294967296))), (5, .int (nI (i + 1)))]) [3, 4, 5, 1, 0] rfl ?_
        exact ih (i + 1) ((g1 i + gu i + c) / 4294967296) _ (va_up g1 i ((g1 i + gu i + c) % 4294967296)) hlt2 (by omega) (fun j => by unfold va_up; split; omega; exact hb1 j) (fun j hj => by rw [va_up_ne _ _ (by omega)]; exact hk j (by omega)) (badd_step (hk i (by omega)) he) hw hl hfr hu hm (by omega)
  refine g_locals (L' := [(0, .ref (ad w)), (1, .ref (ad u)), (2, .int (nI m)), (3, .long (lN 0)), (5, .int (nI 0))]) [3, 4, 2, 1, 0] rfl ?_
  exact LP17 (m + 1) 0 0 ct g (by omega) (by omega) hlt (fun _ _ => rfl) (by simp [bval]) hw hl hfr hu hm (by omega)
set_option maxHeartbeats 4000000 in
set_option maxRecDepth 100000 in
theorem c_X10_subtract (B : gB) (ad : Nat → Nat) (ct : Nat → va_E) (n : Nat) (w u v x : Nat) (hn : w + 1 < n) (hnu : u + 1 < n) (h1 : u ≠ w) (h2 : u ≠ w + 1) (h3 : w ≠ u + 1) (hW : isW B ad ct w v) (hU : isW B ad ct u x) (hs : x ≤ v) : Ctr B yX10_subtract cX10_subtract 7 none 2 42 0 0 ad ct n [.ref (ad w), .ref (ad u)] (gPv ad n (fun ct' => isW B ad ct' w (v - x) ∧ sameB ct ct' w)) := by
  obtain ⟨sz, g, ⟨hw, hl, hsz, hlt, hz⟩, hno, hv⟩ := hW
  obtain ⟨su, gu, ⟨hu, hm, hsu, hltu, hzu⟩, hnou, hx⟩ := hU
  have hfr : ∀ r, r ≠ w → r ≠ w + 1 → ct r = ct r := fun _ _ _ => rfl
  have hvs : bval 4294967296 g 12 = bval 4294967296 g sz := bval_ext hsz hz
  have hxs : bval 4294967296 gu 12 = bval 4294967296 gu su := bval_ext hsu hzu
  have hvlt : v < 4294967296 ^ sz := by rw [← hv, hvs]; exact bval_lt sz (fun i _ => hlt i)
  have hxlt : x < 4294967296 ^ su := by rw [← hx, hxs]; exact bval_lt su (fun i _ => hltu i)
  refine Ctr.ofG (L := [(0, .ref (ad w)), (1, .ref (ad u))]) (by decide +kernel) rfl (Nat.le_of_ble_eq_true rfl) (fun E fx rt hnm => ?_)
  refine g_lconst (v := lN 0) fx dX10_subtract_0 (by decide +kernel) ?_
  refine g_lstore_n (L' := [(2, .long (lN 0)), (0, .ref (ad w)), (1, .ref (ad u))]) fx dX10_subtract_1 (by decide) rfl ?_
  refine g_iconst (v := nI 0) fx dX10_subtract_2 (by decide +kernel) ?_
  refine g_istore (L' := [(4, .int (nI 0)), (2, .long (lN 0)), (0, .ref (ad w)), (1, .ref (ad u))]) fx dX10_subtract_3 (by decide) rfl ?_
  have LP5 : ∀ (M : Nat) (i c : Nat) (ct1 : Nat → va_E) (g1 : Nat → Nat), (i ≤ sz) → (c ≤ 1) → (∀ j, g1 j < 4294967296) → (∀ j, i ≤ j → g1 j = g j) → (bval 4294967296 g1 i + bval 4294967296 gu i = bval 4294967296 g i + c * 4294967296 ^ i) → (ct1 w = .inr (10, [.ref (ad (w + 1)), .int (nI sz)])) → (ct1 (w + 1) = .inl (B.2.1 1, 12, .inr (.inl (lF g1)))) → (∀ r, r ≠ w → r ≠ w + 1 → ct1 r = ct r) → (ct1 u = .inr (10, [.ref (ad (u + 1)), .int (nI su)])) → (ct1 (u + 1) = .inl (B.2.1 1, 12, .inr (.inl (lF gu)))) →  (sz - i) < M → G B 7 E ad ct1 n 0 0 [(0, .ref (ad w)), (1, .ref (ad u)), (2, .long (lN c)), (4, .int (nI i))] 5 [] := by
    intro M
    induction M with
    | zero => intro i c ct1 g1 _ _ _ _ _ _ _ _ _ _ hM; exact absurd hM (Nat.not_lt_zero _)
    | succ M ih =>
      intro i c ct1 g1 hi hc hb1 hk he hw hl hfr hu hm hM
      refine g_iload fx 3 dX10_subtract_5 rfl ?_
      refine g_aload_n fx 0 dX10_subtract_7 rfl ?_
      refine g_get (r := w) fx lkX10_24 (by omega) hw rfl dX10_subtract_8 ?_
      refine g_icmp_ge fx 65 dX10_subtract_11 (by decide) (fun c11 => ?_) (fun c11 => ?_)
      · skip
        have him : i = sz := by have := (nI_leI (by omega) (by omega)).mp c11; omega
        rw [him] at he hk
        have hz1 : ∀ j, sz ≤ j → g1 j = 0 := fun j hj => by rw [hk j hj]; exact hz j hj
        have hsu2 : su ≤ sz := by
          rcases Nat.lt_or_ge sz su with q | q
          · have := size_lt (by decide) hvlt hnou q; omega
          · exact q
        have hum : bval 4294967296 gu sz = x := by rw [← hx, bval_ext (m := sz) (n := 12) (by omega) (fun j hj => hzu j (by omega))]
        rw [← hvs, hv, hum] at he
        have hb2 : bval 4294967296 g1 sz < 4294967296 ^ sz := bval_lt sz (fun j _ => hb1 j)
        have hc0 : c = 0 := by
          rcases Nat.lt_or_ge 0 c with q | q
          · have : c = 1 := by omega
            rw [this] at he; omega
          · omega
        have hval : bval 4294967296 g1 12 = v - x := by rw [bval_ext (m := sz) (by omega) hz1]; rw [hc0] at he; omega
        refine g_aload_n fx 0 dX10_subtract_65 rfl ?_
        refine g_aload_n fx 0 dX10_subtract_66 rfl ?_
        refine g_get (r := w) fx lkX10_24 (by omega) hw rfl dX10_subtract_67 ?_
        refine g_callVv (As := [.int (nI sz)]) (rest := []) fx slX10_20 (c_X10_trim B ad ct1 n w sz sz g1 hn hw hl (by omega) hb1 hz1 (fun j hj => hz1 j (by omega))) (by omega) hw rfl rfl rfl (Nat.le_of_ble_eq_true rfl) ⟨by decide, by decide⟩ ⟨by decide, by decide⟩ dX10_subtract_70 (fun ct9 hy => ?_)
        obtain ⟨hy, hs2⟩ := hy
        rw [hval] at hy
        refine g_vret fx rt dX10_subtract_73 ?_
        exact gPv.mk ⟨hy, fun r q1 q2 => (hs2 r q1 q2).trans (hfr r q1 q2)⟩
      · skip
        have hlt2 : i < sz := by have := (nI_ltI (by omega) (by omega)).mp (Int32.not_le.mp c11); omega
        have hq1 := hb1 i
        have hq2 := hltu i
        refine g_aload_n fx 0 dX10_subtract_14 rfl ?_
        refine g_get (r := w) fx lkX10_11 (by omega) hw rfl dX10_subtract_15 ?_
        refine g_iload fx 3 dX10_subtract_18 rfl ?_
        refine g_lald (r := w + 1) (j := i) fx (by omega) hl (nI_toInt (by omega)) (by omega) dX10_subtract_20 ?_
        refine g_isl (y := lN (g1 i)) rfl ?_
        refine g_aload_n fx 1 dX10_subtract_21 rfl ?_
        refine g_get (r := u) fx lkX10_11 (by omega) hu rfl dX10_subtract_22 ?_
        refine g_iload fx 3 dX10_subtract_25 rfl ?_
        refine g_lald (r := u + 1) (j := i) fx (by omega) hm (nI_toInt (by omega)) (by omega) dX10_subtract_27 ?_
        refine g_isl (y := lN (gu i)) rfl ?_
        refine g_lsub fx dX10_subtract_28 ?_
        refine g_lload_n fx 2 dX10_subtract_29 rfl ?_
        refine g_lsub fx dX10_subtract_30 ?_
        refine g_lstore (L' := [(5, .long (((lN (g1 i)) - (lN (gu i))) - (lN c))), (0, .ref (ad w)), (1, .ref (ad u)), (2, .long (lN c)), (4, .int (nI i))]) fx dX10_subtract_31 (by decide) rfl ?_
        refine g_aload_n fx 1 dX10_subtract_33 rfl ?_
        refine g_get (r := w) fx lkX10_11 (by omega) hw rfl dX10_subtract_34 ?_
        refine g_iload fx 4 dX10_subtract_37 rfl ?_
        refine g_lload fx 0 dX10_subtract_39 rfl ?_
        refine g_ldc2 fx kcX10_18 dX10_subtract_41 ?_
        refine g_land fx dX10_subtract_44 ?_
        refine g_isl (y := lN ((g1 i + 4294967296 - gu i - c) % 4294967296)) (l_sub3_mask hq1 hq2 hc) ?_
        refine g_last (r := w + 1) (j := i) fx (by omega) hl (nI_toInt (by omega)) (by omega) dX10_subtract_45 (fun cu1 ecu1 => ?_)
        have hfr : ∀ r, r ≠ w → r ≠ w + 1 → cu1 r = ct r := fun r _ _ => (congrFun ecu1 r).trans ((va_up_ne _ _ (by assumption)).trans (hfr r (by assumption) (by assumption)))
        have hw : cu1 w = .inr (10, [.ref (ad (w + 1)), .int (nI sz)]) := (congrFun ecu1 _).trans ((va_up_ne _ _ (by omega)).trans hw)
        have hl : cu1 (w + 1) = .inl (B.2.1 1, 12, .inr (.inl (lF (va_up g1 i ((g1 i + 4294967296 - gu i - c) % 4294967296))))) := by rw [ecu1, va_up_self, lF_up]
        have hu : cu1 u = .inr (10, [.ref (ad (u + 1)), .int (nI su)]) := (congrFun ecu1 _).trans ((va_up_ne _ _ (by omega)).trans hu)
        have hm : cu1 (u + 1) = .inl (B.2.1 1, 12, .inr (.inl (lF gu))) := (congrFun ecu1 _).trans ((va_up_ne _ _ (by omega)).trans hm)
        refine g_lload fx 0 dX10_subtract_46 rfl ?_
        refine g_lconst (v := lN 0) fx dX10_subtract_48 (by decide +kernel) ?_
        refine g_lcmp fx dX10_subtract_49 ?_
        refine g_if_ge fx 57 dX10_subtract_50 (by decide) (fun c50 => ?_) (fun c50 => ?_)
        · skip
          have hcc := (l_sub3_neg hq1 hq2 hc).mp c50
          refine g_lconst (v := lN 0) fx dX10_subtract_57 (by decide +kernel) ?_
          refine g_isl (y := lN (if gu i + c ≤ g1 i then 0 else 1)) (by first | rw [if_pos hcc] | rw [if_neg hcc]) ?_
          refine g_lstore_n (L' := [(2, .long (lN (if gu i + c ≤ g1 i then 0 else 1))), (5, .long (((lN (g1 i)) - (lN (gu i))) - (lN c))), (0, .ref (ad w)), (1, .ref (ad u)), (4, .int (nI i))]) fx dX10_subtract_58 (by decide) rfl ?_
          refine g_iinc (L' := [(4, .int (nI (i + 1))), (2, .long (lN (if gu i + c ≤ g1 i then 0 else 1))), (5, .long (((lN (g1 i)) - (lN (gu i))) - (lN c))), (0, .ref (ad w)), (1, .ref (ad u))]) fx (nI (i + 1)) 4 dX10_subtract_59 rfl (gInc _) (by decide) rfl ?_
          refine g_goto fx 5 dX10_subtract_62 (by decide) ?_
          refine g_locals (L' := [(0, .ref (ad w)), (1, .ref (ad u)), (2, .long (lN (if gu i + c ≤ g1 i then 0 else 1))), (4, .int (nI (i + 1)))]) [3, 4, 1, 0] rfl ?_
          exact ih (i + 1) (if gu i + c ≤ g1 i then 0 else 1) _ (va_up g1 i ((g1 i + 4294967296 - gu i - c) % 4294967296)) hlt2 (by split <;> omega) (fun j => by unfold va_up; split; omega; exact hb1 j) (fun j hj => by rw [va_up_ne _ _ (by omega)]; exact hk j (by omega)) (bsub_step (by decide) hq1 hq2 hc (hk i (by omega)) he) hw hl hfr hu hm (by omega)
        · skip
          have hcc : ¬ gu i + c ≤ g1 i := fun q => c50 ((l_sub3_neg hq1 hq2 hc).mpr q)
          refine g_lconst (v := lN 1) fx dX10_subtract_53 (by decide +kernel) ?_
          refine g_goto fx 58 dX10_subtract_54 (by decide) ?_
          refine g_isl (y := lN (if gu i + c ≤ g1 i then 0 else 1)) (by first | rw [if_pos hcc] | rw [if_neg hcc]) ?_
          refine g_lstore_n (L' := [(2, .long (lN (if gu i + c ≤ g1 i then 0 else 1))), (5, .long (((lN (g1 i)) - (lN (gu i))) - (lN c))), (0, .ref (ad w)), (1, .ref (ad u)), (4, .int (nI i))]) fx dX10_subtract_58 (by decide) rfl ?_
          refine g_iinc (L' := [(4, .int (nI (i + 1))), (2, .long (lN (if gu i + c ≤ g1 i then 0 else 1))), (5, .long (((lN (g1 i)) - (lN (gu i))) - (lN c))), (0, .ref (ad w)), (1, .ref (ad u))]) fx (nI (i + 1)) 4 dX10_subtract_59 rfl (gInc _) (by decide) rfl ?_
          refine g_goto fx 5 dX10_subtract_62 (by decide) ?_
          refine g_locals (L' := [(0, .ref (ad w)), (1, .ref (ad u)), (2, .long (lN (if gu i + c ≤ g1 i then 0 else 1))), (4, .int (nI (i + 1)))]) [3, 4, 1, 0] rfl ?_
          exact ih (i + 1) (if gu i + c ≤ g1 i then 0 else 1) _ (va_up g1 i ((g1 i + 4294967296 - gu i - c) % 4294967296)) hlt2 (by split <;> omega) (fun j => by unfold va_up; split; omega; exact hb1 j) (fun j hj => by rw [va_up_ne _ _ (by omega)]; exact hk j (by omega)) (bsub_step (by decide) hq1 hq2 hc (hk i (by omega)) he) hw hl hfr hu hm (by omega)
  refine g_locals (L' := [(0, .ref (ad w)), (1, .ref (ad u)), (2, .long (lN 0)), (4, .int (nI 0))]) [2, 3, 1, 0] rfl ?_
  exact LP5 (sz + 1) 0 0 ct g (by omega) (by omega) hlt (fun _ _ => rfl) (by simp [bval]) hw hl hfr hu hm (by omega)
