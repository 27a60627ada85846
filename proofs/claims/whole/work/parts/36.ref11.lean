/-- how many of all differences do what p asks: those of the first i of A with the first b of B -/
def cD (p : Int32 → Bool) (fA fB : Nat → Int32) (b : Nat) : Nat → Nat
  | 0 => 0
  | i + 1 => cD p fA fB b i + gCnt (fun z => p (fA i - z)) fB b
def insF (s : Nat → Int32) (k : Nat) (d : Int32) (j : Nat) : Int32 := if j < k then s j else if j = k then d else s (j - 1)
theorem insF_cnt {p : Int32 → Bool} {s : Nat → Int32} {k : Nat} {d : Int32} : ∀ N, k ≤ N → gCnt p (insF s k d) (N + 1) = gCnt p s N + (if p d then 1 else 0)
  | 0, h => by
    obtain rfl : k = 0 := by omega
    show 0 + (if p (insF s 0 d 0) then 1 else 0) = 0 + (if p d then 1 else 0)
    simp [insF]
  | N + 1, h => by
    show gCnt p (insF s k d) (N + 1) + (if p (insF s k d (N + 1)) then 1 else 0) = (gCnt p s N + (if p (s N) then 1 else 0)) + (if p d then 1 else 0)
    by_cases q : k = N + 1
    · subst q
      have e1 : gCnt p (insF s (N + 1) d) (N + 1) = gCnt p s (N + 1) := gCnt_congr (N + 1) (fun i hi => by unfold insF; rw [if_pos hi])
      have e2 : insF s (N + 1) d (N + 1) = d := by unfold insF; rw [if_neg (by omega), if_pos rfl]
      rw [e1, e2]; rfl
    · rw [insF_cnt N (by omega), show insF s k d (N + 1) = s N by unfold insF; rw [if_neg (by omega), if_neg (by omega)]; rfl]
      omega
theorem insF_sort {s : Nat → Int32} {k N : Nat} {d : Int32} (hk : k ≤ N) (hs : ∀ p, p + 1 < N → s p ≤ s (p + 1)) (h1 : 0 < k → s (k - 1) ≤ d) (h2 : ∀ j, k ≤ j → j < N → d < s j) : ∀ p, p + 1 < N + 1 → insF s k d p ≤ insF s k d (p + 1) := by
  intro p hp
  unfold insF
  by_cases a : p + 1 < k
  · rw [if_pos (by omega), if_pos a]; exact hs p (by omega)
  · by_cases b : p + 1 = k
    · rw [if_pos (by omega), if_neg a, if_pos b]
      have := h1 (by omega)
      rw [show p = k - 1 by omega]; exact this
    · by_cases c : p = k
      · rw [if_neg (by omega), if_pos c, if_neg a, if_neg b, Nat.add_sub_cancel]
        exact Int32.le_of_lt (h2 p (by omega) (by omega))
      · rw [if_neg (by omega), if_neg c, if_neg a, if_neg b, Nat.add_sub_cancel]
        have := hs (p - 1) (by omega)
        rw [show p - 1 + 1 = p by omega] at this
        exact this
set_option maxHeartbeats 4000000 in
set_option maxRecDepth 100000 in
theorem c_X12_check (B : gB) (ad : Nat → Nat) (ct : Nat → va_E) (n : Nat) (f : Nat → Int32) (gu gw : Nat → Nat) (hn : 33 ≤ n) (h0 : ct 0 = mObj ad f) (hu : ct 9 = .inl (B.2.1 0, 160, .inl (nF gu))) (hw : ct 10 = .inl (B.2.1 0, 160, .inl (nF gw))) (hres : 0 ≤ f 12 → ∀ t, t < 4 → okN gu (40 * t) ∧ okN gw (40 * t)) (fc : Nat → Int32) (hcl : ct 31 = .inl (B.2.1 0, 40, .inl fc)) (kc : Nat) (hkc : f 45 = nI kc) (hkc40 : kc ≤ 40) (x : Int32) : Ctr B yX12_check cX12_check 6 (some .int) 2 49 0 0 ad ct n [.ref (ad 0), .int x] (gPip ad ct n (fun q => (f 12 < 0 ∧ q = -30) ∨ (0 ≤ f 12 ∧ ¬ ((0 : Int) ≤ x.toInt ∧ x.toInt ≤ 3) ∧ q = -10) ∨ (0 ≤ f 12 ∧ ∃ t : Nat, t < 4 ∧ x = nI t ∧ ((∃ k, k < (((nbits (nv gw (40 * t)) + 15) / 16) + (nbits (nv gu (40 * t)) + 15) / 16) ∧ (∀ j, j < k → j < kc ∧ fc j = nI (wdS (nv gu (40 * t)) (nv gw (40 * t)) j)) ∧ (kc ≤ k ∨ ¬ fc k = nI (wdS (nv gu (40 * t)) (nv gw (40 * t)) k)) ∧ q = (-100) - nI k) ∨ ((∀ j, j < (((nbits (nv gw (40 * t)) + 15) / 16) + (nbits (nv gu (40 * t)) + 15) / 16) → j < kc ∧ fc j = nI (wdS (nv gu (40 * t)) (nv gw (40 * t)) j)) ∧ q = if (((nbits (nv gw (40 * t)) + 15) / 16) + (nbits (nv gu (40 * t)) + 15) / 16) < kc then (-100) - nI (((nbits (nv gw (40 * t)) + 15) / 16) + (nbits (nv gu (40 * t)) + 15) / 16) else 1))))) := by
  refine Ctr.ofG (L := [(0, .ref (ad 0)), (1, .int x)]) (by decide +kernel) rfl (Nat.le_of_ble_eq_true rfl) (fun E fx rt hnm => ?_)
  refine g_aload_n fx 0 dX12_check_0 rfl ?_
  refine g_get (r := 0) fx lkX12_34 (by omega) h0 rfl dX12_check_1 ?_
  refine g_if_ge fx 10 dX12_check_4 (by decide) (fun c4 => ?_) (fun c4 => ?_)
  · skip
    have hkd := hres c4
    refine g_iload_n fx 1 dX12_check_10 rfl ?_
    refine g_callSip (As := [.int x]) (rest := []) fx slX12_285 (c_X12_isTail B ad ct n x) rfl rfl (Nat.le_of_ble_eq_true rfl) ⟨by decide, by decide⟩ ⟨by decide, by decide⟩ dX12_check_11 (fun qt hqt => ?_)
    refine g_if_ne fx 20 dX12_check_14 (by decide) (fun c14 => ?_) (fun c14 => ?_)
    · skip
      have hP : (0 : Int) ≤ x.toInt ∧ x.toInt ≤ 3 := if01_n.mp (hqt ▸ c14)
      obtain ⟨t, ht, ext⟩ := toN hP (by omega)
      have hkt := hkd t (by omega)
      have hnW : nbits (nv gw (40 * t)) ≤ 960 := nbits_le (by rw [show (2 : Nat) ^ 960 = 16777216 ^ 40 by decide +kernel]; exact nv_lt hkt.2)
      have hnU : nbits (nv gu (40 * t)) ≤ 960 := nbits_le (by rw [show (2 : Nat) ^ 960 = 16777216 ^ 40 by decide +kernel]; exact nv_lt hkt.1)
      refine g_relocal (L' := [(0, .ref (ad 0)), (1, .int (nI t))]) (by rw [ext]) ?_
      refine g_aload_n fx 0 dX12_check_20 rfl ?_
      refine g_get (r := 0) fx lkX12_41 (by omega) h0 rfl dX12_check_21 ?_
      refine g_bipush (v := nI 40) fx dX12_check_24 (by decide +kernel) ?_
      refine g_iload_n fx 1 dX12_check_26 rfl ?_
      refine g_imulN fx dX12_check_27 ?_
      refine g_callSip (As := [.ref (ad 10), .int (nI (40 * t))]) (rest := []) fx slX12_131 (c_X12_bitsOf B ad ct n 10 (40 * t) 160 gw (by omega) (by omega) (by decide) hw hkt.2) rfl rfl (Nat.le_of_ble_eq_true rfl) ⟨by decide, by decide⟩ ⟨by decide, by decide⟩ dX12_check_28 (fun q1 hq1 => ?_)
      obtain rfl := hq1
      refine g_bipush (v := nI 15) fx dX12_check_31 (by decide +kernel) ?_
      refine g_iaddN fx dX12_check_33 ?_
      refine g_bipush (v := nI 16) fx dX12_check_34 (by decide +kernel) ?_
      refine g_idiv fx dX12_check_36 (by decide) ?_
      refine g_isi (y := nI ((nbits (nv gw (40 * t)) + 15) / 16)) (pk_div (by omega) (by decide) (by decide)) ?_
      refine g_istore_n (L' := [(2, .int (nI ((nbits (nv gw (40 * t)) + 15) / 16))), (0, .ref (ad 0)), (1, .int (nI t))]) fx dX12_check_37 (by decide) rfl ?_
      refine g_iload_n fx 0 dX12_check_38 rfl ?_
      refine g_aload_n fx 1 dX12_check_39 rfl ?_
      refine g_get (r := 0) fx lkX12_38 (by omega) h0 rfl dX12_check_40 ?_
      refine g_bipush (v := nI 40) fx dX12_check_43 (by decide +kernel) ?_
      refine g_iload_n fx 2 dX12_check_45 rfl ?_
      refine g_imulN fx dX12_check_46 ?_
      refine g_callSip (As := [.ref (ad 9), .int (nI (40 * t))]) (rest := [.int (nI ((nbits (nv gw (40 * t)) + 15) / 16))]) fx slX12_131 (c_X12_bitsOf B ad ct n 9 (40 * t) 160 gu (by omega) (by omega) (by decide) hu hkt.1) rfl rfl (Nat.le_of_ble_eq_true rfl) ⟨by decide, by decide⟩ ⟨by decide, by decide⟩ dX12_check_47 (fun q2 hq2 => ?_)
      obtain rfl := hq2
      refine g_bipush (v := nI 15) fx dX12_check_50 (by decide +kernel) ?_
      refine g_iaddN fx dX12_check_52 ?_
      refine g_bipush (v := nI 16) fx dX12_check_53 (by decide +kernel) ?_
      refine g_idiv fx dX12_check_55 (by decide) ?_
      refine g_isi (y := nI ((nbits (nv gu (40 * t)) + 15) / 16)) (pk_div (by omega) (by decide) (by decide)) ?_
      refine g_iaddN fx dX12_check_56 ?_
      refine g_istore_n (L' := [(3, .int (nI (((nbits (nv gw (40 * t)) + 15) / 16) + ((nbits (nv gu (40 * t)) + 15) / 16)))), (2, .int (nI ((nbits (nv gw (40 * t)) + 15) / 16))), (0, .ref (ad 0)), (1, .int (nI t))]) fx dX12_check_57 (by decide) rfl ?_
      refine g_iconst (v := nI 0) fx dX12_check_58 (by decide +kernel) ?_
      refine g_istore (L' := [(4, .int (nI 0)), (3, .int (nI (((nbits (nv gw (40 * t)) + 15) / 16) + ((nbits (nv gu (40 * t)) + 15) / 16)))), (2, .int (nI ((nbits (nv gw (40 * t)) + 15) / 16))), (0, .ref (ad 0)), (1, .int (nI t))]) fx dX12_check_59 (by decide) rfl ?_
      have LP61 : ∀ (M : Nat) (k : Nat), (k ≤ (((nbits (nv gw (40 * t)) + 15) / 16) + (nbits (nv gu (40 * t)) + 15) / 16)) → (∀ j, j < k → j < kc ∧ fc j = nI (wdS (nv gu (40 * t)) (nv gw (40 * t)) j)) →  ((((nbits (nv gw (40 * t)) + 15) / 16) + (nbits (nv gu (40 * t)) + 15) / 16) - k) < M → G B 6 E ad ct n 0 0 [(0, .ref (ad 0)), (1, .int (nI t)), (2, .int (nI ((nbits (nv gw (40 * t)) + 15) / 16))), (3, .int (nI (((nbits (nv gw (40 * t)) + 15) / 16) + (nbits (nv gu (40 * t)) + 15) / 16))), (4, .int (nI k))] 61 [] := by
        intro M
        induction M with
        | zero => intro k _ _ hM; exact absurd hM (Nat.not_lt_zero _)
        | succ M ih =>
          intro k hk hall hM
          have ih61 := ih
          refine g_iload fx 4 dX12_check_61 rfl ?_
          refine g_iload_n fx 3 dX12_check_63 rfl ?_
          refine g_icmp_ge fx 141 dX12_check_64 (by decide) (fun c64 => ?_) (fun c64 => ?_)
          · skip
            have hke : k = (((nbits (nv gw (40 * t)) + 15) / 16) + (nbits (nv gu (40 * t)) + 15) / 16) := by have := (nI_leI (by omega) (by omega)).mp c64; omega
            refine g_aload_n fx 0 dX12_check_141 rfl ?_
            refine g_get (r := 0) fx lkX12_187 (by omega) h0 rfl dX12_check_142 ?_
            refine g_isi (y := nI kc) hkc ?_
            refine g_iload_n fx 3 dX12_check_145 rfl ?_
            refine g_icmp_le fx 156 dX12_check_146 (by decide) (fun c146 => ?_) (fun c146 => ?_)
            · skip
              have hlc : ¬ (((nbits (nv gw (40 * t)) + 15) / 16) + (nbits (nv gu (40 * t)) + 15) / 16) < kc := by have := (nI_leI (by omega) (by omega)).mp c146; omega
              refine g_iconst (v := nI 1) fx dX12_check_156 (by decide +kernel) ?_
              refine g_iret fx rt dX12_check_157 ?_
              refine gPip.mk ?_
              rw [hke] at hall
              refine Or.inr (Or.inr ⟨c4, t, by omega, ext, Or.inr ⟨hall, ?_⟩⟩)
              first | (rw [if_pos hlc]; done) | (rw [if_neg hlc]; rfl)
            · skip
              have hlc : (((nbits (nv gw (40 * t)) + 15) / 16) + (nbits (nv gu (40 * t)) + 15) / 16) < kc := by have := (nI_ltI (by omega) (by omega)).mp (Int32.not_le.mp c146); omega
              refine g_bipush (v := (-100)) fx dX12_check_149 (by decide +kernel) ?_
              refine g_iload_n fx 3 dX12_check_151 rfl ?_
              refine g_isub fx dX12_check_152 ?_
              refine g_goto fx 157 dX12_check_153 (by decide) ?_
              refine g_iret fx rt dX12_check_157 ?_
              refine gPip.mk ?_
              rw [hke] at hall
              refine Or.inr (Or.inr ⟨c4, t, by omega, ext, Or.inr ⟨hall, ?_⟩⟩)
              first | (rw [if_pos hlc]; done) | (rw [if_neg hlc]; rfl)
          · skip
            have hlt2 : k < (((nbits (nv gw (40 * t)) + 15) / 16) + (nbits (nv gu (40 * t)) + 15) / 16) := by have := (nI_ltI (by omega) (by omega)).mp (Int32.not_le.mp c64); omega
            refine g_iload fx 4 dX12_check_67 rfl ?_
            refine g_iload_n fx 2 dX12_check_69 rfl ?_
            refine g_icmp_ge fx 90 dX12_check_70 (by decide) (fun c70 => ?_) (fun c70 => ?_)
            · skip
              have hkL : ¬ k < ((nbits (nv gw (40 * t)) + 15) / 16) := by have := (nI_leI (by omega) (by omega)).mp c70; omega
              refine g_aload_n fx 0 dX12_check_90 rfl ?_
              refine g_get (r := 0) fx lkX12_38 (by omega) h0 rfl dX12_check_91 ?_
              refine g_bipush (v := nI 40) fx dX12_check_94 (by decide +kernel) ?_
              refine g_iload_n fx 1 dX12_check_96 rfl ?_
              refine g_imulN fx dX12_check_97 ?_
              refine g_iload fx 4 dX12_check_98 rfl ?_
              refine g_iload_n fx 2 dX12_check_100 rfl ?_
              refine g_isubN fx dX12_check_101 (by omega) ?_
              refine g_i2l fx dX12_check_102 ?_
              refine g_isl (y := lN (k - ((nbits (nv gw (40 * t)) + 15) / 16))) (nI_l (by omega)) ?_
              refine g_callSip (As := [.ref (ad 9), .int (nI (40 * t)), .long (lN (k - ((nbits (nv gw (40 * t)) + 15) / 16)))]) (rest := []) fx slX12_293 (c_X12_wordOf B ad ct n 9 (40 * t) 160 gu (by omega) (by omega) (by decide) hu hkt.1 (k - ((nbits (nv gw (40 * t)) + 15) / 16)) (by omega)) rfl rfl (Nat.le_of_ble_eq_true rfl) ⟨by decide, by decide⟩ ⟨by decide, by decide⟩ dX12_check_103 (fun q4 hq4 => ?_)
              have hwd : q4 = nI (wdS (nv gu (40 * t)) (nv gw (40 * t)) k) := by rw [hq4]; unfold wdS; rw [if_neg hkL]
              refine g_isi (y := nI (wdS (nv gu (40 * t)) (nv gw (40 * t)) k)) hwd ?_
              refine g_istore (L' := [(5, .int (nI (wdS (nv gu (40 * t)) (nv gw (40 * t)) k))), (0, .ref (ad 0)), (1, .int (nI t)), (2, .int (nI ((nbits (nv gw (40 * t)) + 15) / 16))), (3, .int (nI (((nbits (nv gw (40 * t)) + 15) / 16) + (nbits (nv gu (40 * t)) + 15) / 16))), (4, .int (nI k))]) fx dX12_check_106 (by decide) rfl ?_
              refine g_iload fx 5 dX12_check_108 rfl ?_
              refine g_aload_n fx 1 dX12_check_110 rfl ?_
              refine g_get (r := 0) fx lkX12_187 (by omega) h0 rfl dX12_check_111 ?_
              refine g_isi (y := nI kc) hkc ?_
              refine g_icmp_ge fx 129 dX12_check_114 (by decide) (fun c114 => ?_) (fun c114 => ?_)
              · skip
                have hbad : kc ≤ k ∨ ¬ fc k = nI (wdS (nv gu (40 * t)) (nv gw (40 * t)) k) := Or.inl ((nI_leI (by omega) (by omega)).mp c114)
                refine g_bipush (v := (-100)) fx dX12_check_129 (by decide +kernel) ?_
                refine g_iload fx 5 dX12_check_131 rfl ?_
                refine g_isub fx dX12_check_133 ?_
                refine g_iret fx rt dX12_check_134 ?_
                refine gPip.mk ?_
                exact Or.inr (Or.inr ⟨c4, t, by omega, ext, Or.inl ⟨k, hlt2, hall, hbad, rfl⟩⟩)
              · skip
                have hkk : k < kc := by have := (nI_ltI (by omega) (by omega)).mp (Int32.not_le.mp c114); omega
                refine g_aload_n fx 1 dX12_check_117 rfl ?_
                refine g_get (r := 0) fx lkX12_109 (by omega) h0 rfl dX12_check_118 ?_
                refine g_iload fx 5 dX12_check_121 rfl ?_
                refine g_iald (r := 31) (j := k) fx (by omega) hcl (nI_toInt (by omega)) (by omega) dX12_check_123 ?_
                refine g_iload fx 0 dX12_check_124 rfl ?_
                refine g_icmp_eq fx 135 dX12_check_126 (by decide) (fun c126 => ?_) (fun c126 => ?_)
                · skip
                  refine g_iinc (L' := [(4, .int (nI (k + 1))), (5, .int (nI (wdS (nv gu (40 * t)) (nv gw (40 * t)) k))), (0, .ref (ad 0)), (1, .int (nI t)), (2, .int (nI ((nbits (nv gw (40 * t)) + 15) / 16))), (3, .int (nI (((nbits (nv gw (40 * t)) + 15) / 16) + (nbits (nv gu (40 * t)) + 15) / 16)))]) fx (nI (k + 1)) 5 dX12_check_135 rfl (gInc _) (by decide) rfl ?_
                  refine g_goto fx 61 dX12_check_138 (by decide) ?_
                  refine g_locals (L' := [(0, .ref (ad 0)), (1, .int (nI t)), (2, .int (nI ((nbits (nv gw (40 * t)) + 15) / 16))), (3, .int (nI (((nbits (nv gw (40 * t)) + 15) / 16) + (nbits (nv gu (40 * t)) + 15) / 16))), (4, .int (nI (k + 1)))]) [2, 3, 4, 5, 0] rfl ?_
                  exact ih (k + 1) hlt2 (fun j hj => by by_cases q : j = k; (rw [q]; exact ⟨hkk, c126⟩); (exact hall j (by omega))) (by omega)
                · skip
                  have hbad : kc ≤ k ∨ ¬ fc k = nI (wdS (nv gu (40 * t)) (nv gw (40 * t)) k) := Or.inr c126
                  refine g_bipush (v := (-100)) fx dX12_check_129 (by decide +kernel) ?_
                  refine g_iload fx 5 dX12_check_131 rfl ?_
                  refine g_isub fx dX12_check_133 ?_
                  refine g_iret fx rt dX12_check_134 ?_
                  refine gPip.mk ?_
                  exact Or.inr (Or.inr ⟨c4, t, by omega, ext, Or.inl ⟨k, hlt2, hall, hbad, rfl⟩⟩)
            · skip
              have hkL : k < ((nbits (nv gw (40 * t)) + 15) / 16) := by have := (nI_ltI (by omega) (by omega)).mp (Int32.not_le.mp c70); omega
              refine g_aload_n fx 0 dX12_check_73 rfl ?_
              refine g_get (r := 0) fx lkX12_41 (by omega) h0 rfl dX12_check_74 ?_
              refine g_bipush (v := nI 40) fx dX12_check_77 (by decide +kernel) ?_
              refine g_iload_n fx 1 dX12_check_79 rfl ?_
              refine g_imulN fx dX12_check_80 ?_
              refine g_iload fx 4 dX12_check_81 rfl ?_
              refine g_i2l fx dX12_check_83 ?_
              refine g_isl (y := lN k) (nI_l (by omega)) ?_
              refine g_callSip (As := [.ref (ad 10), .int (nI (40 * t)), .long (lN k)]) (rest := []) fx slX12_293 (c_X12_wordOf B ad ct n 10 (40 * t) 160 gw (by omega) (by omega) (by decide) hw hkt.2 k (by omega)) rfl rfl (Nat.le_of_ble_eq_true rfl) ⟨by decide, by decide⟩ ⟨by decide, by decide⟩ dX12_check_84 (fun q3 hq3 => ?_)
              have hwd : q3 = nI (wdS (nv gu (40 * t)) (nv gw (40 * t)) k) := by rw [hq3]; unfold wdS; rw [if_pos hkL]
              refine g_goto fx 106 dX12_check_87 (by decide) ?_
              refine g_isi (y := nI (wdS (nv gu (40 * t)) (nv gw (40 * t)) k)) hwd ?_
              refine g_istore (L' := [(5, .int (nI (wdS (nv gu (40 * t)) (nv gw (40 * t)) k))), (0, .ref (ad 0)), (1, .int (nI t)), (2, .int (nI ((nbits (nv gw (40 * t)) + 15) / 16))), (3, .int (nI (((nbits (nv gw (40 * t)) + 15) / 16) + (nbits (nv gu (40 * t)) + 15) / 16))), (4, .int (nI k))]) fx dX12_check_106 (by decide) rfl ?_
              refine g_iload fx 5 dX12_check_108 rfl ?_
              refine g_aload_n fx 1 dX12_check_110 rfl ?_
              refine g_get (r := 0) fx lkX12_187 (by omega) h0 rfl dX12_check_111 ?_
              refine g_isi (y := nI kc) hkc ?_
              refine g_icmp_ge fx 129 dX12_check_114 (by decide) (fun c114 => ?_) (fun c114 => ?_)
              · skip
                have hbad : kc ≤ k ∨ ¬ fc k = nI (wdS (nv gu (40 * t)) (nv gw (40 * t)) k) := Or.inl ((nI_leI (by omega) (by omega)).mp c114)
                refine g_bipush (v := (-100)) fx dX12_check_129 (by decide +kernel) ?_
                refine g_iload fx 5 dX12_check_131 rfl ?_
                refine g_isub fx dX12_check_133 ?_
                refine g_iret fx rt dX12_check_134 ?_
                refine gPip.mk ?_
                exact Or.inr (Or.inr ⟨c4, t, by omega, ext, Or.inl ⟨k, hlt2, hall, hbad, rfl⟩⟩)
              · skip
                have hkk : k < kc := by have := (nI_ltI (by omega) (by omega)).mp (Int32.not_le.mp c114); omega
                refine g_aload_n fx 1 dX12_check_117 rfl ?_
                refine g_get (r := 0) fx lkX12_109 (by omega) h0 rfl dX12_check_118 ?_
                refine g_iload fx 5 dX12_check_121 rfl ?_
                refine g_iald (r := 31) (j := k) fx (by omega) hcl (nI_toInt (by omega)) (by omega) dX12_check_123 ?_
                refine g_iload fx 0 dX12_check_124 rfl ?_
                refine g_icmp_eq fx 135 dX12_check_126 (by decide) (fun c126 => ?_) (fun c126 => ?_)
                · skip
                  refine g_iinc (L' := [(4, .int (nI (k + 1))), (5, .int (nI (wdS (nv gu (40 * t)) (nv gw (40 * t)) k))), (0, .ref (ad 0)), (1, .int (nI t)), (2, .int (nI ((nbits (nv gw (40 * t)) + 15) / 16))), (3, .int (nI (((nbits (nv gw (40 * t)) + 15) / 16) + (nbits (nv gu (40 * t)) + 15) / 16)))]) fx (nI (k + 1)) 5 dX12_check_135 rfl (gInc _) (by decide) rfl ?_
                  refine g_goto fx 61 dX12_check_138 (by decide) ?_
                  refine g_locals (L' := [(0, .ref (ad 0)), (1, .int (nI t)), (2, .int (nI ((nbits (nv gw (40 * t)) + 15) / 16))), (3, .int (nI (((nbits (nv gw (40 * t)) + 15) / 16) + (nbits (nv gu (40 * t)) + 15) / 16))), (4, .int (nI (k + 1)))]) [2, 3, 4, 5, 0] rfl ?_
                  exact ih (k + 1) hlt2 (fun j hj => by by_cases q : j = k; (rw [q]; exact ⟨hkk, c126⟩); (exact hall j (by omega))) (by omega)
                · skip
                  have hbad : kc ≤ k ∨ ¬ fc k = nI (wdS (nv gu (40 * t)) (nv gw (40 * t)) k) := Or.inr c126
                  refine g_bipush (v := (-100)) fx dX12_check_129 (by decide +kernel) ?_
                  refine g_iload fx 5 dX12_check_131 rfl ?_
                  refine g_isub fx dX12_check_133 ?_
                  refine g_iret fx rt dX12_check_134 ?_
                  refine gPip.mk ?_
                  exact Or.inr (Or.inr ⟨c4, t, by omega, ext, Or.inl ⟨k, hlt2, hall, hbad, rfl⟩⟩)
      refine g_locals (L' := [(0, .ref (ad 0)), (1, .int (nI t)), (2, .int (nI ((nbits (nv gw (40 * t)) + 15) / 16))), (3, .int (nI (((nbits (nv gw (40 * t)) + 15) / 16) + ((nbits (nv gu (40 * t)) + 15) / 16)))), (4, .int (nI 0))]) [3, 4, 2, 1, 0] rfl ?_
      exact LP61 ((((nbits (nv gw (40 * t)) + 15) / 16) + (nbits (nv gu (40 * t)) + 15) / 16) + 1) 0 (by omega) (fun j hj => absurd hj (by omega)) (by omega)
    · skip
      have hA : ¬ ((0 : Int) ≤ x.toInt ∧ x.toInt ≤ 3) := if01_z.mp (hqt ▸ c14)
      refine g_bipush (v := (-10)) fx dX12_check_17 (by decide +kernel) ?_
      refine g_iret fx rt dX12_check_19 ?_
      refine gPip.mk ?_
      exact Or.inr (Or.inl ⟨c4, hA, rfl⟩)
  · skip
    have hkn : f 12 < 0 := Int32.not_le.mp c4
    refine g_bipush (v := (-30)) fx dX12_check_7 (by decide +kernel) ?_
    refine g_iret fx rt dX12_check_9 ?_
    refine gPip.mk ?_
    exact Or.inl ⟨hkn, rfl⟩
set_option maxHeartbeats 4000000 in
set_option maxRecDepth 100000 in
theorem c_X12_shift (B : gB) (ad : Nat → Nat) (ct : Nat → va_E) (n : Nat) (f fs s0 : Nat → Int32) (km : Nat → Nat) (hn : 33 ≤ n) (h0 : ct 0 = mObj ad f) (hs : ct 6 = .inl (B.2.1 0, 30, .inl fs)) (hm : ct 7 = .inl (B.2.1 0, 2, .inl (nF km))) (hsh : ct 32 = .inl (B.2.1 0, 225, .inl s0)) (hk15 : ∀ w, w < 2 → km w ≤ 15) : Ctr B yX12_shift cX12_shift 6 (some .int) 0 0 0 0 ad ct n [.ref (ad 0)] (gPi ad n (fun q ct' => ((km 0 = 0 ∨ km 1 = 0) ∧ q = -1000000003 ∧ ct' = ct) ∨ (0 < km 0 ∧ 0 < km 1 ∧ ∃ s : Nat → Int32, (∀ p, p + 1 < km 0 * km 1 → s p ≤ s (p + 1)) ∧ (∀ p : Int32 → Bool, gCnt p s (km 0 * km 1) = cD p fs (fun z => fs (15 + z)) (km 1) (km 0)) ∧ (q = if km 0 * km 1 % 2 = 1 then nI 2 * s (km 0 * km 1 / 2) else s (km 0 * km 1 / 2 - 1) + s (km 0 * km 1 / 2)) ∧ ct' 32 = .inl (B.2.1 0, 225, .inl s) ∧ ∀ r, r ≠ 32 → ct' r = ct r))) := by
  have hct : ∀ r, r ≠ 32 → ct r = ct r := fun _ _ => rfl
  have hka := hk15 0 (by decide)
  have hkb := hk15 1 (by decide)
  refine Ctr.ofG (L := [(0, .ref (ad 0))]) (by decide +kernel) rfl (Nat.le_of_ble_eq_true rfl) (fun E fx rt hnm => ?_)
  refine g_aload_n fx 0 dX12_shift_0 rfl ?_
  refine g_get (r := 0) fx lkX12_28 (by omega) h0 rfl dX12_shift_1 ?_
  refine g_iconst (v := nI 0) fx dX12_shift_4 (by decide +kernel) ?_
  refine g_iald (r := 7) (j := 0) fx (by omega) hm (nI_toInt (by omega)) (by omega) dX12_shift_5 ?_
  refine g_isi (y := nI (km 0)) rfl ?_
  refine g_if_eq fx 18 dX12_shift_6 (by decide) (fun c6 => ?_) (fun c6 => ?_)
  · skip
    have hA : km 0 = 0 ∨ km 1 = 0 := Or.inl ((nI_eq (b := 0) (by omega) (by decide)).mp c6)
    refine g_ldcw fx kcX12_268 dX12_shift_18 ?_
    refine g_iret fx rt dX12_shift_21 ?_
    exact gPi.mk (Or.inl ⟨hA, rfl, rfl⟩)
  · skip
    have ha0 : 0 < km 0 := Nat.pos_of_ne_zero (fun q => c6 (by rw [q]; rfl))
    refine g_aload_n fx 0 dX12_shift_9 rfl ?_
    refine g_get (r := 0) fx lkX12_28 (by omega) h0 rfl dX12_shift_10 ?_
    refine g_iconst (v := nI 1) fx dX12_shift_13 (by decide +kernel) ?_
    refine g_iald (r := 7) (j := 1) fx (by omega) hm (nI_toInt (by omega)) (by omega) dX12_shift_14 ?_
    refine g_isi (y := nI (km 1)) rfl ?_
    refine g_if_ne fx 22 dX12_shift_15 (by decide) (fun c15 => ?_) (fun c15 => ?_)
    · skip
      have hb0 : 0 < km 1 := Nat.pos_of_ne_zero (fun q => c15 (by rw [q]; rfl))
      refine g_iconst (v := nI 0) fx dX12_shift_22 (by decide +kernel) ?_
      refine g_istore_n (L' := [(1, .int (nI 0)), (0, .ref (ad 0))]) fx dX12_shift_23 (by decide) rfl ?_
      refine g_iconst (v := nI 0) fx dX12_shift_24 (by decide +kernel) ?_
      refine g_istore_n (L' := [(2, .int (nI 0)), (1, .int (nI 0)), (0, .ref (ad 0))]) fx dX12_shift_25 (by decide) rfl ?_
      have LP26 : ∀ (M : Nat) (i N : Nat) (ct1 : Nat → va_E) (s1 : Nat → Int32), (i ≤ km 0) → (N = i * km 1) → (∀ p, p + 1 < N → s1 p ≤ s1 (p + 1)) → (∀ p : Int32 → Bool, gCnt p s1 N = cD p fs (fun z => fs (15 + z)) (km 1) i) → (ct1 0 = mObj ad f) → (ct1 6 = .inl (B.2.1 0, 30, .inl fs)) → (ct1 7 = .inl (B.2.1 0, 2, .inl (nF km))) → (ct1 32 = .inl (B.2.1 0, 225, .inl s1)) → (∀ r, r ≠ 32 → ct1 r = ct r) →  (km 0 - i) < M → G B 6 E ad ct1 n 0 0 [(0, .ref (ad 0)), (1, .int (nI N)), (2, .int (nI i))] 26 [] := by
        intro M
        induction M with
        | zero => intro i N ct1 s1 _ _ _ _ _ _ _ _ _ hM; exact absurd hM (Nat.not_lt_zero _)
        | succ M ih =>
          intro i N ct1 s1 hi hN hso hcn h0 hs hm hsh hct hM
          have ih26 := ih
          refine g_iload_n fx 2 dX12_shift_26 rfl ?_
          refine g_aload_n fx 0 dX12_shift_27 rfl ?_
          refine g_get (r := 0) fx lkX12_28 (by omega) h0 rfl dX12_shift_28 ?_
          refine g_iconst (v := nI 0) fx dX12_shift_31 (by decide +kernel) ?_
          refine g_iald (r := 7) (j := 0) fx (by omega) hm (nI_toInt (by omega)) (by omega) dX12_shift_32 ?_
          refine g_isi (y := nI (km 0)) rfl ?_
          refine g_icmp_ge fx 134 dX12_shift_33 (by decide) (fun c33 => ?_) (fun c33 => ?_)
          · skip
            have hie : i = km 0 := by have := (nI_leI (by omega) (by omega)).mp c33; omega
            have hNe : N = km 0 * km 1 := by rw [hN, hie]
            have hNp : 0 < N := by rw [hNe]; exact Nat.mul_pos ha0 hb0
            have hN225 : N ≤ 225 := by rw [hNe]; exact Nat.mul_le_mul hka hkb
            refine g_iload_n fx 1 dX12_shift_134 rfl ?_
            refine g_iconst (v := nI 2) fx dX12_shift_135 (by decide +kernel) ?_
            refine g_irem fx dX12_shift_136 (by decide) ?_
            refine g_isi (y := nI (N % 2)) (pk_rem (by omega) (by decide) (by decide)) ?_
            refine g_iconst (v := nI 1) fx dX12_shift_137 (by decide +kernel) ?_
            refine g_icmp_ne fx 154 dX12_shift_138 (by decide) (fun c138 => ?_) (fun c138 => ?_)
            · skip
              have hodd : ¬ N % 2 = 1 := fun q => c138 (by rw [q])
              refine g_aload_n fx 0 dX12_shift_154 rfl ?_
              refine g_get (r := 0) fx lkX12_112 (by omega) h0 rfl dX12_shift_155 ?_
              refine g_iload_n fx 1 dX12_shift_158 rfl ?_
              refine g_iconst (v := nI 2) fx dX12_shift_159 (by decide +kernel) ?_
              refine g_idiv fx dX12_shift_160 (by decide) ?_
              refine g_isi (y := nI (N / 2)) (pk_div (by omega) (by decide) (by decide)) ?_
              refine g_iconst (v := nI 1) fx dX12_shift_161 (by decide +kernel) ?_
              refine g_isubN fx dX12_shift_162 (by omega) ?_
              refine g_iald (r := 32) (j := ((N / 2) - 1)) fx (by omega) hsh (nI_toInt (by omega)) (by omega) dX12_shift_163 ?_
              refine g_aload_n fx 0 dX12_shift_164 rfl ?_
              refine g_get (r := 0) fx lkX12_112 (by omega) h0 rfl dX12_shift_165 ?_
              refine g_iload_n fx 1 dX12_shift_168 rfl ?_
              refine g_iconst (v := nI 2) fx dX12_shift_169 (by decide +kernel) ?_
              refine g_idiv fx dX12_shift_170 (by decide) ?_
              refine g_isi (y := nI (N / 2)) (pk_div (by omega) (by decide) (by decide)) ?_
              refine g_iald (r := 32) (j := (N / 2)) fx (by omega) hsh (nI_toInt (by omega)) (by omega) dX12_shift_171 ?_
              refine g_iadd fx dX12_shift_172 ?_
              refine g_iret fx rt dX12_shift_173 ?_
              refine gPi.mk (Or.inr ⟨ha0, hb0, s1, by rw [← hNe]; exact hso, fun p => by rw [← hNe, hcn p, hie], ?_, hsh, hct⟩)
              rw [← hNe]
              first | (rw [if_pos hodd]; done) | (rw [if_neg hodd]; done)
            · skip
              have hodd : N % 2 = 1 := (nI_eq (b := 1) (by omega) (by decide)).mp c138
              refine g_iconst (v := nI 2) fx dX12_shift_141 (by decide +kernel) ?_
              refine g_aload_n fx 0 dX12_shift_142 rfl ?_
              refine g_get (r := 0) fx lkX12_112 (by omega) h0 rfl dX12_shift_143 ?_
              refine g_iload_n fx 1 dX12_shift_146 rfl ?_
              refine g_iconst (v := nI 2) fx dX12_shift_147 (by decide +kernel) ?_
              refine g_idiv fx dX12_shift_148 (by decide) ?_
              refine g_isi (y := nI (N / 2)) (pk_div (by omega) (by decide) (by decide)) ?_
              refine g_iald (r := 32) (j := (N / 2)) fx (by omega) hsh (nI_toInt (by omega)) (by omega) dX12_shift_149 ?_
              refine g_imul fx dX12_shift_150 ?_
              refine g_goto fx 173 dX12_shift_151 (by decide) ?_
              refine g_iret fx rt dX12_shift_173 ?_
              refine gPi.mk (Or.inr ⟨ha0, hb0, s1, by rw [← hNe]; exact hso, fun p => by rw [← hNe, hcn p, hie], ?_, hsh, hct⟩)
              rw [← hNe]
              first | (rw [if_pos hodd]; done) | (rw [if_neg hodd]; done)
          · skip
            have hlt2 : i < km 0 := by have := (nI_ltI (by omega) (by omega)).mp (Int32.not_le.mp c33); omega
            refine g_iconst (v := nI 0) fx dX12_shift_36 (by decide +kernel) ?_
            refine g_istore_n (L' := [(3, .int (nI 0)), (0, .ref (ad 0)), (1, .int (nI N)), (2, .int (nI i))]) fx dX12_shift_37 (by decide) rfl ?_
            have LP38 : ∀ (M : Nat) (j N2 : Nat) (ct2 : Nat → va_E) (s2 : Nat → Int32), (j ≤ km 1) → (N2 = i * km 1 + j) → (∀ p, p + 1 < N2 → s2 p ≤ s2 (p + 1)) → (∀ p : Int32 → Bool, gCnt p s2 N2 = cD p fs (fun z => fs (15 + z)) (km 1) i + gCnt (fun z => p (fs i - z)) (fun z => fs (15 + z)) j) → (ct2 0 = mObj ad f) → (ct2 6 = .inl (B.2.1 0, 30, .inl fs)) → (ct2 7 = .inl (B.2.1 0, 2, .inl (nF km))) → (ct2 32 = .inl (B.2.1 0, 225, .inl s2)) → (∀ r, r ≠ 32 → ct2 r = ct r) →  (km 1 - j) < M → G B 6 E ad ct2 n 0 0 [(0, .ref (ad 0)), (1, .int (nI N2)), (2, .int (nI i)), (3, .int (nI j))] 38 [] := by
              intro M
              induction M with
              | zero => intro j N2 ct2 s2 _ _ _ _ _ _ _ _ _ hM; exact absurd hM (Nat.not_lt_zero _)
              | succ M ih =>
                intro j N2 ct2 s2 hj hN2 hso2 hcn2 h0 hs hm hsh hct hM
                have ih38 := ih
                refine g_iload_n fx 3 dX12_shift_38 rfl ?_
                refine g_aload_n fx 0 dX12_shift_39 rfl ?_
                refine g_get (r := 0) fx lkX12_28 (by omega) h0 rfl dX12_shift_40 ?_
                refine g_iconst (v := nI 1) fx dX12_shift_43 (by decide +kernel) ?_
                refine g_iald (r := 7) (j := 1) fx (by omega) hm (nI_toInt (by omega)) (by omega) dX12_shift_44 ?_
                refine g_isi (y := nI (km 1)) rfl ?_
                refine g_icmp_ge fx 128 dX12_shift_45 (by decide) (fun c45 => ?_) (fun c45 => ?_)
                · skip
                  have hjb : j = km 1 := by have := (nI_leI (by omega) (by omega)).mp c45; omega
                  refine g_iinc (L' := [(2, .int (nI (i + 1))), (0, .ref (ad 0)), (1, .int (nI N2)), (3, .int (nI j))]) fx (nI (i + 1)) 2 dX12_shift_128 rfl (gInc _) (by decide) rfl ?_
                  refine g_goto fx 26 dX12_shift_131 (by decide) ?_
                  refine g_locals (L' := [(0, .ref (ad 0)), (1, .int (nI N2)), (2, .int (nI (i + 1)))]) [1, 2, 0] rfl ?_
                  exact ih26 (i + 1) N2 _ s2 hlt2 (by rw [hN2, hjb, Nat.add_mul, Nat.one_mul]) hso2 (fun p => by rw [hcn2 p, hjb]; rfl) h0 hs hm hsh hct (by omega)
                · skip
                  have hlt3 : j < km 1 := by have := (nI_ltI (by omega) (by omega)).mp (Int32.not_le.mp c45); omega
                  have hN225 : N2 < 225 := by have : i * km 1 ≤ 14 * km 1 := Nat.mul_le_mul_right _ (by omega); omega
                  refine g_aload_n fx 0 dX12_shift_48 rfl ?_
                  refine g_get (r := 0) fx lkX12_25 (by omega) h0 rfl dX12_shift_49 ?_
                  refine g_iload_n fx 2 dX12_shift_52 rfl ?_
                  refine g_iald (r := 6) (j := i) fx (by omega) hs (nI_toInt (by omega)) (by omega) dX12_shift_53 ?_
                  refine g_aload_n fx 0 dX12_shift_54 rfl ?_
                  refine g_get (r := 0) fx lkX12_25 (by omega) h0 rfl dX12_shift_55 ?_
                  refine g_bipush (v := nI 15) fx dX12_shift_58 (by decide +kernel) ?_
                  refine g_iload_n fx 3 dX12_shift_60 rfl ?_
                  refine g_iaddN fx dX12_shift_61 ?_
                  refine g_iald (r := 6) (j := (15 + j)) fx (by omega) hs (nI_toInt (by omega)) (by omega) dX12_shift_62 ?_
                  refine g_isub fx dX12_shift_63 ?_
                  refine g_istore (L' := [(4, .int ((fs i) - (fs (15 + j)))), (0, .ref (ad 0)), (1, .int (nI N2)), (2, .int (nI i)), (3, .int (nI j))]) fx dX12_shift_64 (by decide) rfl ?_
                  refine g_iload_n fx 2 dX12_shift_66 rfl ?_
                  refine g_istore (L' := [(5, .int (nI N2)), (4, .int ((fs i) - (fs (15 + j)))), (0, .ref (ad 0)), (1, .int (nI N2)), (2, .int (nI i)), (3, .int (nI j))]) fx dX12_shift_67 (by decide) rfl ?_
                  have LP69 : ∀ (M : Nat) (k : Nat) (ct3 : Nat → va_E) (s3 : Nat → Int32), (k ≤ N2) → (∀ z, z < k → s3 z = s2 z) → (∀ z, k ≤ z → z < N2 → s3 (z + 1) = s2 z) → (∀ z, k ≤ z → z < N2 → (fs i - fs (15 + j)) < s2 z) → (ct3 0 = mObj ad f) → (ct3 6 = .inl (B.2.1 0, 30, .inl fs)) → (ct3 7 = .inl (B.2.1 0, 2, .inl (nF km))) → (ct3 32 = .inl (B.2.1 0, 225, .inl s3)) → (∀ r, r ≠ 32 → ct3 r = ct r) →  k < M → G B 6 E ad ct3 n 0 0 [(0, .ref (ad 0)), (1, .int (nI N2)), (2, .int (nI i)), (3, .int (nI j)), (4, .int (fs i - fs (15 + j))), (5, .int (nI k))] 69 [] := by
                    intro M
                    induction M with
                    | zero => intro k ct3 s3 _ _ _ _ _ _ _ _ _ hM; exact absurd hM (Nat.not_lt_zero _)
                    | succ M ih =>
                      intro k ct3 s3 hk h31 h32 h33 h0 hs hm hsh hct hM
                      have ih69 := ih
                      refine g_iload fx 5 dX12_shift_69 rfl ?_
                      refine g_if_le fx 110 dX12_shift_71 (by decide) (fun c71 => ?_) (fun c71 => ?_)
                      · skip
                        have hk0 : k = 0 := by have := (nI_leI (a := k) (b := 0) (by omega) (by decide)).mp c71; omega
                        have hex : 0 < k → s2 (k - 1) ≤ (fs i - fs (15 + j)) := fun q => absurd q (by omega)
                        refine g_aload_n fx 0 dX12_shift_110 rfl ?_
                        refine g_get (r := 0) fx lkX12_112 (by omega) h0 rfl dX12_shift_111 ?_
                        refine g_iload fx 5 dX12_shift_114 rfl ?_
                        refine g_iload fx 4 dX12_shift_116 rfl ?_
                        refine g_iast (r := 32) (j := k) fx (by omega) hsh (nI_toInt (by omega)) (by omega) dX12_shift_118 (fun cu1 ecu1 => ?_)
                        have hct : ∀ r, r ≠ 32 → cu1 r = ct r := fun r _ => (congrFun ecu1 r).trans ((va_up_ne _ _ (by assumption)).trans (hct r (by assumption)))
                        have h0 : cu1 0 = mObj ad f := (congrFun ecu1 _).trans ((va_up_ne _ _ (by omega)).trans h0)
                        have hs : cu1 6 = .inl (B.2.1 0, 30, .inl fs) := (congrFun ecu1 _).trans ((va_up_ne _ _ (by omega)).trans hs)
                        have hm : cu1 7 = .inl (B.2.1 0, 2, .inl (nF km)) := (congrFun ecu1 _).trans ((va_up_ne _ _ (by omega)).trans hm)
                        have hsh : cu1 32 = .inl (B.2.1 0, 225, .inl (va_up s3 k (fs i - fs (15 + j)))) := by rw [ecu1, va_up_self]
                        have hsf : ∀ z, z < N2 + 1 → va_up s3 k (fs i - fs (15 + j)) z = insF s2 k (fs i - fs (15 + j)) z := by
                          intro z hz
                          unfold insF
                          by_cases q1 : z < k
                          · rw [if_pos q1, va_up_ne _ _ (by omega)]; exact h31 z q1
                          · by_cases q2 : z = k
                            · rw [if_neg q1, if_pos q2, q2, va_up_self]
                            · rw [if_neg q1, if_neg q2, va_up_ne _ _ q2]
                              have := h32 (z - 1) (by omega) (by omega)
                              rw [show z - 1 + 1 = z by omega] at this; exact this
                        have hso4 : ∀ p, p + 1 < (N2 + 1) → (va_up s3 k (fs i - fs (15 + j))) p ≤ (va_up s3 k (fs i - fs (15 + j))) (p + 1) := fun p hp => by rw [hsf p (by omega), hsf (p + 1) hp]; exact insF_sort hk hso2 hex h33 p hp
                        have hcn4 : ∀ p : Int32 → Bool, gCnt p (va_up s3 k (fs i - fs (15 + j))) (N2 + 1) = cD p fs (fun z => fs (15 + z)) (km 1) i + gCnt (fun z => p (fs i - z)) (fun z => fs (15 + z)) (j + 1) := fun p => by
                          rw [gCnt_congr (q := p) (g := insF s2 k (fs i - fs (15 + j))) (N2 + 1) (fun z hz => by rw [hsf z hz]), insF_cnt N2 hk, hcn2 p]
                          exact Nat.add_assoc _ _ _
                        refine g_iinc (L' := [(1, .int (nI (N2 + 1))), (0, .ref (ad 0)), (2, .int (nI i)), (3, .int (nI j)), (4, .int (fs i - fs (15 + j))), (5, .int (nI k))]) fx (nI (N2 + 1)) 1 dX12_shift_119 rfl (gInc _) (by decide) rfl ?_
                        refine g_iinc (L' := [(3, .int (nI (j + 1))), (1, .int (nI (N2 + 1))), (0, .ref (ad 0)), (2, .int (nI i)), (4, .int (fs i - fs (15 + j))), (5, .int (nI k))]) fx (nI (j + 1)) 3 dX12_shift_122 rfl (gInc _) (by decide) rfl ?_
                        refine g_goto fx 38 dX12_shift_125 (by decide) ?_
                        refine g_locals (L' := [(0, .ref (ad 0)), (1, .int (nI (N2 + 1))), (2, .int (nI i)), (3, .int (nI (j + 1)))]) [2, 1, 3, 0] rfl ?_
                        exact ih38 (j + 1) (N2 + 1) _ _ hlt3 (by omega) hso4 hcn4 h0 hs hm hsh hct (by omega)
                      · skip
                        have hk0 : 0 < k := Nat.pos_of_ne_zero (fun q => c71 (by rw [q]; decide))
                        refine g_aload_n fx 0 dX12_shift_74 rfl ?_
                        refine g_get (r := 0) fx lkX12_112 (by omega) h0 rfl dX12_shift_75 ?_
                        refine g_iload fx 5 dX12_shift_78 rfl ?_
                        refine g_iconst (v := nI 1) fx dX12_shift_80 (by decide +kernel) ?_
                        refine g_isubN fx dX12_shift_81 (by omega) ?_
                        refine g_iald (r := 32) (j := (k - 1)) fx (by omega) hsh (nI_toInt (by omega)) (by omega) dX12_shift_82 ?_
                        refine g_iload fx 4 dX12_shift_83 rfl ?_
                        refine g_icmp_le fx 110 dX12_shift_85 (by decide) (fun c85 => ?_) (fun c85 => ?_)
                        · skip
                          have hex : 0 < k → s2 (k - 1) ≤ (fs i - fs (15 + j)) := fun q => by rw [← h31 (k - 1) (by omega)]; exact c85
                          refine g_aload_n fx 0 dX12_shift_110 rfl ?_
                          refine g_get (r := 0) fx lkX12_112 (by omega) h0 rfl dX12_shift_111 ?_
                          refine g_iload fx 5 dX12_shift_114 rfl ?_
                          refine g_iload fx 4 dX12_shift_116 rfl ?_
                          refine g_iast (r := 32) (j := k) fx (by omega) hsh (nI_toInt (by omega)) (by omega) dX12_shift_118 (fun cu2 ecu2 => ?_)
                          have hct : ∀ r, r ≠ 32 → cu2 r = ct r := fun r _ => (congrFun ecu2 r).trans ((va_up_ne _ _ (by assumption)).trans (hct r (by assumption)))
                          have h0 : cu2 0 = mObj ad f := (congrFun ecu2 _).trans ((va_up_ne _ _ (by omega)).trans h0)
                          have hs : cu2 6 = .inl (B.2.1 0, 30, .inl fs) := (congrFun ecu2 _).trans ((va_up_ne _ _ (by omega)).trans hs)
                          have hm : cu2 7 = .inl (B.2.1 0, 2, .inl (nF km)) := (congrFun ecu2 _).trans ((va_up_ne _ _ (by omega)).trans hm)
                          have hsh : cu2 32 = .inl (B.2.1 0, 225, .inl (va_up s3 k (fs i - fs (15 + j)))) := by rw [ecu2, va_up_self]
                          have hsf : ∀ z, z < N2 + 1 → va_up s3 k (fs i - fs (15 + j)) z = insF s2 k (fs i - fs (15 + j)) z := by
                            intro z hz
                            unfold insF
                            by_cases q1 : z < k
                            · rw [if_pos q1, va_up_ne _ _ (by omega)]; exact h31 z q1
                            · by_cases q2 : z = k
                              · rw [if_neg q1, if_pos q2, q2, va_up_self]
                              · rw [if_neg q1, if_neg q2, va_up_ne _ _ q2]
                                have := h32 (z - 1) (by omega) (by omega)
                                rw [show z - 1 + 1 = z by omega] at this; exact this
                          have hso4 : ∀ p, p + 1 < (N2 + 1) → (va_up s3 k (fs i - fs (15 + j))) p ≤ (va_up s3 k (fs i - fs (15 + j))) (p + 1) := fun p hp => by rw [hsf p (by omega), hsf (p + 1) hp]; exact insF_sort hk hso2 hex h33 p hp
                          have hcn4 : ∀ p : Int32 → Bool, gCnt p (va_up s3 k (fs i - fs (15 + j))) (N2 + 1) = cD p fs (fun z => fs (15 + z)) (km 1) i + gCnt (fun z => p (fs i - z)) (fun z => fs (15 + z)) (j + 1) := fun p => by
                            rw [gCnt_congr (q := p) (g := insF s2 k (fs i - fs (15 + j))) (N2 + 1) (fun z hz => by rw [hsf z hz]), insF_cnt N2 hk, hcn2 p]
                            exact Nat.add_assoc _ _ _
                          refine g_iinc (L' := [(1, .int (nI (N2 + 1))), (0, .ref (ad 0)), (2, .int (nI i)), (3, .int (nI j)), (4, .int (fs i - fs (15 + j))), (5, .int (nI k))]) fx (nI (N2 + 1)) 1 dX12_shift_119 rfl (gInc _) (by decide) rfl ?_
                          refine g_iinc (L' := [(3, .int (nI (j + 1))), (1, .int (nI (N2 + 1))), (0, .ref (ad 0)), (2, .int (nI i)), (4, .int (fs i - fs (15 + j))), (5, .int (nI k))]) fx (nI (j + 1)) 3 dX12_shift_122 rfl (gInc _) (by decide) rfl ?_
                          refine g_goto fx 38 dX12_shift_125 (by decide) ?_
                          refine g_locals (L' := [(0, .ref (ad 0)), (1, .int (nI (N2 + 1))), (2, .int (nI i)), (3, .int (nI (j + 1)))]) [2, 1, 3, 0] rfl ?_
                          exact ih38 (j + 1) (N2 + 1) _ _ hlt3 (by omega) hso4 hcn4 h0 hs hm hsh hct (by omega)
                        · skip
                          refine g_aload_n fx 0 dX12_shift_88 rfl ?_
                          refine g_get (r := 0) fx lkX12_112 (by omega) h0 rfl dX12_shift_89 ?_
                          refine g_iload fx 5 dX12_shift_92 rfl ?_
                          refine g_aload_n fx 0 dX12_shift_94 rfl ?_
                          refine g_get (r := 0) fx lkX12_112 (by omega) h0 rfl dX12_shift_95 ?_
                          refine g_iload fx 5 dX12_shift_98 rfl ?_
                          refine g_iconst (v := nI 1) fx dX12_shift_100 (by decide +kernel) ?_
                          refine g_isubN fx dX12_shift_101 (by omega) ?_
                          refine g_iald (r := 32) (j := (k - 1)) fx (by omega) hsh (nI_toInt (by omega)) (by omega) dX12_shift_102 ?_
                          refine g_iast (r := 32) (j := k) fx (by omega) hsh (nI_toInt (by omega)) (by omega) dX12_shift_103 (fun cu3 ecu3 => ?_)
                          have hct : ∀ r, r ≠ 32 → cu3 r = ct r := fun r _ => (congrFun ecu3 r).trans ((va_up_ne _ _ (by assumption)).trans (hct r (by assumption)))
                          have h0 : cu3 0 = mObj ad f := (congrFun ecu3 _).trans ((va_up_ne _ _ (by omega)).trans h0)
                          have hs : cu3 6 = .inl (B.2.1 0, 30, .inl fs) := (congrFun ecu3 _).trans ((va_up_ne _ _ (by omega)).trans hs)
                          have hm : cu3 7 = .inl (B.2.1 0, 2, .inl (nF km)) := (congrFun ecu3 _).trans ((va_up_ne _ _ (by omega)).trans hm)
                          have hsh : cu3 32 = .inl (B.2.1 0, 225, .inl (va_up s3 k (s3 (k - 1)))) := by rw [ecu3, va_up_self]
                          refine g_iinc (L' := [(5, .int (nI (k - 1))), (0, .ref (ad 0)), (1, .int (nI N2)), (2, .int (nI i)), (3, .int (nI j)), (4, .int (fs i - fs (15 + j)))]) fx (nI (k - 1)) 5 dX12_shift_104 rfl (gDec1 hk0) (by decide) rfl ?_
                          refine g_goto fx 69 dX12_shift_107 (by decide) ?_
                          refine g_locals (L' := [(0, .ref (ad 0)), (1, .int (nI N2)), (2, .int (nI i)), (3, .int (nI j)), (4, .int (fs i - fs (15 + j))), (5, .int (nI (k - 1)))]) [1, 2, 3, 4, 5, 0] rfl ?_
                          exact ih (k - 1) _ _ (by omega) (fun z hz => by rw [va_up_ne _ _ (by omega)]; exact h31 z (by omega)) (fun z h1 h2 => by by_cases q : z = k - 1; (rw [q, show k - 1 + 1 = k by omega, va_up_self]; exact h31 (k - 1) (by omega)); (rw [va_up_ne _ _ (by omega)]; exact h32 z (by omega) h2)) (fun z h1 h2 => by by_cases q : z = k - 1; (rw [q, ← h31 (k - 1) (by omega)]; exact Int32.not_le.mp c85); (exact h33 z (by omega) h2)) h0 hs hm hsh hct (by omega)
                  refine g_locals (L' := [(0, .ref (ad 0)), (1, .int (nI N2)), (2, .int (nI i)), (3, .int (nI j)), (4, .int ((fs i) - (fs (15 + j)))), (5, .int (nI N2))]) [2, 3, 4, 5, 1, 0] rfl ?_
                  exact LP69 (N2 + 1) N2 ct2 s2 (by omega) (fun _ _ => rfl) (fun z h1 h2 => absurd h2 (by omega)) (fun z h1 h2 => absurd h2 (by omega)) h0 hs hm hsh hct (by omega)
            refine g_locals (L' := [(0, .ref (ad 0)), (1, .int (nI N)), (2, .int (nI i)), (3, .int (nI 0))]) [1, 2, 3, 0] rfl ?_
            exact LP38 (km 1 + 1) 0 N ct1 s1 (by omega) (by omega) hso (fun p => by rw [hcn p]; rfl) h0 hs hm hsh hct (by omega)
      refine g_locals (L' := [(0, .ref (ad 0)), (1, .int (nI 0)), (2, .int (nI 0))]) [2, 1, 0] rfl ?_
      exact LP26 (km 0 + 1) 0 0 ct s0 (by omega) (by simp) (fun p hp => absurd hp (by omega)) (fun p => rfl) h0 hs hm hsh hct (by omega)
    · skip
      have hA : km 0 = 0 ∨ km 1 = 0 := Or.inr ((nI_eq (b := 0) (by omega) (by decide)).mp c15)
      refine g_ldcw fx kcX12_268 dX12_shift_18 ?_
      refine g_iret fx rt dX12_shift_21 ?_
      exact gPi.mk (Or.inl ⟨hA, rfl, rfl⟩)
