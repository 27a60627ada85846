theorem okL_le {N : Nat} (h : okL N) : N ≤ 32768 := by unfold okL at h; omega
theorem pow15 {m : Nat} (h : m ≤ 15) : 2 ^ m ≤ 32768 := Nat.pow_le_pow_right (show 0 < 2 by decide) h
theorem i_le {a : Nat} {x : Int32} {T : Int} (ha : a < 2 ^ 31) (hx : x.toInt = T) : nI a ≤ x ↔ (a : Int) ≤ T := by
  rw [Int32.le_iff_toInt_le, nI_toInt ha, hx]
theorem i_lt {a : Nat} {x : Int32} {T : Int} (ha : a < 2 ^ 31) (hx : x.toInt = T) : x < nI a ↔ T < (a : Int) := by
  rw [Int32.lt_iff_toInt_lt, nI_toInt ha, hx]
theorem i_eq {a : Nat} {x : Int32} {T : Int} (ha : a < 2 ^ 31) (hx : x.toInt = T) : nI a = x ↔ (a : Int) = T := by
  rw [← Int32.toInt_inj, nI_toInt ha, hx]
set_option maxHeartbeats 4000000 in
set_option maxRecDepth 100000 in
theorem c_X8_upTo (B : gB) (ad : Nat → Nat) (ct : Nat → va_E) (n : Nat) (nx mk off : Int32) (ah al : Int64) (hso : ct 81 = .inr (8, [.ref (ad 82), .ref (ad 85), .int nx, .int mk, .int off, .long ah, .long al])) (a : Nat → Nat) (m N1 N2 : Nat) (hSS : SS B ad ct a m N1 N2) (hn : 178 ≤ n) (hm : m ≤ 30) (ha : ∀ j, j < m → a j ≤ 200000) (x : Int32) (T : Int) (hT : (off + x).toInt = T) (hTb : T.natAbs ≤ 1000000000) : Ctr B yX8_upTo cX8_upTo 10 (some .long) 0 0 0 0 ad ct n [.ref (ad 81), .int x] (gPlp ad ct n (fun r => r = lN (upC (ev a) (od a) ((m + 1) / 2) (m / 2) T) - ah)) := by
  obtain ⟨sz1, s1, t1, sz2, s2, t2, h82, h83, h84, h85, h86, h87, hS1, hS2, hz1, hz2, hL1, hL2⟩ := hSS
  have hN1 := okL_le hL1
  have hN2 := okL_le hL2
  have hA1 : sumF (ev a) ((m + 1) / 2) ≤ 3000000 := Nat.le_trans (sumF_le _ (fun i hi => ha _ (by omega))) (show (m + 1) / 2 * 200000 ≤ 3000000 by omega)
  have hA2 : sumF (od a) (m / 2) ≤ 3000000 := Nat.le_trans (sumF_le _ (fun i hi => ha _ (by omega))) (show m / 2 * 200000 ≤ 3000000 by omega)
  have hb1 : ∀ i, i < sz1 → s1 i ≤ 3000000 := fun i hi => Nat.le_trans (hS1.2.1 i hi) hA1
  have hb2 : ∀ i, i < sz2 → s2 i ≤ 3000000 := fun i hi => Nat.le_trans (hS2.2.1 i hi) hA2
  have hp1 : 2 ^ ((m + 1) / 2) ≤ 32768 := pow15 (by omega)
  have hp2 : 2 ^ (m / 2) ≤ 32768 := pow15 (by omega)
  have hc1 : ∀ i, i < sz1 → t1 i ≤ 32768 := fun i hi => Nat.le_trans (hS1.t_le hi) hp1
  have hc2 : ∀ i, i < sz2 → t2 i ≤ 32768 := fun i hi => Nat.le_trans (hS2.t_le hi) hp2
  refine Ctr.ofG (L := [(0, .ref (ad 81)), (1, .int x)]) (by decide +kernel) rfl (Nat.le_of_ble_eq_true rfl) (fun E fx rt hnm => ?_)
  refine g_aload_n fx 0 dX8_upTo_0 rfl ?_
  refine g_get (r := 81) fx lkX8_27 (by omega) hso rfl dX8_upTo_1 ?_
  refine g_iload_n fx 1 dX8_upTo_4 rfl ?_
  refine g_iadd fx dX8_upTo_5 ?_
  refine g_topi (fun tg etg => ?_)
  have htg : tg.toInt = T := by rw [etg]; exact hT
  refine g_istore_n (L' := [(2, .int tg), (0, .ref (ad 81)), (1, .int x)]) fx dX8_upTo_6 (by decide) rfl ?_
  refine g_aload_n fx 1 dX8_upTo_7 rfl ?_
  refine g_get (r := 81) fx lkX8_16 (by omega) hso rfl dX8_upTo_8 ?_
  refine g_get (r := 85) fx lkX8_46 (by omega) h85 rfl dX8_upTo_11 ?_
  refine g_iconst (v := nI 1) fx dX8_upTo_14 (by decide +kernel) ?_
  refine g_isub fx dX8_upTo_15 ?_
  refine g_isi (y := nI sz2 - nI 1) rfl ?_
  refine g_istore_n (L' := [(3, .int (nI sz2 - nI 1)), (2, .int tg), (0, .ref (ad 81)), (1, .int x)]) fx dX8_upTo_16 (by decide) rfl ?_
  refine g_lconst (v := lN 0) fx dX8_upTo_17 (by decide +kernel) ?_
  refine g_lstore (L' := [(4, .long (lN 0)), (3, .int (nI sz2 - nI 1)), (2, .int tg), (0, .ref (ad 81)), (1, .int x)]) fx dX8_upTo_18 (by decide) rfl ?_
  refine g_iconst (v := nI 0) fx dX8_upTo_20 (by decide +kernel) ?_
  refine g_istore (L' := [(6, .int (nI 0)), (4, .long (lN 0)), (3, .int (nI sz2 - nI 1)), (2, .int tg), (0, .ref (ad 81)), (1, .int x)]) fx dX8_upTo_21 (by decide) rfl ?_
  have LP23 : ∀ (M : Nat) (k : Nat), (k ≤ sz2) →  (sz2 - k) < M → G B 10 E ad ct n 0 0 [(0, .ref (ad 81)), (2, .int tg), (3, .int (nI sz2 - nI 1)), (4, .long (lN (sumF t2 k))), (6, .int (nI k))] 23 [] := by
    intro M
    induction M with
    | zero => intro k _ hM; exact absurd hM (Nat.not_lt_zero _)
    | succ M ih =>
      intro k hk hM
      have ih23 := ih
      refine g_iload fx 4 dX8_upTo_23 rfl ?_
      refine g_iload_n fx 2 dX8_upTo_25 rfl ?_
      refine g_icmp_gt fx 51 dX8_upTo_26 (by decide) (fun c26 => ?_) (fun c26 => ?_)
      · skip
        have hke : k = sz2 := by have := (m1_gt (by omega) (by omega)).mp c26; omega
        refine g_relocal (L' := [(0, .ref (ad 81)), (2, .int tg), (3, .int (nI sz2 - nI 1)), (4, .long (lN (sumF t2 sz2))), (6, .int (nI k))]) (by rw [hke]) ?_
        refine g_lconst (v := lN 0) fx dX8_upTo_51 (by decide +kernel) ?_
        refine g_lstore (L' := [(6, .long (lN 0)), (0, .ref (ad 81)), (2, .int tg), (3, .int (nI sz2 - nI 1)), (4, .long (lN (sumF t2 sz2)))]) fx dX8_upTo_52 (by decide) rfl ?_
        refine g_iconst (v := nI 0) fx dX8_upTo_54 (by decide +kernel) ?_
        refine g_istore (L' := [(8, .int (nI 0)), (6, .long (lN 0)), (0, .ref (ad 81)), (2, .int tg), (3, .int (nI sz2 - nI 1)), (4, .long (lN (sumF t2 sz2)))]) fx dX8_upTo_55 (by decide) rfl ?_
        have LP57 : ∀ (M : Nat) (i j c : Nat), (i ≤ sz1) → (j ≤ sz2) → (∀ u k, i ≤ u → u < sz1 → j ≤ k → k < sz2 → T < (s1 u : Int) + (s2 k : Int)) → (c = sumF (upF s1 t1 s2 t2 sz2 T) i) →  (sz1 - i) < M → G B 10 E ad ct n 0 0 [(0, .ref (ad 81)), (2, .int tg), (3, .int (nI j - nI 1)), (4, .long (lN (sumF t2 j))), (6, .long (lN c)), (8, .int (nI i))] 57 [] := by
          intro M
          induction M with
          | zero => intro i j c _ _ _ _ hM; exact absurd hM (Nat.not_lt_zero _)
          | succ M ih =>
            intro i j c hi hj hgt hc hM
            have ih57 := ih
            refine g_iload fx 5 dX8_upTo_57 rfl ?_
            refine g_aload_n fx 0 dX8_upTo_59 rfl ?_
            refine g_get (r := 81) fx lkX8_10 (by omega) hso rfl dX8_upTo_60 ?_
            refine g_get (r := 82) fx lkX8_46 (by omega) h82 rfl dX8_upTo_63 ?_
            refine g_icmp_ge fx 151 dX8_upTo_66 (by decide) (fun c66 => ?_) (fun c66 => ?_)
            · skip
              have hie : i = sz1 := by have := (nI_leI (by omega) (by omega)).mp c66; omega
              have hcE : c = sumF (upF s1 t1 s2 t2 sz2 T) sz1 := by rw [hc, hie]
              refine g_lload fx 4 dX8_upTo_151 rfl ?_
              refine g_aload_n fx 0 dX8_upTo_153 rfl ?_
              refine g_get (r := 81) fx lkX8_30 (by omega) hso rfl dX8_upTo_154 ?_
              refine g_lsub fx dX8_upTo_157 ?_
              refine g_lret fx rt dX8_upTo_158 ?_
              exact gPlp.mk (by rw [hcE, up_is hS1 hS2])
            · skip
              have hil : i < sz1 := (nI_ltI (by omega) (by omega)).mp (Int32.not_le.mp c66)
              have hbi := hb1 i hil
              have hci := hc1 i hil
              refine g_iload_n fx 2 dX8_upTo_69 rfl ?_
              refine g_if_lt fx 151 dX8_upTo_70 (by decide) (fun c70 => ?_) (fun c70 => ?_)
              · skip
                have hj0 : j = 0 := (m1_neg (by omega)).mp c70
                have hcE : c = sumF (upF s1 t1 s2 t2 sz2 T) sz1 := by
                  rw [hc, sumF_stop (i := i) sz1 hi (fun u h1 h2 => ?_)]
                  unfold upF
                  rw [up_cut (j := 0) sz2 (Nat.zero_le _) (fun k hk => absurd hk (Nat.not_lt_zero _)) (fun k h3 h4 => by have := hgt u k h1 h2 (by omega) h4; omega)]
                  exact Nat.mul_zero _
                refine g_lload fx 4 dX8_upTo_151 rfl ?_
                refine g_aload_n fx 0 dX8_upTo_153 rfl ?_
                refine g_get (r := 81) fx lkX8_30 (by omega) hso rfl dX8_upTo_154 ?_
                refine g_lsub fx dX8_upTo_157 ?_
                refine g_lret fx rt dX8_upTo_158 ?_
                exact gPlp.mk (by rw [hcE, up_is hS1 hS2])
              · skip
                have hjp : 0 < j := Nat.pos_of_ne_zero (fun q => c70 ((m1_neg (by omega)).mpr q))
                refine g_iload_n fx 1 dX8_upTo_73 rfl ?_
                refine g_aload_n fx 0 dX8_upTo_74 rfl ?_
                refine g_get (r := 81) fx lkX8_10 (by omega) hso rfl dX8_upTo_75 ?_
                refine g_get (r := 82) fx lkX8_53 (by omega) h82 rfl dX8_upTo_78 ?_
                refine g_iload fx 5 dX8_upTo_81 rfl ?_
                refine g_iald (r := 83) (j := i) fx (by omega) h83 (nI_toInt (by omega)) (by omega) dX8_upTo_83 ?_
                refine g_isi (y := nI (s1 i)) rfl ?_
                refine g_isub fx dX8_upTo_84 ?_
                refine g_topi (fun rs ers => ?_)
                have hrs : rs.toInt = T - (s1 i : Int) := by rw [ers]; exact sub_toInt htg (nI_toInt (by omega)) (by omega)
                refine g_istore (L' := [(9, .int rs), (0, .ref (ad 81)), (2, .int tg), (3, .int (nI j - nI 1)), (4, .long (lN (sumF t2 j))), (6, .long (lN c)), (8, .int (nI i))]) fx dX8_upTo_85 (by decide) rfl ?_
                have LP87 : ∀ (M : Nat) (j : Nat), (j ≤ sz2) → (∀ k, j ≤ k → k < sz2 → T < (s1 i : Int) + (s2 k : Int)) →  j < M → G B 10 E ad ct n 0 0 [(0, .ref (ad 81)), (2, .int tg), (3, .int (nI j - nI 1)), (4, .long (lN (sumF t2 j))), (6, .long (lN c)), (8, .int (nI i)), (9, .int rs)] 87 [] := by
                  intro M
                  induction M with
                  | zero => intro j _ _ hM; exact absurd hM (Nat.not_lt_zero _)
                  | succ M ih =>
                    intro j hj hgt2 hM
                    have ih87 := ih
                    refine g_iload_n fx 2 dX8_upTo_87 rfl ?_
                    refine g_if_lt fx 126 dX8_upTo_88 (by decide) (fun c88 => ?_) (fun c88 => ?_)
                    · skip
                      have hj0 : j = 0 := (m1_neg (by omega)).mp c88
                      have hrow : (upF s1 t1 s2 t2 sz2 T) i = t1 i * sumF t2 j := by unfold upF; rw [up_cut sz2 hj (fun k hk => absurd hk (by omega)) (fun k h1 h2 => by have := hgt2 k h1 h2; omega)]
                      refine g_lload fx 4 dX8_upTo_126 rfl ?_
                      refine g_aload_n fx 0 dX8_upTo_128 rfl ?_
                      refine g_get (r := 81) fx lkX8_10 (by omega) hso rfl dX8_upTo_129 ?_
                      refine g_get (r := 82) fx lkX8_49 (by omega) h82 rfl dX8_upTo_132 ?_
                      refine g_iload fx 5 dX8_upTo_135 rfl ?_
                      refine g_iald (r := 84) (j := i) fx (by omega) h84 (nI_toInt (by omega)) (by omega) dX8_upTo_137 ?_
                      refine g_isi (y := nI (t1 i)) rfl ?_
                      refine g_i2l fx dX8_upTo_138 ?_
                      refine g_isl (y := lN (t1 i)) (nI_l (by omega)) ?_
                      refine g_lload fx 3 dX8_upTo_139 rfl ?_
                      refine g_lmul fx dX8_upTo_141 ?_
                      refine g_isl (y := lN (t1 i * sumF t2 j)) (lN_mul _ _) ?_
                      refine g_ladd fx dX8_upTo_142 ?_
                      refine g_isl (y := lN (c + t1 i * sumF t2 j)) (lN_add _ _) ?_
                      refine g_lstore (L' := [(6, .long (lN (c + t1 i * sumF t2 j))), (0, .ref (ad 81)), (2, .int tg), (3, .int (nI j - nI 1)), (4, .long (lN (sumF t2 j))), (8, .int (nI i)), (9, .int rs)]) fx dX8_upTo_143 (by decide) rfl ?_
                      refine g_iinc (L' := [(8, .int (nI (i + 1))), (6, .long (lN (c + t1 i * sumF t2 j))), (0, .ref (ad 81)), (2, .int tg), (3, .int (nI j - nI 1)), (4, .long (lN (sumF t2 j))), (9, .int rs)]) fx (nI (i + 1)) 5 dX8_upTo_145 rfl (gInc _) (by decide) rfl ?_
                      refine g_goto fx 57 dX8_upTo_148 (by decide) ?_
                      refine g_locals (L' := [(0, .ref (ad 81)), (2, .int tg), (3, .int (nI j - nI 1)), (4, .long (lN (sumF t2 j))), (6, .long (lN (c + t1 i * sumF t2 j))), (8, .int (nI (i + 1)))]) [2, 3, 4, 5, 1, 0] rfl ?_
                      exact ih57 (i + 1) j (c + t1 i * sumF t2 j) (by omega) hj (fun u k h1 h2 h3 h4 => by have e1 := hgt2 k h3 h4; have e2 := hS1.mono (show i ≤ u by omega) h2; omega) (by rw [hc]; show _ = sumF (upF s1 t1 s2 t2 sz2 T) i + (upF s1 t1 s2 t2 sz2 T) i; rw [hrow]) (by omega)
                    · skip
                      have hj0 : 0 < j := Nat.pos_of_ne_zero (fun q => c88 ((m1_neg (by omega)).mpr q))
                      have hbj := hb2 (j - 1) (by omega)
                      have hcj := hc2 (j - 1) (by omega)
                      refine g_aload_n fx 0 dX8_upTo_91 rfl ?_
                      refine g_get (r := 81) fx lkX8_16 (by omega) hso rfl dX8_upTo_92 ?_
                      refine g_get (r := 85) fx lkX8_53 (by omega) h85 rfl dX8_upTo_95 ?_
                      refine g_iload_n fx 2 dX8_upTo_98 rfl ?_
                      refine g_iald (r := 86) (j := (j - 1)) fx (by omega) h86 (m1_ix hj0 (by omega)) (by omega) dX8_upTo_99 ?_
                      refine g_isi (y := nI (s2 (j - 1))) rfl ?_
                      refine g_iload fx 6 dX8_upTo_100 rfl ?_
                      refine g_icmp_le fx 126 dX8_upTo_102 (by decide) (fun c102 => ?_) (fun c102 => ?_)
                      · skip
                        have hle := (i_le (by omega) hrs).mp c102
                        have hrow : (upF s1 t1 s2 t2 sz2 T) i = t1 i * sumF t2 j := by unfold upF; rw [up_cut sz2 hj (fun k hk => by have := hS2.mono (show k ≤ j - 1 by omega) (by omega); omega) (fun k h1 h2 => by have := hgt2 k h1 h2; omega)]
                        refine g_lload fx 4 dX8_upTo_126 rfl ?_
                        refine g_aload_n fx 0 dX8_upTo_128 rfl ?_
                        refine g_get (r := 81) fx lkX8_10 (by omega) hso rfl dX8_upTo_129 ?_
                        refine g_get (r := 82) fx lkX8_49 (by omega) h82 rfl dX8_upTo_132 ?_
                        refine g_iload fx 5 dX8_upTo_135 rfl ?_
                        refine g_iald (r := 84) (j := i) fx (by omega) h84 (nI_toInt (by omega)) (by omega) dX8_upTo_137 ?_
                        refine g_isi (y := nI (t1 i)) rfl ?_
                        refine g_i2l fx dX8_upTo_138 ?_
                        refine g_isl (y := lN (t1 i)) (nI_l (by omega)) ?_
                        refine g_lload fx 3 dX8_upTo_139 rfl ?_
                        refine g_lmul fx dX8_upTo_141 ?_
                        refine g_isl (y := lN (t1 i * sumF t2 j)) (lN_mul _ _) ?_
                        refine g_ladd fx dX8_upTo_142 ?_
                        refine g_isl (y := lN (c + t1 i * sumF t2 j)) (lN_add _ _) ?_
                        refine g_lstore (L' := [(6, .long (lN (c + t1 i * sumF t2 j))), (0, .ref (ad 81)), (2, .int tg), (3, .int (nI j - nI 1)), (4, .long (lN (sumF t2 j))), (8, .int (nI i)), (9, .int rs)]) fx dX8_upTo_143 (by decide) rfl ?_
                        refine g_iinc (L' := [(8, .int (nI (i + 1))), (6, .long (lN (c + t1 i * sumF t2 j))), (0, .ref (ad 81)), (2, .int tg), (3, .int (nI j - nI 1)), (4, .long (lN (sumF t2 j))), (9, .int rs)]) fx (nI (i + 1)) 5 dX8_upTo_145 rfl (gInc _) (by decide) rfl ?_
                        refine g_goto fx 57 dX8_upTo_148 (by decide) ?_
                        refine g_locals (L' := [(0, .ref (ad 81)), (2, .int tg), (3, .int (nI j - nI 1)), (4, .long (lN (sumF t2 j))), (6, .long (lN (c + t1 i * sumF t2 j))), (8, .int (nI (i + 1)))]) [2, 3, 4, 5, 1, 0] rfl ?_
                        exact ih57 (i + 1) j (c + t1 i * sumF t2 j) (by omega) hj (fun u k h1 h2 h3 h4 => by have e1 := hgt2 k h3 h4; have e2 := hS1.mono (show i ≤ u by omega) h2; omega) (by rw [hc]; show _ = sumF (upF s1 t1 s2 t2 sz2 T) i + (upF s1 t1 s2 t2 sz2 T) i; rw [hrow]) (by omega)
                      · skip
                        have hab : T < (s1 i : Int) + (s2 (j - 1) : Int) := by have := mt (i_le (by omega) hrs).mpr c102; omega
                        have hsp := sumF_pred (f := t2) hj0
                        refine g_lload fx 3 dX8_upTo_105 rfl ?_
                        refine g_aload_n fx 0 dX8_upTo_107 rfl ?_
                        refine g_get (r := 81) fx lkX8_16 (by omega) hso rfl dX8_upTo_108 ?_
                        refine g_get (r := 85) fx lkX8_49 (by omega) h85 rfl dX8_upTo_111 ?_
                        refine g_iload_n fx 2 dX8_upTo_114 rfl ?_
                        refine g_iald (r := 87) (j := (j - 1)) fx (by omega) h87 (m1_ix hj0 (by omega)) (by omega) dX8_upTo_115 ?_
                        refine g_isi (y := nI (t2 (j - 1))) rfl ?_
                        refine g_i2l fx dX8_upTo_116 ?_
                        refine g_isl (y := lN (t2 (j - 1))) (nI_l (by omega)) ?_
                        refine g_lsub fx dX8_upTo_117 ?_
                        refine g_isl (y := lN (sumF t2 (j - 1))) (by rw [lN_sub (by omega), hsp, Nat.add_sub_cancel]) ?_
                        refine g_lstore (L' := [(4, .long (lN (sumF t2 (j - 1)))), (0, .ref (ad 81)), (2, .int tg), (3, .int (nI j - nI 1)), (6, .long (lN c)), (8, .int (nI i)), (9, .int rs)]) fx dX8_upTo_118 (by decide) rfl ?_
                        refine g_iinc (L' := [(3, .int (nI (j - 1) - nI 1)), (4, .long (lN (sumF t2 (j - 1)))), (0, .ref (ad 81)), (2, .int tg), (6, .long (lN c)), (8, .int (nI i)), (9, .int rs)]) fx (nI (j - 1) - nI 1) 3 dX8_upTo_120 rfl (m1_dec hj0) (by decide) rfl ?_
                        refine g_goto fx 87 dX8_upTo_123 (by decide) ?_
                        refine g_locals (L' := [(0, .ref (ad 81)), (2, .int tg), (3, .int (nI (j - 1) - nI 1)), (4, .long (lN (sumF t2 (j - 1)))), (6, .long (lN c)), (8, .int (nI i)), (9, .int rs)]) [2, 3, 0, 1, 4, 5, 6] rfl ?_
                        exact ih87 (j - 1) (by omega) (fun k h1 h2 => by by_cases q : k = j - 1; (rw [q]; exact hab); (exact hgt2 k (by omega) h2)) (by omega)
                refine g_locals (L' := [(0, .ref (ad 81)), (2, .int tg), (3, .int (nI j - nI 1)), (4, .long (lN (sumF t2 j))), (6, .long (lN c)), (8, .int (nI i)), (9, .int rs)]) [1, 2, 3, 4, 5, 6, 0] rfl ?_
                exact LP87 (j + 1) j hj (fun k h1 h2 => hgt i k (Nat.le_refl _) hil h1 h2) (by omega)
        refine g_locals (L' := [(0, .ref (ad 81)), (2, .int tg), (3, .int (nI sz2 - nI 1)), (4, .long (lN (sumF t2 sz2))), (6, .long (lN 0)), (8, .int (nI 0))]) [2, 3, 4, 5, 1, 0] rfl ?_
        exact LP57 (sz1 + 1) 0 sz2 0 (by omega) (Nat.le_refl _) (fun u k _ _ h1 h2 => absurd h2 (by omega)) rfl (by omega)
      · skip
        have hlt : k < sz2 := Nat.lt_of_not_le (fun q => c26 ((m1_gt (by omega) (by omega)).mpr q))
        have hct := hc2 k hlt
        refine g_lload fx 3 dX8_upTo_29 rfl ?_
        refine g_aload_n fx 0 dX8_upTo_31 rfl ?_
        refine g_get (r := 81) fx lkX8_16 (by omega) hso rfl dX8_upTo_32 ?_
        refine g_get (r := 85) fx lkX8_49 (by omega) h85 rfl dX8_upTo_35 ?_
        refine g_iload fx 4 dX8_upTo_38 rfl ?_
        refine g_iald (r := 87) (j := k) fx (by omega) h87 (nI_toInt (by omega)) (by omega) dX8_upTo_40 ?_
        refine g_isi (y := nI (t2 k)) rfl ?_
        refine g_i2l fx dX8_upTo_41 ?_
        refine g_isl (y := lN (t2 k)) (nI_l (by omega)) ?_
        refine g_ladd fx dX8_upTo_42 ?_
        refine g_isl (y := lN (sumF t2 (k + 1))) (lN_add _ _) ?_
        refine g_lstore (L' := [(4, .long (lN (sumF t2 (k + 1)))), (0, .ref (ad 81)), (2, .int tg), (3, .int (nI sz2 - nI 1)), (6, .int (nI k))]) fx dX8_upTo_43 (by decide) rfl ?_
        refine g_iinc (L' := [(6, .int (nI (k + 1))), (4, .long (lN (sumF t2 (k + 1)))), (0, .ref (ad 81)), (2, .int tg), (3, .int (nI sz2 - nI 1))]) fx (nI (k + 1)) 4 dX8_upTo_45 rfl (gInc _) (by decide) rfl ?_
        refine g_goto fx 23 dX8_upTo_48 (by decide) ?_
        refine g_locals (L' := [(0, .ref (ad 81)), (2, .int tg), (3, .int (nI sz2 - nI 1)), (4, .long (lN (sumF t2 (k + 1)))), (6, .int (nI (k + 1)))]) [2, 3, 4, 1, 0] rfl ?_
        exact ih23 (k + 1) (by omega) (by omega)
  refine g_locals (L' := [(0, .ref (ad 81)), (2, .int tg), (3, .int (nI sz2 - nI 1)), (4, .long (lN 0)), (6, .int (nI 0))]) [4, 3, 2, 1, 0] rfl ?_
  exact LP23 (sz2 + 1) 0 (by omega) (by omega)
set_option maxHeartbeats 4000000 in
set_option maxRecDepth 100000 in
theorem c_X8_exactly (B : gB) (ad : Nat → Nat) (ct : Nat → va_E) (n : Nat) (nx mk off : Int32) (ah al : Int64) (hso : ct 81 = .inr (8, [.ref (ad 82), .ref (ad 85), .int nx, .int mk, .int off, .long ah, .long al])) (a : Nat → Nat) (m N1 N2 : Nat) (hSS : SS B ad ct a m N1 N2) (hn : 178 ≤ n) (hm : m ≤ 30) (ha : ∀ j, j < m → a j ≤ 200000) (x : Int32) (T : Int) (hT : (off + x).toInt = T) (hTb : T.natAbs ≤ 1000000000) : Ctr B yX8_exactly cX8_exactly 9 (some .long) 0 0 0 0 ad ct n [.ref (ad 81), .int x] (gPlp ad ct n (fun r => r = lN (exC (ev a) (od a) ((m + 1) / 2) (m / 2) T))) := by
  obtain ⟨sz1, s1, t1, sz2, s2, t2, h82, h83, h84, h85, h86, h87, hS1, hS2, hz1, hz2, hL1, hL2⟩ := hSS
  have hN1 := okL_le hL1
  have hN2 := okL_le hL2
  have hA1 : sumF (ev a) ((m + 1) / 2) ≤ 3000000 := Nat.le_trans (sumF_le _ (fun i hi => ha _ (by omega))) (show (m + 1) / 2 * 200000 ≤ 3000000 by omega)
  have hA2 : sumF (od a) (m / 2) ≤ 3000000 := Nat.le_trans (sumF_le _ (fun i hi => ha _ (by omega))) (show m / 2 * 200000 ≤ 3000000 by omega)
  have hb1 : ∀ i, i < sz1 → s1 i ≤ 3000000 := fun i hi => Nat.le_trans (hS1.2.1 i hi) hA1
  have hb2 : ∀ i, i < sz2 → s2 i ≤ 3000000 := fun i hi => Nat.le_trans (hS2.2.1 i hi) hA2
  have hp1 : 2 ^ ((m + 1) / 2) ≤ 32768 := pow15 (by omega)
  have hp2 : 2 ^ (m / 2) ≤ 32768 := pow15 (by omega)
  have hc1 : ∀ i, i < sz1 → t1 i ≤ 32768 := fun i hi => Nat.le_trans (hS1.t_le hi) hp1
  have hc2 : ∀ i, i < sz2 → t2 i ≤ 32768 := fun i hi => Nat.le_trans (hS2.t_le hi) hp2
  refine Ctr.ofG (L := [(0, .ref (ad 81)), (1, .int x)]) (by decide +kernel) rfl (Nat.le_of_ble_eq_true rfl) (fun E fx rt hnm => ?_)
  refine g_aload_n fx 0 dX8_exactly_0 rfl ?_
  refine g_get (r := 81) fx lkX8_27 (by omega) hso rfl dX8_exactly_1 ?_
  refine g_iload_n fx 1 dX8_exactly_4 rfl ?_
  refine g_iadd fx dX8_exactly_5 ?_
  refine g_topi (fun tg etg => ?_)
  have htg : tg.toInt = T := by rw [etg]; exact hT
  refine g_istore_n (L' := [(2, .int tg), (0, .ref (ad 81)), (1, .int x)]) fx dX8_exactly_6 (by decide) rfl ?_
  refine g_iconst (v := nI 0) fx dX8_exactly_7 (by decide +kernel) ?_
  refine g_istore_n (L' := [(3, .int (nI 0)), (2, .int tg), (0, .ref (ad 81)), (1, .int x)]) fx dX8_exactly_8 (by decide) rfl ?_
  refine g_aload_n fx 2 dX8_exactly_9 rfl ?_
  refine g_get (r := 81) fx lkX8_16 (by omega) hso rfl dX8_exactly_10 ?_
  refine g_get (r := 85) fx lkX8_46 (by omega) h85 rfl dX8_exactly_13 ?_
  refine g_iconst (v := nI 1) fx dX8_exactly_16 (by decide +kernel) ?_
  refine g_isub fx dX8_exactly_17 ?_
  refine g_isi (y := nI sz2 - nI 1) rfl ?_
  refine g_istore (L' := [(4, .int (nI sz2 - nI 1)), (3, .int (nI 0)), (2, .int tg), (0, .ref (ad 81)), (1, .int x)]) fx dX8_exactly_18 (by decide) rfl ?_
  refine g_lconst (v := lN 0) fx dX8_exactly_20 (by decide +kernel) ?_
  refine g_lstore (L' := [(5, .long (lN 0)), (4, .int (nI sz2 - nI 1)), (3, .int (nI 0)), (2, .int tg), (0, .ref (ad 81)), (1, .int x)]) fx dX8_exactly_21 (by decide) rfl ?_
  refine g_aload_n fx 4 dX8_exactly_23 rfl ?_
  refine g_get (r := 81) fx lkX8_10 (by omega) hso rfl dX8_exactly_24 ?_
  refine g_get (r := 82) fx lkX8_46 (by omega) h82 rfl dX8_exactly_27 ?_
  refine g_aload_n fx 4 dX8_exactly_30 rfl ?_
  refine g_get (r := 81) fx lkX8_16 (by omega) hso rfl dX8_exactly_31 ?_
  refine g_get (r := 85) fx lkX8_46 (by omega) h85 rfl dX8_exactly_34 ?_
  refine g_iaddN fx dX8_exactly_37 ?_
  refine g_istore (L' := [(7, .int (nI (sz1 + sz2))), (5, .long (lN 0)), (4, .int (nI sz2 - nI 1)), (3, .int (nI 0)), (2, .int tg), (0, .ref (ad 81)), (1, .int x)]) fx dX8_exactly_38 (by decide) rfl ?_
  have LP40 : ∀ (M : Nat) (i j c l : Nat), (i ≤ sz1) → (j ≤ sz2) → (c + exR s1 t1 s2 t2 sz1 T i j = exR s1 t1 s2 t2 sz1 T 0 sz2) → (l = (sz1 - i) + j) →  ((sz1 - i) + j) < M → G B 9 E ad ct n 0 0 [(0, .ref (ad 81)), (2, .int tg), (3, .int (nI i)), (4, .int (nI j - nI 1)), (5, .long (lN c)), (7, .int (nI l))] 40 [] := by
    intro M
    induction M with
    | zero => intro i j c l _ _ _ _ hM; exact absurd hM (Nat.not_lt_zero _)
    | succ M ih =>
      intro i j c l hi hj hc hl hM
      have ih40 := ih
      refine g_iload fx 5 dX8_exactly_40 rfl ?_
      refine g_if_le fx 137 dX8_exactly_42 (by decide) (fun c42 => ?_) (fun c42 => ?_)
      · skip
        have hl0 : l ≤ 0 := (nI_leI (b := 0) (by omega) (by omega)).mp (show nI l ≤ nI 0 from c42)
        have hcE : c = exR s1 t1 s2 t2 sz1 T 0 sz2 := by rw [exR_out (show sz1 ≤ i by omega)] at hc; exact hc
        refine g_lload fx 4 dX8_exactly_137 rfl ?_
        refine g_lret fx rt dX8_exactly_139 ?_
        exact gPlp.mk (by rw [hcE, ex_is hS1 hS2])
      · skip
        have hl1 : 0 < l := Nat.pos_of_ne_zero (fun q => c42 (by rw [q]; decide))
        refine g_iload_n fx 2 dX8_exactly_45 rfl ?_
        refine g_aload_n fx 0 dX8_exactly_46 rfl ?_
        refine g_get (r := 81) fx lkX8_10 (by omega) hso rfl dX8_exactly_47 ?_
        refine g_get (r := 82) fx lkX8_46 (by omega) h82 rfl dX8_exactly_50 ?_
        refine g_icmp_ge fx 137 dX8_exactly_53 (by decide) (fun c53 => ?_) (fun c53 => ?_)
        · skip
          have hcE : c = exR s1 t1 s2 t2 sz1 T 0 sz2 := by have := (nI_leI (by omega) (by omega)).mp c53; rw [exR_out this] at hc; exact hc
          refine g_lload fx 4 dX8_exactly_137 rfl ?_
          refine g_lret fx rt dX8_exactly_139 ?_
          exact gPlp.mk (by rw [hcE, ex_is hS1 hS2])
        · skip
          have hil : i < sz1 := (nI_ltI (by omega) (by omega)).mp (Int32.not_le.mp c53)
          have hbi := hb1 i hil
          have hci := hc1 i hil
          refine g_iload fx 3 dX8_exactly_56 rfl ?_
          refine g_if_lt fx 137 dX8_exactly_58 (by decide) (fun c58 => ?_) (fun c58 => ?_)
          · skip
            have hj0 : j = 0 := (m1_neg (by omega)).mp c58
            have hcE : c = exR s1 t1 s2 t2 sz1 T 0 sz2 := by rw [hj0, exR_end] at hc; exact hc
            refine g_lload fx 4 dX8_exactly_137 rfl ?_
            refine g_lret fx rt dX8_exactly_139 ?_
            exact gPlp.mk (by rw [hcE, ex_is hS1 hS2])
          · skip
            have hj0 : 0 < j := Nat.pos_of_ne_zero (fun q => c58 ((m1_neg (by omega)).mpr q))
            have hbj := hb2 (j - 1) (by omega)
            have hcj := hc2 (j - 1) (by omega)
            refine g_aload_n fx 0 dX8_exactly_61 rfl ?_
            refine g_get (r := 81) fx lkX8_10 (by omega) hso rfl dX8_exactly_62 ?_
            refine g_get (r := 82) fx lkX8_53 (by omega) h82 rfl dX8_exactly_65 ?_
            refine g_iload_n fx 2 dX8_exactly_68 rfl ?_
            refine g_iald (r := 83) (j := i) fx (by omega) h83 (nI_toInt (by omega)) (by omega) dX8_exactly_69 ?_
            refine g_isi (y := nI (s1 i)) rfl ?_
            refine g_aload_n fx 0 dX8_exactly_70 rfl ?_
            refine g_get (r := 81) fx lkX8_16 (by omega) hso rfl dX8_exactly_71 ?_
            refine g_get (r := 85) fx lkX8_53 (by omega) h85 rfl dX8_exactly_74 ?_
            refine g_iload fx 3 dX8_exactly_77 rfl ?_
            refine g_iald (r := 86) (j := (j - 1)) fx (by omega) h86 (m1_ix hj0 (by omega)) (by omega) dX8_exactly_79 ?_
            refine g_isi (y := nI (s2 (j - 1))) rfl ?_
            refine g_iaddN fx dX8_exactly_80 ?_
            refine g_istore (L' := [(8, .int (nI ((s1 i) + (s2 (j - 1))))), (0, .ref (ad 81)), (2, .int tg), (3, .int (nI i)), (4, .int (nI j - nI 1)), (5, .long (lN c)), (7, .int (nI l))]) fx dX8_exactly_81 (by decide) rfl ?_
            refine g_iload fx 0 dX8_exactly_83 rfl ?_
            refine g_iload_n fx 2 dX8_exactly_85 rfl ?_
            refine g_icmp_ne fx 116 dX8_exactly_86 (by decide) (fun c86 => ?_) (fun c86 => ?_)
            · skip
              have hsum : ¬ (s1 i : Int) + (s2 (j - 1) : Int) = T := fun q => c86 ((i_eq (by omega) htg).mpr (by omega))
              refine g_iload fx 0 dX8_exactly_116 rfl ?_
              refine g_iload_n fx 2 dX8_exactly_118 rfl ?_
              refine g_icmp_gt fx 128 dX8_exactly_119 (by decide) (fun c119 => ?_) (fun c119 => ?_)
              · skip
                have hgt := (i_lt (by omega) htg).mp c119
                refine g_iinc (L' := [(4, .int (nI (j - 1) - nI 1)), (8, .int (nI ((s1 i) + (s2 (j - 1))))), (0, .ref (ad 81)), (2, .int tg), (3, .int (nI i)), (5, .long (lN c)), (7, .int (nI l))]) fx (nI (j - 1) - nI 1) 4 dX8_exactly_128 rfl (m1_dec hj0) (by decide) rfl ?_
                refine g_iinc (L' := [(7, .int (nI (l - 1))), (4, .int (nI (j - 1) - nI 1)), (8, .int (nI ((s1 i) + (s2 (j - 1))))), (0, .ref (ad 81)), (2, .int tg), (3, .int (nI i)), (5, .long (lN c))]) fx (nI (l - 1)) 6 dX8_exactly_131 rfl (dec1 hl1) (by decide) rfl ?_
                refine g_goto fx 40 dX8_exactly_134 (by decide) ?_
                refine g_locals (L' := [(0, .ref (ad 81)), (2, .int tg), (3, .int (nI i)), (4, .int (nI (j - 1) - nI 1)), (5, .long (lN c)), (7, .int (nI (l - 1)))]) [3, 4, 5, 1, 6, 0] rfl ?_
                exact ih40 i (j - 1) c (l - 1) hi (by omega) (by rw [← exR_col hj0 (fun k h1 h2 => if_neg (by have := hS1.mono h1 h2; omega))]; exact hc) (by omega) (by omega)
              · skip
                have hle : (s1 i : Int) + (s2 (j - 1) : Int) ≤ T := by have := mt (i_lt (by omega) htg).mpr c119; omega
                refine g_iinc (L' := [(3, .int (nI (i + 1))), (8, .int (nI ((s1 i) + (s2 (j - 1))))), (0, .ref (ad 81)), (2, .int tg), (4, .int (nI j - nI 1)), (5, .long (lN c)), (7, .int (nI l))]) fx (nI (i + 1)) 3 dX8_exactly_122 rfl (gInc _) (by decide) rfl ?_
                refine g_goto fx 131 dX8_exactly_125 (by decide) ?_
                refine g_iinc (L' := [(7, .int (nI (l - 1))), (3, .int (nI (i + 1))), (8, .int (nI ((s1 i) + (s2 (j - 1))))), (0, .ref (ad 81)), (2, .int tg), (4, .int (nI j - nI 1)), (5, .long (lN c))]) fx (nI (l - 1)) 6 dX8_exactly_131 rfl (dec1 hl1) (by decide) rfl ?_
                refine g_goto fx 40 dX8_exactly_134 (by decide) ?_
                refine g_locals (L' := [(0, .ref (ad 81)), (2, .int tg), (3, .int (nI (i + 1))), (4, .int (nI j - nI 1)), (5, .long (lN c)), (7, .int (nI (l - 1)))]) [3, 4, 1, 5, 6, 0] rfl ?_
                exact ih40 (i + 1) j c (l - 1) (by omega) hj (by have e := exR_row (s1 := s1) (t1 := t1) (s2 := s2) (t2 := t2) (x := 0) hil hj0 (fun k hk => if_neg (by have := hS2.1 k (j - 1) hk (by omega); omega)) (if_neg hsum); rw [Nat.zero_add] at e; rw [← e]; exact hc) (by omega) (by omega)
            · skip
              have hsum : (s1 i : Int) + (s2 (j - 1) : Int) = T := by have := (i_eq (by omega) htg).mp c86; omega
              refine g_lload fx 5 dX8_exactly_89 rfl ?_
              refine g_aload_n fx 1 dX8_exactly_91 rfl ?_
              refine g_get (r := 81) fx lkX8_10 (by omega) hso rfl dX8_exactly_92 ?_
              refine g_get (r := 82) fx lkX8_49 (by omega) h82 rfl dX8_exactly_95 ?_
              refine g_iload_n fx 3 dX8_exactly_98 rfl ?_
              refine g_iald (r := 84) (j := i) fx (by omega) h84 (nI_toInt (by omega)) (by omega) dX8_exactly_99 ?_
              refine g_isi (y := nI (t1 i)) rfl ?_
              refine g_i2l fx dX8_exactly_100 ?_
              refine g_isl (y := lN (t1 i)) (nI_l (by omega)) ?_
              refine g_aload_n fx 1 dX8_exactly_101 rfl ?_
              refine g_get (r := 81) fx lkX8_16 (by omega) hso rfl dX8_exactly_102 ?_
              refine g_get (r := 85) fx lkX8_49 (by omega) h85 rfl dX8_exactly_105 ?_
              refine g_iload fx 4 dX8_exactly_108 rfl ?_
              refine g_iald (r := 87) (j := (j - 1)) fx (by omega) h87 (m1_ix hj0 (by omega)) (by omega) dX8_exactly_110 ?_
              refine g_isi (y := nI (t2 (j - 1))) rfl ?_
              refine g_i2l fx dX8_exactly_111 ?_
              refine g_isl (y := lN (t2 (j - 1))) (nI_l (by omega)) ?_
              refine g_lmul fx dX8_exactly_112 ?_
              refine g_isl (y := lN (t1 i * t2 (j - 1))) (lN_mul _ _) ?_
              refine g_ladd fx dX8_exactly_113 ?_
              refine g_isl (y := lN (c + t1 i * t2 (j - 1))) (lN_add _ _) ?_
              refine g_lstore (L' := [(5, .long (lN (c + t1 i * t2 (j - 1)))), (8, .int (nI ((s1 i) + (s2 (j - 1))))), (0, .ref (ad 81)), (2, .int tg), (3, .int (nI i)), (4, .int (nI j - nI 1)), (7, .int (nI l))]) fx dX8_exactly_114 (by decide) rfl ?_
              refine g_iload fx 1 dX8_exactly_116 rfl ?_
              refine g_iload_n fx 3 dX8_exactly_118 rfl ?_
              refine g_icmp_gt fx 128 dX8_exactly_119 (by decide) (fun c119 => ?_) (fun c119 => ?_)
              · exact absurd ((i_lt (by omega) htg).mp c119) (by omega)
              refine g_iinc (L' := [(3, .int (nI (i + 1))), (5, .long (lN (c + t1 i * t2 (j - 1)))), (8, .int (nI ((s1 i) + (s2 (j - 1))))), (0, .ref (ad 81)), (2, .int tg), (4, .int (nI j - nI 1)), (7, .int (nI l))]) fx (nI (i + 1)) 4 dX8_exactly_122 rfl (gInc _) (by decide) rfl ?_
              refine g_goto fx 131 dX8_exactly_125 (by decide) ?_
              refine g_iinc (L' := [(7, .int (nI (l - 1))), (3, .int (nI (i + 1))), (5, .long (lN (c + t1 i * t2 (j - 1)))), (8, .int (nI ((s1 i) + (s2 (j - 1))))), (0, .ref (ad 81)), (2, .int tg), (4, .int (nI j - nI 1))]) fx (nI (l - 1)) 6 dX8_exactly_131 rfl (dec1 hl1) (by decide) rfl ?_
              refine g_goto fx 40 dX8_exactly_134 (by decide) ?_
              refine g_locals (L' := [(0, .ref (ad 81)), (2, .int tg), (3, .int (nI (i + 1))), (4, .int (nI j - nI 1)), (5, .long (lN (c + t1 i * t2 (j - 1)))), (7, .int (nI (l - 1)))]) [4, 5, 1, 6, 2, 0] rfl ?_
              exact ih40 (i + 1) j (c + t1 i * t2 (j - 1)) (l - 1) (by omega) hj (by rw [Nat.add_assoc, ← exR_row hil hj0 (fun k hk => if_neg (by have := hS2.1 k (j - 1) hk (by omega); omega)) (if_pos hsum)]; exact hc) (by omega) (by omega)
  refine g_locals (L' := [(0, .ref (ad 81)), (2, .int tg), (3, .int (nI 0)), (4, .int (nI sz2 - nI 1)), (5, .long (lN 0)), (7, .int (nI (sz1 + sz2)))]) [5, 4, 3, 2, 1, 0] rfl ?_
  exact LP40 (sz1 + sz2 + 1) 0 sz2 0 (sz1 + sz2) (by omega) (Nat.le_refl _) (Nat.zero_add _) (by omega) (by omega)
