/-- in how many ways k of the first n scores have the sum s -/
def wN (sc : Nat → Nat) : Nat → Nat → Nat → Nat
  | 0, k, s => if k = 0 ∧ s = 0 then 1 else 0
  | n + 1, k, s => wN sc n k s + (if 0 < k ∧ sc n ≤ s then wN sc n (k - 1) (s - sc n) else 0)
theorem wN_bd {sc : Nat → Nat} : ∀ n k s, wN sc n k s ≤ 2 ^ n
  | 0, k, s => by
    show (if k = 0 ∧ s = 0 then 1 else 0) ≤ 1
    split <;> omega
  | n + 1, k, s => by
    have h1 := wN_bd (sc := sc) n k s
    have h2 := wN_bd (sc := sc) n (k - 1) (s - sc n)
    show wN sc n k s + (if 0 < k ∧ sc n ≤ s then wN sc n (k - 1) (s - sc n) else 0) ≤ 2 ^ (n + 1)
    rw [Nat.pow_succ]
    split <;> omega
theorem wN_lt {sc : Nat → Nat} {n k s : Nat} (h : n ≤ 30) : wN sc n k s < 2 ^ 31 :=
  Nat.lt_of_le_of_lt (wN_bd n k s) (Nat.lt_of_le_of_lt (Nat.pow_le_pow_right (by decide) h) (by decide))
theorem wN_big {sc : Nat → Nat} : ∀ n k s, (∀ i, i < n → sc i ≤ 2000) → 2000 * k < s → wN sc n k s = 0
  | 0, k, s, _, h => if_neg (by omega)
  | n + 1, k, s, hs, h => by
    have h1 := wN_big n k s (fun i hi => hs i (by omega)) h
    have hn := hs n (by omega)
    show wN sc n k s + (if 0 < k ∧ sc n ≤ s then wN sc n (k - 1) (s - sc n) else 0) = 0
    rw [h1]
    by_cases q : 0 < k ∧ sc n ≤ s
    · rw [if_pos q, wN_big n (k - 1) (s - sc n) (fun i hi => hs i (by omega)) (by omega)]
    · rw [if_neg q]
theorem wN_0 {sc : Nat → Nat} {n s : Nat} : wN sc (n + 1) 0 s = wN sc n 0 s := by
  show wN sc n 0 s + (if 0 < 0 ∧ sc n ≤ s then _ else 0) = _
  rw [if_neg (by omega), Nat.add_zero]
theorem wN_congr {sc sc2 : Nat → Nat} : ∀ n k s, (∀ i, i < n → sc i = sc2 i) → wN sc n k s = wN sc2 n k s
  | 0, _, _, _ => rfl
  | n + 1, k, s, h => by
    show wN sc n k s + (if 0 < k ∧ sc n ≤ s then wN sc n (k - 1) (s - sc n) else 0) = wN sc2 n k s + (if 0 < k ∧ sc2 n ≤ s then wN sc2 n (k - 1) (s - sc2 n) else 0)
    rw [h n (by omega), wN_congr n k s (fun i hi => h i (by omega)), wN_congr n (k - 1) (s - sc2 n) (fun i hi => h i (by omega))]
def wMid (sc : Nat → Nat) (i kk t k x : Nat) : Nat := if k = kk then wN sc i k x + (if sc i ≤ x ∧ t ≤ x - sc i then wN sc i (k - 1) (x - sc i) else 0) else if kk < k then wN sc (i + 1) k x else wN sc i k x
theorem wMid_in {sc : Nat → Nat} {i kk k x : Nat} (hs : ∀ j, j < i → sc j ≤ 2000) : wMid sc i kk (2000 * (kk - 1) + 1) k x = if kk < k then wN sc (i + 1) k x else wN sc i k x := by
  unfold wMid
  by_cases q : k = kk
  · rw [if_pos q, if_neg (show ¬ kk < k by omega)]
    by_cases q2 : sc i ≤ x ∧ 2000 * (kk - 1) + 1 ≤ x - sc i
    · rw [if_pos q2, wN_big i (k - 1) (x - sc i) hs (by subst q; omega), Nat.add_zero]
    · rw [if_neg q2, Nat.add_zero]
  · rw [if_neg q]
theorem wMid_out {sc : Nat → Nat} {i kk k x : Nat} (hk : 0 < kk) : wMid sc i kk 0 k x = if kk - 1 < k then wN sc (i + 1) k x else wN sc i k x := by
  unfold wMid
  by_cases q : k = kk
  · rw [if_pos q, if_pos (show kk - 1 < k by omega)]
    show _ = wN sc i k x + (if 0 < k ∧ sc i ≤ x then wN sc i (k - 1) (x - sc i) else 0)
    congr 1
    by_cases q2 : sc i ≤ x
    · rw [if_pos ⟨q2, Nat.zero_le _⟩, if_pos ⟨by omega, q2⟩]
    · rw [if_neg (fun w => q2 w.1), if_neg (fun w => q2 w.2)]
  · rw [if_neg q]
    by_cases q2 : kk < k
    · rw [if_pos q2, if_pos (by omega)]
    · rw [if_neg q2, if_neg (by omega)]
theorem wMid_ne {sc : Nat → Nat} {i kk t k x : Nat} (ht : 0 < t) (h : ¬ (k = kk ∧ x = t - 1 + sc i)) : wMid sc i kk (t - 1) k x = wMid sc i kk t k x := by
  unfold wMid
  by_cases q : k = kk
  · rw [if_pos q, if_pos q]
    congr 1
    by_cases q2 : sc i ≤ x ∧ t ≤ x - sc i
    · rw [if_pos q2, if_pos ⟨q2.1, by omega⟩]
    · rw [if_neg q2, if_neg (fun w => q2 ⟨w.1, by have : ¬ x = t - 1 + sc i := fun z => h ⟨q, z⟩; omega⟩)]
  · rw [if_neg q, if_neg q]
theorem wMid_at {sc : Nat → Nat} {i kk t : Nat} (ht : 0 < t) : wMid sc i kk (t - 1) kk (t - 1 + sc i) = wMid sc i kk t kk (t - 1 + sc i) + wN sc i (kk - 1) (t - 1) := by
  unfold wMid
  rw [if_pos rfl, if_pos rfl, if_pos ⟨by omega, by omega⟩, if_neg (show ¬ (sc i ≤ t - 1 + sc i ∧ t ≤ t - 1 + sc i - sc i) by omega), Nat.add_zero, Nat.add_sub_cancel]
theorem wMid_src {sc : Nat → Nat} {i kk t x : Nat} (h : 0 < kk) : wMid sc i kk t (kk - 1) x = wN sc i (kk - 1) x := by
  unfold wMid
  rw [if_neg (by omega), if_neg (by omega)]
theorem wMid_lt {sc : Nat → Nat} {i kk t k x : Nat} (h : i < 30) : wMid sc i kk t k x < 2 ^ 62 := by
  have h1 := wN_lt (sc := sc) (n := i) (k := k) (s := x) (by omega)
  have h2 := wN_lt (sc := sc) (n := i) (k := k - 1) (s := x - sc i) (by omega)
  have h3 := wN_lt (sc := sc) (n := i + 1) (k := k) (s := x) (by omega)
  unfold wMid
  split
  · split <;> omega
  · split <;> omega
theorem l_le0 {a : Nat} (ha : a < 9223372036854775808) : lg_cmp (lN a) (lN 0) ≤ 0 ↔ a = 0 := by
  rw [lg_cmp_le, pk_lLE ha (by decide)]; omega
theorem m1_pp {k : Nat} : nI k = nI (k + 1) - nI 1 := by rw [m1_eq (by omega), Nat.add_sub_cancel]
theorem sz_toInt {x : Int32} {z : Int} (h : x.toInt = z) (hb : z.natAbs < 2 ^ 31) : (absI x).toInt = (z.natAbs : Int) := by
  unfold absI
  by_cases q : 0 ≤ x
  · rw [if_pos q]
    have q2 : 0 ≤ x.toInt := by rw [Int32.le_iff_toInt_le] at q; exact q
    omega
  · rw [if_neg q]
    have q2 : ¬ 0 ≤ x.toInt := fun w => q (by rw [Int32.le_iff_toInt_le]; exact w)
    rw [Int32.toInt_neg, h, Int.bmod_def]; omega
theorem lin_toInt {t s m : Int32} {a b c : Int} (ht : t.toInt = a) (hs : s.toInt = b) (hm : m.toInt = c) (h1 : (a * b).natAbs < 2 ^ 30) (h2 : c.natAbs < 2 ^ 30) : (t * s - m).toInt = a * b - c := by
  rw [Int32.toInt_sub, Int32.toInt_mul, ht, hs, hm]
  generalize a * b = p at h1 ⊢
  rw [Int.bmod_def (x := p), Int.bmod_def]; omega
theorem add_toInt {t s : Int32} {a b : Int} (ht : t.toInt = a) (hs : s.toInt = b) (h1 : (a + b).natAbs < 2 ^ 31) : (t + s).toInt = a + b := by
  rw [Int32.toInt_add, ht, hs, Int.bmod_def]; omega
theorem mul_abs {a b : Int} {x y : Nat} (h1 : a.natAbs ≤ x) (h2 : b.natAbs ≤ y) : (a * b).natAbs ≤ x * y := by
  rw [Int.natAbs_mul]; exact Nat.mul_le_mul h1 h2
def fcF (tm mid st bs : Int) (gb : Nat → Nat) (k : Nat) : Nat := if (tm * st - mid).natAbs ≤ (tm * (bs + k) - mid).natAbs then gb k else 0
def fcL (st bs : Int) (gb : Nat → Nat) (k : Nat) : Nat := if bs + k ≤ st then gb k else 0
def fcH (st bs : Int) (gb : Nat → Nat) (k : Nat) : Nat := if st ≤ bs + k then gb k else 0
def fcJ (st bs : Int) (gb : Nat → Nat) (k : Nat) : Nat := if bs + k = st then gb k else 0
def fcS (tm mid st bs : Int) (gb : Nat → Nat) (S t : Nat) : Nat := if t = 0 then sumF (fcF tm mid st bs gb) S else if t = 1 then sumF (fcL st bs gb) S else if t = 2 then sumF (fcH st bs gb) S else sumF (fcJ st bs gb) S
theorem ite_le {c : Prop} [Decidable c] {a : Nat} : (if c then a else 0) ≤ a := by split <;> omega
theorem sumF_mono {f g : Nat → Nat} : ∀ n, (∀ i, i < n → f i ≤ g i) → sumF f n ≤ sumF g n
  | 0, _ => Nat.le_refl _
  | n + 1, h => Nat.add_le_add (sumF_mono n (fun i hi => h i (by omega))) (h n (by omega))
theorem fcS_le {tm mid st bs : Int} {gb : Nat → Nat} {S t : Nat} : fcS tm mid st bs gb S t ≤ sumF gb S := by
  unfold fcS
  split
  · exact sumF_mono S (fun _ _ => ite_le)
  · split
    · exact sumF_mono S (fun _ _ => ite_le)
    · split
      · exact sumF_mono S (fun _ _ => ite_le)
      · exact sumF_mono S (fun _ _ => ite_le)
theorem fcs_z {tm mid st bs : Int} {gb : Nat → Nat} {k : Nat} (h : gb k = 0) : fcF tm mid st bs gb k = 0 ∧ fcL st bs gb k = 0 ∧ fcH st bs gb k = 0 ∧ fcJ st bs gb k = 0 := by
  unfold fcF fcL fcH fcJ
  rw [h]
  exact ⟨by split <;> rfl, by split <;> rfl, by split <;> rfl, by split <;> rfl⟩
theorem m1_sub (k : Nat) : nI k + Int32.ofInt (-1) = nI k - nI 1 := by rw [Int32.sub_eq_add_neg]; rfl
set_option maxHeartbeats 4000000 in
set_option maxRecDepth 100000 in
theorem c_X12_countWays (B : gB) (ad : Nat → Nat) (ct : Nat → va_E) (n : Nat) (f sc : Nat → Int32) (gy sN : Nat → Nat) (hn : 33 ≤ n) (h0 : ct 0 = mObj ad f) (hsr : ct 23 = .inl (B.2.1 0, 30, .inl sc)) (hw : ct 24 = .inl (B.2.1 1, 480016, .inr (.inl (lF gy)))) (m a : Nat) (hm30 : m ≤ 30) (ha15 : a ≤ 15) (hsc : ∀ j, j < m → sc j = nI (sN j)) (hs2 : ∀ j, j < m → sN j ≤ 2000) : Ctr B yX12_countWays cX12_countWays 7 none 0 0 0 0 ad ct n [.ref (ad 0), .int (nI m), .int (nI a)] (gPv ad n (fun ct' => ∃ g', ct' = va_up ct 24 (.inl (B.2.1 1, 480016, .inr (.inl (lF g')))) ∧ ∀ k x, k ≤ a → x ≤ 30000 → g' (30001 * k + x) = wN sN m k x)) := by
  have hct := va_same hw
  refine Ctr.ofG (L := [(0, .ref (ad 0)), (1, .int (nI m)), (2, .int (nI a))]) (by decide +kernel) rfl (Nat.le_of_ble_eq_true rfl) (fun E fx rt hnm => ?_)
  refine g_iconst (v := nI 0) fx dX12_countWays_0 (by decide +kernel) ?_
  refine g_istore_n (L' := [(3, .int (nI 0)), (0, .ref (ad 0)), (1, .int (nI m)), (2, .int (nI a))]) fx dX12_countWays_1 (by decide) rfl ?_
  have LP2 : ∀ (M : Nat) (k : Nat) (ct1 : Nat → va_E) (g1 : Nat → Nat), (k ≤ 480016) → (∀ j, j < k → g1 j = 0) → (ct1 0 = mObj ad f) → (ct1 23 = .inl (B.2.1 0, 30, .inl sc)) → (ct1 24 = .inl (B.2.1 1, 480016, .inr (.inl (lF g1)))) → (ct1 = va_up ct 24 (.inl (B.2.1 1, 480016, .inr (.inl (lF g1))))) →  (480016 - k) < M → G B 7 E ad ct1 n 0 0 [(0, .ref (ad 0)), (1, .int (nI m)), (2, .int (nI a)), (3, .int (nI k))] 2 [] := by
    intro M
    induction M with
    | zero => intro k ct1 g1 _ _ _ _ _ _ hM; exact absurd hM (Nat.not_lt_zero _)
    | succ M ih =>
      intro k ct1 g1 hk hz h0 hsr hw hct hM
      have ih2 := ih
      refine g_iload_n fx 3 dX12_countWays_2 rfl ?_
      refine g_ldc fx kcX12_87 dX12_countWays_3 ?_
      refine g_isi (y := nI 480016) (by decide +kernel) ?_
      refine g_icmp_ge fx 21 dX12_countWays_5 (by decide) (fun c5 => ?_) (fun c5 => ?_)
      · skip
        have hke : k = 480016 := by have := (nI_leI (by decide) (by omega)).mp c5; omega
        rw [hke] at hz
        refine g_aload_n fx 0 dX12_countWays_21 rfl ?_
        refine g_get (r := 0) fx lkX12_88 (by omega) h0 rfl dX12_countWays_22 ?_
        refine g_iconst (v := nI 0) fx dX12_countWays_25 (by decide +kernel) ?_
        refine g_lconst (v := lN 1) fx dX12_countWays_26 (by decide +kernel) ?_
        refine g_last (r := 24) (j := 0) fx (by omega) hw (nI_toInt (by omega)) (by omega) dX12_countWays_27 (fun cu1 ecu1 => ?_)
        have hct : cu1 = va_up ct 24 (.inl (B.2.1 1, 480016, .inr (.inl (lF (va_up g1 0 1))))) := up2l hct ecu1
        have h0 : cu1 0 = mObj ad f := (congrFun ecu1 _).trans ((va_up_ne _ _ (by omega)).trans h0)
        have hsr : cu1 23 = .inl (B.2.1 0, 30, .inl sc) := (congrFun ecu1 _).trans ((va_up_ne _ _ (by omega)).trans hsr)
        have hw : cu1 24 = .inl (B.2.1 1, 480016, .inr (.inl (lF (va_up g1 0 1)))) := by rw [ecu1, va_up_self, lF_up]
        refine g_iconst (v := nI 0) fx dX12_countWays_28 (by decide +kernel) ?_
        refine g_istore_n (L' := [(3, .int (nI 0)), (0, .ref (ad 0)), (1, .int (nI m)), (2, .int (nI a))]) fx dX12_countWays_29 (by decide) rfl ?_
        have LP30 : ∀ (M : Nat) (i : Nat) (ct2 : Nat → va_E) (g2 : Nat → Nat), (i ≤ m) → (∀ k x, k ≤ a → x ≤ 30000 → g2 (30001 * k + x) = wN sN i k x) → (ct2 0 = mObj ad f) → (ct2 23 = .inl (B.2.1 0, 30, .inl sc)) → (ct2 24 = .inl (B.2.1 1, 480016, .inr (.inl (lF g2)))) → (ct2 = va_up ct 24 (.inl (B.2.1 1, 480016, .inr (.inl (lF g2))))) →  (m - i) < M → G B 7 E ad ct2 n 0 0 [(0, .ref (ad 0)), (1, .int (nI m)), (2, .int (nI a)), (3, .int (nI i))] 30 [] := by
          intro M
          induction M with
          | zero => intro i ct2 g2 _ _ _ _ _ _ hM; exact absurd hM (Nat.not_lt_zero _)
          | succ M ih =>
            intro i ct2 g2 hi hg h0 hsr hw hct hM
            have ih30 := ih
            refine g_iload_n fx 3 dX12_countWays_30 rfl ?_
            refine g_iload_n fx 1 dX12_countWays_31 rfl ?_
            refine g_icmp_ge fx 157 dX12_countWays_32 (by decide) (fun c32 => ?_) (fun c32 => ?_)
            · skip
              have him : i = m := by have := (nI_leI (by omega) (by omega)).mp c32; omega
              refine g_vret fx rt dX12_countWays_157 ?_
              rw [him] at hg
              exact gPv.mk ⟨g2, hct, hg⟩
            · skip
              have hlt : i < m := (nI_ltI (by omega) (by omega)).mp (Int32.not_le.mp c32)
              have hsi := hs2 i hlt
              refine g_aload_n fx 0 dX12_countWays_35 rfl ?_
              refine g_get (r := 0) fx lkX12_84 (by omega) h0 rfl dX12_countWays_36 ?_
              refine g_iload_n fx 3 dX12_countWays_39 rfl ?_
              refine g_iald (r := 23) (j := i) fx (by omega) hsr (nI_toInt (by omega)) (by omega) dX12_countWays_40 ?_
              refine g_isi (y := nI (sN i)) (hsc i hlt) ?_
              refine g_istore (L' := [(4, .int (nI (sN i))), (0, .ref (ad 0)), (1, .int (nI m)), (2, .int (nI a)), (3, .int (nI i))]) fx dX12_countWays_41 (by decide) rfl ?_
              refine g_iload_n fx 3 dX12_countWays_43 rfl ?_
              refine g_iconst (v := nI 1) fx dX12_countWays_44 (by decide +kernel) ?_
              refine g_isub fx dX12_countWays_45 ?_
              refine g_istore (L' := [(5, .int ((nI a) - (nI 1))), (4, .int (nI (sN i))), (0, .ref (ad 0)), (1, .int (nI m)), (2, .int (nI a)), (3, .int (nI i))]) fx dX12_countWays_46 (by decide) rfl ?_
              have LP48 : ∀ (M : Nat) (kk : Nat) (ct3 : Nat → va_E) (g3 : Nat → Nat), (kk ≤ a) → (∀ k x, k ≤ a → x ≤ 30000 → g3 (30001 * k + x) = if kk < k then wN sN (i + 1) k x else wN sN i k x) → (ct3 0 = mObj ad f) → (ct3 23 = .inl (B.2.1 0, 30, .inl sc)) → (ct3 24 = .inl (B.2.1 1, 480016, .inr (.inl (lF g3)))) → (ct3 = va_up ct 24 (.inl (B.2.1 1, 480016, .inr (.inl (lF g3))))) →  kk < M → G B 7 E ad ct3 n 0 0 [(0, .ref (ad 0)), (1, .int (nI m)), (2, .int (nI a)), (3, .int (nI i)), (4, .int (nI (sN i))), (5, .int (nI kk - nI 1))] 48 [] := by
                intro M
                induction M with
                | zero => intro kk ct3 g3 _ _ _ _ _ _ hM; exact absurd hM (Nat.not_lt_zero _)
                | succ M ih =>
                  intro kk ct3 g3 hkk hg3 h0 hsr hw hct hM
                  have ih48 := ih
                  refine g_iload fx 5 dX12_countWays_48 rfl ?_
                  refine g_if_lt fx 151 dX12_countWays_50 (by decide) (fun c50 => ?_) (fun c50 => ?_)
                  · skip
                    have hk0 : kk = 0 := (m1_neg (by omega)).mp c50
                    rw [hk0] at hg3
                    refine g_iinc (L' := [(3, .int (nI (i + 1))), (0, .ref (ad 0)), (1, .int (nI m)), (2, .int (nI a)), (4, .int (nI (sN i))), (5, .int (nI kk - nI 1))]) fx (nI (i + 1)) 3 dX12_countWays_151 rfl (gInc _) (by decide) rfl ?_
                    refine g_goto fx 30 dX12_countWays_154 (by decide) ?_
                    refine g_locals (L' := [(0, .ref (ad 0)), (1, .int (nI m)), (2, .int (nI a)), (3, .int (nI (i + 1)))]) [1, 2, 3, 0] rfl ?_
                    exact ih30 (i + 1) _ _ (by omega) (fun k x hk hx => by rw [hg3 k x hk hx]; by_cases q : 0 < k; (rw [if_pos q]); (rw [if_neg q, show k = 0 by omega]; exact wN_0.symm)) h0 hsr hw hct (by omega)
                  · skip
                    have hk0 : 0 < kk := Nat.pos_of_ne_zero (fun q => c50 ((m1_neg (by omega)).mpr q))
                    refine g_relocal (L' := [(0, .ref (ad 0)), (1, .int (nI m)), (2, .int (nI a)), (3, .int (nI i)), (4, .int (nI (sN i))), (5, .int (nI (kk - 1)))]) (by rw [m1_eq hk0]) ?_
                    refine g_sipush (v := nI 2000) fx dX12_countWays_53 (by decide +kernel) ?_
                    refine g_iload fx 5 dX12_countWays_56 rfl ?_
                    refine g_imulN fx dX12_countWays_58 ?_
                    refine g_sipush (v := nI 30000) fx dX12_countWays_59 (by decide +kernel) ?_
                    refine g_icmp_ge fx 74 dX12_countWays_62 (by decide) (fun c62 => ?_) (fun c62 => ?_)
                    · exact absurd ((nI_leI (by decide) (by omega)).mp c62) (by omega)
                    refine g_sipush (v := nI 2000) fx dX12_countWays_65 (by decide +kernel) ?_
                    refine g_iload fx 5 dX12_countWays_68 rfl ?_
                    refine g_imulN fx dX12_countWays_70 ?_
                    refine g_goto fx 77 dX12_countWays_71 (by decide) ?_
                    refine g_isi (y := nI (2000 * (kk - 1) + 1) - nI 1) m1_pp ?_
                    refine g_istore (L' := [(6, .int (nI (2000 * (kk - 1) + 1) - nI 1)), (0, .ref (ad 0)), (1, .int (nI m)), (2, .int (nI a)), (3, .int (nI i)), (4, .int (nI (sN i))), (5, .int (nI (kk - 1)))]) fx dX12_countWays_77 (by decide) rfl ?_
                    have LP79 : ∀ (M : Nat) (t : Nat) (ct4 : Nat → va_E) (g4 : Nat → Nat), (t ≤ 2000 * (kk - 1) + 1) → (∀ k x, k ≤ a → x ≤ 30000 → g4 (30001 * k + x) = wMid sN i kk t k x) → (ct4 0 = mObj ad f) → (ct4 23 = .inl (B.2.1 0, 30, .inl sc)) → (ct4 24 = .inl (B.2.1 1, 480016, .inr (.inl (lF g4)))) → (ct4 = va_up ct 24 (.inl (B.2.1 1, 480016, .inr (.inl (lF g4))))) →  t < M → G B 7 E ad ct4 n 0 0 [(0, .ref (ad 0)), (1, .int (nI m)), (2, .int (nI a)), (3, .int (nI i)), (4, .int (nI (sN i))), (5, .int (nI (kk - 1))), (6, .int (nI t - nI 1))] 79 [] := by
                      intro M
                      induction M with
                      | zero => intro t ct4 g4 _ _ _ _ _ _ hM; exact absurd hM (Nat.not_lt_zero _)
                      | succ M ih =>
                        intro t ct4 g4 ht hg4 h0 hsr hw hct hM
                        have ih79 := ih
                        refine g_iload fx 6 dX12_countWays_79 rfl ?_
                        refine g_if_lt fx 145 dX12_countWays_81 (by decide) (fun c81 => ?_) (fun c81 => ?_)
                        · skip
                          have ht0 : t = 0 := (m1_neg (by omega)).mp c81
                          refine g_iinc (L' := [(5, .int (nI (kk - 1) - nI 1)), (0, .ref (ad 0)), (1, .int (nI m)), (2, .int (nI a)), (3, .int (nI i)), (4, .int (nI (sN i))), (6, .int (nI t - nI 1))]) fx (nI (kk - 1) - nI 1) 5 dX12_countWays_145 rfl (m1_sub _) (by decide) rfl ?_
                          refine g_goto fx 48 dX12_countWays_148 (by decide) ?_
                          refine g_locals (L' := [(0, .ref (ad 0)), (1, .int (nI m)), (2, .int (nI a)), (3, .int (nI i)), (4, .int (nI (sN i))), (5, .int (nI (kk - 1) - nI 1))]) [1, 2, 3, 4, 5, 0] rfl ?_
                          exact ih48 (kk - 1) _ _ (by omega) (fun k x hk hx => by rw [hg4 k x hk hx, ht0]; exact wMid_out hk0) h0 hsr hw hct (by omega)
                        · skip
                          have ht0 : 0 < t := Nat.pos_of_ne_zero (fun q => c81 ((m1_neg (by omega)).mpr q))
                          have hsrc : g4 (30001 * (kk - 1) + (t - 1)) = wN sN i (kk - 1) (t - 1) := by rw [hg4 _ _ (by omega) (by omega)]; exact wMid_src hk0
                          have hsb := wN_lt (sc := sN) (n := i) (k := kk - 1) (s := t - 1) (by omega)
                          refine g_relocal (L' := [(0, .ref (ad 0)), (1, .int (nI m)), (2, .int (nI a)), (3, .int (nI i)), (4, .int (nI (sN i))), (5, .int (nI (kk - 1))), (6, .int (nI (t - 1)))]) (by rw [m1_eq ht0]) ?_
                          refine g_aload_n fx 0 dX12_countWays_84 rfl ?_
                          refine g_get (r := 0) fx lkX12_88 (by omega) h0 rfl dX12_countWays_85 ?_
                          refine g_sipush (v := nI 30001) fx dX12_countWays_88 (by decide +kernel) ?_
                          refine g_iload fx 5 dX12_countWays_91 rfl ?_
                          refine g_imulN fx dX12_countWays_93 ?_
                          refine g_iload fx 6 dX12_countWays_94 rfl ?_
                          refine g_iaddN fx dX12_countWays_96 ?_
                          refine g_lald (r := 24) (j := ((30001 * (kk - 1)) + (t - 1))) fx (by omega) hw (nI_toInt (by omega)) (by omega) dX12_countWays_97 ?_
                          refine g_isl (y := lN (g4 ((30001 * (kk - 1)) + (t - 1)))) rfl ?_
                          refine g_lconst (v := lN 0) fx dX12_countWays_98 (by decide +kernel) ?_
                          refine g_lcmp fx dX12_countWays_99 ?_
                          refine g_if_le fx 139 dX12_countWays_100 (by decide) (fun c100 => ?_) (fun c100 => ?_)
                          · skip
                            have hz0 : g4 (30001 * (kk - 1) + (t - 1)) = 0 := (l_le0 (by omega)).mp c100
                            refine g_iinc (L' := [(6, .int (nI (t - 1) - nI 1)), (0, .ref (ad 0)), (1, .int (nI m)), (2, .int (nI a)), (3, .int (nI i)), (4, .int (nI (sN i))), (5, .int (nI (kk - 1)))]) fx (nI (t - 1) - nI 1) 6 dX12_countWays_139 rfl (m1_sub _) (by decide) rfl ?_
                            refine g_goto fx 79 dX12_countWays_142 (by decide) ?_
                            refine g_locals (L' := [(0, .ref (ad 0)), (1, .int (nI m)), (2, .int (nI a)), (3, .int (nI i)), (4, .int (nI (sN i))), (5, .int (nI (kk - 1))), (6, .int (nI (t - 1) - nI 1))]) [1, 2, 3, 4, 5, 6, 0] rfl ?_
                            refine ih79 (t - 1) _ _ (by omega) (fun k x hk hx => ?_) h0 hsr hw hct (by omega)
                            by_cases q : k = kk ∧ x = t - 1 + sN i
                            · obtain ⟨rfl, rfl⟩ := q
                              rw [hg4 _ _ hk hx, wMid_at ht0, ← hsrc, hz0, Nat.add_zero]
                            · rw [hg4 k x hk hx]; exact (wMid_ne ht0 q).symm
                          · skip
                            skip
                            refine g_aload_n fx 0 dX12_countWays_103 rfl ?_
                            refine g_get (r := 0) fx lkX12_88 (by omega) h0 rfl dX12_countWays_104 ?_
                            refine g_sipush (v := nI 30001) fx dX12_countWays_107 (by decide +kernel) ?_
                            refine g_iload fx 5 dX12_countWays_110 rfl ?_
                            refine g_iconst (v := nI 1) fx dX12_countWays_112 (by decide +kernel) ?_
                            refine g_iaddN fx dX12_countWays_113 ?_
                            refine g_imulN fx dX12_countWays_114 ?_
                            refine g_iload fx 6 dX12_countWays_115 rfl ?_
                            refine g_iaddN fx dX12_countWays_117 ?_
                            refine g_iload fx 4 dX12_countWays_118 rfl ?_
                            refine g_iaddN fx dX12_countWays_120 ?_
                            refine g_dup2_11 fx dX12_countWays_121 rfl rfl ?_
                            refine g_lald (r := 24) (j := (((30001 * ((kk - 1) + 1)) + (t - 1)) + (sN i))) fx (by omega) hw (nI_toInt (by omega)) (by omega) dX12_countWays_122 ?_
                            refine g_isl (y := lN (g4 (((30001 * ((kk - 1) + 1)) + (t - 1)) + (sN i)))) rfl ?_
                            refine g_aload_n fx 0 dX12_countWays_123 rfl ?_
                            refine g_get (r := 0) fx lkX12_88 (by omega) h0 rfl dX12_countWays_124 ?_
                            refine g_sipush (v := nI 30001) fx dX12_countWays_127 (by decide +kernel) ?_
                            refine g_iload fx 5 dX12_countWays_130 rfl ?_
                            refine g_imulN fx dX12_countWays_132 ?_
                            refine g_iload fx 6 dX12_countWays_133 rfl ?_
                            refine g_iaddN fx dX12_countWays_135 ?_
                            refine g_lald (r := 24) (j := ((30001 * (kk - 1)) + (t - 1))) fx (by omega) hw (nI_toInt (by omega)) (by omega) dX12_countWays_136 ?_
                            refine g_isl (y := lN (g4 ((30001 * (kk - 1)) + (t - 1)))) rfl ?_
                            refine g_ladd fx dX12_countWays_137 ?_
                            refine g_isl (y := lN ((g4 (((30001 * ((kk - 1) + 1)) + (t - 1)) + (sN i))) + (g4 ((30001 * (kk - 1)) + (t - 1))))) (lN_add _ _) ?_
                            refine g_last (r := 24) (j := (((30001 * ((kk - 1) + 1)) + (t - 1)) + (sN i))) fx (by omega) hw (nI_toInt (by omega)) (by omega) dX12_countWays_138 (fun cu2 ecu2 => ?_)
                            have hct : cu2 = va_up ct 24 (.inl (B.2.1 1, 480016, .inr (.inl (lF (va_up g4 (((30001 * ((kk - 1) + 1)) + (t - 1)) + (sN i)) ((g4 (((30001 * ((kk - 1) + 1)) + (t - 1)) + (sN i))) + (g4 ((30001 * (kk - 1)) + (t - 1))))))))) := up2l hct ecu2
                            have h0 : cu2 0 = mObj ad f := (congrFun ecu2 _).trans ((va_up_ne _ _ (by omega)).trans h0)
                            have hsr : cu2 23 = .inl (B.2.1 0, 30, .inl sc) := (congrFun ecu2 _).trans ((va_up_ne _ _ (by omega)).trans hsr)
                            have hw : cu2 24 = .inl (B.2.1 1, 480016, .inr (.inl (lF (va_up g4 (((30001 * ((kk - 1) + 1)) + (t - 1)) + (sN i)) ((g4 (((30001 * ((kk - 1) + 1)) + (t - 1)) + (sN i))) + (g4 ((30001 * (kk - 1)) + (t - 1)))))))) := by rw [ecu2, va_up_self, lF_up]
                            refine g_iinc (L' := [(6, .int (nI (t - 1) - nI 1)), (0, .ref (ad 0)), (1, .int (nI m)), (2, .int (nI a)), (3, .int (nI i)), (4, .int (nI (sN i))), (5, .int (nI (kk - 1)))]) fx (nI (t - 1) - nI 1) 6 dX12_countWays_139 rfl (m1_sub _) (by decide) rfl ?_
                            refine g_goto fx 79 dX12_countWays_142 (by decide) ?_
                            refine g_locals (L' := [(0, .ref (ad 0)), (1, .int (nI m)), (2, .int (nI a)), (3, .int (nI i)), (4, .int (nI (sN i))), (5, .int (nI (kk - 1))), (6, .int (nI (t - 1) - nI 1))]) [1, 2, 3, 4, 5, 6, 0] rfl ?_
                            refine ih79 (t - 1) _ _ (by omega) (fun k x hk hx => ?_) h0 hsr hw hct (by omega)
                            by_cases q : k = kk ∧ x = t - 1 + sN i
                            · obtain ⟨rfl, rfl⟩ := q
                              rw [show 30001 * k + (t - 1 + sN i) = 30001 * (k - 1 + 1) + (t - 1) + sN i by omega, va_up_self, show 30001 * (k - 1 + 1) + (t - 1) + sN i = 30001 * k + (t - 1 + sN i) by omega, hg4 _ _ hk hx, wMid_at ht0, hsrc]
                            · rw [va_up_ne _ _ (by omega), hg4 k x hk hx]; exact (wMid_ne ht0 q).symm
                    refine g_locals (L' := [(0, .ref (ad 0)), (1, .int (nI m)), (2, .int (nI a)), (3, .int (nI i)), (4, .int (nI (sN i))), (5, .int (nI (kk - 1))), (6, .int (nI (2000 * (kk - 1) + 1) - nI 1))]) [1, 2, 3, 4, 5, 6, 0] rfl ?_
                    exact LP79 (2000 * (kk - 1) + 2) (2000 * (kk - 1) + 1) _ _ (by omega) (fun k x hk hx => by rw [hg3 k x hk hx]; exact (wMid_in (fun j hj => hs2 j (by omega))).symm) h0 hsr hw hct (by omega)
              refine g_locals (L' := [(0, .ref (ad 0)), (1, .int (nI m)), (2, .int (nI a)), (3, .int (nI i)), (4, .int (nI (sN i))), (5, .int ((nI a) - (nI 1)))]) [2, 3, 4, 5, 1, 0] rfl ?_
              exact LP48 (a + 1) a _ _ (by omega) (fun k x hk hx => by rw [if_neg (by omega)]; exact hg k x hk hx) h0 hsr hw hct (by omega)
        refine g_locals (L' := [(0, .ref (ad 0)), (1, .int (nI m)), (2, .int (nI a)), (3, .int (nI 0))]) [1, 2, 3, 0] rfl ?_
        refine LP30 (m + 1) 0 _ _ (by omega) (fun k x hk hx => ?_) h0 hsr hw hct (by omega)
        by_cases q : 30001 * k + x = 0
        · rw [q, va_up_self]; exact (if_pos ⟨by omega, by omega⟩).symm
        · rw [va_up_ne _ _ q, hz _ (by omega)]; exact (if_neg (by omega)).symm
      · skip
        have hlt : k < 480016 := (nI_ltI (by omega) (by decide)).mp (Int32.not_le.mp c5)
        refine g_aload_n fx 0 dX12_countWays_8 rfl ?_
        refine g_get (r := 0) fx lkX12_88 (by omega) h0 rfl dX12_countWays_9 ?_
        refine g_iload_n fx 3 dX12_countWays_12 rfl ?_
        refine g_lconst (v := lN 0) fx dX12_countWays_13 (by decide +kernel) ?_
        refine g_last (r := 24) (j := k) fx (by omega) hw (nI_toInt (by omega)) (by omega) dX12_countWays_14 (fun cu3 ecu3 => ?_)
        have hct : cu3 = va_up ct 24 (.inl (B.2.1 1, 480016, .inr (.inl (lF (va_up g1 k 0))))) := up2l hct ecu3
        have h0 : cu3 0 = mObj ad f := (congrFun ecu3 _).trans ((va_up_ne _ _ (by omega)).trans h0)
        have hsr : cu3 23 = .inl (B.2.1 0, 30, .inl sc) := (congrFun ecu3 _).trans ((va_up_ne _ _ (by omega)).trans hsr)
        have hw : cu3 24 = .inl (B.2.1 1, 480016, .inr (.inl (lF (va_up g1 k 0)))) := by rw [ecu3, va_up_self, lF_up]
        refine g_iinc (L' := [(3, .int (nI (k + 1))), (0, .ref (ad 0)), (1, .int (nI m)), (2, .int (nI a))]) fx (nI (k + 1)) 3 dX12_countWays_15 rfl (gInc _) (by decide) rfl ?_
        refine g_goto fx 2 dX12_countWays_18 (by decide) ?_
        refine g_locals (L' := [(0, .ref (ad 0)), (1, .int (nI m)), (2, .int (nI a)), (3, .int (nI (k + 1)))]) [1, 2, 3, 0] rfl ?_
        exact ih2 (k + 1) _ _ hlt (fun j hj => by by_cases q : j = k; (rw [q, va_up_self]); (rw [va_up_ne _ _ q]; exact hz j (by omega))) h0 hsr hw hct (by omega)
  refine g_locals (L' := [(0, .ref (ad 0)), (1, .int (nI m)), (2, .int (nI a)), (3, .int (nI 0))]) [1, 2, 3, 0] rfl ?_
  exact LP2 480017 0 ct gy (by omega) (fun j hj => absurd hj (by omega)) h0 hsr hw hct (by decide)
