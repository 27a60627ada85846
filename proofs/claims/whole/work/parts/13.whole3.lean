theorem bmul_step {b : Nat} {g g1 gu : Nat → Nat} {i a l c : Nat} (hk : g1 (i + a) = g (i + a)) (he : bval b g1 (i + a) + c * b ^ (i + a) = bval b g (i + a) + bval b gu i * l * b ^ a) : bval b (va_up g1 (i + a) ((gu i * l + g1 (i + a) + c) % b)) (i + 1 + a) + (gu i * l + g1 (i + a) + c) / b * b ^ (i + 1 + a) = bval b g (i + 1 + a) + bval b gu (i + 1) * l * b ^ a := by
  rw [show i + 1 + a = (i + a) + 1 by omega]
  show bval b (va_up g1 (i + a) ((gu i * l + g1 (i + a) + c) % b)) (i + a) + va_up g1 (i + a) ((gu i * l + g1 (i + a) + c) % b) (i + a) * b ^ (i + a) + (gu i * l + g1 (i + a) + c) / b * b ^ (i + a + 1) = bval b g (i + a) + g (i + a) * b ^ (i + a) + (bval b gu i + gu i * b ^ i) * l * b ^ a
  rw [bval_up_ge (Nat.le_refl _), va_up_self, Nat.pow_succ, hk]
  have h1 := Nat.div_add_mod (gu i * l + g (i + a) + c) b
  generalize (gu i * l + g (i + a) + c) / b = q at h1 ⊢
  generalize (gu i * l + g (i + a) + c) % b = r at h1 ⊢
  have h2 : (b * q + r) * b ^ (i + a) = (gu i * l + g (i + a) + c) * b ^ (i + a) := by rw [h1]
  have h3 : b ^ (i + a) = b ^ i * b ^ a := Nat.pow_add b i a
  rw [h3] at h2 he ⊢
  generalize b ^ i = p at h2 he ⊢
  generalize b ^ a = z at h2 he ⊢
  grind
theorem bval_mono {b : Nat} {f : Nat → Nat} {m : Nat} : ∀ k, bval b f m ≤ bval b f (m + k)
  | 0 => Nat.le_refl _
  | k + 1 => Nat.le_trans (bval_mono k) (Nat.le_add_right _ _)
theorem bval_le {b : Nat} {f : Nat → Nat} {m n : Nat} (h : m ≤ n) : bval b f m ≤ bval b f n := by
  obtain ⟨k, rfl⟩ := Nat.exists_eq_add_of_le h
  exact bval_mono k
theorem bval_head {b : Nat} {f : Nat → Nat} : ∀ n, bval b f (n + 1) = f 0 + b * bval b (fun i => f (i + 1)) n
  | 0 => by simp [bval]
  | n + 1 => by
    show bval b f (n + 1) + f (n + 1) * b ^ (n + 1) = f 0 + b * (bval b (fun i => f (i + 1)) n + f (n + 1) * b ^ n)
    rw [bval_head n, Nat.pow_succ]
    grind
/-- the places from k on -/
def bhi (b : Nat) (g : Nat → Nat) (sz k : Nat) : Nat := bval b (fun i => g (k + i)) (sz - k)
theorem bhi_top {b : Nat} {g : Nat → Nat} {sz : Nat} : bhi b g sz sz = 0 := by simp [bhi, bval]
theorem bhi_0 {b : Nat} {g : Nat → Nat} {sz : Nat} : bhi b g sz 0 = bval b g sz := by simp [bhi]
theorem bhi_step {b : Nat} {g : Nat → Nat} {sz k : Nat} (h0 : 0 < k) (hk : k ≤ sz) : bhi b g sz (k - 1) = g (k - 1) + b * bhi b g sz k := by
  unfold bhi
  rw [show sz - (k - 1) = (sz - k) + 1 by omega, bval_head]
  congr 2
  exact bval_congr _ (fun i _ => by congr 1; omega)
theorem bhi_congr {b : Nat} {f g : Nat → Nat} {sz k : Nat} (h : ∀ i, k ≤ i → f i = g i) : bhi b f sz k = bhi b g sz k := bval_congr _ (fun i _ => h _ (by omega))
/-- a product's places -/
theorem sizes_mul {b s t y z : Nat} (hb : 1 < b) (hs : s = 0 ∨ b ^ (s - 1) ≤ y) (ht : t = 0 ∨ b ^ (t - 1) ≤ z) (h : y * z < b ^ 12) {i : Nat} (hi : i < t) (hs12 : s ≤ 12) (ht12 : t ≤ 12) : s + i ≤ 12 := by
  rcases hs with hs | hs
  · omega
  · rcases ht with ht | ht
    · omega
    · rcases Nat.lt_or_ge (s + i) 13 with q | q
      · omega
      · exfalso
        have h1 : b ^ (s - 1) * b ^ (t - 1) ≤ y * z := Nat.mul_le_mul hs ht
        rw [← Nat.pow_add] at h1
        have h2 : b ^ 12 ≤ b ^ (s - 1 + (t - 1)) := Nat.pow_le_pow_right (by omega) (by omega)
        omega
theorem lN_ne0 {d : Nat} (h0 : 0 < d) (h : d < 2 ^ 31) : ¬ lN d = 0 := fun q => by
  have h1 : (lN d).toInt = (0 : Int64).toInt := by rw [q]
  rw [lN_toInt h] at h1
  have : (0 : Int64).toInt = 0 := by decide
  omega
theorem c_zero {c x p : Nat} (h : x + c * p < p) : c = 0 := by
  rcases Nat.eq_zero_or_pos c with q | q
  · exact q
  · have : 1 * p ≤ c * p := Nat.mul_le_mul_right p q
    omega
theorem div_of {q d r v : Nat} (h : q * d + r = v) (hr : r < d) : q = v / d := by
  rw [← h, Nat.mul_comm q d, Nat.mul_add_div (by omega), Nat.div_eq_of_lt hr]; simp
theorem mod_of {q d r v : Nat} (h : q * d + r = v) (hr : r < d) : r = v % d := by
  rw [← h, Nat.mul_comm q d, Nat.mul_add_mod, Nat.mod_eq_of_lt hr]
set_option maxHeartbeats 4000000 in
set_option maxRecDepth 100000 in
theorem c_X10_addTimes (B : gB) (ad : Nat → Nat) (ct : Nat → va_E) (n : Nat) (w u s0 su l a : Nat) (g gu : Nat → Nat) (hn : w + 1 < n) (hnu : u + 1 < n) (h1 : u ≠ w) (h2 : u ≠ w + 1) (h3 : w ≠ u + 1) (hw : ct w = .inr (10, [.ref (ad (w + 1)), .int (nI s0)])) (hl : ct (w + 1) = .inl (B.2.1 1, 12, .inr (.inl (lF g)))) (hlt : ∀ i, g i < 4294967296) (hz : ∀ j, su + a ≤ j → g j = 0) (hU : rW B ad ct u su gu) (hl32 : l < 4294967296) (hsa : su + a ≤ 12) (ho : bval 4294967296 g 12 + bval 4294967296 gu su * l * 4294967296 ^ a < 4294967296 ^ 12) : Ctr B yX10_addTimes cX10_addTimes 11 none 1 21 0 0 ad ct n [.ref (ad w), .ref (ad u), .long (lN l), .int (nI a)] (gPv ad n (fun ct' => ∃ g2, ct' w = .inr (10, [.ref (ad (w + 1)), .int (nI s0)]) ∧ ct' (w + 1) = .inl (B.2.1 1, 12, .inr (.inl (lF g2))) ∧ (∀ i, g2 i < 4294967296) ∧ (∀ j, su + a + 1 ≤ j → g2 j = 0) ∧ (∀ j, 12 ≤ j → g2 j = 0) ∧ bval 4294967296 g2 12 = bval 4294967296 g 12 + bval 4294967296 gu su * l * 4294967296 ^ a ∧ sameB ct ct' w)) := by
  obtain ⟨hu, hm, hsu, hltu, hzu⟩ := hU
  have hfr : ∀ r, r ≠ w → r ≠ w + 1 → ct r = ct r := fun _ _ _ => rfl
  have hg12 : bval 4294967296 g 12 = bval 4294967296 g (su + a) := bval_ext hsa hz
  refine Ctr.ofG (L := [(0, .ref (ad w)), (1, .ref (ad u)), (2, .long (lN l)), (4, .int (nI a))]) (by decide +kernel) rfl (Nat.le_of_ble_eq_true rfl) (fun E fx rt hnm => ?_)
  refine g_aload_n fx 1 dX10_addTimes_0 rfl ?_
  refine g_get (r := u) fx lkX10_24 (by omega) hu rfl dX10_addTimes_1 ?_
  refine g_bipush (v := nI 12) fx dX10_addTimes_4 (by decide +kernel) ?_
  refine g_iload fx 3 dX10_addTimes_6 rfl ?_
  refine g_isubN fx dX10_addTimes_8 (by omega) ?_
  refine g_callSip (As := [.int (nI su), .int (nI (12 - a))]) (rest := []) fx slX10_38 (c_J9_min_7cf53 B ad ct n (nI su) (nI (12 - a))) rfl rfl (Nat.le_of_ble_eq_true rfl) ⟨by decide, by decide⟩ ⟨by decide, by decide⟩ dX10_addTimes_9 (fun q hq => ?_)
  obtain rfl : q = nI su := hq.trans ((gMin (by omega) (by omega)).trans (by congr 1; omega))
  refine g_istore (L' := [(5, .int (nI su)), (0, .ref (ad w)), (1, .ref (ad u)), (2, .long (lN l)), (4, .int (nI a))]) fx dX10_addTimes_12 (by decide) rfl ?_
  refine g_lconst (v := lN 0) fx dX10_addTimes_14 (by decide +kernel) ?_
  refine g_lstore (L' := [(6, .long (lN 0)), (5, .int (nI su)), (0, .ref (ad w)), (1, .ref (ad u)), (2, .long (lN l)), (4, .int (nI a))]) fx dX10_addTimes_15 (by decide) rfl ?_
  refine g_iconst (v := nI 0) fx dX10_addTimes_17 (by decide +kernel) ?_
  refine g_istore (L' := [(8, .int (nI 0)), (6, .long (lN 0)), (5, .int (nI su)), (0, .ref (ad w)), (1, .ref (ad u)), (2, .long (lN l)), (4, .int (nI a))]) fx dX10_addTimes_18 (by decide) rfl ?_
  have LP20 : ∀ (M : Nat) (i c : Nat) (ct1 : Nat → va_E) (g1 : Nat → Nat), (i ≤ su) → (c < 4294967296) → (∀ j, g1 j < 4294967296) → (∀ j, i + a ≤ j → g1 j = g j) → (bval 4294967296 g1 (i + a) + c * 4294967296 ^ (i + a) = bval 4294967296 g (i + a) + bval 4294967296 gu i * l * 4294967296 ^ a) → (ct1 w = .inr (10, [.ref (ad (w + 1)), .int (nI s0)])) → (ct1 (w + 1) = .inl (B.2.1 1, 12, .inr (.inl (lF g1)))) → (∀ r, r ≠ w → r ≠ w + 1 → ct1 r = ct r) → (ct1 u = .inr (10, [.ref (ad (u + 1)), .int (nI su)])) → (ct1 (u + 1) = .inl (B.2.1 1, 12, .inr (.inl (lF gu)))) →  (su - i) < M → G B 11 E ad ct1 n 0 0 [(0, .ref (ad w)), (1, .ref (ad u)), (2, .long (lN l)), (4, .int (nI a)), (5, .int (nI su)), (6, .long (lN c)), (8, .int (nI i))] 20 [] := by
    intro M
    induction M with
    | zero => intro i c ct1 g1 _ _ _ _ _ _ _ _ _ _ hM; exact absurd hM (Nat.not_lt_zero _)
    | succ M ih =>
      intro i c ct1 g1 hi hc hb1 hk he hw hl hfr hu hm hM
      refine g_iload fx 6 dX10_addTimes_20 rfl ?_
      refine g_iload fx 4 dX10_addTimes_22 rfl ?_
      refine g_icmp_ge fx 81 dX10_addTimes_24 (by decide) (fun c24 => ?_) (fun c24 => ?_)
      · skip
        have him : i = su := by have := (nI_leI (by omega) (by omega)).mp c24; omega
        rw [him] at he hk
        have hz1 : ∀ j, su + a ≤ j → g1 j = 0 := fun j hj => by rw [hk j hj]; exact hz j hj
        rw [← hg12] at he
        refine g_iload fx 4 dX10_addTimes_81 rfl ?_
        refine g_iload fx 3 dX10_addTimes_83 rfl ?_
        refine g_iaddN fx dX10_addTimes_85 ?_
        refine g_bipush (v := nI 12) fx dX10_addTimes_86 (by decide +kernel) ?_
        refine g_icmp_ge fx 103 dX10_addTimes_88 (by decide) (fun c88 => ?_) (fun c88 => ?_)
        · skip
          have h12 : su + a = 12 := by have := (nI_leI (by omega) (by omega)).mp c88; omega
          rw [h12] at he
          have hc0 : c = 0 := c_zero (by rw [he]; exact ho)
          have hA : (∀ j, g1 j < 4294967296) ∧ (∀ j, su + a + 1 ≤ j → g1 j = 0) ∧ (∀ j, 12 ≤ j → g1 j = 0) ∧ bval 4294967296 g1 12 = bval 4294967296 g 12 + bval 4294967296 gu su * l * 4294967296 ^ a := ⟨hb1, fun j hj => hz1 j (by omega), fun j hj => hz1 j (by omega), by rw [hc0, Nat.zero_mul, Nat.add_zero] at he; exact he⟩
          refine g_vret fx rt dX10_addTimes_103 ?_
          exact gPv.mk ⟨_, hw, hl, hA.1, hA.2.1, hA.2.2.1, hA.2.2.2, hfr⟩
        · skip
          have h12 : su + a < 12 := by have := (nI_ltI (by omega) (by omega)).mp (Int32.not_le.mp c88); omega
          have hz2 : ∀ j, su + a + 1 ≤ j → va_up g1 (su + a) c j = 0 := fun j hj => by rw [va_up_ne _ _ (by omega)]; exact hz1 j (by omega)
          have hA : (∀ j, va_up g1 (su + a) c j < 4294967296) ∧ (∀ j, su + a + 1 ≤ j → va_up g1 (su + a) c j = 0) ∧ (∀ j, 12 ≤ j → va_up g1 (su + a) c j = 0) ∧ bval 4294967296 (va_up g1 (su + a) c) 12 = bval 4294967296 g 12 + bval 4294967296 gu su * l * 4294967296 ^ a := ⟨fun j => by unfold va_up; split; exact hc; exact hb1 j, hz2, fun j hj => hz2 j (by omega), by
            rw [bval_ext (m := su + a + 1) (by omega) hz2]
            show bval 4294967296 (va_up g1 (su + a) c) (su + a) + va_up g1 (su + a) c (su + a) * 4294967296 ^ (su + a) = _
            rw [bval_up_ge (Nat.le_refl _), va_up_self]; exact he⟩
          refine g_aload_n fx 0 dX10_addTimes_91 rfl ?_
          refine g_get (r := w) fx lkX10_11 (by omega) hw rfl dX10_addTimes_92 ?_
          refine g_iload fx 4 dX10_addTimes_95 rfl ?_
          refine g_iload fx 3 dX10_addTimes_97 rfl ?_
          refine g_iaddN fx dX10_addTimes_99 ?_
          refine g_lload fx 5 dX10_addTimes_100 rfl ?_
          refine g_last (r := w + 1) (j := (su + a)) fx (by omega) hl (nI_toInt (by omega)) (by omega) dX10_addTimes_102 (fun cu2 ecu2 => ?_)
          have hfr : ∀ r, r ≠ w → r ≠ w + 1 → cu2 r = ct r := fun r _ _ => (congrFun ecu2 r).trans ((va_up_ne _ _ (by assumption)).trans (hfr r (by assumption) (by assumption)))
          have hw : cu2 w = .inr (10, [.ref (ad (w + 1)), .int (nI s0)]) := (congrFun ecu2 _).trans ((va_up_ne _ _ (by omega)).trans hw)
          have hl : cu2 (w + 1) = .inl (B.2.1 1, 12, .inr (.inl (lF (va_up g1 (su + a) c)))) := by rw [ecu2, va_up_self, lF_up]
          have hu : cu2 u = .inr (10, [.ref (ad (u + 1)), .int (nI su)]) := (congrFun ecu2 _).trans ((va_up_ne _ _ (by omega)).trans hu)
          have hm : cu2 (u + 1) = .inl (B.2.1 1, 12, .inr (.inl (lF gu))) := (congrFun ecu2 _).trans ((va_up_ne _ _ (by omega)).trans hm)
          refine g_vret fx rt dX10_addTimes_103 ?_
          exact gPv.mk ⟨_, hw, hl, hA.1, hA.2.1, hA.2.2.1, hA.2.2.2, hfr⟩
      · skip
        have hlt2 : i < su := by have := (nI_ltI (by omega) (by omega)).mp (Int32.not_le.mp c24); omega
        have hq1 := hb1 (i + a)
        have hq2 := hltu i
        have hq3 : gu i * l ≤ 4294967295 * 4294967295 := Nat.mul_le_mul (by omega) (by omega)
        refine g_aload_n fx 1 dX10_addTimes_27 rfl ?_
        refine g_get (r := u) fx lkX10_11 (by omega) hu rfl dX10_addTimes_28 ?_
        refine g_iload fx 6 dX10_addTimes_31 rfl ?_
        refine g_lald (r := u + 1) (j := i) fx (by omega) hm (nI_toInt (by omega)) (by omega) dX10_addTimes_33 ?_
        refine g_isl (y := lN (gu i)) rfl ?_
        refine g_lload_n fx 2 dX10_addTimes_34 rfl ?_
        refine g_lmul fx dX10_addTimes_35 ?_
        refine g_isl (y := lN (gu i * l)) (lN_mul _ _) ?_
        refine g_aload_n fx 0 dX10_addTimes_36 rfl ?_
        refine g_get (r := w) fx lkX10_11 (by omega) hw rfl dX10_addTimes_37 ?_
        refine g_iload fx 6 dX10_addTimes_40 rfl ?_
        refine g_iload fx 3 dX10_addTimes_42 rfl ?_
        refine g_iaddN fx dX10_addTimes_44 ?_
        refine g_lald (r := w + 1) (j := (i + a)) fx (by omega) hl (nI_toInt (by omega)) (by omega) dX10_addTimes_45 ?_
        refine g_isl (y := lN (g1 (i + a))) rfl ?_
        refine g_ladd fx dX10_addTimes_46 ?_
        refine g_lload fx 5 dX10_addTimes_47 rfl ?_
        refine g_ladd fx dX10_addTimes_49 ?_
        refine g_isl (y := lN (gu i * l + g1 (i + a) + c)) (by rw [lN_add, lN_add]) ?_
        refine g_lstore (L' := [(9, .long (lN (gu i * l + g1 (i + a) + c))), (0, .ref (ad w)), (1, .ref (ad u)), (2, .long (lN l)), (4, .int (nI a)), (5, .int (nI su)), (6, .long (lN c)), (8, .int (nI i))]) fx dX10_addTimes_50 (by decide) rfl ?_
        refine g_aload_n fx 1 dX10_addTimes_52 rfl ?_
        refine g_get (r := w) fx lkX10_11 (by omega) hw rfl dX10_addTimes_53 ?_
        refine g_iload fx 7 dX10_addTimes_56 rfl ?_
        refine g_iload fx 4 dX10_addTimes_58 rfl ?_
        refine g_iaddN fx dX10_addTimes_60 ?_
        refine g_lload fx 0 dX10_addTimes_61 rfl ?_
        refine g_ldc2 fx kcX10_18 dX10_addTimes_63 ?_
        refine g_land fx dX10_addTimes_66 ?_
        refine g_isl (y := lN ((gu i * l + g1 (i + a) + c) % 4294967296)) (l_mask (by omega)) ?_
        refine g_last (r := w + 1) (j := (i + a)) fx (by omega) hl (nI_toInt (by omega)) (by omega) dX10_addTimes_67 (fun cu3 ecu3 => ?_)
        have hfr : ∀ r, r ≠ w → r ≠ w + 1 → cu3 r = ct r := fun r _ _ => (congrFun ecu3 r).trans ((va_up_ne _ _ (by assumption)).trans (hfr r (by assumption) (by assumption)))
        have hw : cu3 w = .inr (10, [.ref (ad (w + 1)), .int (nI s0)]) := (congrFun ecu3 _).trans ((va_up_ne _ _ (by omega)).trans hw)
        have hl : cu3 (w + 1) = .inl (B.2.1 1, 12, .inr (.inl (lF (va_up g1 (i + a) ((gu i * l + g1 (i + a) + c) % 4294967296))))) := by rw [ecu3, va_up_self, lF_up]
        have hu : cu3 u = .inr (10, [.ref (ad (u + 1)), .int (nI su)]) := (congrFun ecu3 _).trans ((va_up_ne _ _ (by omega)).trans hu)
        have hm : cu3 (u + 1) = .inl (B.2.1 1, 12, .inr (.inl (lF gu))) := (congrFun ecu3 _).trans ((va_up_ne _ _ (by omega)).trans hm)
        refine g_lload fx 0 dX10_addTimes_68 rfl ?_
        refine g_bipush (v := nI 32) fx dX10_addTimes_70 (by decide +kernel) ?_
        refine g_lushr fx dX10_addTimes_72 ?_
        refine g_isl (y := lN ((gu i * l + g1 (i + a) + c) / 4294967296)) (l_shr (by omega)) ?_
        refine g_lstore (L' := [(6, .long (lN ((gu i * l + g1 (i + a) + c) / 4294967296))), (9, .long (lN (gu i * l + g1 (i + a) + c))), (0, .ref (ad w)), (1, .ref (ad u)), (2, .long (lN l)), (4, .int (nI a)), (5, .int (nI su)), (8, .int (nI i))]) fx dX10_addTimes_73 (by decide) rfl ?_
        refine g_iinc (L' := [(8, .int (nI (i + 1))), (6, .long (lN ((gu i * l + g1 (i + a) + c) / 4294967296))), (9, .long (lN (gu i * l + g1 (i + a) + c))), (0, .ref (ad w)), (1, .ref (ad u)), (2, .long (lN l)), (4, .int (nI a)), (5, .int (nI su))]) fx (nI (i + 1)) 7 dX10_addTimes_75 rfl (gInc _) (by decide) rfl ?_
        refine g_goto fx 20 dX10_addTimes_78 (by decide) ?_
        refine g_locals (L' := [(0, .ref (ad w)), (1, .ref (ad u)), (2, .long (lN l)), (4, .int (nI a)), (5, .int (nI su)), (6, .long (lN ((gu i * l + g1 (i + a) + c) / 4294967296))), (8, .int (nI (i + 1)))]) [3, 4, 5, 6, 7, 1, 0] rfl ?_
        exact ih (i + 1) ((gu i * l + g1 (i + a) + c) / 4294967296) _ (va_up g1 (i + a) ((gu i * l + g1 (i + a) + c) % 4294967296)) hlt2 (by omega) (fun j => by unfold va_up; split; omega; exact hb1 j) (fun j hj => by rw [va_up_ne _ _ (by omega)]; exact hk j (by omega)) (bmul_step (hk (i + a) (by omega)) he) hw hl hfr hu hm (by omega)
  refine g_locals (L' := [(0, .ref (ad w)), (1, .ref (ad u)), (2, .long (lN l)), (4, .int (nI a)), (5, .int (nI su)), (6, .long (lN 0)), (8, .int (nI 0))]) [3, 4, 5, 6, 2, 1, 0] rfl ?_
  exact LP20 (su + 1) 0 0 ct g (by omega) (by decide) hlt (fun _ _ => rfl) (by simp [bval]) hw hl hfr hu hm (by omega)
set_option maxHeartbeats 4000000 in
set_option maxRecDepth 100000 in
theorem c_X10_setProduct (B : gB) (ad : Nat → Nat) (ct : Nat → va_E) (n : Nat) (w u sz y f : Nat) (g : Nat → Nat) (hn : w + 1 < n) (hnu : u + 1 < n) (h1 : u ≠ w) (h2 : u ≠ w + 1) (h3 : w ≠ u + 1) (h : rW B ad ct w sz g) (hU : isW B ad ct u y) (hf : f < 18446744073709551616) (ho : y * f < 4294967296 ^ 12) : Ctr B yX10_setProduct cX10_setProduct 6 none 2 51 0 0 ad ct n [.ref (ad w), .ref (ad u), .long (lN f)] (gPv ad n (fun ct' => isW B ad ct' w (y * f) ∧ sameB ct ct' w)) := by
  obtain ⟨hw, hl, hsz, hlt, hz⟩ := id h
  obtain ⟨su, gu, ⟨hu, hm, hsu, hltu, hzu⟩, hnou, hx⟩ := hU
  have hfr : ∀ r, r ≠ w → r ≠ w + 1 → ct r = ct r := fun _ _ _ => rfl
  rw [bval_ext hsu hzu] at hx
  have hfd := Nat.div_add_mod f 4294967296
  have hml : y * (f % 4294967296) ≤ y * f := Nat.mul_le_mul_left _ (by omega)
  have hbz : bval 4294967296 (fun _ => 0) 12 = 0 := bval_zero 12 (fun _ _ => rfl)
  have hsum : y * (f % 4294967296) + y * (f / 4294967296) * 4294967296 = y * f := by rw [Nat.mul_assoc, ← Nat.mul_add]; congr 1; omega
  refine Ctr.ofG (L := [(0, .ref (ad w)), (1, .ref (ad u)), (2, .long (lN f))]) (by decide +kernel) rfl (Nat.le_of_ble_eq_true rfl) (fun E fx rt hnm => ?_)
  refine g_aload_n fx 0 dX10_setProduct_0 rfl ?_
  refine g_callVv (As := []) (rest := []) fx slX10_15 (c_X10_empty B ad ct n w sz g hn h) (by omega) hw rfl rfl rfl (Nat.le_of_ble_eq_true rfl) ⟨by decide, by decide⟩ ⟨by decide, by decide⟩ dX10_setProduct_1 (fun ct1 he => ?_)
  obtain ⟨⟨hw, hl, -, -, -⟩, hfr⟩ := he
  have hu : ct1 u = .inr (10, [.ref (ad (u + 1)), .int (nI su)]) := (hfr u h1 h2).trans hu
  have hm : ct1 (u + 1) = .inl (B.2.1 1, 12, .inr (.inl (lF gu))) := (hfr (u + 1) (by omega) (by omega)).trans hm
  refine g_aload_n fx 0 dX10_setProduct_4 rfl ?_
  refine g_aload_n fx 1 dX10_setProduct_5 rfl ?_
  refine g_lload_n fx 2 dX10_setProduct_6 rfl ?_
  refine g_ldc2 fx kcX10_18 dX10_setProduct_7 ?_
  refine g_land fx dX10_setProduct_10 ?_
  refine g_isl (y := lN (f % 4294967296)) (l_mask hf) ?_
  refine g_iconst (v := nI 0) fx dX10_setProduct_11 (by decide +kernel) ?_
  refine g_callVv (As := [.ref (ad u), .long (lN (f % 4294967296)), .int (nI 0)]) (rest := []) fx slX10_34 (c_X10_addTimes B ad ct1 n w u 0 su (f % 4294967296) 0 (fun _ => 0) gu hn hnu h1 h2 h3 hw hl (fun _ => Nat.zero_lt_succ _) (fun _ _ => rfl) ⟨hu, hm, hsu, hltu, hzu⟩ (by omega) (by omega) (by rw [hbz, hx]; simp; omega)) (by omega) hw rfl rfl rfl (Nat.le_of_ble_eq_true rfl) ⟨by decide, by decide⟩ ⟨by decide, by decide⟩ dX10_setProduct_12 (fun ct2 hqct2 => ?_)
  obtain ⟨ga, hw, hl, hbga, hzga, hyga, hvga, hsga⟩ := hqct2
  have hfr : ∀ r, r ≠ w → r ≠ w + 1 → ct2 r = ct r := fun r q1 q2 => (hsga r q1 q2).trans (hfr r q1 q2)
  have hu : ct2 u = .inr (10, [.ref (ad (u + 1)), .int (nI su)]) := (hsga u h1 h2).trans hu
  have hm : ct2 (u + 1) = .inl (B.2.1 1, 12, .inr (.inl (lF gu))) := (hsga (u + 1) (by omega) (by omega)).trans hm
  refine g_lload_n fx 2 dX10_setProduct_15 rfl ?_
  refine g_bipush (v := nI 32) fx dX10_setProduct_16 (by decide +kernel) ?_
  rw [hbz, hx, Nat.zero_add, Nat.pow_zero, Nat.mul_one] at hvga
  refine g_lushr fx dX10_setProduct_18 ?_
  refine g_isl (y := lN (f / 4294967296)) (l_shr hf) ?_
  refine g_lstore (L' := [(4, .long (lN (f / 4294967296))), (0, .ref (ad w)), (1, .ref (ad u)), (2, .long (lN f))]) fx dX10_setProduct_19 (by decide) rfl ?_
  refine g_lload fx 0 dX10_setProduct_21 rfl ?_
  refine g_lconst (v := lN 0) fx dX10_setProduct_23 (by decide +kernel) ?_
  refine g_lcmp fx dX10_setProduct_24 ?_
  refine g_if_eq fx 36 dX10_setProduct_25 (by decide) (fun c25 => ?_) (fun c25 => ?_)
  · skip
    have hf0 : f / 4294967296 = 0 := (l_eq0 (by omega)).mp c25
    obtain ⟨gz, hgz⟩ : ∃ z, z = ga := ⟨_, rfl⟩
    rw [← hgz] at hl hbga hzga hvga hyga
    have hZ12 := hyga
    have hA : bval 4294967296 gz 12 = y * f := by rw [hvga]; congr 1; omega
    have hB := hbga
    have hZ : ∀ j, su + 2 ≤ j → gz j = 0 := fun j hj => hzga j (by omega)
    have hA : bval 4294967296 gz 12 = y * f := by first | exact hA | (rw [hvgz, hvga, hx, Nat.pow_one]; exact hsum)
    have hB : ∀ i, gz i < 4294967296 := by first | exact hB | exact hbgz
    have hZ12 : ∀ j, 12 ≤ j → gz j = 0 := by first | exact hZ12 | exact hygz
    have hZ : ∀ j, su + 2 ≤ j → gz j = 0 := by first | exact hZ | exact fun j hj => hzgz j (by omega)
    refine g_aload_n fx 1 dX10_setProduct_36 rfl ?_
    refine g_aload_n fx 2 dX10_setProduct_37 rfl ?_
    refine g_get (r := u) fx lkX10_24 (by omega) hu rfl dX10_setProduct_38 ?_
    refine g_iconst (v := nI 2) fx dX10_setProduct_41 (by decide +kernel) ?_
    refine g_iaddN fx dX10_setProduct_42 ?_
    refine g_callVv (As := [.int (nI (su + 2))]) (rest := []) fx slX10_20 (c_X10_trim B ad ct2 n w 0 (su + 2) gz hn hw hl (by omega) hB hZ hZ12) (by omega) hw rfl rfl rfl (Nat.le_of_ble_eq_true rfl) ⟨by decide, by decide⟩ ⟨by decide, by decide⟩ dX10_setProduct_43 (fun ct9 hy => ?_)
    obtain ⟨hy, hs2⟩ := hy
    rw [hA] at hy
    refine g_vret fx rt dX10_setProduct_46 ?_
    exact gPv.mk ⟨hy, fun r q1 q2 => (hs2 r q1 q2).trans (hfr r q1 q2)⟩
  · skip
    have hf0 : 0 < f / 4294967296 := Nat.pos_of_ne_zero (fun q => c25 ((l_eq0 (by omega)).mpr q))
    have hs1 : su + 1 ≤ 12 := by
      rcases hnou with q | q
      · omega
      · rcases Nat.lt_or_ge su 12 with q2 | q2
        · omega
        · exfalso
          have e1 : 4294967296 ^ (su - 1) * 4294967296 ≤ y * f := Nat.mul_le_mul q (by omega)
          rw [← Nat.pow_succ, show (su - 1).succ = su by omega] at e1
          have e2 := Nat.pow_le_pow_right (n := 4294967296) (by decide) q2
          omega
    refine g_aload_n fx 1 dX10_setProduct_28 rfl ?_
    refine g_aload_n fx 2 dX10_setProduct_29 rfl ?_
    refine g_lload fx 0 dX10_setProduct_30 rfl ?_
    refine g_iconst (v := nI 1) fx dX10_setProduct_32 (by decide +kernel) ?_
    refine g_callVv (As := [.ref (ad u), .long (lN (f / 4294967296)), .int (nI 1)]) (rest := []) fx slX10_34 (c_X10_addTimes B ad ct2 n w u 0 su (f / 4294967296) 1 ga gu hn hnu h1 h2 h3 hw hl hbga (fun j hj => hzga j (by omega)) ⟨hu, hm, hsu, hltu, hzu⟩ (by omega) (by omega) (by rw [hvga, hx, Nat.pow_one, hsum]; exact ho)) (by omega) hw rfl rfl rfl (Nat.le_of_ble_eq_true rfl) ⟨by decide, by decide⟩ ⟨by decide, by decide⟩ dX10_setProduct_33 (fun ct3 hqct3 => ?_)
    obtain ⟨gz, hw, hl, hbgz, hzgz, hygz, hvgz, hsgz⟩ := hqct3
    have hfr : ∀ r, r ≠ w → r ≠ w + 1 → ct3 r = ct r := fun r q1 q2 => (hsgz r q1 q2).trans (hfr r q1 q2)
    have hu : ct3 u = .inr (10, [.ref (ad (u + 1)), .int (nI su)]) := (hsgz u h1 h2).trans hu
    have hm : ct3 (u + 1) = .inl (B.2.1 1, 12, .inr (.inl (lF gu))) := (hsgz (u + 1) (by omega) (by omega)).trans hm
    have hA : bval 4294967296 gz 12 = y * f := by first | exact hA | (rw [hvgz, hvga, hx, Nat.pow_one]; exact hsum)
    have hB : ∀ i, gz i < 4294967296 := by first | exact hB | exact hbgz
    have hZ12 : ∀ j, 12 ≤ j → gz j = 0 := by first | exact hZ12 | exact hygz
    have hZ : ∀ j, su + 2 ≤ j → gz j = 0 := by first | exact hZ | exact fun j hj => hzgz j (by omega)
    refine g_aload_n fx 1 dX10_setProduct_36 rfl ?_
    refine g_aload_n fx 2 dX10_setProduct_37 rfl ?_
    refine g_get (r := u) fx lkX10_24 (by omega) hu rfl dX10_setProduct_38 ?_
    refine g_iconst (v := nI 2) fx dX10_setProduct_41 (by decide +kernel) ?_
    refine g_iaddN fx dX10_setProduct_42 ?_
    refine g_callVv (As := [.int (nI (su + 2))]) (rest := []) fx slX10_20 (c_X10_trim B ad ct3 n w 0 (su + 2) gz hn hw hl (by omega) hB hZ hZ12) (by omega) hw rfl rfl rfl (Nat.le_of_ble_eq_true rfl) ⟨by decide, by decide⟩ ⟨by decide, by decide⟩ dX10_setProduct_43 (fun ct9 hy => ?_)
    obtain ⟨hy, hs2⟩ := hy
    rw [hA] at hy
    refine g_vret fx rt dX10_setProduct_46 ?_
    exact gPv.mk ⟨hy, fun r q1 q2 => (hs2 r q1 q2).trans (hfr r q1 q2)⟩
set_option maxHeartbeats 4000000 in
set_option maxRecDepth 100000 in
theorem c_X10_setProductOf (B : gB) (ad : Nat → Nat) (ct : Nat → va_E) (n : Nat) (w u t sz y z : Nat) (g : Nat → Nat) (hn : w + 1 < n) (hnu : u + 1 < n) (hnt : t + 1 < n) (h1 : u ≠ w) (h2 : u ≠ w + 1) (h3 : w ≠ u + 1) (h4 : t ≠ w) (h5 : t ≠ w + 1) (h6 : w ≠ t + 1) (h : rW B ad ct w sz g) (hU : isW B ad ct u y) (hV : isW B ad ct t z) (ho : y * z < 4294967296 ^ 12) : Ctr B yX10_setProductOf cX10_setProductOf 4 none 2 51 0 0 ad ct n [.ref (ad w), .ref (ad u), .ref (ad t)] (gPv ad n (fun ct' => isW B ad ct' w (y * z) ∧ sameB ct ct' w)) := by
  obtain ⟨hw, hl, hsz, hlt, hz⟩ := id h
  obtain ⟨su, gu, ⟨hu, hm, hsu, hltu, hzu⟩, hnou, hx⟩ := hU
  obtain ⟨st, gt, ⟨ht, hp, hst, hltt, hzt⟩, hnot, hxt⟩ := hV
  have hfr : ∀ r, r ≠ w → r ≠ w + 1 → ct r = ct r := fun _ _ _ => rfl
  rw [bval_ext hsu hzu] at hx
  rw [bval_ext hst hzt] at hxt
  have hbz : bval 4294967296 (fun _ => 0) 12 = 0 := bval_zero 12 (fun _ _ => rfl)
  refine Ctr.ofG (L := [(0, .ref (ad w)), (1, .ref (ad u)), (2, .ref (ad t))]) (by decide +kernel) rfl (Nat.le_of_ble_eq_true rfl) (fun E fx rt hnm => ?_)
  refine g_aload_n fx 0 dX10_setProductOf_0 rfl ?_
  refine g_callVv (As := []) (rest := []) fx slX10_15 (c_X10_empty B ad ct n w sz g hn h) (by omega) hw rfl rfl rfl (Nat.le_of_ble_eq_true rfl) ⟨by decide, by decide⟩ ⟨by decide, by decide⟩ dX10_setProductOf_1 (fun ct1 he => ?_)
  obtain ⟨⟨hw, hl, -, -, -⟩, hfr⟩ := he
  have hu : ct1 u = .inr (10, [.ref (ad (u + 1)), .int (nI su)]) := (hfr u h1 h2).trans hu
  have hm : ct1 (u + 1) = .inl (B.2.1 1, 12, .inr (.inl (lF gu))) := (hfr (u + 1) (by omega) (by omega)).trans hm
  have ht : ct1 t = .inr (10, [.ref (ad (t + 1)), .int (nI st)]) := (hfr t h4 h5).trans ht
  have hp : ct1 (t + 1) = .inl (B.2.1 1, 12, .inr (.inl (lF gt))) := (hfr (t + 1) (by omega) (by omega)).trans hp
  refine g_iconst (v := nI 0) fx dX10_setProductOf_4 (by decide +kernel) ?_
  refine g_istore_n (L' := [(3, .int (nI 0)), (0, .ref (ad w)), (1, .ref (ad u)), (2, .ref (ad t))]) fx dX10_setProductOf_5 (by decide) rfl ?_
  have LP6 : ∀ (M : Nat) (i : Nat) (ct2 : Nat → va_E) (g1 : Nat → Nat), (i ≤ st) → (∀ j, g1 j < 4294967296) → (∀ j, su + i ≤ j → g1 j = 0) → (∀ j, 12 ≤ j → g1 j = 0) → (bval 4294967296 g1 12 = y * bval 4294967296 gt i) → (ct2 w = .inr (10, [.ref (ad (w + 1)), .int (nI 0)])) → (ct2 (w + 1) = .inl (B.2.1 1, 12, .inr (.inl (lF g1)))) → (∀ r, r ≠ w → r ≠ w + 1 → ct2 r = ct r) → (ct2 u = .inr (10, [.ref (ad (u + 1)), .int (nI su)])) → (ct2 (u + 1) = .inl (B.2.1 1, 12, .inr (.inl (lF gu)))) → (ct2 t = .inr (10, [.ref (ad (t + 1)), .int (nI st)])) → (ct2 (t + 1) = .inl (B.2.1 1, 12, .inr (.inl (lF gt)))) →  (st - i) < M → G B 4 E ad ct2 n 0 0 [(0, .ref (ad w)), (1, .ref (ad u)), (2, .ref (ad t)), (3, .int (nI i))] 6 [] := by
    intro M
    induction M with
    | zero => intro i ct2 g1 _ _ _ _ _ _ _ _ _ _ _ _ hM; exact absurd hM (Nat.not_lt_zero _)
    | succ M ih =>
      intro i ct2 g1 hi hb1 hz1 hy1 hv1 hw hl hfr hu hm ht hp hM
      refine g_iload_n fx 3 dX10_setProductOf_6 rfl ?_
      refine g_aload_n fx 2 dX10_setProductOf_7 rfl ?_
      refine g_get (r := t) fx lkX10_24 (by omega) ht rfl dX10_setProductOf_8 ?_
      refine g_icmp_ge fx 32 dX10_setProductOf_11 (by decide) (fun c11 => ?_) (fun c11 => ?_)
      · skip
        have him : i = st := by have := (nI_leI (by omega) (by omega)).mp c11; omega
        rw [him, hxt] at hv1
        rw [him] at hz1
        refine g_aload_n fx 0 dX10_setProductOf_32 rfl ?_
        refine g_aload_n fx 1 dX10_setProductOf_33 rfl ?_
        refine g_get (r := u) fx lkX10_24 (by omega) hu rfl dX10_setProductOf_34 ?_
        refine g_aload_n fx 2 dX10_setProductOf_37 rfl ?_
        refine g_get (r := t) fx lkX10_24 (by omega) ht rfl dX10_setProductOf_38 ?_
        refine g_iaddN fx dX10_setProductOf_41 ?_
        refine g_callVv (As := [.int (nI (su + st))]) (rest := []) fx slX10_20 (c_X10_trim B ad ct2 n w 0 (su + st) g1 hn hw hl (by omega) hb1 hz1 hy1) (by omega) hw rfl rfl rfl (Nat.le_of_ble_eq_true rfl) ⟨by decide, by decide⟩ ⟨by decide, by decide⟩ dX10_setProductOf_42 (fun ct9 hy9 => ?_)
        obtain ⟨hy, hs2⟩ := hy9
        rw [hv1] at hy
        refine g_vret fx rt dX10_setProductOf_45 ?_
        exact gPv.mk ⟨hy, fun r q1 q2 => (hs2 r q1 q2).trans (hfr r q1 q2)⟩
      · skip
        have hlt2 : i < st := by have := (nI_ltI (by omega) (by omega)).mp (Int32.not_le.mp c11); omega
        have hsi := sizes_mul (by decide) hnou hnot ho hlt2 hsu hst
        have hov : y * bval 4294967296 gt i + y * gt i * 4294967296 ^ i < 4294967296 ^ 12 := by
          have e1 : y * bval 4294967296 gt (i + 1) ≤ y * z := Nat.mul_le_mul_left _ (by rw [← hxt]; exact bval_le hlt2)
          have e2 : y * bval 4294967296 gt (i + 1) = y * bval 4294967296 gt i + y * gt i * 4294967296 ^ i := by show y * (bval 4294967296 gt i + gt i * 4294967296 ^ i) = _; rw [Nat.mul_add, Nat.mul_assoc]
          omega
        refine g_aload_n fx 0 dX10_setProductOf_14 rfl ?_
        refine g_aload_n fx 1 dX10_setProductOf_15 rfl ?_
        refine g_aload_n fx 2 dX10_setProductOf_16 rfl ?_
        refine g_get (r := t) fx lkX10_11 (by omega) ht rfl dX10_setProductOf_17 ?_
        refine g_iload_n fx 3 dX10_setProductOf_20 rfl ?_
        refine g_lald (r := t + 1) (j := i) fx (by omega) hp (nI_toInt (by omega)) (by omega) dX10_setProductOf_21 ?_
        refine g_isl (y := lN (gt i)) rfl ?_
        refine g_iload_n fx 3 dX10_setProductOf_22 rfl ?_
        refine g_callVv (As := [.ref (ad u), .long (lN (gt i)), .int (nI i)]) (rest := []) fx slX10_34 (c_X10_addTimes B ad ct2 n w u 0 su (gt i) i g1 gu hn hnu h1 h2 h3 hw hl hb1 hz1 ⟨hu, hm, hsu, hltu, hzu⟩ (hltt i) hsi (by rw [hv1, hx]; exact hov)) (by omega) hw rfl rfl rfl (Nat.le_of_ble_eq_true rfl) ⟨by decide, by decide⟩ ⟨by decide, by decide⟩ dX10_setProductOf_23 (fun ct3 hq => ?_)
        obtain ⟨g2, hw, hl, hb2, hz2, hy2, hv2, hs2⟩ := hq
        have hu : ct3 u = .inr (10, [.ref (ad (u + 1)), .int (nI su)]) := (hs2 u h1 h2).trans hu
        have hm : ct3 (u + 1) = .inl (B.2.1 1, 12, .inr (.inl (lF gu))) := (hs2 (u + 1) (by omega) (by omega)).trans hm
        have ht : ct3 t = .inr (10, [.ref (ad (t + 1)), .int (nI st)]) := (hs2 t h4 h5).trans ht
        have hp : ct3 (t + 1) = .inl (B.2.1 1, 12, .inr (.inl (lF gt))) := (hs2 (t + 1) (by omega) (by omega)).trans hp
        have hfr : ∀ r, r ≠ w → r ≠ w + 1 → ct3 r = ct r := fun r q1 q2 => (hs2 r q1 q2).trans (hfr r q1 q2)
        refine g_iinc (L' := [(3, .int (nI (i + 1))), (0, .ref (ad w)), (1, .ref (ad u)), (2, .ref (ad t))]) fx (nI (i + 1)) 3 dX10_setProductOf_26 rfl (gInc _) (by decide) rfl ?_
        refine g_goto fx 6 dX10_setProductOf_29 (by decide) ?_
        refine g_locals (L' := [(0, .ref (ad w)), (1, .ref (ad u)), (2, .ref (ad t)), (3, .int (nI (i + 1)))]) [1, 2, 3, 0] rfl ?_
        exact ih (i + 1) _ g2 hlt2 hb2 (fun j hj => hz2 j (by omega)) hy2 (by rw [hv2, hv1, hx]; show _ = y * (bval 4294967296 gt i + gt i * 4294967296 ^ i); rw [Nat.mul_add, Nat.mul_assoc]) hw hl hfr hu hm ht hp (by omega)
  refine g_locals (L' := [(0, .ref (ad w)), (1, .ref (ad u)), (2, .ref (ad t)), (3, .int (nI 0))]) [1, 2, 3, 0] rfl ?_
  exact LP6 (st + 1) 0 ct1 (fun _ => 0) (by omega) (fun _ => Nat.zero_lt_succ _) (fun _ _ => rfl) (fun _ _ => rfl) (by rw [hbz]; simp [bval]) hw hl hfr hu hm ht hp (by omega)
set_option maxHeartbeats 4000000 in
set_option maxRecDepth 100000 in
theorem c_X10_remainder (B : gB) (ad : Nat → Nat) (ct : Nat → va_E) (n : Nat) (w v d : Nat) (hn : w + 1 < n) (hW : isW B ad ct w v) (hd : 0 < d) (hd31 : d < 2 ^ 31) : Ctr B yX10_remainder cX10_remainder 5 (some .int) 0 0 0 0 ad ct n [.ref (ad w), .int (nI d)] (gPip ad ct n (fun r => r = nI (v % d))) := by
  obtain ⟨sz, g, ⟨hw, hl, hsz, hlt, hz⟩, hno, hv⟩ := hW
  rw [bval_ext hsz hz] at hv
  refine Ctr.ofG (L := [(0, .ref (ad w)), (1, .int (nI d))]) (by decide +kernel) rfl (Nat.le_of_ble_eq_true rfl) (fun E fx rt hnm => ?_)
  refine g_iload_n fx 1 dX10_remainder_0 rfl ?_
  refine g_if_gt fx 6 dX10_remainder_1 (by decide) (fun c1 => ?_) (fun c1 => ?_)
  rotate_left
  · exact absurd ((nI_ltI (a := 0) (by decide) hd31).mpr hd) c1
  refine g_lconst (v := lN 0) fx dX10_remainder_6 (by decide +kernel) ?_
  refine g_lstore_n (L' := [(2, .long (lN 0)), (0, .ref (ad w)), (1, .int (nI d))]) fx dX10_remainder_7 (by decide) rfl ?_
  refine g_aload_n fx 1 dX10_remainder_8 rfl ?_
  refine g_get (r := w) fx lkX10_24 (by omega) hw rfl dX10_remainder_9 ?_
  refine g_iconst (v := nI 1) fx dX10_remainder_12 (by decide +kernel) ?_
  refine g_isub fx dX10_remainder_13 ?_
  refine g_istore (L' := [(4, .int ((nI sz) - (nI 1))), (2, .long (lN 0)), (0, .ref (ad w)), (1, .int (nI d))]) fx dX10_remainder_14 (by decide) rfl ?_
  have LP16 : ∀ (M : Nat) (k r : Nat), (k ≤ sz) → (r = bhi 4294967296 g sz k % d) →  k < M → G B 5 E ad ct n 0 0 [(0, .ref (ad w)), (1, .int (nI d)), (2, .long (lN r)), (4, .int (nI k - nI 1))] 16 [] := by
    intro M
    induction M with
    | zero => intro k r _ _ hM; exact absurd hM (Nat.not_lt_zero _)
    | succ M ih =>
      intro k r hk hr hM
      refine g_iload fx 3 dX10_remainder_16 rfl ?_
      refine g_if_lt fx 43 dX10_remainder_18 (by decide) (fun c18 => ?_) (fun c18 => ?_)
      · skip
        have hk0 := (m1_neg (by omega)).mp c18
        refine g_lload_n fx 2 dX10_remainder_43 rfl ?_
        refine g_l2i fx dX10_remainder_44 ?_
        refine g_isi (y := nI r) (lN_i r) ?_
        refine g_iret fx rt dX10_remainder_45 ?_
        refine gPip.mk ?_
        rw [hr, hk0, bhi_0, hv]
      · skip
        have hk0 : 0 < k := Nat.pos_of_ne_zero (fun q => c18 ((m1_neg (by omega)).mpr q))
        have hrd : r < d := by rw [hr]; exact Nat.mod_lt _ hd
        have hq1 := hlt (k - 1)
        refine g_lload_n fx 2 dX10_remainder_21 rfl ?_
        refine g_bipush (v := nI 32) fx dX10_remainder_22 (by decide +kernel) ?_
        refine g_lshl fx dX10_remainder_24 ?_
        refine g_isl (y := lN (r * 4294967296)) (l_shl r) ?_
        refine g_aload_n fx 0 dX10_remainder_25 rfl ?_
        refine g_get (r := w) fx lkX10_11 (by omega) hw rfl dX10_remainder_26 ?_
        refine g_iload fx 3 dX10_remainder_29 rfl ?_
        refine g_lald (r := w + 1) (j := k - 1) fx (by omega) hl (m1_ix hk0 (by omega)) (by omega) dX10_remainder_31 ?_
        refine g_isl (y := lN (g (k - 1))) rfl ?_
        refine g_lor fx dX10_remainder_32 ?_
        refine g_isl (y := lN (r * 4294967296 + g (k - 1))) (l_or hq1 (by omega)) ?_
        refine g_iload_n fx 1 dX10_remainder_33 rfl ?_
        refine g_i2l fx dX10_remainder_34 ?_
        refine g_isl (y := lN d) (nI_l hd31) ?_
        refine g_lrem fx dX10_remainder_35 (lN_ne0 hd hd31) ?_
        refine g_isl (y := lN ((r * 4294967296 + g (k - 1)) % d)) (pk_lRem (by omega) hd (by omega)) ?_
        refine g_lstore_n (L' := [(2, .long (lN ((r * 4294967296 + g (k - 1)) % d))), (0, .ref (ad w)), (1, .int (nI d)), (4, .int (nI k - nI 1))]) fx dX10_remainder_36 (by decide) rfl ?_
        refine g_iinc (L' := [(4, .int (nI (k - 1) - nI 1)), (2, .long (lN ((r * 4294967296 + g (k - 1)) % d))), (0, .ref (ad w)), (1, .int (nI d))]) fx (nI (k - 1) - nI 1) 3 dX10_remainder_37 rfl (m1_dec hk0) (by decide) rfl ?_
        refine g_goto fx 16 dX10_remainder_40 (by decide) ?_
        refine g_locals (L' := [(0, .ref (ad w)), (1, .int (nI d)), (2, .long (lN ((r * 4294967296 + g (k - 1)) % d))), (4, .int (nI (k - 1) - nI 1))]) [2, 3, 1, 0] rfl ?_
        exact ih (k - 1) ((r * 4294967296 + g (k - 1)) % d) (by omega) (by rw [bhi_step hk0 hk, hr, Nat.add_comm, Nat.mul_comm 4294967296, Nat.add_mod, Nat.mod_mul_mod, ← Nat.add_mod]) (by omega)
  refine g_locals (L' := [(0, .ref (ad w)), (1, .int (nI d)), (2, .long (lN 0)), (4, .int ((nI sz) - (nI 1)))]) [2, 3, 1, 0] rfl ?_
  exact LP16 (sz + 1) sz 0 (by omega) (by rw [bhi_top]; simp) (by omega)
set_option maxHeartbeats 4000000 in
set_option maxRecDepth 100000 in
theorem c_X10_divide (B : gB) (ad : Nat → Nat) (ct : Nat → va_E) (n : Nat) (w v d : Nat) (hn : w + 1 < n) (hW : isW B ad ct w v) (hd : 0 < d) (hd31 : d < 2 ^ 31) : Ctr B yX10_divide cX10_divide 7 none 2 42 0 0 ad ct n [.ref (ad w), .int (nI d)] (gPv ad n (fun ct' => isW B ad ct' w (v / d) ∧ sameB ct ct' w)) := by
  obtain ⟨sz, g, ⟨hw, hl, hsz, hlt, hz⟩, hno, hv⟩ := hW
  rw [bval_ext hsz hz] at hv
  have hfr : ∀ r, r ≠ w → r ≠ w + 1 → ct r = ct r := fun _ _ _ => rfl
  refine Ctr.ofG (L := [(0, .ref (ad w)), (1, .int (nI d))]) (by decide +kernel) rfl (Nat.le_of_ble_eq_true rfl) (fun E fx rt hnm => ?_)
  refine g_iload_n fx 1 dX10_divide_0 rfl ?_
  refine g_if_gt fx 5 dX10_divide_1 (by decide) (fun c1 => ?_) (fun c1 => ?_)
  rotate_left
  · exact absurd ((nI_ltI (a := 0) (by decide) hd31).mpr hd) c1
  refine g_lconst (v := lN 0) fx dX10_divide_5 (by decide +kernel) ?_
  refine g_lstore_n (L' := [(2, .long (lN 0)), (0, .ref (ad w)), (1, .int (nI d))]) fx dX10_divide_6 (by decide) rfl ?_
  refine g_aload_n fx 1 dX10_divide_7 rfl ?_
  refine g_get (r := w) fx lkX10_24 (by omega) hw rfl dX10_divide_8 ?_
  refine g_iconst (v := nI 1) fx dX10_divide_11 (by decide +kernel) ?_
  refine g_isub fx dX10_divide_12 ?_
  refine g_istore (L' := [(4, .int ((nI sz) - (nI 1))), (2, .long (lN 0)), (0, .ref (ad w)), (1, .int (nI d))]) fx dX10_divide_13 (by decide) rfl ?_
  have LP15 : ∀ (M : Nat) (k r : Nat) (ct1 : Nat → va_E) (g1 : Nat → Nat), (k ≤ sz) → (r < d) → (∀ j, g1 j < 4294967296) → (∀ j, j < k → g1 j = g j) → (∀ j, sz ≤ j → g1 j = 0) → (bhi 4294967296 g1 sz k * d + r = bhi 4294967296 g sz k) → (ct1 w = .inr (10, [.ref (ad (w + 1)), .int (nI sz)])) → (ct1 (w + 1) = .inl (B.2.1 1, 12, .inr (.inl (lF g1)))) → (∀ r, r ≠ w → r ≠ w + 1 → ct1 r = ct r) →  k < M → G B 7 E ad ct1 n 0 0 [(0, .ref (ad w)), (1, .int (nI d)), (2, .long (lN r)), (4, .int (nI k - nI 1))] 15 [] := by
    intro M
    induction M with
    | zero => intro k r ct1 g1 _ _ _ _ _ _ _ _ _ hM; exact absurd hM (Nat.not_lt_zero _)
    | succ M ih =>
      intro k r ct1 g1 hk hrd hb1 hkk hz1 he hw hl hfr hM
      refine g_iload fx 3 dX10_divide_15 rfl ?_
      refine g_if_lt fx 58 dX10_divide_17 (by decide) (fun c17 => ?_) (fun c17 => ?_)
      · skip
        have hk0 := (m1_neg (by omega)).mp c17
        rw [hk0, bhi_0, bhi_0, hv] at he
        have hval : bval 4294967296 g1 12 = v / d := by rw [bval_ext hsz hz1]; exact div_of he hrd
        refine g_aload_n fx 0 dX10_divide_58 rfl ?_
        refine g_aload_n fx 0 dX10_divide_59 rfl ?_
        refine g_get (r := w) fx lkX10_24 (by omega) hw rfl dX10_divide_60 ?_
        refine g_callVv (As := [.int (nI sz)]) (rest := []) fx slX10_20 (c_X10_trim B ad ct1 n w sz sz g1 hn hw hl (by omega) hb1 hz1 (fun j hj => hz1 j (by omega))) (by omega) hw rfl rfl rfl (Nat.le_of_ble_eq_true rfl) ⟨by decide, by decide⟩ ⟨by decide, by decide⟩ dX10_divide_63 (fun ct9 hy => ?_)
        obtain ⟨hy, hs2⟩ := hy
        rw [hval] at hy
        refine g_vret fx rt dX10_divide_66 ?_
        exact gPv.mk ⟨hy, fun r q1 q2 => (hs2 r q1 q2).trans (hfr r q1 q2)⟩
      · skip
        have hk0 : 0 < k := Nat.pos_of_ne_zero (fun q => c17 ((m1_neg (by omega)).mpr q))
        have hq1 := hb1 (k - 1)
        have hqb : (r * 4294967296 + g1 (k - 1)) / d < 4294967296 := (Nat.div_lt_iff_lt_mul hd).mpr (by have : (r + 1) * 4294967296 ≤ d * 4294967296 := Nat.mul_le_mul_right _ hrd; omega)
        have hstep : bhi 4294967296 (va_up g1 (k - 1) ((r * 4294967296 + g1 (k - 1)) / d)) sz (k - 1) * d + (r * 4294967296 + g1 (k - 1)) % d = bhi 4294967296 g sz (k - 1) := by
          rw [bhi_step hk0 hk, bhi_step hk0 hk, va_up_self, bhi_congr (f := va_up g1 (k - 1) ((r * 4294967296 + g1 (k - 1)) / d)) (g := g1) (fun i hi => va_up_ne _ _ (by omega)), ← he, ← hkk (k - 1) (by omega)]
          have hdm := Nat.div_add_mod (r * 4294967296 + g1 (k - 1)) d
          generalize (r * 4294967296 + g1 (k - 1)) / d = q at hdm ⊢
          generalize (r * 4294967296 + g1 (k - 1)) % d = z at hdm ⊢
          generalize bhi 4294967296 g1 sz k = bb
          grind
        refine g_lload_n fx 2 dX10_divide_20 rfl ?_
        refine g_bipush (v := nI 32) fx dX10_divide_21 (by decide +kernel) ?_
        refine g_lshl fx dX10_divide_23 ?_
        refine g_isl (y := lN (r * 4294967296)) (l_shl r) ?_
        refine g_aload_n fx 0 dX10_divide_24 rfl ?_
        refine g_get (r := w) fx lkX10_11 (by omega) hw rfl dX10_divide_25 ?_
        refine g_iload fx 3 dX10_divide_28 rfl ?_
        refine g_lald (r := w + 1) (j := k - 1) fx (by omega) hl (m1_ix hk0 (by omega)) (by omega) dX10_divide_30 ?_
        refine g_isl (y := lN (g1 (k - 1))) rfl ?_
        refine g_lor fx dX10_divide_31 ?_
        refine g_isl (y := lN (r * 4294967296 + g1 (k - 1))) (l_or hq1 (by omega)) ?_
        refine g_lstore (L' := [(5, .long (lN (r * 4294967296 + g1 (k - 1)))), (0, .ref (ad w)), (1, .int (nI d)), (2, .long (lN r)), (4, .int (nI k - nI 1))]) fx dX10_divide_32 (by decide) rfl ?_
        refine g_aload_n fx 1 dX10_divide_34 rfl ?_
        refine g_get (r := w) fx lkX10_11 (by omega) hw rfl dX10_divide_35 ?_
        refine g_iload fx 4 dX10_divide_38 rfl ?_
        refine g_lload fx 0 dX10_divide_40 rfl ?_
        refine g_iload_n fx 2 dX10_divide_42 rfl ?_
        refine g_i2l fx dX10_divide_43 ?_
        refine g_isl (y := lN d) (nI_l hd31) ?_
        refine g_ldiv fx dX10_divide_44 (lN_ne0 hd hd31) ?_
        refine g_isl (y := lN ((r * 4294967296 + g1 (k - 1)) / d)) (pk_lDiv (by omega) hd (by omega)) ?_
        refine g_last (r := w + 1) (j := (k - 1)) fx (by omega) hl (m1_ix hk0 (by omega)) (by omega) dX10_divide_45 (fun cu1 ecu1 => ?_)
        have hfr : ∀ r, r ≠ w → r ≠ w + 1 → cu1 r = ct r := fun r _ _ => (congrFun ecu1 r).trans ((va_up_ne _ _ (by assumption)).trans (hfr r (by assumption) (by assumption)))
        have hw : cu1 w = .inr (10, [.ref (ad (w + 1)), .int (nI sz)]) := (congrFun ecu1 _).trans ((va_up_ne _ _ (by omega)).trans hw)
        have hl : cu1 (w + 1) = .inl (B.2.1 1, 12, .inr (.inl (lF (va_up g1 (k - 1) ((r * 4294967296 + g1 (k - 1)) / d))))) := by rw [ecu1, va_up_self, lF_up]
        refine g_lload fx 0 dX10_divide_46 rfl ?_
        refine g_iload_n fx 2 dX10_divide_48 rfl ?_
        refine g_i2l fx dX10_divide_49 ?_
        refine g_isl (y := lN d) (nI_l hd31) ?_
        refine g_lrem fx dX10_divide_50 (lN_ne0 hd hd31) ?_
        refine g_isl (y := lN ((r * 4294967296 + g1 (k - 1)) % d)) (pk_lRem (by omega) hd (by omega)) ?_
        refine g_lstore_n (L' := [(2, .long (lN ((r * 4294967296 + g1 (k - 1)) % d))), (5, .long (lN (r * 4294967296 + g1 (k - 1)))), (0, .ref (ad w)), (1, .int (nI d)), (4, .int (nI k - nI 1))]) fx dX10_divide_51 (by decide) rfl ?_
        refine g_iinc (L' := [(4, .int (nI (k - 1) - nI 1)), (2, .long (lN ((r * 4294967296 + g1 (k - 1)) % d))), (5, .long (lN (r * 4294967296 + g1 (k - 1)))), (0, .ref (ad w)), (1, .int (nI d))]) fx (nI (k - 1) - nI 1) 4 dX10_divide_52 rfl (m1_dec hk0) (by decide) rfl ?_
        refine g_goto fx 15 dX10_divide_55 (by decide) ?_
        refine g_locals (L' := [(0, .ref (ad w)), (1, .int (nI d)), (2, .long (lN ((r * 4294967296 + g1 (k - 1)) % d))), (4, .int (nI (k - 1) - nI 1))]) [3, 4, 1, 0] rfl ?_
        exact ih (k - 1) ((r * 4294967296 + g1 (k - 1)) % d) _ (va_up g1 (k - 1) ((r * 4294967296 + g1 (k - 1)) / d)) (by omega) (Nat.mod_lt _ hd) (fun j => by unfold va_up; split; exact hqb; exact hb1 j) (fun j hj => by rw [va_up_ne _ _ (by omega)]; exact hkk j (by omega)) (fun j hj => by rw [va_up_ne _ _ (by omega)]; exact hz1 j hj) hstep hw hl hfr (by omega)
  refine g_locals (L' := [(0, .ref (ad w)), (1, .int (nI d)), (2, .long (lN 0)), (4, .int ((nI sz) - (nI 1)))]) [2, 3, 1, 0] rfl ?_
  exact LP15 (sz + 1) sz 0 ct g (by omega) hd hlt (fun _ _ => rfl) hz (by rw [bhi_top]; simp) hw hl hfr (by omega)
