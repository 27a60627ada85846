/-! the reference's numbers: forty places to the base 2^24, in a row of ints, from a place on -/
theorem va_same {α : Type} {f : Nat → α} {k : Nat} {e : α} (h : f k = e) : f = va_up f k e := by
  funext j; by_cases hj : j = k
  · rw [hj, va_up_self, h]
  · rw [va_up_ne _ _ hj]
theorem up2n {ct ct1 cu : Nat → va_E} {r N j x : Nat} {g1 : Nat → Nat} {e : va_E} {c : ClassId} (h : ct1 = va_up ct r e) (e2 : cu = va_up ct1 r (.inl (c, N, .inl (va_up (nF g1) j (nI x))))) : cu = va_up ct r (.inl (c, N, .inl (nF (va_up g1 j x)))) := by
  rw [e2, h, bx_uu, nF_up]
theorem up2l {ct ct1 cu : Nat → va_E} {r N j x : Nat} {g1 : Nat → Nat} {e : va_E} {c : ClassId} (h : ct1 = va_up ct r e) (e2 : cu = va_up ct1 r (.inl (c, N, .inr (.inl (va_up (lF g1) j (lN x)))))) : cu = va_up ct r (.inl (c, N, .inr (.inl (lF (va_up g1 j x))))) := by
  rw [e2, h, bx_uu, lF_up]
def sh (g : Nat → Nat) (a : Nat) : Nat → Nat := fun j => g (a + j)
theorem sh_up (g : Nat → Nat) (a k x : Nat) : sh (va_up g (a + k) x) a = va_up (sh g a) k x := by
  funext j; unfold sh va_up
  by_cases h : j = k
  · rw [if_pos h, if_pos (by omega)]
  · rw [if_neg h, if_neg (by omega)]
/-- what stands there -/
def nv (g : Nat → Nat) (a : Nat) : Nat := bval 16777216 (sh g a) 40
def outN (g g' : Nat → Nat) (a : Nat) : Prop := ∀ j, j < a ∨ a + 40 ≤ j → g' j = g j
def okN (g : Nat → Nat) (a : Nat) : Prop := ∀ k, k < 40 → g (a + k) < 16777216
theorem nv_lt {g : Nat → Nat} {a : Nat} (h : okN g a) : nv g a < 16777216 ^ 40 := bval_lt 40 h
theorem nv_out {g g' : Nat → Nat} {a b : Nat} (h : outN g g' a) (hb : b + 40 ≤ a ∨ a + 40 ≤ b) : nv g' b = nv g b := bval_congr 40 (fun k _ => h (b + k) (by omega))
theorem ok_out {g g' : Nat → Nat} {a b : Nat} (h : outN g g' a) (hb : b + 40 ≤ a ∨ a + 40 ≤ b) (ho : okN g b) : okN g' b := fun k hk => by rw [h (b + k) (by omega)]; exact ho k hk
theorem i_mask {x : Nat} (h : x < 2 ^ 32) : nI x &&& 16777215 = nI (x % 16777216) := pk_andN h 24 (by decide)
theorem i_shr {x : Nat} (h : x < 2 ^ 31) : nI x >>> (nI 24 &&& 31) = nI (x / 16777216) := pk_shrN h _ 24 (by decide)
theorem l_mask24 {x : Nat} (h : x < 18446744073709551616) : lN x &&& 16777215 = lN (x % 16777216) := wb_mask (k := 24) h (by decide)
theorem l_sshr {x : Nat} (h : x < 4611686018427387904) : lN x >>> ((nI 24).toInt64 &&& 63) = lN (x / 16777216) := by
  have hD : (((nI 24).toInt64 &&& 63).toBitVec.smod 64).toNat = 24 := by decide +kernel
  apply wb_inj
  have h1 : (lN x >>> ((nI 24).toInt64 &&& 63)).toInt = (lN x).toInt >>> 24 := by
    rw [show lN x >>> ((nI 24).toInt64 &&& 63) = Int64.shiftRight (lN x) ((nI 24).toInt64 &&& 63) from rfl]
    show (((lN x).toBitVec.sshiftRight' (((nI 24).toInt64 &&& 63).toBitVec.smod 64))).toInt = _
    rw [BitVec.sshiftRight_eq', BitVec.toInt_sshiftRight, hD]
    rfl
  have h2 : (lN x).toInt = (x : Int) := pk_lT (by omega)
  have h3 : (lN (x / 16777216)).toInt = ((x / 16777216 : Nat) : Int) := pk_lT (by omega)
  apply BitVec.eq_of_toInt_eq
  show (lN x >>> ((nI 24).toInt64 &&& 63)).toInt = (lN (x / 16777216)).toInt
  rw [h1, h2, h3, Int.shiftRight_eq_div_pow]
  norm_cast
theorem add_m1 {a k : Nat} (h : 0 < k) : nI a + (nI k - nI 1) = nI (a + (k - 1)) := by
  obtain ⟨j, rfl⟩ : ∃ j, k = j + 1 := ⟨k - 1, by omega⟩
  rw [show nI (j + 1) - nI 1 = nI j from nI_pred j, nI_add, Nat.add_sub_cancel]
theorem i_sub3 {x y c : Nat} (hx : x < 2 ^ 30) (hy : y < 2 ^ 29) (hc : c < 2 ^ 29) : (nI x - nI y - nI c).toInt = (x : Int) - y - c := by
  rw [Int32.toInt_sub, Int32.toInt_sub, nI_toInt (by omega), nI_toInt (by omega), nI_toInt (by omega), Int.bmod_def, Int.bmod_def]
  have e : (2 : Nat) ^ 32 = 4294967296 := rfl
  split <;> split <;> omega
theorem i_sub3_ge {x y c : Nat} (hx : x < 2 ^ 30) (hy : y < 2 ^ 29) (hc : c < 2 ^ 29) : 0 ≤ nI x - nI y - nI c ↔ y + c ≤ x := by
  rw [Int32.le_iff_toInt_le, i_sub3 hx hy hc]
  have : (0 : Int32).toInt = 0 := by decide
  omega
theorem i_sub3_v {x y c e : Nat} (h : y + c ≤ x + e) : nI x - nI y - nI c + nI e = nI (x + e - y - c) := by
  have h1 : nI x + nI e - nI y - nI c = nI (x + e - y - c) := by rw [nI_add, pk_sub (by omega), pk_sub (by omega)]
  rw [← h1]
  simp only [Int32.sub_eq_add_neg]
  ac_rfl
theorem bmulc_step {b : Nat} {g g1 : Nat → Nat} {k m c : Nat} (hk : g1 k = g k) (he : bval b g1 k + c * b ^ k = bval b g k * m) : bval b (va_up g1 k ((c + g1 k * m) % b)) (k + 1) + (c + g1 k * m) / b * b ^ (k + 1) = bval b g (k + 1) * m := by
  show bval b (va_up g1 k ((c + g1 k * m) % b)) k + va_up g1 k ((c + g1 k * m) % b) k * b ^ k + (c + g1 k * m) / b * b ^ (k + 1) = (bval b g k + g k * b ^ k) * m
  rw [bval_up_ge (Nat.le_refl k), va_up_self, Nat.pow_succ, hk]
  have h1 := Nat.div_add_mod (c + g k * m) b
  generalize (c + g k * m) / b = q at h1 ⊢
  generalize (c + g k * m) % b = r at h1 ⊢
  have h2 : (b * q + r) * b ^ k = (c + g k * m) * b ^ k := by rw [h1]
  generalize b ^ k = p at h2 he ⊢
  grind
set_option maxHeartbeats 4000000 in
set_option maxRecDepth 100000 in
theorem c_X12_in (B : gB) (ad : Nat → Nat) (ct : Nat → va_E) (n : Nat) (v lo hi : Int64) : Ctr B yX12_in cX12_in 6 (some .boolean) 0 0 0 0 ad ct n [.long v, .long lo, .long hi] (gPip ad ct n (fun r => r = if lo ≤ v ∧ v ≤ hi then 1 else 0)) := by
  refine Ctr.ofG (L := [(0, .long v), (2, .long lo), (4, .long hi)]) (by decide +kernel) rfl (Nat.le_of_ble_eq_true rfl) (fun E fx rt hnm => ?_)
  refine g_lload_n fx 0 dX12_in_0 rfl ?_
  refine g_lload_n fx 1 dX12_in_1 rfl ?_
  refine g_lcmp fx dX12_in_2 ?_
  refine g_if_lt fx 17 dX12_in_3 (by decide) (fun c3 => ?_) (fun c3 => ?_)
  · skip
    have hA : ¬ (lo ≤ v ∧ v ≤ hi) := fun q => Int64.not_lt.mpr q.1 ((lg_cmp_lt _ _).mp c3)
    refine g_iconst (v := 0) fx dX12_in_17 (by decide +kernel) ?_
    refine g_zret fx rt dX12_in_18 rfl ?_
    refine gPip.mk ?_
    first | (rw [if_pos hA]; done) | (rw [if_neg hA]; done)
  · skip
    have h1 : lo ≤ v := Int64.not_lt.mp (fun q => c3 ((lg_cmp_lt _ _).mpr q))
    refine g_lload_n fx 0 dX12_in_6 rfl ?_
    refine g_lload fx 2 dX12_in_7 rfl ?_
    refine g_lcmp fx dX12_in_9 ?_
    refine g_if_gt fx 17 dX12_in_10 (by decide) (fun c10 => ?_) (fun c10 => ?_)
    · skip
      have hA : ¬ (lo ≤ v ∧ v ≤ hi) := fun q => Int64.not_lt.mpr q.2 ((lg_cmp_gt _ _).mp c10)
      refine g_iconst (v := 0) fx dX12_in_17 (by decide +kernel) ?_
      refine g_zret fx rt dX12_in_18 rfl ?_
      refine gPip.mk ?_
      first | (rw [if_pos hA]; done) | (rw [if_neg hA]; done)
    · skip
      have hA : lo ≤ v ∧ v ≤ hi := ⟨h1, Int64.not_lt.mp (fun q => c10 ((lg_cmp_gt _ _).mpr q))⟩
      refine g_iconst (v := 1) fx dX12_in_13 (by decide +kernel) ?_
      refine g_goto fx 18 dX12_in_14 (by decide) ?_
      refine g_zret fx rt dX12_in_18 rfl ?_
      refine gPip.mk ?_
      first | (rw [if_pos hA]; done) | (rw [if_neg hA]; done)
set_option maxHeartbeats 4000000 in
set_option maxRecDepth 100000 in
theorem c_X12_set (B : gB) (ad : Nat → Nat) (ct : Nat → va_E) (n : Nat) (r a N : Nat) (g : Nat → Nat) (hnr : r < n) (haN : a + 40 ≤ N) (hN : N < 2 ^ 30) (hr : ct r = .inl (B.2.1 0, N, .inl (nF g))) (x : Nat) (hx : x < 4611686018427387904) : Ctr B yX12_set cX12_set 7 none 0 0 0 0 ad ct n [.ref (ad r), .int (nI a), .long (lN x)] (gPv ad n (fun ct' => ∃ g', ct' = va_up ct r (.inl (B.2.1 0, N, .inl (nF g'))) ∧ outN g g' a ∧ okN g' a ∧ nv g' a = x)) := by
  have hct := va_same hr
  refine Ctr.ofG (L := [(0, .ref (ad r)), (1, .int (nI a)), (2, .long (lN x))]) (by decide +kernel) rfl (Nat.le_of_ble_eq_true rfl) (fun E fx rt hnm => ?_)
  refine g_lload_n fx 2 dX12_set_0 rfl ?_
  refine g_lstore (L' := [(4, .long (lN x)), (0, .ref (ad r)), (1, .int (nI a)), (2, .long (lN x))]) fx dX12_set_1 (by decide) rfl ?_
  refine g_iconst (v := nI 0) fx dX12_set_3 (by decide +kernel) ?_
  refine g_istore (L' := [(6, .int (nI 0)), (4, .long (lN x)), (0, .ref (ad r)), (1, .int (nI a)), (2, .long (lN x))]) fx dX12_set_4 (by decide) rfl ?_
  have LP6 : ∀ (M : Nat) (k y : Nat) (ct1 : Nat → va_E) (g1 : Nat → Nat), (k ≤ 40) → (y < 4611686018427387904) → (bval 16777216 (sh g1 a) k + y * 16777216 ^ k = x) → (∀ j, j < a ∨ a + k ≤ j → g1 j = g j) → (∀ j, j < k → g1 (a + j) < 16777216) → (ct1 r = .inl (B.2.1 0, N, .inl (nF g1))) → (ct1 = va_up ct r (.inl (B.2.1 0, N, .inl (nF g1)))) →  (40 - k) < M → G B 7 E ad ct1 n 0 0 [(0, .ref (ad r)), (1, .int (nI a)), (4, .long (lN y)), (6, .int (nI k))] 6 [] := by
    intro M
    induction M with
    | zero => intro k y ct1 g1 _ _ _ _ _ _ _ hM; exact absurd hM (Nat.not_lt_zero _)
    | succ M ih =>
      intro k y ct1 g1 hk hy he hout hb1 hr hct hM
      refine g_iload fx 3 dX12_set_6 rfl ?_
      refine g_bipush (v := nI 40) fx dX12_set_8 (by decide +kernel) ?_
      refine g_icmp_ge fx 39 dX12_set_10 (by decide) (fun c10 => ?_) (fun c10 => ?_)
      · skip
        have hk40 : k = 40 := by have := (nI_leI (by omega) (by omega)).mp c10; omega
        rw [hk40] at he hout hb1
        have hy0 : y = 0 := c_zero (x := bval 16777216 (sh g1 a) 40) (p := 16777216 ^ 40) (by rw [he]; exact Nat.lt_of_lt_of_le hx (by decide))
        rw [hy0, Nat.zero_mul, Nat.add_zero] at he
        refine g_vret fx rt dX12_set_39 ?_
        exact gPv.mk ⟨g1, hct, fun j hj => hout j hj, hb1, he⟩
      · skip
        have hlt2 : k < 40 := by have := (nI_ltI (by omega) (by omega)).mp (Int32.not_le.mp c10); omega
        have hstep : bval 16777216 (sh (va_up g1 (a + k) (y % 16777216)) a) (k + 1) + y / 16777216 * 16777216 ^ (k + 1) = x := by
          rw [sh_up]
          show bval 16777216 (va_up (sh g1 a) k (y % 16777216)) k + va_up (sh g1 a) k (y % 16777216) k * 16777216 ^ k + _ = x
          rw [bval_up_ge (Nat.le_refl k), va_up_self, Nat.pow_succ, ← he]
          have h1 := Nat.div_add_mod y 16777216
          generalize y / 16777216 = q at h1 ⊢
          generalize y % 16777216 = z at h1 ⊢
          rw [← h1]
          generalize 16777216 ^ k = p
          grind
        refine g_aload_n fx 0 dX12_set_13 rfl ?_
        refine g_iload_n fx 1 dX12_set_14 rfl ?_
        refine g_iload fx 3 dX12_set_15 rfl ?_
        refine g_iaddN fx dX12_set_17 ?_
        refine g_lload fx 2 dX12_set_18 rfl ?_
        refine g_ldc2 fx kcX12_121 dX12_set_20 ?_
        refine g_land fx dX12_set_23 ?_
        refine g_isl (y := lN (y % 16777216)) (l_mask24 (by omega)) ?_
        refine g_l2i fx dX12_set_24 ?_
        refine g_isi (y := nI (y % 16777216)) (lN_i _) ?_
        refine g_iast (r := r) (j := (a + k)) fx (by omega) hr (nI_toInt (by omega)) (by omega) dX12_set_25 (fun cu1 ecu1 => ?_)
        have hct : cu1 = va_up ct r (.inl (B.2.1 0, N, .inl (nF (va_up g1 (a + k) (y % 16777216))))) := up2n hct ecu1
        have hr : cu1 r = .inl (B.2.1 0, N, .inl (nF (va_up g1 (a + k) (y % 16777216)))) := by rw [ecu1, va_up_self, nF_up]
        refine g_lload fx 2 dX12_set_26 rfl ?_
        refine g_bipush (v := nI 24) fx dX12_set_28 (by decide +kernel) ?_
        refine g_lshr fx dX12_set_30 ?_
        refine g_isl (y := lN (y / 16777216)) (l_sshr hy) ?_
        refine g_lstore (L' := [(4, .long (lN (y / 16777216))), (0, .ref (ad r)), (1, .int (nI a)), (6, .int (nI k))]) fx dX12_set_31 (by decide) rfl ?_
        refine g_iinc (L' := [(6, .int (nI (k + 1))), (4, .long (lN (y / 16777216))), (0, .ref (ad r)), (1, .int (nI a))]) fx (nI (k + 1)) 3 dX12_set_33 rfl (gInc _) (by decide) rfl ?_
        refine g_goto fx 6 dX12_set_36 (by decide) ?_
        refine g_locals (L' := [(0, .ref (ad r)), (1, .int (nI a)), (4, .long (lN (y / 16777216))), (6, .int (nI (k + 1)))]) [2, 3, 1, 0] rfl ?_
        exact ih (k + 1) (y / 16777216) _ (va_up g1 (a + k) (y % 16777216)) hlt2 (by omega) hstep (fun j hj => by rw [va_up_ne _ _ (by omega)]; exact hout j (by omega)) (fun j hj => by unfold va_up; split; omega; exact hb1 j (by omega)) hr hct (by omega)
  refine g_locals (L' := [(0, .ref (ad r)), (1, .int (nI a)), (4, .long (lN x)), (6, .int (nI 0))]) [2, 3, 1, 0] rfl ?_
  exact LP6 41 0 x ct g (by omega) hx (by simp [bval]) (fun _ _ => rfl) (fun j hj => absurd hj (by omega)) hr hct (by omega)
set_option maxHeartbeats 4000000 in
set_option maxRecDepth 100000 in
theorem c_X12_copy (B : gB) (ad : Nat → Nat) (ct : Nat → va_E) (n : Nat) (r a N : Nat) (g : Nat → Nat) (hnr : r < n) (haN : a + 40 ≤ N) (hN : N < 2 ^ 30) (hr : ct r = .inl (B.2.1 0, N, .inl (nF g))) (s b P : Nat) (gs : Nat → Nat) (hns : s < n) (hbP : b + 40 ≤ P) (hP : P < 2 ^ 30) (hs : ct s = .inl (B.2.1 0, P, .inl (nF gs))) (hrs : r ≠ s) : Ctr B yX12_copy cX12_copy 5 none 0 0 0 0 ad ct n [.ref (ad s), .int (nI b), .ref (ad r), .int (nI a)] (gPv ad n (fun ct' => ∃ g', ct' = va_up ct r (.inl (B.2.1 0, N, .inl (nF g'))) ∧ outN g g' a ∧ ∀ k, k < 40 → g' (a + k) = gs (b + k))) := by
  have hct := va_same hr
  refine Ctr.ofG (L := [(0, .ref (ad s)), (1, .int (nI b)), (2, .ref (ad r)), (3, .int (nI a))]) (by decide +kernel) rfl (Nat.le_of_ble_eq_true rfl) (fun E fx rt hnm => ?_)
  refine g_iconst (v := nI 0) fx dX12_copy_0 (by decide +kernel) ?_
  refine g_istore (L' := [(4, .int (nI 0)), (0, .ref (ad s)), (1, .int (nI b)), (2, .ref (ad r)), (3, .int (nI a))]) fx dX12_copy_1 (by decide) rfl ?_
  have LP3 : ∀ (M : Nat) (k : Nat) (ct1 : Nat → va_E) (g1 : Nat → Nat), (k ≤ 40) → (∀ j, j < a ∨ a + k ≤ j → g1 j = g j) → (∀ j, j < k → g1 (a + j) = gs (b + j)) → (ct1 r = .inl (B.2.1 0, N, .inl (nF g1))) → (ct1 s = .inl (B.2.1 0, P, .inl (nF gs))) → (ct1 = va_up ct r (.inl (B.2.1 0, N, .inl (nF g1)))) →  (40 - k) < M → G B 5 E ad ct1 n 0 0 [(0, .ref (ad s)), (1, .int (nI b)), (2, .ref (ad r)), (3, .int (nI a)), (4, .int (nI k))] 3 [] := by
    intro M
    induction M with
    | zero => intro k ct1 g1 _ _ _ _ _ _ hM; exact absurd hM (Nat.not_lt_zero _)
    | succ M ih =>
      intro k ct1 g1 hk hout he hr hs hct hM
      refine g_iload fx 4 dX12_copy_3 rfl ?_
      refine g_bipush (v := nI 40) fx dX12_copy_5 (by decide +kernel) ?_
      refine g_icmp_ge fx 28 dX12_copy_7 (by decide) (fun c7 => ?_) (fun c7 => ?_)
      · skip
        have hk40 : k = 40 := by have := (nI_leI (by omega) (by omega)).mp c7; omega
        rw [hk40] at he hout
        refine g_vret fx rt dX12_copy_28 ?_
        exact gPv.mk ⟨g1, hct, fun j hj => hout j hj, he⟩
      · skip
        have hlt2 : k < 40 := by have := (nI_ltI (by omega) (by omega)).mp (Int32.not_le.mp c7); omega
        refine g_aload_n fx 2 dX12_copy_10 rfl ?_
        refine g_iload_n fx 3 dX12_copy_11 rfl ?_
        refine g_iload fx 4 dX12_copy_12 rfl ?_
        refine g_iaddN fx dX12_copy_14 ?_
        refine g_aload_n fx 0 dX12_copy_15 rfl ?_
        refine g_iload_n fx 1 dX12_copy_16 rfl ?_
        refine g_iload fx 4 dX12_copy_17 rfl ?_
        refine g_iaddN fx dX12_copy_19 ?_
        refine g_iald (r := s) (j := (b + k)) fx (by omega) hs (nI_toInt (by omega)) (by omega) dX12_copy_20 ?_
        refine g_isi (y := nI (gs (b + k))) rfl ?_
        refine g_iast (r := r) (j := (a + k)) fx (by omega) hr (nI_toInt (by omega)) (by omega) dX12_copy_21 (fun cu1 ecu1 => ?_)
        have hct : cu1 = va_up ct r (.inl (B.2.1 0, N, .inl (nF (va_up g1 (a + k) (gs (b + k)))))) := up2n hct ecu1
        have hr : cu1 r = .inl (B.2.1 0, N, .inl (nF (va_up g1 (a + k) (gs (b + k))))) := by rw [ecu1, va_up_self, nF_up]
        have hs : cu1 s = .inl (B.2.1 0, P, .inl (nF gs)) := (congrFun ecu1 _).trans ((va_up_ne _ _ (by omega)).trans hs)
        refine g_iinc (L' := [(4, .int (nI (k + 1))), (0, .ref (ad s)), (1, .int (nI b)), (2, .ref (ad r)), (3, .int (nI a))]) fx (nI (k + 1)) 4 dX12_copy_22 rfl (gInc _) (by decide) rfl ?_
        refine g_goto fx 3 dX12_copy_25 (by decide) ?_
        refine g_locals (L' := [(0, .ref (ad s)), (1, .int (nI b)), (2, .ref (ad r)), (3, .int (nI a)), (4, .int (nI (k + 1)))]) [1, 2, 3, 4, 0] rfl ?_
        exact ih (k + 1) _ (va_up g1 (a + k) (gs (b + k))) hlt2 (fun j hj => by rw [va_up_ne _ _ (by omega)]; exact hout j (by omega)) (fun j hj => by by_cases q : j = k; (rw [q, va_up_self]); (rw [va_up_ne _ _ (by omega)]; exact he j (by omega))) hr hs hct (by omega)
  refine g_locals (L' := [(0, .ref (ad s)), (1, .int (nI b)), (2, .ref (ad r)), (3, .int (nI a)), (4, .int (nI 0))]) [1, 2, 3, 4, 0] rfl ?_
  exact LP3 41 0 ct g (by omega) (fun _ _ => rfl) (fun j hj => absurd hj (by omega)) hr hs hct (by omega)
set_option maxHeartbeats 4000000 in
set_option maxRecDepth 100000 in
theorem c_X12_compare (B : gB) (ad : Nat → Nat) (ct : Nat → va_E) (n : Nat) (r a N : Nat) (g : Nat → Nat) (hnr : r < n) (haN : a + 40 ≤ N) (hN : N < 2 ^ 30) (hr : ct r = .inl (B.2.1 0, N, .inl (nF g))) (s b P : Nat) (gs : Nat → Nat) (hns : s < n) (hbP : b + 40 ≤ P) (hP : P < 2 ^ 30) (hs : ct s = .inl (B.2.1 0, P, .inl (nF gs))) (hok : okN g a) (hoks : okN gs b) : Ctr B yX12_compare cX12_compare 5 (some .int) 0 0 0 0 ad ct n [.ref (ad r), .int (nI a), .ref (ad s), .int (nI b)] (gPip ad ct n (fun q => q = cmpI (nv g a) (nv gs b))) := by
  refine Ctr.ofG (L := [(0, .ref (ad r)), (1, .int (nI a)), (2, .ref (ad s)), (3, .int (nI b))]) (by decide +kernel) rfl (Nat.le_of_ble_eq_true rfl) (fun E fx rt hnm => ?_)
  refine g_bipush (v := nI 39) fx dX12_compare_0 (by decide +kernel) ?_
  refine g_isi (y := nI 40 - nI 1) (by decide) ?_
  refine g_istore (L' := [(4, .int (nI 40 - nI 1)), (0, .ref (ad r)), (1, .int (nI a)), (2, .ref (ad s)), (3, .int (nI b))]) fx dX12_compare_2 (by decide) rfl ?_
  have LP4 : ∀ (M : Nat) (k : Nat), (k ≤ 40) → (∀ j, k ≤ j → j < 40 → g (a + j) = gs (b + j)) →  k < M → G B 5 E ad ct n 0 0 [(0, .ref (ad r)), (1, .int (nI a)), (2, .ref (ad s)), (3, .int (nI b)), (4, .int (nI k - nI 1))] 4 [] := by
    intro M
    induction M with
    | zero => intro k _ _ hM; exact absurd hM (Nat.not_lt_zero _)
    | succ M ih =>
      intro k hk hj hM
      refine g_iload fx 4 dX12_compare_4 rfl ?_
      refine g_if_lt fx 51 dX12_compare_6 (by decide) (fun c6 => ?_) (fun c6 => ?_)
      · skip
        have hk0 := (m1_neg (by omega)).mp c6
        refine g_iconst (v := nI 0) fx dX12_compare_51 (by decide +kernel) ?_
        refine g_iret fx rt dX12_compare_52 ?_
        refine gPip.mk ?_
        exact (cmp_eq (bval_congr 40 (fun i hi => hj i (by omega) hi))).symm
      · skip
        have hk0 : 0 < k := Nat.pos_of_ne_zero (fun q => c6 ((m1_neg (by omega)).mpr q))
        have hb1 := hok (k - 1) (by omega)
        have hb2 := hoks (k - 1) (by omega)
        refine g_aload_n fx 0 dX12_compare_9 rfl ?_
        refine g_iload_n fx 1 dX12_compare_10 rfl ?_
        refine g_iload fx 4 dX12_compare_11 rfl ?_
        refine g_iadd fx dX12_compare_13 ?_
        refine g_isi (y := nI (a + (k - 1))) (add_m1 hk0) ?_
        refine g_iald (r := r) (j := (a + (k - 1))) fx (by omega) hr (nI_toInt (by omega)) (by omega) dX12_compare_14 ?_
        refine g_isi (y := nI (g (a + (k - 1)))) rfl ?_
        refine g_aload_n fx 2 dX12_compare_15 rfl ?_
        refine g_iload_n fx 3 dX12_compare_16 rfl ?_
        refine g_iload fx 4 dX12_compare_17 rfl ?_
        refine g_iadd fx dX12_compare_19 ?_
        refine g_isi (y := nI (b + (k - 1))) (add_m1 hk0) ?_
        refine g_iald (r := s) (j := (b + (k - 1))) fx (by omega) hs (nI_toInt (by omega)) (by omega) dX12_compare_20 ?_
        refine g_isi (y := nI (gs (b + (k - 1)))) rfl ?_
        refine g_icmp_eq fx 45 dX12_compare_21 (by decide) (fun c21 => ?_) (fun c21 => ?_)
        · skip
          have hgk : g (a + (k - 1)) = gs (b + (k - 1)) := (nI_eq (by omega) (by omega)).mp c21
          refine g_iinc (L' := [(4, .int (nI (k - 1) - nI 1)), (0, .ref (ad r)), (1, .int (nI a)), (2, .ref (ad s)), (3, .int (nI b))]) fx (nI (k - 1) - nI 1) 4 dX12_compare_45 rfl (m1_dec hk0) (by decide) rfl ?_
          refine g_goto fx 4 dX12_compare_48 (by decide) ?_
          refine g_locals (L' := [(0, .ref (ad r)), (1, .int (nI a)), (2, .ref (ad s)), (3, .int (nI b)), (4, .int (nI (k - 1) - nI 1))]) [1, 2, 3, 4, 0] rfl ?_
          exact ih (k - 1) (by omega) (fun j h1 h2 => by by_cases q : j = k - 1; (rw [q]; exact hgk); (exact hj j (by omega) h2)) (by omega)
        · skip
          have hgk : g (a + (k - 1)) ≠ gs (b + (k - 1)) := fun q => c21 ((nI_eq (by omega) (by omega)).mpr q)
          refine g_aload_n fx 0 dX12_compare_24 rfl ?_
          refine g_iload_n fx 1 dX12_compare_25 rfl ?_
          refine g_iload fx 4 dX12_compare_26 rfl ?_
          refine g_iadd fx dX12_compare_28 ?_
          refine g_isi (y := nI (a + (k - 1))) (add_m1 hk0) ?_
          refine g_iald (r := r) (j := (a + (k - 1))) fx (by omega) hr (nI_toInt (by omega)) (by omega) dX12_compare_29 ?_
          refine g_isi (y := nI (g (a + (k - 1)))) rfl ?_
          refine g_aload_n fx 2 dX12_compare_30 rfl ?_
          refine g_iload_n fx 3 dX12_compare_31 rfl ?_
          refine g_iload fx 4 dX12_compare_32 rfl ?_
          refine g_iadd fx dX12_compare_34 ?_
          refine g_isi (y := nI (b + (k - 1))) (add_m1 hk0) ?_
          refine g_iald (r := s) (j := (b + (k - 1))) fx (by omega) hs (nI_toInt (by omega)) (by omega) dX12_compare_35 ?_
          refine g_isi (y := nI (gs (b + (k - 1)))) rfl ?_
          refine g_icmp_ge fx 43 dX12_compare_36 (by decide) (fun c36 => ?_) (fun c36 => ?_)
          · skip
            have hc : nv gs b < nv g a := bval_less (k := k - 1) (by omega) hoks (fun i h1 h2 => (hj i (by omega) h2).symm) (by show gs (b + (k - 1)) < g (a + (k - 1)); have := (nI_leI (by omega) (by omega)).mp c36; omega)
            refine g_iconst (v := nI 1) fx dX12_compare_43 (by decide +kernel) ?_
            refine g_iret fx rt dX12_compare_44 ?_
            refine gPip.mk ?_
            first | exact (cmp_lt hc).symm | exact (cmp_gt hc).symm
          · skip
            have hc : nv g a < nv gs b := bval_less (k := k - 1) (by omega) hok (fun i h1 h2 => hj i (by omega) h2) (by show g (a + (k - 1)) < gs (b + (k - 1)); have : ¬ gs (b + (k - 1)) ≤ g (a + (k - 1)) := fun q => c36 ((nI_leI (by omega) (by omega)).mpr q); omega)
            refine g_iconst (v := (-1)) fx dX12_compare_39 (by decide +kernel) ?_
            refine g_goto fx 44 dX12_compare_40 (by decide) ?_
            refine g_iret fx rt dX12_compare_44 ?_
            refine gPip.mk ?_
            first | exact (cmp_lt hc).symm | exact (cmp_gt hc).symm
  refine g_locals (L' := [(0, .ref (ad r)), (1, .int (nI a)), (2, .ref (ad s)), (3, .int (nI b)), (4, .int (nI 40 - nI 1))]) [1, 2, 3, 4, 0] rfl ?_
  exact LP4 41 40 (by omega) (fun j h1 h2 => absurd h2 (by omega)) (by omega)
set_option maxHeartbeats 4000000 in
set_option maxRecDepth 100000 in
theorem c_X12_add (B : gB) (ad : Nat → Nat) (ct : Nat → va_E) (n : Nat) (r a N : Nat) (g : Nat → Nat) (hnr : r < n) (haN : a + 40 ≤ N) (hN : N < 2 ^ 30) (hr : ct r = .inl (B.2.1 0, N, .inl (nF g))) (s b P : Nat) (gs : Nat → Nat) (hns : s < n) (hbP : b + 40 ≤ P) (hP : P < 2 ^ 30) (hs : ct s = .inl (B.2.1 0, P, .inl (nF gs))) (hrs : r ≠ s) (hok : okN g a) (hoks : okN gs b) (ho : nv g a + nv gs b < 16777216 ^ 40) : Ctr B yX12_add cX12_add 7 none 0 0 0 0 ad ct n [.ref (ad r), .int (nI a), .ref (ad s), .int (nI b)] (gPv ad n (fun ct' => ∃ g', ct' = va_up ct r (.inl (B.2.1 0, N, .inl (nF g'))) ∧ outN g g' a ∧ okN g' a ∧ nv g' a = nv g a + nv gs b)) := by
  have hct := va_same hr
  refine Ctr.ofG (L := [(0, .ref (ad r)), (1, .int (nI a)), (2, .ref (ad s)), (3, .int (nI b))]) (by decide +kernel) rfl (Nat.le_of_ble_eq_true rfl) (fun E fx rt hnm => ?_)
  refine g_iconst (v := nI 0) fx dX12_add_0 (by decide +kernel) ?_
  refine g_istore (L' := [(4, .int (nI 0)), (0, .ref (ad r)), (1, .int (nI a)), (2, .ref (ad s)), (3, .int (nI b))]) fx dX12_add_1 (by decide) rfl ?_
  refine g_iconst (v := nI 0) fx dX12_add_3 (by decide +kernel) ?_
  refine g_istore (L' := [(5, .int (nI 0)), (4, .int (nI 0)), (0, .ref (ad r)), (1, .int (nI a)), (2, .ref (ad s)), (3, .int (nI b))]) fx dX12_add_4 (by decide) rfl ?_
  have LP6 : ∀ (M : Nat) (k c : Nat) (ct1 : Nat → va_E) (g1 : Nat → Nat), (k ≤ 40) → (c ≤ 1) → (bval 16777216 (sh g1 a) k + c * 16777216 ^ k = bval 16777216 (sh g a) k + bval 16777216 (sh gs b) k) → (∀ j, j < a ∨ a + k ≤ j → g1 j = g j) → (∀ j, j < k → g1 (a + j) < 16777216) → (ct1 r = .inl (B.2.1 0, N, .inl (nF g1))) → (ct1 s = .inl (B.2.1 0, P, .inl (nF gs))) → (ct1 = va_up ct r (.inl (B.2.1 0, N, .inl (nF g1)))) →  (40 - k) < M → G B 7 E ad ct1 n 0 0 [(0, .ref (ad r)), (1, .int (nI a)), (2, .ref (ad s)), (3, .int (nI b)), (4, .int (nI c)), (5, .int (nI k))] 6 [] := by
    intro M
    induction M with
    | zero => intro k c ct1 g1 _ _ _ _ _ _ _ _ hM; exact absurd hM (Nat.not_lt_zero _)
    | succ M ih =>
      intro k c ct1 g1 hk hc he hout hb1 hr hs hct hM
      refine g_iload fx 5 dX12_add_6 rfl ?_
      refine g_bipush (v := nI 40) fx dX12_add_8 (by decide +kernel) ?_
      refine g_icmp_ge fx 55 dX12_add_10 (by decide) (fun c10 => ?_) (fun c10 => ?_)
      · skip
        have hk40 : k = 40 := by have := (nI_leI (by omega) (by omega)).mp c10; omega
        rw [hk40] at he hout hb1
        have hc0 : c = 0 := c_zero (x := bval 16777216 (sh g1 a) 40) (p := 16777216 ^ 40) (by rw [he]; exact ho)
        rw [hc0, Nat.zero_mul, Nat.add_zero] at he
        refine g_vret fx rt dX12_add_55 ?_
        exact gPv.mk ⟨g1, hct, fun j hj => hout j hj, hb1, he⟩
      · skip
        have hlt2 : k < 40 := by have := (nI_ltI (by omega) (by omega)).mp (Int32.not_le.mp c10); omega
        have hgk : sh g1 a k = sh g a k := hout (a + k) (by omega)
        have hq1 : g1 (a + k) < 16777216 := by rw [hout (a + k) (by omega)]; exact hok k hlt2
        have hq2 := hoks k hlt2
        refine g_aload_n fx 0 dX12_add_13 rfl ?_
        refine g_iload_n fx 1 dX12_add_14 rfl ?_
        refine g_iload fx 5 dX12_add_15 rfl ?_
        refine g_iaddN fx dX12_add_17 ?_
        refine g_iald (r := r) (j := (a + k)) fx (by omega) hr (nI_toInt (by omega)) (by omega) dX12_add_18 ?_
        refine g_isi (y := nI (g1 (a + k))) rfl ?_
        refine g_aload_n fx 2 dX12_add_19 rfl ?_
        refine g_iload_n fx 3 dX12_add_20 rfl ?_
        refine g_iload fx 5 dX12_add_21 rfl ?_
        refine g_iaddN fx dX12_add_23 ?_
        refine g_iald (r := s) (j := (b + k)) fx (by omega) hs (nI_toInt (by omega)) (by omega) dX12_add_24 ?_
        refine g_isi (y := nI (gs (b + k))) rfl ?_
        refine g_iaddN fx dX12_add_25 ?_
        refine g_iload fx 4 dX12_add_26 rfl ?_
        refine g_iaddN fx dX12_add_28 ?_
        refine g_istore (L' := [(6, .int (nI (((g1 (a + k)) + (gs (b + k))) + c))), (0, .ref (ad r)), (1, .int (nI a)), (2, .ref (ad s)), (3, .int (nI b)), (4, .int (nI c)), (5, .int (nI k))]) fx dX12_add_29 (by decide) rfl ?_
        refine g_aload_n fx 1 dX12_add_31 rfl ?_
        refine g_iload_n fx 2 dX12_add_32 rfl ?_
        refine g_iload fx 6 dX12_add_33 rfl ?_
        refine g_iaddN fx dX12_add_35 ?_
        refine g_iload fx 0 dX12_add_36 rfl ?_
        refine g_ldc fx kcX12_123 dX12_add_38 ?_
        refine g_iand fx dX12_add_40 ?_
        refine g_isi (y := nI ((g1 (a + k) + gs (b + k) + c) % 16777216)) (i_mask (by omega)) ?_
        refine g_iast (r := r) (j := (a + k)) fx (by omega) hr (nI_toInt (by omega)) (by omega) dX12_add_41 (fun cu1 ecu1 => ?_)
        have hct : cu1 = va_up ct r (.inl (B.2.1 0, N, .inl (nF (va_up g1 (a + k) ((g1 (a + k) + gs (b + k) + c) % 16777216))))) := up2n hct ecu1
        have hr : cu1 r = .inl (B.2.1 0, N, .inl (nF (va_up g1 (a + k) ((g1 (a + k) + gs (b + k) + c) % 16777216)))) := by rw [ecu1, va_up_self, nF_up]
        have hs : cu1 s = .inl (B.2.1 0, P, .inl (nF gs)) := (congrFun ecu1 _).trans ((va_up_ne _ _ (by omega)).trans hs)
        refine g_iload fx 0 dX12_add_42 rfl ?_
        refine g_bipush (v := nI 24) fx dX12_add_44 (by decide +kernel) ?_
        refine g_ishr fx dX12_add_46 ?_
        refine g_isi (y := nI ((g1 (a + k) + gs (b + k) + c) / 16777216)) (i_shr (by omega)) ?_
        refine g_istore (L' := [(4, .int (nI ((g1 (a + k) + gs (b + k) + c) / 16777216))), (6, .int (nI (((g1 (a + k)) + (gs (b + k))) + c))), (0, .ref (ad r)), (1, .int (nI a)), (2, .ref (ad s)), (3, .int (nI b)), (5, .int (nI k))]) fx dX12_add_47 (by decide) rfl ?_
        refine g_iinc (L' := [(5, .int (nI (k + 1))), (4, .int (nI ((g1 (a + k) + gs (b + k) + c) / 16777216))), (6, .int (nI (((g1 (a + k)) + (gs (b + k))) + c))), (0, .ref (ad r)), (1, .int (nI a)), (2, .ref (ad s)), (3, .int (nI b))]) fx (nI (k + 1)) 6 dX12_add_49 rfl (gInc _) (by decide) rfl ?_
        refine g_goto fx 6 dX12_add_52 (by decide) ?_
        refine g_locals (L' := [(0, .ref (ad r)), (1, .int (nI a)), (2, .ref (ad s)), (3, .int (nI b)), (4, .int (nI ((g1 (a + k) + gs (b + k) + c) / 16777216))), (5, .int (nI (k + 1)))]) [3, 4, 5, 6, 1, 0] rfl ?_
        exact ih (k + 1) ((g1 (a + k) + gs (b + k) + c) / 16777216) _ (va_up g1 (a + k) ((g1 (a + k) + gs (b + k) + c) % 16777216)) hlt2 (by omega) (by rw [sh_up]; exact badd_step hgk he) (fun j hj => by rw [va_up_ne _ _ (by omega)]; exact hout j (by omega)) (fun j hj => by unfold va_up; split; omega; exact hb1 j (by omega)) hr hs hct (by omega)
  refine g_locals (L' := [(0, .ref (ad r)), (1, .int (nI a)), (2, .ref (ad s)), (3, .int (nI b)), (4, .int (nI 0)), (5, .int (nI 0))]) [2, 3, 4, 5, 1, 0] rfl ?_
  exact LP6 41 0 0 ct g (by omega) (by omega) (by simp [bval]) (fun _ _ => rfl) (fun j hj => absurd hj (by omega)) hr hs hct (by omega)
set_option maxHeartbeats 4000000 in
set_option maxRecDepth 100000 in
theorem c_X12_subtract (B : gB) (ad : Nat → Nat) (ct : Nat → va_E) (n : Nat) (r a N : Nat) (g : Nat → Nat) (hnr : r < n) (haN : a + 40 ≤ N) (hN : N < 2 ^ 30) (hr : ct r = .inl (B.2.1 0, N, .inl (nF g))) (s b P : Nat) (gs : Nat → Nat) (hns : s < n) (hbP : b + 40 ≤ P) (hP : P < 2 ^ 30) (hs : ct s = .inl (B.2.1 0, P, .inl (nF gs))) (hrs : r ≠ s) (hok : okN g a) (hoks : okN gs b) (ho : nv gs b ≤ nv g a) : Ctr B yX12_subtract cX12_subtract 7 none 0 0 0 0 ad ct n [.ref (ad r), .int (nI a), .ref (ad s), .int (nI b)] (gPv ad n (fun ct' => ∃ g', ct' = va_up ct r (.inl (B.2.1 0, N, .inl (nF g'))) ∧ outN g g' a ∧ okN g' a ∧ nv g' a = nv g a - nv gs b)) := by
  have hct := va_same hr
  refine Ctr.ofG (L := [(0, .ref (ad r)), (1, .int (nI a)), (2, .ref (ad s)), (3, .int (nI b))]) (by decide +kernel) rfl (Nat.le_of_ble_eq_true rfl) (fun E fx rt hnm => ?_)
  refine g_iconst (v := nI 0) fx dX12_subtract_0 (by decide +kernel) ?_
  refine g_istore (L' := [(4, .int (nI 0)), (0, .ref (ad r)), (1, .int (nI a)), (2, .ref (ad s)), (3, .int (nI b))]) fx dX12_subtract_1 (by decide) rfl ?_
  refine g_iconst (v := nI 0) fx dX12_subtract_3 (by decide +kernel) ?_
  refine g_istore (L' := [(5, .int (nI 0)), (4, .int (nI 0)), (0, .ref (ad r)), (1, .int (nI a)), (2, .ref (ad s)), (3, .int (nI b))]) fx dX12_subtract_4 (by decide) rfl ?_
  have LP6 : ∀ (M : Nat) (k c : Nat) (ct1 : Nat → va_E) (g1 : Nat → Nat), (k ≤ 40) → (c ≤ 1) → (bval 16777216 (sh g1 a) k + bval 16777216 (sh gs b) k = bval 16777216 (sh g a) k + c * 16777216 ^ k) → (∀ j, j < a ∨ a + k ≤ j → g1 j = g j) → (∀ j, j < k → g1 (a + j) < 16777216) → (ct1 r = .inl (B.2.1 0, N, .inl (nF g1))) → (ct1 s = .inl (B.2.1 0, P, .inl (nF gs))) → (ct1 = va_up ct r (.inl (B.2.1 0, N, .inl (nF g1)))) →  (40 - k) < M → G B 7 E ad ct1 n 0 0 [(0, .ref (ad r)), (1, .int (nI a)), (2, .ref (ad s)), (3, .int (nI b)), (4, .int (nI c)), (5, .int (nI k))] 6 [] := by
    intro M
    induction M with
    | zero => intro k c ct1 g1 _ _ _ _ _ _ _ _ hM; exact absurd hM (Nat.not_lt_zero _)
    | succ M ih =>
      intro k c ct1 g1 hk hc he hout hb1 hr hs hct hM
      refine g_iload fx 5 dX12_subtract_6 rfl ?_
      refine g_bipush (v := nI 40) fx dX12_subtract_8 (by decide +kernel) ?_
      refine g_icmp_ge fx 63 dX12_subtract_10 (by decide) (fun c10 => ?_) (fun c10 => ?_)
      · skip
        have hk40 : k = 40 := by have := (nI_leI (by omega) (by omega)).mp c10; omega
        rw [hk40] at he hout hb1
        have hb2 : bval 16777216 (sh g1 a) 40 < 16777216 ^ 40 := bval_lt 40 hb1
        have hc0 : c = 0 := c_zero (x := nv g a - nv gs b) (p := 16777216 ^ 40) (by have e1 : bval 16777216 (sh g1 a) 40 + nv gs b = nv g a + c * 16777216 ^ 40 := he; omega)
        rw [hc0, Nat.zero_mul, Nat.add_zero] at he
        have hval : nv g1 a = nv g a - nv gs b := by have e1 : nv g1 a + nv gs b = nv g a := he; omega
        refine g_vret fx rt dX12_subtract_63 ?_
        exact gPv.mk ⟨g1, hct, fun j hj => hout j hj, hb1, hval⟩
      · skip
        have hlt2 : k < 40 := by have := (nI_ltI (by omega) (by omega)).mp (Int32.not_le.mp c10); omega
        have hgk : sh g1 a k = sh g a k := hout (a + k) (by omega)
        have hq1 : g1 (a + k) < 16777216 := by rw [hout (a + k) (by omega)]; exact hok k hlt2
        have hq2 := hoks k hlt2
        refine g_aload_n fx 0 dX12_subtract_13 rfl ?_
        refine g_iload_n fx 1 dX12_subtract_14 rfl ?_
        refine g_iload fx 5 dX12_subtract_15 rfl ?_
        refine g_iaddN fx dX12_subtract_17 ?_
        refine g_iald (r := r) (j := (a + k)) fx (by omega) hr (nI_toInt (by omega)) (by omega) dX12_subtract_18 ?_
        refine g_isi (y := nI (g1 (a + k))) rfl ?_
        refine g_aload_n fx 2 dX12_subtract_19 rfl ?_
        refine g_iload_n fx 3 dX12_subtract_20 rfl ?_
        refine g_iload fx 5 dX12_subtract_21 rfl ?_
        refine g_iaddN fx dX12_subtract_23 ?_
        refine g_iald (r := s) (j := (b + k)) fx (by omega) hs (nI_toInt (by omega)) (by omega) dX12_subtract_24 ?_
        refine g_isi (y := nI (gs (b + k))) rfl ?_
        refine g_isub fx dX12_subtract_25 ?_
        refine g_iload fx 4 dX12_subtract_26 rfl ?_
        refine g_isub fx dX12_subtract_28 ?_
        refine g_istore (L' := [(6, .int (((nI (g1 (a + k))) - (nI (gs (b + k)))) - (nI c))), (0, .ref (ad r)), (1, .int (nI a)), (2, .ref (ad s)), (3, .int (nI b)), (4, .int (nI c)), (5, .int (nI k))]) fx dX12_subtract_29 (by decide) rfl ?_
        refine g_iload fx 0 dX12_subtract_31 rfl ?_
        refine g_if_ge fx 40 dX12_subtract_33 (by decide) (fun c33 => ?_) (fun c33 => ?_)
        · skip
          have hcc := (i_sub3_ge (by omega) (by omega) (by omega)).mp c33
          refine g_iconst (v := nI 0) fx dX12_subtract_40 (by decide +kernel) ?_
          refine g_isi (y := nI (if gs (b + k) + c ≤ g1 (a + k) then 0 else 1)) (by first | rw [if_pos hcc] | rw [if_neg hcc]) ?_
          refine g_istore (L' := [(4, .int (nI (if gs (b + k) + c ≤ g1 (a + k) then 0 else 1))), (6, .int (((nI (g1 (a + k))) - (nI (gs (b + k)))) - (nI c))), (0, .ref (ad r)), (1, .int (nI a)), (2, .ref (ad s)), (3, .int (nI b)), (5, .int (nI k))]) fx dX12_subtract_41 (by decide) rfl ?_
          refine g_aload_n fx 2 dX12_subtract_43 rfl ?_
          refine g_iload_n fx 3 dX12_subtract_44 rfl ?_
          refine g_iload fx 6 dX12_subtract_45 rfl ?_
          refine g_iaddN fx dX12_subtract_47 ?_
          refine g_iload fx 1 dX12_subtract_48 rfl ?_
          refine g_iload fx 0 dX12_subtract_50 rfl ?_
          refine g_ldc fx kcX12_124 dX12_subtract_52 ?_
          refine g_imul fx dX12_subtract_54 ?_
          refine g_isi (y := nI ((if gs (b + k) + c ≤ g1 (a + k) then 0 else 1) * 16777216)) (pk_mul _ 16777216) ?_
          refine g_iadd fx dX12_subtract_55 ?_
          refine g_isi (y := nI ((g1 (a + k) + 16777216 - gs (b + k) - c) % 16777216)) (by rw [i_sub3_v (by split <;> omega)]; congr 1; first | (rw [if_pos hcc]; omega) | (rw [if_neg hcc]; omega)) ?_
          refine g_iast (r := r) (j := (a + k)) fx (by omega) hr (nI_toInt (by omega)) (by omega) dX12_subtract_56 (fun cu1 ecu1 => ?_)
          have hct : cu1 = va_up ct r (.inl (B.2.1 0, N, .inl (nF (va_up g1 (a + k) ((g1 (a + k) + 16777216 - gs (b + k) - c) % 16777216))))) := up2n hct ecu1
          have hr : cu1 r = .inl (B.2.1 0, N, .inl (nF (va_up g1 (a + k) ((g1 (a + k) + 16777216 - gs (b + k) - c) % 16777216)))) := by rw [ecu1, va_up_self, nF_up]
          have hs : cu1 s = .inl (B.2.1 0, P, .inl (nF gs)) := (congrFun ecu1 _).trans ((va_up_ne _ _ (by omega)).trans hs)
          refine g_iinc (L' := [(5, .int (nI (k + 1))), (4, .int (nI (if gs (b + k) + c ≤ g1 (a + k) then 0 else 1))), (6, .int (((nI (g1 (a + k))) - (nI (gs (b + k)))) - (nI c))), (0, .ref (ad r)), (1, .int (nI a)), (2, .ref (ad s)), (3, .int (nI b))]) fx (nI (k + 1)) 6 dX12_subtract_57 rfl (gInc _) (by decide) rfl ?_
          refine g_goto fx 6 dX12_subtract_60 (by decide) ?_
          refine g_locals (L' := [(0, .ref (ad r)), (1, .int (nI a)), (2, .ref (ad s)), (3, .int (nI b)), (4, .int (nI (if gs (b + k) + c ≤ g1 (a + k) then 0 else 1))), (5, .int (nI (k + 1)))]) [3, 4, 5, 6, 1, 0] rfl ?_
          exact ih (k + 1) (if gs (b + k) + c ≤ g1 (a + k) then 0 else 1) _ (va_up g1 (a + k) ((g1 (a + k) + 16777216 - gs (b + k) - c) % 16777216)) hlt2 (by split <;> omega) (by rw [sh_up]; exact bsub_step (g := sh g a) (g1 := sh g1 a) (gu := sh gs b) (i := k) (by decide) hq1 hq2 hc hgk he) (fun j hj => by rw [va_up_ne _ _ (by omega)]; exact hout j (by omega)) (fun j hj => by unfold va_up; split; omega; exact hb1 j (by omega)) hr hs hct (by omega)
        · skip
          have hcc : ¬ gs (b + k) + c ≤ g1 (a + k) := fun q => c33 ((i_sub3_ge (by omega) (by omega) (by omega)).mpr q)
          refine g_iconst (v := nI 1) fx dX12_subtract_36 (by decide +kernel) ?_
          refine g_goto fx 41 dX12_subtract_37 (by decide) ?_
          refine g_isi (y := nI (if gs (b + k) + c ≤ g1 (a + k) then 0 else 1)) (by first | rw [if_pos hcc] | rw [if_neg hcc]) ?_
          refine g_istore (L' := [(4, .int (nI (if gs (b + k) + c ≤ g1 (a + k) then 0 else 1))), (6, .int (((nI (g1 (a + k))) - (nI (gs (b + k)))) - (nI c))), (0, .ref (ad r)), (1, .int (nI a)), (2, .ref (ad s)), (3, .int (nI b)), (5, .int (nI k))]) fx dX12_subtract_41 (by decide) rfl ?_
          refine g_aload_n fx 2 dX12_subtract_43 rfl ?_
          refine g_iload_n fx 3 dX12_subtract_44 rfl ?_
          refine g_iload fx 6 dX12_subtract_45 rfl ?_
          refine g_iaddN fx dX12_subtract_47 ?_
          refine g_iload fx 1 dX12_subtract_48 rfl ?_
          refine g_iload fx 0 dX12_subtract_50 rfl ?_
          refine g_ldc fx kcX12_124 dX12_subtract_52 ?_
          refine g_imul fx dX12_subtract_54 ?_
          refine g_isi (y := nI ((if gs (b + k) + c ≤ g1 (a + k) then 0 else 1) * 16777216)) (pk_mul _ 16777216) ?_
          refine g_iadd fx dX12_subtract_55 ?_
          refine g_isi (y := nI ((g1 (a + k) + 16777216 - gs (b + k) - c) % 16777216)) (by rw [i_sub3_v (by split <;> omega)]; congr 1; first | (rw [if_pos hcc]; omega) | (rw [if_neg hcc]; omega)) ?_
          refine g_iast (r := r) (j := (a + k)) fx (by omega) hr (nI_toInt (by omega)) (by omega) dX12_subtract_56 (fun cu2 ecu2 => ?_)
          have hct : cu2 = va_up ct r (.inl (B.2.1 0, N, .inl (nF (va_up g1 (a + k) ((g1 (a + k) + 16777216 - gs (b + k) - c) % 16777216))))) := up2n hct ecu2
          have hr : cu2 r = .inl (B.2.1 0, N, .inl (nF (va_up g1 (a + k) ((g1 (a + k) + 16777216 - gs (b + k) - c) % 16777216)))) := by rw [ecu2, va_up_self, nF_up]
          have hs : cu2 s = .inl (B.2.1 0, P, .inl (nF gs)) := (congrFun ecu2 _).trans ((va_up_ne _ _ (by omega)).trans hs)
          refine g_iinc (L' := [(5, .int (nI (k + 1))), (4, .int (nI (if gs (b + k) + c ≤ g1 (a + k) then 0 else 1))), (6, .int (((nI (g1 (a + k))) - (nI (gs (b + k)))) - (nI c))), (0, .ref (ad r)), (1, .int (nI a)), (2, .ref (ad s)), (3, .int (nI b))]) fx (nI (k + 1)) 6 dX12_subtract_57 rfl (gInc _) (by decide) rfl ?_
          refine g_goto fx 6 dX12_subtract_60 (by decide) ?_
          refine g_locals (L' := [(0, .ref (ad r)), (1, .int (nI a)), (2, .ref (ad s)), (3, .int (nI b)), (4, .int (nI (if gs (b + k) + c ≤ g1 (a + k) then 0 else 1))), (5, .int (nI (k + 1)))]) [3, 4, 5, 6, 1, 0] rfl ?_
          exact ih (k + 1) (if gs (b + k) + c ≤ g1 (a + k) then 0 else 1) _ (va_up g1 (a + k) ((g1 (a + k) + 16777216 - gs (b + k) - c) % 16777216)) hlt2 (by split <;> omega) (by rw [sh_up]; exact bsub_step (g := sh g a) (g1 := sh g1 a) (gu := sh gs b) (i := k) (by decide) hq1 hq2 hc hgk he) (fun j hj => by rw [va_up_ne _ _ (by omega)]; exact hout j (by omega)) (fun j hj => by unfold va_up; split; omega; exact hb1 j (by omega)) hr hs hct (by omega)
  refine g_locals (L' := [(0, .ref (ad r)), (1, .int (nI a)), (2, .ref (ad s)), (3, .int (nI b)), (4, .int (nI 0)), (5, .int (nI 0))]) [2, 3, 4, 5, 1, 0] rfl ?_
  exact LP6 41 0 0 ct g (by omega) (by omega) (by simp [bval]) (fun _ _ => rfl) (fun j hj => absurd hj (by omega)) hr hs hct (by omega)
set_option maxHeartbeats 4000000 in
set_option maxRecDepth 100000 in
theorem c_X12_multiply (B : gB) (ad : Nat → Nat) (ct : Nat → va_E) (n : Nat) (r a N : Nat) (g : Nat → Nat) (hnr : r < n) (haN : a + 40 ≤ N) (hN : N < 2 ^ 30) (hr : ct r = .inl (B.2.1 0, N, .inl (nF g))) (m : Nat) (hm : m < 2 ^ 31) (hok : okN g a) (ho : nv g a * m < 16777216 ^ 40) : Ctr B yX12_multiply cX12_multiply 6 none 0 0 0 0 ad ct n [.ref (ad r), .int (nI a), .int (nI m)] (gPv ad n (fun ct' => ∃ g', ct' = va_up ct r (.inl (B.2.1 0, N, .inl (nF g'))) ∧ outN g g' a ∧ okN g' a ∧ nv g' a = nv g a * m)) := by
  have hct := va_same hr
  refine Ctr.ofG (L := [(0, .ref (ad r)), (1, .int (nI a)), (2, .int (nI m))]) (by decide +kernel) rfl (Nat.le_of_ble_eq_true rfl) (fun E fx rt hnm => ?_)
  refine g_lconst (v := lN 0) fx dX12_multiply_0 (by decide +kernel) ?_
  refine g_lstore_n (L' := [(3, .long (lN 0)), (0, .ref (ad r)), (1, .int (nI a)), (2, .int (nI m))]) fx dX12_multiply_1 (by decide) rfl ?_
  refine g_iconst (v := nI 0) fx dX12_multiply_2 (by decide +kernel) ?_
  refine g_istore (L' := [(5, .int (nI 0)), (3, .long (lN 0)), (0, .ref (ad r)), (1, .int (nI a)), (2, .int (nI m))]) fx dX12_multiply_3 (by decide) rfl ?_
  have LP5 : ∀ (M : Nat) (k c : Nat) (ct1 : Nat → va_E) (g1 : Nat → Nat), (k ≤ 40) → (c ≤ m) → (bval 16777216 (sh g1 a) k + c * 16777216 ^ k = bval 16777216 (sh g a) k * m) → (∀ j, j < a ∨ a + k ≤ j → g1 j = g j) → (∀ j, j < k → g1 (a + j) < 16777216) → (ct1 r = .inl (B.2.1 0, N, .inl (nF g1))) → (ct1 = va_up ct r (.inl (B.2.1 0, N, .inl (nF g1)))) →  (40 - k) < M → G B 6 E ad ct1 n 0 0 [(0, .ref (ad r)), (1, .int (nI a)), (2, .int (nI m)), (3, .long (lN c)), (5, .int (nI k))] 5 [] := by
    intro M
    induction M with
    | zero => intro k c ct1 g1 _ _ _ _ _ _ _ hM; exact absurd hM (Nat.not_lt_zero _)
    | succ M ih =>
      intro k c ct1 g1 hk hc he hout hb1 hr hct hM
      refine g_iload fx 4 dX12_multiply_5 rfl ?_
      refine g_bipush (v := nI 40) fx dX12_multiply_7 (by decide +kernel) ?_
      refine g_icmp_ge fx 48 dX12_multiply_9 (by decide) (fun c9 => ?_) (fun c9 => ?_)
      · skip
        have hk40 : k = 40 := by have := (nI_leI (by omega) (by omega)).mp c9; omega
        rw [hk40] at he hout hb1
        have hc0 : c = 0 := c_zero (x := bval 16777216 (sh g1 a) 40) (p := 16777216 ^ 40) (by rw [he]; exact ho)
        rw [hc0, Nat.zero_mul, Nat.add_zero] at he
        refine g_vret fx rt dX12_multiply_48 ?_
        exact gPv.mk ⟨g1, hct, fun j hj => hout j hj, hb1, he⟩
      · skip
        have hlt2 : k < 40 := by have := (nI_ltI (by omega) (by omega)).mp (Int32.not_le.mp c9); omega
        have hgk : sh g1 a k = sh g a k := hout (a + k) (by omega)
        have hq1 : g1 (a + k) < 16777216 := by rw [hout (a + k) (by omega)]; exact hok k hlt2
        have hq3 : g1 (a + k) * m ≤ 16777215 * m := Nat.mul_le_mul_right _ (by omega)
        have hc2 : (c + g1 (a + k) * m) / 16777216 ≤ m := by omega
        refine g_lload_n fx 3 dX12_multiply_12 rfl ?_
        refine g_aload_n fx 0 dX12_multiply_13 rfl ?_
        refine g_iload_n fx 1 dX12_multiply_14 rfl ?_
        refine g_iload fx 4 dX12_multiply_15 rfl ?_
        refine g_iaddN fx dX12_multiply_17 ?_
        refine g_iald (r := r) (j := (a + k)) fx (by omega) hr (nI_toInt (by omega)) (by omega) dX12_multiply_18 ?_
        refine g_isi (y := nI (g1 (a + k))) rfl ?_
        refine g_i2l fx dX12_multiply_19 ?_
        refine g_isl (y := lN (g1 (a + k))) (nI_l (by omega)) ?_
        refine g_iload_n fx 2 dX12_multiply_20 rfl ?_
        refine g_i2l fx dX12_multiply_21 ?_
        refine g_isl (y := lN m) (nI_l hm) ?_
        refine g_lmul fx dX12_multiply_22 ?_
        refine g_isl (y := lN (g1 (a + k) * m)) (lN_mul _ _) ?_
        refine g_ladd fx dX12_multiply_23 ?_
        refine g_isl (y := lN (c + g1 (a + k) * m)) (lN_add _ _) ?_
        refine g_lstore_n (L' := [(3, .long (lN (c + g1 (a + k) * m))), (0, .ref (ad r)), (1, .int (nI a)), (2, .int (nI m)), (5, .int (nI k))]) fx dX12_multiply_24 (by decide) rfl ?_
        refine g_aload_n fx 1 dX12_multiply_25 rfl ?_
        refine g_iload_n fx 2 dX12_multiply_26 rfl ?_
        refine g_iload fx 4 dX12_multiply_27 rfl ?_
        refine g_iaddN fx dX12_multiply_29 ?_
        refine g_lload_n fx 0 dX12_multiply_30 rfl ?_
        refine g_ldc2 fx kcX12_121 dX12_multiply_31 ?_
        refine g_land fx dX12_multiply_34 ?_
        refine g_isl (y := lN ((c + g1 (a + k) * m) % 16777216)) (l_mask24 (by omega)) ?_
        refine g_l2i fx dX12_multiply_35 ?_
        refine g_isi (y := nI ((c + g1 (a + k) * m) % 16777216)) (lN_i _) ?_
        refine g_iast (r := r) (j := (a + k)) fx (by omega) hr (nI_toInt (by omega)) (by omega) dX12_multiply_36 (fun cu1 ecu1 => ?_)
        have hct : cu1 = va_up ct r (.inl (B.2.1 0, N, .inl (nF (va_up g1 (a + k) ((c + g1 (a + k) * m) % 16777216))))) := up2n hct ecu1
        have hr : cu1 r = .inl (B.2.1 0, N, .inl (nF (va_up g1 (a + k) ((c + g1 (a + k) * m) % 16777216)))) := by rw [ecu1, va_up_self, nF_up]
        refine g_lload_n fx 0 dX12_multiply_37 rfl ?_
        refine g_bipush (v := nI 24) fx dX12_multiply_38 (by decide +kernel) ?_
        refine g_lshr fx dX12_multiply_40 ?_
        refine g_isl (y := lN ((c + g1 (a + k) * m) / 16777216)) (l_sshr (by omega)) ?_
        refine g_lstore_n (L' := [(3, .long (lN ((c + g1 (a + k) * m) / 16777216))), (0, .ref (ad r)), (1, .int (nI a)), (2, .int (nI m)), (5, .int (nI k))]) fx dX12_multiply_41 (by decide) rfl ?_
        refine g_iinc (L' := [(5, .int (nI (k + 1))), (3, .long (lN ((c + g1 (a + k) * m) / 16777216))), (0, .ref (ad r)), (1, .int (nI a)), (2, .int (nI m))]) fx (nI (k + 1)) 4 dX12_multiply_42 rfl (gInc _) (by decide) rfl ?_
        refine g_goto fx 5 dX12_multiply_45 (by decide) ?_
        refine g_locals (L' := [(0, .ref (ad r)), (1, .int (nI a)), (2, .int (nI m)), (3, .long (lN ((c + g1 (a + k) * m) / 16777216))), (5, .int (nI (k + 1)))]) [2, 3, 4, 1, 0] rfl ?_
        exact ih (k + 1) ((c + g1 (a + k) * m) / 16777216) _ (va_up g1 (a + k) ((c + g1 (a + k) * m) % 16777216)) hlt2 hc2 (by rw [sh_up]; exact bmulc_step (g := sh g a) (g1 := sh g1 a) hgk he) (fun j hj => by rw [va_up_ne _ _ (by omega)]; exact hout j (by omega)) (fun j hj => by unfold va_up; split; omega; exact hb1 j (by omega)) hr hct (by omega)
  refine g_locals (L' := [(0, .ref (ad r)), (1, .int (nI a)), (2, .int (nI m)), (3, .long (lN 0)), (5, .int (nI 0))]) [2, 3, 4, 1, 0] rfl ?_
  exact LP5 41 0 0 ct g (by omega) (by omega) (by simp [bval]) (fun _ _ => rfl) (fun j hj => absurd hj (by omega)) hr hct (by omega)
set_option maxHeartbeats 4000000 in
set_option maxRecDepth 100000 in
theorem c_X12_divide (B : gB) (ad : Nat → Nat) (ct : Nat → va_E) (n : Nat) (r a N : Nat) (g : Nat → Nat) (hnr : r < n) (haN : a + 40 ≤ N) (hN : N < 2 ^ 30) (hr : ct r = .inl (B.2.1 0, N, .inl (nF g))) (d : Nat) (hd : 0 < d) (hd31 : d < 2 ^ 31) (hok : okN g a) : Ctr B yX12_divide cX12_divide 6 none 0 0 0 0 ad ct n [.ref (ad r), .int (nI a), .int (nI d)] (gPv ad n (fun ct' => ∃ g', ct' = va_up ct r (.inl (B.2.1 0, N, .inl (nF g'))) ∧ outN g g' a ∧ okN g' a ∧ nv g' a = nv g a / d)) := by
  have hct := va_same hr
  refine Ctr.ofG (L := [(0, .ref (ad r)), (1, .int (nI a)), (2, .int (nI d))]) (by decide +kernel) rfl (Nat.le_of_ble_eq_true rfl) (fun E fx rt hnm => ?_)
  refine g_lconst (v := lN 0) fx dX12_divide_0 (by decide +kernel) ?_
  refine g_lstore_n (L' := [(3, .long (lN 0)), (0, .ref (ad r)), (1, .int (nI a)), (2, .int (nI d))]) fx dX12_divide_1 (by decide) rfl ?_
  refine g_bipush (v := nI 39) fx dX12_divide_2 (by decide +kernel) ?_
  refine g_isi (y := nI 40 - nI 1) (by decide) ?_
  refine g_istore (L' := [(5, .int (nI 40 - nI 1)), (3, .long (lN 0)), (0, .ref (ad r)), (1, .int (nI a)), (2, .int (nI d))]) fx dX12_divide_4 (by decide) rfl ?_
  have LP6 : ∀ (M : Nat) (k z : Nat) (ct1 : Nat → va_E) (g1 : Nat → Nat), (k ≤ 40) → (z < d) → (bhi 16777216 (sh g1 a) 40 k * d + z = bhi 16777216 (sh g a) 40 k) → (∀ j, j < a + k ∨ a + 40 ≤ j → g1 j = g j) → (okN g1 a) → (ct1 r = .inl (B.2.1 0, N, .inl (nF g1))) → (ct1 = va_up ct r (.inl (B.2.1 0, N, .inl (nF g1)))) →  k < M → G B 6 E ad ct1 n 0 0 [(0, .ref (ad r)), (1, .int (nI a)), (2, .int (nI d)), (3, .long (lN z)), (5, .int (nI k - nI 1))] 6 [] := by
    intro M
    induction M with
    | zero => intro k z ct1 g1 _ _ _ _ _ _ _ hM; exact absurd hM (Nat.not_lt_zero _)
    | succ M ih =>
      intro k z ct1 g1 hk hz he hout hb1 hr hct hM
      refine g_iload fx 4 dX12_divide_6 rfl ?_
      refine g_if_lt fx 47 dX12_divide_8 (by decide) (fun c8 => ?_) (fun c8 => ?_)
      · skip
        have hk0 := (m1_neg (by omega)).mp c8
        rw [hk0, bhi_0, bhi_0] at he
        have hval : nv g1 a = nv g a / d := div_of he hz
        refine g_vret fx rt dX12_divide_47 ?_
        exact gPv.mk ⟨g1, hct, fun j hj => hout j (by omega), hb1, hval⟩
      · skip
        have hk0 : 0 < k := Nat.pos_of_ne_zero (fun q => c8 ((m1_neg (by omega)).mpr q))
        have hq1 : g1 (a + (k - 1)) < 16777216 := hb1 (k - 1) (by omega)
        have hqb : (z * 16777216 + g1 (a + (k - 1))) / d < 16777216 := (Nat.div_lt_iff_lt_mul hd).mpr (by have : (z + 1) * 16777216 ≤ d * 16777216 := Nat.mul_le_mul_right _ hz; omega)
        have hgk : g1 (a + (k - 1)) = sh g a (k - 1) := hout (a + (k - 1)) (by omega)
        have hstep : bhi 16777216 (sh (va_up g1 (a + (k - 1)) ((z * 16777216 + g1 (a + (k - 1))) / d)) a) 40 (k - 1) * d + (z * 16777216 + g1 (a + (k - 1))) % d = bhi 16777216 (sh g a) 40 (k - 1) := by
          rw [sh_up, bhi_step hk0 hk, bhi_step hk0 hk, va_up_self, bhi_congr (f := va_up (sh g1 a) (k - 1) ((z * 16777216 + g1 (a + (k - 1))) / d)) (g := sh g1 a) (fun i hi => va_up_ne _ _ (by omega)), ← he, ← hgk]
          have hdm := Nat.div_add_mod (z * 16777216 + g1 (a + (k - 1))) d
          generalize (z * 16777216 + g1 (a + (k - 1))) / d = q at hdm ⊢
          generalize (z * 16777216 + g1 (a + (k - 1))) % d = y at hdm ⊢
          generalize bhi 16777216 (sh g1 a) 40 k = bb
          grind
        refine g_lload_n fx 3 dX12_divide_11 rfl ?_
        refine g_ldc2 fx kcX12_125 dX12_divide_12 ?_
        refine g_lmul fx dX12_divide_15 ?_
        refine g_isl (y := lN (z * 16777216)) (lN_mul z 16777216) ?_
        refine g_aload_n fx 0 dX12_divide_16 rfl ?_
        refine g_iload_n fx 1 dX12_divide_17 rfl ?_
        refine g_iload fx 4 dX12_divide_18 rfl ?_
        refine g_iadd fx dX12_divide_20 ?_
        refine g_isi (y := nI (a + (k - 1))) (add_m1 hk0) ?_
        refine g_iald (r := r) (j := (a + (k - 1))) fx (by omega) hr (nI_toInt (by omega)) (by omega) dX12_divide_21 ?_
        refine g_isi (y := nI (g1 (a + (k - 1)))) rfl ?_
        refine g_i2l fx dX12_divide_22 ?_
        refine g_isl (y := lN (g1 (a + (k - 1)))) (nI_l (by omega)) ?_
        refine g_ladd fx dX12_divide_23 ?_
        refine g_isl (y := lN (z * 16777216 + g1 (a + (k - 1)))) (lN_add _ _) ?_
        refine g_lstore_n (L' := [(3, .long (lN (z * 16777216 + g1 (a + (k - 1))))), (0, .ref (ad r)), (1, .int (nI a)), (2, .int (nI d)), (5, .int (nI k - nI 1))]) fx dX12_divide_24 (by decide) rfl ?_
        refine g_aload_n fx 1 dX12_divide_25 rfl ?_
        refine g_iload_n fx 2 dX12_divide_26 rfl ?_
        refine g_iload fx 4 dX12_divide_27 rfl ?_
        refine g_iadd fx dX12_divide_29 ?_
        refine g_isi (y := nI (a + (k - 1))) (add_m1 hk0) ?_
        refine g_lload_n fx 0 dX12_divide_30 rfl ?_
        refine g_iload_n fx 3 dX12_divide_31 rfl ?_
        refine g_i2l fx dX12_divide_32 ?_
        refine g_isl (y := lN d) (nI_l hd31) ?_
        refine g_ldiv fx dX12_divide_33 (lN_ne0 hd hd31) ?_
        refine g_isl (y := lN ((z * 16777216 + g1 (a + (k - 1))) / d)) (pk_lDiv (by omega) hd (by omega)) ?_
        refine g_l2i fx dX12_divide_34 ?_
        refine g_isi (y := nI ((z * 16777216 + g1 (a + (k - 1))) / d)) (lN_i _) ?_
        refine g_iast (r := r) (j := (a + (k - 1))) fx (by omega) hr (nI_toInt (by omega)) (by omega) dX12_divide_35 (fun cu1 ecu1 => ?_)
        have hct : cu1 = va_up ct r (.inl (B.2.1 0, N, .inl (nF (va_up g1 (a + (k - 1)) ((z * 16777216 + g1 (a + (k - 1))) / d))))) := up2n hct ecu1
        have hr : cu1 r = .inl (B.2.1 0, N, .inl (nF (va_up g1 (a + (k - 1)) ((z * 16777216 + g1 (a + (k - 1))) / d)))) := by rw [ecu1, va_up_self, nF_up]
        refine g_lload_n fx 0 dX12_divide_36 rfl ?_
        refine g_iload_n fx 3 dX12_divide_37 rfl ?_
        refine g_i2l fx dX12_divide_38 ?_
        refine g_isl (y := lN d) (nI_l hd31) ?_
        refine g_lrem fx dX12_divide_39 (lN_ne0 hd hd31) ?_
        refine g_isl (y := lN ((z * 16777216 + g1 (a + (k - 1))) % d)) (pk_lRem (by omega) hd (by omega)) ?_
        refine g_lstore_n (L' := [(3, .long (lN ((z * 16777216 + g1 (a + (k - 1))) % d))), (0, .ref (ad r)), (1, .int (nI a)), (2, .int (nI d)), (5, .int (nI k - nI 1))]) fx dX12_divide_40 (by decide) rfl ?_
        refine g_iinc (L' := [(5, .int (nI (k - 1) - nI 1)), (3, .long (lN ((z * 16777216 + g1 (a + (k - 1))) % d))), (0, .ref (ad r)), (1, .int (nI a)), (2, .int (nI d))]) fx (nI (k - 1) - nI 1) 4 dX12_divide_41 rfl (m1_dec hk0) (by decide) rfl ?_
        refine g_goto fx 6 dX12_divide_44 (by decide) ?_
        refine g_locals (L' := [(0, .ref (ad r)), (1, .int (nI a)), (2, .int (nI d)), (3, .long (lN ((z * 16777216 + g1 (a + (k - 1))) % d))), (5, .int (nI (k - 1) - nI 1))]) [2, 3, 4, 1, 0] rfl ?_
        exact ih (k - 1) ((z * 16777216 + g1 (a + (k - 1))) % d) _ (va_up g1 (a + (k - 1)) ((z * 16777216 + g1 (a + (k - 1))) / d)) (by omega) (Nat.mod_lt _ hd) hstep (fun j hj => by rw [va_up_ne _ _ (by omega)]; exact hout j (by omega)) (fun j hj => by unfold va_up; split; exact hqb; exact hb1 j hj) hr hct (by omega)
  refine g_locals (L' := [(0, .ref (ad r)), (1, .int (nI a)), (2, .int (nI d)), (3, .long (lN 0)), (5, .int (nI 40 - nI 1))]) [2, 3, 4, 1, 0] rfl ?_
  exact LP6 41 40 0 ct g (by omega) hd (by rw [bhi_top]; simp) (fun _ _ => rfl) hok hr hct (by omega)
set_option maxHeartbeats 4000000 in
set_option maxRecDepth 100000 in
theorem c_X12_twice (B : gB) (ad : Nat → Nat) (ct : Nat → va_E) (n : Nat) (r a N : Nat) (g : Nat → Nat) (hnr : r < n) (haN : a + 40 ≤ N) (hN : N < 2 ^ 30) (hr : ct r = .inl (B.2.1 0, N, .inl (nF g))) (e : Nat) (he1 : e ≤ 1) (hok : okN g a) (ho : nv g a * 2 + e < 16777216 ^ 40) : Ctr B yX12_twice cX12_twice 6 none 0 0 0 0 ad ct n [.ref (ad r), .int (nI a), .int (nI e)] (gPv ad n (fun ct' => ∃ g', ct' = va_up ct r (.inl (B.2.1 0, N, .inl (nF g'))) ∧ outN g g' a ∧ okN g' a ∧ nv g' a = nv g a * 2 + e)) := by
  have hct := va_same hr
  refine Ctr.ofG (L := [(0, .ref (ad r)), (1, .int (nI a)), (2, .int (nI e))]) (by decide +kernel) rfl (Nat.le_of_ble_eq_true rfl) (fun E fx rt hnm => ?_)
  refine g_iload_n fx 2 dX12_twice_0 rfl ?_
  refine g_istore_n (L' := [(3, .int (nI e)), (0, .ref (ad r)), (1, .int (nI a)), (2, .int (nI e))]) fx dX12_twice_1 (by decide) rfl ?_
  refine g_iconst (v := nI 0) fx dX12_twice_2 (by decide +kernel) ?_
  refine g_istore (L' := [(4, .int (nI 0)), (3, .int (nI e)), (0, .ref (ad r)), (1, .int (nI a)), (2, .int (nI e))]) fx dX12_twice_3 (by decide) rfl ?_
  have LP5 : ∀ (M : Nat) (k c : Nat) (ct1 : Nat → va_E) (g1 : Nat → Nat), (k ≤ 40) → (c ≤ 1) → (bval 16777216 (sh g1 a) k + c * 16777216 ^ k = bval 16777216 (sh g a) k * 2 + e) → (∀ j, j < a ∨ a + k ≤ j → g1 j = g j) → (∀ j, j < k → g1 (a + j) < 16777216) → (ct1 r = .inl (B.2.1 0, N, .inl (nF g1))) → (ct1 = va_up ct r (.inl (B.2.1 0, N, .inl (nF g1)))) →  (40 - k) < M → G B 6 E ad ct1 n 0 0 [(0, .ref (ad r)), (1, .int (nI a)), (3, .int (nI c)), (4, .int (nI k))] 5 [] := by
    intro M
    induction M with
    | zero => intro k c ct1 g1 _ _ _ _ _ _ _ hM; exact absurd hM (Nat.not_lt_zero _)
    | succ M ih =>
      intro k c ct1 g1 hk hc he hout hb1 hr hct hM
      refine g_iload fx 3 dX12_twice_5 rfl ?_
      refine g_bipush (v := nI 40) fx dX12_twice_7 (by decide +kernel) ?_
      refine g_icmp_ge fx 47 dX12_twice_9 (by decide) (fun c9 => ?_) (fun c9 => ?_)
      · skip
        have hk40 : k = 40 := by have := (nI_leI (by omega) (by omega)).mp c9; omega
        rw [hk40] at he hout hb1
        have hc0 : c = 0 := c_zero (x := bval 16777216 (sh g1 a) 40) (p := 16777216 ^ 40) (by rw [he]; exact ho)
        rw [hc0, Nat.zero_mul, Nat.add_zero] at he
        refine g_vret fx rt dX12_twice_47 ?_
        exact gPv.mk ⟨g1, hct, fun j hj => hout j hj, hb1, he⟩
      · skip
        have hlt2 : k < 40 := by have := (nI_ltI (by omega) (by omega)).mp (Int32.not_le.mp c9); omega
        have hgk : g1 (a + k) = sh g a k := hout (a + k) (by omega)
        have hq1 : g1 (a + k) < 16777216 := by rw [hgk]; exact hok k hlt2
        have hstep : bval 16777216 (sh (va_up g1 (a + k) ((g1 (a + k) * 2 + c) % 16777216)) a) (k + 1) + (g1 (a + k) * 2 + c) / 16777216 * 16777216 ^ (k + 1) = bval 16777216 (sh g a) (k + 1) * 2 + e := by
          rw [sh_up]
          show bval 16777216 (va_up (sh g1 a) k ((g1 (a + k) * 2 + c) % 16777216)) k + va_up (sh g1 a) k ((g1 (a + k) * 2 + c) % 16777216) k * 16777216 ^ k + (g1 (a + k) * 2 + c) / 16777216 * 16777216 ^ (k + 1) = (bval 16777216 (sh g a) k + sh g a k * 16777216 ^ k) * 2 + e
          rw [bval_up_ge (Nat.le_refl k), va_up_self, Nat.pow_succ, ← hgk]
          have h1 := Nat.div_add_mod (g1 (a + k) * 2 + c) 16777216
          generalize (g1 (a + k) * 2 + c) / 16777216 = q at h1 ⊢
          generalize (g1 (a + k) * 2 + c) % 16777216 = z at h1 ⊢
          have h2 : (16777216 * q + z) * 16777216 ^ k = (g1 (a + k) * 2 + c) * 16777216 ^ k := by rw [h1]
          generalize 16777216 ^ k = p at h2 he ⊢
          grind
        refine g_aload_n fx 0 dX12_twice_12 rfl ?_
        refine g_iload_n fx 1 dX12_twice_13 rfl ?_
        refine g_iload fx 3 dX12_twice_14 rfl ?_
        refine g_iaddN fx dX12_twice_16 ?_
        refine g_iald (r := r) (j := (a + k)) fx (by omega) hr (nI_toInt (by omega)) (by omega) dX12_twice_17 ?_
        refine g_isi (y := nI (g1 (a + k))) rfl ?_
        refine g_iconst (v := nI 2) fx dX12_twice_18 (by decide +kernel) ?_
        refine g_imulN fx dX12_twice_19 ?_
        refine g_iload_n fx 2 dX12_twice_20 rfl ?_
        refine g_iaddN fx dX12_twice_21 ?_
        refine g_istore (L' := [(5, .int (nI (((g1 (a + k)) * 2) + c))), (0, .ref (ad r)), (1, .int (nI a)), (3, .int (nI c)), (4, .int (nI k))]) fx dX12_twice_22 (by decide) rfl ?_
        refine g_aload_n fx 1 dX12_twice_24 rfl ?_
        refine g_iload_n fx 2 dX12_twice_25 rfl ?_
        refine g_iload fx 4 dX12_twice_26 rfl ?_
        refine g_iaddN fx dX12_twice_28 ?_
        refine g_iload fx 0 dX12_twice_29 rfl ?_
        refine g_ldc fx kcX12_123 dX12_twice_31 ?_
        refine g_iand fx dX12_twice_33 ?_
        refine g_isi (y := nI ((g1 (a + k) * 2 + c) % 16777216)) (i_mask (by omega)) ?_
        refine g_iast (r := r) (j := (a + k)) fx (by omega) hr (nI_toInt (by omega)) (by omega) dX12_twice_34 (fun cu1 ecu1 => ?_)
        have hct : cu1 = va_up ct r (.inl (B.2.1 0, N, .inl (nF (va_up g1 (a + k) ((g1 (a + k) * 2 + c) % 16777216))))) := up2n hct ecu1
        have hr : cu1 r = .inl (B.2.1 0, N, .inl (nF (va_up g1 (a + k) ((g1 (a + k) * 2 + c) % 16777216)))) := by rw [ecu1, va_up_self, nF_up]
        refine g_iload fx 0 dX12_twice_35 rfl ?_
        refine g_bipush (v := nI 24) fx dX12_twice_37 (by decide +kernel) ?_
        refine g_ishr fx dX12_twice_39 ?_
        refine g_isi (y := nI ((g1 (a + k) * 2 + c) / 16777216)) (i_shr (by omega)) ?_
        refine g_istore_n (L' := [(3, .int (nI ((g1 (a + k) * 2 + c) / 16777216))), (5, .int (nI (((g1 (a + k)) * 2) + c))), (0, .ref (ad r)), (1, .int (nI a)), (4, .int (nI k))]) fx dX12_twice_40 (by decide) rfl ?_
        refine g_iinc (L' := [(4, .int (nI (k + 1))), (3, .int (nI ((g1 (a + k) * 2 + c) / 16777216))), (5, .int (nI (((g1 (a + k)) * 2) + c))), (0, .ref (ad r)), (1, .int (nI a))]) fx (nI (k + 1)) 4 dX12_twice_41 rfl (gInc _) (by decide) rfl ?_
        refine g_goto fx 5 dX12_twice_44 (by decide) ?_
        refine g_locals (L' := [(0, .ref (ad r)), (1, .int (nI a)), (3, .int (nI ((g1 (a + k) * 2 + c) / 16777216))), (4, .int (nI (k + 1)))]) [3, 4, 1, 0] rfl ?_
        exact ih (k + 1) ((g1 (a + k) * 2 + c) / 16777216) _ (va_up g1 (a + k) ((g1 (a + k) * 2 + c) % 16777216)) hlt2 (by omega) hstep (fun j hj => by rw [va_up_ne _ _ (by omega)]; exact hout j (by omega)) (fun j hj => by unfold va_up; split; omega; exact hb1 j (by omega)) hr hct (by omega)
  refine g_locals (L' := [(0, .ref (ad r)), (1, .int (nI a)), (3, .int (nI e)), (4, .int (nI 0))]) [2, 3, 1, 0] rfl ?_
  exact LP5 41 0 e ct g (by omega) he1 (by simp [bval]) (fun _ _ => rfl) (fun j hj => absurd hj (by omega)) hr hct (by omega)
