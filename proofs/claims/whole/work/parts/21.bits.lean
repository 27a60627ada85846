/-! how many bits a number has -/
def nbits (v : Nat) : Nat := if v = 0 then 0 else Nat.log2 v + 1
theorem nbits_0 : nbits 0 = 0 := rfl
theorem nbits_of {v m : Nat} (h1 : 2 ^ m ≤ v) (h2 : v < 2 ^ (m + 1)) : nbits v = m + 1 := by
  have h0 : v ≠ 0 := by have := Nat.pow_pos (n := m) (a := 2) (by decide); omega
  unfold nbits
  rw [if_neg h0, (Nat.log2_eq_iff h0).mpr ⟨h1, h2⟩]
theorem nbits_spec {v : Nat} (h : v ≠ 0) : ∃ m, nbits v = m + 1 ∧ 2 ^ m ≤ v ∧ v < 2 ^ (m + 1) := by
  refine ⟨Nat.log2 v, by unfold nbits; rw [if_neg h], ?_⟩
  exact (Nat.log2_eq_iff h).mp rfl
theorem nbits_app {low d s : Nat} (hl : low < 2 ^ s) (hd : d ≠ 0) : nbits (low + d * 2 ^ s) = s + nbits d := by
  obtain ⟨m, e, h1, h2⟩ := nbits_spec hd
  rw [e, show s + (m + 1) = (s + m) + 1 by omega]
  have h3 : 2 ^ m * 2 ^ s ≤ d * 2 ^ s := Nat.mul_le_mul_right _ h1
  have h4 : (d + 1) * 2 ^ s ≤ 2 ^ (m + 1) * 2 ^ s := Nat.mul_le_mul_right _ h2
  rw [← Nat.pow_add] at h3 h4
  rw [Nat.add_mul] at h4
  refine nbits_of ?_ ?_
  · rw [Nat.add_comm s m]; omega
  · rw [show s + m + 1 = m + 1 + s by omega]; omega
theorem nbits_div {x s : Nat} (h : 2 ^ s ≤ x) : nbits x = s + nbits (x / 2 ^ s) := by
  have hp := Nat.pow_pos (n := s) (a := 2) (by decide)
  have h0 : x / 2 ^ s ≠ 0 := by have := (Nat.le_div_iff_mul_le hp).mpr (show 1 * 2 ^ s ≤ x by omega); omega
  have e := nbits_app (low := x % 2 ^ s) (d := x / 2 ^ s) (s := s) (Nat.mod_lt _ hp) h0
  rw [← e]; congr 1
  have := Nat.div_add_mod x (2 ^ s)
  rw [Nat.mul_comm] at this; omega
theorem nbits_le {v m : Nat} (h : v < 2 ^ m) : nbits v ≤ m := by
  by_cases h0 : v = 0
  · rw [h0, nbits_0]; omega
  · obtain ⟨k, e, h1, h2⟩ := nbits_spec h0
    rw [e]
    rcases Nat.lt_or_ge k m with q | q
    · exact q
    · have := Nat.pow_le_pow_right (n := 2) (by decide) q; omega
theorem nbits_gt {v q : Nat} (h : v / 2 ^ q ≠ 0) : q + 1 ≤ nbits v := by
  have hp := Nat.pow_pos (n := q) (a := 2) (by decide)
  have h1 : 2 ^ q ≤ v := by
    rcases Nat.lt_or_ge v (2 ^ q) with z | z
    · exact absurd (Nat.div_eq_of_lt z) h
    · exact z
  have := nbits_div h1
  have h2 : nbits (v / 2 ^ q) ≠ 0 := by obtain ⟨m, e, -⟩ := nbits_spec h; omega
  omega
theorem nbits4 {y : Nat} (h0 : 0 < y) (h : y < 4) : nbits y = 1 + y / 2 := by
  rcases (show y = 1 ∨ y = 2 ∨ y = 3 by omega) with rfl | rfl | rfl <;> decide +kernel
theorem i_shrk {x q : Nat} (hx : x < 2 ^ 31) (hq : q < 32) : nI x >>> (nI q &&& 31) = nI (x / 2 ^ q) := pk_shrN hx _ q ((show ∀ n, n < 32 → ((nI n &&& 31).toBitVec.smod 32).toNat = n by decide +kernel) q hq)
theorem i_ushrk {x q : Nat} (hx : x < 2 ^ 32) (hq : q < 32) : ((nI x).toUInt32 >>> ((nI q).toUInt32 &&& Int32.toUInt32 31)).toInt32 = nI (x / 2 ^ q) := pk_ushrN hx _ q ((show ∀ n, n < 32 → (((nI n).toUInt32 &&& Int32.toUInt32 31).toBitVec % 32).toNat = n by decide +kernel) q hq)
theorem i_and1 {x : Nat} (hx : x < 2 ^ 32) : nI x &&& nI 1 = nI (x % 2) := pk_andN hx 1 (by decide)
theorem mul_m1 {c k : Nat} (h : 0 < k) : nI c * (nI k - nI 1) = nI (c * (k - 1)) := by
  obtain ⟨j, rfl⟩ : ∃ j, k = j + 1 := ⟨k - 1, by omega⟩
  rw [show nI (j + 1) - nI 1 = nI j from nI_pred j, pk_mul, Nat.add_sub_cancel]
theorem bval_digit {b : Nat} {f : Nat → Nat} {n k : Nat} (hb : 0 < b) (hk : k < n) (h : ∀ i, i < n → f i < b) : bval b f n / b ^ k % b = f k := by
  obtain ⟨m, rfl⟩ : ∃ m, n = k + (m + 1) := ⟨n - k - 1, by omega⟩
  have hp : 0 < b ^ k := Nat.pow_pos hb
  rw [bval_split, Nat.add_mul_div_left _ _ hp, Nat.div_eq_of_lt (bval_lt k (fun i hi => h i (by omega))), Nat.zero_add, bval_head, Nat.add_mul_mod_self_left, Nat.mod_eq_of_lt (h (k + 0) (by omega))]
  rfl
theorem div_bits {x m s t : Nat} (h : s + t ≤ m) : (x % 2 ^ m) / 2 ^ s % 2 ^ t = x / 2 ^ s % 2 ^ t := by
  have e : 2 ^ m = 2 ^ s * (2 ^ t * 2 ^ (m - s - t)) := by rw [← Nat.pow_add, ← Nat.pow_add]; congr 1; omega
  rw [e, Nat.mod_mul_right_div_self, Nat.mod_mul_right_mod]
theorem nlz_pos {x : Nat} (hx : x < 4294967296) (h : 0 < nI x) : 0 < x ∧ x < 2 ^ 31 := by
  have h1 := Int32.lt_iff_toInt_lt.mp h
  have e : (nI x).toInt = if x < 2147483648 then (x : Int) else (x : Int) - 4294967296 := by
    show (BitVec.ofNat 32 x).toInt = _
    rw [BitVec.toInt_eq_toNat_cond, BitVec.toNat_ofNat, Nat.mod_eq_of_lt hx]
    split <;> split <;> omega
  have e0 : (0 : Int32).toInt = 0 := by decide
  rw [e, e0] at h1
  split at h1 <;> omega
theorem nlz_neg {x : Nat} (hx : x < 4294967296) (h : ¬ 0 < nI x) : x = 0 ∨ 2 ^ 31 ≤ x := by
  rcases Nat.eq_zero_or_pos x with q | q
  · exact Or.inl q
  · rcases Nat.lt_or_ge x (2 ^ 31) with z | z
    · exact absurd ((nI_ltI (a := 0) (by decide) z).mpr q) h
    · exact Or.inr z
theorem nlz_z {x : Nat} (hx : x < 4294967296) (h : nI x = 0) : x = 0 := by
  have h1 : (nI x).toBitVec.toNat = (0 : Int32).toBitVec.toNat := by rw [h]
  rw [pk_tn (by omega)] at h1
  exact h1
set_option maxHeartbeats 4000000 in
set_option maxRecDepth 100000 in
theorem c_J6_numberOfLeadingZeros_0f7a4 (B : gB) (ad : Nat → Nat) (ct : Nat → va_E) (n : Nat) (x : Nat) (hx : x < 4294967296) : Ctr B yJ6_numberOfLeadingZeros_0f7a4 cJ6_numberOfLeadingZeros_0f7a4 2 (some .int) 0 0 0 0 ad ct n [.int (nI x)] (gPip ad ct n (fun r => r = nI (32 - nbits x))) := by
  refine Ctr.ofG (L := [(0, .int (nI x))]) (by decide +kernel) rfl (Nat.le_of_ble_eq_true rfl) (fun E fx rt hnm => ?_)
  refine g_iload_n fx 0 dJ6_numberOfLeadingZeros_0f7a4_0 rfl ?_
  refine g_if_gt fx 15 dJ6_numberOfLeadingZeros_0f7a4_1 (by decide) (fun c1 => ?_) (fun c1 => ?_)
  · skip
    have hlo : 0 < x ∧ x < 2 ^ 31 := nlz_pos hx c1
    obtain ⟨hlo, hx31⟩ := hlo
    refine g_bipush (v := nI 31) fx dJ6_numberOfLeadingZeros_0f7a4_15 (by decide +kernel) ?_
    refine g_istore_n (L' := [(1, .int (nI 31)), (0, .int (nI x))]) fx dJ6_numberOfLeadingZeros_0f7a4_17 (by decide) rfl ?_
    refine g_iload_n fx 1 dJ6_numberOfLeadingZeros_0f7a4_18 rfl ?_
    refine g_ldcw fx kcJ6_264 dJ6_numberOfLeadingZeros_0f7a4_19 ?_
    refine g_icmp_lt fx 33 dJ6_numberOfLeadingZeros_0f7a4_22 (by decide) (fun c22 => ?_) (fun c22 => ?_)
    · skip
      have hhi : x < 65536 := (nI_ltI (by omega) (by decide)).mp c22
      refine g_iload_n fx 1 dJ6_numberOfLeadingZeros_0f7a4_33 rfl ?_
      refine g_sipush (v := nI 256) fx dJ6_numberOfLeadingZeros_0f7a4_34 (by decide +kernel) ?_
      refine g_icmp_lt fx 48 dJ6_numberOfLeadingZeros_0f7a4_37 (by decide) (fun c37 => ?_) (fun c37 => ?_)
      · skip
        have hhi : x < 256 := (nI_ltI (by omega) (by decide)).mp (show nI x < nI 256 from c37)
        refine g_iload_n fx 1 dJ6_numberOfLeadingZeros_0f7a4_48 rfl ?_
        refine g_bipush (v := nI 16) fx dJ6_numberOfLeadingZeros_0f7a4_49 (by decide +kernel) ?_
        refine g_icmp_lt fx 61 dJ6_numberOfLeadingZeros_0f7a4_51 (by decide) (fun c51 => ?_) (fun c51 => ?_)
        · skip
          have hhi : x < 16 := (nI_ltI (by omega) (by decide)).mp (show nI x < nI 16 from c51)
          refine g_iload_n fx 1 dJ6_numberOfLeadingZeros_0f7a4_61 rfl ?_
          refine g_iconst (v := nI 4) fx dJ6_numberOfLeadingZeros_0f7a4_62 (by decide +kernel) ?_
          refine g_icmp_lt fx 73 dJ6_numberOfLeadingZeros_0f7a4_63 (by decide) (fun c63 => ?_) (fun c63 => ?_)
          · skip
            have hhi : x < 4 := (nI_ltI (by omega) (by decide)).mp (show nI x < nI 4 from c63)
            refine g_iload_n fx 0 dJ6_numberOfLeadingZeros_0f7a4_73 rfl ?_
            refine g_iload_n fx 1 dJ6_numberOfLeadingZeros_0f7a4_74 rfl ?_
            refine g_iconst (v := nI 1) fx dJ6_numberOfLeadingZeros_0f7a4_75 (by decide +kernel) ?_
            refine g_iushr fx dJ6_numberOfLeadingZeros_0f7a4_76 ?_
            refine g_isi (y := nI (x / 2 ^ 1)) (i_ushrk (by omega) (by decide)) ?_
            refine g_isub fx dJ6_numberOfLeadingZeros_0f7a4_77 ?_
            refine g_iret fx rt dJ6_numberOfLeadingZeros_0f7a4_78 ?_
            refine gPip.mk ?_
            have h4 := nbits4 hlo hhi
            rw [pk_sub (by omega)]
            congr 1
            omega
          · skip
            have hge : 4 ≤ x := by have := (show ¬ nI x < nI 4 from c63); have := fun q => this ((nI_ltI (by omega) (by decide)).mpr q); exact Nat.le_of_not_lt this
            have hD2 := nbits_div (s := 2) (x := x) hge
            have hhi : x / 2 ^ 2 < 4 := by omega
            have hlo : 0 < x / 2 ^ 2 := by omega
            refine g_iinc (L' := [(1, .int (nI 29)), (0, .int (nI x))]) fx (nI 29) 0 dJ6_numberOfLeadingZeros_0f7a4_66 rfl (by decide) (by decide) rfl ?_
            refine g_iload_n fx 1 dJ6_numberOfLeadingZeros_0f7a4_69 rfl ?_
            refine g_iconst (v := nI 2) fx dJ6_numberOfLeadingZeros_0f7a4_70 (by decide +kernel) ?_
            refine g_iushr fx dJ6_numberOfLeadingZeros_0f7a4_71 ?_
            refine g_isi (y := nI (x / 2 ^ 2)) (i_ushrk (by omega) (by decide)) ?_
            refine g_istore_n (L' := [(0, .int (nI (x / 2 ^ 2))), (1, .int (nI 29))]) fx dJ6_numberOfLeadingZeros_0f7a4_72 (by decide) rfl ?_
            refine g_iload_n fx 1 dJ6_numberOfLeadingZeros_0f7a4_73 rfl ?_
            refine g_iload_n fx 0 dJ6_numberOfLeadingZeros_0f7a4_74 rfl ?_
            refine g_iconst (v := nI 1) fx dJ6_numberOfLeadingZeros_0f7a4_75 (by decide +kernel) ?_
            refine g_iushr fx dJ6_numberOfLeadingZeros_0f7a4_76 ?_
            refine g_isi (y := nI ((x / 2 ^ 2) / 2 ^ 1)) (i_ushrk (by omega) (by decide)) ?_
            refine g_isub fx dJ6_numberOfLeadingZeros_0f7a4_77 ?_
            refine g_iret fx rt dJ6_numberOfLeadingZeros_0f7a4_78 ?_
            refine gPip.mk ?_
            have h4 := nbits4 hlo hhi
            rw [pk_sub (by omega)]
            congr 1
            omega
        · skip
          have hge : 16 ≤ x := by have := (show ¬ nI x < nI 16 from c51); have := fun q => this ((nI_ltI (by omega) (by decide)).mpr q); exact Nat.le_of_not_lt this
          have hD4 := nbits_div (s := 4) (x := x) hge
          have hhi : x / 2 ^ 4 < 16 := by omega
          have hlo : 0 < x / 2 ^ 4 := by omega
          refine g_iinc (L' := [(1, .int (nI 27)), (0, .int (nI x))]) fx (nI 27) 0 dJ6_numberOfLeadingZeros_0f7a4_54 rfl (by decide) (by decide) rfl ?_
          refine g_iload_n fx 1 dJ6_numberOfLeadingZeros_0f7a4_57 rfl ?_
          refine g_iconst (v := nI 4) fx dJ6_numberOfLeadingZeros_0f7a4_58 (by decide +kernel) ?_
          refine g_iushr fx dJ6_numberOfLeadingZeros_0f7a4_59 ?_
          refine g_isi (y := nI (x / 2 ^ 4)) (i_ushrk (by omega) (by decide)) ?_
          refine g_istore_n (L' := [(0, .int (nI (x / 2 ^ 4))), (1, .int (nI 27))]) fx dJ6_numberOfLeadingZeros_0f7a4_60 (by decide) rfl ?_
          refine g_iload_n fx 0 dJ6_numberOfLeadingZeros_0f7a4_61 rfl ?_
          refine g_iconst (v := nI 4) fx dJ6_numberOfLeadingZeros_0f7a4_62 (by decide +kernel) ?_
          refine g_icmp_lt fx 73 dJ6_numberOfLeadingZeros_0f7a4_63 (by decide) (fun c63 => ?_) (fun c63 => ?_)
          · skip
            have hhi : (x / 2 ^ 4) < 4 := (nI_ltI (by omega) (by decide)).mp (show nI (x / 2 ^ 4) < nI 4 from c63)
            refine g_iload_n fx 1 dJ6_numberOfLeadingZeros_0f7a4_73 rfl ?_
            refine g_iload_n fx 0 dJ6_numberOfLeadingZeros_0f7a4_74 rfl ?_
            refine g_iconst (v := nI 1) fx dJ6_numberOfLeadingZeros_0f7a4_75 (by decide +kernel) ?_
            refine g_iushr fx dJ6_numberOfLeadingZeros_0f7a4_76 ?_
            refine g_isi (y := nI ((x / 2 ^ 4) / 2 ^ 1)) (i_ushrk (by omega) (by decide)) ?_
            refine g_isub fx dJ6_numberOfLeadingZeros_0f7a4_77 ?_
            refine g_iret fx rt dJ6_numberOfLeadingZeros_0f7a4_78 ?_
            refine gPip.mk ?_
            have h4 := nbits4 hlo hhi
            rw [pk_sub (by omega)]
            congr 1
            omega
          · skip
            have hge : 4 ≤ (x / 2 ^ 4) := by have := (show ¬ nI (x / 2 ^ 4) < nI 4 from c63); have := fun q => this ((nI_ltI (by omega) (by decide)).mpr q); exact Nat.le_of_not_lt this
            have hD2 := nbits_div (s := 2) (x := (x / 2 ^ 4)) hge
            have hhi : (x / 2 ^ 4) / 2 ^ 2 < 4 := by omega
            have hlo : 0 < (x / 2 ^ 4) / 2 ^ 2 := by omega
            refine g_iinc (L' := [(1, .int (nI 25)), (0, .int (nI (x / 2 ^ 4)))]) fx (nI 25) 1 dJ6_numberOfLeadingZeros_0f7a4_66 rfl (by decide) (by decide) rfl ?_
            refine g_iload_n fx 1 dJ6_numberOfLeadingZeros_0f7a4_69 rfl ?_
            refine g_iconst (v := nI 2) fx dJ6_numberOfLeadingZeros_0f7a4_70 (by decide +kernel) ?_
            refine g_iushr fx dJ6_numberOfLeadingZeros_0f7a4_71 ?_
            refine g_isi (y := nI ((x / 2 ^ 4) / 2 ^ 2)) (i_ushrk (by omega) (by decide)) ?_
            refine g_istore_n (L' := [(0, .int (nI ((x / 2 ^ 4) / 2 ^ 2))), (1, .int (nI 25))]) fx dJ6_numberOfLeadingZeros_0f7a4_72 (by decide) rfl ?_
            refine g_iload_n fx 1 dJ6_numberOfLeadingZeros_0f7a4_73 rfl ?_
            refine g_iload_n fx 0 dJ6_numberOfLeadingZeros_0f7a4_74 rfl ?_
            refine g_iconst (v := nI 1) fx dJ6_numberOfLeadingZeros_0f7a4_75 (by decide +kernel) ?_
            refine g_iushr fx dJ6_numberOfLeadingZeros_0f7a4_76 ?_
            refine g_isi (y := nI (((x / 2 ^ 4) / 2 ^ 2) / 2 ^ 1)) (i_ushrk (by omega) (by decide)) ?_
            refine g_isub fx dJ6_numberOfLeadingZeros_0f7a4_77 ?_
            refine g_iret fx rt dJ6_numberOfLeadingZeros_0f7a4_78 ?_
            refine gPip.mk ?_
            have h4 := nbits4 hlo hhi
            rw [pk_sub (by omega)]
            congr 1
            omega
      · skip
        have hge : 256 ≤ x := by have := (show ¬ nI x < nI 256 from c37); have := fun q => this ((nI_ltI (by omega) (by decide)).mpr q); exact Nat.le_of_not_lt this
        have hD8 := nbits_div (s := 8) (x := x) hge
        have hhi : x / 2 ^ 8 < 256 := by omega
        have hlo : 0 < x / 2 ^ 8 := by omega
        refine g_iinc (L' := [(1, .int (nI 23)), (0, .int (nI x))]) fx (nI 23) 0 dJ6_numberOfLeadingZeros_0f7a4_40 rfl (by decide) (by decide) rfl ?_
        refine g_iload_n fx 1 dJ6_numberOfLeadingZeros_0f7a4_43 rfl ?_
        refine g_bipush (v := nI 8) fx dJ6_numberOfLeadingZeros_0f7a4_44 (by decide +kernel) ?_
        refine g_iushr fx dJ6_numberOfLeadingZeros_0f7a4_46 ?_
        refine g_isi (y := nI (x / 2 ^ 8)) (i_ushrk (by omega) (by decide)) ?_
        refine g_istore_n (L' := [(0, .int (nI (x / 2 ^ 8))), (1, .int (nI 23))]) fx dJ6_numberOfLeadingZeros_0f7a4_47 (by decide) rfl ?_
        refine g_iload_n fx 0 dJ6_numberOfLeadingZeros_0f7a4_48 rfl ?_
        refine g_bipush (v := nI 16) fx dJ6_numberOfLeadingZeros_0f7a4_49 (by decide +kernel) ?_
        refine g_icmp_lt fx 61 dJ6_numberOfLeadingZeros_0f7a4_51 (by decide) (fun c51 => ?_) (fun c51 => ?_)
        · skip
          have hhi : (x / 2 ^ 8) < 16 := (nI_ltI (by omega) (by decide)).mp (show nI (x / 2 ^ 8) < nI 16 from c51)
          refine g_iload_n fx 0 dJ6_numberOfLeadingZeros_0f7a4_61 rfl ?_
          refine g_iconst (v := nI 4) fx dJ6_numberOfLeadingZeros_0f7a4_62 (by decide +kernel) ?_
          refine g_icmp_lt fx 73 dJ6_numberOfLeadingZeros_0f7a4_63 (by decide) (fun c63 => ?_) (fun c63 => ?_)
          · skip
            have hhi : (x / 2 ^ 8) < 4 := (nI_ltI (by omega) (by decide)).mp (show nI (x / 2 ^ 8) < nI 4 from c63)
            refine g_iload_n fx 1 dJ6_numberOfLeadingZeros_0f7a4_73 rfl ?_
            refine g_iload_n fx 0 dJ6_numberOfLeadingZeros_0f7a4_74 rfl ?_
            refine g_iconst (v := nI 1) fx dJ6_numberOfLeadingZeros_0f7a4_75 (by decide +kernel) ?_
            refine g_iushr fx dJ6_numberOfLeadingZeros_0f7a4_76 ?_
            refine g_isi (y := nI ((x / 2 ^ 8) / 2 ^ 1)) (i_ushrk (by omega) (by decide)) ?_
            refine g_isub fx dJ6_numberOfLeadingZeros_0f7a4_77 ?_
            refine g_iret fx rt dJ6_numberOfLeadingZeros_0f7a4_78 ?_
            refine gPip.mk ?_
            have h4 := nbits4 hlo hhi
            rw [pk_sub (by omega)]
            congr 1
            omega
          · skip
            have hge : 4 ≤ (x / 2 ^ 8) := by have := (show ¬ nI (x / 2 ^ 8) < nI 4 from c63); have := fun q => this ((nI_ltI (by omega) (by decide)).mpr q); exact Nat.le_of_not_lt this
            have hD2 := nbits_div (s := 2) (x := (x / 2 ^ 8)) hge
            have hhi : (x / 2 ^ 8) / 2 ^ 2 < 4 := by omega
            have hlo : 0 < (x / 2 ^ 8) / 2 ^ 2 := by omega
            refine g_iinc (L' := [(1, .int (nI 21)), (0, .int (nI (x / 2 ^ 8)))]) fx (nI 21) 1 dJ6_numberOfLeadingZeros_0f7a4_66 rfl (by decide) (by decide) rfl ?_
            refine g_iload_n fx 1 dJ6_numberOfLeadingZeros_0f7a4_69 rfl ?_
            refine g_iconst (v := nI 2) fx dJ6_numberOfLeadingZeros_0f7a4_70 (by decide +kernel) ?_
            refine g_iushr fx dJ6_numberOfLeadingZeros_0f7a4_71 ?_
            refine g_isi (y := nI ((x / 2 ^ 8) / 2 ^ 2)) (i_ushrk (by omega) (by decide)) ?_
            refine g_istore_n (L' := [(0, .int (nI ((x / 2 ^ 8) / 2 ^ 2))), (1, .int (nI 21))]) fx dJ6_numberOfLeadingZeros_0f7a4_72 (by decide) rfl ?_
            refine g_iload_n fx 1 dJ6_numberOfLeadingZeros_0f7a4_73 rfl ?_
            refine g_iload_n fx 0 dJ6_numberOfLeadingZeros_0f7a4_74 rfl ?_
            refine g_iconst (v := nI 1) fx dJ6_numberOfLeadingZeros_0f7a4_75 (by decide +kernel) ?_
            refine g_iushr fx dJ6_numberOfLeadingZeros_0f7a4_76 ?_
            refine g_isi (y := nI (((x / 2 ^ 8) / 2 ^ 2) / 2 ^ 1)) (i_ushrk (by omega) (by decide)) ?_
            refine g_isub fx dJ6_numberOfLeadingZeros_0f7a4_77 ?_
            refine g_iret fx rt dJ6_numberOfLeadingZeros_0f7a4_78 ?_
            refine gPip.mk ?_
            have h4 := nbits4 hlo hhi
            rw [pk_sub (by omega)]
            congr 1
            omega
        · skip
          have hge : 16 ≤ (x / 2 ^ 8) := by have := (show ¬ nI (x / 2 ^ 8) < nI 16 from c51); have := fun q => this ((nI_ltI (by omega) (by decide)).mpr q); exact Nat.le_of_not_lt this
          have hD4 := nbits_div (s := 4) (x := (x / 2 ^ 8)) hge
          have hhi : (x / 2 ^ 8) / 2 ^ 4 < 16 := by omega
          have hlo : 0 < (x / 2 ^ 8) / 2 ^ 4 := by omega
          refine g_iinc (L' := [(1, .int (nI 19)), (0, .int (nI (x / 2 ^ 8)))]) fx (nI 19) 1 dJ6_numberOfLeadingZeros_0f7a4_54 rfl (by decide) (by decide) rfl ?_
          refine g_iload_n fx 1 dJ6_numberOfLeadingZeros_0f7a4_57 rfl ?_
          refine g_iconst (v := nI 4) fx dJ6_numberOfLeadingZeros_0f7a4_58 (by decide +kernel) ?_
          refine g_iushr fx dJ6_numberOfLeadingZeros_0f7a4_59 ?_
          refine g_isi (y := nI ((x / 2 ^ 8) / 2 ^ 4)) (i_ushrk (by omega) (by decide)) ?_
          refine g_istore_n (L' := [(0, .int (nI ((x / 2 ^ 8) / 2 ^ 4))), (1, .int (nI 19))]) fx dJ6_numberOfLeadingZeros_0f7a4_60 (by decide) rfl ?_
          refine g_iload_n fx 0 dJ6_numberOfLeadingZeros_0f7a4_61 rfl ?_
          refine g_iconst (v := nI 4) fx dJ6_numberOfLeadingZeros_0f7a4_62 (by decide +kernel) ?_
          refine g_icmp_lt fx 73 dJ6_numberOfLeadingZeros_0f7a4_63 (by decide) (fun c63 => ?_) (fun c63 => ?_)
          · skip
            have hhi : ((x / 2 ^ 8) / 2 ^ 4) < 4 := (nI_ltI (by omega) (by decide)).mp (show nI ((x / 2 ^ 8) / 2 ^ 4) < nI 4 from c63)
            refine g_iload_n fx 1 dJ6_numberOfLeadingZeros_0f7a4_73 rfl ?_
            refine g_iload_n fx 0 dJ6_numberOfLeadingZeros_0f7a4_74 rfl ?_
            refine g_iconst (v := nI 1) fx dJ6_numberOfLeadingZeros_0f7a4_75 (by decide +kernel) ?_
            refine g_iushr fx dJ6_numberOfLeadingZeros_0f7a4_76 ?_
            refine g_isi (y := nI (((x / 2 ^ 8) / 2 ^ 4) / 2 ^ 1)) (i_ushrk (by omega) (by decide)) ?_
            refine g_isub fx dJ6_numberOfLeadingZeros_0f7a4_77 ?_
            refine g_iret fx rt dJ6_numberOfLeadingZeros_0f7a4_78 ?_
            refine gPip.mk ?_
            have h4 := nbits4 hlo hhi
            rw [pk_sub (by omega)]
            congr 1
            omega
          · skip
            have hge : 4 ≤ ((x / 2 ^ 8) / 2 ^ 4) := by have := (show ¬ nI ((x / 2 ^ 8) / 2 ^ 4) < nI 4 from c63); have := fun q => this ((nI_ltI (by omega) (by decide)).mpr q); exact Nat.le_of_not_lt this
            have hD2 := nbits_div (s := 2) (x := ((x / 2 ^ 8) / 2 ^ 4)) hge
            have hhi : ((x / 2 ^ 8) / 2 ^ 4) / 2 ^ 2 < 4 := by omega
            have hlo : 0 < ((x / 2 ^ 8) / 2 ^ 4) / 2 ^ 2 := by omega
            refine g_iinc (L' := [(1, .int (nI 17)), (0, .int (nI ((x / 2 ^ 8) / 2 ^ 4)))]) fx (nI 17) 1 dJ6_numberOfLeadingZeros_0f7a4_66 rfl (by decide) (by decide) rfl ?_
            refine g_iload_n fx 1 dJ6_numberOfLeadingZeros_0f7a4_69 rfl ?_
            refine g_iconst (v := nI 2) fx dJ6_numberOfLeadingZeros_0f7a4_70 (by decide +kernel) ?_
            refine g_iushr fx dJ6_numberOfLeadingZeros_0f7a4_71 ?_
            refine g_isi (y := nI (((x / 2 ^ 8) / 2 ^ 4) / 2 ^ 2)) (i_ushrk (by omega) (by decide)) ?_
            refine g_istore_n (L' := [(0, .int (nI (((x / 2 ^ 8) / 2 ^ 4) / 2 ^ 2))), (1, .int (nI 17))]) fx dJ6_numberOfLeadingZeros_0f7a4_72 (by decide) rfl ?_
            refine g_iload_n fx 1 dJ6_numberOfLeadingZeros_0f7a4_73 rfl ?_
            refine g_iload_n fx 0 dJ6_numberOfLeadingZeros_0f7a4_74 rfl ?_
            refine g_iconst (v := nI 1) fx dJ6_numberOfLeadingZeros_0f7a4_75 (by decide +kernel) ?_
            refine g_iushr fx dJ6_numberOfLeadingZeros_0f7a4_76 ?_
            refine g_isi (y := nI ((((x / 2 ^ 8) / 2 ^ 4) / 2 ^ 2) / 2 ^ 1)) (i_ushrk (by omega) (by decide)) ?_
            refine g_isub fx dJ6_numberOfLeadingZeros_0f7a4_77 ?_
            refine g_iret fx rt dJ6_numberOfLeadingZeros_0f7a4_78 ?_
            refine gPip.mk ?_
            have h4 := nbits4 hlo hhi
            rw [pk_sub (by omega)]
            congr 1
            omega
    · skip
      have hge : 65536 ≤ x := Nat.le_of_not_lt (fun q => c22 ((nI_ltI (by omega) (by decide)).mpr q))
      have hD16 := nbits_div (s := 16) (x := x) hge
      have hhi : x / 2 ^ 16 < 65536 := by omega
      have hlo : 0 < x / 2 ^ 16 := by omega
      refine g_iinc (L' := [(1, .int (nI 15)), (0, .int (nI x))]) fx (nI 15) 0 dJ6_numberOfLeadingZeros_0f7a4_25 rfl (by decide) (by decide) rfl ?_
      refine g_iload_n fx 1 dJ6_numberOfLeadingZeros_0f7a4_28 rfl ?_
      refine g_bipush (v := nI 16) fx dJ6_numberOfLeadingZeros_0f7a4_29 (by decide +kernel) ?_
      refine g_iushr fx dJ6_numberOfLeadingZeros_0f7a4_31 ?_
      refine g_isi (y := nI (x / 2 ^ 16)) (i_ushrk (by omega) (by decide)) ?_
      refine g_istore_n (L' := [(0, .int (nI (x / 2 ^ 16))), (1, .int (nI 15))]) fx dJ6_numberOfLeadingZeros_0f7a4_32 (by decide) rfl ?_
      refine g_iload_n fx 0 dJ6_numberOfLeadingZeros_0f7a4_33 rfl ?_
      refine g_sipush (v := nI 256) fx dJ6_numberOfLeadingZeros_0f7a4_34 (by decide +kernel) ?_
      refine g_icmp_lt fx 48 dJ6_numberOfLeadingZeros_0f7a4_37 (by decide) (fun c37 => ?_) (fun c37 => ?_)
      · skip
        have hhi : (x / 2 ^ 16) < 256 := (nI_ltI (by omega) (by decide)).mp (show nI (x / 2 ^ 16) < nI 256 from c37)
        refine g_iload_n fx 0 dJ6_numberOfLeadingZeros_0f7a4_48 rfl ?_
        refine g_bipush (v := nI 16) fx dJ6_numberOfLeadingZeros_0f7a4_49 (by decide +kernel) ?_
        refine g_icmp_lt fx 61 dJ6_numberOfLeadingZeros_0f7a4_51 (by decide) (fun c51 => ?_) (fun c51 => ?_)
        · skip
          have hhi : (x / 2 ^ 16) < 16 := (nI_ltI (by omega) (by decide)).mp (show nI (x / 2 ^ 16) < nI 16 from c51)
          refine g_iload_n fx 0 dJ6_numberOfLeadingZeros_0f7a4_61 rfl ?_
          refine g_iconst (v := nI 4) fx dJ6_numberOfLeadingZeros_0f7a4_62 (by decide +kernel) ?_
          refine g_icmp_lt fx 73 dJ6_numberOfLeadingZeros_0f7a4_63 (by decide) (fun c63 => ?_) (fun c63 => ?_)
          · skip
            have hhi : (x / 2 ^ 16) < 4 := (nI_ltI (by omega) (by decide)).mp (show nI (x / 2 ^ 16) < nI 4 from c63)
            refine g_iload_n fx 1 dJ6_numberOfLeadingZeros_0f7a4_73 rfl ?_
            refine g_iload_n fx 0 dJ6_numberOfLeadingZeros_0f7a4_74 rfl ?_
            refine g_iconst (v := nI 1) fx dJ6_numberOfLeadingZeros_0f7a4_75 (by decide +kernel) ?_
            refine g_iushr fx dJ6_numberOfLeadingZeros_0f7a4_76 ?_
            refine g_isi (y := nI ((x / 2 ^ 16) / 2 ^ 1)) (i_ushrk (by omega) (by decide)) ?_
            refine g_isub fx dJ6_numberOfLeadingZeros_0f7a4_77 ?_
            refine g_iret fx rt dJ6_numberOfLeadingZeros_0f7a4_78 ?_
            refine gPip.mk ?_
            have h4 := nbits4 hlo hhi
            rw [pk_sub (by omega)]
            congr 1
            omega
          · skip
            have hge : 4 ≤ (x / 2 ^ 16) := by have := (show ¬ nI (x / 2 ^ 16) < nI 4 from c63); have := fun q => this ((nI_ltI (by omega) (by decide)).mpr q); exact Nat.le_of_not_lt this
            have hD2 := nbits_div (s := 2) (x := (x / 2 ^ 16)) hge
            have hhi : (x / 2 ^ 16) / 2 ^ 2 < 4 := by omega
            have hlo : 0 < (x / 2 ^ 16) / 2 ^ 2 := by omega
            refine g_iinc (L' := [(1, .int (nI 13)), (0, .int (nI (x / 2 ^ 16)))]) fx (nI 13) 1 dJ6_numberOfLeadingZeros_0f7a4_66 rfl (by decide) (by decide) rfl ?_
            refine g_iload_n fx 1 dJ6_numberOfLeadingZeros_0f7a4_69 rfl ?_
            refine g_iconst (v := nI 2) fx dJ6_numberOfLeadingZeros_0f7a4_70 (by decide +kernel) ?_
            refine g_iushr fx dJ6_numberOfLeadingZeros_0f7a4_71 ?_
            refine g_isi (y := nI ((x / 2 ^ 16) / 2 ^ 2)) (i_ushrk (by omega) (by decide)) ?_
            refine g_istore_n (L' := [(0, .int (nI ((x / 2 ^ 16) / 2 ^ 2))), (1, .int (nI 13))]) fx dJ6_numberOfLeadingZeros_0f7a4_72 (by decide) rfl ?_
            refine g_iload_n fx 1 dJ6_numberOfLeadingZeros_0f7a4_73 rfl ?_
            refine g_iload_n fx 0 dJ6_numberOfLeadingZeros_0f7a4_74 rfl ?_
            refine g_iconst (v := nI 1) fx dJ6_numberOfLeadingZeros_0f7a4_75 (by decide +kernel) ?_
            refine g_iushr fx dJ6_numberOfLeadingZeros_0f7a4_76 ?_
            refine g_isi (y := nI (((x / 2 ^ 16) / 2 ^ 2) / 2 ^ 1)) (i_ushrk (by omega) (by decide)) ?_
            refine g_isub fx dJ6_numberOfLeadingZeros_0f7a4_77 ?_
            refine g_iret fx rt dJ6_numberOfLeadingZeros_0f7a4_78 ?_
            refine gPip.mk ?_
            have h4 := nbits4 hlo hhi
            rw [pk_sub (by omega)]
            congr 1
            omega
        · skip
          have hge : 16 ≤ (x / 2 ^ 16) := by have := (show ¬ nI (x / 2 ^ 16) < nI 16 from c51); have := fun q => this ((nI_ltI (by omega) (by decide)).mpr q); exact Nat.le_of_not_lt this
          have hD4 := nbits_div (s := 4) (x := (x / 2 ^ 16)) hge
          have hhi : (x / 2 ^ 16) / 2 ^ 4 < 16 := by omega
          have hlo : 0 < (x / 2 ^ 16) / 2 ^ 4 := by omega
          refine g_iinc (L' := [(1, .int (nI 11)), (0, .int (nI (x / 2 ^ 16)))]) fx (nI 11) 1 dJ6_numberOfLeadingZeros_0f7a4_54 rfl (by decide) (by decide) rfl ?_
          refine g_iload_n fx 1 dJ6_numberOfLeadingZeros_0f7a4_57 rfl ?_
          refine g_iconst (v := nI 4) fx dJ6_numberOfLeadingZeros_0f7a4_58 (by decide +kernel) ?_
          refine g_iushr fx dJ6_numberOfLeadingZeros_0f7a4_59 ?_
          refine g_isi (y := nI ((x / 2 ^ 16) / 2 ^ 4)) (i_ushrk (by omega) (by decide)) ?_
          refine g_istore_n (L' := [(0, .int (nI ((x / 2 ^ 16) / 2 ^ 4))), (1, .int (nI 11))]) fx dJ6_numberOfLeadingZeros_0f7a4_60 (by decide) rfl ?_
          refine g_iload_n fx 0 dJ6_numberOfLeadingZeros_0f7a4_61 rfl ?_
          refine g_iconst (v := nI 4) fx dJ6_numberOfLeadingZeros_0f7a4_62 (by decide +kernel) ?_
          refine g_icmp_lt fx 73 dJ6_numberOfLeadingZeros_0f7a4_63 (by decide) (fun c63 => ?_) (fun c63 => ?_)
          · skip
            have hhi : ((x / 2 ^ 16) / 2 ^ 4) < 4 := (nI_ltI (by omega) (by decide)).mp (show nI ((x / 2 ^ 16) / 2 ^ 4) < nI 4 from c63)
            refine g_iload_n fx 1 dJ6_numberOfLeadingZeros_0f7a4_73 rfl ?_
            refine g_iload_n fx 0 dJ6_numberOfLeadingZeros_0f7a4_74 rfl ?_
            refine g_iconst (v := nI 1) fx dJ6_numberOfLeadingZeros_0f7a4_75 (by decide +kernel) ?_
            refine g_iushr fx dJ6_numberOfLeadingZeros_0f7a4_76 ?_
            refine g_isi (y := nI (((x / 2 ^ 16) / 2 ^ 4) / 2 ^ 1)) (i_ushrk (by omega) (by decide)) ?_
            refine g_isub fx dJ6_numberOfLeadingZeros_0f7a4_77 ?_
            refine g_iret fx rt dJ6_numberOfLeadingZeros_0f7a4_78 ?_
            refine gPip.mk ?_
            have h4 := nbits4 hlo hhi
            rw [pk_sub (by omega)]
            congr 1
            omega
          · skip
            have hge : 4 ≤ ((x / 2 ^ 16) / 2 ^ 4) := by have := (show ¬ nI ((x / 2 ^ 16) / 2 ^ 4) < nI 4 from c63); have := fun q => this ((nI_ltI (by omega) (by decide)).mpr q); exact Nat.le_of_not_lt this
            have hD2 := nbits_div (s := 2) (x := ((x / 2 ^ 16) / 2 ^ 4)) hge
            have hhi : ((x / 2 ^ 16) / 2 ^ 4) / 2 ^ 2 < 4 := by omega
            have hlo : 0 < ((x / 2 ^ 16) / 2 ^ 4) / 2 ^ 2 := by omega
            refine g_iinc (L' := [(1, .int (nI 9)), (0, .int (nI ((x / 2 ^ 16) / 2 ^ 4)))]) fx (nI 9) 1 dJ6_numberOfLeadingZeros_0f7a4_66 rfl (by decide) (by decide) rfl ?_
            refine g_iload_n fx 1 dJ6_numberOfLeadingZeros_0f7a4_69 rfl ?_
            refine g_iconst (v := nI 2) fx dJ6_numberOfLeadingZeros_0f7a4_70 (by decide +kernel) ?_
            refine g_iushr fx dJ6_numberOfLeadingZeros_0f7a4_71 ?_
            refine g_isi (y := nI (((x / 2 ^ 16) / 2 ^ 4) / 2 ^ 2)) (i_ushrk (by omega) (by decide)) ?_
            refine g_istore_n (L' := [(0, .int (nI (((x / 2 ^ 16) / 2 ^ 4) / 2 ^ 2))), (1, .int (nI 9))]) fx dJ6_numberOfLeadingZeros_0f7a4_72 (by decide) rfl ?_
            refine g_iload_n fx 1 dJ6_numberOfLeadingZeros_0f7a4_73 rfl ?_
            refine g_iload_n fx 0 dJ6_numberOfLeadingZeros_0f7a4_74 rfl ?_
            refine g_iconst (v := nI 1) fx dJ6_numberOfLeadingZeros_0f7a4_75 (by decide +kernel) ?_
            refine g_iushr fx dJ6_numberOfLeadingZeros_0f7a4_76 ?_
            refine g_isi (y := nI ((((x / 2 ^ 16) / 2 ^ 4) / 2 ^ 2) / 2 ^ 1)) (i_ushrk (by omega) (by decide)) ?_
            refine g_isub fx dJ6_numberOfLeadingZeros_0f7a4_77 ?_
            refine g_iret fx rt dJ6_numberOfLeadingZeros_0f7a4_78 ?_
            refine gPip.mk ?_
            have h4 := nbits4 hlo hhi
            rw [pk_sub (by omega)]
            congr 1
            omega
      · skip
        have hge : 256 ≤ (x / 2 ^ 16) := by have := (show ¬ nI (x / 2 ^ 16) < nI 256 from c37); have := fun q => this ((nI_ltI (by omega) (by decide)).mpr q); exact Nat.le_of_not_lt this
        have hD8 := nbits_div (s := 8) (x := (x / 2 ^ 16)) hge
        have hhi : (x / 2 ^ 16) / 2 ^ 8 < 256 := by omega
        have hlo : 0 < (x / 2 ^ 16) / 2 ^ 8 := by omega
        refine g_iinc (L' := [(1, .int (nI 7)), (0, .int (nI (x / 2 ^ 16)))]) fx (nI 7) 1 dJ6_numberOfLeadingZeros_0f7a4_40 rfl (by decide) (by decide) rfl ?_
        refine g_iload_n fx 1 dJ6_numberOfLeadingZeros_0f7a4_43 rfl ?_
        refine g_bipush (v := nI 8) fx dJ6_numberOfLeadingZeros_0f7a4_44 (by decide +kernel) ?_
        refine g_iushr fx dJ6_numberOfLeadingZeros_0f7a4_46 ?_
        refine g_isi (y := nI ((x / 2 ^ 16) / 2 ^ 8)) (i_ushrk (by omega) (by decide)) ?_
        refine g_istore_n (L' := [(0, .int (nI ((x / 2 ^ 16) / 2 ^ 8))), (1, .int (nI 7))]) fx dJ6_numberOfLeadingZeros_0f7a4_47 (by decide) rfl ?_
        refine g_iload_n fx 0 dJ6_numberOfLeadingZeros_0f7a4_48 rfl ?_
        refine g_bipush (v := nI 16) fx dJ6_numberOfLeadingZeros_0f7a4_49 (by decide +kernel) ?_
        refine g_icmp_lt fx 61 dJ6_numberOfLeadingZeros_0f7a4_51 (by decide) (fun c51 => ?_) (fun c51 => ?_)
        · skip
          have hhi : ((x / 2 ^ 16) / 2 ^ 8) < 16 := (nI_ltI (by omega) (by decide)).mp (show nI ((x / 2 ^ 16) / 2 ^ 8) < nI 16 from c51)
          refine g_iload_n fx 0 dJ6_numberOfLeadingZeros_0f7a4_61 rfl ?_
          refine g_iconst (v := nI 4) fx dJ6_numberOfLeadingZeros_0f7a4_62 (by decide +kernel) ?_
          refine g_icmp_lt fx 73 dJ6_numberOfLeadingZeros_0f7a4_63 (by decide) (fun c63 => ?_) (fun c63 => ?_)
          · skip
            have hhi : ((x / 2 ^ 16) / 2 ^ 8) < 4 := (nI_ltI (by omega) (by decide)).mp (show nI ((x / 2 ^ 16) / 2 ^ 8) < nI 4 from c63)
            refine g_iload_n fx 1 dJ6_numberOfLeadingZeros_0f7a4_73 rfl ?_
            refine g_iload_n fx 0 dJ6_numberOfLeadingZeros_0f7a4_74 rfl ?_
            refine g_iconst (v := nI 1) fx dJ6_numberOfLeadingZeros_0f7a4_75 (by decide +kernel) ?_
            refine g_iushr fx dJ6_numberOfLeadingZeros_0f7a4_76 ?_
            refine g_isi (y := nI (((x / 2 ^ 16) / 2 ^ 8) / 2 ^ 1)) (i_ushrk (by omega) (by decide)) ?_
            refine g_isub fx dJ6_numberOfLeadingZeros_0f7a4_77 ?_
            refine g_iret fx rt dJ6_numberOfLeadingZeros_0f7a4_78 ?_
            refine gPip.mk ?_
            have h4 := nbits4 hlo hhi
            rw [pk_sub (by omega)]
            congr 1
            omega
          · skip
            have hge : 4 ≤ ((x / 2 ^ 16) / 2 ^ 8) := by have := (show ¬ nI ((x / 2 ^ 16) / 2 ^ 8) < nI 4 from c63); have := fun q => this ((nI_ltI (by omega) (by decide)).mpr q); exact Nat.le_of_not_lt this
            have hD2 := nbits_div (s := 2) (x := ((x / 2 ^ 16) / 2 ^ 8)) hge
            have hhi : ((x / 2 ^ 16) / 2 ^ 8) / 2 ^ 2 < 4 := by omega
            have hlo : 0 < ((x / 2 ^ 16) / 2 ^ 8) / 2 ^ 2 := by omega
            refine g_iinc (L' := [(1, .int (nI 5)), (0, .int (nI ((x / 2 ^ 16) / 2 ^ 8)))]) fx (nI 5) 1 dJ6_numberOfLeadingZeros_0f7a4_66 rfl (by decide) (by decide) rfl ?_
            refine g_iload_n fx 1 dJ6_numberOfLeadingZeros_0f7a4_69 rfl ?_
            refine g_iconst (v := nI 2) fx dJ6_numberOfLeadingZeros_0f7a4_70 (by decide +kernel) ?_
            refine g_iushr fx dJ6_numberOfLeadingZeros_0f7a4_71 ?_
            refine g_isi (y := nI (((x / 2 ^ 16) / 2 ^ 8) / 2 ^ 2)) (i_ushrk (by omega) (by decide)) ?_
            refine g_istore_n (L' := [(0, .int (nI (((x / 2 ^ 16) / 2 ^ 8) / 2 ^ 2))), (1, .int (nI 5))]) fx dJ6_numberOfLeadingZeros_0f7a4_72 (by decide) rfl ?_
            refine g_iload_n fx 1 dJ6_numberOfLeadingZeros_0f7a4_73 rfl ?_
            refine g_iload_n fx 0 dJ6_numberOfLeadingZeros_0f7a4_74 rfl ?_
            refine g_iconst (v := nI 1) fx dJ6_numberOfLeadingZeros_0f7a4_75 (by decide +kernel) ?_
            refine g_iushr fx dJ6_numberOfLeadingZeros_0f7a4_76 ?_
            refine g_isi (y := nI ((((x / 2 ^ 16) / 2 ^ 8) / 2 ^ 2) / 2 ^ 1)) (i_ushrk (by omega) (by decide)) ?_
            refine g_isub fx dJ6_numberOfLeadingZeros_0f7a4_77 ?_
            refine g_iret fx rt dJ6_numberOfLeadingZeros_0f7a4_78 ?_
            refine gPip.mk ?_
            have h4 := nbits4 hlo hhi
            rw [pk_sub (by omega)]
            congr 1
            omega
        · skip
          have hge : 16 ≤ ((x / 2 ^ 16) / 2 ^ 8) := by have := (show ¬ nI ((x / 2 ^ 16) / 2 ^ 8) < nI 16 from c51); have := fun q => this ((nI_ltI (by omega) (by decide)).mpr q); exact Nat.le_of_not_lt this
          have hD4 := nbits_div (s := 4) (x := ((x / 2 ^ 16) / 2 ^ 8)) hge
          have hhi : ((x / 2 ^ 16) / 2 ^ 8) / 2 ^ 4 < 16 := by omega
          have hlo : 0 < ((x / 2 ^ 16) / 2 ^ 8) / 2 ^ 4 := by omega
          refine g_iinc (L' := [(1, .int (nI 3)), (0, .int (nI ((x / 2 ^ 16) / 2 ^ 8)))]) fx (nI 3) 1 dJ6_numberOfLeadingZeros_0f7a4_54 rfl (by decide) (by decide) rfl ?_
          refine g_iload_n fx 1 dJ6_numberOfLeadingZeros_0f7a4_57 rfl ?_
          refine g_iconst (v := nI 4) fx dJ6_numberOfLeadingZeros_0f7a4_58 (by decide +kernel) ?_
          refine g_iushr fx dJ6_numberOfLeadingZeros_0f7a4_59 ?_
          refine g_isi (y := nI (((x / 2 ^ 16) / 2 ^ 8) / 2 ^ 4)) (i_ushrk (by omega) (by decide)) ?_
          refine g_istore_n (L' := [(0, .int (nI (((x / 2 ^ 16) / 2 ^ 8) / 2 ^ 4))), (1, .int (nI 3))]) fx dJ6_numberOfLeadingZeros_0f7a4_60 (by decide) rfl ?_
          refine g_iload_n fx 0 dJ6_numberOfLeadingZeros_0f7a4_61 rfl ?_
          refine g_iconst (v := nI 4) fx dJ6_numberOfLeadingZeros_0f7a4_62 (by decide +kernel) ?_
          refine g_icmp_lt fx 73 dJ6_numberOfLeadingZeros_0f7a4_63 (by decide) (fun c63 => ?_) (fun c63 => ?_)
          · skip
            have hhi : (((x / 2 ^ 16) / 2 ^ 8) / 2 ^ 4) < 4 := (nI_ltI (by omega) (by decide)).mp (show nI (((x / 2 ^ 16) / 2 ^ 8) / 2 ^ 4) < nI 4 from c63)
            refine g_iload_n fx 1 dJ6_numberOfLeadingZeros_0f7a4_73 rfl ?_
            refine g_iload_n fx 0 dJ6_numberOfLeadingZeros_0f7a4_74 rfl ?_
            refine g_iconst (v := nI 1) fx dJ6_numberOfLeadingZeros_0f7a4_75 (by decide +kernel) ?_
            refine g_iushr fx dJ6_numberOfLeadingZeros_0f7a4_76 ?_
            refine g_isi (y := nI ((((x / 2 ^ 16) / 2 ^ 8) / 2 ^ 4) / 2 ^ 1)) (i_ushrk (by omega) (by decide)) ?_
            refine g_isub fx dJ6_numberOfLeadingZeros_0f7a4_77 ?_
            refine g_iret fx rt dJ6_numberOfLeadingZeros_0f7a4_78 ?_
            refine gPip.mk ?_
            have h4 := nbits4 hlo hhi
            rw [pk_sub (by omega)]
            congr 1
            omega
          · skip
            have hge : 4 ≤ (((x / 2 ^ 16) / 2 ^ 8) / 2 ^ 4) := by have := (show ¬ nI (((x / 2 ^ 16) / 2 ^ 8) / 2 ^ 4) < nI 4 from c63); have := fun q => this ((nI_ltI (by omega) (by decide)).mpr q); exact Nat.le_of_not_lt this
            have hD2 := nbits_div (s := 2) (x := (((x / 2 ^ 16) / 2 ^ 8) / 2 ^ 4)) hge
            have hhi : (((x / 2 ^ 16) / 2 ^ 8) / 2 ^ 4) / 2 ^ 2 < 4 := by omega
            have hlo : 0 < (((x / 2 ^ 16) / 2 ^ 8) / 2 ^ 4) / 2 ^ 2 := by omega
            refine g_iinc (L' := [(1, .int (nI 1)), (0, .int (nI (((x / 2 ^ 16) / 2 ^ 8) / 2 ^ 4)))]) fx (nI 1) 1 dJ6_numberOfLeadingZeros_0f7a4_66 rfl (by decide) (by decide) rfl ?_
            refine g_iload_n fx 1 dJ6_numberOfLeadingZeros_0f7a4_69 rfl ?_
            refine g_iconst (v := nI 2) fx dJ6_numberOfLeadingZeros_0f7a4_70 (by decide +kernel) ?_
            refine g_iushr fx dJ6_numberOfLeadingZeros_0f7a4_71 ?_
            refine g_isi (y := nI ((((x / 2 ^ 16) / 2 ^ 8) / 2 ^ 4) / 2 ^ 2)) (i_ushrk (by omega) (by decide)) ?_
            refine g_istore_n (L' := [(0, .int (nI ((((x / 2 ^ 16) / 2 ^ 8) / 2 ^ 4) / 2 ^ 2))), (1, .int (nI 1))]) fx dJ6_numberOfLeadingZeros_0f7a4_72 (by decide) rfl ?_
            refine g_iload_n fx 1 dJ6_numberOfLeadingZeros_0f7a4_73 rfl ?_
            refine g_iload_n fx 0 dJ6_numberOfLeadingZeros_0f7a4_74 rfl ?_
            refine g_iconst (v := nI 1) fx dJ6_numberOfLeadingZeros_0f7a4_75 (by decide +kernel) ?_
            refine g_iushr fx dJ6_numberOfLeadingZeros_0f7a4_76 ?_
            refine g_isi (y := nI (((((x / 2 ^ 16) / 2 ^ 8) / 2 ^ 4) / 2 ^ 2) / 2 ^ 1)) (i_ushrk (by omega) (by decide)) ?_
            refine g_isub fx dJ6_numberOfLeadingZeros_0f7a4_77 ?_
            refine g_iret fx rt dJ6_numberOfLeadingZeros_0f7a4_78 ?_
            refine gPip.mk ?_
            have h4 := nbits4 hlo hhi
            rw [pk_sub (by omega)]
            congr 1
            omega
  · skip
    have hz := nlz_neg hx c1
    refine g_iload_n fx 0 dJ6_numberOfLeadingZeros_0f7a4_4 rfl ?_
    refine g_if_ne fx 13 dJ6_numberOfLeadingZeros_0f7a4_5 (by decide) (fun c5 => ?_) (fun c5 => ?_)
    · skip
      have hz2 : 2 ^ 31 ≤ x := by rcases hz with hz | hz; (exact absurd (by rw [hz]; rfl) c5); (exact hz)
      refine g_iconst (v := nI 0) fx dJ6_numberOfLeadingZeros_0f7a4_13 (by decide +kernel) ?_
      refine g_iret fx rt dJ6_numberOfLeadingZeros_0f7a4_14 ?_
      refine gPip.mk ?_
      first | (rw [hz2, nbits_0]; done) | (rw [nbits_of (m := 31) hz2 (by omega)])
    · skip
      have hz2 : x = 0 := nlz_z hx c5
      refine g_bipush (v := nI 32) fx dJ6_numberOfLeadingZeros_0f7a4_8 (by decide +kernel) ?_
      refine g_goto fx 14 dJ6_numberOfLeadingZeros_0f7a4_10 (by decide) ?_
      refine g_iret fx rt dJ6_numberOfLeadingZeros_0f7a4_14 ?_
      refine gPip.mk ?_
      first | (rw [hz2, nbits_0]; done) | (rw [nbits_of (m := 31) hz2 (by omega)])
set_option maxHeartbeats 4000000 in
set_option maxRecDepth 100000 in
theorem c_J13_numberOfLeadingZeros_95d88 (B : gB) (ad : Nat → Nat) (ct : Nat → va_E) (n : Nat) (x : Nat) (hx : x < 4294967296) : Ctr B yJ13_numberOfLeadingZeros_95d88 cJ13_numberOfLeadingZeros_95d88 3 (some .int) 1 21 0 0 ad ct n [.long (lN x)] (gPip ad ct n (fun r => r = nI (64 - nbits x))) := by
  have hnb := nbits_le (m := 32) hx
  refine Ctr.ofG (L := [(0, .long (lN x))]) (by decide +kernel) rfl (Nat.le_of_ble_eq_true rfl) (fun E fx rt hnm => ?_)
  refine g_lload_n fx 0 dJ13_numberOfLeadingZeros_95d88_0 rfl ?_
  refine g_bipush (v := nI 32) fx dJ13_numberOfLeadingZeros_95d88_1 (by decide +kernel) ?_
  refine g_lushr fx dJ13_numberOfLeadingZeros_95d88_3 ?_
  refine g_isl (y := lN 0) (by rw [l_shr (by omega), Nat.div_eq_of_lt hx]) ?_
  refine g_l2i fx dJ13_numberOfLeadingZeros_95d88_4 ?_
  refine g_isi (y := nI 0) rfl ?_
  refine g_istore_n (L' := [(2, .int (nI 0)), (0, .long (lN x))]) fx dJ13_numberOfLeadingZeros_95d88_5 (by decide) rfl ?_
  refine g_iload_n fx 0 dJ13_numberOfLeadingZeros_95d88_6 rfl ?_
  refine g_if_ne fx 21 dJ13_numberOfLeadingZeros_95d88_7 (by decide) (fun c7 => ?_) (fun c7 => ?_)
  · exact absurd rfl c7
  refine g_bipush (v := nI 32) fx dJ13_numberOfLeadingZeros_95d88_10 (by decide +kernel) ?_
  refine g_lload_n fx 1 dJ13_numberOfLeadingZeros_95d88_12 rfl ?_
  refine g_l2i fx dJ13_numberOfLeadingZeros_95d88_13 ?_
  refine g_isi (y := nI x) (lN_i x) ?_
  refine g_callSip (As := [.int (nI x)]) (rest := [.int (nI 32)]) fx slJ13_308 (c_J6_numberOfLeadingZeros_0f7a4 B ad ct n x hx) rfl rfl (Nat.le_of_ble_eq_true rfl) ⟨by decide, by decide⟩ ⟨by decide, by decide⟩ dJ13_numberOfLeadingZeros_95d88_14 (fun q hq => ?_)
  obtain rfl := hq
  refine g_iaddN fx dJ13_numberOfLeadingZeros_95d88_17 ?_
  refine g_goto fx 25 dJ13_numberOfLeadingZeros_95d88_18 (by decide) ?_
  refine g_iret fx rt dJ13_numberOfLeadingZeros_95d88_25 ?_
  refine gPip.mk ?_
  congr 1
  omega
set_option maxHeartbeats 4000000 in
set_option maxRecDepth 100000 in
theorem c_X10_bitLength (B : gB) (ad : Nat → Nat) (ct : Nat → va_E) (n : Nat) (w v : Nat) (hn : w + 1 < n) (hW : isW B ad ct w v) : Ctr B yX10_bitLength cX10_bitLength 1 (some .int) 2 43 0 0 ad ct n [.ref (ad w)] (gPip ad ct n (fun r => r = nI (nbits v))) := by
  obtain ⟨sz, g, ⟨hw, hl, hsz, hlt, hz⟩, hno, hv⟩ := id hW
  rw [bval_ext hsz hz] at hv
  refine Ctr.ofG (L := [(0, .ref (ad w))]) (by decide +kernel) rfl (Nat.le_of_ble_eq_true rfl) (fun E fx rt hnm => ?_)
  refine g_aload_n fx 0 dX10_bitLength_0 rfl ?_
  refine g_get (r := w) fx lkX10_24 (by omega) hw rfl dX10_bitLength_1 ?_
  refine g_if_ne fx 11 dX10_bitLength_4 (by decide) (fun c4 => ?_) (fun c4 => ?_)
  · skip
    have hs0 : 0 < sz := Nat.pos_of_ne_zero (fun q => c4 (by rw [q]; rfl))
    have hq1 := hlt (sz - 1)
    have hnb := nbits_le (m := 32) hq1
    have hgt : g (sz - 1) ≠ 0 := by
      intro q
      rcases hno with hno | hno
      · omega
      · obtain ⟨k, rfl⟩ : ∃ k, sz = k + 1 := ⟨sz - 1, by omega⟩
        rw [Nat.add_sub_cancel] at q hno
        have h1 : bval 4294967296 g k < 4294967296 ^ k := bval_lt k (fun i _ => hlt i)
        have h2 : bval 4294967296 g (k + 1) = bval 4294967296 g k + g k * 4294967296 ^ k := rfl
        rw [q, Nat.zero_mul, Nat.add_zero, hv] at h2
        omega
    have hval : nbits v = 32 * (sz - 1) + nbits (g (sz - 1)) := by
      obtain ⟨k, rfl⟩ : ∃ k, sz = k + 1 := ⟨sz - 1, by omega⟩
      rw [Nat.add_sub_cancel] at hgt ⊢
      have h1 : bval 4294967296 g k < 4294967296 ^ k := bval_lt k (fun i _ => hlt i)
      have h3 : (4294967296 : Nat) ^ k = 2 ^ (32 * k) := by rw [Nat.pow_mul]
      rw [← hv]
      show nbits (bval 4294967296 g k + g k * 4294967296 ^ k) = _
      rw [h3] at h1 ⊢
      exact nbits_app h1 hgt
    refine g_bipush (v := nI 32) fx dX10_bitLength_11 (by decide +kernel) ?_
    refine g_aload_n fx 0 dX10_bitLength_13 rfl ?_
    refine g_get (r := w) fx lkX10_24 (by omega) hw rfl dX10_bitLength_14 ?_
    refine g_imulN fx dX10_bitLength_17 ?_
    refine g_aload_n fx 0 dX10_bitLength_18 rfl ?_
    refine g_get (r := w) fx lkX10_11 (by omega) hw rfl dX10_bitLength_19 ?_
    refine g_aload_n fx 0 dX10_bitLength_22 rfl ?_
    refine g_get (r := w) fx lkX10_24 (by omega) hw rfl dX10_bitLength_23 ?_
    refine g_iconst (v := nI 1) fx dX10_bitLength_26 (by decide +kernel) ?_
    refine g_isubN fx dX10_bitLength_27 (by omega) ?_
    refine g_lald (r := w + 1) (j := (sz - 1)) fx (by omega) hl (nI_toInt (by omega)) (by omega) dX10_bitLength_28 ?_
    refine g_isl (y := lN (g (sz - 1))) rfl ?_
    refine g_callSip (As := [.long (lN (g (sz - 1)))]) (rest := [.int (nI (32 * sz))]) fx slX10_41 (c_J13_numberOfLeadingZeros_95d88 B ad ct n (g (sz - 1)) hq1) rfl rfl (Nat.le_of_ble_eq_true rfl) ⟨by decide, by decide⟩ ⟨by decide, by decide⟩ dX10_bitLength_29 (fun q hq => ?_)
    obtain rfl := hq
    refine g_isub fx dX10_bitLength_32 ?_
    refine g_bipush (v := nI 32) fx dX10_bitLength_33 (by decide +kernel) ?_
    refine g_iadd fx dX10_bitLength_35 ?_
    refine g_isi (y := nI (32 * sz + 32 - (64 - nbits (g (sz - 1))))) (by have e := i_sub3_v (x := 32 * sz) (y := 64 - nbits (g (sz - 1))) (c := 0) (e := 32) (by omega); rw [show nI (32 * sz) - nI (64 - nbits (g (sz - 1))) - nI 0 = nI (32 * sz) - nI (64 - nbits (g (sz - 1))) from Int32.sub_zero _] at e; exact e) ?_
    refine g_iret fx rt dX10_bitLength_36 ?_
    refine gPip.mk ?_
    first | (rw [← hv, hs0]; rfl) | (rw [hval]; congr 1; omega)
  · skip
    have hs0 : sz = 0 := (nI_eq (b := 0) (by omega) (by decide)).mp c4
    refine g_iconst (v := nI 0) fx dX10_bitLength_7 (by decide +kernel) ?_
    refine g_goto fx 36 dX10_bitLength_8 (by decide) ?_
    refine g_iret fx rt dX10_bitLength_36 ?_
    refine gPip.mk ?_
    first | (rw [← hv, hs0]; rfl) | (rw [hval]; congr 1; omega)
set_option maxHeartbeats 4000000 in
set_option maxRecDepth 100000 in
theorem c_X10_countWords (B : gB) (ad : Nat → Nat) (ct : Nat → va_E) (n : Nat) (w v : Nat) (hn : w + 1 < n) (hW : isW B ad ct w v) : Ctr B yX10_countWords cX10_countWords 1 (some .int) 3 63 0 0 ad ct n [.ref (ad w)] (gPip ad ct n (fun r => r = nI ((nbits v + 15) / 16))) := by
  have hnb : nbits v ≤ 384 := nbits_le (by have := isW.lt hW; rw [show (2 : Nat) ^ 384 = 4294967296 ^ 12 by decide +kernel]; exact this)
  obtain ⟨sz, g, ⟨hw, hl, hsz, hlt, hz⟩, hno, hv⟩ := id hW
  rw [bval_ext hsz hz] at hv
  refine Ctr.ofG (L := [(0, .ref (ad w))]) (by decide +kernel) rfl (Nat.le_of_ble_eq_true rfl) (fun E fx rt hnm => ?_)
  refine g_aload_n fx 0 dX10_countWords_0 rfl ?_
  refine g_callVip (As := []) (rest := []) fx slX10_47 (c_X10_bitLength B ad ct n w v hn hW) (by omega) hw rfl rfl rfl (Nat.le_of_ble_eq_true rfl) ⟨by decide, by decide⟩ ⟨by decide, by decide⟩ dX10_countWords_1 (fun q hq => ?_)
  obtain rfl := hq
  refine g_bipush (v := nI 15) fx dX10_countWords_4 (by decide +kernel) ?_
  refine g_iaddN fx dX10_countWords_6 ?_
  refine g_bipush (v := nI 16) fx dX10_countWords_7 (by decide +kernel) ?_
  refine g_idiv fx dX10_countWords_9 (by decide) ?_
  refine g_isi (y := nI ((nbits v + 15) / 16)) (pk_div (by omega) (by decide) (by decide)) ?_
  refine g_iret fx rt dX10_countWords_10 ?_
  refine gPip.mk ?_
  rfl
set_option maxHeartbeats 4000000 in
set_option maxRecDepth 100000 in
theorem c_X10_sixteenBits (B : gB) (ad : Nat → Nat) (ct : Nat → va_E) (n : Nat) (w v j : Nat) (hn : w + 1 < n) (hW : isW B ad ct w v) (hj : j < 2 ^ 31) : Ctr B yX10_sixteenBits cX10_sixteenBits 3 (some .int) 0 0 0 0 ad ct n [.ref (ad w), .int (nI j)] (gPip ad ct n (fun r => r = nI (v / 65536 ^ j % 65536))) := by
  obtain ⟨sz, g, ⟨hw, hl, hsz, hlt, hz⟩, hno, hv⟩ := id hW
  rw [bval_ext hsz hz] at hv
  have e32 : (65536 : Nat) ^ j = 4294967296 ^ (j / 2) * 65536 ^ (j % 2) := by rw [show (4294967296 : Nat) = 65536 ^ 2 by decide, ← Nat.pow_mul, ← Nat.pow_add]; congr 1; omega
  refine Ctr.ofG (L := [(0, .ref (ad w)), (1, .int (nI j))]) (by decide +kernel) rfl (Nat.le_of_ble_eq_true rfl) (fun E fx rt hnm => ?_)
  refine g_iload_n fx 1 dX10_sixteenBits_0 rfl ?_
  refine g_iconst (v := nI 1) fx dX10_sixteenBits_1 (by decide +kernel) ?_
  refine g_ishr fx dX10_sixteenBits_2 ?_
  refine g_isi (y := nI (j / 2)) (by have := i_shrk (x := j) (q := 1) hj (by decide); rw [this]) ?_
  refine g_istore_n (L' := [(2, .int (nI (j / 2))), (0, .ref (ad w)), (1, .int (nI j))]) fx dX10_sixteenBits_3 (by decide) rfl ?_
  refine g_iload_n fx 0 dX10_sixteenBits_4 rfl ?_
  refine g_if_lt fx 16 dX10_sixteenBits_5 (by decide) (fun c5 => ?_) (fun c5 => ?_)
  · exact absurd c5 (nI_pos (by omega))
  refine g_iload_n fx 0 dX10_sixteenBits_8 rfl ?_
  refine g_aload_n fx 1 dX10_sixteenBits_9 rfl ?_
  refine g_get (r := w) fx lkX10_24 (by omega) hw rfl dX10_sixteenBits_10 ?_
  refine g_icmp_lt fx 18 dX10_sixteenBits_13 (by decide) (fun c13 => ?_) (fun c13 => ?_)
  · skip
    have hlt2 : j / 2 < sz := (nI_ltI (by omega) (by omega)).mp c13
    have hq1 := hlt (j / 2)
    have hj2 : j % 2 = 0 ∨ j % 2 = 1 := by omega
    refine g_aload_n fx 1 dX10_sixteenBits_18 rfl ?_
    refine g_get (r := w) fx lkX10_11 (by omega) hw rfl dX10_sixteenBits_19 ?_
    refine g_iload_n fx 0 dX10_sixteenBits_22 rfl ?_
    refine g_lald (r := w + 1) (j := (j / 2)) fx (by omega) hl (nI_toInt (by omega)) (by omega) dX10_sixteenBits_23 ?_
    refine g_isl (y := lN (g (j / 2))) rfl ?_
    refine g_bipush (v := nI 16) fx dX10_sixteenBits_24 (by decide +kernel) ?_
    refine g_iload_n fx 2 dX10_sixteenBits_26 rfl ?_
    refine g_iconst (v := nI 1) fx dX10_sixteenBits_27 (by decide +kernel) ?_
    refine g_iand fx dX10_sixteenBits_28 ?_
    refine g_isi (y := nI (j % 2)) (i_and1 (by omega)) ?_
    refine g_imulN fx dX10_sixteenBits_29 ?_
    refine g_lushr fx dX10_sixteenBits_30 ?_
    refine g_isl (y := lN (g (j / 2) / 2 ^ (16 * (j % 2)))) (wb_shr (by omega) (by omega)) ?_
    refine g_l2i fx dX10_sixteenBits_31 ?_
    refine g_isi (y := nI (g (j / 2) / 2 ^ (16 * (j % 2)))) (lN_i _) ?_
    refine g_ldc fx kcX10_51 dX10_sixteenBits_32 ?_
    refine g_iand fx dX10_sixteenBits_34 ?_
    refine g_isi (y := nI (g (j / 2) / 2 ^ (16 * (j % 2)) % 65536)) (pk_andN (by have : g (j / 2) / 2 ^ (16 * (j % 2)) ≤ g (j / 2) := Nat.div_le_self _ _; omega) 16 (by decide)) ?_
    refine g_iret fx rt dX10_sixteenBits_35 ?_
    refine gPip.mk ?_
    have h1 : bval 4294967296 g sz / 4294967296 ^ (j / 2) % 4294967296 = g (j / 2) := bval_digit (by decide) hlt2 (fun i _ => hlt i)
    rw [hv] at h1
    rw [e32, ← Nat.div_div_eq_div_mul, ← h1]
    congr 1
    rw [show (65536 : Nat) ^ (j % 2) = 2 ^ (16 * (j % 2)) by rw [Nat.pow_mul]]
    exact div_bits (m := 32) (t := 16) (by omega)
  · skip
    have hge : sz ≤ j / 2 := Nat.le_of_not_lt (fun q => c13 ((nI_ltI (by omega) (by omega)).mpr q))
    refine g_iconst (v := nI 0) fx dX10_sixteenBits_16 (by decide +kernel) ?_
    refine g_iret fx rt dX10_sixteenBits_17 ?_
    refine gPip.mk ?_
    have h1 : v < 4294967296 ^ sz := by rw [← hv]; exact bval_lt sz (fun i _ => hlt i)
    have h2 : (4294967296 : Nat) ^ sz ≤ 4294967296 ^ (j / 2) := Nat.pow_le_pow_right (by decide) hge
    have h3 : 1 ≤ 65536 ^ (j % 2) := Nat.pow_pos (by decide)
    have h4 : 4294967296 ^ (j / 2) * 1 ≤ 4294967296 ^ (j / 2) * 65536 ^ (j % 2) := Nat.mul_le_mul_left _ h3
    rw [e32, Nat.div_eq_of_lt (by omega)]
set_option maxHeartbeats 4000000 in
set_option maxRecDepth 100000 in
theorem c_X12_bitsOf (B : gB) (ad : Nat → Nat) (ct : Nat → va_E) (n : Nat) (r a N : Nat) (g : Nat → Nat) (hnr : r < n) (haN : a + 40 ≤ N) (hN : N < 2 ^ 30) (hr : ct r = .inl (B.2.1 0, N, .inl (nF g))) (hok : okN g a) : Ctr B yX12_bitsOf cX12_bitsOf 4 (some .int) 0 0 0 0 ad ct n [.ref (ad r), .int (nI a)] (gPip ad ct n (fun q => q = nI (nbits (nv g a)))) := by
  refine Ctr.ofG (L := [(0, .ref (ad r)), (1, .int (nI a))]) (by decide +kernel) rfl (Nat.le_of_ble_eq_true rfl) (fun E fx rt hnm => ?_)
  refine g_bipush (v := nI 39) fx dX12_bitsOf_0 (by decide +kernel) ?_
  refine g_isi (y := nI 40 - nI 1) (by decide) ?_
  refine g_istore_n (L' := [(2, .int (nI 40 - nI 1)), (0, .ref (ad r)), (1, .int (nI a))]) fx dX12_bitsOf_2 (by decide) rfl ?_
  have LP3 : ∀ (M : Nat) (k : Nat), (k ≤ 40) → (∀ j, k ≤ j → j < 40 → g (a + j) = 0) →  k < M → G B 4 E ad ct n 0 0 [(0, .ref (ad r)), (1, .int (nI a)), (2, .int (nI k - nI 1))] 3 [] := by
    intro M
    induction M with
    | zero => intro k _ _ hM; exact absurd hM (Nat.not_lt_zero _)
    | succ M ih =>
      intro k hk hj hM
      refine g_iload_n fx 2 dX12_bitsOf_3 rfl ?_
      refine g_if_lt fx 46 dX12_bitsOf_4 (by decide) (fun c4 => ?_) (fun c4 => ?_)
      · skip
        have hk0 := (m1_neg (by omega)).mp c4
        refine g_iconst (v := nI 0) fx dX12_bitsOf_46 (by decide +kernel) ?_
        refine g_iret fx rt dX12_bitsOf_47 ?_
        refine gPip.mk ?_
        rw [show nv g a = 0 from bval_zero 40 (fun i hi => hj i (by omega) hi)]
        rfl
      · skip
        have hk0 : 0 < k := Nat.pos_of_ne_zero (fun q => c4 ((m1_neg (by omega)).mpr q))
        have hb1 := hok (k - 1) (by omega)
        have hnb := nbits_le (m := 24) hb1
        refine g_aload_n fx 0 dX12_bitsOf_7 rfl ?_
        refine g_iload_n fx 1 dX12_bitsOf_8 rfl ?_
        refine g_iload_n fx 2 dX12_bitsOf_9 rfl ?_
        refine g_iadd fx dX12_bitsOf_10 ?_
        refine g_isi (y := nI (a + (k - 1))) (add_m1 hk0) ?_
        refine g_iald (r := r) (j := (a + (k - 1))) fx (by omega) hr (nI_toInt (by omega)) (by omega) dX12_bitsOf_11 ?_
        refine g_isi (y := nI (g (a + (k - 1)))) rfl ?_
        refine g_if_eq fx 40 dX12_bitsOf_12 (by decide) (fun c12 => ?_) (fun c12 => ?_)
        · skip
          have hgk : g (a + (k - 1)) = 0 := (nI_eq (b := 0) (by omega) (by decide)).mp c12
          refine g_iinc (L' := [(2, .int (nI (k - 1) - nI 1)), (0, .ref (ad r)), (1, .int (nI a))]) fx (nI (k - 1) - nI 1) 2 dX12_bitsOf_40 rfl (m1_dec hk0) (by decide) rfl ?_
          refine g_goto fx 3 dX12_bitsOf_43 (by decide) ?_
          refine g_locals (L' := [(0, .ref (ad r)), (1, .int (nI a)), (2, .int (nI (k - 1) - nI 1))]) [1, 2, 0] rfl ?_
          exact ih (k - 1) (by omega) (fun j h1 h2 => by by_cases q : j = k - 1; (rw [q]; exact hgk); (exact hj j (by omega) h2)) (by omega)
        · skip
          have hgk : g (a + (k - 1)) ≠ 0 := fun q => c12 (by rw [q]; rfl)
          have hval : nbits (nv g a) = 24 * (k - 1) + nbits (g (a + (k - 1))) := by
            have h0 : nv g a = bval 16777216 (sh g a) k := by
              have e := bval_top (b := 16777216) (f := sh g a) (g := fun _ => 0) (n := 40) k hk (fun i h1 h2 => hj i h1 h2)
              rw [bval_zero k (fun _ _ => rfl), bval_zero 40 (fun _ _ => rfl)] at e
              show bval 16777216 (sh g a) 40 = _
              omega
            obtain ⟨z, rfl⟩ : ∃ z, k = z + 1 := ⟨k - 1, by omega⟩
            rw [Nat.add_sub_cancel] at hgk ⊢
            have h1 : bval 16777216 (sh g a) z < 16777216 ^ z := bval_lt z (fun i hi => hok i (by omega))
            have h3 : (16777216 : Nat) ^ z = 2 ^ (24 * z) := by rw [Nat.pow_mul]
            rw [h0]
            show nbits (bval 16777216 (sh g a) z + g (a + z) * 16777216 ^ z) = _
            rw [h3] at h1 ⊢
            exact nbits_app h1 hgk
          refine g_iconst (v := nI 0) fx dX12_bitsOf_15 (by decide +kernel) ?_
          refine g_istore_n (L' := [(3, .int (nI 0)), (0, .ref (ad r)), (1, .int (nI a)), (2, .int (nI k - nI 1))]) fx dX12_bitsOf_16 (by decide) rfl ?_
          have LP17 : ∀ (M : Nat) (q : Nat), (q ≤ nbits (g (a + (k - 1)))) →  (25 - q) < M → G B 4 E ad ct n 0 0 [(0, .ref (ad r)), (1, .int (nI a)), (2, .int (nI k - nI 1)), (3, .int (nI q))] 17 [] := by
            intro M
            induction M with
            | zero => intro q _ hM; exact absurd hM (Nat.not_lt_zero _)
            | succ M ih =>
              intro q hq hM
              refine g_aload_n fx 0 dX12_bitsOf_17 rfl ?_
              refine g_iload_n fx 1 dX12_bitsOf_18 rfl ?_
              refine g_iload_n fx 2 dX12_bitsOf_19 rfl ?_
              refine g_iadd fx dX12_bitsOf_20 ?_
              refine g_isi (y := nI (a + (k - 1))) (add_m1 hk0) ?_
              refine g_iald (r := r) (j := (a + (k - 1))) fx (by omega) hr (nI_toInt (by omega)) (by omega) dX12_bitsOf_21 ?_
              refine g_isi (y := nI (g (a + (k - 1)))) rfl ?_
              refine g_iload_n fx 3 dX12_bitsOf_22 rfl ?_
              refine g_ishr fx dX12_bitsOf_23 ?_
              refine g_isi (y := nI (g (a + (k - 1)) / 2 ^ q)) (i_shrk (by omega) (by omega)) ?_
              have hdl : g (a + (k - 1)) / 2 ^ q ≤ g (a + (k - 1)) := Nat.div_le_self _ _
              refine g_if_eq fx 33 dX12_bitsOf_24 (by decide) (fun c24 => ?_) (fun c24 => ?_)
              · skip
                have h0 : g (a + (k - 1)) / 2 ^ q = 0 := (nI_eq (b := 0) (by omega) (by decide)).mp c24
                have hqe : q = nbits (g (a + (k - 1))) := by
                  have h1 : g (a + (k - 1)) < 2 ^ q := by
                    rcases Nat.lt_or_ge (g (a + (k - 1))) (2 ^ q) with z | z
                    · exact z
                    · have := (Nat.le_div_iff_mul_le (Nat.pow_pos (n := q) (a := 2) (by decide))).mpr (show 1 * 2 ^ q ≤ g (a + (k - 1)) by omega); omega
                  have := nbits_le h1; omega
                refine g_bipush (v := nI 24) fx dX12_bitsOf_33 (by decide +kernel) ?_
                refine g_iload_n fx 2 dX12_bitsOf_35 rfl ?_
                refine g_imul fx dX12_bitsOf_36 ?_
                refine g_isi (y := nI (24 * (k - 1))) (mul_m1 hk0) ?_
                refine g_iload_n fx 3 dX12_bitsOf_37 rfl ?_
                refine g_iaddN fx dX12_bitsOf_38 ?_
                refine g_iret fx rt dX12_bitsOf_39 ?_
                refine gPip.mk ?_
                rw [hval, hqe]
              · skip
                have hq2 : q + 1 ≤ nbits (g (a + (k - 1))) := nbits_gt (fun z => c24 (by rw [z]; rfl))
                refine g_iinc (L' := [(3, .int (nI (q + 1))), (0, .ref (ad r)), (1, .int (nI a)), (2, .int (nI k - nI 1))]) fx (nI (q + 1)) 3 dX12_bitsOf_27 rfl (gInc _) (by decide) rfl ?_
                refine g_goto fx 17 dX12_bitsOf_30 (by decide) ?_
                refine g_locals (L' := [(0, .ref (ad r)), (1, .int (nI a)), (2, .int (nI k - nI 1)), (3, .int (nI (q + 1)))]) [1, 2, 3, 0] rfl ?_
                exact ih (q + 1) hq2 (by omega)
          refine g_locals (L' := [(0, .ref (ad r)), (1, .int (nI a)), (2, .int (nI k - nI 1)), (3, .int (nI 0))]) [1, 2, 3, 0] rfl ?_
          exact LP17 26 0 (by omega) (by omega)
  refine g_locals (L' := [(0, .ref (ad r)), (1, .int (nI a)), (2, .int (nI 40 - nI 1))]) [1, 2, 0] rfl ?_
  exact LP3 41 40 (by omega) (fun j h1 h2 => absurd h2 (by omega)) (by omega)
set_option maxHeartbeats 4000000 in
set_option maxRecDepth 100000 in
theorem c_X12_bitAt (B : gB) (ad : Nat → Nat) (ct : Nat → va_E) (n : Nat) (r a N : Nat) (g : Nat → Nat) (hnr : r < n) (haN : a + 40 ≤ N) (hN : N < 2 ^ 30) (hr : ct r = .inl (B.2.1 0, N, .inl (nF g))) (hok : okN g a) (i : Nat) (hi : i < 960) : Ctr B yX12_bitAt cX12_bitAt 3 (some .int) 0 0 0 0 ad ct n [.ref (ad r), .int (nI a), .int (nI i)] (gPip ad ct n (fun q => q = nI (nv g a / 2 ^ i % 2))) := by
  have hb1 := hok (i / 24) (by omega)
  have hdl : g (a + i / 24) / 2 ^ (i % 24) ≤ g (a + i / 24) := Nat.div_le_self _ _
  refine Ctr.ofG (L := [(0, .ref (ad r)), (1, .int (nI a)), (2, .int (nI i))]) (by decide +kernel) rfl (Nat.le_of_ble_eq_true rfl) (fun E fx rt hnm => ?_)
  refine g_aload_n fx 0 dX12_bitAt_0 rfl ?_
  refine g_iload_n fx 1 dX12_bitAt_1 rfl ?_
  refine g_iload_n fx 2 dX12_bitAt_2 rfl ?_
  refine g_bipush (v := nI 24) fx dX12_bitAt_3 (by decide +kernel) ?_
  refine g_idiv fx dX12_bitAt_5 (by decide) ?_
  refine g_isi (y := nI (i / 24)) (pk_div (by omega) (by decide) (by decide)) ?_
  refine g_iaddN fx dX12_bitAt_6 ?_
  refine g_iald (r := r) (j := (a + (i / 24))) fx (by omega) hr (nI_toInt (by omega)) (by omega) dX12_bitAt_7 ?_
  refine g_isi (y := nI (g (a + (i / 24)))) rfl ?_
  refine g_iload_n fx 2 dX12_bitAt_8 rfl ?_
  refine g_bipush (v := nI 24) fx dX12_bitAt_9 (by decide +kernel) ?_
  refine g_irem fx dX12_bitAt_11 (by decide) ?_
  refine g_isi (y := nI (i % 24)) (pk_rem (by omega) (by decide) (by decide)) ?_
  refine g_ishr fx dX12_bitAt_12 ?_
  refine g_isi (y := nI (g (a + i / 24) / 2 ^ (i % 24))) (i_shrk (by omega) (by omega)) ?_
  refine g_iconst (v := nI 1) fx dX12_bitAt_13 (by decide +kernel) ?_
  refine g_iand fx dX12_bitAt_14 ?_
  refine g_isi (y := nI (g (a + i / 24) / 2 ^ (i % 24) % 2)) (i_and1 (by omega)) ?_
  refine g_iret fx rt dX12_bitAt_15 ?_
  refine gPip.mk ?_
  have h1 : nv g a / 16777216 ^ (i / 24) % 16777216 = g (a + i / 24) := bval_digit (by decide) (by omega) hok
  have h2 : (2 : Nat) ^ i = 16777216 ^ (i / 24) * 2 ^ (i % 24) := by rw [show (16777216 : Nat) = 2 ^ 24 by decide, ← Nat.pow_mul, ← Nat.pow_add]; congr 1; omega
  rw [h2, ← Nat.div_div_eq_div_mul, ← h1]
  congr 1
  exact div_bits (m := 24) (t := 1) (by omega)
