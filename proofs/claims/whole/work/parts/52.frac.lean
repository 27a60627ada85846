theorem isW.ob {B : gB} {ad : Nat → Nat} {ct : Nat → va_E} {w v : Nat} (h : isW B ad ct w v) : ∃ fs, ct w = .inr (10, fs) := by
  obtain ⟨sz, g, h, -, -⟩ := h
  exact ⟨_, h.1⟩
theorem isW.row {B : gB} {ad : Nat → Nat} {ct : Nat → va_E} {w v : Nat} (h : isW B ad ct w v) : ∃ sz g, rW B ad ct w sz g := by
  obtain ⟨sz, g, h, -, -⟩ := h
  exact ⟨sz, g, h⟩
def gPn : Nat → Nat := fun k => ([2, 3, 5, 7, 11, 13, 17, 19, 23, 29, 31, 37, 41, 43, 47, 53, 59] : List Nat).getD k 0
theorem gPr_n : ∀ k, k < 17 → gPr k = nI (gPn k) ∧ 2 ≤ gPn k ∧ gPn k < 60 := by decide +kernel
theorem gPn_all : ∀ q, q < 61 → 1 < q → ∃ k, k < 17 ∧ q % gPn k = 0 := by decide +kernel
/-- every divisor above 1 has one of the primes to 59 in it -/
def Sm (y : Nat) : Prop := ∀ d, 1 < d → d ∣ y → ∃ k, k < 17 ∧ gPn k ∣ d
theorem Sm.dvd {x y : Nat} (h : Sm y) (hd : x ∣ y) : Sm x := fun d h1 h2 => h d h1 (Nat.dvd_trans h2 hd)
theorem Sm.of_small {d q : Nat} (h1 : 1 < Nat.gcd d q) (hq : q ≤ 60) (hq0 : 0 < q) : ∃ k, k < 17 ∧ gPn k ∣ d := by
  have h2 : Nat.gcd d q ≤ q := Nat.le_of_dvd hq0 (Nat.gcd_dvd_right d q)
  obtain ⟨k, hk, hm⟩ := gPn_all (Nat.gcd d q) (by omega) h1
  exact ⟨k, hk, Nat.dvd_trans (Nat.dvd_of_mod_eq_zero hm) (Nat.gcd_dvd_left d q)⟩
theorem fac_co {d : Nat} : ∀ m, (∀ q, 0 < q → q ≤ m → Nat.gcd d q = 1) → Nat.gcd d (fac m) = 1
  | 0, _ => Nat.gcd_one_right d
  | m + 1, h => by
    show Nat.gcd d (fac m * (m + 1)) = 1
    exact Nat.Coprime.mul_right (fac_co m (fun q h0 hq => h q h0 (by omega))) (h (m + 1) (by omega) (Nat.le_refl _))
theorem Sm.fac {m : Nat} (hm : m ≤ 60) : Sm (fac m) := by
  intro d h1 h2
  apply Classical.byContradiction
  intro hno
  have h3 := fac_co (d := d) m (fun q h0 hq => by
    apply Classical.byContradiction
    intro h4
    have h5 : 0 < Nat.gcd d q := Nat.gcd_pos_of_pos_right d h0
    exact hno (Sm.of_small (q := q) (by omega) (by omega) h0))
  rw [Nat.gcd_eq_left h2] at h3
  omega
theorem pow_co {d b : Nat} (h : Nat.gcd d b = 1) : ∀ m, Nat.gcd d (b ^ m) = 1
  | 0 => Nat.gcd_one_right d
  | m + 1 => by rw [Nat.pow_succ]; exact Nat.Coprime.mul_right (pow_co h m) h
theorem Sm.two {m : Nat} : Sm (2 ^ m) := by
  intro d h1 h2
  apply Classical.byContradiction
  intro hno
  have h3 := pow_co (d := d) (b := 2) (by
    apply Classical.byContradiction
    intro h4
    have h5 : 0 < Nat.gcd d 2 := Nat.gcd_pos_of_pos_right d (by decide)
    exact hno (Sm.of_small (q := 2) (by omega) (by omega) (by decide))) m
  rw [Nat.gcd_eq_left h2] at h3
  omega
/-- lowest terms -/
theorem low_terms {u l u1 l1 g : Nat} (hl : 0 < l) (hs : Sm l) (h1 : u1 * g = u) (h2 : l1 * g = l) (hno : ∀ k, k < 17 → ¬ (u1 % gPn k = 0 ∧ l1 % gPn k = 0)) : u1 = u / Nat.gcd u l ∧ l1 = l / Nat.gcd u l := by
  have hg : 0 < g := Nat.pos_of_ne_zero (fun q => by rw [q, Nat.mul_zero] at h2; omega)
  have hl1 : 0 < l1 := Nat.pos_of_ne_zero (fun q => by rw [q, Nat.zero_mul] at h2; omega)
  have hco : Nat.gcd u1 l1 = 1 := by
    apply Classical.byContradiction
    intro h4
    have h5 : 0 < Nat.gcd u1 l1 := Nat.gcd_pos_of_pos_right u1 hl1
    have h6 : Nat.gcd u1 l1 ∣ l := Nat.dvd_trans (Nat.gcd_dvd_right u1 l1) ⟨g, h2.symm⟩
    obtain ⟨k, hk, hd⟩ := hs _ (by omega) h6
    exact hno k hk ⟨Nat.mod_eq_zero_of_dvd (Nat.dvd_trans hd (Nat.gcd_dvd_left u1 l1)), Nat.mod_eq_zero_of_dvd (Nat.dvd_trans hd (Nat.gcd_dvd_right u1 l1))⟩
  have hgg : Nat.gcd u l = g := by rw [← h1, ← h2, Nat.gcd_mul_right, hco, Nat.one_mul]
  rw [hgg, ← h1, ← h2, Nat.mul_div_cancel _ hg, Nat.mul_div_cancel _ hg]
  exact ⟨rfl, rfl⟩
theorem no_common {u l p q : Nat} (h : ¬ (u % q = 0 ∧ l % q = 0)) (hu : u % p = 0) (hl : l % p = 0) : ¬ ((u / p) % q = 0 ∧ (l / p) % q = 0) := fun w => h ⟨Nat.mod_eq_zero_of_dvd (Nat.dvd_trans (Nat.dvd_of_mod_eq_zero w.1) (Nat.div_dvd_of_dvd (Nat.dvd_of_mod_eq_zero hu))), Nat.mod_eq_zero_of_dvd (Nat.dvd_trans (Nat.dvd_of_mod_eq_zero w.2) (Nat.div_dvd_of_dvd (Nat.dvd_of_mod_eq_zero hl)))⟩
theorem step_mul {u p g : Nat} (hu : u % p = 0) : u / p * (p * g) = u * g := by
  rw [← Nat.mul_assoc, Nat.div_mul_cancel (Nat.dvd_of_mod_eq_zero hu)]
theorem step_two {l p k L : Nat} (hp : 2 ≤ p) (hl : l % p = 0) (h : l * 2 ^ k ≤ L) : l / p * 2 ^ (k + 1) ≤ L := by
  have h1 : l / p * 2 ≤ l / p * p := Nat.mul_le_mul_left _ hp
  rw [Nat.div_mul_cancel (Nat.dvd_of_mod_eq_zero hl)] at h1
  rw [Nat.pow_succ, Nat.mul_comm (2 ^ k) 2, ← Nat.mul_assoc]
  exact Nat.le_trans (Nat.mul_le_mul_right _ h1) h
theorem step_pos {l p : Nat} (hp : 2 ≤ p) (h0 : 0 < l) (hl : l % p = 0) : 0 < l / p := Nat.div_pos (Nat.le_of_dvd h0 (Nat.dvd_of_mod_eq_zero hl)) (by omega)
theorem not384 {l L : Nat} (h0 : 0 < l) (hL : L < 4294967296 ^ 12) (h : l * 2 ^ 384 ≤ L) : False := by
  have h1 : 1 * 2 ^ 384 ≤ l * 2 ^ 384 := Nat.mul_le_mul_right _ h0
  rw [Nat.one_mul] at h1
  have h2 : (4294967296 : Nat) ^ 12 = 2 ^ 384 := by decide +kernel
  rw [h2] at hL
  exact absurd (Nat.lt_of_le_of_lt (Nat.le_trans h1 h) hL) (Nat.lt_irrefl _)
def isFr (B : gB) (ad : Nat → Nat) (ct : Nat → va_E) (p u l : Nat) : Prop := ct p = .inr (2, [.ref (ad (p + 1)), .ref (ad (p + 3))]) ∧ isW B ad ct (p + 1) u ∧ isW B ad ct (p + 3) l
def sameF (ct ct' : Nat → va_E) (p : Nat) : Prop := ∀ r, r ≤ p ∨ p + 4 < r → ct' r = ct r
theorem isFr.other {B : gB} {ad : Nat → Nat} {ct ct' : Nat → va_E} {p u l : Nat} (h : isFr B ad ct p u l) (hs : ∀ r, p ≤ r → r ≤ p + 4 → ct' r = ct r) : isFr B ad ct' p u l :=
  ⟨(hs p (by omega) (by omega)).trans h.1, h.2.1.frame (hs _ (by omega) (by omega)) (hs _ (by omega) (by omega)), h.2.2.frame (hs _ (by omega) (by omega)) (hs _ (by omega) (by omega))⟩
set_option maxHeartbeats 4000000 in
set_option maxRecDepth 100000 in
theorem c_X2_isCommon (B : gB) (ad : Nat → Nat) (ct : Nat → va_E) (n : Nat) (p u l : Nat) (hn : p + 4 < n) (h0 : ct p = .inr (2, [.ref (ad (p + 1)), .ref (ad (p + 3))])) (hU : isW B ad ct (p + 1) u) (hL : isW B ad ct (p + 3) l) (d : Nat) (hd : 0 < d) (hd31 : d < 2 ^ 31) : Ctr B yX2_isCommon cX2_isCommon 2 (some .boolean) 1 24 0 0 ad ct n [.ref (ad p), .int (nI d)] (gPip ad ct n (fun r => r = if u % d = 0 ∧ l % d = 0 then 1 else 0)) := by
  have hfr : sameF ct ct p := fun _ _ => rfl
  refine Ctr.ofG (L := [(0, .ref (ad p)), (1, .int (nI d))]) (by decide +kernel) rfl (Nat.le_of_ble_eq_true rfl) (fun E fx rt hnm => ?_)
  refine g_aload_n fx 0 dX2_isCommon_0 rfl ?_
  refine g_get (r := p) fx lkX2_10 (by omega) h0 rfl dX2_isCommon_1 ?_
  refine g_iload_n fx 1 dX2_isCommon_4 rfl ?_
  refine g_callVip (As := [.int (nI d)]) (rest := []) fx slX2_50 (c_X10_remainder B ad ct n (p + 1) u d (by omega) hU hd hd31) (by omega) (isW.ob hU).choose_spec rfl rfl rfl (Nat.le_of_ble_eq_true rfl) ⟨by decide, by decide⟩ ⟨by decide, by decide⟩ dX2_isCommon_5 (fun q1 hq1 => ?_)
  obtain rfl := hq1
  have hm1 := Nat.mod_lt u hd
  have hm2 := Nat.mod_lt l hd
  refine g_if_ne fx 26 dX2_isCommon_8 (by decide) (fun c8 => ?_) (fun c8 => ?_)
  · skip
    have hA : ¬ (u % d = 0 ∧ l % d = 0) := fun w => c8 (by rw [w.1]; rfl)
    refine g_iconst (v := nI 0) fx dX2_isCommon_26 (by decide +kernel) ?_
    refine g_zret fx rt dX2_isCommon_27 rfl ?_
    refine gPip.mk ?_
    first | (rw [if_pos hA]; rfl) | (rw [if_neg hA]; rfl)
  · skip
    have h1 : u % d = 0 := (nI_eq (by omega) (by omega)).mp (c8.trans (show (0 : Int32) = nI 0 by decide))
    refine g_aload_n fx 0 dX2_isCommon_11 rfl ?_
    refine g_get (r := p) fx lkX2_16 (by omega) h0 rfl dX2_isCommon_12 ?_
    refine g_iload_n fx 1 dX2_isCommon_15 rfl ?_
    refine g_callVip (As := [.int (nI d)]) (rest := []) fx slX2_50 (c_X10_remainder B ad ct n (p + 3) l d (by omega) hL hd hd31) (by omega) (isW.ob hL).choose_spec rfl rfl rfl (Nat.le_of_ble_eq_true rfl) ⟨by decide, by decide⟩ ⟨by decide, by decide⟩ dX2_isCommon_16 (fun q2 hq2 => ?_)
    obtain rfl := hq2
    refine g_if_ne fx 26 dX2_isCommon_19 (by decide) (fun c19 => ?_) (fun c19 => ?_)
    · skip
      have hA : ¬ (u % d = 0 ∧ l % d = 0) := fun w => c19 (by rw [w.2]; rfl)
      refine g_iconst (v := nI 0) fx dX2_isCommon_26 (by decide +kernel) ?_
      refine g_zret fx rt dX2_isCommon_27 rfl ?_
      refine gPip.mk ?_
      first | (rw [if_pos hA]; rfl) | (rw [if_neg hA]; rfl)
    · skip
      have hA : u % d = 0 ∧ l % d = 0 := ⟨h1, (nI_eq (by omega) (by omega)).mp (c19.trans (show (0 : Int32) = nI 0 by decide))⟩
      refine g_iconst (v := nI 1) fx dX2_isCommon_22 (by decide +kernel) ?_
      refine g_goto fx 27 dX2_isCommon_23 (by decide) ?_
      refine g_zret fx rt dX2_isCommon_27 rfl ?_
      refine gPip.mk ?_
      first | (rw [if_pos hA]; rfl) | (rw [if_neg hA]; rfl)
set_option maxHeartbeats 4000000 in
set_option maxRecDepth 100000 in
theorem c_X2_reduce (B : gB) (ad : Nat → Nat) (ct : Nat → va_E) (n : Nat) (p u l : Nat) (hn : p + 4 < n) (h0 : ct p = .inr (2, [.ref (ad (p + 1)), .ref (ad (p + 3))])) (hU : isW B ad ct (p + 1) u) (hL : isW B ad ct (p + 3) l) (hl : 0 < l) (hS : Sm l) : Ctr B yX2_reduce cX2_reduce 4 none 3 68 0 0 ad ct n [.ref (ad p)] (gPv ad n (fun ct' => isFr B ad ct' p (u / Nat.gcd u l) (l / Nat.gcd u l) ∧ sameF ct ct' p)) := by
  have hfr : sameF ct ct p := fun _ _ => rfl
  refine Ctr.ofG (L := [(0, .ref (ad p))]) (by decide +kernel) rfl (Nat.le_of_ble_eq_true rfl) (fun E fx rt hnm => ?_)
  refine g_iconst (v := nI 0) fx dX2_reduce_0 (by decide +kernel) ?_
  refine g_istore_n (L' := [(1, .int (nI 0)), (0, .ref (ad p))]) fx dX2_reduce_1 (by decide) rfl ?_
  have LP2 : ∀ (M : Nat) (i u1 l1 g : Nat) (ct1 : Nat → va_E), (i ≤ 17) → (ct1 p = .inr (2, [.ref (ad (p + 1)), .ref (ad (p + 3))])) → (isW B ad ct1 (p + 1) u1) → (isW B ad ct1 (p + 3) l1) → (sameF ct ct1 p) → (0 < l1) → (u1 * g = u) → (l1 * g = l) → (∀ k, k < i → ¬ (u1 % gPn k = 0 ∧ l1 % gPn k = 0)) →  (17 - i) < M → G B 4 E ad ct1 n 0 0 [(0, .ref (ad p)), (1, .int (nI i))] 2 [] := by
    intro M
    induction M with
    | zero => intro i u1 l1 g ct1 _ _ _ _ _ _ _ _ _ hM; exact absurd hM (Nat.not_lt_zero _)
    | succ M ih =>
      intro i u1 l1 g ct1 hi h0 hU hL hfr hl1 hg1 hg2 hno hM
      have ih2 := ih
      refine g_iload_n fx 1 dX2_reduce_2 rfl ?_
      refine g_primes fx stX2_38 dX2_reduce_3 ?_
      refine g_primesLen fx dX2_reduce_6 ?_
      refine g_isi (y := nI 17) (by decide +kernel) ?_
      refine g_icmp_ge fx 61 dX2_reduce_7 (by decide) (fun c7 => ?_) (fun c7 => ?_)
      · skip
        have hie : i = 17 := by have := (nI_leI (by omega) (by omega)).mp c7; omega
        rw [hie] at hno
        refine g_vret fx rt dX2_reduce_61 ?_
        obtain ⟨r1, r2⟩ := low_terms hl hS hg1 hg2 hno
        refine gPv.mk ⟨⟨h0, ?_, ?_⟩, hfr⟩
        · rw [← r1]; exact hU
        · rw [← r2]; exact hL
      · skip
        have hl1lt : l1 < 4294967296 ^ 12 := hL.lt
        have hlt : i < 17 := (nI_ltI (by omega) (by omega)).mp (Int32.not_le.mp c7)
        obtain ⟨hpe, hp2, hp60⟩ := gPr_n i hlt
        refine g_primes fx stX2_38 dX2_reduce_10 ?_
        refine g_iload_n fx 1 dX2_reduce_13 rfl ?_
        refine g_primeAt (j := i) fx (nI_toInt (by omega)) (by omega) dX2_reduce_14 ?_
        refine g_isi (y := nI (gPn i)) hpe ?_
        refine g_istore_n (L' := [(2, .int (nI (gPn i))), (0, .ref (ad p)), (1, .int (nI i))]) fx dX2_reduce_15 (by decide) rfl ?_
        refine g_iconst (v := nI 0) fx dX2_reduce_16 (by decide +kernel) ?_
        refine g_istore_n (L' := [(3, .int (nI 0)), (2, .int (nI (gPn i))), (0, .ref (ad p)), (1, .int (nI i))]) fx dX2_reduce_17 (by decide) rfl ?_
        have LP18 : ∀ (M : Nat) (k u2 l2 g2 : Nat) (ct2 : Nat → va_E), (k ≤ 384) → (l2 * 2 ^ k ≤ l1) → (ct2 p = .inr (2, [.ref (ad (p + 1)), .ref (ad (p + 3))])) → (isW B ad ct2 (p + 1) u2) → (isW B ad ct2 (p + 3) l2) → (sameF ct ct2 p) → (u2 * g2 = u) → (l2 * g2 = l) → (∀ k, k < i → ¬ (u2 % gPn k = 0 ∧ l2 % gPn k = 0)) → (0 < l2) →  (384 - k) < M → G B 4 E ad ct2 n 0 0 [(0, .ref (ad p)), (1, .int (nI i)), (2, .int (nI (gPn i))), (3, .int (nI k))] 18 [] := by
          intro M
          induction M with
          | zero => intro k u2 l2 g2 ct2 _ _ _ _ _ _ _ _ _ _ hM; exact absurd hM (Nat.not_lt_zero _)
          | succ M ih =>
            intro k u2 l2 g2 ct2 hk hkb h0 hU hL hfr hg1 hg2 hno hl2 hM
            have ih18 := ih
            refine g_iload_n fx 3 dX2_reduce_18 rfl ?_
            refine g_sipush (v := nI 384) fx dX2_reduce_19 (by decide +kernel) ?_
            refine g_icmp_ge fx 55 dX2_reduce_22 (by decide) (fun c22 => ?_) (fun c22 => ?_)
            · skip
              have hke : k = 384 := by have := (nI_leI (by omega) (by omega)).mp c22; omega
              rw [hke] at hkb
              exact absurd (not384 hl2 hl1lt hkb) id
            · skip
              have hk4 : k < 384 := (nI_ltI (by omega) (by omega)).mp (Int32.not_le.mp c22)
              refine g_aload_n fx 0 dX2_reduce_25 rfl ?_
              refine g_iload_n fx 2 dX2_reduce_26 rfl ?_
              refine g_callVip (As := [.int (nI (gPn i))]) (rest := []) fx slX2_42 (c_X2_isCommon B ad ct2 n p u2 l2 hn h0 hU hL (gPn i) (by omega) (by omega)) (by omega) h0 rfl rfl rfl (Nat.le_of_ble_eq_true rfl) ⟨by decide, by decide⟩ ⟨by decide, by decide⟩ dX2_reduce_27 (fun q3 hq3 => ?_)
              refine g_if_eq fx 55 dX2_reduce_30 (by decide) (fun c30 => ?_) (fun c30 => ?_)
              · skip
                have hex : ¬ (u2 % gPn i = 0 ∧ l2 % gPn i = 0) := if01_z.mp (hq3 ▸ c30)
                refine g_iinc (L' := [(1, .int (nI (i + 1))), (0, .ref (ad p)), (2, .int (nI (gPn i))), (3, .int (nI k))]) fx (nI (i + 1)) 1 dX2_reduce_55 rfl (gInc _) (by decide) rfl ?_
                refine g_goto fx 2 dX2_reduce_58 (by decide) ?_
                refine g_locals (L' := [(0, .ref (ad p)), (1, .int (nI (i + 1)))]) [1, 0] rfl ?_
                exact ih2 (i + 1) u2 l2 g2 _ (by omega) h0 hU hL hfr hl2 hg1 hg2 (fun k hk => by by_cases q : k = i; (rw [q]; exact hex); (exact hno k (by omega))) (by omega)
              · skip
                have hcm : u2 % gPn i = 0 ∧ l2 % gPn i = 0 := if01_n.mp (hq3 ▸ c30)
                refine g_aload_n fx 0 dX2_reduce_33 rfl ?_
                refine g_get (r := p) fx lkX2_10 (by omega) h0 rfl dX2_reduce_34 ?_
                refine g_iload_n fx 2 dX2_reduce_37 rfl ?_
                refine g_callVv (As := [.int (nI (gPn i))]) (rest := []) fx slX2_46 (c_X10_divide B ad ct2 n (p + 1) u2 (gPn i) (by omega) hU (by omega) (by omega)) (by omega) (isW.ob hU).choose_spec rfl rfl rfl (Nat.le_of_ble_eq_true rfl) ⟨by decide, by decide⟩ ⟨by decide, by decide⟩ dX2_reduce_38 (fun ct3 hz3 => ?_)
                obtain ⟨hw3, hs3⟩ := hz3
                have h0 : ct3 p = .inr (2, [.ref (ad (p + 1)), .ref (ad (p + 3))]) := (hs3 p (by omega) (by omega)).trans h0
                have hL : isW B ad ct3 (p + 3) l2 := hL.other hs3 (by omega) (by omega) (by omega)
                have hU := hw3
                have hfr : sameF ct ct3 p := fun r hr => (hs3 r (by omega) (by omega)).trans (hfr r hr)
                refine g_aload_n fx 0 dX2_reduce_41 rfl ?_
                refine g_get (r := p) fx lkX2_16 (by omega) h0 rfl dX2_reduce_42 ?_
                refine g_iload_n fx 2 dX2_reduce_45 rfl ?_
                refine g_callVv (As := [.int (nI (gPn i))]) (rest := []) fx slX2_46 (c_X10_divide B ad ct3 n (p + 3) l2 (gPn i) (by omega) hL (by omega) (by omega)) (by omega) (isW.ob hL).choose_spec rfl rfl rfl (Nat.le_of_ble_eq_true rfl) ⟨by decide, by decide⟩ ⟨by decide, by decide⟩ dX2_reduce_46 (fun ct4 hz4 => ?_)
                obtain ⟨hw4, hs4⟩ := hz4
                have h0 : ct4 p = .inr (2, [.ref (ad (p + 1)), .ref (ad (p + 3))]) := (hs4 p (by omega) (by omega)).trans h0
                have hU : isW B ad ct4 (p + 1) (u2 / gPn i) := hU.other hs4 (by omega) (by omega) (by omega)
                have hL := hw4
                have hfr : sameF ct ct4 p := fun r hr => (hs4 r (by omega) (by omega)).trans (hfr r hr)
                refine g_iinc (L' := [(3, .int (nI (k + 1))), (0, .ref (ad p)), (1, .int (nI i)), (2, .int (nI (gPn i)))]) fx (nI (k + 1)) 3 dX2_reduce_49 rfl (gInc _) (by decide) rfl ?_
                refine g_goto fx 18 dX2_reduce_52 (by decide) ?_
                refine g_locals (L' := [(0, .ref (ad p)), (1, .int (nI i)), (2, .int (nI (gPn i))), (3, .int (nI (k + 1)))]) [1, 2, 3, 0] rfl ?_
                exact ih18 (k + 1) (u2 / gPn i) (l2 / gPn i) (gPn i * g2) _ (by omega) (step_two hp2 hcm.2 hkb) h0 hU hL hfr ((step_mul hcm.1).trans hg1) ((step_mul hcm.2).trans hg2) (fun k hk => no_common (hno k hk) hcm.1 hcm.2) (step_pos hp2 hl2 hcm.2) (by omega)
        refine g_locals (L' := [(0, .ref (ad p)), (1, .int (nI i)), (2, .int (nI (gPn i))), (3, .int (nI 0))]) [2, 3, 1, 0] rfl ?_
        exact LP18 385 0 u1 l1 g ct1 (by omega) (by rw [Nat.pow_zero, Nat.mul_one]; exact Nat.le_refl _) h0 hU hL hfr hg1 hg2 hno hl1 (by omega)
  refine g_locals (L' := [(0, .ref (ad p)), (1, .int (nI 0))]) [1, 0] rfl ?_
  exact LP2 18 0 u l 1 ct (by omega) h0 hU hL hfr hl (Nat.mul_one _) (Nat.mul_one _) (fun k hk => absurd hk (by omega)) (by omega)
