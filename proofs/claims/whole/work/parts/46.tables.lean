theorem facP_lt {c : Nat → Nat} {n i : Nat} (h : sumF c n ≤ 60) (hi : i < n) : facP c i * fac (c i) ≤ fac 60 := by
  have h1 : facP c (i + 1) ≤ fac (sumF c (i + 1)) := facP_le (i + 1)
  have h2 : sumF c (i + 1) ≤ sumF c n := sumF_le2 hi
  exact Nat.le_trans h1 (fac_mono (Nat.le_trans h2 h))
theorem facP_lt2 {c : Nat → Nat} {n : Nat} (h : sumF c n ≤ 60) : facP c n ≤ fac 60 := Nat.le_trans (facP_le n) (fac_mono h)
theorem up_fn {α : Type} {f : Nat → α} {k i : Nat} {x : α} (h : i ≠ k) : va_up f k x i = f i := va_up_ne _ _ h
def tSum (top N : Nat) (gc : Nat → Nat) (cs : Nat → Nat → Nat) (n : Nat) (t : Nat) : Nat :=
  if t = 0 then sumF (fun j => if top / facP (cs j) N ≤ top / facP gc N then top / facP (cs j) N else 0) n
  else if t = 1 then sumF (fun j => if cs j 0 ≤ gc 0 then top / facP (cs j) N else 0) n
  else if t = 2 then sumF (fun j => if gc 0 ≤ cs j 0 then top / facP (cs j) N else 0) n
  else top / facP gc N
theorem tSum_up0 {top N : Nat} {gc : Nat → Nat} {cs : Nat → Nat → Nat} {n : Nat} {v : Nat → Nat} : tSum top N gc (va_up cs n v) (n + 1) 0 = tSum top N gc cs n 0 + (if top / facP v N ≤ top / facP gc N then top / facP v N else 0) := by
  have hu : ∀ j, j < n → va_up cs n v j = cs j := fun j hj => va_up_ne _ _ (by omega)
  have h1 : va_up cs n v n = v := va_up_self _ _ _
  show sumF _ n + _ = sumF _ n + _
  congr 1
  · exact sumF_congr n (fun j hj => by rw [hu j hj])
  · simp only [h1]
theorem tSum_up1 {top N : Nat} {gc : Nat → Nat} {cs : Nat → Nat → Nat} {n : Nat} {v : Nat → Nat} : tSum top N gc (va_up cs n v) (n + 1) 1 = tSum top N gc cs n 1 + (if v 0 ≤ gc 0 then top / facP v N else 0) := by
  have hu : ∀ j, j < n → va_up cs n v j = cs j := fun j hj => va_up_ne _ _ (by omega)
  have h1 : va_up cs n v n = v := va_up_self _ _ _
  show sumF _ n + _ = sumF _ n + _
  congr 1
  · exact sumF_congr n (fun j hj => by rw [hu j hj])
  · simp only [h1]
theorem tSum_up2 {top N : Nat} {gc : Nat → Nat} {cs : Nat → Nat → Nat} {n : Nat} {v : Nat → Nat} : tSum top N gc (va_up cs n v) (n + 1) 2 = tSum top N gc cs n 2 + (if gc 0 ≤ v 0 then top / facP v N else 0) := by
  have hu : ∀ j, j < n → va_up cs n v j = cs j := fun j hj => va_up_ne _ _ (by omega)
  have h1 : va_up cs n v n = v := va_up_self _ _ _
  show sumF _ n + _ = sumF _ n + _
  congr 1
  · exact sumF_congr n (fun j hj => by rw [hu j hj])
  · simp only [h1]
theorem tSum_le {top N : Nat} {gc : Nat → Nat} {cs : Nat → Nat → Nat} {n t : Nat} (ht : t < 3) : tSum top N gc cs n t ≤ n * top := by
  have h3 : t = 0 ∨ t = 1 ∨ t = 2 := by omega
  rcases h3 with rfl | rfl | rfl
  · refine sumF_le n (fun j _ => ?_)
    by_cases q : top / facP (cs j) N ≤ top / facP gc N
    · rw [if_pos q]; exact Nat.div_le_self _ _
    · rw [if_neg q]; exact Nat.zero_le _
  · refine sumF_le n (fun j _ => ?_)
    by_cases q : cs j 0 ≤ gc 0
    · rw [if_pos q]; exact Nat.div_le_self _ _
    · rw [if_neg q]; exact Nat.zero_le _
  · refine sumF_le n (fun j _ => ?_)
    by_cases q : gc 0 ≤ cs j 0
    · rw [if_pos q]; exact Nat.div_le_self _ _
    · rw [if_neg q]; exact Nat.zero_le _
theorem nI_gt20 {m : Nat} (h : m < 2 ^ 30) : nI m > nI 20000 ↔ 20000 < m := nI_ltI (by omega) (by omega)
theorem add_lt960 {x t n y : Nat} (h : x ≤ n * t) (hn : n ≤ 20000) (ht : t < 2 ^ 546) (hy : y ≤ t) : x + y < 16777216 ^ 40 := Nat.lt_of_le_of_lt (Nat.add_le_add_left hy x) (lt960 (x20001 h hn ht))
set_option maxHeartbeats 4000000 in
set_option maxRecDepth 100000 in
theorem c_X12_tables (B : gB) (ad : Nat → Nat) (ct : Nat → va_E) (n : Nat) (f : Nat → Int32) (gq gl go gt gc gu gw v h rm cm : Nat → Nat) (fk fa : Nat → Int32) (tp wt sn wh : Nat → Nat) (hn : 33 ≤ n) (h0 : ct 0 = mObj ad f) (hq : ct 1 = .inl (B.2.1 0, 40, .inl (nF gq))) (hlf : ct 2 = .inl (B.2.1 0, 40, .inl (nF gl))) (ho : ct 3 = .inl (B.2.1 0, 40, .inl (nF go))) (ht : ct 4 = .inl (B.2.1 0, 40, .inl (nF gt))) (hc : ct 5 = .inl (B.2.1 0, 25, .inl (nF gc))) (hu : ct 9 = .inl (B.2.1 0, 160, .inl (nF gu))) (hw : ct 10 = .inl (B.2.1 0, 160, .inl (nF gw))) (hv : ct 12 = .inl (B.2.1 0, 25, .inl (nF v))) (hh : ct 13 = .inl (B.2.1 0, 25, .inl (nF h))) (hrm : ct 14 = .inl (B.2.1 0, 5, .inl (nF rm))) (hcm : ct 15 = .inl (B.2.1 0, 5, .inl (nF cm))) (hk : ct 16 = .inl (B.2.1 2, 500000, .inl fk)) (ha : ct 17 = .inl (B.2.1 2, 20000, .inl fa)) (htp : ct 18 = .inl (B.2.1 0, 40, .inl (nF tp))) (hwt : ct 19 = .inl (B.2.1 0, 40, .inl (nF wt))) (hsn : ct 20 = .inl (B.2.1 0, 40, .inl (nF sn))) (hwh : ct 21 = .inl (B.2.1 0, 40, .inl (nF wh))) (R C T : Nat) (hR : f 4 = nI R) (hC : f 5 = nI C) (hT : f 7 = nI T) (hR5 : R ≤ 5) (hC5 : C ≤ 5) (hRp : 0 < R) (hCp : 0 < C) (hgb : ∀ j, j < 25 → gc j ≤ 60) (hTs : sumF (fun r => sumF (fun k => gc (C * r + k)) C) R = T) (hT60 : T ≤ 60) : Ctr B yX12_tables cX12_tables 4 (some .int) 4 97 0 0 ad ct n [.ref (ad 0)] (gPi ad n (fun q ct' => (T = 0 ∧ q = -5 ∧ ct' = ct) ∨ (0 < T ∧ 20000 < (tTot R C (fun r => sumF (fun k => gc (C * r + k)) C) (fun c => sumF (fun k => gc (C * k + c)) R)) ∧ q = -7 ∧ (∃ v' h' rm' cm', ct' 12 = .inl (B.2.1 0, 25, .inl (nF v')) ∧ ct' 13 = .inl (B.2.1 0, 25, .inl (nF h')) ∧ ct' 14 = .inl (B.2.1 0, 5, .inl (nF rm')) ∧ ct' 15 = .inl (B.2.1 0, 5, .inl (nF cm'))) ∧ ∀ r, r ≠ 12 → r ≠ 13 → r ≠ 14 → r ≠ 15 → ct' r = ct r) ∨ (0 < T ∧ (tTot R C (fun r => sumF (fun k => gc (C * r + k)) C) (fun c => sumF (fun k => gc (C * k + c)) R)) ≤ 20000 ∧ q = nI (tTot R C (fun r => sumF (fun k => gc (C * r + k)) C) (fun c => sumF (fun k => gc (C * k + c)) R)) ∧ ∃ F fk' fa' cs gq' gl' go' gt' gu' gw' v' h' rm' cm' tp' wt' sn' wh', ct' 0 = mObj ad F ∧ ct' 1 = .inl (B.2.1 0, 40, .inl (nF gq')) ∧ ct' 2 = .inl (B.2.1 0, 40, .inl (nF gl')) ∧ ct' 3 = .inl (B.2.1 0, 40, .inl (nF go')) ∧ ct' 4 = .inl (B.2.1 0, 40, .inl (nF gt')) ∧ ct' 9 = .inl (B.2.1 0, 160, .inl (nF gu')) ∧ ct' 10 = .inl (B.2.1 0, 160, .inl (nF gw')) ∧ ct' 12 = .inl (B.2.1 0, 25, .inl (nF v')) ∧ ct' 13 = .inl (B.2.1 0, 25, .inl (nF h')) ∧ ct' 14 = .inl (B.2.1 0, 5, .inl (nF rm')) ∧ ct' 15 = .inl (B.2.1 0, 5, .inl (nF cm')) ∧ ct' 16 = .inl (B.2.1 2, 500000, .inl fk') ∧ ct' 17 = .inl (B.2.1 2, 20000, .inl fa') ∧ ct' 18 = .inl (B.2.1 0, 40, .inl (nF tp')) ∧ ct' 19 = .inl (B.2.1 0, 40, .inl (nF wt')) ∧ ct' 20 = .inl (B.2.1 0, 40, .inl (nF sn')) ∧ ct' 21 = .inl (B.2.1 0, 40, .inl (nF wh')) ∧ (F 25 = nI (tTot R C (fun r => sumF (fun k => gc (C * r + k)) C) (fun c => sumF (fun k => gc (C * k + c)) R)) ∧ F 26 = nI R ∧ F 27 = nI C ∧ F 12 = nI 0 ∧ F 13 = nI (gc 0) ∧ F 14 = nI T ∧ (∀ k, k ≠ 12 → k ≠ 13 → k ≠ 14 → k ≠ 25 → k ≠ 26 → k ≠ 27 → F k = f k)) ∧ (∀ j, j < (tTot R C (fun r => sumF (fun k => gc (C * r + k)) C) (fun c => sumF (fun k => gc (C * k + c)) R)) → Val C (fun r => sumF (fun k => gc (C * r + k)) C) (fun c => sumF (fun k => gc (C * k + c)) R) (C * R) (cs j) ∧ tIdx (C * R) C (fun r => sumF (fun k => gc (C * r + k)) C) (fun c => sumF (fun k => gc (C * k + c)) R) (cs j) = j ∧ (∀ k, k < (C * R) → fk' (25 * j + k) = nI (cs j k)) ∧ fa' j = cmpI ((facP (fun r => sumF (fun k => gc (C * r + k)) C) R * facP (fun c => sumF (fun k => gc (C * k + c)) R) C) / facP (cs j) (C * R)) ((facP (fun r => sumF (fun k => gc (C * r + k)) C) R * facP (fun c => sumF (fun k => gc (C * k + c)) R) C) / facP gc (C * R))) ∧ (∀ t, t < 4 → okN gu' (40 * t) ∧ okN gw' (40 * t) ∧ nv gu' (40 * t) = tSum (facP (fun r => sumF (fun k => gc (C * r + k)) C) R * facP (fun c => sumF (fun k => gc (C * k + c)) R) C) (C * R) gc cs (tTot R C (fun r => sumF (fun k => gc (C * r + k)) C) (fun c => sumF (fun k => gc (C * k + c)) R)) t / Nat.gcd (tSum (facP (fun r => sumF (fun k => gc (C * r + k)) C) R * facP (fun c => sumF (fun k => gc (C * k + c)) R) C) (C * R) gc cs (tTot R C (fun r => sumF (fun k => gc (C * r + k)) C) (fun c => sumF (fun k => gc (C * k + c)) R)) t) (fac T) ∧ nv gw' (40 * t) = fac T / Nat.gcd (tSum (facP (fun r => sumF (fun k => gc (C * r + k)) C) R * facP (fun c => sumF (fun k => gc (C * k + c)) R) C) (C * R) gc cs (tTot R C (fun r => sumF (fun k => gc (C * r + k)) C) (fun c => sumF (fun k => gc (C * k + c)) R)) t) (fac T)) ∧ ∀ r, (r = 5 ∨ r = 6 ∨ r = 7 ∨ r = 8 ∨ r = 11 ∨ 21 < r) → ct' r = ct r))) := by
  have hfr : ∀ r, (r = 5 ∨ r = 6 ∨ r = 7 ∨ r = 8 ∨ r = 11 ∨ 21 < r) → ct r = ct r := fun _ _ => rfl
  have h25 : C * R ≤ 25 := Nat.mul_le_mul hC5 hR5
  have hsw : sumF (fun r => sumF (fun k => gc (C * r + k)) C) R = sumF (fun c => sumF (fun k => gc (C * k + c)) R) C := sum_swap R
  have hr60 : ∀ r, r < R → (fun r => sumF (fun k => gc (C * r + k)) C) r ≤ 60 := fun r hr => Nat.le_trans (sumF_mem (f := (fun r => sumF (fun k => gc (C * r + k)) C)) hr) (by omega)
  have hc60 : ∀ c, c < C → (fun c => sumF (fun k => gc (C * k + c)) R) c ≤ 60 := fun c hc => Nat.le_trans (sumF_mem (f := (fun c => sumF (fun k => gc (C * k + c)) R)) hc) (by omega)
  refine Ctr.ofG (L := [(0, .ref (ad 0))]) (by decide +kernel) rfl (Nat.le_of_ble_eq_true rfl) (fun E fx rt hnm => ?_)
  refine g_aload_n fx 0 dX12_tables_0 rfl ?_
  refine g_get (r := 0) fx lkX12_163 (by omega) h0 rfl dX12_tables_1 ?_
  refine g_isi (y := nI T) hT ?_
  refine g_if_ne fx 10 dX12_tables_4 (by decide) (fun c4 => ?_) (fun c4 => ?_)
  · skip
    have hTp : 0 < T := Nat.pos_of_ne_zero (fun q => c4 (by rw [q]; rfl))
    refine g_iconst (v := nI 1) fx dX12_tables_10 (by decide +kernel) ?_
    refine g_istore_n (L' := [(1, .int (nI 1)), (0, .ref (ad 0))]) fx dX12_tables_11 (by decide) rfl ?_
    refine g_aload_n fx 1 dX12_tables_12 rfl ?_
    refine g_callVv (As := []) (rest := []) fx slX12_210 (c_X12_firstTable B ad ct n f gc v h rm cm hn h0 hc hv hh hrm hcm R C hR hC hR5 hC5 hCp hgb hr60 hc60) (by omega) h0 rfl rfl rfl (Nat.le_of_ble_eq_true rfl) ⟨by decide, by decide⟩ ⟨by decide, by decide⟩ dX12_tables_13 (fun ct1 hz1 => ?_)
    obtain ⟨v1, h1, rm1, cm1, hv, hh, hrm, hcm, her1, hec1, hlo1, hval1, hs1⟩ := hz1
    have hsm1 : sumF rm1 R = sumF cm1 C := by rw [sumF_congr R her1, sumF_congr C hec1]; exact hsw
    have h0 : ct1 0 = mObj ad f := (hs1 0 (by decide) (by decide) (by decide) (by decide)).trans h0
    have hq : ct1 1 = .inl (B.2.1 0, 40, .inl (nF gq)) := (hs1 1 (by decide) (by decide) (by decide) (by decide)).trans hq
    have hlf : ct1 2 = .inl (B.2.1 0, 40, .inl (nF gl)) := (hs1 2 (by decide) (by decide) (by decide) (by decide)).trans hlf
    have ho : ct1 3 = .inl (B.2.1 0, 40, .inl (nF go)) := (hs1 3 (by decide) (by decide) (by decide) (by decide)).trans ho
    have ht : ct1 4 = .inl (B.2.1 0, 40, .inl (nF gt)) := (hs1 4 (by decide) (by decide) (by decide) (by decide)).trans ht
    have hc : ct1 5 = .inl (B.2.1 0, 25, .inl (nF gc)) := (hs1 5 (by decide) (by decide) (by decide) (by decide)).trans hc
    have hu : ct1 9 = .inl (B.2.1 0, 160, .inl (nF gu)) := (hs1 9 (by decide) (by decide) (by decide) (by decide)).trans hu
    have hw : ct1 10 = .inl (B.2.1 0, 160, .inl (nF gw)) := (hs1 10 (by decide) (by decide) (by decide) (by decide)).trans hw
    have hk : ct1 16 = .inl (B.2.1 2, 500000, .inl fk) := (hs1 16 (by decide) (by decide) (by decide) (by decide)).trans hk
    have ha : ct1 17 = .inl (B.2.1 2, 20000, .inl fa) := (hs1 17 (by decide) (by decide) (by decide) (by decide)).trans ha
    have htp : ct1 18 = .inl (B.2.1 0, 40, .inl (nF tp)) := (hs1 18 (by decide) (by decide) (by decide) (by decide)).trans htp
    have hwt : ct1 19 = .inl (B.2.1 0, 40, .inl (nF wt)) := (hs1 19 (by decide) (by decide) (by decide) (by decide)).trans hwt
    have hsn : ct1 20 = .inl (B.2.1 0, 40, .inl (nF sn)) := (hs1 20 (by decide) (by decide) (by decide) (by decide)).trans hsn
    have hwh : ct1 21 = .inl (B.2.1 0, 40, .inl (nF wh)) := (hs1 21 (by decide) (by decide) (by decide) (by decide)).trans hwh
    have hfr : ∀ r, (r = 5 ∨ r = 6 ∨ r = 7 ∨ r = 8 ∨ r = 11 ∨ 21 < r) → ct1 r = ct r := fun r hp => (hs1 r (by omega) (by omega) (by omega) (by omega)).trans (hfr r hp)
    have LP16 : ∀ (M : Nat) (m : Nat) (ct2 : Nat → va_E) (v2 h2 : Nat → Nat), (m ≤ 20001) → (tIdx (C * R) C rm1 cm1 v2 + 1 = m) → (Val C rm1 cm1 (C * R) v2) → (∀ j, j < (C * R) → h2 j = tHi C rm1 cm1 v2 j) → (∀ r, r ≠ 12 → r ≠ 13 → r ≠ 14 → r ≠ 15 → ct2 r = ct r) → (ct2 0 = mObj ad f) → (ct2 1 = .inl (B.2.1 0, 40, .inl (nF gq))) → (ct2 2 = .inl (B.2.1 0, 40, .inl (nF gl))) → (ct2 3 = .inl (B.2.1 0, 40, .inl (nF go))) → (ct2 4 = .inl (B.2.1 0, 40, .inl (nF gt))) → (ct2 5 = .inl (B.2.1 0, 25, .inl (nF gc))) → (ct2 9 = .inl (B.2.1 0, 160, .inl (nF gu))) → (ct2 10 = .inl (B.2.1 0, 160, .inl (nF gw))) → (ct2 12 = .inl (B.2.1 0, 25, .inl (nF v2))) → (ct2 13 = .inl (B.2.1 0, 25, .inl (nF h2))) → (ct2 14 = .inl (B.2.1 0, 5, .inl (nF rm1))) → (ct2 15 = .inl (B.2.1 0, 5, .inl (nF cm1))) → (ct2 16 = .inl (B.2.1 2, 500000, .inl fk)) → (ct2 17 = .inl (B.2.1 2, 20000, .inl fa)) → (ct2 18 = .inl (B.2.1 0, 40, .inl (nF tp))) → (ct2 19 = .inl (B.2.1 0, 40, .inl (nF wt))) → (ct2 20 = .inl (B.2.1 0, 40, .inl (nF sn))) → (ct2 21 = .inl (B.2.1 0, 40, .inl (nF wh))) → (∀ r, (r = 5 ∨ r = 6 ∨ r = 7 ∨ r = 8 ∨ r = 11 ∨ 21 < r) → ct2 r = ct r) →  (20002 - m) < M → G B 4 E ad ct2 n 0 0 [(0, .ref (ad 0)), (1, .int (nI m))] 16 [] := by
      intro M
      induction M with
      | zero => intro m ct2 v2 h2 _ _ _ _ _ _ _ _ _ _ _ _ _ _ _ _ _ _ _ _ _ _ _ _ hM; exact absurd hM (Nat.not_lt_zero _)
      | succ M ih =>
        intro m ct2 v2 h2 hm1 hidx hval hhi hfr4 h0 hq hlf ho ht hc hu hw hv hh hrm hcm hk ha htp hwt hsn hwh hfr hM
        have ih16 := ih
        refine g_iload_n fx 1 dX12_tables_16 rfl ?_
        refine g_sipush (v := nI 20000) fx dX12_tables_17 (by decide +kernel) ?_
        refine g_icmp_gt fx 36 dX12_tables_20 (by decide) (fun c20 => ?_) (fun c20 => ?_)
        · skip
          have hm2 : 20000 < m := (nI_gt20 (by omega)).mp c20
          refine g_iload_n fx 1 dX12_tables_36 rfl ?_
          refine g_sipush (v := nI 20000) fx dX12_tables_37 (by decide +kernel) ?_
          refine g_icmp_le fx 46 dX12_tables_40 (by decide) (fun c40 => ?_) (fun c40 => ?_)
          · exact absurd ((nI_leI (by omega) (by omega)).mp c40) (by omega)
          refine g_bipush (v := (-7)) fx dX12_tables_43 (by decide +kernel) ?_
          refine g_iret fx rt dX12_tables_45 ?_
          refine gPi.mk (Or.inr (Or.inl ⟨hTp, ?_, rfl, ⟨v2, h2, rm1, cm1, hv, hh, hrm, hcm⟩, hfr4⟩))
          have q := idx_ltc hCp hval
          rw [tTot_of hCp her1 hec1 v2] at q
          omega
        · skip
          have hm2 : m ≤ 20000 := Nat.le_of_not_lt (fun q => c20 ((nI_gt20 (by omega)).mpr q))
          refine g_aload_n fx 0 dX12_tables_23 rfl ?_
          refine g_callVi (As := []) (rest := []) fx slX12_213 (c_X12_nextTable B ad ct2 n f v2 h2 rm1 cm1 hn h0 hv hh hrm hcm R C hR hC hR5 hC5 hCp (fun r hr => by rw [her1 r hr]; exact hr60 r hr) (fun c hc => by rw [hec1 c hc]; exact hc60 c hc) hsm1 hval hhi) (by omega) h0 rfl rfl rfl (Nat.le_of_ble_eq_true rfl) ⟨by decide, by decide⟩ ⟨by decide, by decide⟩ dX12_tables_24 (fun q2 ct3 hq2 => ?_)
          refine g_if_eq fx 36 dX12_tables_27 (by decide) (fun c27 => ?_) (fun c27 => ?_)
          · skip
            have hzq2 : ct3 = ct2 ∧ ∀ j, j < C * R → v2 j = h2 j := by
              rcases hq2 with ⟨-, e3, hall⟩ | ⟨e1, -⟩
              · exact ⟨e3, hall⟩
              · exact absurd (e1.symm.trans c27) (by decide)
            obtain ⟨e3, hall⟩ := hzq2
            subst e3
            have hmT : m = (tTot R C (fun r => sumF (fun k => gc (C * r + k)) C) (fun c => sumF (fun k => gc (C * k + c)) R)) := by rw [← hidx, idx_last hCp hval (fun j hj => (hall j hj).trans (hhi j hj))]; exact tTot_of hCp her1 hec1 v2
            refine g_iload_n fx 1 dX12_tables_36 rfl ?_
            refine g_sipush (v := nI 20000) fx dX12_tables_37 (by decide +kernel) ?_
            refine g_icmp_le fx 46 dX12_tables_40 (by decide) (fun c40 => ?_) (fun c40 => ?_)
            rotate_left
            · exact absurd ((nI_leI (by omega) (by omega)).mpr hm2) c40
            refine g_aload_n fx 0 dX12_tables_46 rfl ?_
            refine g_get (r := 0) fx lkX12_69 (by omega) h0 rfl dX12_tables_47 ?_
            refine g_iconst (v := nI 0) fx dX12_tables_50 (by decide +kernel) ?_
            refine g_lconst (v := lN 1) fx dX12_tables_51 (by decide +kernel) ?_
            refine g_callSv (As := [.ref (ad 18), .int (nI 0), .long (lN 1)]) (rest := []) fx slX12_127 (c_X12_set B ad ct3 n 18 0 40 tp (by omega) (by decide) (by decide) htp 1 (by decide)) rfl rfl (Nat.le_of_ble_eq_true rfl) ⟨by decide, by decide⟩ ⟨by decide, by decide⟩ dX12_tables_52 (fun ct4 hz4 => ?_)
            obtain ⟨tp1, et4, -, hokt, hvt⟩ := hz4
            have hfr : ∀ r, (r = 5 ∨ r = 6 ∨ r = 7 ∨ r = 8 ∨ r = 11 ∨ 21 < r) → ct4 r = ct r := fun r hp => (congrFun et4 r).trans ((va_up_ne _ _ (by omega)).trans (hfr r hp))
            have h0 : ct4 0 = mObj ad f := (congrFun et4 _).trans ((va_up_ne _ _ (by omega)).trans h0)
            have hq : ct4 1 = .inl (B.2.1 0, 40, .inl (nF gq)) := (congrFun et4 _).trans ((va_up_ne _ _ (by omega)).trans hq)
            have hlf : ct4 2 = .inl (B.2.1 0, 40, .inl (nF gl)) := (congrFun et4 _).trans ((va_up_ne _ _ (by omega)).trans hlf)
            have ho : ct4 3 = .inl (B.2.1 0, 40, .inl (nF go)) := (congrFun et4 _).trans ((va_up_ne _ _ (by omega)).trans ho)
            have ht : ct4 4 = .inl (B.2.1 0, 40, .inl (nF gt)) := (congrFun et4 _).trans ((va_up_ne _ _ (by omega)).trans ht)
            have hc : ct4 5 = .inl (B.2.1 0, 25, .inl (nF gc)) := (congrFun et4 _).trans ((va_up_ne _ _ (by omega)).trans hc)
            have hu : ct4 9 = .inl (B.2.1 0, 160, .inl (nF gu)) := (congrFun et4 _).trans ((va_up_ne _ _ (by omega)).trans hu)
            have hw : ct4 10 = .inl (B.2.1 0, 160, .inl (nF gw)) := (congrFun et4 _).trans ((va_up_ne _ _ (by omega)).trans hw)
            have hv : ct4 12 = .inl (B.2.1 0, 25, .inl (nF v2)) := (congrFun et4 _).trans ((va_up_ne _ _ (by omega)).trans hv)
            have hh : ct4 13 = .inl (B.2.1 0, 25, .inl (nF h2)) := (congrFun et4 _).trans ((va_up_ne _ _ (by omega)).trans hh)
            have hrm : ct4 14 = .inl (B.2.1 0, 5, .inl (nF rm1)) := (congrFun et4 _).trans ((va_up_ne _ _ (by omega)).trans hrm)
            have hcm : ct4 15 = .inl (B.2.1 0, 5, .inl (nF cm1)) := (congrFun et4 _).trans ((va_up_ne _ _ (by omega)).trans hcm)
            have hk : ct4 16 = .inl (B.2.1 2, 500000, .inl fk) := (congrFun et4 _).trans ((va_up_ne _ _ (by omega)).trans hk)
            have ha : ct4 17 = .inl (B.2.1 2, 20000, .inl fa) := (congrFun et4 _).trans ((va_up_ne _ _ (by omega)).trans ha)
            have htp : ct4 18 = .inl (B.2.1 0, 40, .inl (nF tp1)) := by rw [et4, va_up_self]
            have hwt : ct4 19 = .inl (B.2.1 0, 40, .inl (nF wt)) := (congrFun et4 _).trans ((va_up_ne _ _ (by omega)).trans hwt)
            have hsn : ct4 20 = .inl (B.2.1 0, 40, .inl (nF sn)) := (congrFun et4 _).trans ((va_up_ne _ _ (by omega)).trans hsn)
            have hwh : ct4 21 = .inl (B.2.1 0, 40, .inl (nF wh)) := (congrFun et4 _).trans ((va_up_ne _ _ (by omega)).trans hwh)
            refine g_iconst (v := nI 0) fx dX12_tables_55 (by decide +kernel) ?_
            refine g_istore_n (L' := [(2, .int (nI 0)), (0, .ref (ad 0)), (1, .int (nI m))]) fx dX12_tables_56 (by decide) rfl ?_
            have LP57 : ∀ (M : Nat) (i : Nat) (ct5 : Nat → va_E) (tp2 : Nat → Nat), (i ≤ R) → (okN tp2 0) → (nv tp2 0 = facP (fun r => sumF (fun k => gc (C * r + k)) C) i) → (ct5 0 = mObj ad f) → (ct5 1 = .inl (B.2.1 0, 40, .inl (nF gq))) → (ct5 2 = .inl (B.2.1 0, 40, .inl (nF gl))) → (ct5 3 = .inl (B.2.1 0, 40, .inl (nF go))) → (ct5 4 = .inl (B.2.1 0, 40, .inl (nF gt))) → (ct5 5 = .inl (B.2.1 0, 25, .inl (nF gc))) → (ct5 9 = .inl (B.2.1 0, 160, .inl (nF gu))) → (ct5 10 = .inl (B.2.1 0, 160, .inl (nF gw))) → (ct5 12 = .inl (B.2.1 0, 25, .inl (nF v2))) → (ct5 13 = .inl (B.2.1 0, 25, .inl (nF h2))) → (ct5 14 = .inl (B.2.1 0, 5, .inl (nF rm1))) → (ct5 15 = .inl (B.2.1 0, 5, .inl (nF cm1))) → (ct5 16 = .inl (B.2.1 2, 500000, .inl fk)) → (ct5 17 = .inl (B.2.1 2, 20000, .inl fa)) → (ct5 18 = .inl (B.2.1 0, 40, .inl (nF tp2))) → (ct5 19 = .inl (B.2.1 0, 40, .inl (nF wt))) → (ct5 20 = .inl (B.2.1 0, 40, .inl (nF sn))) → (ct5 21 = .inl (B.2.1 0, 40, .inl (nF wh))) → (∀ r, (r = 5 ∨ r = 6 ∨ r = 7 ∨ r = 8 ∨ r = 11 ∨ 21 < r) → ct5 r = ct r) →  (R - i) < M → G B 4 E ad ct5 n 0 0 [(0, .ref (ad 0)), (1, .int (nI m)), (2, .int (nI i))] 57 [] := by
              intro M
              induction M with
              | zero => intro i ct5 tp2 _ _ _ _ _ _ _ _ _ _ _ _ _ _ _ _ _ _ _ _ _ _ hM; exact absurd hM (Nat.not_lt_zero _)
              | succ M ih =>
                intro i ct5 tp2 hi hokt hvt h0 hq hlf ho ht hc hu hw hv hh hrm hcm hk ha htp hwt hsn hwh hfr hM
                have ih57 := ih
                refine g_iload_n fx 2 dX12_tables_57 rfl ?_
                refine g_aload_n fx 0 dX12_tables_58 rfl ?_
                refine g_get (r := 0) fx lkX12_115 (by omega) h0 rfl dX12_tables_59 ?_
                refine g_isi (y := nI R) hR ?_
                refine g_icmp_ge fx 84 dX12_tables_62 (by decide) (fun c62 => ?_) (fun c62 => ?_)
                · skip
                  have hiR : i = R := by have := (nI_leI (by omega) (by omega)).mp c62; omega
                  rw [hiR] at hvt
                  refine g_iconst (v := nI 0) fx dX12_tables_84 (by decide +kernel) ?_
                  refine g_istore_n (L' := [(2, .int (nI 0)), (0, .ref (ad 0)), (1, .int (nI m))]) fx dX12_tables_85 (by decide) rfl ?_
                  have LP86 : ∀ (M : Nat) (i2 : Nat) (ct7 : Nat → va_E) (tp3 : Nat → Nat), (i2 ≤ C) → (okN tp3 0) → (nv tp3 0 = facP (fun r => sumF (fun k => gc (C * r + k)) C) R * facP (fun c => sumF (fun k => gc (C * k + c)) R) i2) → (ct7 0 = mObj ad f) → (ct7 1 = .inl (B.2.1 0, 40, .inl (nF gq))) → (ct7 2 = .inl (B.2.1 0, 40, .inl (nF gl))) → (ct7 3 = .inl (B.2.1 0, 40, .inl (nF go))) → (ct7 4 = .inl (B.2.1 0, 40, .inl (nF gt))) → (ct7 5 = .inl (B.2.1 0, 25, .inl (nF gc))) → (ct7 9 = .inl (B.2.1 0, 160, .inl (nF gu))) → (ct7 10 = .inl (B.2.1 0, 160, .inl (nF gw))) → (ct7 12 = .inl (B.2.1 0, 25, .inl (nF v2))) → (ct7 13 = .inl (B.2.1 0, 25, .inl (nF h2))) → (ct7 14 = .inl (B.2.1 0, 5, .inl (nF rm1))) → (ct7 15 = .inl (B.2.1 0, 5, .inl (nF cm1))) → (ct7 16 = .inl (B.2.1 2, 500000, .inl fk)) → (ct7 17 = .inl (B.2.1 2, 20000, .inl fa)) → (ct7 18 = .inl (B.2.1 0, 40, .inl (nF tp3))) → (ct7 19 = .inl (B.2.1 0, 40, .inl (nF wt))) → (ct7 20 = .inl (B.2.1 0, 40, .inl (nF sn))) → (ct7 21 = .inl (B.2.1 0, 40, .inl (nF wh))) → (∀ r, (r = 5 ∨ r = 6 ∨ r = 7 ∨ r = 8 ∨ r = 11 ∨ 21 < r) → ct7 r = ct r) →  (C - i2) < M → G B 4 E ad ct7 n 0 0 [(0, .ref (ad 0)), (1, .int (nI m)), (2, .int (nI i2))] 86 [] := by
                    intro M
                    induction M with
                    | zero => intro i2 ct7 tp3 _ _ _ _ _ _ _ _ _ _ _ _ _ _ _ _ _ _ _ _ _ _ hM; exact absurd hM (Nat.not_lt_zero _)
                    | succ M ih =>
                      intro i2 ct7 tp3 hi2 hokt hvt3 h0 hq hlf ho ht hc hu hw hv hh hrm hcm hk ha htp hwt hsn hwh hfr hM
                      have ih86 := ih
                      refine g_iload_n fx 2 dX12_tables_86 rfl ?_
                      refine g_aload_n fx 0 dX12_tables_87 rfl ?_
                      refine g_get (r := 0) fx lkX12_118 (by omega) h0 rfl dX12_tables_88 ?_
                      refine g_isi (y := nI C) hC ?_
                      refine g_icmp_ge fx 113 dX12_tables_91 (by decide) (fun c91 => ?_) (fun c91 => ?_)
                      · skip
                        have hiC : i2 = C := by have := (nI_leI (by omega) (by omega)).mp c91; omega
                        rw [hiC] at hvt3
                        refine g_aload_n fx 0 dX12_tables_113 rfl ?_
                        refine g_aload_n fx 0 dX12_tables_114 rfl ?_
                        refine g_get (r := 0) fx lkX12_22 (by omega) h0 rfl dX12_tables_115 ?_
                        refine g_aload_n fx 0 dX12_tables_118 rfl ?_
                        refine g_get (r := 0) fx lkX12_75 (by omega) h0 rfl dX12_tables_119 ?_
                        refine g_callVv (As := [.ref (ad 5), .ref (ad 20)]) (rest := []) fx slX12_221 (c_X12_weigh B ad ct7 n f tp3 sn gc hn h0 20 5 (by omega) (by omega) (by decide) (by decide) (by decide) htp hc hsn hokt R C hR hC hR5 hC5 (fun j hj => hgb j (by omega))) (by omega) h0 rfl rfl rfl (Nat.le_of_ble_eq_true rfl) ⟨by decide, by decide⟩ ⟨by decide, by decide⟩ dX12_tables_122 (fun ct9 hz7 => ?_)
                        obtain ⟨sn1, et7, hoks, hvs⟩ := hz7
                        rw [hvt3] at hvs
                        have hfr : ∀ r, (r = 5 ∨ r = 6 ∨ r = 7 ∨ r = 8 ∨ r = 11 ∨ 21 < r) → ct9 r = ct r := fun r hp => (congrFun et7 r).trans ((va_up_ne _ _ (by omega)).trans (hfr r hp))
                        have h0 : ct9 0 = mObj ad f := (congrFun et7 _).trans ((va_up_ne _ _ (by omega)).trans h0)
                        have hq : ct9 1 = .inl (B.2.1 0, 40, .inl (nF gq)) := (congrFun et7 _).trans ((va_up_ne _ _ (by omega)).trans hq)
                        have hlf : ct9 2 = .inl (B.2.1 0, 40, .inl (nF gl)) := (congrFun et7 _).trans ((va_up_ne _ _ (by omega)).trans hlf)
                        have ho : ct9 3 = .inl (B.2.1 0, 40, .inl (nF go)) := (congrFun et7 _).trans ((va_up_ne _ _ (by omega)).trans ho)
                        have ht : ct9 4 = .inl (B.2.1 0, 40, .inl (nF gt)) := (congrFun et7 _).trans ((va_up_ne _ _ (by omega)).trans ht)
                        have hc : ct9 5 = .inl (B.2.1 0, 25, .inl (nF gc)) := (congrFun et7 _).trans ((va_up_ne _ _ (by omega)).trans hc)
                        have hu : ct9 9 = .inl (B.2.1 0, 160, .inl (nF gu)) := (congrFun et7 _).trans ((va_up_ne _ _ (by omega)).trans hu)
                        have hw : ct9 10 = .inl (B.2.1 0, 160, .inl (nF gw)) := (congrFun et7 _).trans ((va_up_ne _ _ (by omega)).trans hw)
                        have hv : ct9 12 = .inl (B.2.1 0, 25, .inl (nF v2)) := (congrFun et7 _).trans ((va_up_ne _ _ (by omega)).trans hv)
                        have hh : ct9 13 = .inl (B.2.1 0, 25, .inl (nF h2)) := (congrFun et7 _).trans ((va_up_ne _ _ (by omega)).trans hh)
                        have hrm : ct9 14 = .inl (B.2.1 0, 5, .inl (nF rm1)) := (congrFun et7 _).trans ((va_up_ne _ _ (by omega)).trans hrm)
                        have hcm : ct9 15 = .inl (B.2.1 0, 5, .inl (nF cm1)) := (congrFun et7 _).trans ((va_up_ne _ _ (by omega)).trans hcm)
                        have hk : ct9 16 = .inl (B.2.1 2, 500000, .inl fk) := (congrFun et7 _).trans ((va_up_ne _ _ (by omega)).trans hk)
                        have ha : ct9 17 = .inl (B.2.1 2, 20000, .inl fa) := (congrFun et7 _).trans ((va_up_ne _ _ (by omega)).trans ha)
                        have htp : ct9 18 = .inl (B.2.1 0, 40, .inl (nF tp3)) := (congrFun et7 _).trans ((va_up_ne _ _ (by omega)).trans htp)
                        have hwt : ct9 19 = .inl (B.2.1 0, 40, .inl (nF wt)) := (congrFun et7 _).trans ((va_up_ne _ _ (by omega)).trans hwt)
                        have hsn : ct9 20 = .inl (B.2.1 0, 40, .inl (nF sn1)) := by rw [et7, va_up_self]
                        have hwh : ct9 21 = .inl (B.2.1 0, 40, .inl (nF wh)) := (congrFun et7 _).trans ((va_up_ne _ _ (by omega)).trans hwh)
                        refine g_aload_n fx 0 dX12_tables_125 rfl ?_
                        refine g_get (r := 0) fx lkX12_78 (by omega) h0 rfl dX12_tables_126 ?_
                        refine g_iconst (v := nI 0) fx dX12_tables_129 (by decide +kernel) ?_
                        refine g_lconst (v := lN 1) fx dX12_tables_130 (by decide +kernel) ?_
                        refine g_callSv (As := [.ref (ad 21), .int (nI 0), .long (lN 1)]) (rest := []) fx slX12_127 (c_X12_set B ad ct9 n 21 0 40 wh (by omega) (by decide) (by decide) hwh 1 (by decide)) rfl rfl (Nat.le_of_ble_eq_true rfl) ⟨by decide, by decide⟩ ⟨by decide, by decide⟩ dX12_tables_131 (fun ct10 hz8 => ?_)
                        obtain ⟨wh1, et8, -, hokw1, hvw1⟩ := hz8
                        have hfr : ∀ r, (r = 5 ∨ r = 6 ∨ r = 7 ∨ r = 8 ∨ r = 11 ∨ 21 < r) → ct10 r = ct r := fun r hp => (congrFun et8 r).trans ((va_up_ne _ _ (by omega)).trans (hfr r hp))
                        have h0 : ct10 0 = mObj ad f := (congrFun et8 _).trans ((va_up_ne _ _ (by omega)).trans h0)
                        have hq : ct10 1 = .inl (B.2.1 0, 40, .inl (nF gq)) := (congrFun et8 _).trans ((va_up_ne _ _ (by omega)).trans hq)
                        have hlf : ct10 2 = .inl (B.2.1 0, 40, .inl (nF gl)) := (congrFun et8 _).trans ((va_up_ne _ _ (by omega)).trans hlf)
                        have ho : ct10 3 = .inl (B.2.1 0, 40, .inl (nF go)) := (congrFun et8 _).trans ((va_up_ne _ _ (by omega)).trans ho)
                        have ht : ct10 4 = .inl (B.2.1 0, 40, .inl (nF gt)) := (congrFun et8 _).trans ((va_up_ne _ _ (by omega)).trans ht)
                        have hc : ct10 5 = .inl (B.2.1 0, 25, .inl (nF gc)) := (congrFun et8 _).trans ((va_up_ne _ _ (by omega)).trans hc)
                        have hu : ct10 9 = .inl (B.2.1 0, 160, .inl (nF gu)) := (congrFun et8 _).trans ((va_up_ne _ _ (by omega)).trans hu)
                        have hw : ct10 10 = .inl (B.2.1 0, 160, .inl (nF gw)) := (congrFun et8 _).trans ((va_up_ne _ _ (by omega)).trans hw)
                        have hv : ct10 12 = .inl (B.2.1 0, 25, .inl (nF v2)) := (congrFun et8 _).trans ((va_up_ne _ _ (by omega)).trans hv)
                        have hh : ct10 13 = .inl (B.2.1 0, 25, .inl (nF h2)) := (congrFun et8 _).trans ((va_up_ne _ _ (by omega)).trans hh)
                        have hrm : ct10 14 = .inl (B.2.1 0, 5, .inl (nF rm1)) := (congrFun et8 _).trans ((va_up_ne _ _ (by omega)).trans hrm)
                        have hcm : ct10 15 = .inl (B.2.1 0, 5, .inl (nF cm1)) := (congrFun et8 _).trans ((va_up_ne _ _ (by omega)).trans hcm)
                        have hk : ct10 16 = .inl (B.2.1 2, 500000, .inl fk) := (congrFun et8 _).trans ((va_up_ne _ _ (by omega)).trans hk)
                        have ha : ct10 17 = .inl (B.2.1 2, 20000, .inl fa) := (congrFun et8 _).trans ((va_up_ne _ _ (by omega)).trans ha)
                        have htp : ct10 18 = .inl (B.2.1 0, 40, .inl (nF tp3)) := (congrFun et8 _).trans ((va_up_ne _ _ (by omega)).trans htp)
                        have hwt : ct10 19 = .inl (B.2.1 0, 40, .inl (nF wt)) := (congrFun et8 _).trans ((va_up_ne _ _ (by omega)).trans hwt)
                        have hsn : ct10 20 = .inl (B.2.1 0, 40, .inl (nF sn1)) := (congrFun et8 _).trans ((va_up_ne _ _ (by omega)).trans hsn)
                        have hwh : ct10 21 = .inl (B.2.1 0, 40, .inl (nF wh1)) := by rw [et8, va_up_self]
                        refine g_aload_n fx 0 dX12_tables_134 rfl ?_
                        refine g_aload_n fx 0 dX12_tables_135 rfl ?_
                        refine g_get (r := 0) fx lkX12_78 (by omega) h0 rfl dX12_tables_136 ?_
                        refine g_aload_n fx 0 dX12_tables_139 rfl ?_
                        refine g_get (r := 0) fx lkX12_163 (by omega) h0 rfl dX12_tables_140 ?_
                        refine g_isi (y := nI T) hT ?_
                        refine g_callVv (As := [.ref (ad 21), .int (nI T)]) (rest := []) fx slX12_217 (c_X12_timesFactorial B ad ct10 n 21 wh1 (by omega) hwh hokw1 T (by omega) (by rw [hvw1, Nat.one_mul]; exact lt960 (lt700 (Nat.lt_of_le_of_lt (fac_mono hT60) (Nat.lt_trans fac60 (by decide)))))) (by omega) h0 rfl rfl rfl (Nat.le_of_ble_eq_true rfl) ⟨by decide, by decide⟩ ⟨by decide, by decide⟩ dX12_tables_143 (fun ct11 hz9 => ?_)
                        obtain ⟨wh2, et9, hokW, hvW⟩ := hz9
                        rw [hvw1, Nat.one_mul] at hvW
                        have hfr : ∀ r, (r = 5 ∨ r = 6 ∨ r = 7 ∨ r = 8 ∨ r = 11 ∨ 21 < r) → ct11 r = ct r := fun r hp => (congrFun et9 r).trans ((va_up_ne _ _ (by omega)).trans (hfr r hp))
                        have h0 : ct11 0 = mObj ad f := (congrFun et9 _).trans ((va_up_ne _ _ (by omega)).trans h0)
                        have hq : ct11 1 = .inl (B.2.1 0, 40, .inl (nF gq)) := (congrFun et9 _).trans ((va_up_ne _ _ (by omega)).trans hq)
                        have hlf : ct11 2 = .inl (B.2.1 0, 40, .inl (nF gl)) := (congrFun et9 _).trans ((va_up_ne _ _ (by omega)).trans hlf)
                        have ho : ct11 3 = .inl (B.2.1 0, 40, .inl (nF go)) := (congrFun et9 _).trans ((va_up_ne _ _ (by omega)).trans ho)
                        have ht : ct11 4 = .inl (B.2.1 0, 40, .inl (nF gt)) := (congrFun et9 _).trans ((va_up_ne _ _ (by omega)).trans ht)
                        have hc : ct11 5 = .inl (B.2.1 0, 25, .inl (nF gc)) := (congrFun et9 _).trans ((va_up_ne _ _ (by omega)).trans hc)
                        have hu : ct11 9 = .inl (B.2.1 0, 160, .inl (nF gu)) := (congrFun et9 _).trans ((va_up_ne _ _ (by omega)).trans hu)
                        have hw : ct11 10 = .inl (B.2.1 0, 160, .inl (nF gw)) := (congrFun et9 _).trans ((va_up_ne _ _ (by omega)).trans hw)
                        have hv : ct11 12 = .inl (B.2.1 0, 25, .inl (nF v2)) := (congrFun et9 _).trans ((va_up_ne _ _ (by omega)).trans hv)
                        have hh : ct11 13 = .inl (B.2.1 0, 25, .inl (nF h2)) := (congrFun et9 _).trans ((va_up_ne _ _ (by omega)).trans hh)
                        have hrm : ct11 14 = .inl (B.2.1 0, 5, .inl (nF rm1)) := (congrFun et9 _).trans ((va_up_ne _ _ (by omega)).trans hrm)
                        have hcm : ct11 15 = .inl (B.2.1 0, 5, .inl (nF cm1)) := (congrFun et9 _).trans ((va_up_ne _ _ (by omega)).trans hcm)
                        have hk : ct11 16 = .inl (B.2.1 2, 500000, .inl fk) := (congrFun et9 _).trans ((va_up_ne _ _ (by omega)).trans hk)
                        have ha : ct11 17 = .inl (B.2.1 2, 20000, .inl fa) := (congrFun et9 _).trans ((va_up_ne _ _ (by omega)).trans ha)
                        have htp : ct11 18 = .inl (B.2.1 0, 40, .inl (nF tp3)) := (congrFun et9 _).trans ((va_up_ne _ _ (by omega)).trans htp)
                        have hwt : ct11 19 = .inl (B.2.1 0, 40, .inl (nF wt)) := (congrFun et9 _).trans ((va_up_ne _ _ (by omega)).trans hwt)
                        have hsn : ct11 20 = .inl (B.2.1 0, 40, .inl (nF sn1)) := (congrFun et9 _).trans ((va_up_ne _ _ (by omega)).trans hsn)
                        have hwh : ct11 21 = .inl (B.2.1 0, 40, .inl (nF wh2)) := by rw [et9, va_up_self]
                        refine g_iconst (v := nI 0) fx dX12_tables_146 (by decide +kernel) ?_
                        refine g_istore_n (L' := [(2, .int (nI 0)), (0, .ref (ad 0)), (1, .int (nI m))]) fx dX12_tables_147 (by decide) rfl ?_
                        have LP148 : ∀ (M : Nat) (i3 : Nat) (ct12 : Nat → va_E) (gu2 : Nat → Nat), (i3 ≤ 4) → (∀ t, t < i3 → okN gu2 (40 * t) ∧ nv gu2 (40 * t) = 0) → (ct12 0 = mObj ad f) → (ct12 1 = .inl (B.2.1 0, 40, .inl (nF gq))) → (ct12 2 = .inl (B.2.1 0, 40, .inl (nF gl))) → (ct12 3 = .inl (B.2.1 0, 40, .inl (nF go))) → (ct12 4 = .inl (B.2.1 0, 40, .inl (nF gt))) → (ct12 5 = .inl (B.2.1 0, 25, .inl (nF gc))) → (ct12 9 = .inl (B.2.1 0, 160, .inl (nF gu2))) → (ct12 10 = .inl (B.2.1 0, 160, .inl (nF gw))) → (ct12 12 = .inl (B.2.1 0, 25, .inl (nF v2))) → (ct12 13 = .inl (B.2.1 0, 25, .inl (nF h2))) → (ct12 14 = .inl (B.2.1 0, 5, .inl (nF rm1))) → (ct12 15 = .inl (B.2.1 0, 5, .inl (nF cm1))) → (ct12 16 = .inl (B.2.1 2, 500000, .inl fk)) → (ct12 17 = .inl (B.2.1 2, 20000, .inl fa)) → (ct12 18 = .inl (B.2.1 0, 40, .inl (nF tp3))) → (ct12 19 = .inl (B.2.1 0, 40, .inl (nF wt))) → (ct12 20 = .inl (B.2.1 0, 40, .inl (nF sn1))) → (ct12 21 = .inl (B.2.1 0, 40, .inl (nF wh2))) → (∀ r, (r = 5 ∨ r = 6 ∨ r = 7 ∨ r = 8 ∨ r = 11 ∨ 21 < r) → ct12 r = ct r) →  (4 - i3) < M → G B 4 E ad ct12 n 0 0 [(0, .ref (ad 0)), (1, .int (nI m)), (2, .int (nI i3))] 148 [] := by
                          intro M
                          induction M with
                          | zero => intro i3 ct12 gu2 _ _ _ _ _ _ _ _ _ _ _ _ _ _ _ _ _ _ _ _ _ hM; exact absurd hM (Nat.not_lt_zero _)
                          | succ M ih =>
                            intro i3 ct12 gu2 hi3 hz h0 hq hlf ho ht hc hu hw hv hh hrm hcm hk ha htp hwt hsn hwh hfr hM
                            have ih148 := ih
                            refine g_iload_n fx 2 dX12_tables_148 rfl ?_
                            refine g_iconst (v := nI 4) fx dX12_tables_149 (by decide +kernel) ?_
                            refine g_icmp_ge fx 171 dX12_tables_150 (by decide) (fun c150 => ?_) (fun c150 => ?_)
                            · skip
                              have hlt3 : i3 = 4 := by have := (nI_leI (by omega) (by omega)).mp c150; omega
                              refine g_aload_n fx 0 dX12_tables_171 rfl ?_
                              refine g_callVv (As := []) (rest := []) fx slX12_210 (c_X12_firstTable B ad ct12 n f gc v2 h2 rm1 cm1 hn h0 hc hv hh hrm hcm R C hR hC hR5 hC5 hCp hgb hr60 hc60) (by omega) h0 rfl rfl rfl (Nat.le_of_ble_eq_true rfl) ⟨by decide, by decide⟩ ⟨by decide, by decide⟩ dX12_tables_172 (fun ct14 hz5 => ?_)
                              obtain ⟨v5, h5, rm5, cm5, hv, hh, hrm, hcm, her5, hec5, hlo5, hval5, hs5⟩ := hz5
                              have hsm5 : sumF rm5 R = sumF cm5 C := by rw [sumF_congr R her5, sumF_congr C hec5]; exact hsw
                              have h0 : ct14 0 = mObj ad f := (hs5 0 (by decide) (by decide) (by decide) (by decide)).trans h0
                              have hq : ct14 1 = .inl (B.2.1 0, 40, .inl (nF gq)) := (hs5 1 (by decide) (by decide) (by decide) (by decide)).trans hq
                              have hlf : ct14 2 = .inl (B.2.1 0, 40, .inl (nF gl)) := (hs5 2 (by decide) (by decide) (by decide) (by decide)).trans hlf
                              have ho : ct14 3 = .inl (B.2.1 0, 40, .inl (nF go)) := (hs5 3 (by decide) (by decide) (by decide) (by decide)).trans ho
                              have ht : ct14 4 = .inl (B.2.1 0, 40, .inl (nF gt)) := (hs5 4 (by decide) (by decide) (by decide) (by decide)).trans ht
                              have hc : ct14 5 = .inl (B.2.1 0, 25, .inl (nF gc)) := (hs5 5 (by decide) (by decide) (by decide) (by decide)).trans hc
                              have hu : ct14 9 = .inl (B.2.1 0, 160, .inl (nF gu2)) := (hs5 9 (by decide) (by decide) (by decide) (by decide)).trans hu
                              have hw : ct14 10 = .inl (B.2.1 0, 160, .inl (nF gw)) := (hs5 10 (by decide) (by decide) (by decide) (by decide)).trans hw
                              have hk : ct14 16 = .inl (B.2.1 2, 500000, .inl fk) := (hs5 16 (by decide) (by decide) (by decide) (by decide)).trans hk
                              have ha : ct14 17 = .inl (B.2.1 2, 20000, .inl fa) := (hs5 17 (by decide) (by decide) (by decide) (by decide)).trans ha
                              have htp : ct14 18 = .inl (B.2.1 0, 40, .inl (nF tp3)) := (hs5 18 (by decide) (by decide) (by decide) (by decide)).trans htp
                              have hwt : ct14 19 = .inl (B.2.1 0, 40, .inl (nF wt)) := (hs5 19 (by decide) (by decide) (by decide) (by decide)).trans hwt
                              have hsn : ct14 20 = .inl (B.2.1 0, 40, .inl (nF sn1)) := (hs5 20 (by decide) (by decide) (by decide) (by decide)).trans hsn
                              have hwh : ct14 21 = .inl (B.2.1 0, 40, .inl (nF wh2)) := (hs5 21 (by decide) (by decide) (by decide) (by decide)).trans hwh
                              have hfr : ∀ r, (r = 5 ∨ r = 6 ∨ r = 7 ∨ r = 8 ∨ r = 11 ∨ 21 < r) → ct14 r = ct r := fun r hp => (hs5 r (by omega) (by omega) (by omega) (by omega)).trans (hfr r hp)
                              refine g_iconst (v := nI 0) fx dX12_tables_175 (by decide +kernel) ?_
                              refine g_istore_n (L' := [(2, .int (nI 0)), (0, .ref (ad 0)), (1, .int (nI m))]) fx dX12_tables_176 (by decide) rfl ?_
                              have LP177 : ∀ (M : Nat) (i : Nat) (ct15 : Nat → va_E) (F : Nat → Int32) (v6 h6 : Nat → Nat) (fk1 fa1 : Nat → Int32) (gu3 wt1 : Nat → Nat) (cs : Nat → Nat → Nat), (i ≤ m) → (∀ k, k ≠ 25 → F k = f k) → (i = m → F 25 = nI m) → (i < m → Val C rm5 cm5 (C * R) v6 ∧ (∀ j, j < (C * R) → h6 j = tHi C rm5 cm5 v6 j) ∧ tIdx (C * R) C rm5 cm5 v6 = i) → (∀ j, j < i → Val C (fun r => sumF (fun k => gc (C * r + k)) C) (fun c => sumF (fun k => gc (C * k + c)) R) (C * R) (cs j) ∧ tIdx (C * R) C (fun r => sumF (fun k => gc (C * r + k)) C) (fun c => sumF (fun k => gc (C * k + c)) R) (cs j) = j ∧ (∀ k, k < (C * R) → fk1 (25 * j + k) = nI (cs j k)) ∧ fa1 j = cmpI ((facP (fun r => sumF (fun k => gc (C * r + k)) C) R * facP (fun c => sumF (fun k => gc (C * k + c)) R) C) / facP (cs j) (C * R)) ((facP (fun r => sumF (fun k => gc (C * r + k)) C) R * facP (fun c => sumF (fun k => gc (C * k + c)) R) C) / facP gc (C * R))) → (∀ t, t < 4 → okN gu3 (40 * t)) → (nv gu3 0 = tSum (facP (fun r => sumF (fun k => gc (C * r + k)) C) R * facP (fun c => sumF (fun k => gc (C * k + c)) R) C) (C * R) gc cs i 0) → (nv gu3 40 = tSum (facP (fun r => sumF (fun k => gc (C * r + k)) C) R * facP (fun c => sumF (fun k => gc (C * k + c)) R) C) (C * R) gc cs i 1) → (nv gu3 80 = tSum (facP (fun r => sumF (fun k => gc (C * r + k)) C) R * facP (fun c => sumF (fun k => gc (C * k + c)) R) C) (C * R) gc cs i 2) → (nv gu3 120 = 0) → (ct15 0 = mObj ad F) → (ct15 1 = .inl (B.2.1 0, 40, .inl (nF gq))) → (ct15 2 = .inl (B.2.1 0, 40, .inl (nF gl))) → (ct15 3 = .inl (B.2.1 0, 40, .inl (nF go))) → (ct15 4 = .inl (B.2.1 0, 40, .inl (nF gt))) → (ct15 5 = .inl (B.2.1 0, 25, .inl (nF gc))) → (ct15 9 = .inl (B.2.1 0, 160, .inl (nF gu3))) → (ct15 10 = .inl (B.2.1 0, 160, .inl (nF gw))) → (ct15 12 = .inl (B.2.1 0, 25, .inl (nF v6))) → (ct15 13 = .inl (B.2.1 0, 25, .inl (nF h6))) → (ct15 14 = .inl (B.2.1 0, 5, .inl (nF rm5))) → (ct15 15 = .inl (B.2.1 0, 5, .inl (nF cm5))) → (ct15 16 = .inl (B.2.1 2, 500000, .inl fk1)) → (ct15 17 = .inl (B.2.1 2, 20000, .inl fa1)) → (ct15 18 = .inl (B.2.1 0, 40, .inl (nF tp3))) → (ct15 19 = .inl (B.2.1 0, 40, .inl (nF wt1))) → (ct15 20 = .inl (B.2.1 0, 40, .inl (nF sn1))) → (ct15 21 = .inl (B.2.1 0, 40, .inl (nF wh2))) → (∀ r, (r = 5 ∨ r = 6 ∨ r = 7 ∨ r = 8 ∨ r = 11 ∨ 21 < r) → ct15 r = ct r) →  (m - i) < M → G B 4 E ad ct15 n 0 0 [(0, .ref (ad 0)), (1, .int (nI m)), (2, .int (nI i))] 177 [] := by
                                intro M
                                induction M with
                                | zero => intro i ct15 F v6 h6 fk1 fa1 gu3 wt1 cs _ _ _ _ _ _ _ _ _ _ _ _ _ _ _ _ _ _ _ _ _ _ _ _ _ _ _ _ _ hM; exact absurd hM (Nat.not_lt_zero _)
                                | succ M ih =>
                                  intro i ct15 F v6 h6 fk1 fa1 gu3 wt1 cs hi hF hF25 hcur hcs hok3 hst0 hst1 hst2 hst3 h0 hq hlf ho ht hc hu hw hv hh hrm hcm hk ha htp hwt hsn hwh hfr hM
                                  have ih177 := ih
                                  have hR : F 4 = nI R := (hF 4 (by decide)).trans hR
                                  have hC : F 5 = nI C := (hF 5 (by decide)).trans hC
                                  have hT : F 7 = nI T := (hF 7 (by decide)).trans hT
                                  refine g_iload_n fx 2 dX12_tables_177 rfl ?_
                                  refine g_iload_n fx 1 dX12_tables_178 rfl ?_
                                  refine g_icmp_ge fx 221 dX12_tables_179 (by decide) (fun c179 => ?_) (fun c179 => ?_)
                                  · skip
                                    have him : i = m := by have := (nI_leI (by omega) (by omega)).mp c179; omega
                                    refine g_aload_n fx 0 dX12_tables_221 rfl ?_
                                    refine g_get (r := 0) fx lkX12_75 (by omega) h0 rfl dX12_tables_222 ?_
                                    refine g_iconst (v := nI 0) fx dX12_tables_225 (by decide +kernel) ?_
                                    refine g_aload_n fx 0 dX12_tables_226 rfl ?_
                                    refine g_get (r := 0) fx lkX12_38 (by omega) h0 rfl dX12_tables_227 ?_
                                    refine g_bipush (v := nI 120) fx dX12_tables_230 (by decide +kernel) ?_
                                    refine g_callSv (As := [.ref (ad 20), .int (nI 0), .ref (ad 9), .int (nI 120)]) (rest := []) fx slX12_151 (c_X12_copy B ad ct15 n 9 120 160 gu3 (by omega) (by decide) (by decide) hu 20 0 40 sn1 (by omega) (by decide) (by decide) hsn (by decide)) rfl rfl (Nat.le_of_ble_eq_true rfl) ⟨by decide, by decide⟩ ⟨by decide, by decide⟩ dX12_tables_232 (fun ct19 hz13 => ?_)
                                    obtain ⟨gu5, et13, hou5, hcp5⟩ := hz13
                                    have hok5 : okN gu5 120 := fun j hj => by rw [hcp5 j hj]; exact hoks j hj
                                    have hv5 : nv gu5 120 = nv sn1 0 := bval_congr 40 (fun j hj => hcp5 j hj)
                                    have hfr : ∀ r, (r = 5 ∨ r = 6 ∨ r = 7 ∨ r = 8 ∨ r = 11 ∨ 21 < r) → ct19 r = ct r := fun r hp => (congrFun et13 r).trans ((va_up_ne _ _ (by omega)).trans (hfr r hp))
                                    have h0 : ct19 0 = mObj ad F := (congrFun et13 _).trans ((va_up_ne _ _ (by omega)).trans h0)
                                    have hq : ct19 1 = .inl (B.2.1 0, 40, .inl (nF gq)) := (congrFun et13 _).trans ((va_up_ne _ _ (by omega)).trans hq)
                                    have hlf : ct19 2 = .inl (B.2.1 0, 40, .inl (nF gl)) := (congrFun et13 _).trans ((va_up_ne _ _ (by omega)).trans hlf)
                                    have ho : ct19 3 = .inl (B.2.1 0, 40, .inl (nF go)) := (congrFun et13 _).trans ((va_up_ne _ _ (by omega)).trans ho)
                                    have ht : ct19 4 = .inl (B.2.1 0, 40, .inl (nF gt)) := (congrFun et13 _).trans ((va_up_ne _ _ (by omega)).trans ht)
                                    have hc : ct19 5 = .inl (B.2.1 0, 25, .inl (nF gc)) := (congrFun et13 _).trans ((va_up_ne _ _ (by omega)).trans hc)
                                    have hu : ct19 9 = .inl (B.2.1 0, 160, .inl (nF gu5)) := by rw [et13, va_up_self]
                                    have hw : ct19 10 = .inl (B.2.1 0, 160, .inl (nF gw)) := (congrFun et13 _).trans ((va_up_ne _ _ (by omega)).trans hw)
                                    have hv : ct19 12 = .inl (B.2.1 0, 25, .inl (nF v6)) := (congrFun et13 _).trans ((va_up_ne _ _ (by omega)).trans hv)
                                    have hh : ct19 13 = .inl (B.2.1 0, 25, .inl (nF h6)) := (congrFun et13 _).trans ((va_up_ne _ _ (by omega)).trans hh)
                                    have hrm : ct19 14 = .inl (B.2.1 0, 5, .inl (nF rm5)) := (congrFun et13 _).trans ((va_up_ne _ _ (by omega)).trans hrm)
                                    have hcm : ct19 15 = .inl (B.2.1 0, 5, .inl (nF cm5)) := (congrFun et13 _).trans ((va_up_ne _ _ (by omega)).trans hcm)
                                    have hk : ct19 16 = .inl (B.2.1 2, 500000, .inl fk1) := (congrFun et13 _).trans ((va_up_ne _ _ (by omega)).trans hk)
                                    have ha : ct19 17 = .inl (B.2.1 2, 20000, .inl fa1) := (congrFun et13 _).trans ((va_up_ne _ _ (by omega)).trans ha)
                                    have htp : ct19 18 = .inl (B.2.1 0, 40, .inl (nF tp3)) := (congrFun et13 _).trans ((va_up_ne _ _ (by omega)).trans htp)
                                    have hwt : ct19 19 = .inl (B.2.1 0, 40, .inl (nF wt1)) := (congrFun et13 _).trans ((va_up_ne _ _ (by omega)).trans hwt)
                                    have hsn : ct19 20 = .inl (B.2.1 0, 40, .inl (nF sn1)) := (congrFun et13 _).trans ((va_up_ne _ _ (by omega)).trans hsn)
                                    have hwh : ct19 21 = .inl (B.2.1 0, 40, .inl (nF wh2)) := (congrFun et13 _).trans ((va_up_ne _ _ (by omega)).trans hwh)
                                    refine g_aload_n fx 0 dX12_tables_235 rfl ?_
                                    refine g_aload_n fx 0 dX12_tables_236 rfl ?_
                                    refine g_get (r := 0) fx lkX12_115 (by omega) h0 rfl dX12_tables_237 ?_
                                    refine g_isi (y := nI R) hR ?_
                                    refine g_put (r := 0) (fs' := mFs ad (va_up F 26 (nI R))) fx lpX12_231 (by omega) h0 rfl rfl (Nat.le_of_ble_eq_true rfl) rfl dX12_tables_240 (fun cu1 ecu1 => ?_)
                                    have hfr : ∀ r, (r = 5 ∨ r = 6 ∨ r = 7 ∨ r = 8 ∨ r = 11 ∨ 21 < r) → cu1 r = ct r := fun r hp => (congrFun ecu1 r).trans ((va_up_ne _ _ (by omega)).trans (hfr r hp))
                                    have h0 : cu1 0 = mObj ad (va_up F 26 (nI R)) := by rw [ecu1, va_up_self]
                                    have hq : cu1 1 = .inl (B.2.1 0, 40, .inl (nF gq)) := (congrFun ecu1 _).trans ((va_up_ne _ _ (by omega)).trans hq)
                                    have hlf : cu1 2 = .inl (B.2.1 0, 40, .inl (nF gl)) := (congrFun ecu1 _).trans ((va_up_ne _ _ (by omega)).trans hlf)
                                    have ho : cu1 3 = .inl (B.2.1 0, 40, .inl (nF go)) := (congrFun ecu1 _).trans ((va_up_ne _ _ (by omega)).trans ho)
                                    have ht : cu1 4 = .inl (B.2.1 0, 40, .inl (nF gt)) := (congrFun ecu1 _).trans ((va_up_ne _ _ (by omega)).trans ht)
                                    have hc : cu1 5 = .inl (B.2.1 0, 25, .inl (nF gc)) := (congrFun ecu1 _).trans ((va_up_ne _ _ (by omega)).trans hc)
                                    have hu : cu1 9 = .inl (B.2.1 0, 160, .inl (nF gu5)) := (congrFun ecu1 _).trans ((va_up_ne _ _ (by omega)).trans hu)
                                    have hw : cu1 10 = .inl (B.2.1 0, 160, .inl (nF gw)) := (congrFun ecu1 _).trans ((va_up_ne _ _ (by omega)).trans hw)
                                    have hv : cu1 12 = .inl (B.2.1 0, 25, .inl (nF v6)) := (congrFun ecu1 _).trans ((va_up_ne _ _ (by omega)).trans hv)
                                    have hh : cu1 13 = .inl (B.2.1 0, 25, .inl (nF h6)) := (congrFun ecu1 _).trans ((va_up_ne _ _ (by omega)).trans hh)
                                    have hrm : cu1 14 = .inl (B.2.1 0, 5, .inl (nF rm5)) := (congrFun ecu1 _).trans ((va_up_ne _ _ (by omega)).trans hrm)
                                    have hcm : cu1 15 = .inl (B.2.1 0, 5, .inl (nF cm5)) := (congrFun ecu1 _).trans ((va_up_ne _ _ (by omega)).trans hcm)
                                    have hk : cu1 16 = .inl (B.2.1 2, 500000, .inl fk1) := (congrFun ecu1 _).trans ((va_up_ne _ _ (by omega)).trans hk)
                                    have ha : cu1 17 = .inl (B.2.1 2, 20000, .inl fa1) := (congrFun ecu1 _).trans ((va_up_ne _ _ (by omega)).trans ha)
                                    have htp : cu1 18 = .inl (B.2.1 0, 40, .inl (nF tp3)) := (congrFun ecu1 _).trans ((va_up_ne _ _ (by omega)).trans htp)
                                    have hwt : cu1 19 = .inl (B.2.1 0, 40, .inl (nF wt1)) := (congrFun ecu1 _).trans ((va_up_ne _ _ (by omega)).trans hwt)
                                    have hsn : cu1 20 = .inl (B.2.1 0, 40, .inl (nF sn1)) := (congrFun ecu1 _).trans ((va_up_ne _ _ (by omega)).trans hsn)
                                    have hwh : cu1 21 = .inl (B.2.1 0, 40, .inl (nF wh2)) := (congrFun ecu1 _).trans ((va_up_ne _ _ (by omega)).trans hwh)
                                    refine g_aload_n fx 0 dX12_tables_243 rfl ?_
                                    refine g_aload_n fx 0 dX12_tables_244 rfl ?_
                                    refine g_get (r := 0) fx lkX12_118 (by omega) h0 rfl dX12_tables_245 ?_
                                    refine g_isi (y := nI C) ((va_up_ne _ _ (by decide)).trans hC) ?_
                                    refine g_put (r := 0) (fs' := mFs ad (va_up (va_up F 26 (nI R)) 27 (nI C))) fx lpX12_234 (by omega) h0 rfl rfl (Nat.le_of_ble_eq_true rfl) rfl dX12_tables_248 (fun cu2 ecu2 => ?_)
                                    have hfr : ∀ r, (r = 5 ∨ r = 6 ∨ r = 7 ∨ r = 8 ∨ r = 11 ∨ 21 < r) → cu2 r = ct r := fun r hp => (congrFun ecu2 r).trans ((va_up_ne _ _ (by omega)).trans (hfr r hp))
                                    have h0 : cu2 0 = mObj ad (va_up (va_up F 26 (nI R)) 27 (nI C)) := by rw [ecu2, va_up_self]
                                    have hq : cu2 1 = .inl (B.2.1 0, 40, .inl (nF gq)) := (congrFun ecu2 _).trans ((va_up_ne _ _ (by omega)).trans hq)
                                    have hlf : cu2 2 = .inl (B.2.1 0, 40, .inl (nF gl)) := (congrFun ecu2 _).trans ((va_up_ne _ _ (by omega)).trans hlf)
                                    have ho : cu2 3 = .inl (B.2.1 0, 40, .inl (nF go)) := (congrFun ecu2 _).trans ((va_up_ne _ _ (by omega)).trans ho)
                                    have ht : cu2 4 = .inl (B.2.1 0, 40, .inl (nF gt)) := (congrFun ecu2 _).trans ((va_up_ne _ _ (by omega)).trans ht)
                                    have hc : cu2 5 = .inl (B.2.1 0, 25, .inl (nF gc)) := (congrFun ecu2 _).trans ((va_up_ne _ _ (by omega)).trans hc)
                                    have hu : cu2 9 = .inl (B.2.1 0, 160, .inl (nF gu5)) := (congrFun ecu2 _).trans ((va_up_ne _ _ (by omega)).trans hu)
                                    have hw : cu2 10 = .inl (B.2.1 0, 160, .inl (nF gw)) := (congrFun ecu2 _).trans ((va_up_ne _ _ (by omega)).trans hw)
                                    have hv : cu2 12 = .inl (B.2.1 0, 25, .inl (nF v6)) := (congrFun ecu2 _).trans ((va_up_ne _ _ (by omega)).trans hv)
                                    have hh : cu2 13 = .inl (B.2.1 0, 25, .inl (nF h6)) := (congrFun ecu2 _).trans ((va_up_ne _ _ (by omega)).trans hh)
                                    have hrm : cu2 14 = .inl (B.2.1 0, 5, .inl (nF rm5)) := (congrFun ecu2 _).trans ((va_up_ne _ _ (by omega)).trans hrm)
                                    have hcm : cu2 15 = .inl (B.2.1 0, 5, .inl (nF cm5)) := (congrFun ecu2 _).trans ((va_up_ne _ _ (by omega)).trans hcm)
                                    have hk : cu2 16 = .inl (B.2.1 2, 500000, .inl fk1) := (congrFun ecu2 _).trans ((va_up_ne _ _ (by omega)).trans hk)
                                    have ha : cu2 17 = .inl (B.2.1 2, 20000, .inl fa1) := (congrFun ecu2 _).trans ((va_up_ne _ _ (by omega)).trans ha)
                                    have htp : cu2 18 = .inl (B.2.1 0, 40, .inl (nF tp3)) := (congrFun ecu2 _).trans ((va_up_ne _ _ (by omega)).trans htp)
                                    have hwt : cu2 19 = .inl (B.2.1 0, 40, .inl (nF wt1)) := (congrFun ecu2 _).trans ((va_up_ne _ _ (by omega)).trans hwt)
                                    have hsn : cu2 20 = .inl (B.2.1 0, 40, .inl (nF sn1)) := (congrFun ecu2 _).trans ((va_up_ne _ _ (by omega)).trans hsn)
                                    have hwh : cu2 21 = .inl (B.2.1 0, 40, .inl (nF wh2)) := (congrFun ecu2 _).trans ((va_up_ne _ _ (by omega)).trans hwh)
                                    refine g_aload_n fx 0 dX12_tables_251 rfl ?_
                                    refine g_iconst (v := nI 0) fx dX12_tables_252 (by decide +kernel) ?_
                                    refine g_put (r := 0) (fs' := mFs ad (va_up (va_up (va_up F 26 (nI R)) 27 (nI C)) 12 (nI 0))) fx lpX12_34 (by omega) h0 rfl rfl (Nat.le_of_ble_eq_true rfl) rfl dX12_tables_253 (fun cu3 ecu3 => ?_)
                                    have hfr : ∀ r, (r = 5 ∨ r = 6 ∨ r = 7 ∨ r = 8 ∨ r = 11 ∨ 21 < r) → cu3 r = ct r := fun r hp => (congrFun ecu3 r).trans ((va_up_ne _ _ (by omega)).trans (hfr r hp))
                                    have h0 : cu3 0 = mObj ad (va_up (va_up (va_up F 26 (nI R)) 27 (nI C)) 12 (nI 0)) := by rw [ecu3, va_up_self]
                                    have hq : cu3 1 = .inl (B.2.1 0, 40, .inl (nF gq)) := (congrFun ecu3 _).trans ((va_up_ne _ _ (by omega)).trans hq)
                                    have hlf : cu3 2 = .inl (B.2.1 0, 40, .inl (nF gl)) := (congrFun ecu3 _).trans ((va_up_ne _ _ (by omega)).trans hlf)
                                    have ho : cu3 3 = .inl (B.2.1 0, 40, .inl (nF go)) := (congrFun ecu3 _).trans ((va_up_ne _ _ (by omega)).trans ho)
                                    have ht : cu3 4 = .inl (B.2.1 0, 40, .inl (nF gt)) := (congrFun ecu3 _).trans ((va_up_ne _ _ (by omega)).trans ht)
                                    have hc : cu3 5 = .inl (B.2.1 0, 25, .inl (nF gc)) := (congrFun ecu3 _).trans ((va_up_ne _ _ (by omega)).trans hc)
                                    have hu : cu3 9 = .inl (B.2.1 0, 160, .inl (nF gu5)) := (congrFun ecu3 _).trans ((va_up_ne _ _ (by omega)).trans hu)
                                    have hw : cu3 10 = .inl (B.2.1 0, 160, .inl (nF gw)) := (congrFun ecu3 _).trans ((va_up_ne _ _ (by omega)).trans hw)
                                    have hv : cu3 12 = .inl (B.2.1 0, 25, .inl (nF v6)) := (congrFun ecu3 _).trans ((va_up_ne _ _ (by omega)).trans hv)
                                    have hh : cu3 13 = .inl (B.2.1 0, 25, .inl (nF h6)) := (congrFun ecu3 _).trans ((va_up_ne _ _ (by omega)).trans hh)
                                    have hrm : cu3 14 = .inl (B.2.1 0, 5, .inl (nF rm5)) := (congrFun ecu3 _).trans ((va_up_ne _ _ (by omega)).trans hrm)
                                    have hcm : cu3 15 = .inl (B.2.1 0, 5, .inl (nF cm5)) := (congrFun ecu3 _).trans ((va_up_ne _ _ (by omega)).trans hcm)
                                    have hk : cu3 16 = .inl (B.2.1 2, 500000, .inl fk1) := (congrFun ecu3 _).trans ((va_up_ne _ _ (by omega)).trans hk)
                                    have ha : cu3 17 = .inl (B.2.1 2, 20000, .inl fa1) := (congrFun ecu3 _).trans ((va_up_ne _ _ (by omega)).trans ha)
                                    have htp : cu3 18 = .inl (B.2.1 0, 40, .inl (nF tp3)) := (congrFun ecu3 _).trans ((va_up_ne _ _ (by omega)).trans htp)
                                    have hwt : cu3 19 = .inl (B.2.1 0, 40, .inl (nF wt1)) := (congrFun ecu3 _).trans ((va_up_ne _ _ (by omega)).trans hwt)
                                    have hsn : cu3 20 = .inl (B.2.1 0, 40, .inl (nF sn1)) := (congrFun ecu3 _).trans ((va_up_ne _ _ (by omega)).trans hsn)
                                    have hwh : cu3 21 = .inl (B.2.1 0, 40, .inl (nF wh2)) := (congrFun ecu3 _).trans ((va_up_ne _ _ (by omega)).trans hwh)
                                    refine g_aload_n fx 0 dX12_tables_256 rfl ?_
                                    refine g_aload_n fx 0 dX12_tables_257 rfl ?_
                                    refine g_get (r := 0) fx lkX12_22 (by omega) h0 rfl dX12_tables_258 ?_
                                    refine g_iconst (v := nI 0) fx dX12_tables_261 (by decide +kernel) ?_
                                    refine g_iald (r := 5) (j := 0) fx (by omega) hc (nI_toInt (by omega)) (by omega) dX12_tables_262 ?_
                                    refine g_isi (y := nI (gc 0)) rfl ?_
                                    refine g_put (r := 0) (fs' := mFs ad (va_up (va_up (va_up (va_up F 26 (nI R)) 27 (nI C)) 12 (nI 0)) 13 (nI (gc 0)))) fx lpX12_237 (by omega) h0 rfl rfl (Nat.le_of_ble_eq_true rfl) rfl dX12_tables_263 (fun cu4 ecu4 => ?_)
                                    have hfr : ∀ r, (r = 5 ∨ r = 6 ∨ r = 7 ∨ r = 8 ∨ r = 11 ∨ 21 < r) → cu4 r = ct r := fun r hp => (congrFun ecu4 r).trans ((va_up_ne _ _ (by omega)).trans (hfr r hp))
                                    have h0 : cu4 0 = mObj ad (va_up (va_up (va_up (va_up F 26 (nI R)) 27 (nI C)) 12 (nI 0)) 13 (nI (gc 0))) := by rw [ecu4, va_up_self]
                                    have hq : cu4 1 = .inl (B.2.1 0, 40, .inl (nF gq)) := (congrFun ecu4 _).trans ((va_up_ne _ _ (by omega)).trans hq)
                                    have hlf : cu4 2 = .inl (B.2.1 0, 40, .inl (nF gl)) := (congrFun ecu4 _).trans ((va_up_ne _ _ (by omega)).trans hlf)
                                    have ho : cu4 3 = .inl (B.2.1 0, 40, .inl (nF go)) := (congrFun ecu4 _).trans ((va_up_ne _ _ (by omega)).trans ho)
                                    have ht : cu4 4 = .inl (B.2.1 0, 40, .inl (nF gt)) := (congrFun ecu4 _).trans ((va_up_ne _ _ (by omega)).trans ht)
                                    have hc : cu4 5 = .inl (B.2.1 0, 25, .inl (nF gc)) := (congrFun ecu4 _).trans ((va_up_ne _ _ (by omega)).trans hc)
                                    have hu : cu4 9 = .inl (B.2.1 0, 160, .inl (nF gu5)) := (congrFun ecu4 _).trans ((va_up_ne _ _ (by omega)).trans hu)
                                    have hw : cu4 10 = .inl (B.2.1 0, 160, .inl (nF gw)) := (congrFun ecu4 _).trans ((va_up_ne _ _ (by omega)).trans hw)
                                    have hv : cu4 12 = .inl (B.2.1 0, 25, .inl (nF v6)) := (congrFun ecu4 _).trans ((va_up_ne _ _ (by omega)).trans hv)
                                    have hh : cu4 13 = .inl (B.2.1 0, 25, .inl (nF h6)) := (congrFun ecu4 _).trans ((va_up_ne _ _ (by omega)).trans hh)
                                    have hrm : cu4 14 = .inl (B.2.1 0, 5, .inl (nF rm5)) := (congrFun ecu4 _).trans ((va_up_ne _ _ (by omega)).trans hrm)
                                    have hcm : cu4 15 = .inl (B.2.1 0, 5, .inl (nF cm5)) := (congrFun ecu4 _).trans ((va_up_ne _ _ (by omega)).trans hcm)
                                    have hk : cu4 16 = .inl (B.2.1 2, 500000, .inl fk1) := (congrFun ecu4 _).trans ((va_up_ne _ _ (by omega)).trans hk)
                                    have ha : cu4 17 = .inl (B.2.1 2, 20000, .inl fa1) := (congrFun ecu4 _).trans ((va_up_ne _ _ (by omega)).trans ha)
                                    have htp : cu4 18 = .inl (B.2.1 0, 40, .inl (nF tp3)) := (congrFun ecu4 _).trans ((va_up_ne _ _ (by omega)).trans htp)
                                    have hwt : cu4 19 = .inl (B.2.1 0, 40, .inl (nF wt1)) := (congrFun ecu4 _).trans ((va_up_ne _ _ (by omega)).trans hwt)
                                    have hsn : cu4 20 = .inl (B.2.1 0, 40, .inl (nF sn1)) := (congrFun ecu4 _).trans ((va_up_ne _ _ (by omega)).trans hsn)
                                    have hwh : cu4 21 = .inl (B.2.1 0, 40, .inl (nF wh2)) := (congrFun ecu4 _).trans ((va_up_ne _ _ (by omega)).trans hwh)
                                    refine g_aload_n fx 0 dX12_tables_266 rfl ?_
                                    refine g_aload_n fx 0 dX12_tables_267 rfl ?_
                                    refine g_get (r := 0) fx lkX12_163 (by omega) h0 rfl dX12_tables_268 ?_
                                    refine g_isi (y := nI T) ((va_up_ne _ _ (by decide)).trans ((va_up_ne _ _ (by decide)).trans ((va_up_ne _ _ (by decide)).trans ((va_up_ne _ _ (by decide)).trans hT)))) ?_
                                    refine g_put (r := 0) (fs' := mFs ad (va_up (va_up (va_up (va_up (va_up F 26 (nI R)) 27 (nI C)) 12 (nI 0)) 13 (nI (gc 0))) 14 (nI T))) fx lpX12_240 (by omega) h0 rfl rfl (Nat.le_of_ble_eq_true rfl) rfl dX12_tables_271 (fun cu5 ecu5 => ?_)
                                    have hfr : ∀ r, (r = 5 ∨ r = 6 ∨ r = 7 ∨ r = 8 ∨ r = 11 ∨ 21 < r) → cu5 r = ct r := fun r hp => (congrFun ecu5 r).trans ((va_up_ne _ _ (by omega)).trans (hfr r hp))
                                    have h0 : cu5 0 = mObj ad (va_up (va_up (va_up (va_up (va_up F 26 (nI R)) 27 (nI C)) 12 (nI 0)) 13 (nI (gc 0))) 14 (nI T)) := by rw [ecu5, va_up_self]
                                    have hq : cu5 1 = .inl (B.2.1 0, 40, .inl (nF gq)) := (congrFun ecu5 _).trans ((va_up_ne _ _ (by omega)).trans hq)
                                    have hlf : cu5 2 = .inl (B.2.1 0, 40, .inl (nF gl)) := (congrFun ecu5 _).trans ((va_up_ne _ _ (by omega)).trans hlf)
                                    have ho : cu5 3 = .inl (B.2.1 0, 40, .inl (nF go)) := (congrFun ecu5 _).trans ((va_up_ne _ _ (by omega)).trans ho)
                                    have ht : cu5 4 = .inl (B.2.1 0, 40, .inl (nF gt)) := (congrFun ecu5 _).trans ((va_up_ne _ _ (by omega)).trans ht)
                                    have hc : cu5 5 = .inl (B.2.1 0, 25, .inl (nF gc)) := (congrFun ecu5 _).trans ((va_up_ne _ _ (by omega)).trans hc)
                                    have hu : cu5 9 = .inl (B.2.1 0, 160, .inl (nF gu5)) := (congrFun ecu5 _).trans ((va_up_ne _ _ (by omega)).trans hu)
                                    have hw : cu5 10 = .inl (B.2.1 0, 160, .inl (nF gw)) := (congrFun ecu5 _).trans ((va_up_ne _ _ (by omega)).trans hw)
                                    have hv : cu5 12 = .inl (B.2.1 0, 25, .inl (nF v6)) := (congrFun ecu5 _).trans ((va_up_ne _ _ (by omega)).trans hv)
                                    have hh : cu5 13 = .inl (B.2.1 0, 25, .inl (nF h6)) := (congrFun ecu5 _).trans ((va_up_ne _ _ (by omega)).trans hh)
                                    have hrm : cu5 14 = .inl (B.2.1 0, 5, .inl (nF rm5)) := (congrFun ecu5 _).trans ((va_up_ne _ _ (by omega)).trans hrm)
                                    have hcm : cu5 15 = .inl (B.2.1 0, 5, .inl (nF cm5)) := (congrFun ecu5 _).trans ((va_up_ne _ _ (by omega)).trans hcm)
                                    have hk : cu5 16 = .inl (B.2.1 2, 500000, .inl fk1) := (congrFun ecu5 _).trans ((va_up_ne _ _ (by omega)).trans hk)
                                    have ha : cu5 17 = .inl (B.2.1 2, 20000, .inl fa1) := (congrFun ecu5 _).trans ((va_up_ne _ _ (by omega)).trans ha)
                                    have htp : cu5 18 = .inl (B.2.1 0, 40, .inl (nF tp3)) := (congrFun ecu5 _).trans ((va_up_ne _ _ (by omega)).trans htp)
                                    have hwt : cu5 19 = .inl (B.2.1 0, 40, .inl (nF wt1)) := (congrFun ecu5 _).trans ((va_up_ne _ _ (by omega)).trans hwt)
                                    have hsn : cu5 20 = .inl (B.2.1 0, 40, .inl (nF sn1)) := (congrFun ecu5 _).trans ((va_up_ne _ _ (by omega)).trans hsn)
                                    have hwh : cu5 21 = .inl (B.2.1 0, 40, .inl (nF wh2)) := (congrFun ecu5 _).trans ((va_up_ne _ _ (by omega)).trans hwh)
                                    refine g_aload_n fx 0 dX12_tables_274 rfl ?_
                                    refine g_aload_n fx 0 dX12_tables_275 rfl ?_
                                    refine g_get (r := 0) fx lkX12_78 (by omega) h0 rfl dX12_tables_276 ?_
                                    have hoku5 : ∀ t, t < 4 → okN gu5 (40 * t) := fun t ht => by by_cases q : t = 3; (subst q; exact hok5); (exact ok_out hou5 (by omega) (hok3 t ht))
                                    have hTOP : (facP (fun r => sumF (fun k => gc (C * r + k)) C) R * facP (fun c => sumF (fun k => gc (C * k + c)) R) C) < 2 ^ 546 := top_lt (facP_lt2 (by omega)) (facP_lt2 (by omega))
                                    have hvU : ∀ t, t < 4 → nv gu5 (40 * t) = tSum (facP (fun r => sumF (fun k => gc (C * r + k)) C) R * facP (fun c => sumF (fun k => gc (C * k + c)) R) C) (C * R) gc cs m t := fun t ht => by
                                      have h4 : t = 0 ∨ t = 1 ∨ t = 2 ∨ t = 3 := by omega
                                      rw [him] at hst0 hst1 hst2
                                      rcases h4 with rfl | rfl | rfl | rfl
                                      · exact (nv_out hou5 (by omega)).trans hst0
                                      · exact (nv_out hou5 (by omega)).trans hst1
                                      · exact (nv_out hou5 (by omega)).trans hst2
                                      · exact hv5.trans hvs
                                    have hU2 : ∀ t, t < 4 → nv gu5 (40 * t) * 2 ≤ 16777216 ^ 40 := fun t ht => two960 (by
                                      rw [hvU t ht]
                                      by_cases q : t < 3
                                      · exact Nat.lt_of_le_of_lt (Nat.le_add_right _ _) (x20001 (tSum_le q) hm2 hTOP)
                                      · have q3 : t = 3 := by omega
                                        subst q3
                                        exact Nat.lt_of_le_of_lt (Nat.div_le_self _ _) (lt700 hTOP))
                                    refine g_callVv (As := [.ref (ad 21)]) (rest := []) fx slX12_243 (c_X12_shorten B ad cu5 n (va_up (va_up (va_up (va_up (va_up F 26 (nI R)) 27 (nI C)) 12 (nI 0)) 13 (nI (gc 0))) 14 (nI T)) gq gl hn h0 hq hlf go gt ho ht gu5 gw wh2 hu hw hwh hokW (by rw [hvW]; exact fac_pos _) (two960 (by rw [hvW]; exact lt700 (Nat.lt_of_le_of_lt (fac_mono hT60) (Nat.lt_trans fac60 (by decide))))) hoku5 hU2) (by omega) h0 rfl rfl rfl (Nat.le_of_ble_eq_true rfl) ⟨by decide, by decide⟩ ⟨by decide, by decide⟩ dX12_tables_279 (fun ct20 hz14 => ?_)
                                    obtain ⟨gq9, gl9, go9, gt9, gu9, gw9, hq, hlf, ho, ht, hu, hw, hfin, hs14⟩ := hz14
                                    have h0 : ct20 0 = mObj ad (va_up (va_up (va_up (va_up (va_up F 26 (nI R)) 27 (nI C)) 12 (nI 0)) 13 (nI (gc 0))) 14 (nI T)) := (hs14 0 (by decide) (by decide) (by decide) (by decide) (by decide) (by decide)).trans h0
                                    have hc : ct20 5 = .inl (B.2.1 0, 25, .inl (nF gc)) := (hs14 5 (by decide) (by decide) (by decide) (by decide) (by decide) (by decide)).trans hc
                                    have hv : ct20 12 = .inl (B.2.1 0, 25, .inl (nF v6)) := (hs14 12 (by decide) (by decide) (by decide) (by decide) (by decide) (by decide)).trans hv
                                    have hh : ct20 13 = .inl (B.2.1 0, 25, .inl (nF h6)) := (hs14 13 (by decide) (by decide) (by decide) (by decide) (by decide) (by decide)).trans hh
                                    have hrm : ct20 14 = .inl (B.2.1 0, 5, .inl (nF rm5)) := (hs14 14 (by decide) (by decide) (by decide) (by decide) (by decide) (by decide)).trans hrm
                                    have hcm : ct20 15 = .inl (B.2.1 0, 5, .inl (nF cm5)) := (hs14 15 (by decide) (by decide) (by decide) (by decide) (by decide) (by decide)).trans hcm
                                    have hk : ct20 16 = .inl (B.2.1 2, 500000, .inl fk1) := (hs14 16 (by decide) (by decide) (by decide) (by decide) (by decide) (by decide)).trans hk
                                    have ha : ct20 17 = .inl (B.2.1 2, 20000, .inl fa1) := (hs14 17 (by decide) (by decide) (by decide) (by decide) (by decide) (by decide)).trans ha
                                    have htp : ct20 18 = .inl (B.2.1 0, 40, .inl (nF tp3)) := (hs14 18 (by decide) (by decide) (by decide) (by decide) (by decide) (by decide)).trans htp
                                    have hwt : ct20 19 = .inl (B.2.1 0, 40, .inl (nF wt1)) := (hs14 19 (by decide) (by decide) (by decide) (by decide) (by decide) (by decide)).trans hwt
                                    have hsn : ct20 20 = .inl (B.2.1 0, 40, .inl (nF sn1)) := (hs14 20 (by decide) (by decide) (by decide) (by decide) (by decide) (by decide)).trans hsn
                                    have hwh : ct20 21 = .inl (B.2.1 0, 40, .inl (nF wh2)) := (hs14 21 (by decide) (by decide) (by decide) (by decide) (by decide) (by decide)).trans hwh
                                    have hfr : ∀ r, (r = 5 ∨ r = 6 ∨ r = 7 ∨ r = 8 ∨ r = 11 ∨ 21 < r) → ct20 r = ct r := fun r hp => (hs14 r (by omega) (by omega) (by omega) (by omega) (by omega) (by omega)).trans (hfr r hp)
                                    refine g_iload_n fx 1 dX12_tables_282 rfl ?_
                                    refine g_iret fx rt dX12_tables_283 ?_
                                    rw [him] at hcs
                                    refine gPi.mk (Or.inr (Or.inr ⟨hTp, by omega, by rw [hmT], _, fk1, fa1, cs, gq9, gl9, go9, gt9, gu9, gw9, v6, h6, rm5, cm5, tp3, wt1, sn1, wh2, h0, hq, hlf, ho, ht, hu, hw, hv, hh, hrm, hcm, hk, ha, htp, hwt, hsn, hwh, ?_, ?_, ?_, hfr⟩))
                                    · refine ⟨?_, rfl, rfl, rfl, rfl, rfl, fun k q1 q2 q3 q4 q5 q6 => ?_⟩
                                      · have q := hF25 him
                                        rw [← hmT, ← q]; rfl
                                      · rw [va_up_ne _ _ q3, va_up_ne _ _ q2, va_up_ne _ _ q1, va_up_ne _ _ q6, va_up_ne _ _ q5]; exact hF k q4
                                    · rw [← hmT]; exact hcs
                                    · intro t ht4
                                      obtain ⟨p1, p2, p3, p4⟩ := hfin t ht4
                                      rw [hvU t ht4, hvW] at p3 p4
                                      rw [← hmT]; exact ⟨p1, p2, p3, p4⟩
                                  · skip
                                    have hlt : i < m := (nI_ltI (by omega) (by omega)).mp (Int32.not_le.mp c179)
                                    obtain ⟨hval6, hhi6, hid6⟩ := hcur hlt
                                    have hv60 : ∀ j, j < C * R → v6 j ≤ 60 := (fun j hj => by have q1 := (hval6 j hj).2; have q2 := hr60 (j / C) ((Nat.div_lt_iff_lt_mul hCp).mpr (by rw [Nat.mul_comm]; exact hj)); rw [← her5 _ ((Nat.div_lt_iff_lt_mul hCp).mpr (by rw [Nat.mul_comm]; exact hj))] at q2; unfold tHi tRest at q1; omega)
                                    have hvalC : Val C (fun r => sumF (fun k => gc (C * r + k)) C) (fun c => sumF (fun k => gc (C * k + c)) R) (C * R) v6 := fun j hj => by have q := hval6 j hj; rw [tLo_mg hCp hj her5 hec5, tHi_mg hCp hj her5 hec5] at q; exact q
                                    have hidC : tIdx (C * R) C (fun r => sumF (fun k => gc (C * r + k)) C) (fun c => sumF (fun k => gc (C * k + c)) R) v6 = i := by rw [← hid6]; exact (tIdx_mg hCp her5 hec5).symm
                                    refine g_aload_n fx 0 dX12_tables_182 rfl ?_
                                    refine g_aload_n fx 0 dX12_tables_183 rfl ?_
                                    refine g_get (r := 0) fx lkX12_49 (by omega) h0 rfl dX12_tables_184 ?_
                                    refine g_aload_n fx 0 dX12_tables_187 rfl ?_
                                    refine g_get (r := 0) fx lkX12_72 (by omega) h0 rfl dX12_tables_188 ?_
                                    refine g_callVv (As := [.ref (ad 12), .ref (ad 19)]) (rest := []) fx slX12_221 (c_X12_weigh B ad ct15 n F tp3 wt1 v6 hn h0 19 12 (by omega) (by omega) (by decide) (by decide) (by decide) htp hv hwt hokt R C hR hC hR5 hC5 hv60) (by omega) h0 rfl rfl rfl (Nat.le_of_ble_eq_true rfl) ⟨by decide, by decide⟩ ⟨by decide, by decide⟩ dX12_tables_191 (fun ct16 hz11 => ?_)
                                    obtain ⟨wt2, et11, hokwt, hvw⟩ := hz11
                                    rw [hvt3] at hvw
                                    have hfr : ∀ r, (r = 5 ∨ r = 6 ∨ r = 7 ∨ r = 8 ∨ r = 11 ∨ 21 < r) → ct16 r = ct r := fun r hp => (congrFun et11 r).trans ((va_up_ne _ _ (by omega)).trans (hfr r hp))
                                    have h0 : ct16 0 = mObj ad F := (congrFun et11 _).trans ((va_up_ne _ _ (by omega)).trans h0)
                                    have hq : ct16 1 = .inl (B.2.1 0, 40, .inl (nF gq)) := (congrFun et11 _).trans ((va_up_ne _ _ (by omega)).trans hq)
                                    have hlf : ct16 2 = .inl (B.2.1 0, 40, .inl (nF gl)) := (congrFun et11 _).trans ((va_up_ne _ _ (by omega)).trans hlf)
                                    have ho : ct16 3 = .inl (B.2.1 0, 40, .inl (nF go)) := (congrFun et11 _).trans ((va_up_ne _ _ (by omega)).trans ho)
                                    have ht : ct16 4 = .inl (B.2.1 0, 40, .inl (nF gt)) := (congrFun et11 _).trans ((va_up_ne _ _ (by omega)).trans ht)
                                    have hc : ct16 5 = .inl (B.2.1 0, 25, .inl (nF gc)) := (congrFun et11 _).trans ((va_up_ne _ _ (by omega)).trans hc)
                                    have hu : ct16 9 = .inl (B.2.1 0, 160, .inl (nF gu3)) := (congrFun et11 _).trans ((va_up_ne _ _ (by omega)).trans hu)
                                    have hw : ct16 10 = .inl (B.2.1 0, 160, .inl (nF gw)) := (congrFun et11 _).trans ((va_up_ne _ _ (by omega)).trans hw)
                                    have hv : ct16 12 = .inl (B.2.1 0, 25, .inl (nF v6)) := (congrFun et11 _).trans ((va_up_ne _ _ (by omega)).trans hv)
                                    have hh : ct16 13 = .inl (B.2.1 0, 25, .inl (nF h6)) := (congrFun et11 _).trans ((va_up_ne _ _ (by omega)).trans hh)
                                    have hrm : ct16 14 = .inl (B.2.1 0, 5, .inl (nF rm5)) := (congrFun et11 _).trans ((va_up_ne _ _ (by omega)).trans hrm)
                                    have hcm : ct16 15 = .inl (B.2.1 0, 5, .inl (nF cm5)) := (congrFun et11 _).trans ((va_up_ne _ _ (by omega)).trans hcm)
                                    have hk : ct16 16 = .inl (B.2.1 2, 500000, .inl fk1) := (congrFun et11 _).trans ((va_up_ne _ _ (by omega)).trans hk)
                                    have ha : ct16 17 = .inl (B.2.1 2, 20000, .inl fa1) := (congrFun et11 _).trans ((va_up_ne _ _ (by omega)).trans ha)
                                    have htp : ct16 18 = .inl (B.2.1 0, 40, .inl (nF tp3)) := (congrFun et11 _).trans ((va_up_ne _ _ (by omega)).trans htp)
                                    have hwt : ct16 19 = .inl (B.2.1 0, 40, .inl (nF wt2)) := by rw [et11, va_up_self]
                                    have hsn : ct16 20 = .inl (B.2.1 0, 40, .inl (nF sn1)) := (congrFun et11 _).trans ((va_up_ne _ _ (by omega)).trans hsn)
                                    have hwh : ct16 21 = .inl (B.2.1 0, 40, .inl (nF wh2)) := (congrFun et11 _).trans ((va_up_ne _ _ (by omega)).trans hwh)
                                    have hCR : 0 < C * R := Nat.mul_pos hCp hRp
                                    have hTOP : (facP (fun r => sumF (fun k => gc (C * r + k)) C) R * facP (fun c => sumF (fun k => gc (C * k + c)) R) C) < 2 ^ 546 := top_lt (facP_lt2 (by omega)) (facP_lt2 (by omega))
                                    have hwle : nv wt2 0 ≤ (facP (fun r => sumF (fun k => gc (C * r + k)) C) R * facP (fun c => sumF (fun k => gc (C * k + c)) R) C) := by rw [hvw]; exact Nat.div_le_self _ _
                                    refine g_aload_n fx 0 dX12_tables_194 rfl ?_
                                    refine g_iload_n fx 2 dX12_tables_195 rfl ?_
                                    refine g_callVv (As := [.int (nI i)]) (rest := []) fx slX12_225 (c_X12_keepCase B ad ct16 n F gc gu3 v6 wt2 sn1 fk1 fa1 hn h0 hc hu hv hk ha hwt hsn R C hR hC hR5 hC5 hv60 hCR (hgb 0 (by decide)) hokwt hoks hok3 (add_lt960 (n := i) (by rw [hst0]; exact tSum_le (by decide)) (by omega) hTOP hwle) (add_lt960 (n := i) (by rw [hst1]; exact tSum_le (by decide)) (by omega) hTOP hwle) (add_lt960 (n := i) (by rw [hst2]; exact tSum_le (by decide)) (by omega) hTOP hwle) i (by omega)) (by omega) h0 rfl rfl rfl (Nat.le_of_ble_eq_true rfl) ⟨by decide, by decide⟩ ⟨by decide, by decide⟩ dX12_tables_196 (fun ct17 hz12 => ?_)
                                    obtain ⟨fk2, gu4, hk, ha, hu, hkk, hkb, hok4, ⟨hu0, hu1, hu2, hu3⟩, hs12⟩ := hz12
                                    have h0 : ct17 0 = mObj ad F := (hs12 0 (by decide) (by decide) (by decide)).trans h0
                                    have hq : ct17 1 = .inl (B.2.1 0, 40, .inl (nF gq)) := (hs12 1 (by decide) (by decide) (by decide)).trans hq
                                    have hlf : ct17 2 = .inl (B.2.1 0, 40, .inl (nF gl)) := (hs12 2 (by decide) (by decide) (by decide)).trans hlf
                                    have ho : ct17 3 = .inl (B.2.1 0, 40, .inl (nF go)) := (hs12 3 (by decide) (by decide) (by decide)).trans ho
                                    have ht : ct17 4 = .inl (B.2.1 0, 40, .inl (nF gt)) := (hs12 4 (by decide) (by decide) (by decide)).trans ht
                                    have hc : ct17 5 = .inl (B.2.1 0, 25, .inl (nF gc)) := (hs12 5 (by decide) (by decide) (by decide)).trans hc
                                    have hw : ct17 10 = .inl (B.2.1 0, 160, .inl (nF gw)) := (hs12 10 (by decide) (by decide) (by decide)).trans hw
                                    have hv : ct17 12 = .inl (B.2.1 0, 25, .inl (nF v6)) := (hs12 12 (by decide) (by decide) (by decide)).trans hv
                                    have hh : ct17 13 = .inl (B.2.1 0, 25, .inl (nF h6)) := (hs12 13 (by decide) (by decide) (by decide)).trans hh
                                    have hrm : ct17 14 = .inl (B.2.1 0, 5, .inl (nF rm5)) := (hs12 14 (by decide) (by decide) (by decide)).trans hrm
                                    have hcm : ct17 15 = .inl (B.2.1 0, 5, .inl (nF cm5)) := (hs12 15 (by decide) (by decide) (by decide)).trans hcm
                                    have htp : ct17 18 = .inl (B.2.1 0, 40, .inl (nF tp3)) := (hs12 18 (by decide) (by decide) (by decide)).trans htp
                                    have hwt : ct17 19 = .inl (B.2.1 0, 40, .inl (nF wt2)) := (hs12 19 (by decide) (by decide) (by decide)).trans hwt
                                    have hsn : ct17 20 = .inl (B.2.1 0, 40, .inl (nF sn1)) := (hs12 20 (by decide) (by decide) (by decide)).trans hsn
                                    have hwh : ct17 21 = .inl (B.2.1 0, 40, .inl (nF wh2)) := (hs12 21 (by decide) (by decide) (by decide)).trans hwh
                                    have hfr : ∀ r, (r = 5 ∨ r = 6 ∨ r = 7 ∨ r = 8 ∨ r = 11 ∨ 21 < r) → ct17 r = ct r := fun r hp => (hs12 r (by omega) (by omega) (by omega)).trans (hfr r hp)
                                    refine g_aload_n fx 0 dX12_tables_199 rfl ?_
                                    refine g_callVi (As := []) (rest := []) fx slX12_213 (c_X12_nextTable B ad ct17 n F v6 h6 rm5 cm5 hn h0 hv hh hrm hcm R C hR hC hR5 hC5 hCp (fun r hr => by rw [her5 r hr]; exact hr60 r hr) (fun c hc => by rw [hec5 c hc]; exact hc60 c hc) hsm5 hval6 hhi6) (by omega) h0 rfl rfl rfl (Nat.le_of_ble_eq_true rfl) ⟨by decide, by decide⟩ ⟨by decide, by decide⟩ dX12_tables_200 (fun q5 ct18 hq5 => ?_)
                                    refine g_istore_n (L' := [(3, .int q5), (0, .ref (ad 0)), (1, .int (nI m)), (2, .int (nI i))]) fx dX12_tables_203 (by decide) rfl ?_
                                    refine g_iload_n fx 0 dX12_tables_204 rfl ?_
                                    refine g_if_ne fx 215 dX12_tables_205 (by decide) (fun c205 => ?_) (fun c205 => ?_)
                                    · skip
                                      have hzq5 : ∃ a v' h', a < C * R ∧ (∀ j, a < j → j < C * R → v6 j = h6 j) ∧ (∀ j, j < a → v' j = v6 j) ∧ v' a = v6 a + 1 ∧ (∀ j, a < j → j < C * R → v' j = tLo C rm5 cm5 v' j) ∧ (∀ j, j < C * R → h' j = tHi C rm5 cm5 v' j) ∧ Val C rm5 cm5 (C * R) v' ∧ ct18 12 = .inl (B.2.1 0, 25, .inl (nF v')) ∧ ct18 13 = .inl (B.2.1 0, 25, .inl (nF h')) ∧ ∀ r, r ≠ 12 → r ≠ 13 → ct18 r = ct17 r := by
                                        rcases hq5 with ⟨e1, -⟩ | ⟨-, q⟩
                                        · exact absurd e1 c205
                                        · exact q
                                      obtain ⟨aq5, v7, h7, hna, hnb, hnc, hnd, hne, hnhi, hnval, hv, hh, hsq5⟩ := hzq5
                                      have h0 : ct18 0 = mObj ad F := (hsq5 0 (by decide) (by decide)).trans h0
                                      have hq : ct18 1 = .inl (B.2.1 0, 40, .inl (nF gq)) := (hsq5 1 (by decide) (by decide)).trans hq
                                      have hlf : ct18 2 = .inl (B.2.1 0, 40, .inl (nF gl)) := (hsq5 2 (by decide) (by decide)).trans hlf
                                      have ho : ct18 3 = .inl (B.2.1 0, 40, .inl (nF go)) := (hsq5 3 (by decide) (by decide)).trans ho
                                      have ht : ct18 4 = .inl (B.2.1 0, 40, .inl (nF gt)) := (hsq5 4 (by decide) (by decide)).trans ht
                                      have hc : ct18 5 = .inl (B.2.1 0, 25, .inl (nF gc)) := (hsq5 5 (by decide) (by decide)).trans hc
                                      have hu : ct18 9 = .inl (B.2.1 0, 160, .inl (nF gu4)) := (hsq5 9 (by decide) (by decide)).trans hu
                                      have hw : ct18 10 = .inl (B.2.1 0, 160, .inl (nF gw)) := (hsq5 10 (by decide) (by decide)).trans hw
                                      have hrm : ct18 14 = .inl (B.2.1 0, 5, .inl (nF rm5)) := (hsq5 14 (by decide) (by decide)).trans hrm
                                      have hcm : ct18 15 = .inl (B.2.1 0, 5, .inl (nF cm5)) := (hsq5 15 (by decide) (by decide)).trans hcm
                                      have hk : ct18 16 = .inl (B.2.1 2, 500000, .inl fk2) := (hsq5 16 (by decide) (by decide)).trans hk
                                      have ha : ct18 17 = .inl (B.2.1 2, 20000, .inl (va_up fa1 i (cmpI (nv wt2 0) (nv sn1 0)))) := (hsq5 17 (by decide) (by decide)).trans ha
                                      have htp : ct18 18 = .inl (B.2.1 0, 40, .inl (nF tp3)) := (hsq5 18 (by decide) (by decide)).trans htp
                                      have hwt : ct18 19 = .inl (B.2.1 0, 40, .inl (nF wt2)) := (hsq5 19 (by decide) (by decide)).trans hwt
                                      have hsn : ct18 20 = .inl (B.2.1 0, 40, .inl (nF sn1)) := (hsq5 20 (by decide) (by decide)).trans hsn
                                      have hwh : ct18 21 = .inl (B.2.1 0, 40, .inl (nF wh2)) := (hsq5 21 (by decide) (by decide)).trans hwh
                                      have hfr : ∀ r, (r = 5 ∨ r = 6 ∨ r = 7 ∨ r = 8 ∨ r = 11 ∨ 21 < r) → ct18 r = ct r := fun r hp => (hsq5 r (by omega) (by omega)).trans (hfr r hp)
                                      have hid7 : tIdx (C * R) C rm5 cm5 v7 = i + 1 := by rw [idx_next hCp hna hval6 (fun j q1 q2 => (hnb j q1 q2).trans (hhi6 j q2)) hnc hnd hne, hid6]
                                      have hlt7 : i + 1 < m := by rw [hmT, ← tTot_of hCp her5 hec5 v7, ← hid7]; exact idx_ltc hCp hnval
                                      refine g_iinc (L' := [(2, .int (nI (i + 1))), (3, .int q5), (0, .ref (ad 0)), (1, .int (nI m))]) fx (nI (i + 1)) 3 dX12_tables_215 rfl (gInc _) (by decide) rfl ?_
                                      refine g_goto fx 177 dX12_tables_218 (by decide) ?_
                                      refine g_locals (L' := [(0, .ref (ad 0)), (1, .int (nI m)), (2, .int (nI (i + 1)))]) [2, 3, 0] rfl ?_
                                      have hcs9 : (∀ j, j < i + 1 → Val C (fun r => sumF (fun k => gc (C * r + k)) C) (fun c => sumF (fun k => gc (C * k + c)) R) (C * R) ((va_up cs i v6) j) ∧ tIdx (C * R) C (fun r => sumF (fun k => gc (C * r + k)) C) (fun c => sumF (fun k => gc (C * k + c)) R) ((va_up cs i v6) j) = j ∧ (∀ k, k < (C * R) → fk2 (25 * j + k) = nI ((va_up cs i v6) j k)) ∧ (va_up fa1 i (cmpI (nv wt2 0) (nv sn1 0))) j = cmpI ((facP (fun r => sumF (fun k => gc (C * r + k)) C) R * facP (fun c => sumF (fun k => gc (C * k + c)) R) C) / facP ((va_up cs i v6) j) (C * R)) ((facP (fun r => sumF (fun k => gc (C * r + k)) C) R * facP (fun c => sumF (fun k => gc (C * k + c)) R) C) / facP gc (C * R))) := fun j hj => by
                                        by_cases q : j = i
                                        · subst q
                                          rw [va_up_self, va_up_self, ← hvw, ← hvs]
                                          exact ⟨hvalC, hidC, hkk, rfl⟩
                                        · rw [va_up_ne _ _ q, va_up_ne _ _ q]
                                          obtain ⟨p1, p2, p3, p4⟩ := hcs j (by omega)
                                          exact ⟨p1, p2, fun k hk => by rw [hkb _ (by omega)]; exact p3 k hk, p4⟩
                                      have hT0 : nv gu4 0 = tSum (facP (fun r => sumF (fun k => gc (C * r + k)) C) R * facP (fun c => sumF (fun k => gc (C * k + c)) R) C) (C * R) gc (va_up cs i v6) (i + 1) 0 := by rw [tSum_up0, hu0, hst0, ← hvw, ← hvs]
                                      have hT1 : nv gu4 40 = tSum (facP (fun r => sumF (fun k => gc (C * r + k)) C) R * facP (fun c => sumF (fun k => gc (C * k + c)) R) C) (C * R) gc (va_up cs i v6) (i + 1) 1 := by rw [tSum_up1, hu1, hst1, ← hvw]
                                      have hT2 : nv gu4 80 = tSum (facP (fun r => sumF (fun k => gc (C * r + k)) C) R * facP (fun c => sumF (fun k => gc (C * k + c)) R) C) (C * R) gc (va_up cs i v6) (i + 1) 2 := by rw [tSum_up2, hu2, hst2, ← hvw]
                                      exact ih177 (i + 1) _ _ v7 h7 _ _ gu4 wt2 (va_up cs i v6) (by omega) hF (fun q => absurd q (by omega)) (fun q => ⟨hnval, hnhi, hid7⟩) hcs9 hok4 hT0 hT1 hT2 (hu3.trans hst3) h0 hq hlf ho ht hc hu hw hv hh hrm hcm hk ha htp hwt hsn hwh hfr (by omega)
                                    · skip
                                      have hzq5 : ct18 = ct17 ∧ ∀ j, j < C * R → v6 j = h6 j := by
                                        rcases hq5 with ⟨-, e3, hall⟩ | ⟨e1, -⟩
                                        · exact ⟨e3, hall⟩
                                        · exact absurd (e1.symm.trans c205) (by decide)
                                      obtain ⟨e3, hall⟩ := hzq5
                                      subst e3
                                      have him : i + 1 = m := by rw [hmT, ← tTot_of hCp her5 hec5 v6, ← hid6]; exact idx_last hCp hval6 (fun j hj => (hall j hj).trans (hhi6 j hj))
                                      refine g_aload_n fx 1 dX12_tables_208 rfl ?_
                                      refine g_iload_n fx 3 dX12_tables_209 rfl ?_
                                      refine g_iconst (v := nI 1) fx dX12_tables_210 (by decide +kernel) ?_
                                      refine g_iaddN fx dX12_tables_211 ?_
                                      refine g_put (r := 0) (fs' := mFs ad (va_up F 25 (nI (i + 1)))) fx lpX12_228 (by omega) h0 rfl rfl (Nat.le_of_ble_eq_true rfl) rfl dX12_tables_212 (fun cu6 ecu6 => ?_)
                                      have hfr : ∀ r, (r = 5 ∨ r = 6 ∨ r = 7 ∨ r = 8 ∨ r = 11 ∨ 21 < r) → cu6 r = ct r := fun r hp => (congrFun ecu6 r).trans ((va_up_ne _ _ (by omega)).trans (hfr r hp))
                                      have h0 : cu6 0 = mObj ad (va_up F 25 (nI (i + 1))) := by rw [ecu6, va_up_self]
                                      have hq : cu6 1 = .inl (B.2.1 0, 40, .inl (nF gq)) := (congrFun ecu6 _).trans ((va_up_ne _ _ (by omega)).trans hq)
                                      have hlf : cu6 2 = .inl (B.2.1 0, 40, .inl (nF gl)) := (congrFun ecu6 _).trans ((va_up_ne _ _ (by omega)).trans hlf)
                                      have ho : cu6 3 = .inl (B.2.1 0, 40, .inl (nF go)) := (congrFun ecu6 _).trans ((va_up_ne _ _ (by omega)).trans ho)
                                      have ht : cu6 4 = .inl (B.2.1 0, 40, .inl (nF gt)) := (congrFun ecu6 _).trans ((va_up_ne _ _ (by omega)).trans ht)
                                      have hc : cu6 5 = .inl (B.2.1 0, 25, .inl (nF gc)) := (congrFun ecu6 _).trans ((va_up_ne _ _ (by omega)).trans hc)
                                      have hu : cu6 9 = .inl (B.2.1 0, 160, .inl (nF gu4)) := (congrFun ecu6 _).trans ((va_up_ne _ _ (by omega)).trans hu)
                                      have hw : cu6 10 = .inl (B.2.1 0, 160, .inl (nF gw)) := (congrFun ecu6 _).trans ((va_up_ne _ _ (by omega)).trans hw)
                                      have hv : cu6 12 = .inl (B.2.1 0, 25, .inl (nF v6)) := (congrFun ecu6 _).trans ((va_up_ne _ _ (by omega)).trans hv)
                                      have hh : cu6 13 = .inl (B.2.1 0, 25, .inl (nF h6)) := (congrFun ecu6 _).trans ((va_up_ne _ _ (by omega)).trans hh)
                                      have hrm : cu6 14 = .inl (B.2.1 0, 5, .inl (nF rm5)) := (congrFun ecu6 _).trans ((va_up_ne _ _ (by omega)).trans hrm)
                                      have hcm : cu6 15 = .inl (B.2.1 0, 5, .inl (nF cm5)) := (congrFun ecu6 _).trans ((va_up_ne _ _ (by omega)).trans hcm)
                                      have hk : cu6 16 = .inl (B.2.1 2, 500000, .inl fk2) := (congrFun ecu6 _).trans ((va_up_ne _ _ (by omega)).trans hk)
                                      have ha : cu6 17 = .inl (B.2.1 2, 20000, .inl (va_up fa1 i (cmpI (nv wt2 0) (nv sn1 0)))) := (congrFun ecu6 _).trans ((va_up_ne _ _ (by omega)).trans ha)
                                      have htp : cu6 18 = .inl (B.2.1 0, 40, .inl (nF tp3)) := (congrFun ecu6 _).trans ((va_up_ne _ _ (by omega)).trans htp)
                                      have hwt : cu6 19 = .inl (B.2.1 0, 40, .inl (nF wt2)) := (congrFun ecu6 _).trans ((va_up_ne _ _ (by omega)).trans hwt)
                                      have hsn : cu6 20 = .inl (B.2.1 0, 40, .inl (nF sn1)) := (congrFun ecu6 _).trans ((va_up_ne _ _ (by omega)).trans hsn)
                                      have hwh : cu6 21 = .inl (B.2.1 0, 40, .inl (nF wh2)) := (congrFun ecu6 _).trans ((va_up_ne _ _ (by omega)).trans hwh)
                                      refine g_iinc (L' := [(2, .int (nI (i + 1))), (3, .int q5), (0, .ref (ad 0)), (1, .int (nI m))]) fx (nI (i + 1)) 3 dX12_tables_215 rfl (gInc _) (by decide) rfl ?_
                                      refine g_goto fx 177 dX12_tables_218 (by decide) ?_
                                      refine g_locals (L' := [(0, .ref (ad 0)), (1, .int (nI m)), (2, .int (nI (i + 1)))]) [2, 3, 0] rfl ?_
                                      have hcs9 : (∀ j, j < i + 1 → Val C (fun r => sumF (fun k => gc (C * r + k)) C) (fun c => sumF (fun k => gc (C * k + c)) R) (C * R) ((va_up cs i v6) j) ∧ tIdx (C * R) C (fun r => sumF (fun k => gc (C * r + k)) C) (fun c => sumF (fun k => gc (C * k + c)) R) ((va_up cs i v6) j) = j ∧ (∀ k, k < (C * R) → fk2 (25 * j + k) = nI ((va_up cs i v6) j k)) ∧ (va_up fa1 i (cmpI (nv wt2 0) (nv sn1 0))) j = cmpI ((facP (fun r => sumF (fun k => gc (C * r + k)) C) R * facP (fun c => sumF (fun k => gc (C * k + c)) R) C) / facP ((va_up cs i v6) j) (C * R)) ((facP (fun r => sumF (fun k => gc (C * r + k)) C) R * facP (fun c => sumF (fun k => gc (C * k + c)) R) C) / facP gc (C * R))) := fun j hj => by
                                        by_cases q : j = i
                                        · subst q
                                          rw [va_up_self, va_up_self, ← hvw, ← hvs]
                                          exact ⟨hvalC, hidC, hkk, rfl⟩
                                        · rw [va_up_ne _ _ q, va_up_ne _ _ q]
                                          obtain ⟨p1, p2, p3, p4⟩ := hcs j (by omega)
                                          exact ⟨p1, p2, fun k hk => by rw [hkb _ (by omega)]; exact p3 k hk, p4⟩
                                      have hT0 : nv gu4 0 = tSum (facP (fun r => sumF (fun k => gc (C * r + k)) C) R * facP (fun c => sumF (fun k => gc (C * k + c)) R) C) (C * R) gc (va_up cs i v6) (i + 1) 0 := by rw [tSum_up0, hu0, hst0, ← hvw, ← hvs]
                                      have hT1 : nv gu4 40 = tSum (facP (fun r => sumF (fun k => gc (C * r + k)) C) R * facP (fun c => sumF (fun k => gc (C * k + c)) R) C) (C * R) gc (va_up cs i v6) (i + 1) 1 := by rw [tSum_up1, hu1, hst1, ← hvw]
                                      have hT2 : nv gu4 80 = tSum (facP (fun r => sumF (fun k => gc (C * r + k)) C) R * facP (fun c => sumF (fun k => gc (C * k + c)) R) C) (C * R) gc (va_up cs i v6) (i + 1) 2 := by rw [tSum_up2, hu2, hst2, ← hvw]
                                      exact ih177 (i + 1) _ _ v6 h6 _ _ gu4 wt2 (va_up cs i v6) (by omega) (fun k hk => by rw [va_up_ne _ _ hk]; exact hF k hk) (fun q => by rw [va_up_self, q]) (fun q => absurd q (by omega)) hcs9 hok4 hT0 hT1 hT2 (hu3.trans hst3) h0 hq hlf ho ht hc hu hw hv hh hrm hcm hk ha htp hwt hsn hwh hfr (by omega)
                              refine g_locals (L' := [(0, .ref (ad 0)), (1, .int (nI m)), (2, .int (nI 0))]) [1, 2, 0] rfl ?_
                              exact LP177 (m + 1) 0 ct14 f v5 h5 fk fa gu2 wt (fun _ _ => 0) (by omega) (fun _ _ => rfl) (fun q => absurd q (by omega)) (fun _ => ⟨hval5, fun j hj => (hlo5 j hj).2, idx_first (fun j hj => (hlo5 j hj).1)⟩) (fun j hj => absurd hj (by omega)) (fun t ht => (hz t (by omega)).1) (hz 0 (by omega)).2 (hz 1 (by omega)).2 (hz 2 (by omega)).2 (hz 3 (by omega)).2 h0 hq hlf ho ht hc hu hw hv hh hrm hcm hk ha htp hwt hsn hwh hfr (by omega)
                            · skip
                              have hlt3 : i3 < 4 := (nI_ltI (by omega) (by omega)).mp (Int32.not_le.mp c150)
                              refine g_aload_n fx 0 dX12_tables_153 rfl ?_
                              refine g_get (r := 0) fx lkX12_38 (by omega) h0 rfl dX12_tables_154 ?_
                              refine g_bipush (v := nI 40) fx dX12_tables_157 (by decide +kernel) ?_
                              refine g_iload_n fx 2 dX12_tables_159 rfl ?_
                              refine g_imulN fx dX12_tables_160 ?_
                              refine g_lconst (v := lN 0) fx dX12_tables_161 (by decide +kernel) ?_
                              refine g_callSv (As := [.ref (ad 9), .int (nI (40 * i3)), .long (lN 0)]) (rest := []) fx slX12_127 (c_X12_set B ad ct12 n 9 (40 * i3) 160 gu2 (by omega) (by omega) (by decide) hu 0 (by decide)) rfl rfl (Nat.le_of_ble_eq_true rfl) ⟨by decide, by decide⟩ ⟨by decide, by decide⟩ dX12_tables_162 (fun ct13 hz10 => ?_)
                              obtain ⟨gu2b, et10, hou2, hoku2, hvu2⟩ := hz10
                              have hfr : ∀ r, (r = 5 ∨ r = 6 ∨ r = 7 ∨ r = 8 ∨ r = 11 ∨ 21 < r) → ct13 r = ct r := fun r hp => (congrFun et10 r).trans ((va_up_ne _ _ (by omega)).trans (hfr r hp))
                              have h0 : ct13 0 = mObj ad f := (congrFun et10 _).trans ((va_up_ne _ _ (by omega)).trans h0)
                              have hq : ct13 1 = .inl (B.2.1 0, 40, .inl (nF gq)) := (congrFun et10 _).trans ((va_up_ne _ _ (by omega)).trans hq)
                              have hlf : ct13 2 = .inl (B.2.1 0, 40, .inl (nF gl)) := (congrFun et10 _).trans ((va_up_ne _ _ (by omega)).trans hlf)
                              have ho : ct13 3 = .inl (B.2.1 0, 40, .inl (nF go)) := (congrFun et10 _).trans ((va_up_ne _ _ (by omega)).trans ho)
                              have ht : ct13 4 = .inl (B.2.1 0, 40, .inl (nF gt)) := (congrFun et10 _).trans ((va_up_ne _ _ (by omega)).trans ht)
                              have hc : ct13 5 = .inl (B.2.1 0, 25, .inl (nF gc)) := (congrFun et10 _).trans ((va_up_ne _ _ (by omega)).trans hc)
                              have hu : ct13 9 = .inl (B.2.1 0, 160, .inl (nF gu2b)) := by rw [et10, va_up_self]
                              have hw : ct13 10 = .inl (B.2.1 0, 160, .inl (nF gw)) := (congrFun et10 _).trans ((va_up_ne _ _ (by omega)).trans hw)
                              have hv : ct13 12 = .inl (B.2.1 0, 25, .inl (nF v2)) := (congrFun et10 _).trans ((va_up_ne _ _ (by omega)).trans hv)
                              have hh : ct13 13 = .inl (B.2.1 0, 25, .inl (nF h2)) := (congrFun et10 _).trans ((va_up_ne _ _ (by omega)).trans hh)
                              have hrm : ct13 14 = .inl (B.2.1 0, 5, .inl (nF rm1)) := (congrFun et10 _).trans ((va_up_ne _ _ (by omega)).trans hrm)
                              have hcm : ct13 15 = .inl (B.2.1 0, 5, .inl (nF cm1)) := (congrFun et10 _).trans ((va_up_ne _ _ (by omega)).trans hcm)
                              have hk : ct13 16 = .inl (B.2.1 2, 500000, .inl fk) := (congrFun et10 _).trans ((va_up_ne _ _ (by omega)).trans hk)
                              have ha : ct13 17 = .inl (B.2.1 2, 20000, .inl fa) := (congrFun et10 _).trans ((va_up_ne _ _ (by omega)).trans ha)
                              have htp : ct13 18 = .inl (B.2.1 0, 40, .inl (nF tp3)) := (congrFun et10 _).trans ((va_up_ne _ _ (by omega)).trans htp)
                              have hwt : ct13 19 = .inl (B.2.1 0, 40, .inl (nF wt)) := (congrFun et10 _).trans ((va_up_ne _ _ (by omega)).trans hwt)
                              have hsn : ct13 20 = .inl (B.2.1 0, 40, .inl (nF sn1)) := (congrFun et10 _).trans ((va_up_ne _ _ (by omega)).trans hsn)
                              have hwh : ct13 21 = .inl (B.2.1 0, 40, .inl (nF wh2)) := (congrFun et10 _).trans ((va_up_ne _ _ (by omega)).trans hwh)
                              refine g_iinc (L' := [(2, .int (nI (i3 + 1))), (0, .ref (ad 0)), (1, .int (nI m))]) fx (nI (i3 + 1)) 2 dX12_tables_165 rfl (gInc _) (by decide) rfl ?_
                              refine g_goto fx 148 dX12_tables_168 (by decide) ?_
                              refine g_locals (L' := [(0, .ref (ad 0)), (1, .int (nI m)), (2, .int (nI (i3 + 1)))]) [1, 2, 0] rfl ?_
                              exact ih148 (i3 + 1) _ gu2b (by omega) (fun t ht => by by_cases q : t = i3; (subst q; exact ⟨hoku2, hvu2⟩); (exact ⟨ok_out hou2 (by omega) (hz t (by omega)).1, (nv_out hou2 (by omega)).trans (hz t (by omega)).2⟩)) h0 hq hlf ho ht hc hu hw hv hh hrm hcm hk ha htp hwt hsn hwh hfr (by omega)
                        refine g_locals (L' := [(0, .ref (ad 0)), (1, .int (nI m)), (2, .int (nI 0))]) [1, 2, 0] rfl ?_
                        exact LP148 5 0 ct11 gu (by omega) (fun t ht => absurd ht (by omega)) h0 hq hlf ho ht hc hu hw hv hh hrm hcm hk ha htp hwt hsn hwh hfr (by decide)
                      · skip
                        have hlt : i2 < C := (nI_ltI (by omega) (by omega)).mp (Int32.not_le.mp c91)
                        have hbf := facP_lt (c := (fun c => sumF (fun k => gc (C * k + c)) R)) (n := C) (by omega) hlt
                        have hci := hc60 i2 hlt
                        refine g_aload_n fx 0 dX12_tables_94 rfl ?_
                        refine g_aload_n fx 0 dX12_tables_95 rfl ?_
                        refine g_get (r := 0) fx lkX12_69 (by omega) h0 rfl dX12_tables_96 ?_
                        refine g_aload_n fx 0 dX12_tables_99 rfl ?_
                        refine g_iload_n fx 2 dX12_tables_100 rfl ?_
                        refine g_callVip (As := [.int (nI i2)]) (rest := [.ref (ad 18), .ref (ad 0)]) fx slX12_174 (c_X12_marginOfColumn B ad ct7 n f gc hn h0 hc R C hR hC hR5 hC5 hgb i2 hlt) (by omega) h0 rfl rfl rfl (Nat.le_of_ble_eq_true rfl) ⟨by decide, by decide⟩ ⟨by decide, by decide⟩ dX12_tables_101 (fun q4 hq4 => ?_)
                        obtain rfl := hq4
                        refine g_callVv (As := [.ref (ad 18), .int (nI (sumF (fun k => gc (C * k + i2)) R))]) (rest := []) fx slX12_217 (c_X12_timesFactorial B ad ct7 n 18 tp3 (by omega) htp hokt (sumF (fun k => gc (C * k + i2)) R) (Nat.lt_of_le_of_lt hci (by decide)) (by rw [hvt3, Nat.mul_assoc]; exact lt960 (lt700 (top_lt (facP_lt2 (by omega)) hbf)))) (by omega) h0 rfl rfl rfl (Nat.le_of_ble_eq_true rfl) ⟨by decide, by decide⟩ ⟨by decide, by decide⟩ dX12_tables_104 (fun ct8 hz6 => ?_)
                        obtain ⟨tp3b, et6, hokt2, hvt2⟩ := hz6
                        have hfr : ∀ r, (r = 5 ∨ r = 6 ∨ r = 7 ∨ r = 8 ∨ r = 11 ∨ 21 < r) → ct8 r = ct r := fun r hp => (congrFun et6 r).trans ((va_up_ne _ _ (by omega)).trans (hfr r hp))
                        have h0 : ct8 0 = mObj ad f := (congrFun et6 _).trans ((va_up_ne _ _ (by omega)).trans h0)
                        have hq : ct8 1 = .inl (B.2.1 0, 40, .inl (nF gq)) := (congrFun et6 _).trans ((va_up_ne _ _ (by omega)).trans hq)
                        have hlf : ct8 2 = .inl (B.2.1 0, 40, .inl (nF gl)) := (congrFun et6 _).trans ((va_up_ne _ _ (by omega)).trans hlf)
                        have ho : ct8 3 = .inl (B.2.1 0, 40, .inl (nF go)) := (congrFun et6 _).trans ((va_up_ne _ _ (by omega)).trans ho)
                        have ht : ct8 4 = .inl (B.2.1 0, 40, .inl (nF gt)) := (congrFun et6 _).trans ((va_up_ne _ _ (by omega)).trans ht)
                        have hc : ct8 5 = .inl (B.2.1 0, 25, .inl (nF gc)) := (congrFun et6 _).trans ((va_up_ne _ _ (by omega)).trans hc)
                        have hu : ct8 9 = .inl (B.2.1 0, 160, .inl (nF gu)) := (congrFun et6 _).trans ((va_up_ne _ _ (by omega)).trans hu)
                        have hw : ct8 10 = .inl (B.2.1 0, 160, .inl (nF gw)) := (congrFun et6 _).trans ((va_up_ne _ _ (by omega)).trans hw)
                        have hv : ct8 12 = .inl (B.2.1 0, 25, .inl (nF v2)) := (congrFun et6 _).trans ((va_up_ne _ _ (by omega)).trans hv)
                        have hh : ct8 13 = .inl (B.2.1 0, 25, .inl (nF h2)) := (congrFun et6 _).trans ((va_up_ne _ _ (by omega)).trans hh)
                        have hrm : ct8 14 = .inl (B.2.1 0, 5, .inl (nF rm1)) := (congrFun et6 _).trans ((va_up_ne _ _ (by omega)).trans hrm)
                        have hcm : ct8 15 = .inl (B.2.1 0, 5, .inl (nF cm1)) := (congrFun et6 _).trans ((va_up_ne _ _ (by omega)).trans hcm)
                        have hk : ct8 16 = .inl (B.2.1 2, 500000, .inl fk) := (congrFun et6 _).trans ((va_up_ne _ _ (by omega)).trans hk)
                        have ha : ct8 17 = .inl (B.2.1 2, 20000, .inl fa) := (congrFun et6 _).trans ((va_up_ne _ _ (by omega)).trans ha)
                        have htp : ct8 18 = .inl (B.2.1 0, 40, .inl (nF tp3b)) := by rw [et6, va_up_self]
                        have hwt : ct8 19 = .inl (B.2.1 0, 40, .inl (nF wt)) := (congrFun et6 _).trans ((va_up_ne _ _ (by omega)).trans hwt)
                        have hsn : ct8 20 = .inl (B.2.1 0, 40, .inl (nF sn)) := (congrFun et6 _).trans ((va_up_ne _ _ (by omega)).trans hsn)
                        have hwh : ct8 21 = .inl (B.2.1 0, 40, .inl (nF wh)) := (congrFun et6 _).trans ((va_up_ne _ _ (by omega)).trans hwh)
                        refine g_iinc (L' := [(2, .int (nI (i2 + 1))), (0, .ref (ad 0)), (1, .int (nI m))]) fx (nI (i2 + 1)) 2 dX12_tables_107 rfl (gInc _) (by decide) rfl ?_
                        refine g_goto fx 86 dX12_tables_110 (by decide) ?_
                        refine g_locals (L' := [(0, .ref (ad 0)), (1, .int (nI m)), (2, .int (nI (i2 + 1)))]) [1, 2, 0] rfl ?_
                        exact ih86 (i2 + 1) _ tp3b (by omega) hokt2 (by rw [hvt2, hvt3, Nat.mul_assoc]; rfl) h0 hq hlf ho ht hc hu hw hv hh hrm hcm hk ha htp hwt hsn hwh hfr (by omega)
                  refine g_locals (L' := [(0, .ref (ad 0)), (1, .int (nI m)), (2, .int (nI 0))]) [1, 2, 0] rfl ?_
                  exact LP86 (C + 1) 0 ct5 tp2 (by omega) hokt (by rw [hvt]; exact (Nat.mul_one _).symm) h0 hq hlf ho ht hc hu hw hv hh hrm hcm hk ha htp hwt hsn hwh hfr (by omega)
                · skip
                  have hlt : i < R := (nI_ltI (by omega) (by omega)).mp (Int32.not_le.mp c62)
                  have hbf := facP_lt (c := (fun r => sumF (fun k => gc (C * r + k)) C)) (n := R) (by omega) hlt
                  have hri := hr60 i hlt
                  refine g_aload_n fx 0 dX12_tables_65 rfl ?_
                  refine g_aload_n fx 0 dX12_tables_66 rfl ?_
                  refine g_get (r := 0) fx lkX12_69 (by omega) h0 rfl dX12_tables_67 ?_
                  refine g_aload_n fx 0 dX12_tables_70 rfl ?_
                  refine g_iload_n fx 2 dX12_tables_71 rfl ?_
                  refine g_callVip (As := [.int (nI i)]) (rest := [.ref (ad 18), .ref (ad 0)]) fx slX12_170 (c_X12_marginOfRow B ad ct5 n f gc hn h0 hc R C hR hC hR5 hC5 hgb i hlt) (by omega) h0 rfl rfl rfl (Nat.le_of_ble_eq_true rfl) ⟨by decide, by decide⟩ ⟨by decide, by decide⟩ dX12_tables_72 (fun q3 hq3 => ?_)
                  obtain rfl := hq3
                  refine g_callVv (As := [.ref (ad 18), .int (nI (sumF (fun k => gc (C * i + k)) C))]) (rest := []) fx slX12_217 (c_X12_timesFactorial B ad ct5 n 18 tp2 (by omega) htp hokt (sumF (fun k => gc (C * i + k)) C) (Nat.lt_of_le_of_lt hri (by decide)) (by rw [hvt]; exact lt960 (lt700 (Nat.lt_of_le_of_lt hbf (Nat.lt_trans fac60 (by decide)))))) (by omega) h0 rfl rfl rfl (Nat.le_of_ble_eq_true rfl) ⟨by decide, by decide⟩ ⟨by decide, by decide⟩ dX12_tables_75 (fun ct6 hz5 => ?_)
                  obtain ⟨tp2b, et5, hokt2, hvt2⟩ := hz5
                  have hfr : ∀ r, (r = 5 ∨ r = 6 ∨ r = 7 ∨ r = 8 ∨ r = 11 ∨ 21 < r) → ct6 r = ct r := fun r hp => (congrFun et5 r).trans ((va_up_ne _ _ (by omega)).trans (hfr r hp))
                  have h0 : ct6 0 = mObj ad f := (congrFun et5 _).trans ((va_up_ne _ _ (by omega)).trans h0)
                  have hq : ct6 1 = .inl (B.2.1 0, 40, .inl (nF gq)) := (congrFun et5 _).trans ((va_up_ne _ _ (by omega)).trans hq)
                  have hlf : ct6 2 = .inl (B.2.1 0, 40, .inl (nF gl)) := (congrFun et5 _).trans ((va_up_ne _ _ (by omega)).trans hlf)
                  have ho : ct6 3 = .inl (B.2.1 0, 40, .inl (nF go)) := (congrFun et5 _).trans ((va_up_ne _ _ (by omega)).trans ho)
                  have ht : ct6 4 = .inl (B.2.1 0, 40, .inl (nF gt)) := (congrFun et5 _).trans ((va_up_ne _ _ (by omega)).trans ht)
                  have hc : ct6 5 = .inl (B.2.1 0, 25, .inl (nF gc)) := (congrFun et5 _).trans ((va_up_ne _ _ (by omega)).trans hc)
                  have hu : ct6 9 = .inl (B.2.1 0, 160, .inl (nF gu)) := (congrFun et5 _).trans ((va_up_ne _ _ (by omega)).trans hu)
                  have hw : ct6 10 = .inl (B.2.1 0, 160, .inl (nF gw)) := (congrFun et5 _).trans ((va_up_ne _ _ (by omega)).trans hw)
                  have hv : ct6 12 = .inl (B.2.1 0, 25, .inl (nF v2)) := (congrFun et5 _).trans ((va_up_ne _ _ (by omega)).trans hv)
                  have hh : ct6 13 = .inl (B.2.1 0, 25, .inl (nF h2)) := (congrFun et5 _).trans ((va_up_ne _ _ (by omega)).trans hh)
                  have hrm : ct6 14 = .inl (B.2.1 0, 5, .inl (nF rm1)) := (congrFun et5 _).trans ((va_up_ne _ _ (by omega)).trans hrm)
                  have hcm : ct6 15 = .inl (B.2.1 0, 5, .inl (nF cm1)) := (congrFun et5 _).trans ((va_up_ne _ _ (by omega)).trans hcm)
                  have hk : ct6 16 = .inl (B.2.1 2, 500000, .inl fk) := (congrFun et5 _).trans ((va_up_ne _ _ (by omega)).trans hk)
                  have ha : ct6 17 = .inl (B.2.1 2, 20000, .inl fa) := (congrFun et5 _).trans ((va_up_ne _ _ (by omega)).trans ha)
                  have htp : ct6 18 = .inl (B.2.1 0, 40, .inl (nF tp2b)) := by rw [et5, va_up_self]
                  have hwt : ct6 19 = .inl (B.2.1 0, 40, .inl (nF wt)) := (congrFun et5 _).trans ((va_up_ne _ _ (by omega)).trans hwt)
                  have hsn : ct6 20 = .inl (B.2.1 0, 40, .inl (nF sn)) := (congrFun et5 _).trans ((va_up_ne _ _ (by omega)).trans hsn)
                  have hwh : ct6 21 = .inl (B.2.1 0, 40, .inl (nF wh)) := (congrFun et5 _).trans ((va_up_ne _ _ (by omega)).trans hwh)
                  refine g_iinc (L' := [(2, .int (nI (i + 1))), (0, .ref (ad 0)), (1, .int (nI m))]) fx (nI (i + 1)) 2 dX12_tables_78 rfl (gInc _) (by decide) rfl ?_
                  refine g_goto fx 57 dX12_tables_81 (by decide) ?_
                  refine g_locals (L' := [(0, .ref (ad 0)), (1, .int (nI m)), (2, .int (nI (i + 1)))]) [1, 2, 0] rfl ?_
                  exact ih57 (i + 1) _ tp2b (by omega) hokt2 (by rw [hvt2, hvt]; rfl) h0 hq hlf ho ht hc hu hw hv hh hrm hcm hk ha htp hwt hsn hwh hfr (by omega)
            refine g_locals (L' := [(0, .ref (ad 0)), (1, .int (nI m)), (2, .int (nI 0))]) [1, 2, 0] rfl ?_
            exact LP57 (R + 1) 0 ct4 tp1 (by omega) hokt hvt h0 hq hlf ho ht hc hu hw hv hh hrm hcm hk ha htp hwt hsn hwh hfr (by omega)
          · skip
            have hzq2 : ∃ a v' h', a < C * R ∧ (∀ j, a < j → j < C * R → v2 j = h2 j) ∧ (∀ j, j < a → v' j = v2 j) ∧ v' a = v2 a + 1 ∧ (∀ j, a < j → j < C * R → v' j = tLo C rm1 cm1 v' j) ∧ (∀ j, j < C * R → h' j = tHi C rm1 cm1 v' j) ∧ Val C rm1 cm1 (C * R) v' ∧ ct3 12 = .inl (B.2.1 0, 25, .inl (nF v')) ∧ ct3 13 = .inl (B.2.1 0, 25, .inl (nF h')) ∧ ∀ r, r ≠ 12 → r ≠ 13 → ct3 r = ct2 r := by
              rcases hq2 with ⟨e1, -⟩ | ⟨-, q⟩
              · exact absurd e1 c27
              · exact q
            obtain ⟨aq2, v3, h3, hna, hnb, hnc, hnd, hne, hnhi, hnval, hv, hh, hsq2⟩ := hzq2
            have h0 : ct3 0 = mObj ad f := (hsq2 0 (by decide) (by decide)).trans h0
            have hq : ct3 1 = .inl (B.2.1 0, 40, .inl (nF gq)) := (hsq2 1 (by decide) (by decide)).trans hq
            have hlf : ct3 2 = .inl (B.2.1 0, 40, .inl (nF gl)) := (hsq2 2 (by decide) (by decide)).trans hlf
            have ho : ct3 3 = .inl (B.2.1 0, 40, .inl (nF go)) := (hsq2 3 (by decide) (by decide)).trans ho
            have ht : ct3 4 = .inl (B.2.1 0, 40, .inl (nF gt)) := (hsq2 4 (by decide) (by decide)).trans ht
            have hc : ct3 5 = .inl (B.2.1 0, 25, .inl (nF gc)) := (hsq2 5 (by decide) (by decide)).trans hc
            have hu : ct3 9 = .inl (B.2.1 0, 160, .inl (nF gu)) := (hsq2 9 (by decide) (by decide)).trans hu
            have hw : ct3 10 = .inl (B.2.1 0, 160, .inl (nF gw)) := (hsq2 10 (by decide) (by decide)).trans hw
            have hrm : ct3 14 = .inl (B.2.1 0, 5, .inl (nF rm1)) := (hsq2 14 (by decide) (by decide)).trans hrm
            have hcm : ct3 15 = .inl (B.2.1 0, 5, .inl (nF cm1)) := (hsq2 15 (by decide) (by decide)).trans hcm
            have hk : ct3 16 = .inl (B.2.1 2, 500000, .inl fk) := (hsq2 16 (by decide) (by decide)).trans hk
            have ha : ct3 17 = .inl (B.2.1 2, 20000, .inl fa) := (hsq2 17 (by decide) (by decide)).trans ha
            have htp : ct3 18 = .inl (B.2.1 0, 40, .inl (nF tp)) := (hsq2 18 (by decide) (by decide)).trans htp
            have hwt : ct3 19 = .inl (B.2.1 0, 40, .inl (nF wt)) := (hsq2 19 (by decide) (by decide)).trans hwt
            have hsn : ct3 20 = .inl (B.2.1 0, 40, .inl (nF sn)) := (hsq2 20 (by decide) (by decide)).trans hsn
            have hwh : ct3 21 = .inl (B.2.1 0, 40, .inl (nF wh)) := (hsq2 21 (by decide) (by decide)).trans hwh
            have hfr : ∀ r, (r = 5 ∨ r = 6 ∨ r = 7 ∨ r = 8 ∨ r = 11 ∨ 21 < r) → ct3 r = ct r := fun r hp => (hsq2 r (by omega) (by omega)).trans (hfr r hp)
            have hfr4 : ∀ r, r ≠ 12 → r ≠ 13 → r ≠ 14 → r ≠ 15 → ct3 r = ct r := fun r a1 a2 a3 a4 => (hsq2 r a1 a2).trans (hfr4 r a1 a2 a3 a4)
            refine g_iinc (L' := [(1, .int (nI (m + 1))), (0, .ref (ad 0))]) fx (nI (m + 1)) 1 dX12_tables_30 rfl (gInc _) (by decide) rfl ?_
            refine g_goto fx 16 dX12_tables_33 (by decide) ?_
            refine g_locals (L' := [(0, .ref (ad 0)), (1, .int (nI (m + 1)))]) [1, 0] rfl ?_
            exact ih16 (m + 1) _ v3 h3 (by omega) (by rw [idx_next hCp hna hval (fun j q1 q2 => (hnb j q1 q2).trans (hhi j q2)) hnc hnd hne, hidx]) hnval hnhi hfr4 h0 hq hlf ho ht hc hu hw hv hh hrm hcm hk ha htp hwt hsn hwh hfr (by omega)
    refine g_locals (L' := [(0, .ref (ad 0)), (1, .int (nI 1))]) [1, 0] rfl ?_
    exact LP16 20002 1 ct1 v1 h1 (by decide) (by rw [idx_first (fun j hj => (hlo1 j hj).1)]) hval1 (fun j hj => (hlo1 j hj).2) hs1 h0 hq hlf ho ht hc hu hw hv hh hrm hcm hk ha htp hwt hsn hwh hfr (by decide)
  · skip
    have hT0 : T = 0 := (nI_eq (by omega) (by omega)).mp (c4.trans (show (0 : Int32) = nI 0 by decide))
    refine g_bipush (v := (-5)) fx dX12_tables_7 (by decide +kernel) ?_
    refine g_iret fx rt dX12_tables_9 ?_
    exact gPi.mk (Or.inl ⟨hT0, rfl, rfl⟩)
