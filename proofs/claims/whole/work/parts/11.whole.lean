/-! class 10, Whole: at role w, its row of limbs at role w + 1 -/
def rW (B : gB) (ad : Nat → Nat) (ct : Nat → va_E) (w sz : Nat) (g : Nat → Nat) : Prop := ct w = .inr (10, [.ref (ad (w + 1)), .int (nI sz)]) ∧ ct (w + 1) = .inl (B.2.1 1, 12, .inr (.inl (lF g))) ∧ sz ≤ 12 ∧ (∀ i, g i < 4294967296) ∧ ∀ i, sz ≤ i → g i = 0
def sameB (ct ct' : Nat → va_E) (w : Nat) : Prop := ∀ r, r ≠ w → r ≠ w + 1 → ct' r = ct r
/-- it holds the number v -/
def isW (B : gB) (ad : Nat → Nat) (ct : Nat → va_E) (w v : Nat) : Prop := ∃ sz g, rW B ad ct w sz g ∧ (sz = 0 ∨ 4294967296 ^ (sz - 1) ≤ v) ∧ bval 4294967296 g 12 = v
theorem rW.frame {B : gB} {ad : Nat → Nat} {ct ct' : Nat → va_E} {w sz : Nat} {g : Nat → Nat} (h : rW B ad ct w sz g) (h1 : ct' w = ct w) (h2 : ct' (w + 1) = ct (w + 1)) : rW B ad ct' w sz g := ⟨h1.trans h.1, h2.trans h.2.1, h.2.2⟩
theorem isW.frame {B : gB} {ad : Nat → Nat} {ct ct' : Nat → va_E} {w v : Nat} (h : isW B ad ct w v) (h1 : ct' w = ct w) (h2 : ct' (w + 1) = ct (w + 1)) : isW B ad ct' w v := by
  obtain ⟨sz, g, hr, h3⟩ := h
  exact ⟨sz, g, hr.frame h1 h2, h3⟩
theorem isW.other {B : gB} {ad : Nat → Nat} {ct ct' : Nat → va_E} {u w v : Nat} (h : isW B ad ct u v) (hs : sameB ct ct' w) (h1 : u ≠ w) (h2 : u ≠ w + 1) (h3 : w ≠ u + 1) : isW B ad ct' u v :=
  h.frame (hs u h1 h2) (hs (u + 1) (fun e => h3 e.symm) (fun e => h1 (by omega)))
theorem rW.num {B : gB} {ad : Nat → Nat} {ct : Nat → va_E} {w sz : Nat} {g : Nat → Nat} (h : rW B ad ct w sz g) : bval 4294967296 g 12 = bval 4294967296 g sz := bval_ext h.2.2.1 h.2.2.2.2
theorem isW.lt {B : gB} {ad : Nat → Nat} {ct : Nat → va_E} {w v : Nat} (h : isW B ad ct w v) : v < 4294967296 ^ 12 := by
  obtain ⟨sz, g, hr, h3, rfl⟩ := h
  exact bval_lt 12 (fun i _ => hr.2.2.2.1 i)
theorem gMin {a b : Nat} (ha : a < 2 ^ 31) (hb : b < 2 ^ 31) : (if nI b < nI a then nI b else nI a) = nI (min a b) := by
  by_cases hc : b < a
  · rw [if_pos ((nI_ltI hb ha).mpr hc), show min a b = b by omega]
  · rw [if_neg (fun z => hc ((nI_ltI hb ha).mp z)), show min a b = a by omega]
theorem gMax {a b : Nat} (ha : a < 2 ^ 31) (hb : b < 2 ^ 31) : (if nI a < nI b then nI b else nI a) = nI (max a b) := by
  by_cases hc : a < b
  · rw [if_pos ((nI_ltI ha hb).mpr hc), show max a b = b by omega]
  · rw [if_neg (fun z => hc ((nI_ltI ha hb).mp z)), show max a b = a by omega]
def cmpI (v x : Nat) : Int32 := if v < x then -1 else if v = x then 0 else 1
theorem bsum_lt {b p v x : Nat} (h : v = p + x * b) (hb : x + 1 ≤ v) : True := trivial
theorem bval_low {b : Nat} {f : Nat → Nat} {s : Nat} (hs : 0 < s) (h : f (s - 1) ≠ 0) : b ^ (s - 1) ≤ bval b f s := by
  obtain ⟨k, rfl⟩ : ∃ k, s = k + 1 := ⟨s - 1, by omega⟩
  simp only [Nat.add_sub_cancel] at h ⊢
  have h1 : 1 * b ^ k ≤ f k * b ^ k := Nat.mul_le_mul_right _ (by omega)
  show b ^ k ≤ bval b f k + f k * b ^ k
  omega
/-- how many places a number has -/
theorem size_lt {b v sz su x : Nat} (hb : 0 < b) (hv : v < b ^ sz) (hx : su = 0 ∨ b ^ (su - 1) ≤ x) (h : sz < su) : v < x := by
  rcases hx with rfl | hx
  · omega
  · have : b ^ sz ≤ b ^ (su - 1) := Nat.pow_le_pow_right hb (by omega)
    omega
set_option maxHeartbeats 4000000 in
set_option maxRecDepth 100000 in
theorem c_X10_empty (B : gB) (ad : Nat → Nat) (ct : Nat → va_E) (n : Nat) (w sz : Nat) (g : Nat → Nat) (hn : w + 1 < n) (h : rW B ad ct w sz g) : Ctr B yX10_empty cX10_empty 2 none 0 0 0 0 ad ct n [.ref (ad w)] (gPv ad n (fun ct' => rW B ad ct' w 0 (fun _ => 0) ∧ sameB ct ct' w)) := by
  obtain ⟨hw, hl, hsz, hlt, hz⟩ := h
  have hfr : ∀ r, r ≠ w → r ≠ w + 1 → ct r = ct r := fun _ _ _ => rfl
  refine Ctr.ofG (L := [(0, .ref (ad w))]) (by decide +kernel) rfl (Nat.le_of_ble_eq_true rfl) (fun E fx rt hnm => ?_)
  refine g_iconst (v := nI 0) fx dX10_empty_0 (by decide +kernel) ?_
  refine g_istore_n (L' := [(1, .int (nI 0)), (0, .ref (ad w))]) fx dX10_empty_1 (by decide) rfl ?_
  have LP2 : ∀ (M : Nat) (i : Nat) (ct1 : Nat → va_E) (g1 : Nat → Nat), (i ≤ sz) → (ct1 w = .inr (10, [.ref (ad (w + 1)), .int (nI sz)])) → (ct1 (w + 1) = .inl (B.2.1 1, 12, .inr (.inl (lF g1)))) → (∀ j, g1 j = if j < i then 0 else g j) → (∀ r, r ≠ w → r ≠ w + 1 → ct1 r = ct r) →  (sz - i) < M → G B 2 E ad ct1 n 0 0 [(0, .ref (ad w)), (1, .int (nI i))] 2 [] := by
    intro M
    induction M with
    | zero => intro i ct1 g1 _ _ _ _ _ hM; exact absurd hM (Nat.not_lt_zero _)
    | succ M ih =>
      intro i ct1 g1 hi hw hl hg hfr hM
      refine g_iload_n fx 1 dX10_empty_2 rfl ?_
      refine g_aload_n fx 0 dX10_empty_3 rfl ?_
      refine g_get (r := w) fx lkX10_24 (by omega) hw rfl dX10_empty_4 ?_
      refine g_icmp_ge fx 23 dX10_empty_7 (by decide) (fun c7 => ?_) (fun c7 => ?_)
      · skip
        have hle := (nI_leI (by omega) (by omega)).mp c7
        refine g_aload_n fx 0 dX10_empty_23 rfl ?_
        refine g_iconst (v := nI 0) fx dX10_empty_24 (by decide +kernel) ?_
        refine g_put (r := w) (fs' := [.ref (ad (w + 1)), .int (nI 0)]) fx lpX10_24 (by omega) hw rfl rfl (Nat.le_of_ble_eq_true rfl) rfl dX10_empty_25 (fun cu1 ecu1 => ?_)
        have hfr : ∀ r, r ≠ w → r ≠ w + 1 → cu1 r = ct r := fun r _ _ => (congrFun ecu1 r).trans ((va_up_ne _ _ (by assumption)).trans (hfr r (by assumption) (by assumption)))
        have hw : cu1 w = .inr (10, [.ref (ad (w + 1)), .int (nI 0)]) := by rw [ecu1, va_up_self]
        have hl : cu1 (w + 1) = .inl (B.2.1 1, 12, .inr (.inl (lF g1))) := (congrFun ecu1 _).trans ((va_up_ne _ _ (by omega)).trans hl)
        refine g_vret fx rt dX10_empty_28 ?_
        have e0 : g1 = fun _ => 0 := by funext j; rw [hg j]; split; rfl; exact hz j (by omega)
        rw [e0] at hl
        exact gPv.mk ⟨⟨hw, hl, by omega, fun _ => Nat.zero_lt_succ _, fun _ _ => rfl⟩, hfr⟩
      · skip
        have hlt2 : i < sz := by have := (nI_ltI (by omega) (by omega)).mp (Int32.not_le.mp c7); omega
        refine g_aload_n fx 0 dX10_empty_10 rfl ?_
        refine g_get (r := w) fx lkX10_11 (by omega) hw rfl dX10_empty_11 ?_
        refine g_iload_n fx 1 dX10_empty_14 rfl ?_
        refine g_lconst (v := lN 0) fx dX10_empty_15 (by decide +kernel) ?_
        refine g_last (r := w + 1) (j := i) fx (by omega) hl (nI_toInt (by omega)) (by omega) dX10_empty_16 (fun cu2 ecu2 => ?_)
        have hfr : ∀ r, r ≠ w → r ≠ w + 1 → cu2 r = ct r := fun r _ _ => (congrFun ecu2 r).trans ((va_up_ne _ _ (by assumption)).trans (hfr r (by assumption) (by assumption)))
        have hw : cu2 w = .inr (10, [.ref (ad (w + 1)), .int (nI sz)]) := (congrFun ecu2 _).trans ((va_up_ne _ _ (by omega)).trans hw)
        have hl : cu2 (w + 1) = .inl (B.2.1 1, 12, .inr (.inl (lF (va_up g1 i 0)))) := by rw [ecu2, va_up_self, lF_up]
        refine g_iinc (L' := [(1, .int (nI (i + 1))), (0, .ref (ad w))]) fx (nI (i + 1)) 1 dX10_empty_17 rfl (gInc _) (by decide) rfl ?_
        refine g_goto fx 2 dX10_empty_20 (by decide) ?_
        refine g_locals (L' := [(0, .ref (ad w)), (1, .int (nI (i + 1)))]) [1, 0] rfl ?_
        exact ih (i + 1) _ _ hlt2 hw hl (by intro j; have := hg j; unfold va_up; split <;> split <;> simp_all <;> omega) hfr (by omega)
  refine g_locals (L' := [(0, .ref (ad w)), (1, .int (nI 0))]) [1, 0] rfl ?_
  exact LP2 (sz + 1) 0 ct g (by omega) hw hl (by simp) hfr (by omega)
set_option maxHeartbeats 4000000 in
set_option maxRecDepth 100000 in
theorem c_X10_trim (B : gB) (ad : Nat → Nat) (ct : Nat → va_E) (n : Nat) (w s0 m : Nat) (g : Nat → Nat) (hn : w + 1 < n) (hw : ct w = .inr (10, [.ref (ad (w + 1)), .int (nI s0)])) (hl : ct (w + 1) = .inl (B.2.1 1, 12, .inr (.inl (lF g)))) (hm : m < 2 ^ 31) (hlt : ∀ i, g i < 4294967296) (hz : ∀ i, m ≤ i → g i = 0) (hz12 : ∀ i, 12 ≤ i → g i = 0) : Ctr B yX10_trim cX10_trim 2 none 1 21 0 0 ad ct n [.ref (ad w), .int (nI m)] (gPv ad n (fun ct' => isW B ad ct' w (bval 4294967296 g 12) ∧ sameB ct ct' w)) := by
  have hfr : ∀ r, r ≠ w → r ≠ w + 1 → ct r = ct r := fun _ _ _ => rfl
  refine Ctr.ofG (L := [(0, .ref (ad w)), (1, .int (nI m))]) (by decide +kernel) rfl (Nat.le_of_ble_eq_true rfl) (fun E fx rt hnm => ?_)
  refine g_aload_n fx 0 dX10_trim_0 rfl ?_
  refine g_iload_n fx 1 dX10_trim_1 rfl ?_
  refine g_bipush (v := nI 12) fx dX10_trim_2 (by decide +kernel) ?_
  refine g_callSip (As := [.int (nI m), .int (nI 12)]) (rest := [.ref (ad w)]) fx slX10_38 (c_J9_min_7cf53 B ad ct n (nI m) (nI 12)) rfl rfl (Nat.le_of_ble_eq_true rfl) ⟨by decide, by decide⟩ ⟨by decide, by decide⟩ dX10_trim_4 (fun q hq => ?_)
  obtain ⟨k, hk, rfl⟩ : ∃ k, k = min m 12 ∧ q = nI k := ⟨min m 12, rfl, hq.trans (gMin (by omega) (by omega))⟩
  refine g_put (r := w) (fs' := [.ref (ad (w + 1)), .int (nI k)]) fx lpX10_24 (by omega) hw rfl rfl (Nat.le_of_ble_eq_true rfl) rfl dX10_trim_7 (fun ctk ectk => ?_)
  have hfr : ∀ r, r ≠ w → r ≠ w + 1 → ctk r = ct r := fun r _ _ => (congrFun ectk r).trans ((va_up_ne _ _ (by assumption)).trans (hfr r (by assumption) (by assumption)))
  have hw : ctk w = .inr (10, [.ref (ad (w + 1)), .int (nI k)]) := by rw [ectk, va_up_self]
  have hl : ctk (w + 1) = .inl (B.2.1 1, 12, .inr (.inl (lF g))) := (congrFun ectk _).trans ((va_up_ne _ _ (by omega)).trans hl)
  have LP10 : ∀ (M : Nat) (s : Nat) (ct1 : Nat → va_E), (s ≤ 12) → (∀ i, s ≤ i → g i = 0) → (ct1 w = .inr (10, [.ref (ad (w + 1)), .int (nI s)])) → (ct1 (w + 1) = .inl (B.2.1 1, 12, .inr (.inl (lF g)))) → (∀ r, r ≠ w → r ≠ w + 1 → ct1 r = ct r) →  s < M → G B 2 E ad ct1 n 0 0 [(0, .ref (ad w))] 10 [] := by
    intro M
    induction M with
    | zero => intro s ct1 _ _ _ _ _ hM; exact absurd hM (Nat.not_lt_zero _)
    | succ M ih =>
      intro s ct1 hs hzs hw hl hfr hM
      refine g_aload_n fx 0 dX10_trim_10 rfl ?_
      refine g_get (r := w) fx lkX10_24 (by omega) hw rfl dX10_trim_11 ?_
      refine g_if_le fx 46 dX10_trim_14 (by decide) (fun c14 => ?_) (fun c14 => ?_)
      · skip
        have hs0 : s = 0 := by have := (nI_leI (a := s) (b := 0) (by omega) (by omega)).mp c14; omega
        have hno : s = 0 ∨ 4294967296 ^ (s - 1) ≤ bval 4294967296 g 12 := Or.inl hs0
        refine g_vret fx rt dX10_trim_46 ?_
        exact gPv.mk ⟨⟨s, g, ⟨hw, hl, hs, hlt, hzs⟩, hno, rfl⟩, hfr⟩
      · skip
        have hs0 : 0 < s := Nat.pos_of_ne_zero (fun z => c14 ((nI_leI (a := s) (b := 0) (by omega) (by omega)).mpr (by omega)))
        refine g_aload_n fx 0 dX10_trim_17 rfl ?_
        refine g_get (r := w) fx lkX10_11 (by omega) hw rfl dX10_trim_18 ?_
        refine g_aload_n fx 0 dX10_trim_21 rfl ?_
        refine g_get (r := w) fx lkX10_24 (by omega) hw rfl dX10_trim_22 ?_
        refine g_iconst (v := nI 1) fx dX10_trim_25 (by decide +kernel) ?_
        refine g_isubN fx dX10_trim_26 (by omega) ?_
        refine g_lald (r := w + 1) (j := (s - 1)) fx (by omega) hl (nI_toInt (by omega)) (by omega) dX10_trim_27 ?_
        refine g_lconst (v := lN 0) fx dX10_trim_28 (by decide +kernel) ?_
        refine g_lcmp fx dX10_trim_29 ?_
        have hb0 := hlt (s - 1)
        refine g_if_ne fx 46 dX10_trim_30 (by decide) (fun c30 => ?_) (fun c30 => ?_)
        · skip
          have hg0 : g (s - 1) ≠ 0 := fun z => c30 ((l_eq0 (by omega)).mpr z)
          have hno : s = 0 ∨ 4294967296 ^ (s - 1) ≤ bval 4294967296 g 12 := Or.inr (by rw [bval_ext hs hzs]; exact bval_low hs0 hg0)
          refine g_vret fx rt dX10_trim_46 ?_
          exact gPv.mk ⟨⟨s, g, ⟨hw, hl, hs, hlt, hzs⟩, hno, rfl⟩, hfr⟩
        · skip
          have hg0 : g (s - 1) = 0 := (l_eq0 (by omega)).mp c30
          refine g_aload_n fx 0 dX10_trim_33 rfl ?_
          refine g_dup fx dX10_trim_34 rfl ?_
          refine g_get (r := w) fx lkX10_24 (by omega) hw rfl dX10_trim_35 ?_
          refine g_iconst (v := nI 1) fx dX10_trim_38 (by decide +kernel) ?_
          refine g_isubN fx dX10_trim_39 (by omega) ?_
          refine g_put (r := w) (fs' := [.ref (ad (w + 1)), .int (nI (s - 1))]) fx lpX10_24 (by omega) hw rfl rfl (Nat.le_of_ble_eq_true rfl) rfl dX10_trim_40 (fun cu2 ecu2 => ?_)
          have hfr : ∀ r, r ≠ w → r ≠ w + 1 → cu2 r = ct r := fun r _ _ => (congrFun ecu2 r).trans ((va_up_ne _ _ (by assumption)).trans (hfr r (by assumption) (by assumption)))
          have hw : cu2 w = .inr (10, [.ref (ad (w + 1)), .int (nI (s - 1))]) := by rw [ecu2, va_up_self]
          have hl : cu2 (w + 1) = .inl (B.2.1 1, 12, .inr (.inl (lF g))) := (congrFun ecu2 _).trans ((va_up_ne _ _ (by omega)).trans hl)
          refine g_goto fx 10 dX10_trim_43 (by decide) ?_
          refine g_locals (L' := [(0, .ref (ad w))]) [0] rfl ?_
          exact ih (s - 1) _ (by omega) (fun i hi => by by_cases h : i = s - 1; rw [h]; exact hg0; exact hzs i (by omega)) hw hl hfr (by omega)
  refine g_locals (L' := [(0, .ref (ad w))]) [0] rfl ?_
  exact LP10 (k + 1) k ctk (by omega) (fun i hi => by by_cases h : m ≤ i; exact hz i h; exact hz12 i (by omega)) hw hl hfr (by omega)
set_option maxHeartbeats 4000000 in
set_option maxRecDepth 100000 in
theorem c_X10_set (B : gB) (ad : Nat → Nat) (ct : Nat → va_E) (n : Nat) (w sz x : Nat) (g : Nat → Nat) (hn : w + 1 < n) (h : rW B ad ct w sz g) (hx : x < 18446744073709551616) : Ctr B yX10_set cX10_set 3 none 2 42 0 0 ad ct n [.ref (ad w), .long (lN x)] (gPv ad n (fun ct' => isW B ad ct' w x ∧ sameB ct ct' w)) := by
  obtain ⟨hw, hl, hsz, hlt, hz⟩ := id h
  have hfr : ∀ r, r ≠ w → r ≠ w + 1 → ct r = ct r := fun _ _ _ => rfl
  refine Ctr.ofG (L := [(0, .ref (ad w)), (1, .long (lN x))]) (by decide +kernel) rfl (Nat.le_of_ble_eq_true rfl) (fun E fx rt hnm => ?_)
  refine g_aload_n fx 0 dX10_set_0 rfl ?_
  refine g_callVv (As := []) (rest := []) fx slX10_15 (c_X10_empty B ad ct n w sz g hn h) (by omega) hw rfl rfl rfl (Nat.le_of_ble_eq_true rfl) ⟨by decide, by decide⟩ ⟨by decide, by decide⟩ dX10_set_1 (fun ct1 hz => ?_)
  obtain ⟨⟨hw, hl, -, -, -⟩, hfr⟩ := hz
  refine g_aload_n fx 0 dX10_set_4 rfl ?_
  refine g_get (r := w) fx lkX10_11 (by omega) hw rfl dX10_set_5 ?_
  refine g_iconst (v := nI 0) fx dX10_set_8 (by decide +kernel) ?_
  refine g_lload_n fx 1 dX10_set_9 rfl ?_
  refine g_ldc2 fx kcX10_18 dX10_set_10 ?_
  refine g_land fx dX10_set_13 ?_
  refine g_isl (y := lN (x % 4294967296)) (l_mask hx) ?_
  refine g_last (r := w + 1) (j := 0) fx (by omega) hl (nI_toInt (by omega)) (by omega) dX10_set_14 (fun cu1 ecu1 => ?_)
  have hfr : ∀ r, r ≠ w → r ≠ w + 1 → cu1 r = ct r := fun r _ _ => (congrFun ecu1 r).trans ((va_up_ne _ _ (by assumption)).trans (hfr r (by assumption) (by assumption)))
  have hw : cu1 w = .inr (10, [.ref (ad (w + 1)), .int (nI 0)]) := (congrFun ecu1 _).trans ((va_up_ne _ _ (by omega)).trans hw)
  have hl : cu1 (w + 1) = .inl (B.2.1 1, 12, .inr (.inl (lF (va_up (fun _ => 0) 0 (x % 4294967296))))) := by rw [ecu1, va_up_self, lF_up]
  refine g_aload_n fx 0 dX10_set_15 rfl ?_
  refine g_get (r := w) fx lkX10_11 (by omega) hw rfl dX10_set_16 ?_
  refine g_iconst (v := nI 1) fx dX10_set_19 (by decide +kernel) ?_
  refine g_lload_n fx 1 dX10_set_20 rfl ?_
  refine g_bipush (v := nI 32) fx dX10_set_21 (by decide +kernel) ?_
  refine g_lushr fx dX10_set_23 ?_
  refine g_isl (y := lN (x / 4294967296)) (l_shr hx) ?_
  refine g_last (r := w + 1) (j := 1) fx (by omega) hl (nI_toInt (by omega)) (by omega) dX10_set_24 (fun cu2 ecu2 => ?_)
  have hfr : ∀ r, r ≠ w → r ≠ w + 1 → cu2 r = ct r := fun r _ _ => (congrFun ecu2 r).trans ((va_up_ne _ _ (by assumption)).trans (hfr r (by assumption) (by assumption)))
  have hw : cu2 w = .inr (10, [.ref (ad (w + 1)), .int (nI 0)]) := (congrFun ecu2 _).trans ((va_up_ne _ _ (by omega)).trans hw)
  have hl : cu2 (w + 1) = .inl (B.2.1 1, 12, .inr (.inl (lF (va_up (va_up (fun _ => 0) 0 (x % 4294967296)) 1 (x / 4294967296))))) := by rw [ecu2, va_up_self, lF_up]
  refine g_aload_n fx 0 dX10_set_25 rfl ?_
  refine g_iconst (v := nI 2) fx dX10_set_26 (by decide +kernel) ?_
  refine g_callVv (As := [.int (nI 2)]) (rest := []) fx slX10_20 (c_X10_trim B ad cu2 n w 0 2 (va_up (va_up (fun _ => 0) 0 (x % 4294967296)) 1 (x / 4294967296)) hn hw hl (by decide) (fun i => by unfold va_up; split; omega; split; omega; exact Nat.zero_lt_succ _) (fun i hi => by unfold va_up; rw [if_neg (by omega), if_neg (by omega)]) (fun i hi => by unfold va_up; rw [if_neg (by omega), if_neg (by omega)])) (by omega) hw rfl rfl rfl (Nat.le_of_ble_eq_true rfl) ⟨by decide, by decide⟩ ⟨by decide, by decide⟩ dX10_set_27 (fun ct2 hy => ?_)
  obtain ⟨hy, hs2⟩ := hy
  have e : bval 4294967296 (va_up (va_up (fun _ => 0) 0 (x % 4294967296)) 1 (x / 4294967296)) 12 = x := by
    rw [bval_ext (m := 2) (by decide) (fun i hi => by unfold va_up; rw [if_neg (by omega), if_neg (by omega)])]
    simp [bval, va_up]; omega
  rw [e] at hy
  have hfr : ∀ r, r ≠ w → r ≠ w + 1 → ct2 r = ct r := fun r q1 q2 => (hs2 r q1 q2).trans (hfr r q1 q2)
  refine g_vret fx rt dX10_set_30 ?_
  exact gPv.mk ⟨hy, hfr⟩
