/-! class 10, Whole: at role w, its row of limbs at role w + 1 -/
def rW (B : gB) (ad : Nat → Nat) (ct : Nat → va_E) (w sz : Nat) (g : Nat → Nat) : Prop := ct w = .inr (10, [.ref (ad (w + 1)), .int (nI sz)]) ∧ ct (w + 1) = .inl (B.2.1 1, 12, .inr (.inl (lF g))) ∧ sz ≤ 12 ∧ (∀ i, g i < 4294967296) ∧ ∀ i, sz ≤ i → g i = 0
def sameB (ct ct' : Nat → va_E) (w : Nat) : Prop := ∀ r, r ≠ w → r ≠ w + 1 → ct' r = ct r
/-- it holds the number v -/
def isW (B : gB) (ad : Nat → Nat) (ct : Nat → va_E) (w v : Nat) : Prop := ∃ sz g, rW B ad ct w sz g ∧ (sz = 0 ∨ 4294967296 ^ (sz - 1) ≤ v) ∧ bval 4294967296 g 12 = v
theorem rW.frame {B : gB} {ad : Nat → Nat} {ct ct' : Nat → va_E} {w sz : Nat} {g : Nat → Nat} (h : rW B ad ct w sz g) (h1 : ct' w = ct w) (h2 : ct' (w + 1) = ct (w + 1)) : rW B ad ct' w sz g := ⟨h1.trans h.1, h2.trans h.2.1, h.2.2⟩
theorem isW.frame {B : gB} {ad : Nat → Nat} {ct ct' : Nat → va_E} {w v : Nat} (h : isW B ad ct w v) (h1 : ct' w = ct w) (h2 : ct' (w + 1) = ct (w + 1)) : isW B ad ct' w v := by
  obtain ⟨sz, g, hr, h3⟩ := h
  exact ⟨sz, g, hr.frame h1 h2, h3⟩
theorem isW.other {B : gB} {ad : Nat → Nat} {ct ct' : Nat → va_E} {u w v : Nat} (h : isW B ad ct u v) (hs : sameB ct ct' w) (h1 : u ≠ w) (h2 : u ≠ w + 1) (h3 : w ≠ u + 1) : isW B ad ct' u v :=
  h.frame (hs u h1 h2) (hs (u + 1) (fun e => h3 e.symm) (fun e => h1 (by omega)))
set_option maxHeartbeats 4000000 in
set_option maxRecDepth 100000 in
theorem c_X10_empty (B : gB) (ad : Nat → Nat) (ct : Nat → va_E) (n : Nat) (w sz : Nat) (g : Nat → Nat) (hn : w + 1 < n) (h : rW B ad ct w sz g) : Ctr B yX10_empty cX10_empty 2 none 0 0 0 0 ad ct n [.ref (ad w)] (gPv ad n (fun ct' => rW B ad ct' w 0 (fun _ => 0) ∧ sameB ct ct' w)) := by
  obtain ⟨hw, hl, hsz, hlt, hz⟩ := h
  have hfr : ∀ r, r ≠ w → r ≠ w + 1 → ct r = ct r := fun _ _ _ => rfl
  refine Ctr.ofG (L := [(0, .ref (ad w))]) (by decide +kernel) rfl (by decide +kernel) (fun E fx rt hnm => ?_)
  refine g_iconst (v := nI 0) fx dX10_empty_0 (by decide +kernel) ?_
  refine g_istore_n (L' := [(1, .int (nI 0)), (0, .ref (ad w))]) fx dX10_empty_1 (by decide) rfl ?_
  have LP2 : ∀ (M : Nat) (i : Nat) (ct1 : Nat → va_E) (g1 : Nat → Nat), (i ≤ sz) → (ct1 w = .inr (10, [.ref (ad (w + 1)), .int (nI sz)])) → (ct1 (w + 1) = .inl (B.2.1 1, 12, .inr (.inl (lF g1)))) → (∀ j, g1 j = if j < i then 0 else g j) → (∀ r, r ≠ w → r ≠ w + 1 → ct1 r = ct r) →  (sz - i) < M → G B 2 E ad ct1 n 0 0 [(0, .ref (ad w)), (1, .int (nI i))] 2 [] := by
    intro M
    induction M with
    | zero => intro i ct1 g1 _ _ _ _ _ hM; exact absurd hM (Nat.not_lt_zero _)
    | succ M ih =>
      intro i ct1 g1 hi hw hl hg hfr hM
      refine g_iload_n fx 1 dX10_empty_2 rfl ?_
      refine g_aload_n fx 0 dX10_empty_3 rfl ?_
      refine g_get (r := w) fx lkX10_24 (by omega) hw rfl dX10_empty_4 ?_
      refine g_icmp_ge fx 23 dX10_empty_7 (by decide) (fun c7 => ?_) (fun c7 => ?_)
      · skip
        have hle := (nI_leI (by omega) (by omega)).mp c7
        have e0 : g1 = fun _ => 0 := by funext j; rw [hg j]; split; rfl; exact hz j (by omega)
        rw [e0] at hl
        refine g_aload_n fx 0 dX10_empty_23 rfl ?_
        refine g_iconst (v := nI 0) fx dX10_empty_24 (by decide +kernel) ?_
        refine g_put (r := w) fx lpX10_24 (by omega) hw rfl rfl (by decide) rfl dX10_empty_25 (fun ct1 ect1 => ?_)
        have hfr : ∀ r, r ≠ w → r ≠ w + 1 → ct1 r = ct r := fun r _ _ => by rw [ect1, va_up_ne _ _ (by assumption)]; exact hfr r (by assumption) (by assumption)
        have hw : ct1 w = .inr (10, [.ref (ad (w + 1)), .int (nI 0)]) := by rw [ect1, va_up_self]
        have hl : ct1 (w + 1) = .inl (B.2.1 1, 12, .inr (.inl (lF g1))) := by rw [ect1, va_up_ne _ _ (by omega)]; exact hl
        refine g_vret fx rt dX10_empty_28 ?_
        exact gPv.mk ⟨⟨hw, hl, by omega, fun _ => by decide, fun _ _ => rfl⟩, hfr⟩
      · skip
        have hlt2 : i < sz := by have := (nI_ltI (by omega) (by omega)).mp (Int32.not_le.mp c7); omega
        refine g_aload_n fx 0 dX10_empty_10 rfl ?_
        refine g_get (r := w) fx lkX10_11 (by omega) hw rfl dX10_empty_11 ?_
        refine g_iload_n fx 1 dX10_empty_14 rfl ?_
        refine g_lconst (v := lN 0) fx dX10_empty_15 (by decide +kernel) ?_
        refine g_last (r := w + 1) (j := i) fx (by omega) hl (nI_toInt (by omega)) (by omega) dX10_empty_16 (fun ct2 ect2 => ?_)
        have hfr : ∀ r, r ≠ w → r ≠ w + 1 → ct2 r = ct r := fun r _ _ => by rw [ect2, va_up_ne _ _ (by assumption)]; exact hfr r (by assumption) (by assumption)
        have hw : ct2 w = .inr (10, [.ref (ad (w + 1)), .int (nI sz)]) := by rw [ect2, va_up_ne _ _ (by omega)]; exact hw
        have hl : ct2 (w + 1) = .inl (B.2.1 1, 12, .inr (.inl (lF (va_up g1 i 0)))) := by rw [ect2, va_up_self, lF_up]
        refine g_iinc (L' := [(1, .int (nI (i + 1))), (0, .ref (ad w))]) fx (nI (i + 1)) 1 dX10_empty_17 rfl (gInc _) (by decide) rfl ?_
        refine g_goto fx 2 dX10_empty_20 (by decide) ?_
        refine g_locals (L' := [(0, .ref (ad w)), (1, .int (nI (i + 1)))]) [1, 0] rfl ?_
        exact ih (i + 1) _ _ hlt2 hw hl (by intro j; have := hg j; unfold va_up; split <;> split <;> simp_all <;> omega) hfr (by omega)
  refine g_locals (L' := [(0, .ref (ad w)), (1, .int (nI 0))]) [1, 0] rfl ?_
  exact LP2 (sz + 1) 0 ct g (by omega) hw hl (by simp) hfr (by omega)
