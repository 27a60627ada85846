theorem g_bast {B : gB} {cc : ByteArray} {own : String} {nL : Nat} {rm : Room} {E : gE} {ad : Nat → Nat} {ct : Nat → va_E} {n k0 s0 : Nat} {L : List (Nat × Value)} {pc : Nat} {st : List Value} (fx : gFx B cc own nL rm E) {r N j : Nat} {f : Nat → Int32} {i x : Int32} (hr : r < n) (hc : ct r = .inl (B.2.1 2, N, .inl f)) (hi : i.toInt = (j : Int)) (hj : j < N) (hx : vp_nar .byte x = x) (d : decode cc pc = .ok (.bastore, 1)) (kk : ∀ ct', ct' = va_up ct r (.inl (B.2.1 2, N, .inl (va_up f j x))) → G B nL E ad ct' n k0 s0 L (pc + 1) st) : G B nL E ad ct n k0 s0 L pc (.int x :: .int i :: .ref (ad r) :: st) := by
  intro ls H locs h w
  refine va_bast fx.1.1 fx.1.2.1 fx.2.1 w.1 w.2.1 w.2.2 r 2 (gw_atE hr hc) rfl (gIx hi hj) d (fun H1 l1 hP hD hS => ?_)
  rw [gCl hi, hx] at hP hD
  exact kk _ rfl ls H1 l1 h (gWd_set hP hD hS)
theorem b_small : ∀ v, v < 128 → (nI v).toInt8.toInt32 = nI v ∧ vp_nar .byte (nI v) = nI v := by decide +kernel
theorem b_cmp {v x : Nat} : (cmpI v x).toInt8.toInt32 = cmpI v x ∧ vp_nar .byte (cmpI v x) = cmpI v x := by
  rcases Nat.lt_trichotomy v x with q | q | q
  · rw [cmp_lt q]; decide +kernel
  · rw [cmp_eq q]; decide +kernel
  · rw [cmp_gt q]; decide +kernel
set_option maxHeartbeats 4000000 in
set_option maxRecDepth 100000 in
theorem c_X12_keepCase (B : gB) (ad : Nat → Nat) (ct : Nat → va_E) (n : Nat) (f : Nat → Int32) (gc gu v gwt gs : Nat → Nat) (fk fa : Nat → Int32) (hn : 33 ≤ n) (h0 : ct 0 = mObj ad f) (hc : ct 5 = .inl (B.2.1 0, 25, .inl (nF gc))) (hu : ct 9 = .inl (B.2.1 0, 160, .inl (nF gu))) (hv : ct 12 = .inl (B.2.1 0, 25, .inl (nF v))) (hk : ct 16 = .inl (B.2.1 2, 500000, .inl fk)) (ha : ct 17 = .inl (B.2.1 2, 20000, .inl fa)) (hw : ct 19 = .inl (B.2.1 0, 40, .inl (nF gwt))) (hs : ct 20 = .inl (B.2.1 0, 40, .inl (nF gs))) (R C : Nat) (hR : f 4 = nI R) (hC : f 5 = nI C) (hR5 : R ≤ 5) (hC5 : C ≤ 5) (hv60 : ∀ j, j < C * R → v j ≤ 60) (hCR : 0 < C * R) (hg60 : gc 0 ≤ 60) (hokw : okN gwt 0) (hoks : okN gs 0) (hok : ∀ t, t < 4 → okN gu (40 * t)) (ho1 : nv gu 0 + nv gwt 0 < 16777216 ^ 40) (ho2 : nv gu 40 + nv gwt 0 < 16777216 ^ 40) (ho3 : nv gu 80 + nv gwt 0 < 16777216 ^ 40) (i : Nat) (hi : i < 20000) : Ctr B yX12_keepCase cX12_keepCase 3 none 1 26 0 0 ad ct n [.ref (ad 0), .int (nI i)] (gPv ad n (fun ct' => ∃ fk' gu', ct' 16 = .inl (B.2.1 2, 500000, .inl fk') ∧ ct' 17 = .inl (B.2.1 2, 20000, .inl (va_up fa i (cmpI (nv gwt 0) (nv gs 0)))) ∧ ct' 9 = .inl (B.2.1 0, 160, .inl (nF gu')) ∧ (∀ k, k < C * R → fk' (25 * i + k) = nI (v k)) ∧ (∀ j, j < 25 * i → fk' j = fk j) ∧ (∀ t, t < 4 → okN gu' (40 * t)) ∧ (nv gu' 0 = nv gu 0 + (if (nv gwt 0) ≤ (nv gs 0) then (nv gwt 0) else 0) ∧ nv gu' 40 = nv gu 40 + (if v 0 ≤ gc 0 then (nv gwt 0) else 0) ∧ nv gu' 80 = nv gu 80 + (if gc 0 ≤ v 0 then (nv gwt 0) else 0) ∧ nv gu' 120 = nv gu 120) ∧ ∀ r, r ≠ 9 → r ≠ 16 → r ≠ 17 → ct' r = ct r)) := by
  have hfr : ∀ r, r ≠ 9 → r ≠ 16 → r ≠ 17 → ct r = ct r := fun _ _ _ _ => rfl
  have h25 : C * R ≤ 25 := Nat.mul_le_mul hC5 hR5
  have hmc : R * C = C * R := Nat.mul_comm _ _
  have V0 : nv gu 0 = nv gu 0 := rfl
  have V40 : nv gu 40 = nv gu 40 := rfl
  have V80 : nv gu 80 = nv gu 80 := rfl
  have V120 : nv gu 120 = nv gu 120 := rfl
  refine Ctr.ofG (L := [(0, .ref (ad 0)), (1, .int (nI i))]) (by decide +kernel) rfl (Nat.le_of_ble_eq_true rfl) (fun E fx rt hnm => ?_)
  refine g_iconst (v := nI 0) fx dX12_keepCase_0 (by decide +kernel) ?_
  refine g_istore_n (L' := [(2, .int (nI 0)), (0, .ref (ad 0)), (1, .int (nI i))]) fx dX12_keepCase_1 (by decide) rfl ?_
  have LP2 : ∀ (M : Nat) (k : Nat) (ct1 : Nat → va_E) (fk1 : Nat → Int32), (k ≤ C * R) → (∀ j, j < k → fk1 (25 * i + j) = nI (v j)) → (∀ j, j < 25 * i → fk1 j = fk j) → (ct1 0 = mObj ad f) → (ct1 5 = .inl (B.2.1 0, 25, .inl (nF gc))) → (ct1 9 = .inl (B.2.1 0, 160, .inl (nF gu))) → (ct1 12 = .inl (B.2.1 0, 25, .inl (nF v))) → (ct1 16 = .inl (B.2.1 2, 500000, .inl fk1)) → (ct1 17 = .inl (B.2.1 2, 20000, .inl fa)) → (ct1 19 = .inl (B.2.1 0, 40, .inl (nF gwt))) → (ct1 20 = .inl (B.2.1 0, 40, .inl (nF gs))) → (∀ r, r ≠ 9 → r ≠ 16 → r ≠ 17 → ct1 r = ct r) →  (C * R - k) < M → G B 3 E ad ct1 n 0 0 [(0, .ref (ad 0)), (1, .int (nI i)), (2, .int (nI k))] 2 [] := by
    intro M
    induction M with
    | zero => intro k ct1 fk1 _ _ _ _ _ _ _ _ _ _ _ _ hM; exact absurd hM (Nat.not_lt_zero _)
    | succ M ih =>
      intro k ct1 fk1 hk1 he hb h0 hc hu hv hk ha hw hs hfr hM
      have ih2 := ih
      refine g_iload_n fx 2 dX12_keepCase_2 rfl ?_
      refine g_aload_n fx 0 dX12_keepCase_3 rfl ?_
      refine g_get (r := 0) fx lkX12_115 (by omega) h0 rfl dX12_keepCase_4 ?_
      refine g_isi (y := nI R) hR ?_
      refine g_aload_n fx 0 dX12_keepCase_7 rfl ?_
      refine g_get (r := 0) fx lkX12_118 (by omega) h0 rfl dX12_keepCase_8 ?_
      refine g_isi (y := nI C) hC ?_
      refine g_imulN fx dX12_keepCase_11 ?_
      refine g_icmp_ge fx 39 dX12_keepCase_12 (by decide) (fun c12 => ?_) (fun c12 => ?_)
      · skip
        have hke : k = C * R := by have := (nI_leI (by omega) (by omega)).mp c12; omega
        rw [hke] at he
        refine g_aload_n fx 0 dX12_keepCase_39 rfl ?_
        refine g_get (r := 0) fx lkX12_72 (by omega) h0 rfl dX12_keepCase_40 ?_
        refine g_iconst (v := nI 0) fx dX12_keepCase_43 (by decide +kernel) ?_
        refine g_aload_n fx 0 dX12_keepCase_44 rfl ?_
        refine g_get (r := 0) fx lkX12_75 (by omega) h0 rfl dX12_keepCase_45 ?_
        refine g_iconst (v := nI 0) fx dX12_keepCase_48 (by decide +kernel) ?_
        refine g_callSip (As := [.ref (ad 19), .int (nI 0), .ref (ad 20), .int (nI 0)]) (rest := []) fx slX12_143 (c_X12_compare B ad ct1 n 19 0 40 gwt (by omega) (by decide) (by decide) hw 20 0 40 gs (by omega) (by decide) (by decide) hs hokw hoks) rfl rfl (Nat.le_of_ble_eq_true rfl) ⟨by decide, by decide⟩ ⟨by decide, by decide⟩ dX12_keepCase_49 (fun q1 hq1 => ?_)
        obtain rfl := hq1
        refine g_istore_n (L' := [(2, .int (cmpI (nv gwt 0) (nv gs 0))), (0, .ref (ad 0)), (1, .int (nI i))]) fx dX12_keepCase_52 (by decide) rfl ?_
        refine g_aload_n fx 1 dX12_keepCase_53 rfl ?_
        refine g_get (r := 0) fx lkX12_66 (by omega) h0 rfl dX12_keepCase_54 ?_
        refine g_iload_n fx 2 dX12_keepCase_57 rfl ?_
        refine g_iload_n fx 0 dX12_keepCase_58 rfl ?_
        refine g_i2b fx dX12_keepCase_59 ?_
        refine g_isi (y := cmpI (nv gwt 0) (nv gs 0)) b_cmp.1 ?_
        refine g_bast (r := 17) (j := i) fx (by omega) ha (nI_toInt (by omega)) (by omega) b_cmp.2 dX12_keepCase_60 (fun cu2 ecu2 => ?_)
        have hfr : ∀ r, r ≠ 9 → r ≠ 16 → r ≠ 17 → cu2 r = ct r := fun r _ _ _ => (congrFun ecu2 r).trans ((va_up_ne _ _ (by assumption)).trans (hfr r (by assumption) (by assumption) (by assumption)))
        have h0 : cu2 0 = mObj ad f := (congrFun ecu2 _).trans ((va_up_ne _ _ (by omega)).trans h0)
        have hc : cu2 5 = .inl (B.2.1 0, 25, .inl (nF gc)) := (congrFun ecu2 _).trans ((va_up_ne _ _ (by omega)).trans hc)
        have hu : cu2 9 = .inl (B.2.1 0, 160, .inl (nF gu)) := (congrFun ecu2 _).trans ((va_up_ne _ _ (by omega)).trans hu)
        have hv : cu2 12 = .inl (B.2.1 0, 25, .inl (nF v)) := (congrFun ecu2 _).trans ((va_up_ne _ _ (by omega)).trans hv)
        have hk : cu2 16 = .inl (B.2.1 2, 500000, .inl fk1) := (congrFun ecu2 _).trans ((va_up_ne _ _ (by omega)).trans hk)
        have ha : cu2 17 = .inl (B.2.1 2, 20000, .inl (va_up fa i (cmpI (nv gwt 0) (nv gs 0)))) := by rw [ecu2, va_up_self]
        have hw : cu2 19 = .inl (B.2.1 0, 40, .inl (nF gwt)) := (congrFun ecu2 _).trans ((va_up_ne _ _ (by omega)).trans hw)
        have hs : cu2 20 = .inl (B.2.1 0, 40, .inl (nF gs)) := (congrFun ecu2 _).trans ((va_up_ne _ _ (by omega)).trans hs)
        refine g_iload_n fx 0 dX12_keepCase_61 rfl ?_
        refine g_if_gt fx 78 dX12_keepCase_62 (by decide) (fun c62 => ?_) (fun c62 => ?_)
        · skip
          have hcd1 : ¬ ((nv gwt 0) ≤ (nv gs 0)) := fun q => Int32.not_le.mpr c62 (cmp_nonpos.mpr q)
          have V0 : nv gu 0 = nv gu 0 + (if (nv gwt 0) ≤ (nv gs 0) then (nv gwt 0) else 0) := V0.trans (by rw [if_neg hcd1, Nat.add_zero])
          refine g_aload_n fx 1 dX12_keepCase_78 rfl ?_
          refine g_get (r := 0) fx lkX12_49 (by omega) h0 rfl dX12_keepCase_79 ?_
          refine g_iconst (v := nI 0) fx dX12_keepCase_82 (by decide +kernel) ?_
          refine g_iald (r := 12) (j := 0) fx (by omega) hv (nI_toInt (by omega)) (by omega) dX12_keepCase_83 ?_
          refine g_isi (y := nI (v 0)) rfl ?_
          refine g_aload_n fx 1 dX12_keepCase_84 rfl ?_
          refine g_get (r := 0) fx lkX12_22 (by omega) h0 rfl dX12_keepCase_85 ?_
          refine g_iconst (v := nI 0) fx dX12_keepCase_88 (by decide +kernel) ?_
          refine g_iald (r := 5) (j := 0) fx (by omega) hc (nI_toInt (by omega)) (by omega) dX12_keepCase_89 ?_
          refine g_isi (y := nI (gc 0)) rfl ?_
          have hv0 := hv60 0 hCR
          refine g_icmp_gt fx 107 dX12_keepCase_90 (by decide) (fun c90 => ?_) (fun c90 => ?_)
          · skip
            have hcd2 : ¬ (v 0 ≤ gc 0) := Nat.not_le.mpr ((nI_ltI (by omega) (by omega)).mp c90)
            have V40 : nv gu 40 = nv gu 40 + (if v 0 ≤ gc 0 then (nv gwt 0) else 0) := V40.trans (by rw [if_neg hcd2, Nat.add_zero])
            refine g_aload_n fx 1 dX12_keepCase_107 rfl ?_
            refine g_get (r := 0) fx lkX12_49 (by omega) h0 rfl dX12_keepCase_108 ?_
            refine g_iconst (v := nI 0) fx dX12_keepCase_111 (by decide +kernel) ?_
            refine g_iald (r := 12) (j := 0) fx (by omega) hv (nI_toInt (by omega)) (by omega) dX12_keepCase_112 ?_
            refine g_isi (y := nI (v 0)) rfl ?_
            refine g_aload_n fx 1 dX12_keepCase_113 rfl ?_
            refine g_get (r := 0) fx lkX12_22 (by omega) h0 rfl dX12_keepCase_114 ?_
            refine g_iconst (v := nI 0) fx dX12_keepCase_117 (by decide +kernel) ?_
            refine g_iald (r := 5) (j := 0) fx (by omega) hc (nI_toInt (by omega)) (by omega) dX12_keepCase_118 ?_
            refine g_isi (y := nI (gc 0)) rfl ?_
            refine g_icmp_lt fx 136 dX12_keepCase_119 (by decide) (fun c119 => ?_) (fun c119 => ?_)
            · skip
              have hcd3 : ¬ (gc 0 ≤ v 0) := Nat.not_le.mpr ((nI_ltI (by omega) (by omega)).mp c119)
              have V80 : nv gu 80 = nv gu 80 + (if gc 0 ≤ v 0 then (nv gwt 0) else 0) := V80.trans (by rw [if_neg hcd3, Nat.add_zero])
              refine g_vret fx rt dX12_keepCase_136 ?_
              exact gPv.mk ⟨fk1, _, hk, ha, hu, he, hb, hok, ⟨V0, V40, V80, V120⟩, hfr⟩
            · skip
              have hcd3 : gc 0 ≤ v 0 := Nat.le_of_not_lt (fun q => c119 ((nI_ltI (by omega) (by omega)).mpr q))
              refine g_aload_n fx 1 dX12_keepCase_122 rfl ?_
              refine g_get (r := 0) fx lkX12_38 (by omega) h0 rfl dX12_keepCase_123 ?_
              refine g_bipush (v := nI 80) fx dX12_keepCase_126 (by decide +kernel) ?_
              refine g_aload_n fx 1 dX12_keepCase_128 rfl ?_
              refine g_get (r := 0) fx lkX12_72 (by omega) h0 rfl dX12_keepCase_129 ?_
              refine g_iconst (v := nI 0) fx dX12_keepCase_132 (by decide +kernel) ?_
              refine g_callSv (As := [.ref (ad 9), .int (nI 80), .ref (ad 19), .int (nI 0)]) (rest := []) fx slX12_247 (c_X12_add B ad cu2 n 9 80 160 gu (by omega) (by decide) (by decide) hu 19 0 40 gwt (by omega) (by decide) (by decide) hw (by decide) (hok 2 (by decide)) hokw (by rw [V80]; exact ho3)) rfl rfl (Nat.le_of_ble_eq_true rfl) ⟨by decide, by decide⟩ ⟨by decide, by decide⟩ dX12_keepCase_133 (fun cta3 hza3 => ?_)
              obtain ⟨gu3, ea3, hou3, hoka3, hva3⟩ := hza3
              have hfr : ∀ r, r ≠ 9 → r ≠ 16 → r ≠ 17 → cta3 r = ct r := fun r _ _ _ => (congrFun ea3 r).trans ((va_up_ne _ _ (by assumption)).trans (hfr r (by assumption) (by assumption) (by assumption)))
              have h0 : cta3 0 = mObj ad f := (congrFun ea3 _).trans ((va_up_ne _ _ (by omega)).trans h0)
              have hc : cta3 5 = .inl (B.2.1 0, 25, .inl (nF gc)) := (congrFun ea3 _).trans ((va_up_ne _ _ (by omega)).trans hc)
              have hu : cta3 9 = .inl (B.2.1 0, 160, .inl (nF gu3)) := by rw [ea3, va_up_self]
              have hv : cta3 12 = .inl (B.2.1 0, 25, .inl (nF v)) := (congrFun ea3 _).trans ((va_up_ne _ _ (by omega)).trans hv)
              have hk : cta3 16 = .inl (B.2.1 2, 500000, .inl fk1) := (congrFun ea3 _).trans ((va_up_ne _ _ (by omega)).trans hk)
              have ha : cta3 17 = .inl (B.2.1 2, 20000, .inl (va_up fa i (cmpI (nv gwt 0) (nv gs 0)))) := (congrFun ea3 _).trans ((va_up_ne _ _ (by omega)).trans ha)
              have hw : cta3 19 = .inl (B.2.1 0, 40, .inl (nF gwt)) := (congrFun ea3 _).trans ((va_up_ne _ _ (by omega)).trans hw)
              have hs : cta3 20 = .inl (B.2.1 0, 40, .inl (nF gs)) := (congrFun ea3 _).trans ((va_up_ne _ _ (by omega)).trans hs)
              have V0 : nv gu3 0 = nv gu 0 + (if (nv gwt 0) ≤ (nv gs 0) then (nv gwt 0) else 0) := (nv_out hou3 (by decide)).trans V0
              have V40 : nv gu3 40 = nv gu 40 + (if v 0 ≤ gc 0 then (nv gwt 0) else 0) := (nv_out hou3 (by decide)).trans V40
              have V80 : nv gu3 80 = nv gu 80 + (if gc 0 ≤ v 0 then (nv gwt 0) else 0) := hva3.trans (by rw [V80, if_pos hcd3])
              have V120 : nv gu3 120 = nv gu 120 := (nv_out hou3 (by decide)).trans V120
              have hok : ∀ t, t < 4 → okN gu3 (40 * t) := fun t ht => by by_cases q : t = 2; (subst q; exact hoka3); (exact ok_out hou3 (by omega) (hok t ht))
              refine g_vret fx rt dX12_keepCase_136 ?_
              exact gPv.mk ⟨fk1, _, hk, ha, hu, he, hb, hok, ⟨V0, V40, V80, V120⟩, hfr⟩
          · skip
            have hcd2 : v 0 ≤ gc 0 := Nat.le_of_not_lt (fun q => c90 ((nI_ltI (by omega) (by omega)).mpr q))
            refine g_aload_n fx 1 dX12_keepCase_93 rfl ?_
            refine g_get (r := 0) fx lkX12_38 (by omega) h0 rfl dX12_keepCase_94 ?_
            refine g_bipush (v := nI 40) fx dX12_keepCase_97 (by decide +kernel) ?_
            refine g_aload_n fx 1 dX12_keepCase_99 rfl ?_
            refine g_get (r := 0) fx lkX12_72 (by omega) h0 rfl dX12_keepCase_100 ?_
            refine g_iconst (v := nI 0) fx dX12_keepCase_103 (by decide +kernel) ?_
            refine g_callSv (As := [.ref (ad 9), .int (nI 40), .ref (ad 19), .int (nI 0)]) (rest := []) fx slX12_247 (c_X12_add B ad cu2 n 9 40 160 gu (by omega) (by decide) (by decide) hu 19 0 40 gwt (by omega) (by decide) (by decide) hw (by decide) (hok 1 (by decide)) hokw (by rw [V40]; exact ho2)) rfl rfl (Nat.le_of_ble_eq_true rfl) ⟨by decide, by decide⟩ ⟨by decide, by decide⟩ dX12_keepCase_104 (fun cta2 hza2 => ?_)
            obtain ⟨gu2, ea2, hou2, hoka2, hva2⟩ := hza2
            have hfr : ∀ r, r ≠ 9 → r ≠ 16 → r ≠ 17 → cta2 r = ct r := fun r _ _ _ => (congrFun ea2 r).trans ((va_up_ne _ _ (by assumption)).trans (hfr r (by assumption) (by assumption) (by assumption)))
            have h0 : cta2 0 = mObj ad f := (congrFun ea2 _).trans ((va_up_ne _ _ (by omega)).trans h0)
            have hc : cta2 5 = .inl (B.2.1 0, 25, .inl (nF gc)) := (congrFun ea2 _).trans ((va_up_ne _ _ (by omega)).trans hc)
            have hu : cta2 9 = .inl (B.2.1 0, 160, .inl (nF gu2)) := by rw [ea2, va_up_self]
            have hv : cta2 12 = .inl (B.2.1 0, 25, .inl (nF v)) := (congrFun ea2 _).trans ((va_up_ne _ _ (by omega)).trans hv)
            have hk : cta2 16 = .inl (B.2.1 2, 500000, .inl fk1) := (congrFun ea2 _).trans ((va_up_ne _ _ (by omega)).trans hk)
            have ha : cta2 17 = .inl (B.2.1 2, 20000, .inl (va_up fa i (cmpI (nv gwt 0) (nv gs 0)))) := (congrFun ea2 _).trans ((va_up_ne _ _ (by omega)).trans ha)
            have hw : cta2 19 = .inl (B.2.1 0, 40, .inl (nF gwt)) := (congrFun ea2 _).trans ((va_up_ne _ _ (by omega)).trans hw)
            have hs : cta2 20 = .inl (B.2.1 0, 40, .inl (nF gs)) := (congrFun ea2 _).trans ((va_up_ne _ _ (by omega)).trans hs)
            have V0 : nv gu2 0 = nv gu 0 + (if (nv gwt 0) ≤ (nv gs 0) then (nv gwt 0) else 0) := (nv_out hou2 (by decide)).trans V0
            have V40 : nv gu2 40 = nv gu 40 + (if v 0 ≤ gc 0 then (nv gwt 0) else 0) := hva2.trans (by rw [V40, if_pos hcd2])
            have V80 : nv gu2 80 = nv gu 80 := (nv_out hou2 (by decide)).trans V80
            have V120 : nv gu2 120 = nv gu 120 := (nv_out hou2 (by decide)).trans V120
            have hok : ∀ t, t < 4 → okN gu2 (40 * t) := fun t ht => by by_cases q : t = 1; (subst q; exact hoka2); (exact ok_out hou2 (by omega) (hok t ht))
            refine g_aload_n fx 1 dX12_keepCase_107 rfl ?_
            refine g_get (r := 0) fx lkX12_49 (by omega) h0 rfl dX12_keepCase_108 ?_
            refine g_iconst (v := nI 0) fx dX12_keepCase_111 (by decide +kernel) ?_
            refine g_iald (r := 12) (j := 0) fx (by omega) hv (nI_toInt (by omega)) (by omega) dX12_keepCase_112 ?_
            refine g_isi (y := nI (v 0)) rfl ?_
            refine g_aload_n fx 1 dX12_keepCase_113 rfl ?_
            refine g_get (r := 0) fx lkX12_22 (by omega) h0 rfl dX12_keepCase_114 ?_
            refine g_iconst (v := nI 0) fx dX12_keepCase_117 (by decide +kernel) ?_
            refine g_iald (r := 5) (j := 0) fx (by omega) hc (nI_toInt (by omega)) (by omega) dX12_keepCase_118 ?_
            refine g_isi (y := nI (gc 0)) rfl ?_
            refine g_icmp_lt fx 136 dX12_keepCase_119 (by decide) (fun c119 => ?_) (fun c119 => ?_)
            · skip
              have hcd3 : ¬ (gc 0 ≤ v 0) := Nat.not_le.mpr ((nI_ltI (by omega) (by omega)).mp c119)
              have V80 : nv gu2 80 = nv gu 80 + (if gc 0 ≤ v 0 then (nv gwt 0) else 0) := V80.trans (by rw [if_neg hcd3, Nat.add_zero])
              refine g_vret fx rt dX12_keepCase_136 ?_
              exact gPv.mk ⟨fk1, _, hk, ha, hu, he, hb, hok, ⟨V0, V40, V80, V120⟩, hfr⟩
            · skip
              have hcd3 : gc 0 ≤ v 0 := Nat.le_of_not_lt (fun q => c119 ((nI_ltI (by omega) (by omega)).mpr q))
              refine g_aload_n fx 1 dX12_keepCase_122 rfl ?_
              refine g_get (r := 0) fx lkX12_38 (by omega) h0 rfl dX12_keepCase_123 ?_
              refine g_bipush (v := nI 80) fx dX12_keepCase_126 (by decide +kernel) ?_
              refine g_aload_n fx 1 dX12_keepCase_128 rfl ?_
              refine g_get (r := 0) fx lkX12_72 (by omega) h0 rfl dX12_keepCase_129 ?_
              refine g_iconst (v := nI 0) fx dX12_keepCase_132 (by decide +kernel) ?_
              refine g_callSv (As := [.ref (ad 9), .int (nI 80), .ref (ad 19), .int (nI 0)]) (rest := []) fx slX12_247 (c_X12_add B ad cta2 n 9 80 160 gu2 (by omega) (by decide) (by decide) hu 19 0 40 gwt (by omega) (by decide) (by decide) hw (by decide) (hok 2 (by decide)) hokw (by rw [V80]; exact ho3)) rfl rfl (Nat.le_of_ble_eq_true rfl) ⟨by decide, by decide⟩ ⟨by decide, by decide⟩ dX12_keepCase_133 (fun cta3 hza3 => ?_)
              obtain ⟨gu3, ea3, hou3, hoka3, hva3⟩ := hza3
              have hfr : ∀ r, r ≠ 9 → r ≠ 16 → r ≠ 17 → cta3 r = ct r := fun r _ _ _ => (congrFun ea3 r).trans ((va_up_ne _ _ (by assumption)).trans (hfr r (by assumption) (by assumption) (by assumption)))
              have h0 : cta3 0 = mObj ad f := (congrFun ea3 _).trans ((va_up_ne _ _ (by omega)).trans h0)
              have hc : cta3 5 = .inl (B.2.1 0, 25, .inl (nF gc)) := (congrFun ea3 _).trans ((va_up_ne _ _ (by omega)).trans hc)
              have hu : cta3 9 = .inl (B.2.1 0, 160, .inl (nF gu3)) := by rw [ea3, va_up_self]
              have hv : cta3 12 = .inl (B.2.1 0, 25, .inl (nF v)) := (congrFun ea3 _).trans ((va_up_ne _ _ (by omega)).trans hv)
              have hk : cta3 16 = .inl (B.2.1 2, 500000, .inl fk1) := (congrFun ea3 _).trans ((va_up_ne _ _ (by omega)).trans hk)
              have ha : cta3 17 = .inl (B.2.1 2, 20000, .inl (va_up fa i (cmpI (nv gwt 0) (nv gs 0)))) := (congrFun ea3 _).trans ((va_up_ne _ _ (by omega)).trans ha)
              have hw : cta3 19 = .inl (B.2.1 0, 40, .inl (nF gwt)) := (congrFun ea3 _).trans ((va_up_ne _ _ (by omega)).trans hw)
              have hs : cta3 20 = .inl (B.2.1 0, 40, .inl (nF gs)) := (congrFun ea3 _).trans ((va_up_ne _ _ (by omega)).trans hs)
              have V0 : nv gu3 0 = nv gu 0 + (if (nv gwt 0) ≤ (nv gs 0) then (nv gwt 0) else 0) := (nv_out hou3 (by decide)).trans V0
              have V40 : nv gu3 40 = nv gu 40 + (if v 0 ≤ gc 0 then (nv gwt 0) else 0) := (nv_out hou3 (by decide)).trans V40
              have V80 : nv gu3 80 = nv gu 80 + (if gc 0 ≤ v 0 then (nv gwt 0) else 0) := hva3.trans (by rw [V80, if_pos hcd3])
              have V120 : nv gu3 120 = nv gu 120 := (nv_out hou3 (by decide)).trans V120
              have hok : ∀ t, t < 4 → okN gu3 (40 * t) := fun t ht => by by_cases q : t = 2; (subst q; exact hoka3); (exact ok_out hou3 (by omega) (hok t ht))
              refine g_vret fx rt dX12_keepCase_136 ?_
              exact gPv.mk ⟨fk1, _, hk, ha, hu, he, hb, hok, ⟨V0, V40, V80, V120⟩, hfr⟩
        · skip
          have hcd1 : (nv gwt 0) ≤ (nv gs 0) := cmp_nonpos.mp (Int32.not_lt.mp c62)
          refine g_aload_n fx 1 dX12_keepCase_65 rfl ?_
          refine g_get (r := 0) fx lkX12_38 (by omega) h0 rfl dX12_keepCase_66 ?_
          refine g_iconst (v := nI 0) fx dX12_keepCase_69 (by decide +kernel) ?_
          refine g_aload_n fx 1 dX12_keepCase_70 rfl ?_
          refine g_get (r := 0) fx lkX12_72 (by omega) h0 rfl dX12_keepCase_71 ?_
          refine g_iconst (v := nI 0) fx dX12_keepCase_74 (by decide +kernel) ?_
          refine g_callSv (As := [.ref (ad 9), .int (nI 0), .ref (ad 19), .int (nI 0)]) (rest := []) fx slX12_247 (c_X12_add B ad cu2 n 9 0 160 gu (by omega) (by decide) (by decide) hu 19 0 40 gwt (by omega) (by decide) (by decide) hw (by decide) (hok 0 (by decide)) hokw (by rw [V0]; exact ho1)) rfl rfl (Nat.le_of_ble_eq_true rfl) ⟨by decide, by decide⟩ ⟨by decide, by decide⟩ dX12_keepCase_75 (fun cta1 hza1 => ?_)
          obtain ⟨gu1, ea1, hou1, hoka1, hva1⟩ := hza1
          have hfr : ∀ r, r ≠ 9 → r ≠ 16 → r ≠ 17 → cta1 r = ct r := fun r _ _ _ => (congrFun ea1 r).trans ((va_up_ne _ _ (by assumption)).trans (hfr r (by assumption) (by assumption) (by assumption)))
          have h0 : cta1 0 = mObj ad f := (congrFun ea1 _).trans ((va_up_ne _ _ (by omega)).trans h0)
          have hc : cta1 5 = .inl (B.2.1 0, 25, .inl (nF gc)) := (congrFun ea1 _).trans ((va_up_ne _ _ (by omega)).trans hc)
          have hu : cta1 9 = .inl (B.2.1 0, 160, .inl (nF gu1)) := by rw [ea1, va_up_self]
          have hv : cta1 12 = .inl (B.2.1 0, 25, .inl (nF v)) := (congrFun ea1 _).trans ((va_up_ne _ _ (by omega)).trans hv)
          have hk : cta1 16 = .inl (B.2.1 2, 500000, .inl fk1) := (congrFun ea1 _).trans ((va_up_ne _ _ (by omega)).trans hk)
          have ha : cta1 17 = .inl (B.2.1 2, 20000, .inl (va_up fa i (cmpI (nv gwt 0) (nv gs 0)))) := (congrFun ea1 _).trans ((va_up_ne _ _ (by omega)).trans ha)
          have hw : cta1 19 = .inl (B.2.1 0, 40, .inl (nF gwt)) := (congrFun ea1 _).trans ((va_up_ne _ _ (by omega)).trans hw)
          have hs : cta1 20 = .inl (B.2.1 0, 40, .inl (nF gs)) := (congrFun ea1 _).trans ((va_up_ne _ _ (by omega)).trans hs)
          have V0 : nv gu1 0 = nv gu 0 + (if (nv gwt 0) ≤ (nv gs 0) then (nv gwt 0) else 0) := hva1.trans (by rw [V0, if_pos hcd1])
          have V40 : nv gu1 40 = nv gu 40 := (nv_out hou1 (by decide)).trans V40
          have V80 : nv gu1 80 = nv gu 80 := (nv_out hou1 (by decide)).trans V80
          have V120 : nv gu1 120 = nv gu 120 := (nv_out hou1 (by decide)).trans V120
          have hok : ∀ t, t < 4 → okN gu1 (40 * t) := fun t ht => by by_cases q : t = 0; (subst q; exact hoka1); (exact ok_out hou1 (by omega) (hok t ht))
          refine g_aload_n fx 1 dX12_keepCase_78 rfl ?_
          refine g_get (r := 0) fx lkX12_49 (by omega) h0 rfl dX12_keepCase_79 ?_
          refine g_iconst (v := nI 0) fx dX12_keepCase_82 (by decide +kernel) ?_
          refine g_iald (r := 12) (j := 0) fx (by omega) hv (nI_toInt (by omega)) (by omega) dX12_keepCase_83 ?_
          refine g_isi (y := nI (v 0)) rfl ?_
          refine g_aload_n fx 1 dX12_keepCase_84 rfl ?_
          refine g_get (r := 0) fx lkX12_22 (by omega) h0 rfl dX12_keepCase_85 ?_
          refine g_iconst (v := nI 0) fx dX12_keepCase_88 (by decide +kernel) ?_
          refine g_iald (r := 5) (j := 0) fx (by omega) hc (nI_toInt (by omega)) (by omega) dX12_keepCase_89 ?_
          refine g_isi (y := nI (gc 0)) rfl ?_
          have hv0 := hv60 0 hCR
          refine g_icmp_gt fx 107 dX12_keepCase_90 (by decide) (fun c90 => ?_) (fun c90 => ?_)
          · skip
            have hcd2 : ¬ (v 0 ≤ gc 0) := Nat.not_le.mpr ((nI_ltI (by omega) (by omega)).mp c90)
            have V40 : nv gu1 40 = nv gu 40 + (if v 0 ≤ gc 0 then (nv gwt 0) else 0) := V40.trans (by rw [if_neg hcd2, Nat.add_zero])
            refine g_aload_n fx 1 dX12_keepCase_107 rfl ?_
            refine g_get (r := 0) fx lkX12_49 (by omega) h0 rfl dX12_keepCase_108 ?_
            refine g_iconst (v := nI 0) fx dX12_keepCase_111 (by decide +kernel) ?_
            refine g_iald (r := 12) (j := 0) fx (by omega) hv (nI_toInt (by omega)) (by omega) dX12_keepCase_112 ?_
            refine g_isi (y := nI (v 0)) rfl ?_
            refine g_aload_n fx 1 dX12_keepCase_113 rfl ?_
            refine g_get (r := 0) fx lkX12_22 (by omega) h0 rfl dX12_keepCase_114 ?_
            refine g_iconst (v := nI 0) fx dX12_keepCase_117 (by decide +kernel) ?_
            refine g_iald (r := 5) (j := 0) fx (by omega) hc (nI_toInt (by omega)) (by omega) dX12_keepCase_118 ?_
            refine g_isi (y := nI (gc 0)) rfl ?_
            refine g_icmp_lt fx 136 dX12_keepCase_119 (by decide) (fun c119 => ?_) (fun c119 => ?_)
            · skip
              have hcd3 : ¬ (gc 0 ≤ v 0) := Nat.not_le.mpr ((nI_ltI (by omega) (by omega)).mp c119)
              have V80 : nv gu1 80 = nv gu 80 + (if gc 0 ≤ v 0 then (nv gwt 0) else 0) := V80.trans (by rw [if_neg hcd3, Nat.add_zero])
              refine g_vret fx rt dX12_keepCase_136 ?_
              exact gPv.mk ⟨fk1, _, hk, ha, hu, he, hb, hok, ⟨V0, V40, V80, V120⟩, hfr⟩
            · skip
              have hcd3 : gc 0 ≤ v 0 := Nat.le_of_not_lt (fun q => c119 ((nI_ltI (by omega) (by omega)).mpr q))
              refine g_aload_n fx 1 dX12_keepCase_122 rfl ?_
              refine g_get (r := 0) fx lkX12_38 (by omega) h0 rfl dX12_keepCase_123 ?_
              refine g_bipush (v := nI 80) fx dX12_keepCase_126 (by decide +kernel) ?_
              refine g_aload_n fx 1 dX12_keepCase_128 rfl ?_
              refine g_get (r := 0) fx lkX12_72 (by omega) h0 rfl dX12_keepCase_129 ?_
              refine g_iconst (v := nI 0) fx dX12_keepCase_132 (by decide +kernel) ?_
              refine g_callSv (As := [.ref (ad 9), .int (nI 80), .ref (ad 19), .int (nI 0)]) (rest := []) fx slX12_247 (c_X12_add B ad cta1 n 9 80 160 gu1 (by omega) (by decide) (by decide) hu 19 0 40 gwt (by omega) (by decide) (by decide) hw (by decide) (hok 2 (by decide)) hokw (by rw [V80]; exact ho3)) rfl rfl (Nat.le_of_ble_eq_true rfl) ⟨by decide, by decide⟩ ⟨by decide, by decide⟩ dX12_keepCase_133 (fun cta3 hza3 => ?_)
              obtain ⟨gu3, ea3, hou3, hoka3, hva3⟩ := hza3
              have hfr : ∀ r, r ≠ 9 → r ≠ 16 → r ≠ 17 → cta3 r = ct r := fun r _ _ _ => (congrFun ea3 r).trans ((va_up_ne _ _ (by assumption)).trans (hfr r (by assumption) (by assumption) (by assumption)))
              have h0 : cta3 0 = mObj ad f := (congrFun ea3 _).trans ((va_up_ne _ _ (by omega)).trans h0)
              have hc : cta3 5 = .inl (B.2.1 0, 25, .inl (nF gc)) := (congrFun ea3 _).trans ((va_up_ne _ _ (by omega)).trans hc)
              have hu : cta3 9 = .inl (B.2.1 0, 160, .inl (nF gu3)) := by rw [ea3, va_up_self]
              have hv : cta3 12 = .inl (B.2.1 0, 25, .inl (nF v)) := (congrFun ea3 _).trans ((va_up_ne _ _ (by omega)).trans hv)
              have hk : cta3 16 = .inl (B.2.1 2, 500000, .inl fk1) := (congrFun ea3 _).trans ((va_up_ne _ _ (by omega)).trans hk)
              have ha : cta3 17 = .inl (B.2.1 2, 20000, .inl (va_up fa i (cmpI (nv gwt 0) (nv gs 0)))) := (congrFun ea3 _).trans ((va_up_ne _ _ (by omega)).trans ha)
              have hw : cta3 19 = .inl (B.2.1 0, 40, .inl (nF gwt)) := (congrFun ea3 _).trans ((va_up_ne _ _ (by omega)).trans hw)
              have hs : cta3 20 = .inl (B.2.1 0, 40, .inl (nF gs)) := (congrFun ea3 _).trans ((va_up_ne _ _ (by omega)).trans hs)
              have V0 : nv gu3 0 = nv gu 0 + (if (nv gwt 0) ≤ (nv gs 0) then (nv gwt 0) else 0) := (nv_out hou3 (by decide)).trans V0
              have V40 : nv gu3 40 = nv gu 40 + (if v 0 ≤ gc 0 then (nv gwt 0) else 0) := (nv_out hou3 (by decide)).trans V40
              have V80 : nv gu3 80 = nv gu 80 + (if gc 0 ≤ v 0 then (nv gwt 0) else 0) := hva3.trans (by rw [V80, if_pos hcd3])
              have V120 : nv gu3 120 = nv gu 120 := (nv_out hou3 (by decide)).trans V120
              have hok : ∀ t, t < 4 → okN gu3 (40 * t) := fun t ht => by by_cases q : t = 2; (subst q; exact hoka3); (exact ok_out hou3 (by omega) (hok t ht))
              refine g_vret fx rt dX12_keepCase_136 ?_
              exact gPv.mk ⟨fk1, _, hk, ha, hu, he, hb, hok, ⟨V0, V40, V80, V120⟩, hfr⟩
          · skip
            have hcd2 : v 0 ≤ gc 0 := Nat.le_of_not_lt (fun q => c90 ((nI_ltI (by omega) (by omega)).mpr q))
            refine g_aload_n fx 1 dX12_keepCase_93 rfl ?_
            refine g_get (r := 0) fx lkX12_38 (by omega) h0 rfl dX12_keepCase_94 ?_
            refine g_bipush (v := nI 40) fx dX12_keepCase_97 (by decide +kernel) ?_
            refine g_aload_n fx 1 dX12_keepCase_99 rfl ?_
            refine g_get (r := 0) fx lkX12_72 (by omega) h0 rfl dX12_keepCase_100 ?_
            refine g_iconst (v := nI 0) fx dX12_keepCase_103 (by decide +kernel) ?_
            refine g_callSv (As := [.ref (ad 9), .int (nI 40), .ref (ad 19), .int (nI 0)]) (rest := []) fx slX12_247 (c_X12_add B ad cta1 n 9 40 160 gu1 (by omega) (by decide) (by decide) hu 19 0 40 gwt (by omega) (by decide) (by decide) hw (by decide) (hok 1 (by decide)) hokw (by rw [V40]; exact ho2)) rfl rfl (Nat.le_of_ble_eq_true rfl) ⟨by decide, by decide⟩ ⟨by decide, by decide⟩ dX12_keepCase_104 (fun cta2 hza2 => ?_)
            obtain ⟨gu2, ea2, hou2, hoka2, hva2⟩ := hza2
            have hfr : ∀ r, r ≠ 9 → r ≠ 16 → r ≠ 17 → cta2 r = ct r := fun r _ _ _ => (congrFun ea2 r).trans ((va_up_ne _ _ (by assumption)).trans (hfr r (by assumption) (by assumption) (by assumption)))
            have h0 : cta2 0 = mObj ad f := (congrFun ea2 _).trans ((va_up_ne _ _ (by omega)).trans h0)
            have hc : cta2 5 = .inl (B.2.1 0, 25, .inl (nF gc)) := (congrFun ea2 _).trans ((va_up_ne _ _ (by omega)).trans hc)
            have hu : cta2 9 = .inl (B.2.1 0, 160, .inl (nF gu2)) := by rw [ea2, va_up_self]
            have hv : cta2 12 = .inl (B.2.1 0, 25, .inl (nF v)) := (congrFun ea2 _).trans ((va_up_ne _ _ (by omega)).trans hv)
            have hk : cta2 16 = .inl (B.2.1 2, 500000, .inl fk1) := (congrFun ea2 _).trans ((va_up_ne _ _ (by omega)).trans hk)
            have ha : cta2 17 = .inl (B.2.1 2, 20000, .inl (va_up fa i (cmpI (nv gwt 0) (nv gs 0)))) := (congrFun ea2 _).trans ((va_up_ne _ _ (by omega)).trans ha)
            have hw : cta2 19 = .inl (B.2.1 0, 40, .inl (nF gwt)) := (congrFun ea2 _).trans ((va_up_ne _ _ (by omega)).trans hw)
            have hs : cta2 20 = .inl (B.2.1 0, 40, .inl (nF gs)) := (congrFun ea2 _).trans ((va_up_ne _ _ (by omega)).trans hs)
            have V0 : nv gu2 0 = nv gu 0 + (if (nv gwt 0) ≤ (nv gs 0) then (nv gwt 0) else 0) := (nv_out hou2 (by decide)).trans V0
            have V40 : nv gu2 40 = nv gu 40 + (if v 0 ≤ gc 0 then (nv gwt 0) else 0) := hva2.trans (by rw [V40, if_pos hcd2])
            have V80 : nv gu2 80 = nv gu 80 := (nv_out hou2 (by decide)).trans V80
            have V120 : nv gu2 120 = nv gu 120 := (nv_out hou2 (by decide)).trans V120
            have hok : ∀ t, t < 4 → okN gu2 (40 * t) := fun t ht => by by_cases q : t = 1; (subst q; exact hoka2); (exact ok_out hou2 (by omega) (hok t ht))
            refine g_aload_n fx 1 dX12_keepCase_107 rfl ?_
            refine g_get (r := 0) fx lkX12_49 (by omega) h0 rfl dX12_keepCase_108 ?_
            refine g_iconst (v := nI 0) fx dX12_keepCase_111 (by decide +kernel) ?_
            refine g_iald (r := 12) (j := 0) fx (by omega) hv (nI_toInt (by omega)) (by omega) dX12_keepCase_112 ?_
            refine g_isi (y := nI (v 0)) rfl ?_
            refine g_aload_n fx 1 dX12_keepCase_113 rfl ?_
            refine g_get (r := 0) fx lkX12_22 (by omega) h0 rfl dX12_keepCase_114 ?_
            refine g_iconst (v := nI 0) fx dX12_keepCase_117 (by decide +kernel) ?_
            refine g_iald (r := 5) (j := 0) fx (by omega) hc (nI_toInt (by omega)) (by omega) dX12_keepCase_118 ?_
            refine g_isi (y := nI (gc 0)) rfl ?_
            refine g_icmp_lt fx 136 dX12_keepCase_119 (by decide) (fun c119 => ?_) (fun c119 => ?_)
            · skip
              have hcd3 : ¬ (gc 0 ≤ v 0) := Nat.not_le.mpr ((nI_ltI (by omega) (by omega)).mp c119)
              have V80 : nv gu2 80 = nv gu 80 + (if gc 0 ≤ v 0 then (nv gwt 0) else 0) := V80.trans (by rw [if_neg hcd3, Nat.add_zero])
              refine g_vret fx rt dX12_keepCase_136 ?_
              exact gPv.mk ⟨fk1, _, hk, ha, hu, he, hb, hok, ⟨V0, V40, V80, V120⟩, hfr⟩
            · skip
              have hcd3 : gc 0 ≤ v 0 := Nat.le_of_not_lt (fun q => c119 ((nI_ltI (by omega) (by omega)).mpr q))
              refine g_aload_n fx 1 dX12_keepCase_122 rfl ?_
              refine g_get (r := 0) fx lkX12_38 (by omega) h0 rfl dX12_keepCase_123 ?_
              refine g_bipush (v := nI 80) fx dX12_keepCase_126 (by decide +kernel) ?_
              refine g_aload_n fx 1 dX12_keepCase_128 rfl ?_
              refine g_get (r := 0) fx lkX12_72 (by omega) h0 rfl dX12_keepCase_129 ?_
              refine g_iconst (v := nI 0) fx dX12_keepCase_132 (by decide +kernel) ?_
              refine g_callSv (As := [.ref (ad 9), .int (nI 80), .ref (ad 19), .int (nI 0)]) (rest := []) fx slX12_247 (c_X12_add B ad cta2 n 9 80 160 gu2 (by omega) (by decide) (by decide) hu 19 0 40 gwt (by omega) (by decide) (by decide) hw (by decide) (hok 2 (by decide)) hokw (by rw [V80]; exact ho3)) rfl rfl (Nat.le_of_ble_eq_true rfl) ⟨by decide, by decide⟩ ⟨by decide, by decide⟩ dX12_keepCase_133 (fun cta3 hza3 => ?_)
              obtain ⟨gu3, ea3, hou3, hoka3, hva3⟩ := hza3
              have hfr : ∀ r, r ≠ 9 → r ≠ 16 → r ≠ 17 → cta3 r = ct r := fun r _ _ _ => (congrFun ea3 r).trans ((va_up_ne _ _ (by assumption)).trans (hfr r (by assumption) (by assumption) (by assumption)))
              have h0 : cta3 0 = mObj ad f := (congrFun ea3 _).trans ((va_up_ne _ _ (by omega)).trans h0)
              have hc : cta3 5 = .inl (B.2.1 0, 25, .inl (nF gc)) := (congrFun ea3 _).trans ((va_up_ne _ _ (by omega)).trans hc)
              have hu : cta3 9 = .inl (B.2.1 0, 160, .inl (nF gu3)) := by rw [ea3, va_up_self]
              have hv : cta3 12 = .inl (B.2.1 0, 25, .inl (nF v)) := (congrFun ea3 _).trans ((va_up_ne _ _ (by omega)).trans hv)
              have hk : cta3 16 = .inl (B.2.1 2, 500000, .inl fk1) := (congrFun ea3 _).trans ((va_up_ne _ _ (by omega)).trans hk)
              have ha : cta3 17 = .inl (B.2.1 2, 20000, .inl (va_up fa i (cmpI (nv gwt 0) (nv gs 0)))) := (congrFun ea3 _).trans ((va_up_ne _ _ (by omega)).trans ha)
              have hw : cta3 19 = .inl (B.2.1 0, 40, .inl (nF gwt)) := (congrFun ea3 _).trans ((va_up_ne _ _ (by omega)).trans hw)
              have hs : cta3 20 = .inl (B.2.1 0, 40, .inl (nF gs)) := (congrFun ea3 _).trans ((va_up_ne _ _ (by omega)).trans hs)
              have V0 : nv gu3 0 = nv gu 0 + (if (nv gwt 0) ≤ (nv gs 0) then (nv gwt 0) else 0) := (nv_out hou3 (by decide)).trans V0
              have V40 : nv gu3 40 = nv gu 40 + (if v 0 ≤ gc 0 then (nv gwt 0) else 0) := (nv_out hou3 (by decide)).trans V40
              have V80 : nv gu3 80 = nv gu 80 + (if gc 0 ≤ v 0 then (nv gwt 0) else 0) := hva3.trans (by rw [V80, if_pos hcd3])
              have V120 : nv gu3 120 = nv gu 120 := (nv_out hou3 (by decide)).trans V120
              have hok : ∀ t, t < 4 → okN gu3 (40 * t) := fun t ht => by by_cases q : t = 2; (subst q; exact hoka3); (exact ok_out hou3 (by omega) (hok t ht))
              refine g_vret fx rt dX12_keepCase_136 ?_
              exact gPv.mk ⟨fk1, _, hk, ha, hu, he, hb, hok, ⟨V0, V40, V80, V120⟩, hfr⟩
      · skip
        have hlt2 : k < C * R := by have := (nI_ltI (by omega) (by omega)).mp (Int32.not_le.mp c12); omega
        have hvk := hv60 k hlt2
        refine g_aload_n fx 0 dX12_keepCase_15 rfl ?_
        refine g_get (r := 0) fx lkX12_62 (by omega) h0 rfl dX12_keepCase_16 ?_
        refine g_bipush (v := nI 25) fx dX12_keepCase_19 (by decide +kernel) ?_
        refine g_iload_n fx 1 dX12_keepCase_21 rfl ?_
        refine g_imulN fx dX12_keepCase_22 ?_
        refine g_iload_n fx 2 dX12_keepCase_23 rfl ?_
        refine g_iaddN fx dX12_keepCase_24 ?_
        refine g_aload_n fx 0 dX12_keepCase_25 rfl ?_
        refine g_get (r := 0) fx lkX12_49 (by omega) h0 rfl dX12_keepCase_26 ?_
        refine g_iload_n fx 2 dX12_keepCase_29 rfl ?_
        refine g_iald (r := 12) (j := k) fx (by omega) hv (nI_toInt (by omega)) (by omega) dX12_keepCase_30 ?_
        refine g_isi (y := nI (v k)) rfl ?_
        refine g_i2b fx dX12_keepCase_31 ?_
        refine g_isi (y := nI (v k)) (b_small (v k) (by omega)).1 ?_
        refine g_bast (r := 16) (j := (25 * i + k)) fx (by omega) hk (nI_toInt (by omega)) (by omega) (b_small (v k) (by omega)).2 dX12_keepCase_32 (fun cu3 ecu3 => ?_)
        have hfr : ∀ r, r ≠ 9 → r ≠ 16 → r ≠ 17 → cu3 r = ct r := fun r _ _ _ => (congrFun ecu3 r).trans ((va_up_ne _ _ (by assumption)).trans (hfr r (by assumption) (by assumption) (by assumption)))
        have h0 : cu3 0 = mObj ad f := (congrFun ecu3 _).trans ((va_up_ne _ _ (by omega)).trans h0)
        have hc : cu3 5 = .inl (B.2.1 0, 25, .inl (nF gc)) := (congrFun ecu3 _).trans ((va_up_ne _ _ (by omega)).trans hc)
        have hu : cu3 9 = .inl (B.2.1 0, 160, .inl (nF gu)) := (congrFun ecu3 _).trans ((va_up_ne _ _ (by omega)).trans hu)
        have hv : cu3 12 = .inl (B.2.1 0, 25, .inl (nF v)) := (congrFun ecu3 _).trans ((va_up_ne _ _ (by omega)).trans hv)
        have hk : cu3 16 = .inl (B.2.1 2, 500000, .inl (va_up fk1 (25 * i + k) (nI (v k)))) := by rw [ecu3, va_up_self]
        have ha : cu3 17 = .inl (B.2.1 2, 20000, .inl fa) := (congrFun ecu3 _).trans ((va_up_ne _ _ (by omega)).trans ha)
        have hw : cu3 19 = .inl (B.2.1 0, 40, .inl (nF gwt)) := (congrFun ecu3 _).trans ((va_up_ne _ _ (by omega)).trans hw)
        have hs : cu3 20 = .inl (B.2.1 0, 40, .inl (nF gs)) := (congrFun ecu3 _).trans ((va_up_ne _ _ (by omega)).trans hs)
        refine g_iinc (L' := [(2, .int (nI (k + 1))), (0, .ref (ad 0)), (1, .int (nI i))]) fx (nI (k + 1)) 2 dX12_keepCase_33 rfl (gInc _) (by decide) rfl ?_
        refine g_goto fx 2 dX12_keepCase_36 (by decide) ?_
        refine g_locals (L' := [(0, .ref (ad 0)), (1, .int (nI i)), (2, .int (nI (k + 1)))]) [1, 2, 0] rfl ?_
        exact ih (k + 1) _ _ hlt2 (fun j hj => by by_cases q : j = k; (rw [q, va_up_self]); (rw [va_up_ne _ _ (by omega)]; exact he j (by omega))) (fun j hj => by rw [va_up_ne _ _ (by omega)]; exact hb j hj) h0 hc hu hv hk ha hw hs hfr (by omega)
  refine g_locals (L' := [(0, .ref (ad 0)), (1, .int (nI i)), (2, .int (nI 0))]) [1, 2, 0] rfl ?_
  exact LP2 (C * R + 1) 0 ct fk (by omega) (fun j hj => absurd hj (by omega)) (fun _ _ => rfl) h0 hc hu hv hk ha hw hs hfr (by omega)
