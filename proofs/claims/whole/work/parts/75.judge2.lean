theorem neg_toInt {x : Int32} {a : Int} (h : x.toInt = a) (hb : a.natAbs < 2 ^ 31) : (-x).toInt = -a := by
  rw [Int32.toInt_neg, h]
  exact Int.bmod_eq_of_le (by omega) (by omega)
theorem fcS_0 {tm mid st bs : Int} {gb : Nat → Nat} {S : Nat} : fcS tm mid st bs gb S 0 = sumF (fcF tm mid st bs gb) S := if_pos rfl
theorem fcS_1 {tm mid st bs : Int} {gb : Nat → Nat} {S : Nat} : fcS tm mid st bs gb S 1 = sumF (fcL st bs gb) S := by unfold fcS; rw [if_neg (by decide), if_pos rfl]
theorem fcS_2 {tm mid st bs : Int} {gb : Nat → Nat} {S : Nat} : fcS tm mid st bs gb S 2 = sumF (fcH st bs gb) S := by unfold fcS; rw [if_neg (by decide), if_neg (by decide), if_pos rfl]
theorem fcS_3 {tm mid st bs : Int} {gb : Nat → Nat} {S : Nat} : fcS tm mid st bs gb S 3 = sumF (fcJ st bs gb) S := by unfold fcS; rw [if_neg (by decide), if_neg (by decide), if_neg (by decide)]
theorem four {P : Nat → Prop} (h0 : P 0) (h1 : P 1) (h2 : P 2) (h3 : P 3) : ∀ t, t < 4 → P t := fun t ht => by
  have : t = 0 ∨ t = 1 ∨ t = 2 ∨ t = 3 := by omega
  rcases this with rfl | rfl | rfl | rfl <;> assumption
theorem mirr {tm mid st : Int} {MB SB : Nat} (ht : 0 < tm) (hm : mid.natAbs ≤ tm.natAbs * MB) (hs : st.natAbs ≤ SB) : ((tm * st - mid - mid) / tm).natAbs ≤ 2 * MB + SB ∧ ((mid - (tm * st - mid)) / tm).natAbs ≤ 2 * MB + SB := by
  have h1 : (mid.natAbs : Int) ≤ tm * MB := by
    have : (mid.natAbs : Int) ≤ ((tm.natAbs * MB : Nat) : Int) := by omega
    rw [Int.natCast_mul] at this
    rw [show (tm.natAbs : Int) = tm by omega] at this
    exact this
  have h2 : tm * st ≤ tm * SB := Int.mul_le_mul_of_nonneg_left (by omega) (by omega)
  have h3 : tm * -(SB : Int) ≤ tm * st := Int.mul_le_mul_of_nonneg_left (by omega) (by omega)
  rw [Int.mul_neg] at h3
  have e1 : ((2 * MB + SB : Nat) : Int) * tm = 2 * (tm * MB) + tm * SB := by
    rw [Int.natCast_add, Int.natCast_mul, Int.add_mul, Int.mul_comm (SB : Int), Int.mul_assoc, Int.mul_comm (MB : Int)]; rfl
  have bd : ∀ x : Int, x ≤ 2 * (tm * MB) + tm * SB → -(2 * (tm * MB) + tm * SB) ≤ x → (x / tm).natAbs ≤ 2 * MB + SB := fun x h4 h5 => by
    have h6 : x / tm ≤ ((2 * MB + SB : Nat) : Int) := by
      have := Int.ediv_le_ediv ht (show x ≤ ((2 * MB + SB : Nat) : Int) * tm by omega)
      rw [Int.mul_ediv_cancel _ (by omega)] at this
      exact this
    have h7 : -((2 * MB + SB : Nat) : Int) ≤ x / tm := by
      refine (Int.le_ediv_iff_mul_le ht).mpr ?_
      rw [Int.neg_mul]; omega
    omega
  exact ⟨bd _ (by omega) (by omega), bd _ (by omega) (by omega)⟩
set_option maxHeartbeats 4000000 in
set_option maxRecDepth 100000 in
theorem c_X11_judge (B : gB) (ad : Nat → Nat) (ct : Nat → va_E) (n : Nat) (hx : ct 0 = .inr (11, [.ref (ad 1), .ref (ad 3), .ref (ad 5), .ref (ad 7), .ref (ad 9), .ref (ad 11), .ref (ad 79), .ref (ad 81), .ref (ad 88), .ref (ad 110), .ref (ad 115)])) (nx mk off : Int32) (ahN : Nat) (gb : Nat → Nat) (S : Nat) (hso : ct 81 = .inr (8, [.ref (ad 82), .ref (ad 85), .int nx, .int mk, .int off, .long (lN ahN), .long (lN (sumF gb S))])) (a : Nat → Nat) (m N1 N2 : Nat) (hSS : SS B ad ct a m N1 N2) (hn : 178 ≤ n) (hm : m ≤ 30) (ha : ∀ j, j < m → a j ≤ 200000) (th te sta ask : Int32) (hr : ct 88 = .inr (6, [.ref (ad 89), .int th, .int te, .int sta, .int ask])) (hrr : ct 89 = .inl (B.2.1 4, 4, .inr (.inr (.inr (.inr (fun i => some (ad (90 + 5 * i)))))))) (hFr : ∀ t, t < 4 → ∃ u l, isFr B ad ct (90 + 5 * t) u l) (x y : Int32) (st mid bs o : Int) (tm MB SB : Nat) (hst : x.toInt = st) (hmid : y.toInt = mid) (hoff : off.toInt = o) (hob : o.natAbs ≤ 5000000) (htm : 0 < tm) (htm2 : tm ≤ 30) (hmb : mid.natAbs ≤ tm * MB) (hsb : st.natAbs ≤ SB) (hMB : MB ≤ 100000) (hSB : SB ≤ 100000) (hA0 : 0 < (sumF gb S)) (hA1 : (sumF gb S) < 4611686018427387904) (hSm : Sm (sumF gb S)) (hup : ∀ v : Int, v.natAbs ≤ 2 * MB + SB + 2 → upC (ev a) (od a) ((m + 1) / 2) (m / 2) (o + v) = sumF (fcL v bs gb) S + ahN) (hex : ∀ v : Int, v.natAbs ≤ 2 * MB + SB + 2 → exC (ev a) (od a) ((m + 1) / 2) (m / 2) (o + v) = sumF (fcJ v bs gb) S) : Ctr B yX11_judge cX11_judge 16 none 5 115 0 0 ad ct n [.ref (ad 0), .int x, .int y, .int (nI tm)] (gPv ad n (fun ct' => (∀ t, t < 4 → isFr B ad ct' (90 + 5 * t) (fcS (tm : Int) mid st bs gb S t / Nat.gcd (fcS (tm : Int) mid st bs gb S t) (sumF gb S)) ((sumF gb S) / Nat.gcd (fcS (tm : Int) mid st bs gb S t) (sumF gb S))) ∧ ∀ r, r < 90 ∨ 109 < r → ct' r = ct r)) := by
  have hfr : ∀ r, r < 90 ∨ 109 < r → ct r = ct r := fun _ _ => rfl
  have hLA : (sumF (fcL st bs gb) S) ≤ (sumF gb S) := fc_le S (fun k => by unfold fcL; split <;> omega)
  have hJA : (sumF (fcJ st bs gb) S) ≤ (sumF gb S) := fc_le S (fun k => by unfold fcJ; split <;> omega)
  have hHA : (sumF (fcH st bs gb) S) ≤ (sumF gb S) := fc_le S (fun k => by unfold fcH; split <;> omega)
  have hFA : (sumF (fcF (tm : Int) mid st bs gb) S) ≤ (sumF gb S) := fc_le S (fun k => by unfold fcF; split <;> omega)
  have hhi := jm_high (st := st) (bs := bs) (gb := gb) S
  have htp : (0 : Int) < (tm : Int) := by omega
  have hmr := mirr (tm := (tm : Int)) (mid := mid) (st := st) (MB := MB) (SB := SB) htp (by rw [Int.natAbs_natCast]; exact hmb) hsb
  have hts : ((tm : Int) * st).natAbs ≤ 30 * 100000 := by rw [Int.natAbs_mul, Int.natAbs_natCast]; exact Nat.mul_le_mul htm2 (by omega)
  have hmb2 : mid.natAbs ≤ 30 * 100000 := Nat.le_trans hmb (Nat.mul_le_mul htm2 hMB)
  have hn1 : (nI 1).toInt = 1 := by decide
  refine Ctr.ofG (L := [(0, .ref (ad 0)), (1, .int x), (2, .int y), (3, .int (nI tm))]) (by decide +kernel) rfl (Nat.le_of_ble_eq_true rfl) (fun E fx rt hnm => ?_)
  refine g_aload_n fx 0 dX11_judge_0 rfl ?_
  refine g_get (r := 0) fx lkX11_51 (by omega) hx rfl dX11_judge_1 ?_
  refine g_callVlp (As := []) (rest := []) fx slX11_306 (c_X8_countAll B ad ct n nx mk off (lN ahN) (lN (sumF gb S)) hso hn) (by omega) hso rfl rfl rfl (Nat.le_of_ble_eq_true rfl) ⟨by decide, by decide⟩ ⟨by decide, by decide⟩ dX11_judge_4 (fun q1 hq1 => ?_)
  obtain rfl := hq1
  refine g_lstore (L' := [(4, .long (lN (sumF gb S))), (0, .ref (ad 0)), (1, .int x), (2, .int y), (3, .int (nI tm))]) fx dX11_judge_7 (by decide) rfl ?_
  refine g_aload_n fx 1 dX11_judge_9 rfl ?_
  refine g_get (r := 0) fx lkX11_51 (by omega) hx rfl dX11_judge_10 ?_
  refine g_iload_n fx 2 dX11_judge_13 rfl ?_
  refine g_callVlp (As := [.int x]) (rest := []) fx slX11_310 (c_X8_upTo B ad ct n nx mk off (lN ahN) (lN (sumF gb S)) hso a m N1 N2 hSS hn hm ha x (o + st) (add_toInt hoff hst (by omega)) (by omega)) (by omega) hso rfl rfl rfl (Nat.le_of_ble_eq_true rfl) ⟨by decide, by decide⟩ ⟨by decide, by decide⟩ dX11_judge_14 (fun q2 hq2 => ?_)
  rw [hup st (by omega), lN_sub (by omega), Nat.add_sub_cancel] at hq2
  obtain rfl := hq2
  refine g_lstore (L' := [(6, .long (lN (sumF (fcL st bs gb) S))), (4, .long (lN (sumF gb S))), (0, .ref (ad 0)), (1, .int x), (2, .int y), (3, .int (nI tm))]) fx dX11_judge_17 (by decide) rfl ?_
  refine g_aload_n fx 2 dX11_judge_19 rfl ?_
  refine g_get (r := 0) fx lkX11_51 (by omega) hx rfl dX11_judge_20 ?_
  refine g_iload_n fx 3 dX11_judge_23 rfl ?_
  refine g_callVlp (As := [.int x]) (rest := []) fx slX11_270 (c_X8_exactly B ad ct n nx mk off (lN ahN) (lN (sumF gb S)) hso a m N1 N2 hSS hn hm ha x (o + st) (add_toInt hoff hst (by omega)) (by omega)) (by omega) hso rfl rfl rfl (Nat.le_of_ble_eq_true rfl) ⟨by decide, by decide⟩ ⟨by decide, by decide⟩ dX11_judge_24 (fun q3 hq3 => ?_)
  rw [hex st (by omega)] at hq3
  obtain rfl := hq3
  refine g_lstore (L' := [(8, .long (lN (sumF (fcJ st bs gb) S))), (6, .long (lN (sumF (fcL st bs gb) S))), (4, .long (lN (sumF gb S))), (0, .ref (ad 0)), (1, .int x), (2, .int y), (3, .int (nI tm))]) fx dX11_judge_27 (by decide) rfl ?_
  refine g_lload fx 2 dX11_judge_29 rfl ?_
  refine g_lload fx 1 dX11_judge_31 rfl ?_
  refine g_lsub fx dX11_judge_33 ?_
  refine g_isl (y := lN ((sumF gb S) - (sumF (fcL st bs gb) S))) (lN_sub hLA) ?_
  refine g_lload fx 0 dX11_judge_34 rfl ?_
  refine g_ladd fx dX11_judge_36 ?_
  refine g_isl (y := lN (sumF (fcH st bs gb) S)) (by rw [lN_add, show (sumF gb S) - (sumF (fcL st bs gb) S) + (sumF (fcJ st bs gb) S) = (sumF (fcH st bs gb) S) by omega]) ?_
  refine g_lstore (L' := [(10, .long (lN (sumF (fcH st bs gb) S))), (8, .long (lN (sumF (fcJ st bs gb) S))), (6, .long (lN (sumF (fcL st bs gb) S))), (4, .long (lN (sumF gb S))), (0, .ref (ad 0)), (1, .int x), (2, .int y), (3, .int (nI tm))]) fx dX11_judge_37 (by decide) rfl ?_
  refine g_aload_n fx 4 dX11_judge_39 rfl ?_
  refine g_get (r := 0) fx lkX11_58 (by omega) hx rfl dX11_judge_40 ?_
  refine g_iconst (v := nI 1) fx dX11_judge_43 (by decide +kernel) ?_
  refine g_callVrp (As := [.int (nI 1)]) (rest := []) fx slX11_142 (c_X6_chance B ad ct n th te sta ask hn hr hrr 1 (by decide)) (by omega) hr rfl rfl rfl (Nat.le_of_ble_eq_true rfl) ⟨by decide, by decide⟩ ⟨by decide, by decide⟩ dX11_judge_44 (fun w1 hw1 => ?_)
  have hw1 : w1 = ad 95 := hw1
  obtain rfl := hw1
  refine g_lload fx 2 dX11_judge_47 rfl ?_
  refine g_lload fx 3 dX11_judge_49 rfl ?_
  obtain ⟨u1, l1, hq21⟩ := hFr 1 (by decide)
  refine g_callVv (As := [.long (lN (sumF (fcL st bs gb) S)), .long (lN (sumF gb S))]) (rest := []) fx slX11_313 (c_X2_setLongs B ad ct n 95 u1 l1 (by omega) hq21.1 hq21.2.1 hq21.2.2 (sumF (fcL st bs gb) S) (sumF gb S) (by omega) (by omega) hA0 hSm) (by omega) hq21.1 rfl rfl rfl (Nat.le_of_ble_eq_true rfl) ⟨by decide, by decide⟩ ⟨by decide, by decide⟩ dX11_judge_51 (fun ct4 hz4 => ?_)
  obtain ⟨hf1, hs4⟩ := hz4
  have hx : ct4 0 = .inr (11, [.ref (ad 1), .ref (ad 3), .ref (ad 5), .ref (ad 7), .ref (ad 9), .ref (ad 11), .ref (ad 79), .ref (ad 81), .ref (ad 88), .ref (ad 110), .ref (ad 115)]) := (hs4 0 (by omega)).trans hx
  have hso : ct4 81 = .inr (8, [.ref (ad 82), .ref (ad 85), .int nx, .int mk, .int off, .long (lN ahN), .long (lN (sumF gb S))]) := (hs4 81 (by omega)).trans hso
  have hr : ct4 88 = .inr (6, [.ref (ad 89), .int th, .int te, .int sta, .int ask]) := (hs4 88 (by omega)).trans hr
  have hrr : ct4 89 = .inl (B.2.1 4, 4, .inr (.inr (.inr (.inr (fun i => some (ad (90 + 5 * i))))))) := (hs4 89 (by omega)).trans hrr
  have hSS := hSS.move (ct' := ct4) (fun _ _ _ => rfl) (fun r h1 h2 => hs4 r (by omega))
  have hFr : ∀ t, t < 4 → ∃ u l, isFr B ad ct4 (90 + 5 * t) u l := fun t ht => by
    by_cases q : t = 1
    · rw [q]; exact ⟨_, _, hf1⟩
    · obtain ⟨u, l, h⟩ := hFr t ht
      exact ⟨u, l, h.other (fun r h1 h2 => hs4 r (by omega))⟩
  have hfr : ∀ r, r < 90 ∨ 109 < r → ct4 r = ct r := fun r h => (hs4 r (by omega)).trans (hfr r h)
  refine g_aload_n fx 4 dX11_judge_54 rfl ?_
  refine g_get (r := 0) fx lkX11_58 (by omega) hx rfl dX11_judge_55 ?_
  refine g_iconst (v := nI 2) fx dX11_judge_58 (by decide +kernel) ?_
  refine g_callVrp (As := [.int (nI 2)]) (rest := []) fx slX11_142 (c_X6_chance B ad ct4 n th te sta ask hn hr hrr 2 (by decide)) (by omega) hr rfl rfl rfl (Nat.le_of_ble_eq_true rfl) ⟨by decide, by decide⟩ ⟨by decide, by decide⟩ dX11_judge_59 (fun w2 hw2 => ?_)
  have hw2 : w2 = ad 100 := hw2
  obtain rfl := hw2
  refine g_lload fx 0 dX11_judge_62 rfl ?_
  refine g_lload fx 3 dX11_judge_64 rfl ?_
  obtain ⟨u2, l2, hq22⟩ := hFr 2 (by decide)
  refine g_callVv (As := [.long (lN (sumF (fcH st bs gb) S)), .long (lN (sumF gb S))]) (rest := []) fx slX11_313 (c_X2_setLongs B ad ct4 n 100 u2 l2 (by omega) hq22.1 hq22.2.1 hq22.2.2 (sumF (fcH st bs gb) S) (sumF gb S) (by omega) (by omega) hA0 hSm) (by omega) hq22.1 rfl rfl rfl (Nat.le_of_ble_eq_true rfl) ⟨by decide, by decide⟩ ⟨by decide, by decide⟩ dX11_judge_66 (fun ct5 hz5 => ?_)
  obtain ⟨hf2, hs5⟩ := hz5
  have hx : ct5 0 = .inr (11, [.ref (ad 1), .ref (ad 3), .ref (ad 5), .ref (ad 7), .ref (ad 9), .ref (ad 11), .ref (ad 79), .ref (ad 81), .ref (ad 88), .ref (ad 110), .ref (ad 115)]) := (hs5 0 (by omega)).trans hx
  have hso : ct5 81 = .inr (8, [.ref (ad 82), .ref (ad 85), .int nx, .int mk, .int off, .long (lN ahN), .long (lN (sumF gb S))]) := (hs5 81 (by omega)).trans hso
  have hr : ct5 88 = .inr (6, [.ref (ad 89), .int th, .int te, .int sta, .int ask]) := (hs5 88 (by omega)).trans hr
  have hrr : ct5 89 = .inl (B.2.1 4, 4, .inr (.inr (.inr (.inr (fun i => some (ad (90 + 5 * i))))))) := (hs5 89 (by omega)).trans hrr
  have hf1 := hf1.other (fun r h1 h2 => hs5 r (by omega))
  have hSS := hSS.move (ct' := ct5) (fun _ _ _ => rfl) (fun r h1 h2 => hs5 r (by omega))
  have hFr : ∀ t, t < 4 → ∃ u l, isFr B ad ct5 (90 + 5 * t) u l := fun t ht => by
    by_cases q : t = 2
    · rw [q]; exact ⟨_, _, hf2⟩
    · obtain ⟨u, l, h⟩ := hFr t ht
      exact ⟨u, l, h.other (fun r h1 h2 => hs5 r (by omega))⟩
  have hfr : ∀ r, r < 90 ∨ 109 < r → ct5 r = ct r := fun r h => (hs5 r (by omega)).trans (hfr r h)
  refine g_aload_n fx 4 dX11_judge_69 rfl ?_
  refine g_get (r := 0) fx lkX11_58 (by omega) hx rfl dX11_judge_70 ?_
  refine g_iconst (v := nI 3) fx dX11_judge_73 (by decide +kernel) ?_
  refine g_callVrp (As := [.int (nI 3)]) (rest := []) fx slX11_142 (c_X6_chance B ad ct5 n th te sta ask hn hr hrr 3 (by decide)) (by omega) hr rfl rfl rfl (Nat.le_of_ble_eq_true rfl) ⟨by decide, by decide⟩ ⟨by decide, by decide⟩ dX11_judge_74 (fun w3 hw3 => ?_)
  have hw3 : w3 = ad 105 := hw3
  obtain rfl := hw3
  refine g_lload fx 1 dX11_judge_77 rfl ?_
  refine g_lload fx 3 dX11_judge_79 rfl ?_
  obtain ⟨u3, l3, hq23⟩ := hFr 3 (by decide)
  refine g_callVv (As := [.long (lN (sumF (fcJ st bs gb) S)), .long (lN (sumF gb S))]) (rest := []) fx slX11_313 (c_X2_setLongs B ad ct5 n 105 u3 l3 (by omega) hq23.1 hq23.2.1 hq23.2.2 (sumF (fcJ st bs gb) S) (sumF gb S) (by omega) (by omega) hA0 hSm) (by omega) hq23.1 rfl rfl rfl (Nat.le_of_ble_eq_true rfl) ⟨by decide, by decide⟩ ⟨by decide, by decide⟩ dX11_judge_81 (fun ct6 hz6 => ?_)
  obtain ⟨hf3, hs6⟩ := hz6
  have hx : ct6 0 = .inr (11, [.ref (ad 1), .ref (ad 3), .ref (ad 5), .ref (ad 7), .ref (ad 9), .ref (ad 11), .ref (ad 79), .ref (ad 81), .ref (ad 88), .ref (ad 110), .ref (ad 115)]) := (hs6 0 (by omega)).trans hx
  have hso : ct6 81 = .inr (8, [.ref (ad 82), .ref (ad 85), .int nx, .int mk, .int off, .long (lN ahN), .long (lN (sumF gb S))]) := (hs6 81 (by omega)).trans hso
  have hr : ct6 88 = .inr (6, [.ref (ad 89), .int th, .int te, .int sta, .int ask]) := (hs6 88 (by omega)).trans hr
  have hrr : ct6 89 = .inl (B.2.1 4, 4, .inr (.inr (.inr (.inr (fun i => some (ad (90 + 5 * i))))))) := (hs6 89 (by omega)).trans hrr
  have hf1 := hf1.other (fun r h1 h2 => hs6 r (by omega))
  have hf2 := hf2.other (fun r h1 h2 => hs6 r (by omega))
  have hSS := hSS.move (ct' := ct6) (fun _ _ _ => rfl) (fun r h1 h2 => hs6 r (by omega))
  have hFr : ∀ t, t < 4 → ∃ u l, isFr B ad ct6 (90 + 5 * t) u l := fun t ht => by
    by_cases q : t = 3
    · rw [q]; exact ⟨_, _, hf3⟩
    · obtain ⟨u, l, h⟩ := hFr t ht
      exact ⟨u, l, h.other (fun r h1 h2 => hs6 r (by omega))⟩
  have hfr : ∀ r, r < 90 ∨ 109 < r → ct6 r = ct r := fun r h => (hs6 r (by omega)).trans (hfr r h)
  refine g_iload_n fx 7 dX11_judge_84 rfl ?_
  refine g_iload_n fx 5 dX11_judge_85 rfl ?_
  refine g_imul fx dX11_judge_86 ?_
  refine g_iload_n fx 6 dX11_judge_87 rfl ?_
  refine g_isub fx dX11_judge_88 ?_
  refine g_topi (fun gp egp => ?_)
  have hgp : gp.toInt = (tm : Int) * st - mid := by rw [egp]; exact sub_toInt (mul_toInt (nI_toInt (by omega)) hst (by omega)) hmid (by omega)
  refine g_istore (L' := [(12, .int gp), (10, .long (lN (sumF (fcH st bs gb) S))), (8, .long (lN (sumF (fcJ st bs gb) S))), (6, .long (lN (sumF (fcL st bs gb) S))), (4, .long (lN (sumF gb S))), (0, .ref (ad 0)), (1, .int x), (2, .int y), (3, .int (nI tm))]) fx dX11_judge_89 (by decide) rfl ?_
  refine g_lload fx 4 dX11_judge_91 rfl ?_
  refine g_lstore (L' := [(13, .long (lN (sumF gb S))), (12, .int gp), (10, .long (lN (sumF (fcH st bs gb) S))), (8, .long (lN (sumF (fcJ st bs gb) S))), (6, .long (lN (sumF (fcL st bs gb) S))), (4, .long (lN (sumF gb S))), (0, .ref (ad 0)), (1, .int x), (2, .int y), (3, .int (nI tm))]) fx dX11_judge_93 (by decide) rfl ?_
  refine g_iload fx 1 dX11_judge_95 rfl ?_
  refine g_if_ge fx 137 dX11_judge_97 (by decide) (fun c97 => ?_) (fun c97 => ?_)
  · skip
    have hge : 0 ≤ (tm : Int) * st - mid := by have := Int32.le_iff_toInt_le.mp c97; rw [hgp] at this; exact this
    refine g_iload fx 1 dX11_judge_137 rfl ?_
    refine g_if_le fx 170 dX11_judge_139 (by decide) (fun c139 => ?_) (fun c139 => ?_)
    · skip
      have h00 : (tm : Int) * st - mid = 0 := by have := Int32.le_iff_toInt_le.mp c139; rw [hgp] at this; have e0 : (0 : Int32).toInt = 0 := rfl; omega
      refine g_relocal (L' := [(13, .long (lN (sumF (fcF (tm : Int) mid st bs gb) S))), (12, .int gp), (10, .long (lN (sumF (fcH st bs gb) S))), (8, .long (lN (sumF (fcJ st bs gb) S))), (6, .long (lN (sumF (fcL st bs gb) S))), (4, .long (lN (sumF gb S))), (0, .ref (ad 0)), (1, .int x), (2, .int y), (3, .int (nI tm))]) (by rw [jm_0 S h00]) ?_
      refine g_aload_n fx 6 dX11_judge_170 rfl ?_
      refine g_get (r := 0) fx lkX11_58 (by omega) hx rfl dX11_judge_171 ?_
      refine g_iconst (v := nI 0) fx dX11_judge_174 (by decide +kernel) ?_
      refine g_callVrp (As := [.int (nI 0)]) (rest := []) fx slX11_142 (c_X6_chance B ad ct6 n th te sta ask hn hr hrr 0 (by decide)) (by omega) hr rfl rfl rfl (Nat.le_of_ble_eq_true rfl) ⟨by decide, by decide⟩ ⟨by decide, by decide⟩ dX11_judge_175 (fun w4 hw4 => ?_)
      have hw4 : w4 = ad 90 := hw4
      obtain rfl := hw4
      refine g_lload fx 0 dX11_judge_178 rfl ?_
      refine g_lload fx 5 dX11_judge_180 rfl ?_
      obtain ⟨u0, l0, hq20⟩ := hFr 0 (by decide)
      refine g_callVv (As := [.long (lN (sumF (fcF (tm : Int) mid st bs gb) S)), .long (lN (sumF gb S))]) (rest := []) fx slX11_313 (c_X2_setLongs B ad ct6 n 90 u0 l0 (by omega) hq20.1 hq20.2.1 hq20.2.2 (sumF (fcF (tm : Int) mid st bs gb) S) (sumF gb S) (by omega) (by omega) hA0 hSm) (by omega) hq20.1 rfl rfl rfl (Nat.le_of_ble_eq_true rfl) ⟨by decide, by decide⟩ ⟨by decide, by decide⟩ dX11_judge_182 (fun ct7 hz7 => ?_)
      obtain ⟨hf0, hs7⟩ := hz7
      have hx : ct7 0 = .inr (11, [.ref (ad 1), .ref (ad 3), .ref (ad 5), .ref (ad 7), .ref (ad 9), .ref (ad 11), .ref (ad 79), .ref (ad 81), .ref (ad 88), .ref (ad 110), .ref (ad 115)]) := (hs7 0 (by omega)).trans hx
      have hso : ct7 81 = .inr (8, [.ref (ad 82), .ref (ad 85), .int nx, .int mk, .int off, .long (lN ahN), .long (lN (sumF gb S))]) := (hs7 81 (by omega)).trans hso
      have hr : ct7 88 = .inr (6, [.ref (ad 89), .int th, .int te, .int sta, .int ask]) := (hs7 88 (by omega)).trans hr
      have hrr : ct7 89 = .inl (B.2.1 4, 4, .inr (.inr (.inr (.inr (fun i => some (ad (90 + 5 * i))))))) := (hs7 89 (by omega)).trans hrr
      have hf1 := hf1.other (fun r h1 h2 => hs7 r (by omega))
      have hf2 := hf2.other (fun r h1 h2 => hs7 r (by omega))
      have hf3 := hf3.other (fun r h1 h2 => hs7 r (by omega))
      have hSS := hSS.move (ct' := ct7) (fun _ _ _ => rfl) (fun r h1 h2 => hs7 r (by omega))
      have hFr : ∀ t, t < 4 → ∃ u l, isFr B ad ct7 (90 + 5 * t) u l := fun t ht => by
        by_cases q : t = 0
        · rw [q]; exact ⟨_, _, hf0⟩
        · obtain ⟨u, l, h⟩ := hFr t ht
          exact ⟨u, l, h.other (fun r h1 h2 => hs7 r (by omega))⟩
      have hfr : ∀ r, r < 90 ∨ 109 < r → ct7 r = ct r := fun r h => (hs7 r (by omega)).trans (hfr r h)
      refine g_vret fx rt dX11_judge_185 ?_
      exact gPv.mk ⟨four (by rw [fcS_0]; exact hf0) (by rw [fcS_1]; exact hf1) (by rw [fcS_2]; exact hf2) (by rw [fcS_3]; exact hf3), hfr⟩
    · skip
      have hgt : 0 < (tm : Int) * st - mid := by have := mt Int32.le_iff_toInt_le.mpr c139; rw [hgp] at this; have e0 : (0 : Int32).toInt = 0 := rfl; omega
      refine g_iload_n fx 9 dX11_judge_142 rfl ?_
      refine g_if_le fx 170 dX11_judge_143 (by decide) (fun c143 => ?_) (fun c143 => ?_)
      · exact absurd ((nI_leI (b := 0) (by omega) (by omega)).mp c143) (by omega)
      refine g_iload_n fx 8 dX11_judge_146 rfl ?_
      refine g_iload fx 1 dX11_judge_147 rfl ?_
      refine g_isub fx dX11_judge_149 ?_
      refine g_iload_n fx 9 dX11_judge_150 rfl ?_
      refine g_callSip (As := [.int (y - gp), .int (nI tm)]) (rest := []) fx slX11_317 (c_J9_floorDiv_7cf53 B ad ct6 n (y - gp) (nI tm) (fun e => by have := congrArg Int32.toInt e; rw [nI_toInt (by omega)] at this; have e0 : (0 : Int32).toInt = 0 := rfl; omega)) rfl rfl (Nat.le_of_ble_eq_true rfl) ⟨by decide, by decide⟩ ⟨by decide, by decide⟩ dX11_judge_151 (fun q9 hq9 => ?_)
      have hq9t := congrArg Int32.toInt hq9
      rw [fd_toInt htm (by omega), sub_toInt hmid hgp (by omega)] at hq9t
      refine g_istore (L' := [(15, .int q9), (13, .long (lN (sumF gb S))), (12, .int gp), (10, .long (lN (sumF (fcH st bs gb) S))), (8, .long (lN (sumF (fcJ st bs gb) S))), (6, .long (lN (sumF (fcL st bs gb) S))), (4, .long (lN (sumF gb S))), (0, .ref (ad 0)), (1, .int x), (2, .int y), (3, .int (nI tm))]) fx dX11_judge_154 (by decide) rfl ?_
      refine g_lload fx 3 dX11_judge_156 rfl ?_
      refine g_aload_n fx 7 dX11_judge_158 rfl ?_
      refine g_get (r := 0) fx lkX11_51 (by omega) hx rfl dX11_judge_159 ?_
      refine g_iload fx 0 dX11_judge_162 rfl ?_
      refine g_callVlp (As := [.int q9]) (rest := [.long (lN (sumF (fcH st bs gb) S))]) fx slX11_310 (c_X8_upTo B ad ct6 n nx mk off (lN ahN) (lN (sumF gb S)) hso a m N1 N2 hSS hn hm ha q9 (o + ((mid - ((tm : Int) * st - mid)) / (tm : Int))) (add_toInt hoff hq9t (by omega)) (by omega)) (by omega) hso rfl rfl rfl (Nat.le_of_ble_eq_true rfl) ⟨by decide, by decide⟩ ⟨by decide, by decide⟩ dX11_judge_164 (fun q10 hq10 => ?_)
      rw [hup _ (by omega), lN_sub (by omega), Nat.add_sub_cancel] at hq10
      obtain rfl := hq10
      have hjm := jm_pos (bs := bs) (gb := gb) S htp hgt
      refine g_ladd fx dX11_judge_167 ?_
      refine g_isl (y := lN (sumF (fcF (tm : Int) mid st bs gb) S)) (by rw [lN_add, hjm]) ?_
      refine g_lstore (L' := [(13, .long (lN (sumF (fcF (tm : Int) mid st bs gb) S))), (15, .int q9), (12, .int gp), (10, .long (lN (sumF (fcH st bs gb) S))), (8, .long (lN (sumF (fcJ st bs gb) S))), (6, .long (lN (sumF (fcL st bs gb) S))), (4, .long (lN (sumF gb S))), (0, .ref (ad 0)), (1, .int x), (2, .int y), (3, .int (nI tm))]) fx dX11_judge_168 (by decide) rfl ?_
      refine g_aload_n fx 7 dX11_judge_170 rfl ?_
      refine g_get (r := 0) fx lkX11_58 (by omega) hx rfl dX11_judge_171 ?_
      refine g_iconst (v := nI 0) fx dX11_judge_174 (by decide +kernel) ?_
      refine g_callVrp (As := [.int (nI 0)]) (rest := []) fx slX11_142 (c_X6_chance B ad ct6 n th te sta ask hn hr hrr 0 (by decide)) (by omega) hr rfl rfl rfl (Nat.le_of_ble_eq_true rfl) ⟨by decide, by decide⟩ ⟨by decide, by decide⟩ dX11_judge_175 (fun w4 hw4 => ?_)
      have hw4 : w4 = ad 90 := hw4
      obtain rfl := hw4
      refine g_lload fx 0 dX11_judge_178 rfl ?_
      refine g_lload fx 6 dX11_judge_180 rfl ?_
      obtain ⟨u0, l0, hq20⟩ := hFr 0 (by decide)
      refine g_callVv (As := [.long (lN (sumF (fcF (tm : Int) mid st bs gb) S)), .long (lN (sumF gb S))]) (rest := []) fx slX11_313 (c_X2_setLongs B ad ct6 n 90 u0 l0 (by omega) hq20.1 hq20.2.1 hq20.2.2 (sumF (fcF (tm : Int) mid st bs gb) S) (sumF gb S) (by omega) (by omega) hA0 hSm) (by omega) hq20.1 rfl rfl rfl (Nat.le_of_ble_eq_true rfl) ⟨by decide, by decide⟩ ⟨by decide, by decide⟩ dX11_judge_182 (fun ct7 hz7 => ?_)
      obtain ⟨hf0, hs7⟩ := hz7
      have hx : ct7 0 = .inr (11, [.ref (ad 1), .ref (ad 3), .ref (ad 5), .ref (ad 7), .ref (ad 9), .ref (ad 11), .ref (ad 79), .ref (ad 81), .ref (ad 88), .ref (ad 110), .ref (ad 115)]) := (hs7 0 (by omega)).trans hx
      have hso : ct7 81 = .inr (8, [.ref (ad 82), .ref (ad 85), .int nx, .int mk, .int off, .long (lN ahN), .long (lN (sumF gb S))]) := (hs7 81 (by omega)).trans hso
      have hr : ct7 88 = .inr (6, [.ref (ad 89), .int th, .int te, .int sta, .int ask]) := (hs7 88 (by omega)).trans hr
      have hrr : ct7 89 = .inl (B.2.1 4, 4, .inr (.inr (.inr (.inr (fun i => some (ad (90 + 5 * i))))))) := (hs7 89 (by omega)).trans hrr
      have hf1 := hf1.other (fun r h1 h2 => hs7 r (by omega))
      have hf2 := hf2.other (fun r h1 h2 => hs7 r (by omega))
      have hf3 := hf3.other (fun r h1 h2 => hs7 r (by omega))
      have hSS := hSS.move (ct' := ct7) (fun _ _ _ => rfl) (fun r h1 h2 => hs7 r (by omega))
      have hFr : ∀ t, t < 4 → ∃ u l, isFr B ad ct7 (90 + 5 * t) u l := fun t ht => by
        by_cases q : t = 0
        · rw [q]; exact ⟨_, _, hf0⟩
        · obtain ⟨u, l, h⟩ := hFr t ht
          exact ⟨u, l, h.other (fun r h1 h2 => hs7 r (by omega))⟩
      have hfr : ∀ r, r < 90 ∨ 109 < r → ct7 r = ct r := fun r h => (hs7 r (by omega)).trans (hfr r h)
      refine g_vret fx rt dX11_judge_185 ?_
      exact gPv.mk ⟨four (by rw [fcS_0]; exact hf0) (by rw [fcS_1]; exact hf1) (by rw [fcS_2]; exact hf2) (by rw [fcS_3]; exact hf3), hfr⟩
  · skip
    have hlt : (tm : Int) * st - mid < 0 := by have := mt Int32.le_iff_toInt_le.mpr c97; rw [hgp] at this; have e0 : (0 : Int32).toInt = 0 := rfl; omega
    refine g_iload_n fx 9 dX11_judge_100 rfl ?_
    refine g_if_le fx 137 dX11_judge_101 (by decide) (fun c101 => ?_) (fun c101 => ?_)
    · exact absurd ((nI_leI (b := 0) (by omega) (by omega)).mp c101) (by omega)
    refine g_iload fx 1 dX11_judge_104 rfl ?_
    refine g_iload_n fx 8 dX11_judge_106 rfl ?_
    refine g_isub fx dX11_judge_107 ?_
    refine g_iload_n fx 9 dX11_judge_108 rfl ?_
    refine g_callSip (As := [.int (gp - y), .int (nI tm)]) (rest := []) fx slX11_317 (c_J9_floorDiv_7cf53 B ad ct6 n (gp - y) (nI tm) (fun e => by have := congrArg Int32.toInt e; rw [nI_toInt (by omega)] at this; have e0 : (0 : Int32).toInt = 0 := rfl; omega)) rfl rfl (Nat.le_of_ble_eq_true rfl) ⟨by decide, by decide⟩ ⟨by decide, by decide⟩ dX11_judge_109 (fun q7 hq7 => ?_)
    have hq7t := congrArg Int32.toInt hq7
    rw [fd_toInt htm (by omega), sub_toInt hgp hmid (by omega)] at hq7t
    refine g_ineg fx dX11_judge_112 ?_
    refine g_topi (fun mi emi => ?_)
    have hmi : mi.toInt = -(((tm : Int) * st - mid - mid) / (tm : Int)) := by rw [emi]; exact neg_toInt hq7t (by omega)
    refine g_istore (L' := [(15, .int mi), (13, .long (lN (sumF gb S))), (12, .int gp), (10, .long (lN (sumF (fcH st bs gb) S))), (8, .long (lN (sumF (fcJ st bs gb) S))), (6, .long (lN (sumF (fcL st bs gb) S))), (4, .long (lN (sumF gb S))), (0, .ref (ad 0)), (1, .int x), (2, .int y), (3, .int (nI tm))]) fx dX11_judge_113 (by decide) rfl ?_
    refine g_lload fx 5 dX11_judge_115 rfl ?_
    refine g_lload fx 6 dX11_judge_117 rfl ?_
    refine g_ladd fx dX11_judge_119 ?_
    refine g_isl (y := lN ((sumF (fcL st bs gb) S) + (sumF gb S))) (lN_add _ _) ?_
    refine g_aload_n fx 7 dX11_judge_120 rfl ?_
    refine g_get (r := 0) fx lkX11_51 (by omega) hx rfl dX11_judge_121 ?_
    refine g_iload fx 0 dX11_judge_124 rfl ?_
    refine g_iconst (v := nI 1) fx dX11_judge_126 (by decide +kernel) ?_
    refine g_isub fx dX11_judge_127 ?_
    refine g_callVlp (As := [.int (mi - (nI 1))]) (rest := [.long (lN ((sumF (fcL st bs gb) S) + (sumF gb S)))]) fx slX11_310 (c_X8_upTo B ad ct6 n nx mk off (lN ahN) (lN (sumF gb S)) hso a m N1 N2 hSS hn hm ha (mi - nI 1) (o + (-(((tm : Int) * st - mid - mid) / (tm : Int)) - 1)) (add_toInt hoff (sub_toInt hmi hn1 (by omega)) (by omega)) (by omega)) (by omega) hso rfl rfl rfl (Nat.le_of_ble_eq_true rfl) ⟨by decide, by decide⟩ ⟨by decide, by decide⟩ dX11_judge_128 (fun q8 hq8 => ?_)
    rw [hup _ (by omega), lN_sub (by omega), Nat.add_sub_cancel] at hq8
    obtain rfl := hq8
    have hjm := jm_neg (bs := bs) (gb := gb) S htp hlt
    refine g_lsub fx dX11_judge_131 ?_
    refine g_isl (y := lN (sumF (fcF (tm : Int) mid st bs gb) S)) (by rw [lN_sub (by omega), show (sumF (fcL st bs gb) S) + (sumF gb S) - sumF (fcL (-(((tm : Int) * st - mid - mid) / (tm : Int)) - 1) bs gb) S = (sumF (fcF (tm : Int) mid st bs gb) S) by omega]) ?_
    refine g_lstore (L' := [(13, .long (lN (sumF (fcF (tm : Int) mid st bs gb) S))), (15, .int mi), (12, .int gp), (10, .long (lN (sumF (fcH st bs gb) S))), (8, .long (lN (sumF (fcJ st bs gb) S))), (6, .long (lN (sumF (fcL st bs gb) S))), (4, .long (lN (sumF gb S))), (0, .ref (ad 0)), (1, .int x), (2, .int y), (3, .int (nI tm))]) fx dX11_judge_132 (by decide) rfl ?_
    refine g_goto fx 170 dX11_judge_134 (by decide) ?_
    refine g_aload_n fx 7 dX11_judge_170 rfl ?_
    refine g_get (r := 0) fx lkX11_58 (by omega) hx rfl dX11_judge_171 ?_
    refine g_iconst (v := nI 0) fx dX11_judge_174 (by decide +kernel) ?_
    refine g_callVrp (As := [.int (nI 0)]) (rest := []) fx slX11_142 (c_X6_chance B ad ct6 n th te sta ask hn hr hrr 0 (by decide)) (by omega) hr rfl rfl rfl (Nat.le_of_ble_eq_true rfl) ⟨by decide, by decide⟩ ⟨by decide, by decide⟩ dX11_judge_175 (fun w4 hw4 => ?_)
    have hw4 : w4 = ad 90 := hw4
    obtain rfl := hw4
    refine g_lload fx 0 dX11_judge_178 rfl ?_
    refine g_lload fx 6 dX11_judge_180 rfl ?_
    obtain ⟨u0, l0, hq20⟩ := hFr 0 (by decide)
    refine g_callVv (As := [.long (lN (sumF (fcF (tm : Int) mid st bs gb) S)), .long (lN (sumF gb S))]) (rest := []) fx slX11_313 (c_X2_setLongs B ad ct6 n 90 u0 l0 (by omega) hq20.1 hq20.2.1 hq20.2.2 (sumF (fcF (tm : Int) mid st bs gb) S) (sumF gb S) (by omega) (by omega) hA0 hSm) (by omega) hq20.1 rfl rfl rfl (Nat.le_of_ble_eq_true rfl) ⟨by decide, by decide⟩ ⟨by decide, by decide⟩ dX11_judge_182 (fun ct7 hz7 => ?_)
    obtain ⟨hf0, hs7⟩ := hz7
    have hx : ct7 0 = .inr (11, [.ref (ad 1), .ref (ad 3), .ref (ad 5), .ref (ad 7), .ref (ad 9), .ref (ad 11), .ref (ad 79), .ref (ad 81), .ref (ad 88), .ref (ad 110), .ref (ad 115)]) := (hs7 0 (by omega)).trans hx
    have hso : ct7 81 = .inr (8, [.ref (ad 82), .ref (ad 85), .int nx, .int mk, .int off, .long (lN ahN), .long (lN (sumF gb S))]) := (hs7 81 (by omega)).trans hso
    have hr : ct7 88 = .inr (6, [.ref (ad 89), .int th, .int te, .int sta, .int ask]) := (hs7 88 (by omega)).trans hr
    have hrr : ct7 89 = .inl (B.2.1 4, 4, .inr (.inr (.inr (.inr (fun i => some (ad (90 + 5 * i))))))) := (hs7 89 (by omega)).trans hrr
    have hf1 := hf1.other (fun r h1 h2 => hs7 r (by omega))
    have hf2 := hf2.other (fun r h1 h2 => hs7 r (by omega))
    have hf3 := hf3.other (fun r h1 h2 => hs7 r (by omega))
    have hSS := hSS.move (ct' := ct7) (fun _ _ _ => rfl) (fun r h1 h2 => hs7 r (by omega))
    have hFr : ∀ t, t < 4 → ∃ u l, isFr B ad ct7 (90 + 5 * t) u l := fun t ht => by
      by_cases q : t = 0
      · rw [q]; exact ⟨_, _, hf0⟩
      · obtain ⟨u, l, h⟩ := hFr t ht
        exact ⟨u, l, h.other (fun r h1 h2 => hs7 r (by omega))⟩
    have hfr : ∀ r, r < 90 ∨ 109 < r → ct7 r = ct r := fun r h => (hs7 r (by omega)).trans (hfr r h)
    refine g_vret fx rt dX11_judge_185 ?_
    exact gPv.mk ⟨four (by rw [fcS_0]; exact hf0) (by rw [fcS_1]; exact hf1) (by rw [fcS_2]; exact hf2) (by rw [fcS_3]; exact hf3), hfr⟩
