theorem jX.upd {B : gB} {ct2 ct2' : Nat → va_E} (h : jX B ct2) (a : ∀ r, (r = 1 ∨ r = 2 ∨ r = 3 ∨ r = 4 ∨ r = 18 ∨ r = 19 ∨ r = 20 ∨ r = 21 ∨ r = 25) → ct2' r = ct2 r ∨ ∃ g, ct2' r = iA B 40 (nF g)) (b : ∀ r, (r = 12 ∨ r = 13) → ct2' r = ct2 r ∨ ∃ g, ct2' r = iA B 25 (nF g)) (c : ∀ r, (r = 14 ∨ r = 15) → ct2' r = ct2 r ∨ ∃ g, ct2' r = iA B 5 (nF g)) (d : ∀ r, (r = 22 ∨ r = 23) → ct2' r = ct2 r ∨ ∃ f, ct2' r = iA B 30 f) (e : ct2' 24 = ct2 24 ∨ ∃ g, ct2' 24 = iL B 480016 g) (f : ∀ r, (r = 29 ∨ r = 30) → ct2' r = ct2 r ∨ ∃ g, ct2' r = iA B 80 (nF g)) (g : ct2' 32 = ct2 32 ∨ ∃ f, ct2' 32 = iA B 225 f) : jX B ct2' := by
  obtain ⟨h1, h2, h3, h4, h5, h6, h7⟩ := h
  refine ⟨fun r hr => ?_, fun r hr => ?_, fun r hr => ?_, fun r hr => ?_, ?_, fun r hr => ?_, ?_⟩
  · rcases a r hr with q | q
    · obtain ⟨g, hg⟩ := h1 r hr; exact ⟨g, q.trans hg⟩
    · exact q
  · rcases b r hr with q | q
    · obtain ⟨g, hg⟩ := h2 r hr; exact ⟨g, q.trans hg⟩
    · exact q
  · rcases c r hr with q | q
    · obtain ⟨g, hg⟩ := h3 r hr; exact ⟨g, q.trans hg⟩
    · exact q
  · rcases d r hr with q | q
    · obtain ⟨g, hg⟩ := h4 r hr; exact ⟨g, q.trans hg⟩
    · exact q
  · rcases e with q | q
    · obtain ⟨g, hg⟩ := h5; exact ⟨g, q.trans hg⟩
    · exact q
  · rcases f r hr with q | q
    · obtain ⟨g, hg⟩ := h6 r hr; exact ⟨g, q.trans hg⟩
    · exact q
  · rcases g with q | q
    · obtain ⟨g, hg⟩ := h7; exact ⟨g, q.trans hg⟩
    · exact q
theorem x_is {x : Int32} {k : Nat} (hk : k < 2 ^ 31) : x = nI k ↔ x.toInt = (k : Int) := by rw [← Int32.toInt_inj, nI_toInt hk]
theorem z0 {x : Int32} : x = 0 ↔ x.toInt = 0 := by rw [← Int32.toInt_inj]; rfl
theorem z1 {x : Int32} : x = 1 ↔ x.toInt = 1 := by rw [← Int32.toInt_inj]; rfl
theorem z2 {x : Int32} : x = 2 ↔ x.toInt = 2 := by rw [← Int32.toInt_inj]; rfl
theorem lt0 {x : Int32} : x < 0 ↔ x.toInt < 0 := by rw [Int32.lt_iff_toInt_lt]; rfl
theorem ge0 {x : Int32} : 0 ≤ x ↔ 0 ≤ x.toInt := by rw [Int32.le_iff_toInt_le]; rfl
theorem no_both {x : Int32} (h1 : x < 0) (h2 : 0 ≤ x) : False := by
  have a := lt0.mp h1
  have b := ge0.mp h2
  omega
set_option maxHeartbeats 4000000 in
theorem T_sample (B : gB) (x y : Int32) : StI B (J B) yX11_sample cX11_sample 4 yX12_sample cX12_sample 3 [.int x, .int y] := by
  intro ad ct ad2 ct2 S hJ
  have hJ0 := hJ
  have hbd := hJ0.bd
  obtain ⟨f, NL, N1, N2, hx, h0, hS, hNL, hG, hSm, hD, hK, hW, hC, hR, hE, hN, hX⟩ := hJ
  obtain ⟨kA, kB, fA, fB, fs, km, a1, a2, a3, a4, a5, a6, hAk, hBk, hkA, hkB, hfA, hfB, hsb⟩ := hSm
  refine ⟨2, 41, 0, 0, _, _, by decide, by decide, by decide, hbd, hx, c_X11_sample B ad ct 178 (Nat.le_refl _) hx kA fA a1 a2 hAk kB fB a3 a4 hBk x y, ?_⟩
  intro v ad' ct' n' hp
  obtain ⟨ea, rfl, r, rfl, hr⟩ := hp
  obtain rfl := ea.symm
  refine ⟨rfl, rfl, r, rfl, 1, 25, _, _, by decide, by decide, h0, c_X12_sample B ad2 ct2 33 f fs km (Nat.le_refl _) h0 a5 a6 (fun w hw => by rcases (show w = 0 ∨ w = 1 by omega) with rfl | rfl; (rw [hkA]; exact hAk); (rw [hkB]; exact hBk)) x y, ?_⟩
  intro v2 ad2' ct2' n2' hq
  obtain ⟨rfl, rfl, q, rfl, hq⟩ := hq
  rcases hr with ⟨hno, rfl, rfl⟩ | ⟨hin, hno, rfl, rfl⟩ | ⟨hin, hr⟩
  · rcases hq with ⟨-, rfl, rfl⟩ | ⟨h1, -⟩ | ⟨-, w, hw, hw2, -⟩
    · exact ⟨rfl, rfl, rfl, hJ0⟩
    · exact absurd h1 hno
    · exact absurd (by rw [hw, nI_toInt (by omega)]; omega) hno
  · rcases hq with ⟨h1, -⟩ | ⟨-, -, rfl, rfl⟩ | ⟨h1, -⟩
    · exact absurd hin h1
    · exact ⟨rfl, rfl, rfl, hJ0⟩
    · exact absurd h1 hno
  · have hx01 : x = nI 0 ∨ x = nI 1 := by rcases hr with ⟨h, -⟩ | ⟨h, -⟩; (exact Or.inl h); (exact Or.inr h)
    have hxin : (0 : Int) ≤ x.toInt ∧ x.toInt ≤ 1 := by rcases hx01 with h | h <;> rw [h, nI_toInt (by omega)] <;> omega
    rcases hq with ⟨h1, -⟩ | ⟨-, h1, -⟩ | ⟨-, w, hw, hw2, hq⟩
    · exact absurd hxin h1
    · exact absurd hin h1
    · rcases hr with ⟨hx0, hr⟩ | ⟨hx0, hr⟩
      · obtain rfl : w = 0 := (nI_eq (by omega) (by omega)).mp (hw.symm.trans hx0)
        rw [hkA] at hq
        rcases hr with ⟨h1, rfl, rfl⟩ | ⟨h1, rfl, rfl⟩
        · rcases hq with ⟨-, rfl, rfl⟩ | ⟨h2, -⟩
          · exact ⟨rfl, rfl, rfl, hJ0⟩
          · omega
        · rcases hq with ⟨h2, -⟩ | ⟨-, rfl, e6, e7, hr⟩
          · omega
          · have hc : ∀ r, r ≠ 4 → r ≠ 3 → va_up (va_up ct 4 (iA B 15 (va_up fA kA y))) 3 (.inr (5, [.ref (ad 4), .int (nI (kA + 1))])) r = ct r := fun r h1 h2 => by rw [va_up_ne _ _ h2, va_up_ne _ _ h1]
            refine ⟨rfl, rfl, rfl, ⟨f, NL, N1, N2, (hc 0 (by decide) (by decide)).trans hx, (hr 0 (by decide) (by decide)).trans h0, hS, hNL, (by rw [hc 1 (by decide) (by decide), hc 2 (by decide) (by decide), hr 5 (by decide) (by decide)]; exact hG), ⟨kA + 1, kB, va_up fA kA y, fB, va_up fs (15 * 0 + kA) y, va_up km 0 (kA + 1), va_up_self _ _ _, (va_up_ne _ _ (by decide)).trans (va_up_self _ _ _), (hc 5 (by decide) (by decide)).trans a3, (hc 6 (by decide) (by decide)).trans a4, e6, e7, by omega, hBk, va_up_self _ _ _, (va_up_ne _ _ (by decide)).trans hkB, fun i hi => ?_, fun i hi => ?_, fun j hj => ?_⟩, (by rw [hc 7 (by decide) (by decide), hc 8 (by decide) (by decide), hr 8 (by decide) (by decide)]; exact hD), (by rw [hc 9 (by decide) (by decide), hc 10 (by decide) (by decide), hr 31 (by decide) (by decide)]; exact hK), hW.move (fun _ _ _ => rfl) (fun r h1 h2 => hc r (by omega) (by omega)), (by rw [hc 79 (by decide) (by decide), hc 80 (by decide) (by decide), hr 16 (by decide) (by decide), hr 17 (by decide) (by decide)]; exact hC), hR.move (fun _ _ => rfl) (fun r h1 h2 => hc r (by omega) (by omega)) (hr 9 (by decide) (by decide)) (hr 10 (by decide) (by decide)) (hr 11 (by decide) (by decide)), hE.move (fun _ _ _ => rfl) (fun r h1 h2 => hc r (by omega) (by omega)), hN.move (fun _ _ => rfl) (fun r h1 h2 => hc r (by omega) (by omega)) (hr 26 (by decide) (by decide)) (hr 27 (by decide) (by decide)) (by obtain ⟨_, _, _, _, _, _, ro, _, _, _, _, _, _, _, _, hro, _⟩ := hN; exact ⟨ro, (hr 28 (by decide) (by decide)).trans hro⟩), hX.move (fun r h => hr r (by omega) (by omega))⟩⟩
            · by_cases q : i = kA
              · rw [q, va_up_self, show 15 * 0 + kA = kA by omega, va_up_self]
              · rw [va_up_ne _ _ q, va_up_ne _ _ (by omega)]; exact hfA i (by omega)
            · rw [va_up_ne _ _ (by omega)]; exact hfB i hi
            · by_cases q : j = (15 * 0 + kA)
              · rw [q, va_up_self]; omega
              · rw [va_up_ne _ _ q]; exact hsb j hj
      · obtain rfl : w = 1 := (nI_eq (by omega) (by omega)).mp (hw.symm.trans hx0)
        rw [hkB] at hq
        rcases hr with ⟨h1, rfl, rfl⟩ | ⟨h1, rfl, rfl⟩
        · rcases hq with ⟨-, rfl, rfl⟩ | ⟨h2, -⟩
          · exact ⟨rfl, rfl, rfl, hJ0⟩
          · omega
        · rcases hq with ⟨h2, -⟩ | ⟨-, rfl, e6, e7, hr⟩
          · omega
          · have hc : ∀ r, r ≠ 6 → r ≠ 5 → va_up (va_up ct 6 (iA B 15 (va_up fB kB y))) 5 (.inr (5, [.ref (ad 6), .int (nI (kB + 1))])) r = ct r := fun r h1 h2 => by rw [va_up_ne _ _ h2, va_up_ne _ _ h1]
            refine ⟨rfl, rfl, rfl, ⟨f, NL, N1, N2, (hc 0 (by decide) (by decide)).trans hx, (hr 0 (by decide) (by decide)).trans h0, hS, hNL, (by rw [hc 1 (by decide) (by decide), hc 2 (by decide) (by decide), hr 5 (by decide) (by decide)]; exact hG), ⟨kA, kB + 1, fA, va_up fB kB y, va_up fs (15 * 1 + kB) y, va_up km 1 (kB + 1), (hc 3 (by decide) (by decide)).trans a1, (hc 4 (by decide) (by decide)).trans a2, va_up_self _ _ _, (va_up_ne _ _ (by decide)).trans (va_up_self _ _ _), e6, e7, hAk, by omega, (va_up_ne _ _ (by decide)).trans hkA, va_up_self _ _ _, fun i hi => ?_, fun i hi => ?_, fun j hj => ?_⟩, (by rw [hc 7 (by decide) (by decide), hc 8 (by decide) (by decide), hr 8 (by decide) (by decide)]; exact hD), (by rw [hc 9 (by decide) (by decide), hc 10 (by decide) (by decide), hr 31 (by decide) (by decide)]; exact hK), hW.move (fun _ _ _ => rfl) (fun r h1 h2 => hc r (by omega) (by omega)), (by rw [hc 79 (by decide) (by decide), hc 80 (by decide) (by decide), hr 16 (by decide) (by decide), hr 17 (by decide) (by decide)]; exact hC), hR.move (fun _ _ => rfl) (fun r h1 h2 => hc r (by omega) (by omega)) (hr 9 (by decide) (by decide)) (hr 10 (by decide) (by decide)) (hr 11 (by decide) (by decide)), hE.move (fun _ _ _ => rfl) (fun r h1 h2 => hc r (by omega) (by omega)), hN.move (fun _ _ => rfl) (fun r h1 h2 => hc r (by omega) (by omega)) (hr 26 (by decide) (by decide)) (hr 27 (by decide) (by decide)) (by obtain ⟨_, _, _, _, _, _, ro, _, _, _, _, _, _, _, _, hro, _⟩ := hN; exact ⟨ro, (hr 28 (by decide) (by decide)).trans hro⟩), hX.move (fun r h => hr r (by omega) (by omega))⟩⟩
            · rw [va_up_ne _ _ (by omega)]; exact hfA i hi
            · by_cases q : i = kB
              · rw [q, va_up_self, show 15 * 1 + kB = 15 + kB by omega, va_up_self]
              · rw [va_up_ne _ _ q, va_up_ne _ _ (by omega)]; exact hfB i (by omega)
            · by_cases q : j = (15 * 1 + kB)
              · rw [q, va_up_self]; omega
              · rw [va_up_ne _ _ q]; exact hsb j hj
set_option maxHeartbeats 4000000 in
theorem T_pair (B : gB) (x y : Int32) : StI B (J B) yX11_pair cX11_pair 3 yX12_pair cX12_pair 3 [.int x, .int y] := by
  intro ad ct ad2 ct2 S hJ
  have hJ0 := hJ
  have hbd := hJ0.bd
  obtain ⟨f, NL, N1, N2, hx, h0, hS, hNL, hG, hSm, hD, hK, hW, hC, hR, hE, hN, hX⟩ := hJ
  obtain ⟨kD, fD, fd, d1, d2, d3, d4, hDk, hfD, hdb⟩ := hD
  refine ⟨2, 41, 0, 0, _, _, by decide, by decide, by decide, hbd, hx, c_X11_pair B ad ct 178 (Nat.le_refl _) hx kD fD d1 d2 hDk x y, ?_⟩
  intro v ad' ct' n' hp
  obtain ⟨ea, rfl, r, rfl, hr⟩ := hp
  obtain rfl := ea.symm
  refine ⟨rfl, rfl, r, rfl, 1, 25, _, _, by decide, by decide, h0, c_X12_pair B ad2 ct2 33 f fd (Nat.le_refl _) h0 d3 kD d4 hDk x y, ?_⟩
  intro v2 ad2' ct2' n2' hq
  obtain ⟨rfl, rfl, q, rfl, hq⟩ := hq
  rcases hr with ⟨hno, rfl, rfl⟩ | ⟨hin, hr⟩
  · rcases hq with ⟨-, rfl, rfl⟩ | ⟨h1, -⟩
    · exact ⟨rfl, rfl, rfl, hJ0⟩
    · exact absurd h1 hno
  · rcases hq with ⟨h1, -⟩ | ⟨-, hq⟩
    · exact absurd hin h1
    · rcases hr with ⟨h1, rfl, rfl⟩ | ⟨h1, rfl, rfl⟩
      · rcases hq with ⟨-, rfl, rfl⟩ | ⟨h2, -⟩
        · exact ⟨rfl, rfl, rfl, hJ0⟩
        · omega
      · rcases hq with ⟨h2, -⟩ | ⟨-, rfl, e0, e8, hr⟩
        · omega
        · have hc : ∀ r, r ≠ 8 → r ≠ 7 → va_up (va_up ct 8 (iA B 30 (va_up fD kD (x - y)))) 7 (.inr (5, [.ref (ad 8), .int (nI (kD + 1))])) r = ct r := fun r h1 h2 => by rw [va_up_ne _ _ h2, va_up_ne _ _ h1]
          have hf : ∀ j, j ≠ 11 → va_up f 11 (nI (kD + 1)) j = f j := fun j h => va_up_ne _ _ h
          refine ⟨rfl, rfl, rfl, ⟨_, NL, N1, N2, (hc 0 (by decide) (by decide)).trans hx, e0, hS, hNL, (by rw [hc 1 (by decide) (by decide), hc 2 (by decide) (by decide), hr 5 (by decide) (by decide), hf 4 (by decide), hf 5 (by decide), hf 7 (by decide)]; exact hG), (by rw [hc 3 (by decide) (by decide), hc 4 (by decide) (by decide), hc 5 (by decide) (by decide), hc 6 (by decide) (by decide), hr 6 (by decide) (by decide), hr 7 (by decide) (by decide)]; exact hSm), ⟨kD + 1, va_up fD kD (x - y), va_up fd kD (x - y), va_up_self _ _ _, (va_up_ne _ _ (by decide)).trans (va_up_self _ _ _), e8, va_up_self _ _ _, by omega, fun i hi => ?_, fun j hj => ?_⟩, (by rw [hc 9 (by decide) (by decide), hc 10 (by decide) (by decide), hr 31 (by decide) (by decide), hf 45 (by decide)]; exact hK), hW.move (fun _ _ _ => rfl) (fun r h1 h2 => hc r (by omega) (by omega)), (by rw [hc 79 (by decide) (by decide), hc 80 (by decide) (by decide), hr 16 (by decide) (by decide), hr 17 (by decide) (by decide), hf 25 (by decide), hf 26 (by decide), hf 27 (by decide)]; exact hC), (by rw [hf 12 (by decide), hf 13 (by decide), hf 14 (by decide), hf 18 (by decide), hf 19 (by decide)]; exact hR.move (fun _ _ => rfl) (fun r h1 h2 => hc r (by omega) (by omega)) (hr 9 (by decide) (by decide)) (hr 10 (by decide) (by decide)) (hr 11 (by decide) (by decide))), hE.move (fun _ _ _ => rfl) (fun r h1 h2 => hc r (by omega) (by omega)), (by rw [hf 40 (by decide)]; exact hN.move (fun _ _ => rfl) (fun r h1 h2 => hc r (by omega) (by omega)) (hr 26 (by decide) (by decide)) (hr 27 (by decide) (by decide)) (by obtain ⟨_, _, _, _, _, _, ro, _, _, _, _, _, _, _, _, hro, _⟩ := hN; exact ⟨ro, (hr 28 (by decide) (by decide)).trans hro⟩)), hX.move (fun r h => hr r (by omega) (by omega))⟩⟩
          · by_cases q : i = kD
            · rw [q, va_up_self, va_up_self]
            · rw [va_up_ne _ _ q, va_up_ne _ _ q]; exact hfD i (by omega)
          · by_cases q : j = kD
            · rw [q, va_up_self, sub_toInt rfl rfl (by omega)]; omega
            · rw [va_up_ne _ _ q]; exact hdb j hj
set_option maxHeartbeats 4000000 in
theorem T_claim (B : gB) (x : Int32) : StI B (J B) yX11_claim cX11_claim 2 yX12_claim cX12_claim 2 [.int x] := by
  intro ad ct ad2 ct2 S hJ
  have hJ0 := hJ
  have hbd := hJ0.bd
  obtain ⟨f, NL, N1, N2, hx, h0, hS, hNL, hG, hSm, hD, hK, hW, hC, hR, hE, hN, hX⟩ := hJ
  obtain ⟨kK, fK, fc, k1, k2, k3, k4, hKk, hfK⟩ := hK
  refine ⟨2, 41, 0, 0, _, _, by decide, by decide, by decide, hbd, hx, c_X11_claim B ad ct 178 (Nat.le_refl _) hx kK fK k1 k2 hKk x, ?_⟩
  intro v ad' ct' n' hp
  obtain ⟨ea, rfl, r, rfl, hr⟩ := hp
  obtain rfl := ea.symm
  refine ⟨rfl, rfl, r, rfl, 1, 25, _, _, by decide, by decide, h0, c_X12_claim B ad2 ct2 33 f fc (Nat.le_refl _) h0 k3 kK k4 hKk x, ?_⟩
  intro v2 ad2' ct2' n2' hq
  obtain ⟨rfl, rfl, q, rfl, hq⟩ := hq
  rcases hr with ⟨hno, rfl, rfl⟩ | ⟨hin, hr⟩
  · rcases hq with ⟨-, rfl, rfl⟩ | ⟨h1, -⟩
    · exact ⟨rfl, rfl, rfl, hJ0⟩
    · exact absurd h1 hno
  · rcases hq with ⟨h1, -⟩ | ⟨-, hq⟩
    · exact absurd hin h1
    · rcases hr with ⟨h1, rfl, rfl⟩ | ⟨h1, rfl, rfl⟩
      · rcases hq with ⟨-, rfl, rfl⟩ | ⟨h2, -⟩
        · exact ⟨rfl, rfl, rfl, hJ0⟩
        · omega
      · rcases hq with ⟨h2, -⟩ | ⟨-, rfl, e0, e8, hr⟩
        · omega
        · have hc : ∀ r, r ≠ 10 → r ≠ 9 → va_up (va_up ct 10 (iA B 40 (va_up fK kK x))) 9 (.inr (5, [.ref (ad 10), .int (nI (kK + 1))])) r = ct r := fun r h1 h2 => by rw [va_up_ne _ _ h2, va_up_ne _ _ h1]
          have hf : ∀ j, j ≠ 45 → va_up f 45 (nI (kK + 1)) j = f j := fun j h => va_up_ne _ _ h
          refine ⟨rfl, rfl, rfl, ⟨_, NL, N1, N2, (hc 0 (by decide) (by decide)).trans hx, e0, hS, hNL, (by rw [hc 1 (by decide) (by decide), hc 2 (by decide) (by decide), hr 5 (by decide) (by decide), hf 4 (by decide), hf 5 (by decide), hf 7 (by decide)]; exact hG), (by rw [hc 3 (by decide) (by decide), hc 4 (by decide) (by decide), hc 5 (by decide) (by decide), hc 6 (by decide) (by decide), hr 6 (by decide) (by decide), hr 7 (by decide) (by decide)]; exact hSm), (by rw [hc 7 (by decide) (by decide), hc 8 (by decide) (by decide), hr 8 (by decide) (by decide), hf 11 (by decide)]; exact hD), ⟨kK + 1, va_up fK kK x, va_up fc kK x, va_up_self _ _ _, (va_up_ne _ _ (by decide)).trans (va_up_self _ _ _), e8, va_up_self _ _ _, by omega, fun i hi => ?_⟩, hW.move (fun _ _ _ => rfl) (fun r h1 h2 => hc r (by omega) (by omega)), (by rw [hc 79 (by decide) (by decide), hc 80 (by decide) (by decide), hr 16 (by decide) (by decide), hr 17 (by decide) (by decide), hf 25 (by decide), hf 26 (by decide), hf 27 (by decide)]; exact hC), (by rw [hf 12 (by decide), hf 13 (by decide), hf 14 (by decide), hf 18 (by decide), hf 19 (by decide)]; exact hR.move (fun _ _ => rfl) (fun r h1 h2 => hc r (by omega) (by omega)) (hr 9 (by decide) (by decide)) (hr 10 (by decide) (by decide)) (hr 11 (by decide) (by decide))), hE.move (fun _ _ _ => rfl) (fun r h1 h2 => hc r (by omega) (by omega)), (by rw [hf 40 (by decide)]; exact hN.move (fun _ _ => rfl) (fun r h1 h2 => hc r (by omega) (by omega)) (hr 26 (by decide) (by decide)) (hr 27 (by decide) (by decide)) (by obtain ⟨_, _, _, _, _, _, ro, _, _, _, _, _, _, _, _, hro, _⟩ := hN; exact ⟨ro, (hr 28 (by decide) (by decide)).trans hro⟩)), hX.move (fun r h => hr r (by omega) (by omega))⟩⟩
          by_cases q : i = kK
          · rw [q, va_up_self, va_up_self]
          · rw [va_up_ne _ _ q, va_up_ne _ _ q]; exact hfK i (by omega)
set_option maxHeartbeats 4000000 in
theorem T_clear (B : gB) (x : Int32) : StI B (J B) yX11_clear cX11_clear 2 yX12_clear cX12_clear 3 [.int x] := by
  intro ad ct ad2 ct2 S hJ
  have hJ0 := hJ
  have hbd := hJ0.bd
  obtain ⟨f, NL, N1, N2, hx, h0, hS, hNL, hG, hSm, hD, hK, hW, hC, hR, hE, hN, hX⟩ := hJ
  have hSz := hSm
  have hDz := hD
  have hKz := hK
  have hNz := hN
  obtain ⟨kA, kB, fA, fB, fs, km, a1, a2, a3, a4, a5, a6, hAk, hBk, hkA, hkB, hfA, hfB, hsb⟩ := hSz
  obtain ⟨kD, fD, fd, d1, d2, d3, d4, hDk, hfD, hdb⟩ := hDz
  obtain ⟨kK, fK, fc, k1, k2, k3, k4, hKk, hfK⟩ := hKz
  obtain ⟨k, o, U, V, pu, pw, ro, n1, n2, n3, hk12, hU, hUb, n7, n8, n9, n10, hok, hor⟩ := hNz
  refine ⟨1, 21, 0, 0, _, _, by decide, by decide, by decide, hbd, hx, c_X11_clear B ad ct 178 (Nat.le_refl _) hx kA fA a1 a2 hAk kB fB a3 a4 hBk kD fD d1 d2 hDk kK fK k1 k2 hKk k o n1 n2 n3 hk12 x, ?_⟩
  intro v ad' ct' n' hp
  obtain ⟨ea, rfl, r, rfl, hr⟩ := hp
  obtain rfl := ea.symm
  refine ⟨rfl, rfl, r, rfl, 0, 0, _, _, by decide, by decide, h0, c_X12_clear B ad2 ct2 33 f km (Nat.le_refl _) h0 a6 x, ?_⟩
  intro v2 ad2' ct2' n2' hq
  obtain ⟨rfl, rfl, q, rfl, hq⟩ := hq
  rcases hr with ⟨h1, rfl, rfl⟩ | ⟨h1, rfl, rfl⟩ | ⟨h1, rfl, rfl⟩ | ⟨h1, rfl, rfl⟩ | ⟨h1, rfl, rfl⟩
  · rcases hq with ⟨h2, hq⟩ | ⟨h2, hq⟩ | ⟨h2, hq⟩ | ⟨h2, hq⟩ | ⟨h2, hq⟩
    · obtain ⟨rfl, e0, e7, hr⟩ := hq
      have hc : ∀ r, r ≠ 3 → r ≠ 5 → va_up (va_up ct 3 (.inr (5, [.ref (ad 4), .int (nI 0)]))) 5 (.inr (5, [.ref (ad 6), .int (nI 0)])) r = ct r := fun r q3 q5 => by rw [va_up_ne _ _ q5, va_up_ne _ _ q3]
      refine ⟨rfl, rfl, ?_, ⟨f, NL, N1, N2, (hc 0 (by decide) (by decide)).trans hx, e0, hS, hNL, (by rw [hc 1 (by decide) (by decide), hc 2 (by decide) (by decide), hr 5 (by decide) (by decide)]; exact hG), ⟨0, 0, fA, fB, fs, va_up (va_up km 0 0) 1 0, (va_up_ne _ _ (by decide)).trans (va_up_self _ _ _), (hc 4 (by decide) (by decide)).trans a2, va_up_self _ _ _, (hc 6 (by decide) (by decide)).trans a4, (hr 6 (by decide) (by decide)).trans a5, e7, by decide, by decide, (va_up_ne _ _ (by decide)).trans (va_up_self _ _ _), va_up_self _ _ _, fun i hi => absurd hi (by omega), fun i hi => absurd hi (by omega), hsb⟩, (by rw [hc 7 (by decide) (by decide), hc 8 (by decide) (by decide), hr 8 (by decide) (by decide)]; exact hD), (by rw [hc 9 (by decide) (by decide), hc 10 (by decide) (by decide), hr 31 (by decide) (by decide)]; exact hK), hW.move (fun _ _ _ => rfl) (fun r h1 h2 => hc r (by omega) (by omega)), (by rw [hc 79 (by decide) (by decide), hc 80 (by decide) (by decide), hr 16 (by decide) (by decide), hr 17 (by decide) (by decide)]; exact hC), hR.move (fun _ _ => rfl) (fun r h1 h2 => hc r (by omega) (by omega)) (hr 9 (by decide) (by decide)) (hr 10 (by decide) (by decide)) (hr 11 (by decide) (by decide)), hE.move (fun _ _ _ => rfl) (fun r h1 h2 => hc r (by omega) (by omega)), hN.move (fun _ _ => rfl) (fun r h1 h2 => hc r (by omega) (by omega)) (hr 26 (by decide) (by decide)) (hr 27 (by decide) (by decide)) (by obtain ⟨_, _, _, _, _, _, ro, _, _, _, _, _, _, _, _, hro, _⟩ := hN; exact ⟨ro, (hr 28 (by decide) (by decide)).trans hro⟩), hX.move (fun r h => hr r (by omega) (by omega))⟩⟩
      · rw [hkA, hkB]
    · exact absurd h2 (by omega)
    · exact absurd h2 (by omega)
    · exact absurd h2 (by omega)
    · exact absurd h2 (by omega)
  · rcases hq with ⟨h2, hq⟩ | ⟨h2, hq⟩ | ⟨h2, hq⟩ | ⟨h2, hq⟩ | ⟨h2, hq⟩
    · exact absurd h2 (by omega)
    · obtain ⟨rfl, e0, e7, hr⟩ := hq
      have hc : ∀ r, r ≠ 7 → va_up ct 7 (.inr (5, [.ref (ad 8), .int (nI 0)])) r = ct r := fun r q7 => by rw [va_up_ne _ _ q7]
      have hf : ∀ j, j ≠ 11 → va_up f 11 (nI 0) j = f j := fun j h => va_up_ne _ _ h
      refine ⟨rfl, rfl, ?_, ⟨_, NL, N1, N2, (hc 0 (by decide)).trans hx, e0, hS, hNL, (by rw [hc 1 (by decide), hc 2 (by decide), hr 5 (by decide) (by decide), hf 4 (by decide), hf 5 (by decide), hf 7 (by decide)]; exact hG), (by rw [hc 3 (by decide), hc 4 (by decide), hc 5 (by decide), hc 6 (by decide), hr 6 (by decide) (by decide), show ct2' 7 = ct2 7 from e7.trans a6.symm]; exact hSm), ⟨0, fD, fd, va_up_self _ _ _, (hc 8 (by decide)).trans d2, (hr 8 (by decide) (by decide)).trans d3, va_up_self _ _ _, by decide, fun i hi => absurd hi (by omega), hdb⟩, (by rw [hc 9 (by decide), hc 10 (by decide), hr 31 (by decide) (by decide), hf 45 (by decide)]; exact hK), hW.move (fun _ _ _ => rfl) (fun r h1 h2 => hc r (by omega)), (by rw [hc 79 (by decide), hc 80 (by decide), hr 16 (by decide) (by decide), hr 17 (by decide) (by decide), hf 25 (by decide), hf 26 (by decide), hf 27 (by decide)]; exact hC), (by rw [hf 12 (by decide), hf 13 (by decide), hf 14 (by decide), hf 18 (by decide), hf 19 (by decide)]; exact hR.move (fun _ _ => rfl) (fun r h1 h2 => hc r (by omega)) (hr 9 (by decide) (by decide)) (hr 10 (by decide) (by decide)) (hr 11 (by decide) (by decide))), hE.move (fun _ _ _ => rfl) (fun r h1 h2 => hc r (by omega)), (by rw [hf 40 (by decide)]; exact hN.move (fun _ _ => rfl) (fun r h1 h2 => hc r (by omega)) (hr 26 (by decide) (by decide)) (hr 27 (by decide) (by decide)) (by obtain ⟨_, _, _, _, _, _, ro, _, _, _, _, _, _, _, _, hro, _⟩ := hN; exact ⟨ro, (hr 28 (by decide) (by decide)).trans hro⟩)), hX.move (fun r h => hr r (by omega) (by omega))⟩⟩
      · rw [d4]
    · exact absurd h2 (by omega)
    · exact absurd h2 (by omega)
    · exact absurd h2 (by omega)
  · rcases hq with ⟨h2, hq⟩ | ⟨h2, hq⟩ | ⟨h2, hq⟩ | ⟨h2, hq⟩ | ⟨h2, hq⟩
    · exact absurd h2 (by omega)
    · exact absurd h2 (by omega)
    · obtain ⟨rfl, e0, e7, hr⟩ := hq
      have hc : ∀ r, r ≠ 115 → va_up ct 115 (.inr (1, [.ref (ad 116), .ref (ad 117), .ref (ad 110), .int (nI 0)])) r = ct r := fun r q115 => by rw [va_up_ne _ _ q115]
      have hf : ∀ j, j ≠ 40 → va_up f 40 (nI 0) j = f j := fun j h => va_up_ne _ _ h
      refine ⟨rfl, rfl, ?_, ⟨_, NL, N1, N2, (hc 0 (by decide)).trans hx, e0, hS, hNL, (by rw [hc 1 (by decide), hc 2 (by decide), hr 5 (by decide) (by decide), hf 4 (by decide), hf 5 (by decide), hf 7 (by decide)]; exact hG), (by rw [hc 3 (by decide), hc 4 (by decide), hc 5 (by decide), hc 6 (by decide), hr 6 (by decide) (by decide), show ct2' 7 = ct2 7 from e7.trans a6.symm]; exact hSm), (by rw [hc 7 (by decide), hc 8 (by decide), hr 8 (by decide) (by decide), hf 11 (by decide)]; exact hD), (by rw [hc 9 (by decide), hc 10 (by decide), hr 31 (by decide) (by decide), hf 45 (by decide)]; exact hK), hW.move (fun _ _ _ => rfl) (fun r h1 h2 => hc r (by omega)), (by rw [hc 79 (by decide), hc 80 (by decide), hr 16 (by decide) (by decide), hr 17 (by decide) (by decide), hf 25 (by decide), hf 26 (by decide), hf 27 (by decide)]; exact hC), (by rw [hf 12 (by decide), hf 13 (by decide), hf 14 (by decide), hf 18 (by decide), hf 19 (by decide)]; exact hR.move (fun _ _ => rfl) (fun r h1 h2 => hc r (by omega)) (hr 9 (by decide) (by decide)) (hr 10 (by decide) (by decide)) (hr 11 (by decide) (by decide))), hE.move (fun _ _ _ => rfl) (fun r h1 h2 => hc r (by omega)), ⟨0, o, U, V, pu, pw, ro, va_up_self _ _ _, (hc 116 (by decide)).trans n2, (hc 117 (by decide)).trans n3, by decide, fun i hi => (hU i hi).other (fun r h1 h2 => hc r (by omega)), hUb, (hr 26 (by decide) (by decide)).trans n7, (hr 27 (by decide) (by decide)).trans n8, (hr 28 (by decide) (by decide)).trans n9, va_up_self _ _ _, fun i hi => absurd hi (by omega), fun j hj => absurd hj (by omega)⟩, hX.move (fun r h => hr r (by omega) (by omega))⟩⟩
      · rw [n10]
    · exact absurd h2 (by omega)
    · exact absurd h2 (by omega)
  · rcases hq with ⟨h2, hq⟩ | ⟨h2, hq⟩ | ⟨h2, hq⟩ | ⟨h2, hq⟩ | ⟨h2, hq⟩
    · exact absurd h2 (by omega)
    · exact absurd h2 (by omega)
    · exact absurd h2 (by omega)
    · obtain ⟨rfl, e0, e7, hr⟩ := hq
      have hc : ∀ r, r ≠ 9 → va_up ct 9 (.inr (5, [.ref (ad 10), .int (nI 0)])) r = ct r := fun r q9 => by rw [va_up_ne _ _ q9]
      have hf : ∀ j, j ≠ 45 → va_up f 45 (nI 0) j = f j := fun j h => va_up_ne _ _ h
      refine ⟨rfl, rfl, ?_, ⟨_, NL, N1, N2, (hc 0 (by decide)).trans hx, e0, hS, hNL, (by rw [hc 1 (by decide), hc 2 (by decide), hr 5 (by decide) (by decide), hf 4 (by decide), hf 5 (by decide), hf 7 (by decide)]; exact hG), (by rw [hc 3 (by decide), hc 4 (by decide), hc 5 (by decide), hc 6 (by decide), hr 6 (by decide) (by decide), show ct2' 7 = ct2 7 from e7.trans a6.symm]; exact hSm), (by rw [hc 7 (by decide), hc 8 (by decide), hr 8 (by decide) (by decide), hf 11 (by decide)]; exact hD), ⟨0, fK, fc, va_up_self _ _ _, (hc 10 (by decide)).trans k2, (hr 31 (by decide) (by decide)).trans k3, va_up_self _ _ _, by decide, fun i hi => absurd hi (by omega)⟩, hW.move (fun _ _ _ => rfl) (fun r h1 h2 => hc r (by omega)), (by rw [hc 79 (by decide), hc 80 (by decide), hr 16 (by decide) (by decide), hr 17 (by decide) (by decide), hf 25 (by decide), hf 26 (by decide), hf 27 (by decide)]; exact hC), (by rw [hf 12 (by decide), hf 13 (by decide), hf 14 (by decide), hf 18 (by decide), hf 19 (by decide)]; exact hR.move (fun _ _ => rfl) (fun r h1 h2 => hc r (by omega)) (hr 9 (by decide) (by decide)) (hr 10 (by decide) (by decide)) (hr 11 (by decide) (by decide))), hE.move (fun _ _ _ => rfl) (fun r h1 h2 => hc r (by omega)), (by rw [hf 40 (by decide)]; exact hN.move (fun _ _ => rfl) (fun r h1 h2 => hc r (by omega)) (hr 26 (by decide) (by decide)) (hr 27 (by decide) (by decide)) (by obtain ⟨_, _, _, _, _, _, ro, _, _, _, _, _, _, _, _, hro, _⟩ := hN; exact ⟨ro, (hr 28 (by decide) (by decide)).trans hro⟩)), hX.move (fun r h => hr r (by omega) (by omega))⟩⟩
      · rw [k4]
    · exact absurd h2 (by omega)
  · rcases hq with ⟨h2, -⟩ | ⟨h2, -⟩ | ⟨h2, -⟩ | ⟨h2, -⟩ | ⟨-, rfl, rfl⟩
    · exact absurd h2 (by omega)
    · exact absurd h2 (by omega)
    · exact absurd h2 (by omega)
    · exact absurd h2 (by omega)
    · exact ⟨rfl, rfl, rfl, hJ0⟩
