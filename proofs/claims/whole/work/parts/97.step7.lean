theorem Ctr.reent' {B : gB} {y : MethodName} {cc : ByteArray} {nL : Nat} {ret : Option FieldType} {fr lo mc ms : Nat} {ad : Nat → Nat} {ct ct0 : Nat → va_E} {n : Nat} {As : List Value} {post : gP} (r : Nat) {cA : ClassId} {N : Nat} {f f' : Nat → Option Nat} (h : ct r = .inl (cA, N, .inr (.inr (.inr (.inr f))))) (hf : ∀ j, j < N → f j = f' j) (hc : ct0 = va_up ct r (.inl (cA, N, .inr (.inr (.inr (.inr f')))))) (hM : Ctr B y cc nL ret fr lo mc ms ad ct0 n As post) : Ctr B y cc nL ret fr lo mc ms ad ct n As post := by
  subst hc
  exact Ctr.reent r h hf hM
theorem tbN_bd {T tot sd NL : Nat} (hNL : NL ≤ 120000) (hsd : sd ≤ 3) : NL ≤ tbN T tot sd NL ∧ tbN T tot sd NL ≤ 120000 := by
  unfold tbN
  by_cases q : 0 < T ∧ tot ≤ 20000
  · rw [if_pos q]
    exact ⟨rnL_le.1, rnL_bd hNL (Nat.mul_le_mul hsd q.2)⟩
  · rw [if_neg q]; omega
def xt (a b c d t : Nat) : Nat := if t = 0 then a else if t = 1 then b else if t = 2 then c else d
set_option maxHeartbeats 4000000 in
set_option maxRecDepth 100000 in
theorem T_tables (B : gB) : StI B (J B) yX11_tables cX11_tables 2 yX12_tables cX12_tables 4 [] := by
  intro ad ct ad2 ct2 S hJ
  have hJb := hJ.bd
  obtain ⟨f16, e16, hf16, hJ0⟩ := hJ.norm
  have hx0 : ct 0 = xO ad := by obtain ⟨_, _, _, _, h, _⟩ := hJ; exact h
  obtain ⟨ct0, hct⟩ : ∃ c, c = va_up ct 16 (iQ B 3 26 (fun i => some (ad (27 + 2 * i)))) := ⟨_, rfl⟩
  rw [← hct] at hJ0
  have hwr : ct0 16 = iQ B 3 26 (fun i => some (ad (27 + 2 * i))) := by rw [hct, va_up_self]
  obtain ⟨f, NL, N1, N2, hx, h0, hS, hNL, hG, hSm, hD, hK, hW, hC, hR, hE, hN, hX⟩ := id hJ0
  have hWz := hW
  obtain ⟨rs0, cl0, v0, gt, R0, C0, co0, F0, cz, f17, w1, w2, w3, w4, w5, w6, w7, w8, w9⟩ := hWz
  have hGz := hG
  have hCz := hC
  have hRz := hR
  obtain ⟨gk, gc, R, C, T, g1, g2, g3, g4, g5, g6, hRp, hR5, hCp, hC5, hT60, hgg, hgb, hgz, hgT⟩ := hGz
  obtain ⟨Rk, Ck, sd, cn, g, vs, cs, fk, fa, c1, c2, c3, c4, c5, c6, c7, hcR, hcC, hsd, hcn, hsp, hlen, hvs, hfk, hfa⟩ := hCz
  obtain ⟨⟨nx, mk, off, ah, al, hso⟩, ⟨sz1, sz2, s1, t1, s2, t2, h82, h83, h84, h85, h86, h87⟩, hL1, hL2, th, te, sta, ask, u, l, gu, gw, gb, SS_, b1, b2, hth, hF, hFb, b6, b7, b8, b9, hS6, hth0, hth1⟩ := hRz
  obtain ⟨x1, y1⟩ := hX.1 1 (by decide)
  obtain ⟨x2, y2⟩ := hX.1 2 (by decide)
  obtain ⟨x3, y3⟩ := hX.1 3 (by decide)
  obtain ⟨x4, y4⟩ := hX.1 4 (by decide)
  obtain ⟨x18, y18⟩ := hX.1 18 (by decide)
  obtain ⟨x19, y19⟩ := hX.1 19 (by decide)
  obtain ⟨x20, y20⟩ := hX.1 20 (by decide)
  obtain ⟨x21, y21⟩ := hX.1 21 (by decide)
  obtain ⟨x12, y12⟩ := hX.2.1 12 (by decide)
  obtain ⟨x13, y13⟩ := hX.2.1 13 (by decide)
  obtain ⟨x14, y14⟩ := hX.2.2.1 14 (by decide)
  obtain ⟨x15, y15⟩ := hX.2.2.1 15 (by decide)
  have hgs := gsum hR5 hC5 hgg hgz hgT
  have hkl := gk_le hgg hgz hC5 hR5 hgb
  have hGR : ∀ r, r < R → (fun r => sumF (fun k => gk (5 * r + k)) C) r = (fun r => sumF (fun k => gc (C * r + k)) C) r := fun r hr => sumF_congr C (fun k hk => hgg r k hr hk)
  have hGC : ∀ c, c < C → (fun c => sumF (fun k => gk (5 * k + c)) R) c = (fun c => sumF (fun k => gc (C * k + c)) R) c := fun c hc => sumF_congr R (fun k hk => hgg k c hk hc)
  have hsR : sumF (fun r => sumF (fun k => gk (5 * r + k)) C) R = T := by rw [← hgT]; exact sumF_congr R hGR
  have hsC : sumF (fun c => sumF (fun k => gk (5 * k + c)) R) C = T := by rw [← hgT, sum_swap]; exact sumF_congr C hGC
  have hss : sumF (fun r => sumF (fun k => gk (5 * r + k)) C) R = sumF (fun c => sumF (fun k => gk (5 * k + c)) R) C := hsR.trans hsC.symm
  have hT6 : sumF (fun c => sumF (fun k => gk (5 * k + c)) R) C ≤ 60 := by omega
  have hT2 : sumF gk 25 = sumF (fun c => sumF (fun k => gk (5 * k + c)) R) C := hgs.trans hsC.symm
  have hTT : (tTot R C (fun r => sumF (fun k => gk (5 * r + k)) C) (fun c => sumF (fun k => gk (5 * k + c)) R)) = (tTot R C (fun r => sumF (fun k => gc (C * r + k)) C) (fun c => sumF (fun k => gc (C * k + c)) R)) := tTot_of hCp hGR hGC (fun _ => 0)
  have hRC : R * C ≤ 25 := Nat.mul_le_mul hR5 hC5
  have hRC1 : 1 ≤ R * C := Nat.mul_pos hRp hCp
  have hnb := tbN_bd (T := sumF gk 25) (tot := (tTot R C (fun r => sumF (fun k => gk (5 * r + k)) C) (fun c => sumF (fun k => gk (5 * k + c)) R))) (sd := (R * C + 9) / 10) hNL (by omega)
  have hl1 := okL_le hL1
  have hl2 := okL_le hL2
  have hbd2 : S + 2 * ((tbN (sumF gk 25) (tTot R C (fun r => sumF (fun k => gk (5 * r + k)) C) (fun c => sumF (fun k => gk (5 * k + c)) R)) ((R * C + 9) / 10) NL) - NL) ≤ 502144 := by omega
  refine ⟨46, 1117, 1, 2 * ((tbN (sumF gk 25) (tTot R C (fun r => sumF (fun k => gk (5 * r + k)) C) (fun c => sumF (fun k => gk (5 * k + c)) R)) ((R * C + 9) / 10) NL) - NL), _, _, by decide, by decide, by decide, hbd2, hx0, Ctr.reent' 16 e16 hf16 hct (c_X11_tables B ad ct0 178 hx gk R C (Nat.le_refl _) g1 g2 hR5 hC5 hRp hCp hkl hss hT6 hT2 rs0 cl0 v0 gt R0 C0 co0 F0 cz w1 w2 w3 w4 w5 w6 hwr w9 Rk Ck sd cn NL g c1 c2 hNL th te sta ask b1 b2 (fun t ht => ⟨_, _, hF t ht⟩)), ?_⟩
  intro v ad' ct' n' hp
  obtain ⟨rfl, r, rfl, hr⟩ := hp
  rcases hr with ⟨hT0, hr, ea, rfl⟩ | ⟨hTp, hTt, hr, ea, F_, rs, cl, e11, e13, e14, hc⟩ | ⟨hTp, hTt, hr, hAd, F_, rs, cl, v_3, g_3, vs, wv, e11, e13, e14, e15, hrs_, h17, hFS, hsT, e88, hf0, hf1, hf2, hf3, hc⟩
  · obtain rfl := ea.symm
    have hms0 : (tbN (sumF gk 25) (tTot R C (fun r => sumF (fun k => gk (5 * r + k)) C) (fun c => sumF (fun k => gk (5 * k + c)) R)) ((R * C + 9) / 10) NL) = NL := if_neg (by omega)
    refine ⟨rfl, rfl, r, rfl, 4, 97, _, _, by decide, by decide, h0, c_X12_tables B ad2 ct2 33 f x1 x2 x3 x4 gc gu gw x12 x13 x14 x15 fk fa x18 x19 x20 x21 (Nat.le_refl _) h0 y1 y2 y3 y4 g3 b6 b7 y12 y13 y14 y15 c3 c4 y18 y19 y20 y21 R C T g4 g5 g6 hR5 hC5 hRp hCp hgb hgT hT60, ?_⟩
    intro v2 ad2' ct2' n2' hq
    obtain ⟨rfl, rfl, q, rfl, hq⟩ := hq
    rw [hms0, Nat.sub_self]
    rcases hq with ⟨-, rfl, rfl⟩ | ⟨h2, -⟩ | ⟨h2, -⟩
    · exact ⟨rfl, rfl, by rw [hr], hJ0⟩
    · omega
    · omega
  · obtain rfl := ea.symm
    have hms0 : (tbN (sumF gk 25) (tTot R C (fun r => sumF (fun k => gk (5 * r + k)) C) (fun c => sumF (fun k => gk (5 * k + c)) R)) ((R * C + 9) / 10) NL) = NL := if_neg (by omega)
    refine ⟨rfl, rfl, r, rfl, 4, 97, _, _, by decide, by decide, h0, c_X12_tables B ad2 ct2 33 f x1 x2 x3 x4 gc gu gw x12 x13 x14 x15 fk fa x18 x19 x20 x21 (Nat.le_refl _) h0 y1 y2 y3 y4 g3 b6 b7 y12 y13 y14 y15 c3 c4 y18 y19 y20 y21 R C T g4 g5 g6 hR5 hC5 hRp hCp hgb hgT hT60, ?_⟩
    intro v2 ad2' ct2' n2' hq
    obtain ⟨rfl, rfl, q, rfl, hq⟩ := hq
    rw [hms0, Nat.sub_self]
    rcases hq with ⟨h2, -⟩ | ⟨-, h2, rfl, ⟨v_, h_, rm_, cm_, eq12, eq13, eq14, eq15⟩, hr_⟩ | ⟨-, h2, -⟩
    · omega
    · refine ⟨rfl, rfl, by rw [hr], ⟨f, NL, N1, N2, (hc 0 (by decide) (by decide) (by decide)).trans hx, (hr_ 0 (by decide) (by decide) (by decide) (by decide)).trans h0, hS, hNL, (by rw [hc 1 (by decide) (by decide) (by decide), hc 2 (by decide) (by decide) (by decide), hr_ 5 (by decide) (by decide) (by decide) (by decide)]; exact hG), (by rw [hc 3 (by decide) (by decide) (by decide), hc 4 (by decide) (by decide) (by decide), hc 5 (by decide) (by decide) (by decide), hc 6 (by decide) (by decide) (by decide), hr_ 6 (by decide) (by decide) (by decide) (by decide), hr_ 7 (by decide) (by decide) (by decide) (by decide)]; exact hSm), (by rw [hc 7 (by decide) (by decide) (by decide), hc 8 (by decide) (by decide) (by decide), hr_ 8 (by decide) (by decide) (by decide) (by decide)]; exact hD), (by rw [hc 9 (by decide) (by decide) (by decide), hc 10 (by decide) (by decide) (by decide), hr_ 31 (by decide) (by decide) (by decide) (by decide)]; exact hK), ⟨rs, cl, v0, gt, R, C, gk 0, F_, cz, _, e11, (hc 12 (by decide) (by decide) (by decide)).trans w2, w3, e13, e14, (hc 15 (by decide) (by decide) (by decide)).trans w6, (hc 16 (by decide) (by decide) (by decide)).trans hwr, fun j hj => rfl, fun i hi => by obtain ⟨x, h⟩ := w9 i hi; exact ⟨x, h.frame (hc _ (by omega) (by omega) (by omega)) (hc _ (by omega) (by omega) (by omega))⟩⟩, (by rw [hc 79 (by decide) (by decide) (by decide), hc 80 (by decide) (by decide) (by decide), hr_ 16 (by decide) (by decide) (by decide) (by decide), hr_ 17 (by decide) (by decide) (by decide) (by decide)]; exact hC), hR.move (fun _ _ => rfl) (fun r h1 h2 => hc r (by omega) (by omega) (by omega)) (hr_ 9 (by decide) (by decide) (by decide) (by decide)) (hr_ 10 (by decide) (by decide) (by decide) (by decide)) (hr_ 11 (by decide) (by decide) (by decide) (by decide)), hE.move (fun _ _ _ => rfl) (fun r h1 h2 => hc r (by omega) (by omega) (by omega)), hN.move (fun _ _ => rfl) (fun r h1 h2 => hc r (by omega) (by omega) (by omega)) (hr_ 26 (by decide) (by decide) (by decide) (by decide)) (hr_ 27 (by decide) (by decide) (by decide) (by decide)) (by obtain ⟨_, _, _, _, _, _, ro, _, _, _, _, _, _, _, _, hro, _⟩ := hN; exact ⟨ro, (hr_ 28 (by decide) (by decide) (by decide) (by decide)).trans hro⟩), hX.upd (fun r hr => Or.inl (hr_ r (by omega) (by omega) (by omega) (by omega))) (fun r hr => by rcases hr with rfl | rfl <;> first | exact Or.inr ⟨_, eq12⟩ | exact Or.inr ⟨_, eq13⟩ | exact Or.inl (hr_ _ (by decide) (by decide) (by decide) (by decide))) (fun r hr => by rcases hr with rfl | rfl <;> first | exact Or.inr ⟨_, eq14⟩ | exact Or.inr ⟨_, eq15⟩ | exact Or.inl (hr_ _ (by decide) (by decide) (by decide) (by decide))) (fun r hr => Or.inl (hr_ r (by omega) (by omega) (by omega) (by omega))) (Or.inl (hr_ 24 (by decide) (by decide) (by decide) (by decide))) (fun r hr => Or.inl (hr_ r (by omega) (by omega) (by omega) (by omega))) (Or.inl (hr_ 32 (by decide) (by decide) (by decide) (by decide)))⟩⟩
    · omega
  · have htb : (tbN (sumF gk 25) (tTot R C (fun r => sumF (fun k => gk (5 * r + k)) C) (fun c => sumF (fun k => gk (5 * k + c)) R)) ((R * C + 9) / 10) NL) = rnL NL ((R * C + 9) / 10 * (tTot R C (fun r => sumF (fun k => gk (5 * r + k)) C) (fun c => sumF (fun k => gk (5 * k + c)) R))) := if_pos ⟨hTp, hTt⟩
    refine ⟨rfl, hAd 0 (by decide), r, rfl, 4, 97, _, _, by decide, by decide, h0, c_X12_tables B ad2 ct2 33 f x1 x2 x3 x4 gc gu gw x12 x13 x14 x15 fk fa x18 x19 x20 x21 (Nat.le_refl _) h0 y1 y2 y3 y4 g3 b6 b7 y12 y13 y14 y15 c3 c4 y18 y19 y20 y21 R C T g4 g5 g6 hR5 hC5 hRp hCp hgb hgT hT60, ?_⟩
    intro v2 ad2' ct2' n2' hq
    obtain ⟨rfl, rfl, q, rfl, hq⟩ := hq
    rcases hq with ⟨h2, -⟩ | ⟨-, h2, -⟩ | ⟨-, -, hqv, F, fk_, fa_, cs_, gq_, gl_, go_, gt_, gu_, gw_, v_, h_, rm_, cm_, tp_, wt_, sn_, wh_, e0, eq1, eq2, eq3, eq4, eq9, eq10, eq12, eq13, eq14, eq15, eq16, eq17, eq18, eq19, eq20, eq21, ⟨f25_, f26_, f27_, f12_, f13_, f14_, hfF⟩, hcs, hres_, hr_⟩
    · omega
    · omega
    · have hKP := hFS.2.2.2.2.2.2.2
      rw [← hTT] at hcs hres_
      have hg00 : gc 0 = gk 0 := by have := hgg 0 0 hRp hCp; rw [Nat.mul_zero] at this; exact this.symm
      have hgv : ∀ k, k < C * R → gv gk C k = gc k := fun k hk => by
        have hm : k % C < C := Nat.mod_lt _ hCp
        have hd : k / C < R := (Nat.div_lt_iff_lt_mul hCp).mpr (by rw [Nat.mul_comm]; exact hk)
        have := hgg (k / C) (k % C) hd hm
        rw [Nat.div_add_mod] at this
        exact this
      have hrs2 : ∀ r, r < R → rs r = (fun r => sumF (fun k => gc (C * r + k)) C) r := fun r hr => (hrs_ r hr).trans (hGR r hr)
      have hvv : ∀ j, j < (tTot R C (fun r => sumF (fun k => gk (5 * r + k)) C) (fun c => sumF (fun k => gk (5 * k + c)) R)) → ∀ k, k < C * R → vs j k = cs_ j k := fun j hj => by
        obtain ⟨a1, a2, -⟩ := hKP j hj
        obtain ⟨b1_, b2_, -⟩ := hcs j hj
        have a3 := a1.mg (R := R) hCp (Nat.le_refl _) hrs2 hGC
        rw [tIdx_mg (R := R) hCp hrs2 hGC] at a2
        exact idx_inj hCp a3 b1_ (a2.trans b2_.symm)
      have hcd : facP (fun c => sumF (fun k => gk (5 * k + c)) R) C = facP (fun c => sumF (fun k => gc (C * k + c)) R) C := facP_congr C hGC
      have hrd : facP (fun r => sumF (fun k => gk (5 * r + k)) C) R = facP (fun r => sumF (fun k => gc (C * r + k)) C) R := facP_congr R hGR
      have hdv : ∀ j, j < (tTot R C (fun r => sumF (fun k => gk (5 * r + k)) C) (fun c => sumF (fun k => gk (5 * k + c)) R)) → facP (cs_ j) (C * R) ∣ facP (fun c => sumF (fun k => gk (5 * k + c)) R) C := fun j hj => by rw [hcd]; exact tab_dvd hCp (val_fit hCp (hcs j hj).1)
      have hdg : facP gc (C * R) ∣ facP (fun c => sumF (fun k => gk (5 * k + c)) R) C := by rw [hcd]; exact tab_dvd hCp (fun r c hr hc => own_fit hr hc)
      have hwv : ∀ j, j < (tTot R C (fun r => sumF (fun k => gk (5 * r + k)) C) (fun c => sumF (fun k => gk (5 * k + c)) R)) → Wc (fun c => sumF (fun k => gk (5 * k + c)) R) C (C * R) (vs j) = Wc (fun c => sumF (fun k => gk (5 * k + c)) R) C (C * R) (cs_ j) := fun j hj => Wc_congr (hvv j hj)
      have hSN : (Wc (fun c => sumF (fun k => gk (5 * k + c)) R) C (C * R) (gv gk C)) = Wc (fun c => sumF (fun k => gk (5 * k + c)) R) C (C * R) gc := Wc_congr hgv
      have hN0 : 0 < C * R := Nat.mul_pos hCp hRp
      have hFp : 0 < facP (fun r => sumF (fun k => gc (C * r + k)) C) R := facP_pos _ _
      have hfT : fac T = facP (fun r => sumF (fun k => gc (C * r + k)) C) R * (aP (fun r => sumF (fun k => gk (5 * r + k)) C) (sumF gk 25) R) := by
        have h := aP_fac (rs := (fun r => sumF (fun k => gk (5 * r + k)) C)) (T := sumF gk 25) R (by omega)
        rw [show sumF gk 25 - sumF (fun r => sumF (fun k => gk (5 * r + k)) C) R = 0 by omega, hrd] at h
        rw [← hgs, ← h]
        show aP (fun r => sumF (fun k => gk (5 * r + k)) C) (sumF gk 25) R * (facP (fun r => sumF (fun k => gc (C * r + k)) C) R * 1) = _
        rw [Nat.mul_one, Nat.mul_comm]
      have hts : ∀ t, t < 4 → tSum (facP (fun r => sumF (fun k => gc (C * r + k)) C) R * facP (fun c => sumF (fun k => gc (C * k + c)) R) C) (C * R) gc cs_ (tTot R C (fun r => sumF (fun k => gk (5 * r + k)) C) (fun c => sumF (fun k => gk (5 * k + c)) R)) t = facP (fun r => sumF (fun k => gc (C * r + k)) C) R * (xt (sFar (fun c => sumF (fun k => gk (5 * k + c)) R) C (C * R) (Wc (fun c => sumF (fun k => gk (5 * k + c)) R) C (C * R) (gv gk C)) vs (tTot R C (fun r => sumF (fun k => gk (5 * r + k)) C) (fun c => sumF (fun k => gk (5 * k + c)) R))) (sLow (fun c => sumF (fun k => gk (5 * k + c)) R) C (C * R) (gk 0) vs (tTot R C (fun r => sumF (fun k => gk (5 * r + k)) C) (fun c => sumF (fun k => gk (5 * k + c)) R))) (sHigh (fun c => sumF (fun k => gk (5 * k + c)) R) C (C * R) (gk 0) vs (tTot R C (fun r => sumF (fun k => gk (5 * r + k)) C) (fun c => sumF (fun k => gk (5 * k + c)) R))) (Wc (fun c => sumF (fun k => gk (5 * k + c)) R) C (C * R) (gv gk C))) t := by
        rw [← hcd]
        refine four ?_ ?_ ?_ ?_
        · exact ts_0 hFp hdv hdg hwv hSN
        · rw [ts_1 hdv hwv (fun j hj => hvv j hj 0 hN0), hg00]; rfl
        · rw [ts_2 hdv hwv (fun j hj => hvv j hj 0 hN0), hg00]; rfl
        · rw [ts_3 hdg, ← hSN]; rfl
      have hnv : ∀ t, t < 4 → nv gu_ (40 * t) = (xt (sFar (fun c => sumF (fun k => gk (5 * k + c)) R) C (C * R) (Wc (fun c => sumF (fun k => gk (5 * k + c)) R) C (C * R) (gv gk C)) vs (tTot R C (fun r => sumF (fun k => gk (5 * r + k)) C) (fun c => sumF (fun k => gk (5 * k + c)) R))) (sLow (fun c => sumF (fun k => gk (5 * k + c)) R) C (C * R) (gk 0) vs (tTot R C (fun r => sumF (fun k => gk (5 * r + k)) C) (fun c => sumF (fun k => gk (5 * k + c)) R))) (sHigh (fun c => sumF (fun k => gk (5 * k + c)) R) C (C * R) (gk 0) vs (tTot R C (fun r => sumF (fun k => gk (5 * r + k)) C) (fun c => sumF (fun k => gk (5 * k + c)) R))) (Wc (fun c => sumF (fun k => gk (5 * k + c)) R) C (C * R) (gv gk C))) t / Nat.gcd ((xt (sFar (fun c => sumF (fun k => gk (5 * k + c)) R) C (C * R) (Wc (fun c => sumF (fun k => gk (5 * k + c)) R) C (C * R) (gv gk C)) vs (tTot R C (fun r => sumF (fun k => gk (5 * r + k)) C) (fun c => sumF (fun k => gk (5 * k + c)) R))) (sLow (fun c => sumF (fun k => gk (5 * k + c)) R) C (C * R) (gk 0) vs (tTot R C (fun r => sumF (fun k => gk (5 * r + k)) C) (fun c => sumF (fun k => gk (5 * k + c)) R))) (sHigh (fun c => sumF (fun k => gk (5 * k + c)) R) C (C * R) (gk 0) vs (tTot R C (fun r => sumF (fun k => gk (5 * r + k)) C) (fun c => sumF (fun k => gk (5 * k + c)) R))) (Wc (fun c => sumF (fun k => gk (5 * k + c)) R) C (C * R) (gv gk C))) t) (aP (fun r => sumF (fun k => gk (5 * r + k)) C) (sumF gk 25) R) ∧ nv gw_ (40 * t) = (aP (fun r => sumF (fun k => gk (5 * r + k)) C) (sumF gk 25) R) / Nat.gcd ((xt (sFar (fun c => sumF (fun k => gk (5 * k + c)) R) C (C * R) (Wc (fun c => sumF (fun k => gk (5 * k + c)) R) C (C * R) (gv gk C)) vs (tTot R C (fun r => sumF (fun k => gk (5 * r + k)) C) (fun c => sumF (fun k => gk (5 * k + c)) R))) (sLow (fun c => sumF (fun k => gk (5 * k + c)) R) C (C * R) (gk 0) vs (tTot R C (fun r => sumF (fun k => gk (5 * r + k)) C) (fun c => sumF (fun k => gk (5 * k + c)) R))) (sHigh (fun c => sumF (fun k => gk (5 * k + c)) R) C (C * R) (gk 0) vs (tTot R C (fun r => sumF (fun k => gk (5 * r + k)) C) (fun c => sumF (fun k => gk (5 * k + c)) R))) (Wc (fun c => sumF (fun k => gk (5 * k + c)) R) C (C * R) (gv gk C))) t) (aP (fun r => sumF (fun k => gk (5 * r + k)) C) (sumF gk 25) R) := fun t ht => by
        obtain ⟨-, -, o3, o4⟩ := hres_ t ht
        rw [hts t ht, hfT] at o3 o4
        have h := red (F := facP (fun r => sumF (fun k => gc (C * r + k)) C) R) (x := (xt (sFar (fun c => sumF (fun k => gk (5 * k + c)) R) C (C * R) (Wc (fun c => sumF (fun k => gk (5 * k + c)) R) C (C * R) (gv gk C)) vs (tTot R C (fun r => sumF (fun k => gk (5 * r + k)) C) (fun c => sumF (fun k => gk (5 * k + c)) R))) (sLow (fun c => sumF (fun k => gk (5 * k + c)) R) C (C * R) (gk 0) vs (tTot R C (fun r => sumF (fun k => gk (5 * r + k)) C) (fun c => sumF (fun k => gk (5 * k + c)) R))) (sHigh (fun c => sumF (fun k => gk (5 * k + c)) R) C (C * R) (gk 0) vs (tTot R C (fun r => sumF (fun k => gk (5 * r + k)) C) (fun c => sumF (fun k => gk (5 * k + c)) R))) (Wc (fun c => sumF (fun k => gk (5 * k + c)) R) C (C * R) (gv gk C))) t) (A := (aP (fun r => sumF (fun k => gk (5 * r + k)) C) (sumF gk 25) R)) hFp
        exact ⟨o3.trans h.1, o4.trans h.2⟩
      have hA := aP_Sm (rs := (fun r => sumF (fun k => gk (5 * r + k)) C)) (T := sumF gk 25) (R := R) (by omega) (by omega)
      have hA8 := aP_180 (rs := (fun r => sumF (fun k => gk (5 * r + k)) C)) (T := sumF gk 25) (R := R) hR5 (by omega) (by omega)
      have hSl : (Wc (fun c => sumF (fun k => gk (5 * k + c)) R) C (C * R) (gv gk C)) ≤ (aP (fun r => sumF (fun k => gk (5 * r + k)) C) (sumF gk 25) R) := by
        have hvo := val_own (gc := gc) (R := R) hCp
        have hi := idx_ltc hCp hvo
        have hi2 : tIdx (C * R) C (fun r => sumF (fun k => gc (C * r + k)) C) (fun c => sumF (fun k => gc (C * k + c)) R) gc < (tTot R C (fun r => sumF (fun k => gk (5 * r + k)) C) (fun c => sumF (fun k => gk (5 * k + c)) R)) := by rw [hTT]; exact Nat.lt_of_lt_of_le hi (Nat.le_of_eq (tTot_of hCp (fun _ _ => rfl) (fun _ _ => rfl) gc))
        obtain ⟨b1_, b2_, -⟩ := hcs _ hi2
        have he := idx_inj hCp b1_ hvo b2_
        have hw := hwv _ hi2
        rw [Wc_congr he, ← hSN] at hw
        rw [← hw, ← hsT]
        exact sumF_mem (f := fun j => Wc (fun c => sumF (fun k => gk (5 * k + c)) R) C (C * R) (vs j)) hi2
      have hok4 : ∀ t, t < 4 → 0 < (aP (fun r => sumF (fun k => gk (5 * r + k)) C) (sumF gk 25) R) / Nat.gcd ((xt (sFar (fun c => sumF (fun k => gk (5 * k + c)) R) C (C * R) (Wc (fun c => sumF (fun k => gk (5 * k + c)) R) C (C * R) (gv gk C)) vs (tTot R C (fun r => sumF (fun k => gk (5 * r + k)) C) (fun c => sumF (fun k => gk (5 * k + c)) R))) (sLow (fun c => sumF (fun k => gk (5 * k + c)) R) C (C * R) (gk 0) vs (tTot R C (fun r => sumF (fun k => gk (5 * r + k)) C) (fun c => sumF (fun k => gk (5 * k + c)) R))) (sHigh (fun c => sumF (fun k => gk (5 * k + c)) R) C (C * R) (gk 0) vs (tTot R C (fun r => sumF (fun k => gk (5 * r + k)) C) (fun c => sumF (fun k => gk (5 * k + c)) R))) (Wc (fun c => sumF (fun k => gk (5 * k + c)) R) C (C * R) (gv gk C))) t) (aP (fun r => sumF (fun k => gk (5 * r + k)) C) (sumF gk 25) R) ∧ (xt (sFar (fun c => sumF (fun k => gk (5 * k + c)) R) C (C * R) (Wc (fun c => sumF (fun k => gk (5 * k + c)) R) C (C * R) (gv gk C)) vs (tTot R C (fun r => sumF (fun k => gk (5 * r + k)) C) (fun c => sumF (fun k => gk (5 * k + c)) R))) (sLow (fun c => sumF (fun k => gk (5 * k + c)) R) C (C * R) (gk 0) vs (tTot R C (fun r => sumF (fun k => gk (5 * r + k)) C) (fun c => sumF (fun k => gk (5 * k + c)) R))) (sHigh (fun c => sumF (fun k => gk (5 * k + c)) R) C (C * R) (gk 0) vs (tTot R C (fun r => sumF (fun k => gk (5 * r + k)) C) (fun c => sumF (fun k => gk (5 * k + c)) R))) (Wc (fun c => sumF (fun k => gk (5 * k + c)) R) C (C * R) (gv gk C))) t / Nat.gcd ((xt (sFar (fun c => sumF (fun k => gk (5 * k + c)) R) C (C * R) (Wc (fun c => sumF (fun k => gk (5 * k + c)) R) C (C * R) (gv gk C)) vs (tTot R C (fun r => sumF (fun k => gk (5 * r + k)) C) (fun c => sumF (fun k => gk (5 * k + c)) R))) (sLow (fun c => sumF (fun k => gk (5 * k + c)) R) C (C * R) (gk 0) vs (tTot R C (fun r => sumF (fun k => gk (5 * r + k)) C) (fun c => sumF (fun k => gk (5 * k + c)) R))) (sHigh (fun c => sumF (fun k => gk (5 * k + c)) R) C (C * R) (gk 0) vs (tTot R C (fun r => sumF (fun k => gk (5 * r + k)) C) (fun c => sumF (fun k => gk (5 * k + c)) R))) (Wc (fun c => sumF (fun k => gk (5 * k + c)) R) C (C * R) (gv gk C))) t) (aP (fun r => sumF (fun k => gk (5 * r + k)) C) (sumF gk 25) R) ≤ (aP (fun r => sumF (fun k => gk (5 * r + k)) C) (sumF gk 25) R) / Nat.gcd ((xt (sFar (fun c => sumF (fun k => gk (5 * k + c)) R) C (C * R) (Wc (fun c => sumF (fun k => gk (5 * k + c)) R) C (C * R) (gv gk C)) vs (tTot R C (fun r => sumF (fun k => gk (5 * r + k)) C) (fun c => sumF (fun k => gk (5 * k + c)) R))) (sLow (fun c => sumF (fun k => gk (5 * k + c)) R) C (C * R) (gk 0) vs (tTot R C (fun r => sumF (fun k => gk (5 * r + k)) C) (fun c => sumF (fun k => gk (5 * k + c)) R))) (sHigh (fun c => sumF (fun k => gk (5 * k + c)) R) C (C * R) (gk 0) vs (tTot R C (fun r => sumF (fun k => gk (5 * r + k)) C) (fun c => sumF (fun k => gk (5 * k + c)) R))) (Wc (fun c => sumF (fun k => gk (5 * k + c)) R) C (C * R) (gv gk C))) t) (aP (fun r => sumF (fun k => gk (5 * r + k)) C) (sumF gk 25) R) ∧ (xt (sFar (fun c => sumF (fun k => gk (5 * k + c)) R) C (C * R) (Wc (fun c => sumF (fun k => gk (5 * k + c)) R) C (C * R) (gv gk C)) vs (tTot R C (fun r => sumF (fun k => gk (5 * r + k)) C) (fun c => sumF (fun k => gk (5 * k + c)) R))) (sLow (fun c => sumF (fun k => gk (5 * k + c)) R) C (C * R) (gk 0) vs (tTot R C (fun r => sumF (fun k => gk (5 * r + k)) C) (fun c => sumF (fun k => gk (5 * k + c)) R))) (sHigh (fun c => sumF (fun k => gk (5 * k + c)) R) C (C * R) (gk 0) vs (tTot R C (fun r => sumF (fun k => gk (5 * r + k)) C) (fun c => sumF (fun k => gk (5 * k + c)) R))) (Wc (fun c => sumF (fun k => gk (5 * k + c)) R) C (C * R) (gv gk C))) t / Nat.gcd ((xt (sFar (fun c => sumF (fun k => gk (5 * k + c)) R) C (C * R) (Wc (fun c => sumF (fun k => gk (5 * k + c)) R) C (C * R) (gv gk C)) vs (tTot R C (fun r => sumF (fun k => gk (5 * r + k)) C) (fun c => sumF (fun k => gk (5 * k + c)) R))) (sLow (fun c => sumF (fun k => gk (5 * k + c)) R) C (C * R) (gk 0) vs (tTot R C (fun r => sumF (fun k => gk (5 * r + k)) C) (fun c => sumF (fun k => gk (5 * k + c)) R))) (sHigh (fun c => sumF (fun k => gk (5 * k + c)) R) C (C * R) (gk 0) vs (tTot R C (fun r => sumF (fun k => gk (5 * r + k)) C) (fun c => sumF (fun k => gk (5 * k + c)) R))) (Wc (fun c => sumF (fun k => gk (5 * k + c)) R) C (C * R) (gv gk C))) t) (aP (fun r => sumF (fun k => gk (5 * r + k)) C) (sumF gk 25) R) < 2 ^ 180 ∧ (aP (fun r => sumF (fun k => gk (5 * r + k)) C) (sumF gk 25) R) / Nat.gcd ((xt (sFar (fun c => sumF (fun k => gk (5 * k + c)) R) C (C * R) (Wc (fun c => sumF (fun k => gk (5 * k + c)) R) C (C * R) (gv gk C)) vs (tTot R C (fun r => sumF (fun k => gk (5 * r + k)) C) (fun c => sumF (fun k => gk (5 * k + c)) R))) (sLow (fun c => sumF (fun k => gk (5 * k + c)) R) C (C * R) (gk 0) vs (tTot R C (fun r => sumF (fun k => gk (5 * r + k)) C) (fun c => sumF (fun k => gk (5 * k + c)) R))) (sHigh (fun c => sumF (fun k => gk (5 * k + c)) R) C (C * R) (gk 0) vs (tTot R C (fun r => sumF (fun k => gk (5 * r + k)) C) (fun c => sumF (fun k => gk (5 * k + c)) R))) (Wc (fun c => sumF (fun k => gk (5 * k + c)) R) C (C * R) (gv gk C))) t) (aP (fun r => sumF (fun k => gk (5 * r + k)) C) (sumF gk 25) R) < 2 ^ 180 := fun t ht => fr_ok (four (P := fun t => (xt (sFar (fun c => sumF (fun k => gk (5 * k + c)) R) C (C * R) (Wc (fun c => sumF (fun k => gk (5 * k + c)) R) C (C * R) (gv gk C)) vs (tTot R C (fun r => sumF (fun k => gk (5 * r + k)) C) (fun c => sumF (fun k => gk (5 * k + c)) R))) (sLow (fun c => sumF (fun k => gk (5 * k + c)) R) C (C * R) (gk 0) vs (tTot R C (fun r => sumF (fun k => gk (5 * r + k)) C) (fun c => sumF (fun k => gk (5 * k + c)) R))) (sHigh (fun c => sumF (fun k => gk (5 * k + c)) R) C (C * R) (gk 0) vs (tTot R C (fun r => sumF (fun k => gk (5 * r + k)) C) (fun c => sumF (fun k => gk (5 * k + c)) R))) (Wc (fun c => sumF (fun k => gk (5 * k + c)) R) C (C * R) (gv gk C))) t ≤ (aP (fun r => sumF (fun k => gk (5 * r + k)) C) (sumF gk 25) R)) (by rw [← hsT]; exact far_le) (by rw [← hsT]; exact low_le) (by rw [← hsT]; exact high_le) hSl t ht) hA.1 hA8
      refine ⟨rfl, rfl, by rw [hqv, hr, hTT], ⟨_, (tbN (sumF gk 25) (tTot R C (fun r => sumF (fun k => gk (5 * r + k)) C) (fun c => sumF (fun k => gk (5 * k + c)) R)) ((R * C + 9) / 10) NL), N1, N2, (hc 0 (by decide)).trans (hx.trans (xO_cg (fun r h => hAd r (by omega))).symm), e0, (by omega), hnb.2, (by rw [hAd 2 (by decide), hc 1 (by decide), hc 2 (by decide), hr_ 5 (by decide), hfF 4 (by decide) (by decide) (by decide) (by decide) (by decide) (by decide), hfF 5 (by decide) (by decide) (by decide) (by decide) (by decide) (by decide), hfF 7 (by decide) (by decide) (by decide) (by decide) (by decide) (by decide)]; exact hG), (by rw [hAd 4 (by decide), hAd 6 (by decide), hc 3 (by decide), hc 4 (by decide), hc 5 (by decide), hc 6 (by decide), hr_ 6 (by decide), hr_ 7 (by decide)]; exact hSm), (by rw [hAd 8 (by decide), hc 7 (by decide), hc 8 (by decide), hr_ 8 (by decide), hfF 11 (by decide) (by decide) (by decide) (by decide) (by decide) (by decide)]; exact hD), (by rw [hAd 10 (by decide), hc 9 (by decide), hc 10 (by decide), hr_ 31 (by decide), hfF 45 (by decide) (by decide) (by decide) (by decide) (by decide) (by decide)]; exact hK), ⟨rs, cl, v_3, gt, R, C, gk 0, F_, .ref (ad' 79), _, e11, (hc 12 (by decide)).trans w2, w3, e13, e14, e15, (hc 16 (by decide)).trans hwr, fun j hj => by rw [hAd _ (by omega)], fun i hi => ?_⟩, ⟨R, C, (R * C + 9) / 10, (tTot R C (fun r => sumF (fun k => gk (5 * r + k)) C) (fun c => sumF (fun k => gk (5 * k + c)) R)), g_3, vs, fun j => ccode (Wc (fun c => sumF (fun k => gk (5 * k + c)) R) C (C * R) (vs j)) (Wc (fun c => sumF (fun k => gk (5 * k + c)) R) C (C * R) (gv gk C)), fk_, fa_, hFS.2.2.2.2.2.1, hFS.2.2.2.2.2.2.1, eq16, eq17, f25_.trans (by rw [hTT]), f26_, f27_, hR5, hC5, rfl, hTt, fun _ => by omega, by rw [Nat.mul_comm, htb]; exact rnL_le.2, fun j hj => ⟨(hKP j hj).2.2, fun k hk => ?_, ccode_le⟩, fun j k hj hk => ?_, fun j hj => ?_⟩, ⟨⟨_, _, _, _, _, (hc 81 (by decide)).trans (hso.trans (by rw [hAd 82 (by decide), hAd 85 (by decide)]))⟩, ⟨sz1, sz2, s1, t1, s2, t2, (hc 82 (by decide)).trans (h82.trans (by rw [hAd 83 (by decide), hAd 84 (by decide)])), (hc 83 (by decide)).trans h83, (hc 84 (by decide)).trans h84, (hc 85 (by decide)).trans (h85.trans (by rw [hAd 86 (by decide), hAd 87 (by decide)])), (hc 86 (by decide)).trans h86, (hc 87 (by decide)).trans h87⟩, hL1, hL2, 1, nI 0, nI (gk 0), nI (sumF gk 25), (fun t => (xt (sFar (fun c => sumF (fun k => gk (5 * k + c)) R) C (C * R) (Wc (fun c => sumF (fun k => gk (5 * k + c)) R) C (C * R) (gv gk C)) vs (tTot R C (fun r => sumF (fun k => gk (5 * r + k)) C) (fun c => sumF (fun k => gk (5 * k + c)) R))) (sLow (fun c => sumF (fun k => gk (5 * k + c)) R) C (C * R) (gk 0) vs (tTot R C (fun r => sumF (fun k => gk (5 * r + k)) C) (fun c => sumF (fun k => gk (5 * k + c)) R))) (sHigh (fun c => sumF (fun k => gk (5 * k + c)) R) C (C * R) (gk 0) vs (tTot R C (fun r => sumF (fun k => gk (5 * r + k)) C) (fun c => sumF (fun k => gk (5 * k + c)) R))) (Wc (fun c => sumF (fun k => gk (5 * k + c)) R) C (C * R) (gv gk C))) t / Nat.gcd ((xt (sFar (fun c => sumF (fun k => gk (5 * k + c)) R) C (C * R) (Wc (fun c => sumF (fun k => gk (5 * k + c)) R) C (C * R) (gv gk C)) vs (tTot R C (fun r => sumF (fun k => gk (5 * r + k)) C) (fun c => sumF (fun k => gk (5 * k + c)) R))) (sLow (fun c => sumF (fun k => gk (5 * k + c)) R) C (C * R) (gk 0) vs (tTot R C (fun r => sumF (fun k => gk (5 * r + k)) C) (fun c => sumF (fun k => gk (5 * k + c)) R))) (sHigh (fun c => sumF (fun k => gk (5 * k + c)) R) C (C * R) (gk 0) vs (tTot R C (fun r => sumF (fun k => gk (5 * r + k)) C) (fun c => sumF (fun k => gk (5 * k + c)) R))) (Wc (fun c => sumF (fun k => gk (5 * k + c)) R) C (C * R) (gv gk C))) t) (aP (fun r => sumF (fun k => gk (5 * r + k)) C) (sumF gk 25) R)), (fun t => (aP (fun r => sumF (fun k => gk (5 * r + k)) C) (sumF gk 25) R) / Nat.gcd ((xt (sFar (fun c => sumF (fun k => gk (5 * k + c)) R) C (C * R) (Wc (fun c => sumF (fun k => gk (5 * k + c)) R) C (C * R) (gv gk C)) vs (tTot R C (fun r => sumF (fun k => gk (5 * r + k)) C) (fun c => sumF (fun k => gk (5 * k + c)) R))) (sLow (fun c => sumF (fun k => gk (5 * k + c)) R) C (C * R) (gk 0) vs (tTot R C (fun r => sumF (fun k => gk (5 * r + k)) C) (fun c => sumF (fun k => gk (5 * k + c)) R))) (sHigh (fun c => sumF (fun k => gk (5 * k + c)) R) C (C * R) (gk 0) vs (tTot R C (fun r => sumF (fun k => gk (5 * r + k)) C) (fun c => sumF (fun k => gk (5 * k + c)) R))) (Wc (fun c => sumF (fun k => gk (5 * k + c)) R) C (C * R) (gv gk C))) t) (aP (fun r => sumF (fun k => gk (5 * r + k)) C) (sumF gk 25) R)), gu_, gw_, gb, SS_, e88, (hc 89 (by decide)).trans (b2.trans (by rw [show (fun i => some (ad' (90 + 5 * i))) = (fun i => some (ad (90 + 5 * i))) from funext fun i => by rw [hAd _ (by omega)]])), Or.inr rfl, four hf0 hf1 hf2 hf3, fun t ht => ⟨(hok4 t ht).2.2.1, (hok4 t ht).2.2.2⟩, eq9, eq10, (hr_ 11 (by decide)).trans b8, (hfF 18 (by decide) (by decide) (by decide) (by decide) (by decide) (by decide)).trans b9, hS6, fun h => absurd h (by decide), fun _ => ⟨f12_, f13_.trans (by rw [hg00]), f14_.trans (by rw [hgs]), by rw [f12_]; decide, fun t ht => ⟨(hres_ t ht).1, (hres_ t ht).2.1, (hnv t ht).1, (hnv t ht).2, (hok4 t ht).1, (hok4 t ht).2.1⟩, fun h => absurd rfl h⟩⟩, hE.move (fun r h1 h2 => hAd r (by omega)) (fun r h1 h2 => hc r (by omega)), (by rw [hfF 40 (by decide) (by decide) (by decide) (by decide) (by decide) (by decide)]; exact hN.move (fun r h1 => hAd r (by omega)) (fun r h1 h2 => hc r (by omega)) (hr_ 26 (by decide)) (hr_ 27 (by decide)) (by obtain ⟨_, _, _, _, _, _, ro, _, _, _, _, _, _, _, _, hro, _⟩ := hN; exact ⟨ro, (hr_ 28 (by decide)).trans hro⟩)), hX.upd (fun r hr => by rcases hr with rfl | rfl | rfl | rfl | rfl | rfl | rfl | rfl | rfl <;> first | exact Or.inr ⟨_, eq1⟩ | exact Or.inr ⟨_, eq2⟩ | exact Or.inr ⟨_, eq3⟩ | exact Or.inr ⟨_, eq4⟩ | exact Or.inr ⟨_, eq18⟩ | exact Or.inr ⟨_, eq19⟩ | exact Or.inr ⟨_, eq20⟩ | exact Or.inr ⟨_, eq21⟩ | exact Or.inl (hr_ _ (by decide))) (fun r hr => by rcases hr with rfl | rfl <;> first | exact Or.inr ⟨_, eq12⟩ | exact Or.inr ⟨_, eq13⟩ | exact Or.inl (hr_ _ (by decide))) (fun r hr => by rcases hr with rfl | rfl <;> first | exact Or.inr ⟨_, eq14⟩ | exact Or.inr ⟨_, eq15⟩ | exact Or.inl (hr_ _ (by decide))) (fun r hr => Or.inl (hr_ r (by omega))) (Or.inl (hr_ 24 (by decide))) (fun r hr => Or.inl (hr_ r (by omega))) (Or.inl (hr_ 32 (by decide)))⟩⟩
      · rcases (show i = 0 ∨ i = 1 ∨ i = 2 ∨ i = 3 ∨ i = 4 ∨ 5 ≤ i by omega) with rfl | rfl | rfl | rfl | rfl | h
        · exact ⟨_, h17⟩
        · exact ⟨_, hFS.1⟩
        · exact ⟨_, hFS.2.1⟩
        · exact ⟨_, hFS.2.2.1⟩
        · exact ⟨_, hFS.2.2.2.1⟩
        · have := hFS.2.2.2.2.1 (i - 5) (by omega)
          rw [show 27 + 2 * (i - 5) = 17 + 2 * i by omega] at this
          exact ⟨_, this⟩
      · have hk2 : k < C * R := by rw [Nat.mul_comm]; exact hk
        rw [hvv j hj k hk2]
        have h5 := ((hcs j hj).1 k hk2).2
        unfold tHi tRest at h5
        have hd : k / C < R := (Nat.div_lt_iff_lt_mul hCp).mpr (by rw [Nat.mul_comm]; exact hk2)
        have h6 := sumF_mem (f := (fun r => sumF (fun k => gc (C * r + k)) C)) hd
        rw [hgT] at h6
        have h7 : cs_ j k ≤ (fun r => sumF (fun k => gc (C * r + k)) C) (k / C) := Nat.le_trans h5 (Nat.le_trans (Nat.min_le_left _ _) (Nat.sub_le _ _))
        exact Nat.lt_of_le_of_lt (Nat.le_trans h7 h6) (by omega)
      · have hk2 : k < C * R := by rw [Nat.mul_comm]; exact hk
        rw [(hcs j hj).2.2.1 k hk2, hvv j hj k hk2]
      · rw [(hcs j hj).2.2.2, ← hcd, wq (hdv j hj), wq hdg, cmp_mul hFp, code_cmp, hwv j hj, hSN]
