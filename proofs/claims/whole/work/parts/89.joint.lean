/-! the two sides together -/
theorem Ctr.reent {B : gB} {y : MethodName} {cc : ByteArray} {nL : Nat} {ret : Option FieldType} {fr lo mc ms : Nat} {ad : Nat → Nat} {ct : Nat → va_E} {n : Nat} {As : List Value} {post : gP} (r : Nat) {cA : ClassId} {N : Nat} {f f' : Nat → Option Nat} (h : ct r = .inl (cA, N, .inr (.inr (.inr (.inr f))))) (hf : ∀ j, j < N → f j = f' j) (hM : Ctr B y cc nL ret fr lo mc ms ad (va_up ct r (.inl (cA, N, .inr (.inr (.inr (.inr f')))))) n As post) : Ctr B y cc nL ret fr lo mc ms ad ct n As post := by
  intro sz p e a1 a2 a3 s m args below b1 b2 hP hK
  refine hM sz p e a1 a2 a3 s m args below b1 b2 ?_ hK
  obtain ⟨q0, q1, qP, qK, qD, qZ⟩ := hP
  refine ⟨q0, q1, fun i q hi => ?_, qK, ⟨fun i j p q hp hq e => ?_, fun _ _ _ => trivial⟩, qZ⟩
  · obtain ⟨a, rfl⟩ := gw_in hi
    have h1 := qP i _ (gw_at a)
    by_cases e : i = r
    · subst e
      rw [va_up_self]
      rw [h] at h1
      show s.heap[ad i]? = some (vp_cell _ _)
      have h2 : s.heap[ad i]? = some (vp_cell cA (N, .inr (.inr (.inr (.inr f))))) := h1
      rw [h2, vp_cell_q, vp_cell_q, arrV_cg (fun j hj => by rw [hf j hj])]
    · rw [va_up_ne _ _ e]; exact h1
  · obtain ⟨a, rfl⟩ := gw_in hp
    obtain ⟨b, rfl⟩ := gw_in hq
    exact qD.1 i j _ _ (gw_at a) (gw_at b) e
abbrev iA (B : gB) (N : Nat) (f : Nat → Int32) : va_E := .inl (B.2.1 0, N, .inl f)
abbrev iL (B : gB) (N : Nat) (g : Nat → Nat) : va_E := .inl (B.2.1 1, N, .inr (.inl (lF g)))
abbrev iB (B : gB) (N : Nat) (f : Nat → Int32) : va_E := .inl (B.2.1 2, N, .inl f)
abbrev iQ (B : gB) (t N : Nat) (f : Nat → Option Nat) : va_E := .inl (B.2.1 t, N, .inr (.inr (.inr (.inr f))))
abbrev xO (ad : Nat → Nat) : va_E := .inr (11, [.ref (ad 1), .ref (ad 3), .ref (ad 5), .ref (ad 7), .ref (ad 9), .ref (ad 11), .ref (ad 79), .ref (ad 81), .ref (ad 88), .ref (ad 110), .ref (ad 115)])
/-- THE TABLE -/
def jG (B : gB) (a2 : Nat) (e1 e2 e5 : va_E) (f4 f5 f7 : Int32) : Prop := ∃ (gk gc : Nat → Nat) (R C T : Nat), e1 = .inr (3, [.ref a2, .int (nI R), .int (nI C)]) ∧ e2 = iA B 25 (nF gk) ∧ e5 = iA B 25 (nF gc) ∧ f4 = nI R ∧ f5 = nI C ∧ f7 = nI T ∧ 0 < R ∧ R ≤ 5 ∧ 0 < C ∧ C ≤ 5 ∧ T ≤ 60 ∧ (∀ i j, i < R → j < C → gk (5 * i + j) = gc (C * i + j)) ∧ (∀ j, j < 25 → gc j ≤ 60) ∧ (∀ i j, i < 5 → j < 5 → (R ≤ i ∨ C ≤ j) → gk (5 * i + j) = 0) ∧ sumF (fun r => sumF (fun k => gc (C * r + k)) C) R = T
/-- SAMPLES -/
def jS (B : gB) (a4 a6 : Nat) (e3 e4 e5 e6 r6 r7 : va_E) : Prop := ∃ (kA kB : Nat) (fA fB fs : Nat → Int32) (km : Nat → Nat), e3 = .inr (5, [.ref a4, .int (nI kA)]) ∧ e4 = iA B 15 fA ∧ e5 = .inr (5, [.ref a6, .int (nI kB)]) ∧ e6 = iA B 15 fB ∧ r6 = iA B 30 fs ∧ r7 = iA B 2 (nF km) ∧ kA ≤ 15 ∧ kB ≤ 15 ∧ km 0 = kA ∧ km 1 = kB ∧ (∀ i, i < kA → fA i = fs i) ∧ (∀ i, i < kB → fB i = fs (15 + i)) ∧ ∀ j, j < 30 → (fs j).toInt.natAbs ≤ 1000
/-- PAIRS -/
def jD (B : gB) (a8 : Nat) (e7 e8 r8 : va_E) (f11 : Int32) : Prop := ∃ (kD : Nat) (fD fd : Nat → Int32), e7 = .inr (5, [.ref a8, .int (nI kD)]) ∧ e8 = iA B 30 fD ∧ r8 = iA B 30 fd ∧ f11 = nI kD ∧ kD ≤ 30 ∧ (∀ i, i < kD → fD i = fd i) ∧ ∀ j, j < 30 → (fd j).toInt.natAbs ≤ 2000
/-- CLAIMED -/
def jK (B : gB) (a10 : Nat) (e9 e10 r31 : va_E) (f45 : Int32) : Prop := ∃ (kK : Nat) (fK fc : Nat → Int32), e9 = .inr (5, [.ref a10, .int (nI kK)]) ∧ e10 = iA B 40 fK ∧ r31 = iA B 40 fc ∧ f45 = nI kK ∧ kK ≤ 40 ∧ ∀ i, i < kK → fK i = fc i
/-- the walk's own -/
def jW (B : gB) (ad : Nat → Nat) (ct : Nat → va_E) : Prop := ∃ (rs0 cl0 v0 gt : Nat → Nat) (R0 C0 co0 F : Nat) (cz : Value) (f : Nat → Option Nat), ct 11 = .inr (9, [.ref (ad 12), .ref (ad 13), .ref (ad 14), .ref (ad 15), .ref (ad 16), .int (nI R0), .int (nI C0), .int (nI co0), .int (nI F), cz, .ref (ad 17), .ref (ad 19), .ref (ad 21), .ref (ad 23), .ref (ad 25)]) ∧ ct 12 = iL B 1891 gt ∧ (∀ a b, a ≤ 60 → b ≤ a → gt (a * (a + 1) / 2 + b) = ch a b) ∧ ct 13 = iA B 5 (nF rs0) ∧ ct 14 = iA B 5 (nF cl0) ∧ ct 15 = iA B 25 (nF v0) ∧ ct 16 = iQ B 3 26 f ∧ (∀ j, j < 26 → f j = some (ad (27 + 2 * j))) ∧ ∀ i, i < 31 → ∃ x, isW B ad ct (17 + 2 * i) x
theorem jW.move {B : gB} {ad ad' : Nat → Nat} {ct ct' : Nat → va_E} (h : jW B ad ct) (hA : ∀ r, 11 ≤ r → r ≤ 78 → ad' r = ad r) (hC : ∀ r, 11 ≤ r → r ≤ 78 → ct' r = ct r) : jW B ad' ct' := by
  obtain ⟨rs0, cl0, v0, gt, R0, C0, co0, F, cz, f, h1, h2, h3, h4, h5, h6, h7, h8, h9⟩ := h
  refine ⟨rs0, cl0, v0, gt, R0, C0, co0, F, cz, f, ?_, (hC _ (by decide) (by decide)).trans h2, h3, (hC _ (by decide) (by decide)).trans h4, (hC _ (by decide) (by decide)).trans h5, (hC _ (by decide) (by decide)).trans h6, (hC _ (by decide) (by decide)).trans h7, fun j hj => by rw [hA _ (by omega) (by omega)]; exact h8 j hj, fun i hi => ?_⟩
  · rw [hC 11 (by decide) (by decide), hA 12 (by decide) (by decide), hA 13 (by decide) (by decide), hA 14 (by decide) (by decide), hA 15 (by decide) (by decide), hA 16 (by decide) (by decide), hA 17 (by decide) (by decide), hA 19 (by decide) (by decide), hA 21 (by decide) (by decide), hA 23 (by decide) (by decide), hA 25 (by decide) (by decide)]; exact h1
  · obtain ⟨x, hx⟩ := h9 i hi
    exact ⟨x, hx.move (hA _ (by omega) (by omega)) (hC _ (by omega) (by omega)) (hC _ (by omega) (by omega))⟩
/-- CASES -/
def jC (B : gB) (a80 : Nat) (e79 e80 r16 r17 : va_E) (f25 f26 f27 : Int32) (NL : Nat) : Prop := ∃ (Rk Ck sd cn : Nat) (g : Nat → Nat) (vs : Nat → Nat → Nat) (cs : Nat → Nat) (fk fa : Nat → Int32), e79 = .inr (0, [.ref a80, .int (nI Rk), .int (nI Ck), .int (nI sd), .int (nI cn)]) ∧ e80 = iL B NL g ∧ r16 = iB B 500000 fk ∧ r17 = iB B 20000 fa ∧ f25 = nI cn ∧ f26 = nI Rk ∧ f27 = nI Ck ∧ Rk ≤ 5 ∧ Ck ≤ 5 ∧ sd = (Rk * Ck + 9) / 10 ∧ cn ≤ 20000 ∧ (0 < cn → 0 < sd) ∧ cn * sd ≤ NL ∧ (∀ j, j < cn → (∀ i, i < sd → g (j * sd + i) = bval 64 (blk (vs j) (Rk * Ck) i (cs j)) 11) ∧ (∀ k, k < Rk * Ck → vs j k < 64) ∧ cs j ≤ 2) ∧ (∀ j k, j < cn → k < Rk * Ck → fk (25 * j + k) = nI (vs j k)) ∧ ∀ j, j < cn → fa j = nI (cs j) - nI 1
/-- RESULTS and the sums behind them -/
def jR (B : gB) (ad : Nat → Nat) (ct ct2 : Nat → va_E) (f12 f13 f14 f18 f19 : Int32) (N1 N2 : Nat) : Prop := (∃ (nx mk off : Int32) (ah al : Int64), ct 81 = .inr (8, [.ref (ad 82), .ref (ad 85), .int nx, .int mk, .int off, .long ah, .long al])) ∧ (∃ (sz1 sz2 : Nat) (s1 t1 s2 t2 : Nat → Nat), ct 82 = .inr (4, [.ref (ad 83), .ref (ad 84), .int (nI sz1)]) ∧ ct 83 = iA B N1 (nF s1) ∧ ct 84 = iA B N1 (nF t1) ∧ ct 85 = .inr (4, [.ref (ad 86), .ref (ad 87), .int (nI sz2)]) ∧ ct 86 = iA B N2 (nF s2) ∧ ct 87 = iA B N2 (nF t2)) ∧ okL N1 ∧ okL N2 ∧ ∃ (th te sta ask : Int32) (u l gu gw gb : Nat → Nat) (S : Nat), ct 88 = .inr (6, [.ref (ad 89), .int th, .int te, .int sta, .int ask]) ∧ ct 89 = iQ B 4 4 (fun i => some (ad (90 + 5 * i))) ∧ (th = 0 ∨ th = 1) ∧ (∀ t, t < 4 → isFr B ad ct (90 + 5 * t) (u t) (l t)) ∧ (∀ t, t < 4 → u t < 2 ^ 180 ∧ l t < 2 ^ 180) ∧ ct2 9 = iA B 160 (nF gu) ∧ ct2 10 = iA B 160 (nF gw) ∧ ct2 11 = iL B 60001 gb ∧ f18 = nI S ∧ S ≤ 60001 ∧ (th = 0 → f12 < 0) ∧ (¬ th = 0 → f12 = te ∧ f13 = sta ∧ f14 = ask ∧ 0 ≤ f12 ∧ (∀ t, t < 4 → okN gu (40 * t) ∧ okN gw (40 * t) ∧ nv gu (40 * t) = u t ∧ nv gw (40 * t) = l t ∧ 0 < l t ∧ u t ≤ l t) ∧ (¬ te = 0 → SumsOK B ad ct gb S f19.toInt ∧ -60000 ≤ f19.toInt ∧ f19.toInt + (S : Int) - 1 ≤ 60000))
/-- the scale -/
def jE (B : gB) (ad : Nat → Nat) (ct : Nat → va_E) : Prop := ct 110 = .inr (7, [.ref (ad 111), .ref (ad 113)]) ∧ (∃ x, isW B ad ct 111 x) ∧ ∃ y, isW B ad ct 113 y
theorem jE.move {B : gB} {ad ad' : Nat → Nat} {ct ct' : Nat → va_E} (h : jE B ad ct) (hA : ∀ r, 110 ≤ r → r ≤ 114 → ad' r = ad r) (hC : ∀ r, 110 ≤ r → r ≤ 114 → ct' r = ct r) : jE B ad' ct' := by
  obtain ⟨h1, ⟨x, hx⟩, y, hy⟩ := h
  exact ⟨by rw [hC 110 (by decide) (by decide), hA 111 (by decide) (by decide), hA 113 (by decide) (by decide)]; exact h1, ⟨x, hx.move (hA _ (by decide) (by decide)) (hC _ (by decide) (by decide)) (hC _ (by decide) (by decide))⟩, y, hy.move (hA _ (by decide) (by decide)) (hC _ (by decide) (by decide)) (hC _ (by decide) (by decide))⟩
/-- NOTED -/
def jN (B : gB) (ad : Nat → Nat) (ct ct2 : Nat → va_E) (f40 : Int32) : Prop := ∃ (k : Nat) (o U V pu pw ro : Nat → Nat), ct 115 = .inr (1, [.ref (ad 116), .ref (ad 117), .ref (ad 110), .int (nI k)]) ∧ ct 116 = iQ B 4 12 (fun i => some (ad (118 + 5 * i))) ∧ ct 117 = iA B 12 (nF o) ∧ k ≤ 12 ∧ (∀ i, i < 12 → isFr B ad ct (118 + 5 * i) (U i) (V i)) ∧ (∀ i, i < 12 → U i < 2 ^ 180 ∧ V i < 2 ^ 180) ∧ ct2 26 = iA B 480 (nF pu) ∧ ct2 27 = iA B 480 (nF pw) ∧ ct2 28 = iA B 12 (nF ro) ∧ f40 = nI k ∧ (∀ i, i < k → okN pu (40 * i) ∧ okN pw (40 * i) ∧ nv pu (40 * i) = U i ∧ nv pw (40 * i) = V i) ∧ ∀ j, j < k → o j = ordS (ltF U V) (fun _ => 0) k j
/-- the reference's own rows -/
def jX (B : gB) (ct2 : Nat → va_E) : Prop := (∀ r, (r = 1 ∨ r = 2 ∨ r = 3 ∨ r = 4 ∨ r = 18 ∨ r = 19 ∨ r = 20 ∨ r = 21 ∨ r = 25) → ∃ g, ct2 r = iA B 40 (nF g)) ∧ (∀ r, (r = 12 ∨ r = 13) → ∃ g, ct2 r = iA B 25 (nF g)) ∧ (∀ r, (r = 14 ∨ r = 15) → ∃ g, ct2 r = iA B 5 (nF g)) ∧ (∀ r, (r = 22 ∨ r = 23) → ∃ f, ct2 r = iA B 30 f) ∧ (∃ g, ct2 24 = iL B 480016 g) ∧ (∀ r, (r = 29 ∨ r = 30) → ∃ g, ct2 r = iA B 80 (nF g)) ∧ ∃ f, ct2 32 = iA B 225 f
def J (B : gB) (ad : Nat → Nat) (ct : Nat → va_E) (ad2 : Nat → Nat) (ct2 : Nat → va_E) (S : Nat) : Prop := ∃ (f : Nat → Int32) (NL N1 N2 : Nat), ct 0 = xO ad ∧ ct2 0 = mObj ad2 f ∧ S = 2 * NL + 4 * N1 + 4 * N2 ∧ NL ≤ 120000 ∧ jG B (ad 2) (ct 1) (ct 2) (ct2 5) (f 4) (f 5) (f 7) ∧ jS B (ad 4) (ad 6) (ct 3) (ct 4) (ct 5) (ct 6) (ct2 6) (ct2 7) ∧ jD B (ad 8) (ct 7) (ct 8) (ct2 8) (f 11) ∧ jK B (ad 10) (ct 9) (ct 10) (ct2 31) (f 45) ∧ jW B ad ct ∧ jC B (ad 80) (ct 79) (ct 80) (ct2 16) (ct2 17) (f 25) (f 26) (f 27) NL ∧ jR B ad ct ct2 (f 12) (f 13) (f 14) (f 18) (f 19) N1 N2 ∧ jE B ad ct ∧ jN B ad ct ct2 (f 40) ∧ jX B ct2
theorem SumsOK.move {B : gB} {ad ad' : Nat → Nat} {ct ct' : Nat → va_E} {gb : Nat → Nat} {S : Nat} {bs : Int} (h : SumsOK B ad ct gb S bs) (hA : ∀ r, 81 ≤ r → r ≤ 87 → ad' r = ad r) (hC : ∀ r, 81 ≤ r → r ≤ 87 → ct' r = ct r) : SumsOK B ad' ct' gb S bs := by
  obtain ⟨nx, mk, off, ah, al, a, m, N1, N2, o, h1, h2, h3⟩ := h
  exact ⟨nx, mk, off, ah, al, a, m, N1, N2, o, by rw [hC 81 (by decide) (by decide), hA 82 (by decide) (by decide), hA 85 (by decide) (by decide)]; exact h1, h2.move (fun r a b => hA r (by omega) b) (fun r a b => hC r (by omega) b), h3⟩
theorem jR.move {B : gB} {ad ad' : Nat → Nat} {ct ct' ct2 ct2' : Nat → va_E} {f12 f13 f14 f18 f19 : Int32} {N1 N2 : Nat} (h : jR B ad ct ct2 f12 f13 f14 f18 f19 N1 N2) (hA : ∀ r, 81 ≤ r → ad' r = ad r) (hC : ∀ r, 81 ≤ r → r ≤ 109 → ct' r = ct r) (h9 : ct2' 9 = ct2 9) (h10 : ct2' 10 = ct2 10) (h11 : ct2' 11 = ct2 11) : jR B ad' ct' ct2' f12 f13 f14 f18 f19 N1 N2 := by
  obtain ⟨⟨nx, mk, off, ah, al, g1⟩, ⟨sz1, sz2, s1, t1, s2, t2, a1, a2, a3, a4, a5, a6⟩, hL1, hL2, th, te, sta, ask, u, l, gu, gw, gb, S, b1, b2, b3, b4, b5, b6, b7, b8, b9, b10, b11, b12⟩ := h
  refine ⟨⟨nx, mk, off, ah, al, ?_⟩, ⟨sz1, sz2, s1, t1, s2, t2, ?_, (hC _ (by decide) (by decide)).trans a2, (hC _ (by decide) (by decide)).trans a3, ?_, (hC _ (by decide) (by decide)).trans a5, (hC _ (by decide) (by decide)).trans a6⟩, hL1, hL2, th, te, sta, ask, u, l, gu, gw, gb, S, ?_, ?_, b3, fun t ht => (b4 t ht).move (fun r h1 h2 => hA r (by omega)) (fun r h1 h2 => hC r (by omega) (by omega)), b5, h9.trans b6, h10.trans b7, h11.trans b8, b9, b10, b11, fun q => ?_⟩
  · rw [hC 81 (by decide) (by decide), hA 82 (by decide), hA 85 (by decide)]; exact g1
  · rw [hC 82 (by decide) (by decide), hA 83 (by decide), hA 84 (by decide)]; exact a1
  · rw [hC 85 (by decide) (by decide), hA 86 (by decide), hA 87 (by decide)]; exact a4
  · rw [hC 88 (by decide) (by decide), hA 89 (by decide)]; exact b1
  · rw [hC 89 (by decide) (by decide), b2, show (fun i => some (ad' (90 + 5 * i))) = (fun i => some (ad (90 + 5 * i))) from funext fun i => by rw [hA _ (by omega)]]
  · obtain ⟨c1, c2, c3, c4, c5, c6⟩ := b12 q
    exact ⟨c1, c2, c3, c4, c5, fun z => ⟨(c6 z).1.move (fun r h1 _ => hA r h1) (fun r h1 h2 => hC r h1 (by omega)), (c6 z).2⟩⟩
theorem jN.move {B : gB} {ad ad' : Nat → Nat} {ct ct' ct2 ct2' : Nat → va_E} {f40 : Int32} (h : jN B ad ct ct2 f40) (hA : ∀ r, 110 ≤ r → ad' r = ad r) (hC : ∀ r, 115 ≤ r → r ≤ 177 → ct' r = ct r) (h26 : ct2' 26 = ct2 26) (h27 : ct2' 27 = ct2 27) (h28 : ∃ ro, ct2' 28 = iA B 12 (nF ro)) : jN B ad' ct' ct2' f40 := by
  obtain ⟨k, o, U, V, pu, pw, ro, a1, a2, a3, a4, a5, a6, a7, a8, a9, a10, a11, a12⟩ := h
  obtain ⟨ro', hro⟩ := h28
  refine ⟨k, o, U, V, pu, pw, ro', ?_, ?_, (hC _ (by decide) (by decide)).trans a3, a4, fun i hi => (a5 i hi).move (fun r h1 h2 => hA r (by omega)) (fun r h1 h2 => hC r (by omega) (by omega)), a6, h26.trans a7, h27.trans a8, hro, a10, a11, a12⟩
  · rw [hC 115 (by decide) (by decide), hA 116 (by decide), hA 117 (by decide), hA 110 (by decide)]; exact a1
  · rw [hC 116 (by decide) (by decide), a2, show (fun i => some (ad' (118 + 5 * i))) = (fun i => some (ad (118 + 5 * i))) from funext fun i => by rw [hA _ (by omega)]]
theorem jX.move {B : gB} {ct2 ct2' : Nat → va_E} (h : jX B ct2) (hC : ∀ r, ((0 < r ∧ r < 5) ∨ (11 < r ∧ r < 16) ∨ (17 < r ∧ r < 26) ∨ (28 < r ∧ r ≠ 31)) → ct2' r = ct2 r) : jX B ct2' := by
  obtain ⟨h1, h2, h3, h4, h5, h6, h7⟩ := h
  refine ⟨fun r hr => ?_, fun r hr => ?_, fun r hr => ?_, fun r hr => ?_, ?_, fun r hr => ?_, ?_⟩
  · obtain ⟨g, hg⟩ := h1 r hr; exact ⟨g, (hC r (by omega)).trans hg⟩
  · obtain ⟨g, hg⟩ := h2 r hr; exact ⟨g, (hC r (by omega)).trans hg⟩
  · obtain ⟨g, hg⟩ := h3 r hr; exact ⟨g, (hC r (by omega)).trans hg⟩
  · obtain ⟨g, hg⟩ := h4 r hr; exact ⟨g, (hC r (by omega)).trans hg⟩
  · obtain ⟨g, hg⟩ := h5; exact ⟨g, (hC 24 (by omega)).trans hg⟩
  · obtain ⟨g, hg⟩ := h6 r hr; exact ⟨g, (hC r (by omega)).trans hg⟩
  · obtain ⟨g, hg⟩ := h7; exact ⟨g, (hC 32 (by omega)).trans hg⟩
theorem J.bd {B : gB} {ad : Nat → Nat} {ct : Nat → va_E} {ad2 : Nat → Nat} {ct2 : Nat → va_E} {S : Nat} (h : J B ad ct ad2 ct2 S) : S ≤ 502144 := by
  obtain ⟨f, NL, N1, N2, -, -, hS, hNL, -, -, -, -, -, -, hR, -⟩ := h
  have h1 := okL_le hR.2.2.1
  have h2 := okL_le hR.2.2.2.1
  omega
