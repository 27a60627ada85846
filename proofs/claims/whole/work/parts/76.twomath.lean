/-! the halves together: what labels and signs count -/
theorem cnt_big {a : Nat → Nat} : ∀ m x, sumF a m < x → cntS a m x = 0
  | 0, x, h => if_neg (by have : sumF a 0 = 0 := rfl; omega)
  | m + 1, x, h => by
    have h0 : sumF a (m + 1) = sumF a m + a m := rfl
    show cntS a m x + (if a m ≤ x then cntS a m (x - a m) else 0) = 0
    rw [cnt_big m x (by omega)]
    split
    · rw [cnt_big m _ (by omega)]
    · rfl
def cvl (a b : Nat → Nat) (p q X : Nat) : Nat := sumF (fun u => cntS a p u * cntS b q (X - u)) (X + 1)
theorem sumF_zero {f : Nat → Nat} (n : Nat) (h : ∀ i, i < n → f i = 0) : sumF f n = 0 := by
  have := sumF_le (f := f) (b := 0) n (fun i hi => Nat.le_of_eq (h i hi))
  omega
theorem pick_one {f : Nat → Nat} {y : Nat} {P : Nat → Prop} [DecidablePred P] (hP : ∀ v, P v ↔ v = y) (M : Nat) : sumF (fun v => f v * (if P v then 1 else 0)) M = if y < M then f y else 0 := by
  by_cases q : y < M
  · rw [if_pos q]
    have h1 := one_of (y := y) M q
    have h2 := sumF_mul (f := fun x => if x = y then 1 else 0) (c := f y) M
    rw [h1, Nat.mul_one] at h2
    refine Eq.trans ?_ h2
    refine sumF_congr M (fun v _ => ?_)
    by_cases q2 : v = y
    · rw [if_pos ((hP v).mpr q2), if_pos q2, q2]
    · rw [if_neg (fun w => q2 ((hP v).mp w)), if_neg q2, Nat.mul_zero, Nat.mul_zero]
  · rw [if_neg q]
    exact sumF_zero M (fun v hv => by rw [if_neg (fun w => by have := (hP v).mp w; omega), Nat.mul_zero])
theorem exC_cvl {a b : Nat → Nat} {p q X : Nat} : exC a b p q (X : Int) = cvl a b p q X := by
  unfold exC cvl
  have e : ∀ u : Nat, sumF (fun v => cntS b q v * (if (u : Int) + (v : Int) = (X : Int) then 1 else 0)) (sumF b q + 1) = if u ≤ X then cntS b q (X - u) else 0 := fun u => by
    by_cases h : u ≤ X
    · rw [if_pos h, pick_one (y := X - u) (P := fun v => (u : Int) + (v : Int) = (X : Int)) (fun v => by omega)]
      by_cases h2 : X - u < sumF b q + 1
      · rw [if_pos h2]
      · rw [if_neg h2, cnt_big q _ (by omega)]
    · rw [if_neg h]
      exact sumF_zero _ (fun v _ => by rw [if_neg (by omega), Nat.mul_zero])
  rw [sumF_congr (g := fun u => cntS a p u * (if u ≤ X then cntS b q (X - u) else 0)) _ (fun u _ => by rw [e u])]
  have h1 := sumF_stop (f := fun u => cntS a p u * (if u ≤ X then cntS b q (X - u) else 0)) (i := sumF a p + 1) (sumF a p + 1 + (X + 1)) (by omega) (fun k h1 _ => by rw [cnt_big p k (by omega), Nat.zero_mul])
  have h2 := sumF_stop (f := fun u => cntS a p u * (if u ≤ X then cntS b q (X - u) else 0)) (i := X + 1) (sumF a p + 1 + (X + 1)) (by omega) (fun k h1 _ => by rw [if_neg (by omega), Nat.mul_zero])
  rw [← h1, h2]
  exact sumF_congr _ (fun u hu => by rw [if_pos (by omega)])
theorem sumF_shift {F : Nat → Nat} {d X : Nat} : sumF (fun u => if d ≤ u then F (u - d) else 0) (X + 1) = if d ≤ X then sumF F (X - d + 1) else 0 := by
  by_cases h : d ≤ X
  · rw [if_pos h, show X + 1 = d + (X - d + 1) by omega, sumF_split, sumF_zero d (fun i hi => if_neg (by omega)), Nat.zero_add]
    exact sumF_congr _ (fun i _ => by rw [if_pos (by omega), Nat.add_sub_cancel_left])
  · rw [if_neg h]
    exact sumF_zero _ (fun i hi => if_neg (by omega))
theorem cvl_p {a b : Nat → Nat} {p q X : Nat} : cvl a b (p + 1) q X = cvl a b p q X + (if a p ≤ X then cvl a b p q (X - a p) else 0) := by
  unfold cvl
  have e : ∀ u, u < X + 1 → cntS a (p + 1) u * cntS b q (X - u) = cntS a p u * cntS b q (X - u) + (if a p ≤ u then (fun w => cntS a p w * cntS b q (X - a p - w)) (u - a p) else 0) := fun u _ => by
    show (cntS a p u + (if a p ≤ u then cntS a p (u - a p) else 0)) * cntS b q (X - u) = _
    rw [Nat.add_mul]
    congr 1
    by_cases h : a p ≤ u
    · rw [if_pos h, if_pos h]
      show _ = cntS a p (u - a p) * cntS b q (X - a p - (u - a p))
      rw [show X - a p - (u - a p) = X - u by omega]
    · rw [if_neg h, if_neg h, Nat.zero_mul]
  rw [sumF_congr _ e, sumF_add, sumF_shift (F := fun w => cntS a p w * cntS b q (X - a p - w))]
theorem cvl_q {a b : Nat → Nat} {p q X : Nat} : cvl a b p (q + 1) X = cvl a b p q X + (if b q ≤ X then cvl a b p q (X - b q) else 0) := by
  unfold cvl
  have e : ∀ u, u < X + 1 → cntS a p u * cntS b (q + 1) (X - u) = cntS a p u * cntS b q (X - u) + (if b q ≤ X - u then cntS a p u * cntS b q (X - u - b q) else 0) := fun u _ => by
    show cntS a p u * (cntS b q (X - u) + (if b q ≤ X - u then cntS b q (X - u - b q) else 0)) = _
    rw [Nat.mul_add]
    congr 1
    split
    · rfl
    · exact Nat.mul_zero _
  rw [sumF_congr _ e, sumF_add]
  congr 1
  by_cases h : b q ≤ X
  · rw [if_pos h, sumF_stop (i := X - b q + 1) (X + 1) (by omega) (fun k h1 _ => by by_cases h3 : b q = 0; (exact absurd h1 (by omega)); (exact if_neg (by omega)))]
    exact sumF_congr _ (fun u hu => by rw [if_pos (by omega), show X - u - b q = X - b q - u by omega])
  · rw [if_neg h]
    exact sumF_zero _ (fun u hu => if_neg (by omega))
theorem cvl_all {a : Nat → Nat} : ∀ m X, cvl (ev a) (od a) ((m + 1) / 2) (m / 2) X = cntS a m X
  | 0, X => by
    unfold cvl
    show sumF (fun u => (if u = 0 then 1 else 0) * (if X - u = 0 then 1 else 0)) (X + 1) = if X = 0 then 1 else 0
    rw [sumF_head]
    rw [sumF_zero X (fun i hi => by rw [if_neg (by omega), Nat.zero_mul])]
    rw [if_pos rfl, Nat.sub_zero, Nat.one_mul, Nat.add_zero]
  | m + 1, X => by
    have ih := fun X => cvl_all (a := a) m X
    show _ = cntS a m X + (if a m ≤ X then cntS a m (X - a m) else 0)
    by_cases h : m % 2 = 0
    · rw [show (m + 1 + 1) / 2 = (m + 1) / 2 + 1 by omega, show (m + 1) / 2 = m / 2 by omega, cvl_p]
      have e : ev a (m / 2) = a m := by unfold ev; rw [show 2 * (m / 2) = m by omega]
      have ih2 : ∀ X, cvl (ev a) (od a) (m / 2) (m / 2) X = cntS a m X := fun X => by
        have := ih X; rw [show (m + 1) / 2 = m / 2 by omega] at this; exact this
      rw [e, ih2, ih2]
    · rw [show (m + 1 + 1) / 2 = (m + 1) / 2 by omega]
      have e : od a (m / 2) = a m := by unfold od; rw [show 2 * (m / 2) + 1 = m by omega]
      rw [show cvl (ev a) (od a) ((m + 1) / 2) ((m + 1) / 2) X = cvl (ev a) (od a) ((m + 1) / 2) (m / 2 + 1) X by rw [show m / 2 + 1 = (m + 1) / 2 by omega], cvl_q, e, ih, ih]
theorem ex_all {a : Nat → Nat} {m X : Nat} : exC (ev a) (od a) ((m + 1) / 2) (m / 2) (X : Int) = cntS a m X := by rw [exC_cvl, cvl_all]
theorem ex_neg {a b : Nat → Nat} {p q : Nat} {T : Int} (h : T < 0) : exC a b p q T = 0 := by
  unfold exC
  exact sumF_zero _ (fun u _ => by rw [sumF_zero _ (fun v _ => by rw [if_neg (by omega), Nat.mul_zero]), Nat.mul_zero])
theorem up_neg {a b : Nat → Nat} {p q : Nat} {T : Int} (h : T < 0) : upC a b p q T = 0 := by
  unfold upC
  exact sumF_zero _ (fun u _ => by rw [sumF_zero _ (fun v _ => by rw [if_neg (by omega), Nat.mul_zero]), Nat.mul_zero])
theorem up_step {a b : Nat → Nat} {p q X : Nat} : upC a b p q ((X + 1 : Nat) : Int) = upC a b p q (X : Int) + exC a b p q ((X + 1 : Nat) : Int) := by
  unfold upC exC
  rw [← sumF_add]
  refine sumF_congr _ (fun u _ => ?_)
  rw [← Nat.mul_add, ← sumF_add]
  congr 1
  refine sumF_congr _ (fun v _ => ?_)
  rw [← Nat.mul_add]
  congr 1
  split <;> split <;> split <;> omega
theorem up_zero {a b : Nat → Nat} {p q : Nat} : upC a b p q ((0 : Nat) : Int) = exC a b p q ((0 : Nat) : Int) := by
  unfold upC exC
  refine sumF_congr _ (fun u _ => ?_)
  congr 1
  refine sumF_congr _ (fun v _ => ?_)
  congr 1
  split <;> split <;> omega
theorem up_all {a : Nat → Nat} {m : Nat} : ∀ X : Nat, upC (ev a) (od a) ((m + 1) / 2) (m / 2) (X : Int) = sumF (cntS a m) (X + 1)
  | 0 => by rw [up_zero, ex_all]; exact (Nat.zero_add _).symm
  | X + 1 => by
    rw [up_step, up_all X, ex_all]
    rfl
/-- a number that stands on a mark: the sums of as many numbers stand together -/
theorem cnt_mark {s : Nat → Nat} {c : Nat} : ∀ m k y, (∀ i, i < m → s i ≤ 2000) → k ≤ 30 → 70000 ≤ c → y < c → cntS (fun j => c + s j) m (k * c + y) = wN s m k y
  | 0, k, y, _, _, hc, _ => by
    show (if k * c + y = 0 then 1 else 0) = if k = 0 ∧ y = 0 then 1 else 0
    by_cases q : k = 0
    · rw [q, Nat.zero_mul, Nat.zero_add]
      by_cases q2 : y = 0
      · rw [if_pos q2, if_pos ⟨rfl, q2⟩]
      · rw [if_neg q2, if_neg (fun w => q2 w.2)]
    · have : 1 * c ≤ k * c := Nat.mul_le_mul_right _ (by omega)
      rw [if_neg (by omega), if_neg (fun w => q w.1)]
  | m + 1, k, y, hs, hk, hc, hy => by
    have ih := fun k y => cnt_mark (s := s) (c := c) m k y (fun i hi => hs i (by omega))
    have hm := hs m (by omega)
    show cntS (fun j => c + s j) m (k * c + y) + (if c + s m ≤ k * c + y then cntS (fun j => c + s j) m (k * c + y - (c + s m)) else 0) = wN s m k y + (if 0 < k ∧ s m ≤ y then wN s m (k - 1) (y - s m) else 0)
    rw [ih k y hk hc hy]
    congr 1
    by_cases q : k = 0
    · rw [q, Nat.zero_mul, if_neg (by omega), if_neg (by omega)]
    · have e1 : k * c = (k - 1) * c + c := by rw [← Nat.succ_mul]; congr 1; omega
      by_cases q2 : s m ≤ y
      · rw [if_pos (by omega), if_pos ⟨by omega, q2⟩, show k * c + y - (c + s m) = (k - 1) * c + (y - s m) by omega, ih (k - 1) (y - s m) (by omega) hc (by omega)]
      · rw [if_neg (show ¬ (0 < k ∧ s m ≤ y) from fun w => q2 w.2)]
        by_cases q3 : k = 1
        · rw [q3, Nat.one_mul, if_neg (by omega)]
        · have e2 : (k - 1) * c = (k - 2) * c + c := by rw [← Nat.succ_mul]; congr 1; omega
          rw [if_pos (by omega), show k * c + y - (c + s m) = (k - 2) * c + (c + y - s m) by omega, ih (k - 2) (c + y - s m) (by omega) hc (by omega)]
          exact wN_big m _ _ (fun i hi => hs i (by omega)) (by omega)
theorem wN_sum {s : Nat → Nat} : ∀ m k Y, (∀ i, i < m → s i ≤ 2000) → 2000 * k < Y → sumF (wN s m k) Y = ch m k
  | 0, k, Y, _, hY => by
    by_cases q : k = 0
    · subst q
      rw [ch_0]
      have h1 := one_of (y := 0) Y (by omega)
      rw [← h1]
      refine sumF_congr Y (fun y _ => ?_)
      show (if 0 = 0 ∧ y = 0 then 1 else 0) = if y = 0 then 1 else 0
      by_cases q2 : y = 0
      · rw [if_pos ⟨rfl, q2⟩, if_pos q2]
      · rw [if_neg (fun w => q2 w.2), if_neg q2]
    · rw [ch_gt 0 k (by omega)]
      exact sumF_zero Y (fun y _ => if_neg (fun w => q w.1))
  | m + 1, k, Y, hs, hY => by
    have hm := hs m (by omega)
    have e : sumF (wN s (m + 1) k) Y = sumF (wN s m k) Y + sumF (fun y => if 0 < k ∧ s m ≤ y then wN s m (k - 1) (y - s m) else 0) Y := by
      rw [← sumF_add]; rfl
    rw [e, wN_sum m k Y (fun i hi => hs i (by omega)) hY]
    by_cases q : k = 0
    · subst q
      rw [sumF_zero Y (fun y _ => if_neg (by omega)), ch_0, ch_0]
    · obtain ⟨j, rfl⟩ : ∃ j, k = j + 1 := ⟨k - 1, by omega⟩
      obtain ⟨Z, rfl⟩ : ∃ Z, Y = Z + 1 := ⟨Y - 1, by omega⟩
      show _ = ch m j + ch m (j + 1)
      have e2 : sumF (fun y => if 0 < j + 1 ∧ s m ≤ y then wN s m (j + 1 - 1) (y - s m) else 0) (Z + 1) = sumF (fun y => if s m ≤ y then wN s m j (y - s m) else 0) (Z + 1) := sumF_congr _ (fun y _ => by
        by_cases q3 : s m ≤ y
        · rw [if_pos ⟨by omega, q3⟩, if_pos q3]; rfl
        · rw [if_neg (fun w => q3 w.2), if_neg q3])
      rw [e2, sumF_shift (F := wN s m j), if_pos (by omega), wN_sum m j _ (fun i hi => hs i (by omega)) (by omega)]
      omega
theorem sum_blocks {f : Nat → Nat} {c : Nat} : ∀ k, sumF f (k * c) = sumF (fun q => sumF (fun y => f (q * c + y)) c) k
  | 0 => by rw [Nat.zero_mul]; rfl
  | k + 1 => by
    rw [Nat.succ_mul, sumF_split, sum_blocks k]
    rfl
theorem cnt_ahead {s : Nat → Nat} {c m k : Nat} (hs : ∀ i, i < m → s i ≤ 2000) (hk : k ≤ 30) (hc : 70000 ≤ c) : sumF (cntS (fun j => c + s j) m) (k * c) = sumF (fun q => ch m q) k := by
  rw [sum_blocks]
  refine sumF_congr k (fun q hq => ?_)
  rw [← wN_sum m q c hs (by omega)]
  exact sumF_congr c (fun y hy => cnt_mark m q y hs (by omega) hc hy)
theorem lab_ex {s : Nat → Nat} {c m k : Nat} {v bs : Int} (hs : ∀ i, i < m → s i ≤ 2000) (hk : k ≤ 15) (hk0 : 0 < k) (hc : 130000 ≤ c) (h1 : -60000 ≤ v - bs) (h2 : v - bs < 130000) : exC (ev (fun j => c + s j)) (od (fun j => c + s j)) ((m + 1) / 2) (m / 2) ((k * c : Nat) + (v - bs)) = sumF (fcJ v bs (wN s m k)) 30001 := by
  by_cases q : bs ≤ v
  · obtain ⟨y, hy⟩ : ∃ y : Nat, v - bs = (y : Int) := ⟨(v - bs).toNat, by omega⟩
    rw [hy, show ((k * c : Nat) : Int) + (y : Int) = ((k * c + y : Nat) : Int) by omega, ex_all, cnt_mark m k y hs (by omega) (by omega) (by omega)]
    have e : ∀ t, t < 30001 → fcJ v bs (wN s m k) t = wN s m k t * (if t = y then 1 else 0) := fun t _ => by
      unfold fcJ
      by_cases q2 : t = y
      · rw [if_pos (by omega), if_pos q2, Nat.mul_one]
      · rw [if_neg (by omega), if_neg q2, Nat.mul_zero]
    rw [sumF_congr _ e, pick_one (y := y) (P := fun t => t = y) (fun _ => Iff.rfl)]
    by_cases q2 : y < 30001
    · rw [if_pos q2]
    · rw [if_neg q2, wN_big m k y hs (by omega)]
  · obtain ⟨y, hy⟩ : ∃ y : Nat, (c : Int) + (v - bs) = (y : Int) := ⟨((c : Int) + (v - bs)).toNat, by omega⟩
    have e1 : k * c = (k - 1) * c + c := by rw [← Nat.succ_mul]; congr 1; omega
    rw [show ((k * c : Nat) : Int) + (v - bs) = (((k - 1) * c + y : Nat) : Int) by omega, ex_all, cnt_mark m (k - 1) y hs (by omega) (by omega) (by omega), wN_big m (k - 1) y hs (by omega)]
    exact (sumF_zero _ (fun t _ => by unfold fcJ; exact if_neg (by omega))).symm
theorem lab_up {s : Nat → Nat} {c m k : Nat} {v bs : Int} (hs : ∀ i, i < m → s i ≤ 2000) (hk : k ≤ 15) (hk0 : 0 < k) (hc : 130000 ≤ c) (h1 : -60000 ≤ v - bs) (h2 : v - bs < 130000) : upC (ev (fun j => c + s j)) (od (fun j => c + s j)) ((m + 1) / 2) (m / 2) ((k * c : Nat) + (v - bs)) = sumF (fcL v bs (wN s m k)) 30001 + sumF (fun q => ch m q) k := by
  have ha := cnt_ahead (s := s) (c := c) (m := m) (k := k) hs (by omega) (by omega)
  by_cases q : bs ≤ v
  · obtain ⟨y, hy⟩ : ∃ y : Nat, v - bs = (y : Int) := ⟨(v - bs).toNat, by omega⟩
    rw [hy, show ((k * c : Nat) : Int) + (y : Int) = ((k * c + y : Nat) : Int) by omega, up_all, show k * c + y + 1 = k * c + (y + 1) by omega, sumF_split, ha, Nat.add_comm]
    congr 1
    rw [sumF_congr (y + 1) (fun t ht => cnt_mark (s := s) (c := c) m k t hs (by omega) (by omega) (by omega))]
    have z1 := sumF_stop (f := fcL v bs (wN s m k)) (i := 30001) (30001 + (y + 1)) (by omega) (fun t h3 _ => by unfold fcL; rw [wN_big m k t hs (by omega)]; split <;> rfl)
    have z2 := sumF_stop (f := fcL v bs (wN s m k)) (i := y + 1) (30001 + (y + 1)) (by omega) (fun t h3 _ => by unfold fcL; exact if_neg (by omega))
    rw [← z1, z2]
    exact sumF_congr _ (fun t ht => by unfold fcL; rw [if_pos (by omega)])
  · obtain ⟨y, hy⟩ : ∃ y : Nat, (c : Int) + (v - bs) = (y : Int) := ⟨((c : Int) + (v - bs)).toNat, by omega⟩
    have e1 : k * c = (k - 1) * c + c := by rw [← Nat.succ_mul]; congr 1; omega
    rw [show ((k * c : Nat) : Int) + (v - bs) = (((k - 1) * c + y : Nat) : Int) by omega, up_all, ← ha]
    rw [sumF_zero (f := fcL v bs (wN s m k)) _ (fun t _ => by unfold fcL; exact if_neg (by omega)), Nat.zero_add]
    refine (sumF_stop _ (by omega) (fun t h3 h4 => ?_)).symm
    obtain ⟨z, hz⟩ : ∃ z, t = (k - 1) * c + z := ⟨t - (k - 1) * c, by omega⟩
    rw [hz, cnt_mark m (k - 1) z hs (by omega) (by omega) (by omega)]
    exact wN_big m (k - 1) z hs (by omega)
theorem cnt_bN {a : Nat → Nat} : ∀ m x, cntS a m x = bN a m x
  | 0, _ => rfl
  | m + 1, x => by
    show cntS a m x + (if a m ≤ x then cntS a m (x - a m) else 0) = bN a m x + (if a m ≤ x then bN a m (x - a m) else 0)
    rw [cnt_bN m x, cnt_bN m (x - a m)]
theorem sgn_ex {a : Nat → Nat} {m S : Nat} {v : Int} (hS : sumF a m < S) : exC (ev a) (od a) ((m + 1) / 2) (m / 2) v = sumF (fcJ v 0 (cntS a m)) S := by
  by_cases q : 0 ≤ v
  · obtain ⟨y, rfl⟩ : ∃ y : Nat, v = (y : Int) := ⟨v.toNat, by omega⟩
    rw [ex_all]
    have e : ∀ t, t < S → fcJ (y : Int) 0 (cntS a m) t = cntS a m t * (if t = y then 1 else 0) := fun t _ => by
      unfold fcJ
      by_cases q2 : t = y
      · rw [if_pos (by omega), if_pos q2, Nat.mul_one]
      · rw [if_neg (by omega), if_neg q2, Nat.mul_zero]
    rw [sumF_congr _ e, pick_one (y := y) (P := fun t => t = y) (fun _ => Iff.rfl)]
    by_cases q2 : y < S
    · rw [if_pos q2]
    · rw [if_neg q2, cnt_big m y (by omega)]
  · rw [ex_neg (by omega)]
    exact (sumF_zero _ (fun t _ => by unfold fcJ; exact if_neg (by omega))).symm
theorem sgn_up {a : Nat → Nat} {m S : Nat} {v : Int} (hS : sumF a m < S) : upC (ev a) (od a) ((m + 1) / 2) (m / 2) v = sumF (fcL v 0 (cntS a m)) S := by
  by_cases q : 0 ≤ v
  · obtain ⟨y, rfl⟩ : ∃ y : Nat, v = (y : Int) := ⟨v.toNat, by omega⟩
    rw [up_all]
    have z1 := sumF_stop (f := fcL (y : Int) 0 (cntS a m)) (i := S) (S + (y + 1)) (by omega) (fun t h3 _ => by unfold fcL; rw [cnt_big m t (by omega)]; split <;> rfl)
    have z2 := sumF_stop (f := fcL (y : Int) 0 (cntS a m)) (i := y + 1) (S + (y + 1)) (by omega) (fun t h3 _ => by unfold fcL; exact if_neg (by omega))
    rw [← z1, z2]
    exact sumF_congr _ (fun t ht => by unfold fcL; rw [if_pos (by omega)])
  · rw [up_neg (by omega)]
    exact (sumF_zero _ (fun t _ => by unfold fcL; exact if_neg (by omega))).symm
theorem cnt_sum {a : Nat → Nat} : ∀ m Y, sumF a m < Y → sumF (cntS a m) Y = 2 ^ m
  | 0, Y, h => by
    have h1 := one_of (y := 0) Y (by omega)
    exact h1
  | m + 1, Y, h => by
    have h0 : sumF a (m + 1) = sumF a m + a m := rfl
    have e : sumF (cntS a (m + 1)) Y = sumF (cntS a m) Y + sumF (fun x => if a m ≤ x then cntS a m (x - a m) else 0) Y := by
      rw [← sumF_add]; rfl
    obtain ⟨Z, rfl⟩ : ∃ Z, Y = Z + 1 := ⟨Y - 1, by omega⟩
    rw [e, cnt_sum m _ (by omega), sumF_shift (F := cntS a m), if_pos (by omega), cnt_sum m _ (by omega), Nat.pow_succ]
    omega
