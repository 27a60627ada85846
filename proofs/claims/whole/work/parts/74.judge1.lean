/-! the judge's mathematics -/
theorem xor_neg {x y : Int32} (hy : 0 ≤ y.toInt) : ¬ 0 ≤ x ^^^ y ↔ x.toInt < 0 := by
  rw [Int32.not_le, Int32.lt_iff_toInt_lt]
  have e0 : (0 : Int32).toInt = 0 := by decide
  rw [e0]
  have h1 : (x ^^^ y).toBitVec.msb = (x.toBitVec.msb ^^ y.toBitVec.msb) := by rw [Int32.toBitVec_xor, BitVec.msb_xor]
  rw [BitVec.msb_eq_toInt, BitVec.msb_eq_toInt, BitVec.msb_eq_toInt] at h1
  have h2 : decide (y.toBitVec.toInt < 0) = false := decide_eq_false (fun q => by have : y.toInt < 0 := q; omega)
  rw [h2, Bool.xor_false] at h1
  exact decide_eq_decide.mp h1
theorem fd_toInt {x : Int32} {tm : Nat} (h0 : 0 < tm) (h1 : tm < 2 ^ 31) : (if ¬ 0 ≤ x ^^^ nI tm ∧ ¬ x / nI tm * nI tm = x then x / nI tm - 1 else x / nI tm).toInt = x.toInt / (tm : Int) := by
  have ht : (nI tm).toInt = (tm : Int) := nI_toInt h1
  have hp : (0 : Int) < (tm : Int) := by omega
  have hq : (x / nI tm).toInt = x.toInt.tdiv (tm : Int) := by
    rw [Int32.toInt_div_of_ne_right _ _ (fun e => by have := congrArg Int32.toInt e; rw [ht] at this; have e1 : (-1 : Int32).toInt = -1 := by decide
                                                     omega), ht]
  have key : ∀ q : Int, q * (tm : Int) ≤ x.toInt → x.toInt < (q + 1) * (tm : Int) → q = x.toInt / (tm : Int) := fun q a b =>
    Int.le_antisymm ((Int.le_ediv_iff_mul_le hp).mpr a) (Int.lt_add_one_iff.mp ((Int.ediv_lt_iff_lt_mul hp).mpr b))
  have hd := Int.mul_tdiv_add_tmod x.toInt (tm : Int)
  have hlt := Int.tmod_lt_of_pos x.toInt hp
  rw [Int.mul_comm] at hd
  have hb := Int32.toInt_lt x
  have hb2 := Int32.le_toInt x
  have habs : (x.toInt.tdiv (tm : Int) * (tm : Int)).natAbs < 2 ^ 31 ∨ x.toInt.tdiv (tm : Int) * (tm : Int) = -2 ^ 31 := by
    by_cases q : 0 ≤ x.toInt
    · have := Int.tmod_nonneg (tm : Int) q
      omega
    · have h3 : (-x.toInt).tmod (tm : Int) = -(x.toInt.tmod (tm : Int)) := Int.neg_tmod _ _
      have h4 := Int.tmod_nonneg (tm : Int) (show 0 ≤ -x.toInt by omega)
      have h5 := Int.tmod_lt_of_pos (-x.toInt) hp
      omega
  have hmul : (x / nI tm * nI tm).toInt = x.toInt.tdiv (tm : Int) * (tm : Int) := by
    rcases habs with h | h
    · exact mul_toInt hq ht h
    · rw [Int32.toInt_mul, hq, ht, h]; decide
  have heq : x / nI tm * nI tm = x ↔ x.toInt.tdiv (tm : Int) * (tm : Int) = x.toInt := by
    rw [← Int32.toInt_inj, hmul]
  have hx := xor_neg (x := x) (y := nI tm) (by omega)
  by_cases q : 0 ≤ x.toInt
  · have := Int.tmod_nonneg (tm : Int) q
    rw [if_neg (fun w => by have := hx.mp w.1; omega), hq]
    exact key _ (by omega) (by rw [Int.add_mul]; omega)
  · have h3 : (-x.toInt).tmod (tm : Int) = -(x.toInt.tmod (tm : Int)) := Int.neg_tmod _ _
    have h4 := Int.tmod_nonneg (tm : Int) (show 0 ≤ -x.toInt by omega)
    have h5 := Int.tmod_lt_of_pos (-x.toInt) hp
    by_cases q2 : x.toInt.tdiv (tm : Int) * (tm : Int) = x.toInt
    · rw [if_neg (fun w => w.2 (heq.mpr q2)), hq]
      exact key _ (by omega) (by rw [Int.add_mul]; omega)
    · rw [if_pos ⟨hx.mpr (by omega), fun w => q2 (heq.mp w)⟩]
      have h6 : (x.toInt.tdiv (tm : Int) - 1) * (tm : Int) = x.toInt.tdiv (tm : Int) * (tm : Int) - tm := by rw [Int.sub_mul, Int.one_mul]
      have htm2 : 2 ≤ tm := by
        by_cases q3 : tm = 1
        · rw [q3] at q2
          exact absurd (by rw [Int.natCast_one, Int.tdiv_one, Int.mul_one]) q2
        · omega
      have h7 : (x.toInt.tdiv (tm : Int)).natAbs ≤ 1073741824 := by
        rw [Int.natAbs_tdiv]
        refine Nat.le_trans (Nat.div_le_div_left (show 2 ≤ (tm : Int).natAbs by omega) (by decide)) ?_
        omega
      have h1' : (1 : Int32).toInt = 1 := by decide
      rw [sub_toInt hq h1' (by omega)]
      exact key _ (by omega) (by rw [Int.sub_add_cancel]; omega)
theorem mulp {tm u v : Int} (h : 0 < tm) : tm * v ≤ tm * u ↔ v ≤ u := ⟨fun q => Int.le_of_mul_le_mul_left q h, fun q => Int.mul_le_mul_of_nonneg_left q (by omega)⟩
theorem jm_high {st bs : Int} {gb : Nat → Nat} (S : Nat) : sumF (fcH st bs gb) S + sumF (fcL st bs gb) S = sumF gb S + sumF (fcJ st bs gb) S := by
  rw [← sumF_add, ← sumF_add]
  refine sumF_congr S (fun k _ => ?_)
  unfold fcH fcL fcJ
  split <;> split <;> split <;> omega
theorem jm_0 {tm mid st bs : Int} {gb : Nat → Nat} (S : Nat) (h : tm * st - mid = 0) : sumF (fcF tm mid st bs gb) S = sumF gb S :=
  sumF_congr S (fun k _ => if_pos (by rw [h]; exact Nat.zero_le _))
theorem jm_neg {tm mid st bs : Int} {gb : Nat → Nat} (S : Nat) (ht : 0 < tm) (h : tm * st - mid < 0) : sumF (fcF tm mid st bs gb) S + sumF (fcL (-((tm * st - mid - mid) / tm) - 1) bs gb) S = sumF (fcL st bs gb) S + sumF gb S := by
  rw [← sumF_add, ← sumF_add]
  refine sumF_congr S (fun k _ => ?_)
  have h1 := mulp (tm := tm) (u := st) (v := bs + k) ht
  have h2 : bs + k ≤ -((tm * st - mid - mid) / tm) - 1 ↔ ¬ (-(bs + (k : Int)) * tm ≤ tm * st - mid - mid) := by
    rw [← Int.le_ediv_iff_mul_le ht]; omega
  have h3 : -(bs + (k : Int)) * tm = -(tm * (bs + k)) := by rw [Int.neg_mul, Int.mul_comm]
  rw [h3] at h2
  unfold fcF fcL
  by_cases q1 : bs + (k : Int) ≤ st
  · have q2 := h1.mpr q1
    rw [if_pos (by omega), if_pos (h2.mpr (by omega)), if_pos q1]
  · have q2 : ¬ tm * (bs + k) ≤ tm * st := fun w => q1 (h1.mp w)
    rw [if_neg q1]
    by_cases q3 : bs + (k : Int) ≤ -((tm * st - mid - mid) / tm) - 1
    · have q4 := h2.mp q3
      rw [if_pos q3, if_neg (by omega)]
    · have q4 := mt h2.mpr q3
      rw [if_neg q3, if_pos (by omega)]
      omega
theorem jm_pos {tm mid st bs : Int} {gb : Nat → Nat} (S : Nat) (ht : 0 < tm) (h : 0 < tm * st - mid) : sumF (fcF tm mid st bs gb) S = sumF (fcH st bs gb) S + sumF (fcL ((mid - (tm * st - mid)) / tm) bs gb) S := by
  rw [← sumF_add]
  refine sumF_congr S (fun k _ => ?_)
  have h1 := mulp (tm := tm) (u := bs + k) (v := st) ht
  have h2 : bs + k ≤ (mid - (tm * st - mid)) / tm ↔ (bs + (k : Int)) * tm ≤ mid - (tm * st - mid) := Int.le_ediv_iff_mul_le ht
  rw [Int.mul_comm (bs + (k : Int))] at h2
  unfold fcF fcL fcH
  by_cases q1 : st ≤ bs + (k : Int)
  · have q2 := h1.mpr q1
    rw [if_pos (by omega), if_pos q1, if_neg (fun w => by have := h2.mp w; omega)]
    omega
  · have q2 : ¬ tm * st ≤ tm * (bs + k) := fun w => q1 (h1.mp w)
    rw [if_neg q1]
    by_cases q3 : bs + (k : Int) ≤ (mid - (tm * st - mid)) / tm
    · have q4 := h2.mp q3
      rw [if_pos q3, if_pos (by omega), Nat.zero_add]
    · have q4 := mt h2.mpr q3
      rw [if_neg q3, if_neg (by omega)]
theorem fc_le {f gb : Nat → Nat} (S : Nat) (h : ∀ k, f k ≤ gb k) : sumF f S ≤ sumF gb S := sumF_mono S (fun k _ => h k)
