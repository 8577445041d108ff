/-! the reference's guesses -/
section MG
variable {L : hL} {X : hX} {r : Int32} {j : Nat}
theorem lz (l : Int32) (h1 : 0 ≤ l.toInt) (h2 : l.toInt ≤ 2000) : ¬ 0 < -9000000 - l := by
  have e1 : (-9000000 : Int32).toInt = -9000000 := by decide
  generalize (-9000000 : Int32) = z at e1 ⊢
  have e2 : (z - l).toInt = -9000000 - l.toInt := by rw [i_sub (by omega) (by omega), e1]
  intro q
  rw [i_lt, z0i, e2] at q
  omega
theorem gn_m (h : RgS (X.1 471)) (hr : rdg r) (hj : j < 4) : (if 2 * (r - r / X.1 471 j * X.1 471 j) ≤ X.1 471 j then r / X.1 471 j else r / X.1 471 j + 1) = gn (X.1 471) r j := by
  have hk := h.2.2.2.2.2 j hj
  have d : r / X.1 471 j = fl r (X.1 471 j) := fl_div (by omega) (by omega)
  have f := fl_i (a := r) (b := X.1 471 j) (by omega)
  have m1 := Int.mul_ediv_add_emod r.toInt (X.1 471 j).toInt
  have m2 := Int.emod_nonneg r.toInt (by omega : (X.1 471 j).toInt ≠ 0)
  have m3 := Int.emod_lt_of_pos r.toInt (by omega : 0 < (X.1 471 j).toInt)
  have m4 := Int.mul_comm (X.1 471 j).toInt (r.toInt / (X.1 471 j).toInt)
  have m5 := Int.mul_nonneg (Int.ediv_nonneg (a := r.toInt) (b := (X.1 471 j).toInt) (by omega) (by omega)) (show 0 ≤ (X.1 471 j).toInt by omega)
  unfold gn
  rw [d]
  have e1 : (fl r (X.1 471 j) * X.1 471 j).toInt = r.toInt / (X.1 471 j).toInt * (X.1 471 j).toInt := by rw [i_mul (by rw [f]; omega) (by rw [f]; omega), f]
  have e2 : (r - fl r (X.1 471 j) * X.1 471 j).toInt = r.toInt % (X.1 471 j).toInt := by rw [i_sub (by omega) (by omega), e1]; omega
  have e3 : (2 * (r - fl r (X.1 471 j) * X.1 471 j)).toInt = 2 * (r.toInt % (X.1 471 j).toInt) := by rw [i_mul (by rw [z2i]; omega) (by rw [z2i]; omega), z2i, e2]
  have e4 : (X.1 471 j - (r - fl r (X.1 471 j) * X.1 471 j)).toInt = (X.1 471 j).toInt - r.toInt % (X.1 471 j).toInt := by rw [i_sub (by omega) (by omega), e2]
  by_cases c : 2 * (r - fl r (X.1 471 j) * X.1 471 j) ≤ X.1 471 j
  · have c' := i_le.mp c
    rw [if_pos c, if_neg (by rw [i_lt]; omega)]
  · have c' : ¬ (2 * (r - fl r (X.1 471 j) * X.1 471 j)).toInt ≤ (X.1 471 j).toInt := fun q => c (i_le.mpr q)
    rw [if_neg c, if_pos (by rw [i_lt]; omega)]
end MG
