/-! numbers: no machine here -/
theorem bm {z : Int} (h1 : -2147483648 ≤ z) (h2 : z < 2147483648) : z.bmod (2 ^ 32) = z := by
  have e : ((2 ^ 32 : Nat) : Int) = 4294967296 := by decide
  exact Int.bmod_eq_of_le_mul_two (by rw [e]; omega) (by rw [e]; omega)
theorem i_rng (x : Int32) : -2147483648 ≤ x.toInt ∧ x.toInt < 2147483648 := by
  have h1 := Int32.le_toInt x
  have h2 := Int32.toInt_lt x
  have e1 : (-2 ^ 31 : Int) = -2147483648 := by decide
  have e2 : (2 ^ 31 : Int) = 2147483648 := by decide
  rw [e1] at h1
  rw [e2] at h2
  exact ⟨h1, h2⟩
theorem i_le {a b : Int32} : a ≤ b ↔ a.toInt ≤ b.toInt := Int32.le_iff_toInt_le
theorem i_lt {a b : Int32} : a < b ↔ a.toInt < b.toInt := Int32.lt_iff_toInt_lt
theorem i_eq {a b : Int32} : a = b ↔ a.toInt = b.toInt := Int32.toInt_inj.symm
theorem i_add {a b : Int32} (h1 : -2147483648 ≤ a.toInt + b.toInt) (h2 : a.toInt + b.toInt < 2147483648) : (a + b).toInt = a.toInt + b.toInt := by rw [Int32.toInt_add, bm h1 h2]
theorem i_sub {a b : Int32} (h1 : -2147483648 ≤ a.toInt - b.toInt) (h2 : a.toInt - b.toInt < 2147483648) : (a - b).toInt = a.toInt - b.toInt := by rw [Int32.toInt_sub, bm h1 h2]
theorem i_mul {a b : Int32} (h1 : -2147483648 ≤ a.toInt * b.toInt) (h2 : a.toInt * b.toInt < 2147483648) : (a * b).toInt = a.toInt * b.toInt := by rw [Int32.toInt_mul, bm h1 h2]
theorem i_neg {a : Int32} (h2 : -2147483648 < a.toInt) : (-a).toInt = -a.toInt := by
  have := i_rng a
  rw [Int32.toInt_neg, bm (by omega) (by omega)]
theorem i_div {a b : Int32} (hb : 0 < b.toInt) : (a / b).toInt = a.toInt.tdiv b.toInt := by
  refine Int32.toInt_div_of_ne_right a b (fun h => ?_)
  rw [h] at hb
  exact absurd hb (by decide)
theorem i_nz {b : Int32} (hb : 0 < b.toInt) : ¬ b = 0 := fun h => by rw [h] at hb; exact absurd hb (by decide)
theorem i_of {z : Int} (h1 : -2147483648 ≤ z) (h2 : z < 2147483648) : (Int32.ofInt z).toInt = z := by
  have e1 : (-2 ^ 31 : Int) = -2147483648 := by decide
  have e2 : (2 ^ 31 : Int) = 2147483648 := by decide
  exact Int32.toInt_ofInt_of_le (by rw [e1]; exact h1) (by rw [e2]; exact h2)
/-- division rounded down -/
def fl (a b : Int32) : Int32 := Int32.ofInt (a.toInt / b.toInt)
theorem ediv_rng {a b : Int} (hb : 0 < b) (h1 : -2147483648 ≤ a) (h2 : a < 2147483648) : -2147483648 ≤ a / b ∧ a / b < 2147483648 := by
  rcases Int.lt_or_le a 0 with h | h
  · refine ⟨?_, ?_⟩
    · refine Int.le_trans h1 ((Int.le_ediv_iff_mul_le hb).mpr ?_)
      have := Int.mul_le_mul_of_nonpos_left (a := a) (b := b) (c := 1) (by omega) (by omega)
      omega
    · have := Int.ediv_neg_of_neg_of_pos h hb
      omega
  · refine ⟨?_, ?_⟩
    · have := Int.ediv_nonneg h (by omega : 0 ≤ b)
      omega
    · have := Int.ediv_le_self b h
      omega
theorem fl_i {a b : Int32} (hb : 0 < b.toInt) : (fl a b).toInt = a.toInt / b.toInt := by
  have h := i_rng a
  have h2 := ediv_rng hb h.1 h.2
  exact i_of h2.1 h2.2
theorem td {a b : Int} (hb : 0 < b) : a.tdiv b = if 0 ≤ a ∨ b ∣ a then a / b else a / b + 1 := by
  rw [Int.tdiv_eq_ediv]
  have : b.sign = 1 := Int.sign_eq_one_of_pos hb
  split <;> omega
theorem xor_nn {a b : Int32} : 0 ≤ (a ^^^ b) ↔ (a.toInt < 0 ↔ b.toInt < 0) := by
  rw [i_le]
  have e0 : (0 : Int32).toInt = 0 := by decide
  rw [e0]
  have h1 : (a ^^^ b).toBitVec.msb = (a.toBitVec.msb ^^ b.toBitVec.msb) := by
    rw [Int32.toBitVec_xor, BitVec.msb_xor]
  rw [BitVec.msb_eq_toInt, BitVec.msb_eq_toInt, BitVec.msb_eq_toInt, Int32.toInt_toBitVec, Int32.toInt_toBitVec, Int32.toInt_toBitVec] at h1
  by_cases ha : a.toInt < 0 <;> by_cases hb : b.toInt < 0 <;> by_cases hx : (a ^^^ b).toInt < 0 <;> simp [ha, hb, hx] at h1 ⊢ <;> omega
theorem s_floorDiv {L : hL} {X : hX} {a b : Int32} (hb : 0 < b.toInt) : f_J9_floorDiv_7cf53 L X a b = some (fl a b) := by
  unfold f_J9_floorDiv_7cf53
  rw [if_pos (i_nz hb)]
  have ra := i_rng a
  have rb := i_rng b
  have q := i_div (a := a) hb
  have er := ediv_rng hb ra.1 ra.2
  have em := Int.emod_nonneg a.toInt (by omega : b.toInt ≠ 0)
  have el := Int.emod_lt_of_pos a.toInt hb
  have ed := Int.mul_ediv_add_emod a.toInt b.toInt
  rw [td hb] at q
  by_cases ha : 0 ≤ a.toInt
  · rw [if_pos (xor_nn.mpr (by constructor <;> intro h <;> omega))]
    rw [if_pos (Or.inl ha)] at q
    refine congrArg some (Int32.toInt_inj.mp ?_)
    rw [q, fl_i hb]
  · rw [if_neg (fun h => by have := xor_nn.mp h; omega)]
    by_cases hd : b.toInt ∣ a.toInt
    · rw [if_pos (Or.inr hd)] at q
      have e0 : a.toInt % b.toInt = 0 := Int.emod_eq_zero_of_dvd hd
      have m : (a / b * b).toInt = a.toInt := by
        have : (a / b).toInt * b.toInt = a.toInt := by rw [q, Int.mul_comm]; omega
        rw [i_mul (by omega) (by omega), this]
      rw [if_pos (Int32.toInt_inj.mp m)]
      refine congrArg some (Int32.toInt_inj.mp ?_)
      rw [q, fl_i hb]
    · rw [if_neg (fun q => q.elim ha hd)] at q
      have e0 : a.toInt % b.toInt ≠ 0 := fun h => hd (Int.dvd_of_emod_eq_zero h)
      have hm : (a / b).toInt * b.toInt = b.toInt * (a.toInt / b.toInt) + b.toInt := by rw [q, Int.mul_comm, Int.mul_add, Int.mul_one]
      have m : (a / b * b).toInt = b.toInt * (a.toInt / b.toInt) + b.toInt := by rw [i_mul (by omega) (by omega), hm]
      rw [if_neg (fun h => by rw [h] at m; omega)]
      refine congrArg some (Int32.toInt_inj.mp ?_)
      have e1 : (1 : Int32).toInt = 1 := by decide
      rw [i_sub (by rw [e1]; omega) (by rw [e1]; omega), q, fl_i hb, e1]
      omega
theorem s_quotient {L : hL} {X : hX} {a b : Int32} (hb : 0 < b.toInt) : f_X9_quotient L X a b = some (fl a b) := by
  unfold f_X9_quotient
  have e1 : (1 : Int32).toInt = 1 := by decide
  rw [if_pos (by rw [i_le, e1]; omega), s_floorDiv hb]
  rfl
theorem s_quotient0 {L : hL} {X : hX} {a b : Int32} (hb : ¬ 0 < b.toInt) : f_X9_quotient L X a b = some 0 := by
  unfold f_X9_quotient
  have e1 : (1 : Int32).toInt = 1 := by decide
  rw [if_neg (by rw [i_le, e1]; omega)]
theorem s_within {L : hL} {X : hX} {a lo hi : Int32} : f_X9_within L X a lo hi = some (if lo ≤ a ∧ a ≤ hi then 1 else 0) := by
  unfold f_X9_within
  by_cases h1 : a < lo
  · rw [if_pos h1, if_neg (fun h => by have := i_le.mp h.1; rw [i_lt] at h1; omega)]
  · rw [if_neg h1]
    by_cases h2 : hi < a
    · rw [if_pos h2, if_neg (fun h => by have := i_le.mp h.2; rw [i_lt] at h2; omega)]
    · rw [if_neg h2, if_pos ⟨by rw [i_le]; rw [i_lt] at h1; omega, by rw [i_le]; rw [i_lt] at h2; omega⟩]
