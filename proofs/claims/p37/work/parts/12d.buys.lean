/-- what a purchase does to a prize's numbers: stock, sold weight, boxes -/
def se_due (st so w n mk : Int32) : Int32 := fl (so + n * w) mk
def se_sold (so w n mk : Int32) : Int32 := (so + n * w) - fl (so + n * w) mk * mk
def se_stock (st so w n mk bx : Int32) : Int32 := op_stock (st - n) (fl (so + n * w) mk) (fl bx w)
theorem l99 : ∀ a b c : Int32, 0 ≤ a.toInt → 0 ≤ b.toInt → 0 ≤ c.toInt → (a.toInt64 + b.toInt64 * c.toInt64).toInt = a.toInt + b.toInt * c.toInt := by
  intro a b c ha hb hc
  have ra := i_rng a
  have rb := i_rng b
  have rc := i_rng c
  have m0 : 0 ≤ b.toInt * c.toInt := Int.mul_nonneg hb hc
  have m1 : b.toInt * c.toInt ≤ 2147483647 * 2147483647 := Int.le_trans (Int.mul_le_mul_of_nonneg_right (by omega) hc) (Int.mul_le_mul_of_nonneg_left (by omega) (by omega))
  have e64 : ((2 ^ 64 : Nat) : Int) = 18446744073709551616 := by decide
  have bm64 : ∀ z : Int, 0 ≤ z → z < 9223372036854775808 → z.bmod (2 ^ 64) = z := fun z h1 h2 => Int.bmod_eq_of_le_mul_two (by rw [e64]; omega) (by rw [e64]; omega)
  rw [Int64.toInt_add, Int64.toInt_mul, Int32.toInt_toInt64, Int32.toInt_toInt64, Int32.toInt_toInt64, bm64 (b.toInt * c.toInt) m0 (by omega), bm64 _ (by omega) (by omega)]
theorem op_stock_i {a b c : Int32} (ha : 0 ≤ a.toInt) (hb : 0 ≤ b.toInt) (hc : 0 ≤ c.toInt) : 0 ≤ (op_stock a b c).toInt ∧ (op_stock a b c).toInt ≤ 99 := by
  have e := l99 a b c ha hb hc
  have m0 : 0 ≤ b.toInt * c.toInt := Int.mul_nonneg hb hc
  have e99 : (99 : Int64).toInt = 99 := by decide
  have el : (lsum a b c).toInt = a.toInt + b.toInt * c.toInt := e
  have e32 : ((2 ^ 32 : Nat) : Int) = 4294967296 := by decide
  have bm32 : ∀ z : Int, 0 ≤ z → z ≤ 99 → z.bmod (2 ^ 32) = z := fun z h1 h2 => Int.bmod_eq_of_le_mul_two (by rw [e32]; omega) (by rw [e32]; omega)
  unfold op_stock
  by_cases q : lsum a b c < 99
  · have q' := Int64.lt_iff_toInt_lt.mp q
    rw [if_pos q, Int64.toInt_toInt32, bm32 _ (by omega) (by omega)]
    omega
  · rw [if_neg q]
    decide
/-- where no stock is above 99 and no more than two milliards of pieces come, the sum by ints is that by longs -/
theorem op_stock_int {a b c : Int32} (ha : 0 ≤ a.toInt ∧ a.toInt ≤ 99) (hb : 0 ≤ b.toInt) (hc : 0 ≤ c.toInt) (hp : b.toInt * c.toInt ≤ 2000000000) : (if a + b * c < 99 then a + b * c else 99) = op_stock a b c := by
  have e := l99 a b c ha.1 hb hc
  have m0 : 0 ≤ b.toInt * c.toInt := Int.mul_nonneg hb hc
  have e99 : (99 : Int64).toInt = 99 := by decide
  have e99' : (99 : Int32).toInt = 99 := by decide
  have el : (lsum a b c).toInt = a.toInt + b.toInt * c.toInt := e
  have em : (b * c).toInt = b.toInt * c.toInt := i_mul (by omega) (by omega)
  have es : (a + b * c).toInt = a.toInt + b.toInt * c.toInt := by rw [i_add (by omega) (by omega), em]
  have e32 : ((2 ^ 32 : Nat) : Int) = 4294967296 := by decide
  have bm32 : ∀ z : Int, 0 ≤ z → z ≤ 99 → z.bmod (2 ^ 32) = z := fun z h1 h2 => Int.bmod_eq_of_le_mul_two (by rw [e32]; omega) (by rw [e32]; omega)
  unfold op_stock
  by_cases q : lsum a b c < 99
  · have q' := Int64.lt_iff_toInt_lt.mp q
    rw [if_pos q, if_pos (i_lt.mpr (by omega)), i_eq, Int64.toInt_toInt32, bm32 _ (by omega) (by omega)]
    omega
  · have q' : ¬ (lsum a b c).toInt < (99 : Int64).toInt := fun z => q (Int64.lt_iff_toInt_lt.mpr z)
    rw [if_neg q, if_neg (fun z => by have := i_lt.mp z; omega)]
    decide
theorem se_i {st so w k mk bx : Int32} (hk : 1 ≤ k.toInt ∧ k.toInt ≤ 99) (hs : k.toInt ≤ st.toInt ∧ st.toInt ≤ 99) (h1 : 1 ≤ w.toInt ∧ w.toInt ≤ 20000) (h3 : 1 ≤ mk.toInt ∧ mk.toInt ≤ 100000) (h4 : 1 ≤ bx.toInt) (h5 : 0 ≤ so.toInt ∧ so.toInt < mk.toInt) : (0 ≤ (se_stock st so w k mk bx).toInt ∧ (se_stock st so w k mk bx).toInt ≤ 99) ∧ 0 ≤ (se_sold so w k mk).toInt ∧ (se_sold so w k mk).toInt < mk.toInt := by
  have a0 : 0 ≤ k.toInt * w.toInt := Int.mul_nonneg (by omega) (by omega)
  have a1 : k.toInt * w.toInt ≤ 99 * 20000 := Int.le_trans (Int.mul_le_mul_of_nonneg_right hk.2 (by omega)) (Int.mul_le_mul_of_nonneg_left h1.2 (by omega))
  have ew : (k * w).toInt = k.toInt * w.toInt := i_mul (by omega) (by omega)
  have e1 : (so + k * w).toInt = so.toInt + k.toInt * w.toInt := by rw [i_add (by omega) (by omega), ew]
  have f := fl_i (a := so + k * w) (b := mk) (by omega)
  have m1 := Int.mul_ediv_add_emod (so + k * w).toInt mk.toInt
  have m2 := Int.emod_nonneg (so + k * w).toInt (by omega : mk.toInt ≠ 0)
  have m3 := Int.emod_lt_of_pos (so + k * w).toInt (by omega : 0 < mk.toInt)
  have m4 := Int.mul_comm mk.toInt ((so + k * w).toInt / mk.toInt)
  have m5 : (fl (so + k * w) mk * mk).toInt = (so + k * w).toInt / mk.toInt * mk.toInt := by rw [i_mul (by rw [f]; omega) (by rw [f]; omega), f]
  have d0 : 0 ≤ (fl (so + k * w) mk).toInt := by rw [f]; exact Int.ediv_nonneg (by omega) (by omega)
  have d1 : 0 ≤ (fl bx w).toInt := by rw [fl_i (by omega)]; exact Int.ediv_nonneg (by omega) (by omega)
  have e2 := i_sub (a := st) (b := k) (by omega) (by omega)
  refine ⟨op_stock_i (by omega) d0 d1, ?_⟩
  unfold se_sold
  rw [i_sub (by omega) (by omega), m5]
  omega
theorem se_stock_int {st so w k mk bx : Int32} (hk : 1 ≤ k.toInt ∧ k.toInt ≤ 99) (hs : k.toInt ≤ st.toInt ∧ st.toInt ≤ 99) (h1 : 1 ≤ w.toInt ∧ w.toInt ≤ 20000) (h3 : 1 ≤ mk.toInt ∧ mk.toInt ≤ 100000) (h4 : 1 ≤ bx.toInt ∧ bx.toInt ≤ 100000) (h5 : 0 ≤ so.toInt ∧ so.toInt < mk.toInt) : (if st - k + fl (so + k * w) mk * fl bx w < 99 then st - k + fl (so + k * w) mk * fl bx w else 99) = se_stock st so w k mk bx := by
  have a0 : 0 ≤ k.toInt * w.toInt := Int.mul_nonneg (by omega) (by omega)
  have a1 : k.toInt * w.toInt ≤ 99 * w.toInt := Int.mul_le_mul_of_nonneg_right hk.2 (by omega)
  have ew : (k * w).toInt = k.toInt * w.toInt := i_mul (by omega) (by omega)
  have e1 : (so + k * w).toInt = so.toInt + k.toInt * w.toInt := by rw [i_add (by omega) (by omega), ew]
  have f := fl_i (a := so + k * w) (b := mk) (by omega)
  have g := fl_i (a := bx) (b := w) (by omega)
  have d0 : 0 ≤ (fl (so + k * w) mk).toInt := by rw [f]; exact Int.ediv_nonneg (by omega) (by omega)
  have d1 : 0 ≤ (fl bx w).toInt := by rw [g]; exact Int.ediv_nonneg (by omega) (by omega)
  have b1 : 99 * w.toInt * 1 ≤ 99 * w.toInt * mk.toInt := Int.mul_le_mul_of_nonneg_left h3.1 (by omega)
  have b2 : (99 * w.toInt + 1) * mk.toInt = 99 * w.toInt * mk.toInt + mk.toInt := by rw [Int.add_mul, Int.one_mul]
  have d2 : (fl (so + k * w) mk).toInt < 99 * w.toInt + 1 := by
    rw [f]
    exact Int.ediv_lt_of_lt_mul (by omega) (by omega)
  have d3 : w.toInt * (fl bx w).toInt ≤ bx.toInt := by
    rw [g]
    exact Int.mul_ediv_self_le (by omega)
  have d4 : (fl (so + k * w) mk).toInt * (fl bx w).toInt ≤ 99 * w.toInt * (fl bx w).toInt := Int.mul_le_mul_of_nonneg_right (by omega) d1
  have d5 : 99 * w.toInt * (fl bx w).toInt = 99 * (w.toInt * (fl bx w).toInt) := Int.mul_assoc _ _ _
  have e2 := i_sub (a := st) (b := k) (by omega) (by omega)
  unfold se_stock
  exact op_stock_int (by omega) d0 d1 (by omega)
theorem s_sell {L : hL} {X : hX} {a : Nat} {n : Int32} (t : tk L a 5) (hk : 1 ≤ n.toInt ∧ n.toInt ≤ 99) (hs : n.toInt ≤ (X.1 a 2).toInt ∧ (X.1 a 2).toInt ≤ 99) (h1 : 1 ≤ (X.1 a 1).toInt ∧ (X.1 a 1).toInt ≤ 20000) (h3 : 1 ≤ (X.1 a 3).toInt ∧ (X.1 a 3).toInt ≤ 100000) (h4 : 1 ≤ (X.1 a 4).toInt ∧ (X.1 a 4).toInt ≤ 100000) (h5 : 0 ≤ (X.1 a 5).toInt ∧ (X.1 a 5).toInt < (X.1 a 3).toInt) : ∃ Y, f_X5_sell L X a n = some (smi (smi (smi Y a 5 (se_sold (X.1 a 5) (X.1 a 1) n (X.1 a 3))) a 6 (X.1 a 6 + fl (X.1 a 5 + n * X.1 a 1) (X.1 a 3))) a 2 (se_stock (X.1 a 2) (X.1 a 5) (X.1 a 1) n (X.1 a 3) (X.1 a 4))) ∧ Y = smi (smi X a 2 (X.1 a 2 - n)) a 5 (X.1 a 5 + n * X.1 a 1) := by
  refine ⟨_, ?_, rfl⟩
  have r : ∀ (Y : hX) (j i : Nat) (x : Int32), i ≠ j → (smi Y a j x).1 a i = Y.1 a i := fun Y j i x h => by rw [smi_d, pk_un h]
  have s : ∀ (Y : hX) (j : Nat) (x : Int32), (smi Y a j x).1 a j = x := fun Y j x => by rw [smi_d, pk_us]
  unfold f_X5_sell
  rw [if_pos t]
  simp (disch := decide) only [s, r]
  rw [s_quotient (by omega), Option.bind_some, s_quotient (by omega), Option.bind_some, se_stock_int hk hs h1 h3 h4 h5]
  rfl
def op_buys (v : Nat → Int32) (cc pc : Nat) (c p n : Int32) : Int32 × (Nat → Int32) :=
  if isR c cc ∧ isR p pc ∧ 1 ≤ n ∧ n ≤ 99 then
    (let ci := 16 + 6 * c.toNatClampNeg
     let pi := 52 + 7 * p.toNatClampNeg
     if n * v pi ≤ v ci then
      (if n ≤ v (pi + 2) then
        (v ci - n * v pi, upd (upd (upd (upd v ci (v ci - n * v pi)) (pi + 5) (se_sold (v (pi + 5)) (v (pi + 1)) n (v (pi + 3)))) (pi + 2) (se_stock (v (pi + 2)) (v (pi + 5)) (v (pi + 1)) n (v (pi + 3)) (v (pi + 4)))) (pi + 6) (v (pi + 6) + fl (v (pi + 5) + n * v (pi + 1)) (v (pi + 3))))
      else (-100003, v))
     else (-100002, v))
  else (-100001, v)
/-- what is said of a prize's numbers -/
def RgP (v : Nat → Int32) (p : Nat) : Prop := (1 ≤ (v (52 + 7 * p)).toInt ∧ (v (52 + 7 * p)).toInt ≤ 5000) ∧ (1 ≤ (v (52 + 7 * p + 1)).toInt ∧ (v (52 + 7 * p + 1)).toInt ≤ 20000) ∧ (0 ≤ (v (52 + 7 * p + 2)).toInt ∧ (v (52 + 7 * p + 2)).toInt ≤ 99) ∧ (1 ≤ (v (52 + 7 * p + 3)).toInt ∧ (v (52 + 7 * p + 3)).toInt ≤ 100000) ∧ (1 ≤ (v (52 + 7 * p + 4)).toInt ∧ (v (52 + 7 * p + 4)).toInt ≤ 100000) ∧ 0 ≤ (v (52 + 7 * p + 5)).toInt ∧ (v (52 + 7 * p + 5)).toInt < (v (52 + 7 * p + 3)).toInt
theorem upd_comm {f : Nat → Int32} {i j : Nat} {x y : Int32} (h : i ≠ j) : upd (upd f i x) j y = upd (upd f j y) i x := by
  funext k
  simp only [upd]
  by_cases h1 : k = i <;> by_cases h2 : k = j <;> simp [h1, h2] <;> omega
theorem upd_upd {f : Nat → Int32} {i : Nat} {x y : Int32} : upd (upd f i x) i y = upd f i y := by
  funext k
  simp only [upd]
  by_cases h1 : k = i <;> simp [h1]
section CXQ
variable {L : hL} {X : hX} {b : Nat} {π ρ : Nat → Nat} {v : Nat → Int32}
theorem c_sellPrize (h : CX L X b π ρ v) {cc pc : Nat} (hcc : cc ≤ 6) (hpc : pc ≤ 6) (ec : v 14 = nI cc) (ep : v 15 = nI pc) (hR : ∀ p, p < pc → RgP v p) (c p n : Int32) : ∃ X', f_X0_sellPrize L X b c p n = some ((op_buys v cc pc c p n).1, X') ∧ CX L X' b π ρ (op_buys v cc pc c p n).2 := by
  have t0 := h.1.1.1
  unfold f_X0_sellPrize op_buys
  rw [c_customerAt h hcc ec, c_prizeAt h hpc ep]
  by_cases h1 : isR c cc
  · obtain ⟨ci, hci, rfl⟩ := isR_of (by omega) h1
    have e1 := nI_clamp (show ci < 2 ^ 31 by omega)
    simp only [if_pos h1, Option.bind_some, if_pos t0, Option.elim_some, e1]
    by_cases h2 : isR p pc
    · obtain ⟨pi, hpi, rfl⟩ := isR_of (by omega) h2
      have e2 := nI_clamp (show pi < 2 ^ 31 by omega)
      simp only [if_pos h2, Option.bind_some, Option.elim_some, s_within, e2]
      by_cases h3 : 1 ≤ n ∧ n ≤ 99
      · have hP := fun j (hj : j < 7) => h.pr (show pi < 6 by omega) hj
        have hC := h.cu (show ci < 6 by omega) (show 0 < 6 by omega)
        simp only [if_pos h3, Option.bind_some, i10, if_false, if_pos (ct h (show ci < 6 by omega)), if_pos (pt h (show pi < 6 by omega)), hP 0 (by omega), hP 2 (by omega), hC, if_pos (And.intro h1 (And.intro h2 h3)), Nat.add_zero]
        by_cases h4 : n * v (52 + 7 * pi) ≤ v (16 + 6 * ci)
        · by_cases h5 : n ≤ v (52 + 7 * pi + 2)
          · simp only [if_pos h4, if_pos h5]
            have z := h.wcu (j := 0) (show ci < 6 by omega) (by omega) (v (16 + 6 * ci) - n * v (52 + 7 * pi))
            have zP := fun j (hj : j < 7) => z.pr (show pi < 6 by omega) hj
            have nP : ∀ j, j < 7 → upd v (16 + 6 * ci + 0) (v (16 + 6 * ci) - n * v (52 + 7 * pi)) (52 + 7 * pi + j) = v (52 + 7 * pi + j) := fun j hj => pk_un (by omega)
            obtain ⟨-, q1, q2, q3, q4, q5⟩ := hR pi hpi
            have k1 := i_le.mp h3.1
            have k2 := i_le.mp h3.2
            have k3 := i_le.mp h5
            rw [show (1 : Int32).toInt = 1 by decide] at k1
            rw [show (99 : Int32).toInt = 99 by decide] at k2
            obtain ⟨Y, hY, rfl⟩ := s_sell (L := L) (X := smi X (b + 9 + π ci) 0 (v (16 + 6 * ci) - n * v (52 + 7 * pi))) (a := b + 15 + ρ pi) (n := n) (pt h (show pi < 6 by omega)) ⟨k1, k2⟩ (by rw [zP 2 (by omega), nP 2 (by omega)]; omega) (by rw [zP 1 (by omega), nP 1 (by omega)]; exact q1) (by rw [zP 3 (by omega), nP 3 (by omega)]; exact q3) (by rw [zP 4 (by omega), nP 4 (by omega)]; exact q4) (by rw [zP 5 (by omega), nP 5 (by omega), zP 3 (by omega), nP 3 (by omega)]; exact q5)
            rw [hY, Option.bind_some]
            simp only [zP 1 (by omega), zP 2 (by omega), zP 3 (by omega), zP 4 (by omega), zP 5 (by omega), zP 6 (by omega), nP 1 (by omega), nP 2 (by omega), nP 3 (by omega), nP 4 (by omega), nP 5 (by omega), nP 6 (by omega)]
            have f := ((((z.wpr (c := pi) (j := 2) (by omega) (by omega) (v (52 + 7 * pi + 2) - n)).wpr (c := pi) (j := 5) (by omega) (by omega) (v (52 + 7 * pi + 5) + n * v (52 + 7 * pi + 1))).wpr (c := pi) (j := 5) (by omega) (by omega) (se_sold (v (52 + 7 * pi + 5)) (v (52 + 7 * pi + 1)) n (v (52 + 7 * pi + 3)))).wpr (c := pi) (j := 6) (by omega) (by omega) (v (52 + 7 * pi + 6) + fl (v (52 + 7 * pi + 5) + n * v (52 + 7 * pi + 1)) (v (52 + 7 * pi + 3)))).wpr (c := pi) (j := 2) (by omega) (by omega) (se_stock (v (52 + 7 * pi + 2)) (v (52 + 7 * pi + 5)) (v (52 + 7 * pi + 1)) n (v (52 + 7 * pi + 3)) (v (52 + 7 * pi + 4)))
            refine ⟨_, congrArg some (Prod.ext ?_ rfl), cast (congrArg (CX L _ b π ρ) ?_) f⟩
            · have fc := f.cu (show ci < 6 by omega) (show 0 < 6 by omega)
              refine fc.trans ?_
              simp only [upd]
              rw [if_neg (by omega), if_neg (by omega), if_neg (by omega), if_neg (by omega), if_neg (by omega), if_pos trivial]
            · funext k
              simp only [upd]
              by_cases k1 : k = 52 + 7 * pi + 2
              · subst k1; simp
              · by_cases k2 : k = 52 + 7 * pi + 6
                · subst k2; simp
                · by_cases k3 : k = 52 + 7 * pi + 5
                  · subst k3; simp
                  · by_cases k4 : k = 16 + 6 * ci
                    · subst k4; simp [k1, k2, k3]
                    · simp [k1, k2, k3, k4]
          · simp only [if_pos h4, if_neg h5]
            exact ⟨_, rfl, h⟩
        · simp only [if_neg h4]
          exact ⟨_, rfl, h⟩
      · simp only [if_neg h3, Option.bind_some, i01, if_true]
        rw [if_neg (fun q => h3 q.2.2)]
        exact ⟨_, rfl, h⟩
    · simp only [if_neg h2, Option.bind_some, Option.elim_none]
      rw [if_neg (fun q => h2 q.2.1)]
      exact ⟨_, rfl, h⟩
  · simp only [if_neg h1, Option.bind_some, if_pos t0, Option.elim_none]
    rw [if_neg (show ¬ (isR c cc ∧ isR p pc ∧ 1 ≤ n ∧ n ≤ 99) from fun q => h1 q.1)]
    by_cases h2 : isR p pc
    · simp only [if_pos h2, Option.elim_some]
      exact ⟨_, rfl, h⟩
    · simp only [if_neg h2, Option.elim_none]
      exact ⟨_, rfl, h⟩
end CXQ
