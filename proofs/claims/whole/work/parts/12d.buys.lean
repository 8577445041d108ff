theorem MOK.smi {L : hL} {X : hX} (h : MOK L X) {a i : Nat} {v : Int32} : MOK L (smi X a i v) := h
/-- what a purchase does to a prize's numbers: stock, sold weight, boxes -/
def se_due (st so w n mk : Int32) : Int32 := fl (so + n * w) mk
def se_sold (so w n mk : Int32) : Int32 := (so + n * w) - fl (so + n * w) mk * mk
def se_stock (st so w n mk bx : Int32) : Int32 := op_stock (st - n) (fl (so + n * w) mk) (fl bx w)
theorem s_sell {L : hL} {X : hX} {a : Nat} {n : Int32} (t : tk L a 5) (h1 : 0 < (X.1 a 1).toInt) (h3 : 0 < (X.1 a 3).toInt) : ∃ Y, f_X5_sell L X a n = some (smi (smi (smi Y a 5 (se_sold (X.1 a 5) (X.1 a 1) n (X.1 a 3))) a 6 (X.1 a 6 + fl (X.1 a 5 + n * X.1 a 1) (X.1 a 3))) a 2 (se_stock (X.1 a 2) (X.1 a 5) (X.1 a 1) n (X.1 a 3) (X.1 a 4))) ∧ Y = smi (smi X a 2 (X.1 a 2 - n)) a 5 (X.1 a 5 + n * X.1 a 1) := by
  refine ⟨_, ?_, rfl⟩
  have r : ∀ (Y : hX) (j i : Nat) (x : Int32), i ≠ j → (smi Y a j x).1 a i = Y.1 a i := fun Y j i x h => by rw [smi_d, pk_un h]
  have s : ∀ (Y : hX) (j : Nat) (x : Int32), (smi Y a j x).1 a j = x := fun Y j x => by rw [smi_d, pk_us]
  unfold f_X5_sell
  rw [if_pos t]
  simp (disch := decide) only [s, r]
  rw [s_quotient h3, Option.bind_some, s_quotient h1, Option.bind_some]
  rfl
def op_buys (v : Nat → Int32) (cc pc : Nat) (c p n : Int32) : Int32 × (Nat → Int32) :=
  if isR c cc ∧ isR p pc ∧ 1 ≤ n ∧ n ≤ 99 then
    (let ci := 16 + 6 * c.toNatClampNeg
     let pi := 52 + 7 * p.toNatClampNeg
     if n * v pi ≤ v ci then
      (if n ≤ v (pi + 2) then
        (v ci - n * v pi, upd (upd (upd (upd v ci (v ci - n * v pi)) (pi + 5) (se_sold (v (pi + 5)) (v (pi + 1)) n (v (pi + 3)))) (pi + 2) (se_stock (v (pi + 2)) (v (pi + 5)) (v (pi + 1)) n (v (pi + 3)) (v (pi + 4)))) (pi + 6) (v (pi + 6) + fl (v (pi + 5) + n * v (pi + 1)) (v (pi + 3))))
      else (-100003, v))
     else (-100002, v))
  else (-100001, v)
/-- what is said of a prize's numbers -/
def RgP (v : Nat → Int32) (p : Nat) : Prop := (1 ≤ (v (52 + 7 * p)).toInt ∧ (v (52 + 7 * p)).toInt ≤ 5000) ∧ (1 ≤ (v (52 + 7 * p + 1)).toInt ∧ (v (52 + 7 * p + 1)).toInt ≤ 20000) ∧ (0 ≤ (v (52 + 7 * p + 2)).toInt ∧ (v (52 + 7 * p + 2)).toInt ≤ 99) ∧ (1 ≤ (v (52 + 7 * p + 3)).toInt ∧ (v (52 + 7 * p + 3)).toInt ≤ 100000) ∧ (1 ≤ (v (52 + 7 * p + 4)).toInt ∧ (v (52 + 7 * p + 4)).toInt ≤ 100000) ∧ 0 ≤ (v (52 + 7 * p + 5)).toInt ∧ (v (52 + 7 * p + 5)).toInt < (v (52 + 7 * p + 3)).toInt
theorem upd_comm {f : Nat → Int32} {i j : Nat} {x y : Int32} (h : i ≠ j) : upd (upd f i x) j y = upd (upd f j y) i x := by
  funext k
  simp only [upd]
  by_cases h1 : k = i <;> by_cases h2 : k = j <;> simp [h1, h2] <;> omega
theorem upd_upd {f : Nat → Int32} {i : Nat} {x y : Int32} : upd (upd f i x) i y = upd f i y := by
  funext k
  simp only [upd]
  by_cases h1 : k = i <;> simp [h1]
section CXQ
variable {L : hL} {X : hX} {b : Nat} {π ρ : Nat → Nat} {v : Nat → Int32}
theorem c_sellPrize (h : CX L X b π ρ v) {cc pc : Nat} (hcc : cc ≤ 6) (hpc : pc ≤ 6) (ec : v 14 = nI cc) (ep : v 15 = nI pc) (hR : ∀ p, p < pc → RgP v p) (c p n : Int32) : ∃ X', f_X0_sellPrize L X b c p n = some ((op_buys v cc pc c p n).1, X') ∧ CX L X' b π ρ (op_buys v cc pc c p n).2 := by
  have t0 := h.1.1.1
  unfold f_X0_sellPrize op_buys
  rw [c_customerAt h hcc ec, c_prizeAt h hpc ep]
  by_cases h1 : isR c cc
  · obtain ⟨ci, hci, rfl⟩ := isR_of (by omega) h1
    have e1 := nI_clamp (show ci < 2 ^ 31 by omega)
    simp only [if_pos h1, Option.bind_some, if_pos t0, Option.elim_some, e1]
    by_cases h2 : isR p pc
    · obtain ⟨pi, hpi, rfl⟩ := isR_of (by omega) h2
      have e2 := nI_clamp (show pi < 2 ^ 31 by omega)
      simp only [if_pos h2, Option.bind_some, Option.elim_some, s_within, e2]
      by_cases h3 : 1 ≤ n ∧ n ≤ 99
      · have hP := fun j (hj : j < 7) => h.pr (show pi < 6 by omega) hj
        have hC := h.cu (show ci < 6 by omega) (show 0 < 6 by omega)
        simp only [if_pos h3, Option.bind_some, i10, if_false, if_pos (ct h (show ci < 6 by omega)), if_pos (pt h (show pi < 6 by omega)), hP 0 (by omega), hP 2 (by omega), hC, if_pos (And.intro h1 (And.intro h2 h3)), Nat.add_zero]
        by_cases h4 : n * v (52 + 7 * pi) ≤ v (16 + 6 * ci)
        · by_cases h5 : n ≤ v (52 + 7 * pi + 2)
          · simp only [if_pos h4, if_pos h5]
            have z := h.wcu (j := 0) (show ci < 6 by omega) (by omega) (v (16 + 6 * ci) - n * v (52 + 7 * pi))
            have zP := fun j (hj : j < 7) => z.pr (show pi < 6 by omega) hj
            have nP : ∀ j, j < 7 → upd v (16 + 6 * ci + 0) (v (16 + 6 * ci) - n * v (52 + 7 * pi)) (52 + 7 * pi + j) = v (52 + 7 * pi + j) := fun j hj => pk_un (by omega)
            obtain ⟨-, ⟨q1, -⟩, -, ⟨q3, -⟩, -⟩ := hR pi hpi
            obtain ⟨Y, hY, rfl⟩ := s_sell (L := L) (X := smi X (b + 9 + π ci) 0 (v (16 + 6 * ci) - n * v (52 + 7 * pi))) (a := b + 15 + ρ pi) (n := n) (pt h (show pi < 6 by omega)) (by rw [zP 1 (by omega), nP 1 (by omega)]; omega) (by rw [zP 3 (by omega), nP 3 (by omega)]; omega)
            rw [hY, Option.bind_some]
            simp only [zP 1 (by omega), zP 2 (by omega), zP 3 (by omega), zP 4 (by omega), zP 5 (by omega), zP 6 (by omega), nP 1 (by omega), nP 2 (by omega), nP 3 (by omega), nP 4 (by omega), nP 5 (by omega), nP 6 (by omega)]
            have f := ((((z.wpr (c := pi) (j := 2) (by omega) (by omega) (v (52 + 7 * pi + 2) - n)).wpr (c := pi) (j := 5) (by omega) (by omega) (v (52 + 7 * pi + 5) + n * v (52 + 7 * pi + 1))).wpr (c := pi) (j := 5) (by omega) (by omega) (se_sold (v (52 + 7 * pi + 5)) (v (52 + 7 * pi + 1)) n (v (52 + 7 * pi + 3)))).wpr (c := pi) (j := 6) (by omega) (by omega) (v (52 + 7 * pi + 6) + fl (v (52 + 7 * pi + 5) + n * v (52 + 7 * pi + 1)) (v (52 + 7 * pi + 3)))).wpr (c := pi) (j := 2) (by omega) (by omega) (se_stock (v (52 + 7 * pi + 2)) (v (52 + 7 * pi + 5)) (v (52 + 7 * pi + 1)) n (v (52 + 7 * pi + 3)) (v (52 + 7 * pi + 4)))
            refine ⟨_, congrArg some (Prod.ext ?_ rfl), cast (congrArg (CX L _ b π ρ) ?_) f⟩
            · have fc := f.cu (show ci < 6 by omega) (show 0 < 6 by omega)
              refine fc.trans ?_
              simp only [upd]
              rw [if_neg (by omega), if_neg (by omega), if_neg (by omega), if_neg (by omega), if_neg (by omega), if_pos trivial]
            · funext k
              simp only [upd]
              by_cases k1 : k = 52 + 7 * pi + 2
              · subst k1; simp
              · by_cases k2 : k = 52 + 7 * pi + 6
                · subst k2; simp
                · by_cases k3 : k = 52 + 7 * pi + 5
                  · subst k3; simp
                  · by_cases k4 : k = 16 + 6 * ci
                    · subst k4; simp [k1, k2, k3]
                    · simp [k1, k2, k3, k4]
          · simp only [if_pos h4, if_neg h5]
            exact ⟨_, rfl, h⟩
        · simp only [if_neg h4]
          exact ⟨_, rfl, h⟩
      · simp only [if_neg h3, Option.bind_some, i01, if_true]
        rw [if_neg (fun q => h3 q.2.2)]
        exact ⟨_, rfl, h⟩
    · simp only [if_neg h2, Option.bind_some, Option.elim_none]
      rw [if_neg (fun q => h2 q.2.1)]
      exact ⟨_, rfl, h⟩
  · simp only [if_neg h1, Option.bind_some, if_pos t0, Option.elim_none]
    rw [if_neg (show ¬ (isR c cc ∧ isR p pc ∧ 1 ≤ n ∧ n ≤ 99) from fun q => h1 q.1)]
    by_cases h2 : isR p pc
    · simp only [if_pos h2, Option.elim_some]
      exact ⟨_, rfl, h⟩
    · simp only [if_neg h2, Option.elim_none]
      exact ⟨_, rfl, h⟩
end CXQ
