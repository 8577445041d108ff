theorem m_buys {L : hL} {X : hX} (hM : MOK L X) {cc pc : Nat} (hcc : cc ≤ 6) (hpc : pc ≤ 6) (ec : X.1 471 14 = nI cc) (ep : X.1 471 15 = nI pc) (hR : ∀ p, p < pc → RgP (X.1 471) p) (c p n : Int32) : ∃ X', f_X10_buys L X 470 c p n = some ((op_buys (X.1 471) cc pc c p n).1, X') ∧ SC X X' ∧ X'.1 471 = (op_buys (X.1 471) cc pc c p n).2 := by
  have t0 := hM.1.1
  have t1 := hM.1.2.1
  have l1 := hM.2.1.1
  have r0 := hM.2.2.1
  unfold f_X10_buys op_buys
  simp only [s_isCustomer hM, s_isPrize hM, s_in, ec, ep, isR_m1 hcc, isR_m1 hpc]
  by_cases h1 : isR c cc
  · obtain ⟨ci, hci, rfl⟩ := isR_of (by omega) h1
    have e1 := nI_clamp (show ci < 2 ^ 31 by omega)
    simp only [if_pos h1, Option.bind_some, i10, if_false, if_pos t0]
    by_cases h2 : isR p pc
    · obtain ⟨pi, hpi, rfl⟩ := isR_of (by omega) h2
      have e2 := nI_clamp (show pi < 2 ^ 31 by omega)
      simp only [if_pos h2, Option.bind_some, i10, if_false]
      by_cases h3 : 1 ≤ n ∧ n ≤ 99
      · have eo : f_X10_of L X 470 (nI ci) 0 = some (X.1 471 (16 + 6 * ci)) := s_of hM (by omega) (show 0 < 6 by omega)
        have e0 : f_X10_priced L X 470 (nI pi) 0 = some (X.1 471 (52 + 7 * pi)) := s_priced hM (by omega) (show 0 < 7 by omega)
        have e2' : f_X10_priced L X 470 (nI pi) 2 = some (X.1 471 (52 + 7 * pi + 2)) := s_priced hM (by omega) (show 2 < 7 by omega)
        simp only [if_pos h3, Option.bind_some, i10, if_false, eo, e0, e1, e2, if_pos (And.intro h1 (And.intro h2 h3))]
        by_cases h4 : n * X.1 471 (52 + 7 * pi) ≤ X.1 471 (16 + 6 * ci)
        · simp only [if_pos h4, e2', Option.bind_some]
          by_cases h5 : n ≤ X.1 471 (52 + 7 * pi + 2)
          · obtain ⟨-, ⟨q1, q1'⟩, -, ⟨q3, q3'⟩, ⟨q4, q4'⟩, q5, q5'⟩ := hR pi hpi
            have hn : (1 : Int32).toInt ≤ n.toInt ∧ n.toInt ≤ (99 : Int32).toInt := ⟨i_le.mp h3.1, i_le.mp h3.2⟩
            have en : (1 : Int32).toInt = 1 ∧ (99 : Int32).toInt = 99 := by decide
            have hb : ∀ j, j < 7 → hin (nI (52 + 7 * pi + j)) 284 := fun j hj => hin_nI (by omega) (by omega)
            have hb0 : hin (nI (52 + 7 * pi)) 284 := hin_nI (by omega) (by omega)
            have hc0 : hin (nI (16 + 6 * ci)) 284 := hin_nI (by omega) (by omega)
            have kb : ∀ j, j < 7 → (nI (52 + 7 * pi + j)).toNatClampNeg = 52 + 7 * pi + j := fun j hj => nI_clamp (by omega)
            have kc : (nI (16 + 6 * ci)).toNatClampNeg = 16 + 6 * ci := nI_clamp (by omega)
            have hw : n.toInt * (X.1 471 (52 + 7 * pi + 1)).toInt ≤ 99 * 20000 := by
              refine Int.le_trans (Int.mul_le_mul_of_nonneg_right (c := (X.1 471 (52 + 7 * pi + 1)).toInt) (show n.toInt ≤ 99 by omega) (by omega)) ?_
              exact Int.mul_le_mul_of_nonneg_left q1' (by omega)
            have hw0 : 0 ≤ n.toInt * (X.1 471 (52 + 7 * pi + 1)).toInt := Int.mul_nonneg (by omega) (by omega)
            have ew : (n * X.1 471 (52 + 7 * pi + 1)).toInt = n.toInt * (X.1 471 (52 + 7 * pi + 1)).toInt := i_mul (by omega) (by omega)
            have es : (X.1 471 (52 + 7 * pi + 5) + n * X.1 471 (52 + 7 * pi + 1)).toInt = (X.1 471 (52 + 7 * pi + 5)).toInt + n.toInt * (X.1 471 (52 + 7 * pi + 1)).toInt := by rw [i_add (by omega) (by omega), ew]
            have d1 : (X.1 471 (52 + 7 * pi + 5) + n * X.1 471 (52 + 7 * pi + 1)) / X.1 471 (52 + 7 * pi + 3) = fl (X.1 471 (52 + 7 * pi + 5) + n * X.1 471 (52 + 7 * pi + 1)) (X.1 471 (52 + 7 * pi + 3)) := fl_div (by omega) (by omega)
            have d2 : X.1 471 (52 + 7 * pi + 4) / X.1 471 (52 + 7 * pi + 1) = fl (X.1 471 (52 + 7 * pi + 4)) (X.1 471 (52 + 7 * pi + 1)) := fl_div (by omega) (by omega)
            have z1 : ¬ X.1 471 (52 + 7 * pi + 3) = 0 := i_nz (by omega)
            have z2 : ¬ X.1 471 (52 + 7 * pi + 1) = 0 := i_nz (by omega)
            simp only [if_pos h5, r0, Option.bind_some, if_pos t1, l1, n16, n52, nk1, nk2, nk3, nk4, nk5, nk6, if_pos hc0, if_pos (hb 1 (by omega)), if_pos (hb 2 (by omega)), if_pos (hb 3 (by omega)), if_pos (hb 4 (by omega)), if_pos (hb 5 (by omega)), if_pos (hb 6 (by omega)), kc, kb 1 (by omega), kb 2 (by omega), kb 3 (by omega), kb 4 (by omega), kb 5 (by omega), kb 6 (by omega), e0]
            simp (disch := omega) only [smi_d, pk_us, pk_un, d1, d2, if_pos z1, if_pos z2, stocked_eq, Option.bind_some]
            have ef : ∀ Y : hX, MOK L Y → f_X10_of L Y 470 (nI ci) 0 = some (Y.1 471 (16 + 6 * ci)) := fun Y hY => s_of hY (by omega) (show 0 < 6 by omega)
            rw [ef _ hM.smi.smi.smi.smi, Option.bind_some]
            refine ⟨_, congrArg some (Prod.ext ?_ rfl), SC.rf.d.d.d.d, ?_⟩
            · simp (disch := omega) only [smi_d, pk_us, pk_un]
            · simp only [smi_d]
              rfl
          · simp only [if_neg h5]
            exact ⟨_, rfl, SC.rf, rfl⟩
        · simp only [if_neg h4]
          exact ⟨_, rfl, SC.rf, rfl⟩
      · simp only [if_neg h3, Option.bind_some, i01, if_true]
        rw [if_neg (fun q => h3 q.2.2)]
        exact ⟨_, rfl, SC.rf, rfl⟩
    · simp only [if_neg h2, Option.bind_some, i01, if_true]
      rw [if_neg (show ¬ (isR (nI ci) cc ∧ isR p pc ∧ 1 ≤ n ∧ n ≤ 99) from fun q => h2 q.2.1)]
      exact ⟨_, rfl, SC.rf, rfl⟩
  · simp only [if_neg h1, Option.bind_some, i01, if_true, if_pos t0]
    rw [if_neg (show ¬ (isR c cc ∧ isR p pc ∧ 1 ≤ n ∧ n ≤ 99) from fun q => h1 q.1)]
    exact ⟨_, rfl, SC.rf, rfl⟩
