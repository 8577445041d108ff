/-! the reference's guesses -/
section MG
variable {L : hL} {X : hX} {r : Int32} {j : Nat}
theorem m_highest (hM : MOK L X) (h : RgS (X.1 471)) (hr : rdg r) : f_X10_highest L X 470 r = some (gh (X.1 471) r) := by
  have e := gh_i h hr
  have t0 := hM.1.1
  have t1 := hM.1.2.1
  have l1 := hM.2.1.1
  have r0 := hM.2.2.1
  obtain ⟨h8, -⟩ := h
  unfold f_X10_highest
  simp only [if_pos t0, r0, Option.bind_some, if_pos t1, l1, show (8 < 284) = True from by decide, if_true]
  rw [s_floors (by rw [z2i]; omega), Option.bind_some]
  refine congrArg some (Int32.toInt_inj.mp ?_)
  have e1 : (2 * r).toInt = 2 * r.toInt := by rw [i_mul (by rw [z2i]; omega) (by rw [z2i]; omega), z2i]
  have e2 : (2 * r + X.1 471 8).toInt = 2 * r.toInt + (X.1 471 8).toInt := by rw [i_add (by omega) (by omega), e1]
  rw [fl_i (by rw [z2i]; omega), i_sub (by rw [z1i]; omega) (by rw [z1i]; omega), e2, e, z1i, z2i]
  omega
theorem m_lowest (hM : MOK L X) (h : RgS (X.1 471)) (hr : rdg r) (hz : r ≠ 0) : f_X10_lowest L X 470 r = some (go (X.1 471) r) := by
  have e := go_i h hr
  have t0 := hM.1.1
  have t1 := hM.1.2.1
  have l1 := hM.2.1.1
  have r0 := hM.2.2.1
  obtain ⟨h8, -⟩ := h
  unfold f_X10_lowest
  simp only [if_neg hz, if_pos t0, r0, Option.bind_some, if_pos t1, l1, show (8 < 284) = True from by decide, if_true]
  rw [s_floors (by rw [z2i]; omega), Option.bind_some]
  refine congrArg some (Int32.toInt_inj.mp ?_)
  have e1 : (2 * r).toInt = 2 * r.toInt := by rw [i_mul (by rw [z2i]; omega) (by rw [z2i]; omega), z2i]
  have e2 : (2 * r - X.1 471 8).toInt = 2 * r.toInt - (X.1 471 8).toInt := by rw [i_sub (by omega) (by omega), e1]
  rw [fl_i (by rw [z2i]; omega), i_add (by rw [z1i]; omega) (by rw [z1i]; omega), e2, e, z1i, z2i]
  omega
theorem m_lowest0 : f_X10_lowest L X 470 0 = some (-9000000) := by
  unfold f_X10_lowest
  rw [if_pos rfl]
theorem lz (l : Int32) (h1 : 0 ≤ l.toInt) (h2 : l.toInt ≤ 2000) : ¬ 0 < -9000000 - l := by
  have e1 : (-9000000 : Int32).toInt = -9000000 := by decide
  generalize (-9000000 : Int32) = z at e1 ⊢
  have e2 : (z - l).toInt = -9000000 - l.toInt := by rw [i_sub (by omega) (by omega), e1]
  intro q
  rw [i_lt, z0i, e2] at q
  omega
theorem m_82 (hM : MOK L X) (h : RgS (X.1 471)) (hr : rdg r) (hj : j < 4) (hs : r - r / X.1 471 8 * X.1 471 8 = 0) (q : Int32) : f_X10_allows_82 L 470 r (X.1 471 j - X.1 471 (4 + j)) q 470 X = some (if q ≤ gg (X.1 471) r j then 1 else 0, smi (smi X 470 13 q) 470 14 (gg (X.1 471) r j)) := by
  have e := gh_i h hr
  have hl := lt_i h hj
  have hg : gg (X.1 471) r j = fl (gh (X.1 471) r + X.1 471 9) (X.1 471 j - X.1 471 (4 + j)) := by unfold gg; rw [if_pos hs]
  have t0 := hM.1.1
  have t1 := hM.1.2.1
  have l1 := hM.2.1.1
  have r0 := hM.2.2.1
  have s0 : (smi X 470 13 q).1 471 = X.1 471 := smi_o (by decide)
  have hh : f_X10_highest L (smi X 470 13 q) 470 r = some (gh (X.1 471) r) := by
    have := m_highest (L := L) (X := smi X 470 13 q) (r := r) hM (by rw [s0]; exact h) hr
    rw [this, s0]
  obtain ⟨h8, h9, -, -, -, hk⟩ := h
  have hk := hk j hj
  have ea := i_add (a := gh (X.1 471) r) (b := X.1 471 9) (by omega) (by omega)
  have ed : (gh (X.1 471) r + X.1 471 9) / (X.1 471 j - X.1 471 (4 + j)) = gg (X.1 471) r j := by rw [hg, fl_div (by omega) (by omega)]
  unfold f_X10_allows_82
  simp only [if_pos t0, hh, Option.bind_some, r0, if_pos t1, l1, show (9 < 284) = True from by decide, if_true, if_pos (i_nz (b := X.1 471 j - X.1 471 (4 + j)) (by omega)), s0, ed]
  have a1 : (smi (smi X 470 13 q) 470 14 (gg (X.1 471) r j)).1 470 14 = gg (X.1 471) r j := by simp [smi]
  have a2 : (smi (smi X 470 13 q) 470 14 (gg (X.1 471) r j)).1 470 13 = q := by simp [smi]
  rw [a1, a2]
  by_cases c : gg (X.1 471) r j < q
  · rw [if_pos c, if_neg (by rw [i_le]; rw [i_lt] at c; omega)]
  · rw [if_neg c, if_pos (by rw [i_le]; rw [i_lt] at c; omega)]
theorem m_allows (hM : MOK L X) (h : RgS (X.1 471)) (hr : rdg r) (hj : j < 4) : ∃ X', f_X10_allows L X 470 r (nI j) = some (if gl (X.1 471) r j ≤ gg (X.1 471) r j then 1 else 0, X') ∧ SC X X' ∧ X'.1 471 = X.1 471 ∧ (gl (X.1 471) r j ≤ gg (X.1 471) r j → X'.1 470 13 = gl (X.1 471) r j ∧ X'.1 470 14 = gg (X.1 471) r j) := by
  have t0 := hM.1.1
  have t1 := hM.1.2.1
  have l1 := hM.2.1.1
  have r0 := hM.2.2.1
  have e8 := h.1
  unfold f_X10_allows
  simp only [if_pos t0, r0, Option.bind_some, if_pos t1, l1, show (8 < 284) = True from by decide, show (9 < 284) = True from by decide, if_true, if_pos (i_nz (b := X.1 471 8) (by omega))]
  by_cases hs : r - r / X.1 471 8 * X.1 471 8 = 0
  · have hl := gl_i h hr hj
    have hg : gl (X.1 471) r j = if 0 < fl (((go (X.1 471) r - X.1 471 9) + (X.1 471 j + X.1 471 (4 + j))) - 1) (X.1 471 j + X.1 471 (4 + j)) then fl (((go (X.1 471) r - X.1 471 9) + (X.1 471 j + X.1 471 (4 + j))) - 1) (X.1 471 j + X.1 471 (4 + j)) else 0 := rfl
    have h82 := fun q => m_82 hM h hr hj hs q
    have fin : ∀ q, q = gl (X.1 471) r j → ∃ X', (some ((if q ≤ gg (X.1 471) r j then (1 : Int32) else 0), smi (smi X 470 13 q) 470 14 (gg (X.1 471) r j)) : Option (Int32 × hX)) = some (if gl (X.1 471) r j ≤ gg (X.1 471) r j then 1 else 0, X') ∧ SC X X' ∧ X'.1 471 = X.1 471 ∧ (gl (X.1 471) r j ≤ gg (X.1 471) r j → X'.1 470 13 = gl (X.1 471) r j ∧ X'.1 470 14 = gg (X.1 471) r j) := by
      intro q hq
      subst hq
      refine ⟨_, rfl, (SC.rf.s (by omega)).s (by omega), ?_, fun _ => ⟨by simp [smi], by simp [smi]⟩⟩
      rw [smi_o (by decide), smi_o (by decide)]
    simp only [if_pos hs, if_pos (hin_nI (n := 284) (show j < 284 by omega) (by omega)), n4, if_pos (hin_nI (n := 284) (show 4 + j < 284 by omega) (by omega)), nI_clamp (show j < 2 ^ 31 by omega), nI_clamp (show 4 + j < 2 ^ 31 by omega), h82]
    by_cases hz : r = 0
    · subst hz
      rw [m_lowest0, Option.bind_some]
      have h9 := h.2.1
      rw [if_neg (lz (X.1 471 9) h9.1 h9.2)]
      refine fin 0 (Int32.toInt_inj.mp ?_)
      have h8 : 0 ≤ (X.1 471 8).toInt / 2 := Int.ediv_nonneg (by omega) (by omega)
      rw [hl, if_pos]
      · rfl
      · rw [z0i]; omega
    · rw [m_lowest hM h hr hz, Option.bind_some]
      have e1 := go_i h hr
      have e2 := hv_i h hj
      have e4 := nz_i h hr hj
      have h9 := h.2.1
      have hk := h.2.2.2.2.2 j hj
      have e3 : (go (X.1 471) r - X.1 471 9).toInt = r.toInt - (X.1 471 8).toInt / 2 - (X.1 471 9).toInt := by rw [i_sub (by omega) (by omega), e1]
      by_cases c : 0 < go (X.1 471) r - X.1 471 9
      · have c' := i_lt.mp c
        rw [z0i, e3] at c'
        rw [if_pos c, if_pos (i_nz (by omega)), fl_div (by omega) (by omega)]
        refine fin _ ?_
        have e5 := fl_i (a := ((go (X.1 471) r - X.1 471 9) + (X.1 471 j + X.1 471 (4 + j))) - 1) (b := X.1 471 j + X.1 471 (4 + j)) (by omega)
        refine Int32.toInt_inj.mp ?_
        rw [hl, if_neg (by omega), e5, e4, e2]
      · rw [if_neg c]
        refine fin 0 (Int32.toInt_inj.mp ?_)
        have c' : ¬ (0 : Int32).toInt < (go (X.1 471) r - X.1 471 9).toInt := fun q => c (i_lt.mpr q)
        rw [z0i, e3] at c'
        rw [hl, if_pos (by omega)]
        rfl
  · have := gg_n h hr hj hs
    rw [if_neg hs, if_neg this]
    exact ⟨_, rfl, SC.rf, rfl, fun q => absurd q this⟩
theorem gn_m (h : RgS (X.1 471)) (hr : rdg r) (hj : j < 4) : (if 2 * (r - r / X.1 471 j * X.1 471 j) ≤ X.1 471 j then r / X.1 471 j else r / X.1 471 j + 1) = gn (X.1 471) r j := by
  have hk := h.2.2.2.2.2 j hj
  have d : r / X.1 471 j = fl r (X.1 471 j) := fl_div (by omega) (by omega)
  have f := fl_i (a := r) (b := X.1 471 j) (by omega)
  have m1 := Int.mul_ediv_add_emod r.toInt (X.1 471 j).toInt
  have m2 := Int.emod_nonneg r.toInt (by omega : (X.1 471 j).toInt ≠ 0)
  have m3 := Int.emod_lt_of_pos r.toInt (by omega : 0 < (X.1 471 j).toInt)
  have m4 := Int.mul_comm (X.1 471 j).toInt (r.toInt / (X.1 471 j).toInt)
  have m5 := Int.mul_nonneg (Int.ediv_nonneg (a := r.toInt) (b := (X.1 471 j).toInt) (by omega) (by omega)) (show 0 ≤ (X.1 471 j).toInt by omega)
  unfold gn
  rw [d]
  have e1 : (fl r (X.1 471 j) * X.1 471 j).toInt = r.toInt / (X.1 471 j).toInt * (X.1 471 j).toInt := by rw [i_mul (by rw [f]; omega) (by rw [f]; omega), f]
  have e2 : (r - fl r (X.1 471 j) * X.1 471 j).toInt = r.toInt % (X.1 471 j).toInt := by rw [i_sub (by omega) (by omega), e1]; omega
  have e3 : (2 * (r - fl r (X.1 471 j) * X.1 471 j)).toInt = 2 * (r.toInt % (X.1 471 j).toInt) := by rw [i_mul (by rw [z2i]; omega) (by rw [z2i]; omega), z2i, e2]
  have e4 : (X.1 471 j - (r - fl r (X.1 471 j) * X.1 471 j)).toInt = (X.1 471 j).toInt - r.toInt % (X.1 471 j).toInt := by rw [i_sub (by omega) (by omega), e2]
  by_cases c : 2 * (r - fl r (X.1 471 j) * X.1 471 j) ≤ X.1 471 j
  · have c' := i_le.mp c
    rw [if_pos c, if_neg (by rw [i_lt]; omega)]
  · have c' : ¬ (2 * (r - fl r (X.1 471 j) * X.1 471 j)).toInt ≤ (X.1 471 j).toInt := fun q => c (i_le.mpr q)
    rw [if_neg c, if_pos (by rw [i_lt]; omega)]
theorem m_guesses (hM : MOK L X) (h : RgS (X.1 471)) (hr : rdg r) (hj : j < 4) (u : Int32) : ∃ X', f_X10_guesses L X 470 r (nI j) u = some (gs (X.1 471) r j u, X') ∧ SC X X' ∧ X'.1 471 = X.1 471 := by
  obtain ⟨X', e, hs, hd, hv⟩ := m_allows hM h hr hj
  have t0 := hM.1.1
  have t1 := hM.1.2.1
  have l1 := hM.2.1.1
  have r0 := hM.2.2.1
  have r0' : X'.2 470 0 = some 471 := by rw [hs.1]; exact r0
  have hk := h.2.2.2.2.2 j hj
  refine ⟨X', ?_, hs, hd⟩
  unfold f_X10_guesses gs
  simp only [e, Option.bind_some, if_pos t0]
  by_cases c : gl (X.1 471) r j ≤ gg (X.1 471) r j
  · obtain ⟨v1, v2⟩ := hv c
    simp only [if_pos c, i10, if_false, v1, v2]
    by_cases u1 : u = 1
    · simp only [if_pos u1]
    · by_cases u2 : u = 2
      · simp only [if_neg u1, if_pos u2]
      · by_cases u3 : u = 3
        · simp only [if_neg u1, if_neg u2, if_pos u3]
        · have w : ∀ n : Int32, f_X10_guesses_93 L 470 n X' = some (if gl (X.1 471) r j < (if n < gg (X.1 471) r j then n else gg (X.1 471) r j) then (if n < gg (X.1 471) r j then n else gg (X.1 471) r j) else gl (X.1 471) r j, X') := by
            intro n
            unfold f_X10_guesses_93
            rw [if_pos t0, v1, v2]
            have c0 := i_le.mp c
            by_cases d1 : gl (X.1 471) r j ≤ n
            · have d1' := i_le.mp d1
              rw [if_pos d1]
              by_cases d2 : n ≤ gg (X.1 471) r j
              · have d2' := i_le.mp d2
                rw [if_pos d2]
                refine congrArg (fun z => some (z, X')) (Int32.toInt_inj.mp ?_)
                by_cases d3 : n < gg (X.1 471) r j
                · rw [if_pos d3]
                  by_cases d4 : gl (X.1 471) r j < n
                  · rw [if_pos d4]
                  · rw [if_neg d4]
                    have d4' : ¬ (gl (X.1 471) r j).toInt < n.toInt := fun q => d4 (i_lt.mpr q)
                    omega
                · have d3' : ¬ n.toInt < (gg (X.1 471) r j).toInt := fun q => d3 (i_lt.mpr q)
                  rw [if_neg d3]
                  by_cases d4 : gl (X.1 471) r j < gg (X.1 471) r j
                  · rw [if_pos d4]; omega
                  · rw [if_neg d4]
                    have d4' : ¬ (gl (X.1 471) r j).toInt < (gg (X.1 471) r j).toInt := fun q => d4 (i_lt.mpr q)
                    omega
              · have d2' : ¬ n.toInt ≤ (gg (X.1 471) r j).toInt := fun q => d2 (i_le.mpr q)
                rw [if_neg d2]
                refine congrArg (fun z => some (z, X')) (Int32.toInt_inj.mp ?_)
                rw [if_neg (show ¬ n < gg (X.1 471) r j from fun q => by rw [i_lt] at q; omega)]
                by_cases d4 : gl (X.1 471) r j < gg (X.1 471) r j
                · rw [if_pos d4]
                · rw [if_neg d4]
                  have d4' : ¬ (gl (X.1 471) r j).toInt < (gg (X.1 471) r j).toInt := fun q => d4 (i_lt.mpr q)
                  omega
            · have d1' : ¬ (gl (X.1 471) r j).toInt ≤ n.toInt := fun q => d1 (i_le.mpr q)
              rw [if_neg d1]
              refine congrArg (fun z => some (z, X')) (Int32.toInt_inj.mp ?_)
              rw [if_pos (show n < gg (X.1 471) r j from by rw [i_lt]; omega), if_neg (show ¬ gl (X.1 471) r j < n from fun q => by rw [i_lt] at q; omega)]
          have gm := gn_m h hr hj
          simp only [if_neg u1, if_neg u2, if_neg u3, r0', Option.bind_some, if_pos t1, l1, if_pos (hin_nI (n := 284) (show j < 284 by omega) (by omega)), nI_clamp (show j < 2 ^ 31 by omega), hd, if_pos (i_nz (b := X.1 471 j) (by omega)), w]
          rw [← gm]
          by_cases c2 : 2 * (r - r / X.1 471 j * X.1 471 j) ≤ X.1 471 j
          · simp only [if_pos c2]
          · simp only [if_neg c2]
  · simp only [if_neg c, i01, if_true]
end MG
