/-! looking: counts -/
section LC
variable {B : Int} {L : hL} {X : hX} {E : Nat → Nat} {V : Nat → Nat → Int32} {n l : Nat}
theorem c_slots {s : Nat} {U : Nat → Int32} (hs : SV L X s U) (hW : ∀ i, i < 2 → U (94 + 95 * i) = 0 ∨ U (94 + 95 * i) = 1) : f_X8_slotsInUse L X s = some (U 94 + U 189) := by
  obtain ⟨⟨s0, s1, s2, s3, s4⟩, ⟨r0, r1, r2, r3⟩, hc, hS⟩ := id hs
  have e0 : X.1 (s + 23) 0 = U 94 := (hS 0 (by omega)).2
  have e1 : X.1 (s + 23) 1 = U 189 := (hS 1 (by omega)).2
  have w0 : U 94 = 0 ∨ U 94 = 1 := hW 0 (by omega)
  have w1 : U 189 = 0 ∨ U 189 = 1 := hW 1 (by omega)
  obtain ⟨m, hm⟩ : ∃ m, u_fuel = m + 3 := ⟨2997, rfl⟩
  unfold f_X8_slotsInUse
  rw [if_pos s0, r2, Option.bind_some, if_pos s3, s4, hm]
  have h2 : (Int32.ofNat 2) = nI 2 := rfl
  rw [h2]
  have f2 : ∀ x, f_X8_slotsInUse_13 L (m + 1) x (s + 23) (nI 2) (nI 2) X = some x := fun x => by
    unfold f_X8_slotsInUse_13
    rw [if_pos (show nI 2 ≤ nI 2 by decide)]
  have f1 : ∀ x, f_X8_slotsInUse_13 L (m + 2) x (s + 23) (nI 2) (nI 1) X = some (x + U 189) := fun x => by
    unfold f_X8_slotsInUse_13 f_X8_slotsInUse_33
    simp only [if_neg (show ¬ nI 2 ≤ nI 1 by decide), if_pos s3, s4, if_pos (hin_nI (k := 1) (n := 2) (by omega) (by omega)), nI_clamp (show 1 < 2 ^ 31 by omega), e1, n1]
    rcases w1 with w | w
    · rw [w, if_pos rfl, Int32.add_zero]
      exact f2 x
    · rw [w, if_neg (show ¬ (1 : Int32) = 0 by decide)]
      exact f2 (x + 1)
  have f0 : ∀ x, f_X8_slotsInUse_13 L (m + 3) x (s + 23) (nI 2) (nI 0) X = some (x + U 94 + U 189) := fun x => by
    unfold f_X8_slotsInUse_13 f_X8_slotsInUse_33
    simp only [if_neg (show ¬ nI 2 ≤ nI 0 by decide), if_pos s3, s4, if_pos (hin_nI (k := 0) (n := 2) (by omega) (by omega)), nI_clamp (show 0 < 2 ^ 31 by omega), e0, n1]
    rcases w0 with w | w
    · rw [w, if_pos rfl, Int32.add_zero]
      exact f1 x
    · rw [w, if_neg (show ¬ (1 : Int32) = 0 by decide)]
      exact f1 (x + 1)
  have := f0 0
  rw [Int32.zero_add] at this
  exact this
theorem RV.kepts {v w : Nat → Int32} {n m : Nat} (h : RV B v w n m) : smx (kp v) 6 = smx (fun c => w (16 + 6 * c + 1)) n := by
  have hn := h.1.1
  have := smx_cut (f := kp v) (g := fun c => w (16 + 6 * c + 1)) (n := n) (fun i hi => by
    obtain ⟨b1, b2, b3, b4⟩ := h.2.1 i hi
    unfold kp
    show _ = w (16 + 6 * i + 1)
    rw [← b3]
    rcases b1.2 with q | ⟨q, -⟩
    · rw [q, if_pos rfl]
    · rw [q, if_neg (by decide)]) (6 - n) (fun i h1 h2 => by
    unfold kp
    rw [(h.2.2.1 i h1 (by omega)).2, if_pos rfl])
  rwa [show n + (6 - n) = 6 by omega] at this
theorem RV.stks {v w : Nat → Int32} {n m : Nat} (h : RV B v w n m) : smx (fun c => v (52 + 7 * c + 2)) 6 = smx (fun c => w (52 + 7 * c + 2)) m := by
  have hm := h.1.2.1
  have := smx_cut (f := fun c => v (52 + 7 * c + 2)) (g := fun c => w (52 + 7 * c + 2)) (n := m) (fun i hi => (h.2.2.2.1 i hi).2 2 (by omega)) (6 - m) (fun i h1 h2 => h.2.2.2.2 i h1 (by omega) 2 (by omega))
  rwa [show m + (6 - m) = 6 by omega] at this
theorem j_count (h : J B L X) (a1 : Int32) : ∃ r, f_X9_count L X 0 a1 = some r ∧ f_X10_count L X 470 a1 = some r := by
  obtain ⟨E, V, n, l, hJ⟩ := h
  obtain ⟨cc, pc, hv⟩ := hJ.2.1.1.1
  obtain ⟨π, ρ, hx⟩ := hJ.cx
  have hW := hJ.2.1.1.ws
  have s5 := hJ.1.1.2.2 5 (by omega)
  have hM := hJ.1.2.1
  have fx := hJ.1.1.1.1
  have hc := hJ.1.1.counter
  have hh := hJ.1.1.1.2.2.2.1.1
  have hsz := hJ.1.1.1.2.2.2.1.2.2
  unfold f_X9_count f_X10_count f_X0_number
  by_cases h0 : a1 = 0
  · subst h0
    simp only [if_neg (show ¬ (0 : Int32) = 11 by decide), if_neg (show ¬ (0 : Int32) = 12 by decide), if_neg (show ¬ (0 : Int32) = 13 by decide), if_pos (show (0 : Int32) = 0 from rfl), hc, Option.bind_some, if_pos fx.1.1, Option.elim_some, if_pos hx.1.1.1, hx.2.1.1.2.1, if_pos hx.1.1.2.2.2.1, hx.sc (show 0 < 3 by omega), if_pos hM.1.1, hM.2.2.1, if_pos hM.1.2.1, hM.2.1.1, show (8 : Int32) + 0 = nI 8 from rfl, if_pos (hin_nI (k := 8) (n := 284) (by omega) (by omega)), nI_clamp (show 8 < 2 ^ 31 by omega)]
    exact ⟨_, rfl, congrArg some (hv.ag 8 (by omega)).symm⟩
  · skip
    by_cases h1 : a1 = 1
    · subst h1
      simp only [if_neg (show ¬ (1 : Int32) = 11 by decide), if_neg (show ¬ (1 : Int32) = 12 by decide), if_neg (show ¬ (1 : Int32) = 13 by decide), if_neg (show ¬ (1 : Int32) = 0 by decide), if_pos (show (1 : Int32) = 1 from rfl), hc, Option.bind_some, if_pos fx.1.1, Option.elim_some, if_pos hx.1.1.1, hx.2.1.1.2.1, if_pos hx.1.1.2.2.2.1, hx.sc (show 1 < 3 by omega), if_pos hM.1.1, hM.2.2.1, if_pos hM.1.2.1, hM.2.1.1, show (8 : Int32) + 1 = nI 9 from rfl, if_pos (hin_nI (k := 9) (n := 284) (by omega) (by omega)), nI_clamp (show 9 < 2 ^ 31 by omega)]
      exact ⟨_, rfl, congrArg some (hv.ag 9 (by omega)).symm⟩
    · skip
      by_cases h2 : a1 = 2
      · subst h2
        simp only [if_neg (show ¬ (2 : Int32) = 11 by decide), if_neg (show ¬ (2 : Int32) = 12 by decide), if_neg (show ¬ (2 : Int32) = 13 by decide), if_neg (show ¬ (2 : Int32) = 0 by decide), if_neg (show ¬ (2 : Int32) = 1 by decide), if_pos (show (2 : Int32) = 2 from rfl), hc, Option.bind_some, if_pos fx.1.1, Option.elim_some, if_pos hx.1.1.1, hx.2.1.1.2.1, if_pos hx.1.1.2.2.2.1, hx.sc (show 2 < 3 by omega), if_pos hM.1.1, hM.2.2.1, if_pos hM.1.2.1, hM.2.1.1, show (8 : Int32) + 2 = nI 10 from rfl, if_pos (hin_nI (k := 10) (n := 284) (by omega) (by omega)), nI_clamp (show 10 < 2 ^ 31 by omega)]
        exact ⟨_, rfl, congrArg some (hv.ag 10 (by omega)).symm⟩
      · skip
        by_cases h3 : a1 = 3
        · subst h3
          simp only [if_neg (show ¬ (3 : Int32) = 11 by decide), if_neg (show ¬ (3 : Int32) = 12 by decide), if_neg (show ¬ (3 : Int32) = 13 by decide), if_neg (show ¬ (3 : Int32) = 0 by decide), if_neg (show ¬ (3 : Int32) = 1 by decide), if_neg (show ¬ (3 : Int32) = 2 by decide), if_pos (show (3 : Int32) = 3 from rfl), hc, Option.bind_some, if_pos fx.1.1, Option.elim_some, if_pos hx.1.1.1, hx.2.1.1.2.1, if_pos hx.1.1.2.2.2.1, hx.o6, if_pos hM.1.1, hM.2.2.1, if_pos hM.1.2.1, hM.2.1.1, show (8 : Int32) + 3 = nI 11 from rfl, if_pos (hin_nI (k := 11) (n := 284) (by omega) (by omega)), nI_clamp (show 11 < 2 ^ 31 by omega)]
          exact ⟨_, rfl, congrArg some (hv.ag 11 (by omega)).symm⟩
        · skip
          by_cases h4 : a1 = 4
          · subst h4
            simp only [if_neg (show ¬ (4 : Int32) = 11 by decide), if_neg (show ¬ (4 : Int32) = 12 by decide), if_neg (show ¬ (4 : Int32) = 13 by decide), if_neg (show ¬ (4 : Int32) = 0 by decide), if_neg (show ¬ (4 : Int32) = 1 by decide), if_neg (show ¬ (4 : Int32) = 2 by decide), if_neg (show ¬ (4 : Int32) = 3 by decide), if_pos (show (4 : Int32) = 4 from rfl), hc, Option.bind_some, if_pos fx.1.1, Option.elim_some, if_pos hx.1.1.1, hx.2.1.1.2.1, if_pos hx.1.1.2.2.2.1, hx.o7, if_pos hM.1.1, hM.2.2.1, if_pos hM.1.2.1, hM.2.1.1, show (8 : Int32) + 4 = nI 12 from rfl, if_pos (hin_nI (k := 12) (n := 284) (by omega) (by omega)), nI_clamp (show 12 < 2 ^ 31 by omega)]
            exact ⟨_, rfl, congrArg some (hv.ag 12 (by omega)).symm⟩
          · skip
            by_cases h5 : a1 = 5
            · subst h5
              simp only [if_neg (show ¬ (5 : Int32) = 11 by decide), if_neg (show ¬ (5 : Int32) = 12 by decide), if_neg (show ¬ (5 : Int32) = 13 by decide), if_neg (show ¬ (5 : Int32) = 0 by decide), if_neg (show ¬ (5 : Int32) = 1 by decide), if_neg (show ¬ (5 : Int32) = 2 by decide), if_neg (show ¬ (5 : Int32) = 3 by decide), if_neg (show ¬ (5 : Int32) = 4 by decide), if_pos (show (5 : Int32) = 5 from rfl), hc, Option.bind_some, if_pos fx.1.1, Option.elim_some, if_pos hx.1.1.1, hx.o4, if_pos hM.1.1, hM.2.2.1, if_pos hM.1.2.1, hM.2.1.1, show (14 < 284) = True from by decide, if_true]
              exact ⟨_, rfl, congrArg some (hv.ag 14 (by omega)).symm⟩
            · skip
              by_cases h6 : a1 = 6
              · subst h6
                simp only [if_neg (show ¬ (6 : Int32) = 11 by decide), if_neg (show ¬ (6 : Int32) = 12 by decide), if_neg (show ¬ (6 : Int32) = 13 by decide), if_neg (show ¬ (6 : Int32) = 0 by decide), if_neg (show ¬ (6 : Int32) = 1 by decide), if_neg (show ¬ (6 : Int32) = 2 by decide), if_neg (show ¬ (6 : Int32) = 3 by decide), if_neg (show ¬ (6 : Int32) = 4 by decide), if_neg (show ¬ (6 : Int32) = 5 by decide), if_pos (show (6 : Int32) = 6 from rfl), hc, Option.bind_some, if_pos fx.1.1, Option.elim_some, if_pos hx.1.1.1, hx.o5, if_pos hM.1.1, hM.2.2.1, if_pos hM.1.2.1, hM.2.1.1, show (15 < 284) = True from by decide, if_true]
                exact ⟨_, rfl, congrArg some (hv.ag 15 (by omega)).symm⟩
              · skip
                by_cases h7 : a1 = 7
                · subst h7
                  simp only [if_neg (show ¬ (7 : Int32) = 11 by decide), if_neg (show ¬ (7 : Int32) = 12 by decide), if_neg (show ¬ (7 : Int32) = 13 by decide), if_neg (show ¬ (7 : Int32) = 0 by decide), if_neg (show ¬ (7 : Int32) = 1 by decide), if_neg (show ¬ (7 : Int32) = 2 by decide), if_neg (show ¬ (7 : Int32) = 3 by decide), if_neg (show ¬ (7 : Int32) = 4 by decide), if_neg (show ¬ (7 : Int32) = 5 by decide), if_neg (show ¬ (7 : Int32) = 6 by decide), if_pos (show (7 : Int32) = 7 from rfl), hc, Option.bind_some, if_pos fx.1.1, Option.elim_some, if_pos hx.1.1.1, c_kept hx, if_pos hM.1.1, m_kept hM hv.1.1 hv.w14]
                  exact ⟨_, rfl, congrArg some hv.kepts.symm⟩
                · skip
                  by_cases h8 : a1 = 8
                  · subst h8
                    simp only [if_neg (show ¬ (8 : Int32) = 11 by decide), if_neg (show ¬ (8 : Int32) = 12 by decide), if_neg (show ¬ (8 : Int32) = 13 by decide), if_neg (show ¬ (8 : Int32) = 0 by decide), if_neg (show ¬ (8 : Int32) = 1 by decide), if_neg (show ¬ (8 : Int32) = 2 by decide), if_neg (show ¬ (8 : Int32) = 3 by decide), if_neg (show ¬ (8 : Int32) = 4 by decide), if_neg (show ¬ (8 : Int32) = 5 by decide), if_neg (show ¬ (8 : Int32) = 6 by decide), if_neg (show ¬ (8 : Int32) = 7 by decide), if_pos (show (8 : Int32) = 8 from rfl), hc, Option.bind_some, if_pos fx.1.1, Option.elim_some, if_pos hx.1.1.1, hx.o8, if_pos hM.1.1, hM.2.2.1, if_pos hM.1.2.1, hM.2.1.1, show (13 < 284) = True from by decide, if_true]
                    exact ⟨_, rfl, congrArg some (hv.ag 13 (by omega)).symm⟩
                  · skip
                    by_cases h9 : a1 = 9
                    · subst h9
                      simp only [if_neg (show ¬ (9 : Int32) = 11 by decide), if_neg (show ¬ (9 : Int32) = 12 by decide), if_neg (show ¬ (9 : Int32) = 13 by decide), if_neg (show ¬ (9 : Int32) = 0 by decide), if_neg (show ¬ (9 : Int32) = 1 by decide), if_neg (show ¬ (9 : Int32) = 2 by decide), if_neg (show ¬ (9 : Int32) = 3 by decide), if_neg (show ¬ (9 : Int32) = 4 by decide), if_neg (show ¬ (9 : Int32) = 5 by decide), if_neg (show ¬ (9 : Int32) = 6 by decide), if_neg (show ¬ (9 : Int32) = 7 by decide), if_neg (show ¬ (9 : Int32) = 8 by decide), if_pos (show (9 : Int32) = 9 from rfl), hc, Option.bind_some, if_pos fx.1.1, Option.elim_some, if_pos hx.1.1.1, c_allPoints hx, if_pos hM.1.1, m_pts hM hv.1.1 hv.w14]
                      exact ⟨_, rfl, congrArg some hv.pts.symm⟩
                    · skip
                      by_cases h10 : a1 = 10
                      · subst h10
                        simp only [if_neg (show ¬ (10 : Int32) = 11 by decide), if_neg (show ¬ (10 : Int32) = 12 by decide), if_neg (show ¬ (10 : Int32) = 13 by decide), if_neg (show ¬ (10 : Int32) = 0 by decide), if_neg (show ¬ (10 : Int32) = 1 by decide), if_neg (show ¬ (10 : Int32) = 2 by decide), if_neg (show ¬ (10 : Int32) = 3 by decide), if_neg (show ¬ (10 : Int32) = 4 by decide), if_neg (show ¬ (10 : Int32) = 5 by decide), if_neg (show ¬ (10 : Int32) = 6 by decide), if_neg (show ¬ (10 : Int32) = 7 by decide), if_neg (show ¬ (10 : Int32) = 8 by decide), if_neg (show ¬ (10 : Int32) = 9 by decide), if_pos (show (10 : Int32) = 10 from rfl), hc, Option.bind_some, if_pos fx.1.1, Option.elim_some, if_pos hx.1.1.1, c_allStocks hx, if_pos hM.1.1, m_stocks hM hv.1.2.1 hv.w15]
                        exact ⟨_, rfl, congrArg some hv.stks.symm⟩
                      · skip
                        by_cases h11 : a1 = 11
                        · subst h11
                          simp only [if_pos (show (11 : Int32) = 11 from rfl), if_neg (show ¬ (11 : Int32) = 0 by decide), if_neg (show ¬ (11 : Int32) = 1 by decide), if_neg (show ¬ (11 : Int32) = 2 by decide), if_neg (show ¬ (11 : Int32) = 3 by decide), if_neg (show ¬ (11 : Int32) = 4 by decide), if_neg (show ¬ (11 : Int32) = 5 by decide), if_neg (show ¬ (11 : Int32) = 6 by decide), if_neg (show ¬ (11 : Int32) = 7 by decide), if_neg (show ¬ (11 : Int32) = 8 by decide), if_neg (show ¬ (11 : Int32) = 9 by decide), if_neg (show ¬ (11 : Int32) = 10 by decide), Option.bind_some, if_pos fx.1.1, fx.2.1.1, if_pos fx.1.2.1, hh, c_slots s5 (fun i hi => (hW.2 i hi).imp id (fun q => q.1)), if_pos s5.1.1, if_pos hM.1.1, hM.2.2.1, if_pos hM.1.2.1, hM.2.1.1, show (94 < 284) = True from by decide, show (189 < 284) = True from by decide, if_true]
                          have f0 : V 5 94 = X.1 471 94 := (hJ.2.1.1.2 0 (by omega)).1
                          have f1 : V 5 189 = X.1 471 189 := (hJ.2.1.1.2 1 (by omega)).1
                          rw [f0, f1]
                          exact ⟨_, rfl, rfl⟩
                        · skip
                          by_cases h12 : a1 = 12
                          · subst h12
                            simp only [if_neg (show ¬ (12 : Int32) = 11 by decide), if_pos (show (12 : Int32) = 12 from rfl), if_neg (show ¬ (12 : Int32) = 0 by decide), if_neg (show ¬ (12 : Int32) = 1 by decide), if_neg (show ¬ (12 : Int32) = 2 by decide), if_neg (show ¬ (12 : Int32) = 3 by decide), if_neg (show ¬ (12 : Int32) = 4 by decide), if_neg (show ¬ (12 : Int32) = 5 by decide), if_neg (show ¬ (12 : Int32) = 6 by decide), if_neg (show ¬ (12 : Int32) = 7 by decide), if_neg (show ¬ (12 : Int32) = 8 by decide), if_neg (show ¬ (12 : Int32) = 9 by decide), if_neg (show ¬ (12 : Int32) = 10 by decide), Option.bind_some, if_pos fx.1.1, fx.2.1.1, if_pos fx.1.2.1, if_pos hM.1.1, hsz, hJ.1.2.2]
                            exact ⟨_, rfl, rfl⟩
                          · skip
                            by_cases h13 : a1 = 13
                            · subst h13
                              simp only [if_neg (show ¬ (13 : Int32) = 11 by decide), if_neg (show ¬ (13 : Int32) = 12 by decide), if_pos (show (13 : Int32) = 13 from rfl), if_neg (show ¬ (13 : Int32) = 0 by decide), if_neg (show ¬ (13 : Int32) = 1 by decide), if_neg (show ¬ (13 : Int32) = 2 by decide), if_neg (show ¬ (13 : Int32) = 3 by decide), if_neg (show ¬ (13 : Int32) = 4 by decide), if_neg (show ¬ (13 : Int32) = 5 by decide), if_neg (show ¬ (13 : Int32) = 6 by decide), if_neg (show ¬ (13 : Int32) = 7 by decide), if_neg (show ¬ (13 : Int32) = 8 by decide), if_neg (show ¬ (13 : Int32) = 9 by decide), if_neg (show ¬ (13 : Int32) = 10 by decide), Option.bind_some, if_pos fx.1.1, fx.2.1.2.1, if_pos fx.1.2.2.2.2.1, if_pos hM.1.1, hJ.2.2.1.2.1, hJ.2.2.1.2.2.1]
                              exact ⟨_, rfl, rfl⟩
                            · skip
                              simp only [if_neg h0, if_neg h1, if_neg h2, if_neg h3, if_neg h4, if_neg h5, if_neg h6, if_neg h7, if_neg h8, if_neg h9, if_neg h10, if_neg h11, if_neg h12, if_neg h13, hc, Option.bind_some, if_pos fx.1.1, Option.elim_some, if_pos hx.1.1.1]
                              exact ⟨_, rfl, rfl⟩
end LC
