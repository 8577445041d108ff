/-! looking -/
section LK
variable {B : Int} {L : hL} {X : hX} {E : Nat → Nat} {V : Nat → Nat → Int32} {n l : Nat}
theorem JJ.cx (hJ : JJ B L X E V n l) : ∃ π ρ, CX L X (sb (E 5) + 1) π ρ (V 5) := (hJ.1.1.2.2 5 (by omega)).2.2.1
/-- the reference only looked -/
theorem JJ.sc (hJ : JJ B L X E V n l) {Y : hX} (hs : SC X Y) (hd : Y.1 471 = X.1 471) (hf : FR (fun k => 470 ≤ k) X Y) : J B L Y := by
  obtain ⟨⟨c1, c2, c3⟩, ⟨c4, c5⟩, ⟨t1, t2, t3, t4⟩, c7, c8, c9⟩ := hJ
  have h4 := hf.hi
  refine ⟨E, V, n, l, ⟨c1.mv (fun k hk' => h4 k (by omega)), c2.sc hs, ?_⟩, ⟨by rw [hd]; exact c4, fun r hr => ?_⟩, ⟨t1, ?_, ?_, fun k hk => ?_⟩, ?_, c8.mv (fun k hk' => (h4 k hk').2), hf.1⟩
  · rw [hs.fld (by decide)]; exact c3
  · rw [hs.row (k := 474) (by decide) (by decide) (by decide)]; exact c5 r hr
  · rw [(h4 465 (by omega)).1]; exact t2
  · rw [hs.fld (by decide)]; exact t3
  · rw [(h4 466 (by omega)).1, hs.row (k := 475) (by decide) (by decide) (by decide)]; exact t4 k hk
  · unfold FLr at c7 ⊢
    rw [hs.fld (show ¬ (8 = 9 ∨ 8 = 10 ∨ 8 = 11 ∨ 8 = 13 ∨ 8 = 14) by decide), hs.row (k := 476) (by decide) (by decide) (by decide), (h4 468 (by omega)).1]
    exact c7
theorem m4_0 (j : Nat) : (4 : Int32) * 0 + nI j = nI j := by rw [show (4 : Int32) * 0 = 0 by decide, Int32.zero_add]
theorem m4_1 (j : Nat) : (4 : Int32) * 1 + nI j = nI (4 + j) := by rw [show (4 : Int32) * 1 = 4 by decide, n4]
theorem in01 {a : Int32} (h : 0 ≤ a ∧ a ≤ 1) : a = 0 ∨ a = 1 := by
  obtain ⟨j, hj, rfl⟩ := slot_of h
  have : j = 0 ∨ j = 1 := by omega
  rcases this with rfl | rfl
  · exact Or.inl rfl
  · exact Or.inr rfl
theorem j_kind (h : J B L X) (a1 a2 : Int32) : ∃ r, f_X9_kind L X 0 a1 a2 = some r ∧ f_X10_kind L X 470 a1 a2 = some r := by
  obtain ⟨E, V, n, l, hJ⟩ := h
  obtain ⟨cc, pc, hv⟩ := hJ.2.1.1.1
  obtain ⟨π, ρ, hx⟩ := hJ.cx
  have hM := hJ.1.2.1
  have fx := hJ.1.1.1.1
  unfold f_X9_kind f_X10_kind
  rw [hJ.1.1.counter, Option.bind_some, if_pos fx.1.1, Option.elim_some, c_kindAt hx, Option.bind_some, if_pos hx.1.1.1, s_isKind, Option.bind_some]
  by_cases h1 : 0 ≤ a1 ∧ a1 ≤ 3
  · obtain ⟨j, hj, rfl⟩ := kind_of h1
    rw [if_pos h1, if_pos h1, if_neg (show ¬ (1 : Int32) = 0 by decide), Option.elim_some, s_within, s_in, nI_clamp (by omega)]
    by_cases h2 : 0 ≤ a2 ∧ a2 ≤ 1
    · rw [if_pos h2, Option.bind_some, Option.bind_some, if_neg (show ¬ (1 : Int32) = 0 by decide), if_neg (show ¬ (1 : Int32) = 0 by decide)]
      simp only [if_pos hM.1.1, hM.2.2.1, Option.bind_some, if_pos hM.1.2.1, hM.2.1.1, if_pos (kt hx hj), hx.kw hj, hx.ks hj]
      rcases in01 h2 with rfl | rfl
      · simp only [m4_0, if_pos (hin_nI (n := 284) (show j < 284 by omega) (by omega)), nI_clamp (show j < 2 ^ 31 by omega), if_pos (show (0 : Int32) = 0 from rfl)]
        exact ⟨_, rfl, congrArg some (hv.ag j (by omega)).symm⟩
      · simp only [m4_1, if_pos (hin_nI (n := 284) (show 4 + j < 284 by omega) (by omega)), nI_clamp (show 4 + j < 2 ^ 31 by omega), if_neg (show ¬ (1 : Int32) = 0 by decide)]
        exact ⟨_, rfl, congrArg some (hv.ag (4 + j) (by omega)).symm⟩
    · rw [if_neg h2, Option.bind_some, Option.bind_some, if_pos rfl, if_pos rfl]
      exact ⟨_, rfl, rfl⟩
  · rw [if_neg h1, if_neg h1, if_pos rfl, Option.elim_none]
    exact ⟨_, rfl, rfl⟩
theorem in_n {a : Int32} {m : Nat} (hm : m < 2147483647) (h : 0 ≤ a ∧ a ≤ nI m) : ∃ j, j ≤ m ∧ a = nI j := by
  have h2 := i_le.mp h.2
  rw [nI_toInt (by omega)] at h2
  obtain ⟨j, hj, e⟩ := isR_of (n := m + 1) (by omega) (a := a) ⟨h.1, by rw [i_lt, nI_toInt (by omega)]; omega⟩
  exact ⟨j, by omega, e⟩
theorem j_customer (h : J B L X) (a1 a2 : Int32) : ∃ r, f_X9_customer L X 0 a1 a2 = some r ∧ f_X10_customer L X 470 a1 a2 = some r := by
  obtain ⟨E, V, n, l, hJ⟩ := h
  obtain ⟨cc, pc, hv⟩ := hJ.2.1.1.1
  obtain ⟨π, ρ, hx⟩ := hJ.cx
  have hM := hJ.1.2.1
  have fx := hJ.1.1.1.1
  unfold f_X9_customer f_X10_customer
  rw [hJ.1.1.counter, Option.bind_some, if_pos fx.1.1, Option.elim_some, c_customerAt hx hv.1.1 hv.1.2.2.2.1, Option.bind_some, if_pos hx.1.1.1, s_isCustomer hM, Option.bind_some, if_pos hM.1.1]
  simp only [hv.w14, isR_m1 hv.1.1]
  by_cases h1 : isR a1 cc
  · obtain ⟨c, hc, rfl⟩ := isR_of (by have := hv.1.1; omega) h1
    have hc6 : c < 6 := by have := hv.1.1; omega
    rw [if_pos h1, if_pos h1, if_neg (show ¬ (1 : Int32) = 0 by decide), Option.elim_some, s_in, nI_clamp (by omega)]
    unfold f_X1_part
    rw [s_within]
    obtain ⟨b1, b2, b3, b4⟩ := hv.2.1 c hc
    have e : ∀ j, j < 6 → X.1 (sb (E 5) + 1 + 9 + π c) j = V 5 (16 + 6 * c + j) := fun j hj => hx.cu hc6 hj
    have o : ∀ j, j < 6 → f_X10_of L X 470 (nI c) (nI j) = some (X.1 471 (16 + 6 * c + j)) := fun j hj => s_of hM hc6 hj
    have o0 : f_X10_of L X 470 (nI c) 0 = _ := o 0 (by omega)
    have o1 : f_X10_of L X 470 (nI c) 1 = _ := o 1 (by omega)
    by_cases h2 : 0 ≤ a2 ∧ a2 ≤ 4
    · obtain ⟨j, hj, rfl⟩ := in_n (m := 4) (by omega) h2
      simp only [if_pos h2, Option.bind_some, i10, if_false, if_pos (ct hx hc6), e 0 (by omega), e 1 (by omega), e 2 (by omega), e 3 (by omega), e 4 (by omega), e 5 (by omega), o0, o1, n1]
      by_cases j0 : j = 0
      · subst j0
        rw [if_pos (show nI 0 = 0 from rfl), if_pos (show nI 0 = 0 from rfl)]
        exact ⟨_, rfl, congrArg some b2.symm⟩
      · have hne : ¬ nI j = 0 := fun z => j0 ((nI_eq (b := 0) (by omega) (by omega)).mp z)
        rw [if_neg hne, if_neg hne, ← b3]
        by_cases hk : V 5 (16 + 6 * c + 1) = 0
        · rw [if_pos hk, if_pos hk]
          exact ⟨_, rfl, rfl⟩
        · rw [if_neg hk, if_neg hk, o (j + 1) (by omega), Option.bind_some, ← b4 hk (j + 1) (by omega)]
          have : j = 1 ∨ j = 2 ∨ j = 3 ∨ j = 4 := by omega
          rcases this with rfl | rfl | rfl | rfl
          · exact ⟨_, rfl, rfl⟩
          · exact ⟨_, rfl, rfl⟩
          · exact ⟨_, rfl, rfl⟩
          · exact ⟨_, rfl, rfl⟩
    · simp only [if_neg h2, Option.bind_some, i01, if_true, if_pos (ct hx hc6)]
      exact ⟨_, rfl, rfl⟩
  · rw [if_neg h1, if_neg h1, if_pos rfl, Option.elim_none]
    exact ⟨_, rfl, rfl⟩
theorem j_prize (h : J B L X) (a1 a2 : Int32) : ∃ r, f_X9_prize L X 0 a1 a2 = some r ∧ f_X10_prize L X 470 a1 a2 = some r := by
  obtain ⟨E, V, n, l, hJ⟩ := h
  obtain ⟨cc, pc, hv⟩ := hJ.2.1.1.1
  obtain ⟨π, ρ, hx⟩ := hJ.cx
  have hM := hJ.1.2.1
  have fx := hJ.1.1.1.1
  unfold f_X9_prize f_X10_prize
  rw [hJ.1.1.counter, Option.bind_some, if_pos fx.1.1, Option.elim_some, c_prizeAt hx hv.1.2.1 hv.1.2.2.2.2.1, Option.bind_some, if_pos hx.1.1.1, s_isPrize hM, Option.bind_some, if_pos hM.1.1]
  simp only [hv.w15, isR_m1 hv.1.2.1]
  by_cases h1 : isR a1 pc
  · obtain ⟨c, hc, rfl⟩ := isR_of (by have := hv.1.2.1; omega) h1
    have hc6 : c < 6 := by have := hv.1.2.1; omega
    rw [if_pos h1, if_pos h1, if_neg (show ¬ (1 : Int32) = 0 by decide), Option.elim_some, s_in, nI_clamp (by omega)]
    unfold f_X5_part
    obtain ⟨b1, b2⟩ := hv.2.2.2.1 c hc
    have e : ∀ j, j < 7 → X.1 (sb (E 5) + 1 + 15 + ρ c) j = V 5 (52 + 7 * c + j) := fun j hj => hx.pr hc6 hj
    simp only [if_pos (pt hx hc6), e 0 (by omega), e 1 (by omega), e 2 (by omega), e 3 (by omega), e 4 (by omega), e 5 (by omega), e 6 (by omega)]
    by_cases h2 : 0 ≤ a2 ∧ a2 ≤ 6
    · obtain ⟨j, hj, rfl⟩ := in_n (m := 6) (by omega) h2
      rw [if_pos h2, Option.bind_some, if_neg (show ¬ (1 : Int32) = 0 by decide), s_priced hM hc6 (by omega), Option.bind_some, ← b2 j (by omega)]
      have : j = 0 ∨ j = 1 ∨ j = 2 ∨ j = 3 ∨ j = 4 ∨ j = 5 ∨ j = 6 := by omega
      rcases this with rfl | rfl | rfl | rfl | rfl | rfl | rfl
      · exact ⟨_, rfl, rfl⟩
      · exact ⟨_, rfl, rfl⟩
      · exact ⟨_, rfl, rfl⟩
      · exact ⟨_, rfl, rfl⟩
      · exact ⟨_, rfl, rfl⟩
      · exact ⟨_, rfl, rfl⟩
      · exact ⟨_, rfl, rfl⟩
    · rw [if_neg h2, Option.bind_some, if_pos rfl]
      have hne : ∀ j, j ≤ 6 → ¬ a2 = nI j := fun j hj q => h2 (by
        rw [q]
        exact ⟨nI_pos' (by omega), by rw [i_le, nI_toInt (by omega), show (6 : Int32).toInt = 6 by decide]; omega⟩)
      rw [if_neg (show ¬ a2 = 0 from hne 0 (by omega)), if_neg (show ¬ a2 = 1 from hne 1 (by omega)), if_neg (show ¬ a2 = 2 from hne 2 (by omega)), if_neg (show ¬ a2 = 3 from hne 3 (by omega)), if_neg (show ¬ a2 = 4 from hne 4 (by omega)), if_neg (show ¬ a2 = 5 from hne 5 (by omega)), if_neg (show ¬ a2 = 6 from hne 6 (by omega))]
      exact ⟨_, rfl, rfl⟩
  · rw [if_neg h1, if_neg h1, if_pos rfl, Option.elim_none]
    exact ⟨_, rfl, rfl⟩
theorem j_read (h : J B L X) (a1 : Int32) : ∃ r, f_X9_read L X 0 a1 = some r ∧ f_X10_read L X 470 a1 = some r := by
  obtain ⟨E, V, n, l, hJ⟩ := h
  obtain ⟨cc, pc, hv⟩ := hJ.2.1.1.1
  obtain ⟨π, ρ, hx⟩ := hJ.cx
  have hM := hJ.1.2.1
  have fx := hJ.1.1.1.1
  unfold f_X9_read f_X10_read
  rw [s_within, s_in, hJ.1.1.counter]
  by_cases h1 : -5000 ≤ a1 ∧ a1 ≤ 3000000
  · have c1 := i_le.mp h1.1
    have c2 := i_le.mp h1.2
    rw [show (-5000 : Int32).toInt = -5000 by decide] at c1
    rw [show (3000000 : Int32).toInt = 3000000 by decide] at c2
    simp only [if_pos h1, Option.bind_some, i10, if_false, if_pos fx.1.1, Option.elim_some, if_pos hx.1.1.1, hx.2.1.1.2.1, if_pos hx.1.1.2.2.2.1, hx.sc (show 0 < 3 by omega), if_pos hM.1.1, hM.2.2.1, if_pos hM.1.2.1, hM.2.1.1, show (8 < 284) = True from by decide, if_true]
    rw [c_readingAt hv.S.1, m_readsBy hv.Sw.1 (by omega), Option.bind_some, Option.bind_some, ← hv.ag 8 (by omega)]
    exact ⟨_, rfl, rfl⟩
  · simp only [if_neg h1, Option.bind_some, i01, if_true]
    exact ⟨_, rfl, rfl⟩
theorem rdg_of {r : Int32} (h : 0 ≤ r ∧ r ≤ 3000000) : rdg r := by
  have c1 := i_le.mp h.1
  have c2 := i_le.mp h.2
  rw [z0i] at c1
  rw [show (3000000 : Int32).toInt = 3000000 by decide] at c2
  exact ⟨c1, c2⟩
theorem in02 {a : Int32} (h : 0 ≤ a ∧ a ≤ 2) : a = 0 ∨ a = 1 ∨ a = 2 := by
  obtain ⟨j, hj, rfl⟩ := in_n (m := 2) (by omega) h
  have : j = 0 ∨ j = 1 ∨ j = 2 := by omega
  rcases this with rfl | rfl | rfl
  · exact Or.inl rfl
  · exact Or.inr (Or.inl rfl)
  · exact Or.inr (Or.inr rfl)
theorem j_allowed (h : J B L X) (a1 a2 a3 : Int32) : ∃ r X4, f_X9_allowed L X 0 a1 a2 a3 = some r ∧ f_X10_allowed L X 470 a1 a2 a3 = some (r, X4) ∧ J B L X4 := by
  obtain ⟨E, V, n, l, hJ⟩ := id h
  obtain ⟨cc, pc, hv⟩ := hJ.2.1.1.1
  obtain ⟨π, ρ, hx⟩ := hJ.cx
  have hM := hJ.1.2.1
  have fx := hJ.1.1.1.1
  suffices hh : ∃ r X4, f_X9_allowed L X 0 a1 a2 a3 = some r ∧ f_X10_allowed L X 470 a1 a2 a3 = some (r, X4) ∧ SC X X4 ∧ X4.1 471 = X.1 471 by
    obtain ⟨r, X4, q1, q2, q3, q4⟩ := hh
    exact ⟨r, X4, q1, q2, hJ.sc q3 q4 (fr_X10_allowed q2 hJ.2.2.2.2.2 (show (470 : Nat) ≤ 470 by omega))⟩
  unfold f_X9_allowed f_X10_allowed
  simp only [hJ.1.1.counter, Option.bind_some, if_pos fx.1.1, Option.elim_some, c_kindAt hx, if_pos hx.1.1.1, s_within, s_in, s_isKind, hx.2.1.1.2.1, if_pos hx.1.1.2.2.2.1]
  by_cases h1 : 0 ≤ a1 ∧ a1 ≤ 3000000
  · by_cases h2 : 0 ≤ a2 ∧ a2 ≤ 3
    · obtain ⟨j, hj, rfl⟩ := kind_of h2
      simp only [if_pos h1, if_pos h2, Option.bind_some, i10, if_false, Option.elim_some, nI_clamp (show j < 2 ^ 31 by omega)]
      by_cases h3 : 0 ≤ a3 ∧ a3 ≤ 2
      · obtain ⟨Y, y1, y2, y3, y4⟩ := m_allows hM hv.Sw (rdg_of h1) hj
        rw [← gl_cong hv.ag hj, ← gg_cong hv.ag hj] at y1 y4
        simp only [if_pos h3, Option.bind_some, i10, if_false, c_leastCount hx hv.S hj, c_greatestCount hx hv.S hj, y1, if_pos hM.1.1]
        by_cases c : gl (V 5) a1 j ≤ gg (V 5) a1 j
        · obtain ⟨w1, w2⟩ := y4 c
          simp only [if_pos c, i10, if_false, w1, w2]
          rcases in02 h3 with rfl | rfl | rfl
          · exact ⟨_, Y, rfl, rfl, y2, y3⟩
          · exact ⟨_, Y, rfl, rfl, y2, y3⟩
          · exact ⟨_, Y, rfl, rfl, y2, y3⟩
        · simp only [if_neg c, i01, if_true]
          by_cases c2 : a3 = 2
          · rw [if_pos c2, if_pos c2]
            exact ⟨_, Y, rfl, rfl, y2, y3⟩
          · rw [if_neg c2, if_neg c2]
            exact ⟨_, Y, rfl, rfl, y2, y3⟩
      · simp only [if_neg h3, Option.bind_some, i01, if_true]
        exact ⟨_, X, rfl, rfl, SC.rf, rfl⟩
    · simp only [if_pos h1, if_neg h2, Option.bind_some, i10, i01, if_false, if_true, Option.elim_none]
      exact ⟨_, X, rfl, rfl, SC.rf, rfl⟩
  · simp only [if_neg h1, Option.bind_some, i01, if_true]
    by_cases h2 : 0 ≤ a2 ∧ a2 ≤ 3
    · rw [if_pos h2, Option.elim_some]
      exact ⟨_, X, rfl, rfl, SC.rf, rfl⟩
    · rw [if_neg h2, Option.elim_none]
      exact ⟨_, X, rfl, rfl, SC.rf, rfl⟩
theorem j_guess (h : J B L X) (a1 a2 a3 : Int32) : ∃ r X4, f_X9_guess L X 0 a1 a2 a3 = some r ∧ f_X10_guess L X 470 a1 a2 a3 = some (r, X4) ∧ J B L X4 := by
  obtain ⟨E, V, n, l, hJ⟩ := id h
  obtain ⟨cc, pc, hv⟩ := hJ.2.1.1.1
  obtain ⟨π, ρ, hx⟩ := hJ.cx
  have hM := hJ.1.2.1
  have fx := hJ.1.1.1.1
  suffices hh : ∃ r X4, f_X9_guess L X 0 a1 a2 a3 = some r ∧ f_X10_guess L X 470 a1 a2 a3 = some (r, X4) ∧ SC X X4 ∧ X4.1 471 = X.1 471 by
    obtain ⟨r, X4, q1, q2, q3, q4⟩ := hh
    exact ⟨r, X4, q1, q2, hJ.sc q3 q4 (fr_X10_guess q2 hJ.2.2.2.2.2 (show (470 : Nat) ≤ 470 by omega))⟩
  unfold f_X9_guess f_X10_guess
  simp only [hJ.1.1.counter, Option.bind_some, if_pos fx.1.1, Option.elim_some, c_kindAt hx, if_pos hx.1.1.1, s_within, s_in, s_isKind, hx.2.1.1.2.1, if_pos hx.1.1.2.2.2.1]
  by_cases h1 : 0 ≤ a1 ∧ a1 ≤ 3000000
  · by_cases h2 : 0 ≤ a2 ∧ a2 ≤ 3
    · obtain ⟨j, hj, rfl⟩ := kind_of h2
      simp only [if_pos h1, if_pos h2, Option.bind_some, i10, if_false, Option.elim_some, nI_clamp (show j < 2 ^ 31 by omega)]
      by_cases h3 : 0 ≤ a3 ∧ a3 ≤ 3
      · obtain ⟨Y, y1, y2, y3⟩ := m_guesses hM hv.Sw (rdg_of h1) hj a3
        rw [← gs_cong hv.ag hj] at y1
        simp only [if_pos h3, Option.bind_some, i10, if_false, c_guessFrom hx hv.S hj, y1, if_pos hM.1.1]
        exact ⟨_, Y, rfl, rfl, y2, y3⟩
      · simp only [if_neg h3, Option.bind_some, i01, if_true]
        exact ⟨_, X, rfl, rfl, SC.rf, rfl⟩
    · simp only [if_pos h1, if_neg h2, Option.bind_some, i10, i01, if_false, if_true, Option.elim_none]
      exact ⟨_, X, rfl, rfl, SC.rf, rfl⟩
  · simp only [if_neg h1, Option.bind_some, i01, if_true]
    by_cases h2 : 0 ≤ a2 ∧ a2 ≤ 3
    · rw [if_pos h2, Option.elim_some]
      exact ⟨_, X, rfl, rfl, SC.rf, rfl⟩
    · rw [if_neg h2, Option.elim_none]
      exact ⟨_, X, rfl, rfl, SC.rf, rfl⟩
end LK
