/-! the text and the latest failure -/
section TT
variable {B : Int} {L : hL} {X : hX} {E : Nat → Nat} {V : Nat → Nat → Int32} {n l : Nat}
theorem CI.mv2 {Y : hX} (h : CI L X E V n) (e : ∀ k, k < 465 → Y.1 k = X.1 k ∧ Y.2 k = X.2 k) (e2 : Y.2 465 = X.2 465) : CI L Y E V n := by
  obtain ⟨⟨f1, f2, f3, ⟨f4, f5, f6⟩, f7⟩, g, s⟩ := id h
  refine ⟨⟨f1.move (fun k hk => hk.elim (fun q => (e k (by omega)).2) (fun q => by rw [q]; exact e2)) (by rw [(e 1 (by omega)).2]), fun t ht => (f2 t ht).mv (fun k hk => (e k (by unfold sb at hk; omega)).2), f3, ⟨by rw [(e 1 (by omega)).2]; exact f4, by rw [(e 1 (by omega)).2]; exact f5, by rw [(e 1 (by omega)).1]; exact f6⟩, fun i hi => by rw [(e 2 (by omega)).2]; exact f7 i hi⟩, g, fun r hr => ?_⟩
  have := h.rng hr
  exact (s r hr).move (fun k a b => e k (by omega))
theorem char8 : ∀ j, j < 256 → vp_nar .char ((Int32.toUInt32 (nI j) % 65536).toInt32) = nI j := by decide +kernel
/-- only the text, its length and scratch have changed, alike on both sides -/
theorem JJ.txt (hJ : JJ B L X E V n l) {Y : hX} {l' : Nat} (h2 : Y.2 = X.2) (h1 : ∀ k, k ≠ 465 → k ≠ 466 → k ≠ 467 → k ≠ 470 → k ≠ 475 → k ≠ 477 → Y.1 k = X.1 k) (h4 : Y.1 470 4 = X.1 470 4 ∧ Y.1 470 8 = X.1 470 8) (ht : TX Y l') : JJ B L Y E V n l' := by
  obtain ⟨⟨c1, c2, c3⟩, ⟨c4, c5⟩, -, c7, c8, c9⟩ := hJ
  refine ⟨⟨c1.mv2 (fun k hk => ⟨h1 k (by omega) (by omega) (by omega) (by omega) (by omega) (by omega), by rw [h2]⟩) (by rw [h2]), c2.mv (by rw [h2]), by rw [h4.1]; exact c3⟩, ⟨by rw [h1 471 (by omega) (by omega) (by omega) (by omega) (by omega) (by omega)]; exact c4, by rw [h1 474 (by omega) (by omega) (by omega) (by omega) (by omega) (by omega)]; exact c5⟩, ht, ?_, c8.mv (fun _ _ => by rw [h2]), c9.mv (fun _ _ => by rw [h2])⟩
  unfold FLr at c7 ⊢
  rw [h1 468 (by omega) (by omega) (by omega) (by omega) (by omega) (by omega), h4.2, h1 476 (by omega) (by omega) (by omega) (by omega) (by omega) (by omega)]
  exact c7
theorem j_append (h : J B L X) (a1 : Int32) : ∃ r X3 X4, f_X9_append L X 0 a1 = some (r, X3) ∧ f_X10_append L X3 470 a1 = some (r, X4) ∧ J B L X4 := by
  obtain ⟨E, V, n, l, hJ⟩ := id h
  have hM := hJ.1.2.1
  have fx := hJ.1.1.1.1
  obtain ⟨t1, t2, t3, t4⟩ := hJ.2.2.1
  unfold f_X9_append f_X6_addSign f_X10_append
  simp only [s_within, s_in, if_pos fx.1.1, fx.2.1.2.1, Option.bind_some]
  by_cases h1 : 1 ≤ a1 ∧ a1 ≤ 255
  · have c1 := i_le.mp h1.1
    rw [z1i] at c1
    obtain ⟨j, hj, rfl⟩ := in_n (m := 255) (by omega) ⟨i_le.mpr (by rw [z0i]; omega), h1.2⟩
    simp only [if_pos h1, Option.bind_some, i10, if_false, if_pos fx.1.2.2.2.2.1, t2, if_pos hM.1.1, char8 j (by omega)]
    by_cases hl : l = 140
    · subst hl
      have e1 : ¬ (0 ≤ nI 140 ∧ nI 140 ≤ 139) := by decide
      simp only [if_neg e1, Option.bind_some, i01, if_true]
      refine ⟨_, X, X, rfl, ?_, h⟩
      rw [t3, if_pos (show nI 140 = 140 from rfl)]
    · have e1 : 0 ≤ nI l ∧ nI l ≤ 139 := ⟨nI_pos' (by omega), by rw [i_le, nI_toInt (by omega), show (139 : Int32).toInt = 139 by decide]; omega⟩
      have e2 : ¬ nI l = 140 := fun q => hl ((nI_eq (b := 140) (by omega) (by omega)).mp q)
      simp only [if_pos e1, Option.bind_some, i10, if_false, fx.2.2.2.1, if_pos fx.1.2.2.2.2.2.1, fx.1.2.2.2.2.2.2.1, if_pos (hin_nI (n := 140) (show l < 140 by omega) (by omega)), nI_clamp (show l < 2 ^ 31 by omega)]
      have e3 : (smi X 466 l (nI j)).1 465 3 = nI l := by rw [smi_o (by decide)]; exact t2
      have e4 : (smi (smi X 466 l (nI j)) 465 3 (nI l + 1)).1 465 3 = nI l + 1 := by rw [smi_d, pk_us]
      have e5 : (smi (smi X 466 l (nI j)) 465 3 (nI l + 1)).1 470 6 = nI l := by rw [smi_o (by decide), smi_o (by decide)]; exact t3
      have e6 : (smi (smi X 466 l (nI j)) 465 3 (nI l + 1)).2 470 5 = some 475 := hM.2.2.2.2.2.2.1
      simp only [e3, e4]
      refine ⟨_, _, smi (smi (smi (smi X 466 l (nI j)) 465 3 (nI l + 1)) 475 l (nI j)) 470 6 (nI l + 1), rfl, ?_, ?_⟩
      · simp only [e5, if_neg e2, e6, Option.bind_some, if_pos hM.1.2.2.2.2.2.1, hM.2.1.2.2.2.2.1, if_pos (hin_nI (n := 140) (show l < 140 by omega) (by omega)), nI_clamp (show l < 2 ^ 31 by omega)]
        have e7 : (smi (smi (smi X 466 l (nI j)) 465 3 (nI l + 1)) 475 l (nI j)).1 470 6 = nI l := by rw [smi_o (by decide)]; exact e5
        have e8 : (smi (smi (smi (smi X 466 l (nI j)) 465 3 (nI l + 1)) 475 l (nI j)) 470 6 (nI l + 1)).1 470 6 = nI l + 1 := by rw [smi_d, pk_us]
        simp only [e7, e8]
      · refine ⟨E, V, n, l + 1, hJ.txt rfl (fun k q1 q2 q3 q4 q5 q6 => by simp only [smi_o q1, smi_o q2, smi_o q4, smi_o q5]) ⟨by rw [smi_d, pk_un (by omega), smi_o (by decide), smi_o (by decide), smi_o (by decide)], by rw [smi_d, pk_un (by omega), smi_o (by decide), smi_o (by decide), smi_o (by decide)]⟩ ⟨by omega, ?_, ?_, fun k hk => ?_⟩⟩
        · rw [smi_o (by decide), smi_o (by decide), smi_d, pk_us, n1]
        · rw [smi_d, pk_us, n1]
        · have e9 : (smi (smi (smi (smi X 466 l (nI j)) 465 3 (nI l + 1)) 475 l (nI j)) 470 6 (nI l + 1)).1 466 k = upd (X.1 466) l (nI j) k := by rw [smi_o (by decide), smi_o (by decide), smi_o (by decide), smi_d]
          have e10 : (smi (smi (smi (smi X 466 l (nI j)) 465 3 (nI l + 1)) 475 l (nI j)) 470 6 (nI l + 1)).1 475 k = upd (X.1 475) l (nI j) k := by rw [smi_o (by decide), smi_d, smi_o (by decide), smi_o (by decide)]
          rw [e9, e10]
          by_cases c : k = l
          · subst c
            rw [pk_us, pk_us]
            exact ⟨rfl, nI_pos' (by omega), by rw [i_lt, nI_toInt (by omega), show (65536 : Int32).toInt = 65536 by decide]; omega⟩
          · rw [pk_un c, pk_un c]
            exact t4 k hk
  · simp only [if_neg h1, Option.bind_some, i01, if_true, if_pos fx.1.2.2.2.2.1]
    exact ⟨_, X, X, rfl, rfl, h⟩
theorem j_clearText (h : J B L X) : ∃ r X3 X4, f_X9_clearText L X 0 = some (r, X3) ∧ f_X10_clearText L X3 470 = some (r, X4) ∧ J B L X4 := by
  obtain ⟨E, V, n, l, hJ⟩ := id h
  have hM := hJ.1.2.1
  have fx := hJ.1.1.1.1
  obtain ⟨t1, t2, t3, t4⟩ := hJ.2.2.1
  unfold f_X9_clearText f_X6_emptyText f_X10_clearText
  simp only [if_pos fx.1.1, fx.2.1.2.1, Option.bind_some, if_pos fx.1.2.2.2.2.1, t2, if_pos hM.1.1]
  refine ⟨_, _, smi (smi X 465 3 0) 470 6 0, rfl, ?_, E, V, n, 0, hJ.txt rfl (fun k q1 q2 q3 q4 q5 q6 => by simp only [smi_o q1, smi_o q4]) ⟨by rw [smi_d, pk_un (by omega), smi_o (by decide)], by rw [smi_d, pk_un (by omega), smi_o (by decide)]⟩ ⟨by omega, ?_, ?_, fun k hk => ?_⟩⟩
  · rw [smi_o (by decide), t3]
  · rw [smi_o (by decide), smi_d, pk_us]
    rfl
  · rw [smi_d, pk_us]
    rfl
  · rw [smi_o (by decide), smi_o (by decide), smi_o (by decide), smi_o (by decide)]
    exact t4 k hk
theorem j_failure (h : J B L X) (a1 : Int32) : ∃ r, f_X9_failure L X 0 a1 = some r ∧ f_X10_failure L X 470 a1 = some r := by
  obtain ⟨E, V, n, l, hJ⟩ := id h
  have hM := hJ.1.2.1
  have fx := hJ.1.1.1.1
  have hF := hJ.2.2.2.1
  unfold f_X9_failure f_X2_part f_X10_failure
  simp only [s_within, s_in, if_pos fx.1.1, fx.2.1.2.1, Option.bind_some, if_pos fx.1.2.2.2.2.1, fx.2.2.2.2.2, if_pos hM.1.1]
  by_cases h1 : 0 ≤ a1 ∧ a1 ≤ 4
  · obtain ⟨j, hj, rfl⟩ := in_n (m := 4) (by omega) h1
    simp only [if_pos h1, Option.bind_some, i10, if_false, if_pos fx.1.2.2.2.2.2.2.2.2.2.1, hM.2.2.2.2.2.2.2.1, if_pos hM.1.2.2.2.2.2.2.1, hM.2.1.2.2.2.2.2.1, if_pos (hin_nI (n := 5) (show j < 5 by omega) (by omega)), nI_clamp (show j < 2 ^ 31 by omega)]
    rcases hF with ⟨f1, f2⟩ | ⟨f1, f2, f3, f4, f5, f6, f7⟩
    · simp only [f1, f2, if_pos (show (0 : Int32) = 0 from rfl), Option.bind_some]
      exact ⟨_, rfl, rfl⟩
    · have hne : ¬ X.1 468 0 = 0 := by rcases f2 with q | q | q <;> rw [q] <;> decide
      simp only [f1, if_neg hne, if_neg (show ¬ (1 : Int32) = 0 by decide)]
      have : j = 0 ∨ j = 1 ∨ j = 2 ∨ j = 3 ∨ j = 4 := by omega
      rcases this with rfl | rfl | rfl | rfl | rfl
      · rw [f3]
        exact ⟨_, rfl, rfl⟩
      · rw [f4]
        exact ⟨_, rfl, rfl⟩
      · rw [f5, if_neg (show ¬ nI 2 = 0 by decide), if_neg (show ¬ nI 2 = 1 by decide), if_pos (show nI 2 = 2 from rfl)]
        by_cases q : X.1 468 0 = 1
        · rw [if_pos q, if_pos q]
          exact ⟨_, rfl, rfl⟩
        · rw [if_neg q, if_neg q]
          exact ⟨_, rfl, rfl⟩
      · rw [f6]
        exact ⟨_, rfl, rfl⟩
      · rw [f7]
        exact ⟨_, rfl, rfl⟩
  · simp only [if_neg h1, Option.bind_some, i01, if_true, if_pos fx.1.2.2.2.2.2.2.2.2.2.1]
    exact ⟨_, rfl, rfl⟩
end TT
