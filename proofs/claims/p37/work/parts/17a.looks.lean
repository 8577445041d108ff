/-! looking -/
section LK
variable {B : Int} {L : hL} {X : hX} {E : Nat → Nat} {V : Nat → Nat → Int32} {n l : Nat}
theorem m4_0 (j : Nat) : (4 : Int32) * 0 + nI j = nI j := by rw [show (4 : Int32) * 0 = 0 by decide, Int32.zero_add]
theorem m4_1 (j : Nat) : (4 : Int32) * 1 + nI j = nI (4 + j) := by rw [show (4 : Int32) * 1 = 4 by decide, n4]
theorem in01 {a : Int32} (h : 0 ≤ a ∧ a ≤ 1) : a = 0 ∨ a = 1 := by
  obtain ⟨j, hj, rfl⟩ := slot_of h
  have : j = 0 ∨ j = 1 := by omega
  rcases this with rfl | rfl
  · exact Or.inl rfl
  · exact Or.inr rfl
theorem in_n {a : Int32} {m : Nat} (hm : m < 2147483647) (h : 0 ≤ a ∧ a ≤ nI m) : ∃ j, j ≤ m ∧ a = nI j := by
  have h2 := i_le.mp h.2
  rw [nI_toInt (by omega)] at h2
  obtain ⟨j, hj, e⟩ := isR_of (n := m + 1) (by omega) (a := a) ⟨h.1, by rw [i_lt, nI_toInt (by omega)]; omega⟩
  exact ⟨j, by omega, e⟩
theorem rdg_of {r : Int32} (h : 0 ≤ r ∧ r ≤ 3000000) : rdg r := by
  have c1 := i_le.mp h.1
  have c2 := i_le.mp h.2
  rw [z0i] at c1
  rw [show (3000000 : Int32).toInt = 3000000 by decide] at c2
  exact ⟨c1, c2⟩
theorem in02 {a : Int32} (h : 0 ≤ a ∧ a ≤ 2) : a = 0 ∨ a = 1 ∨ a = 2 := by
  obtain ⟨j, hj, rfl⟩ := in_n (m := 2) (by omega) h
  have : j = 0 ∨ j = 1 ∨ j = 2 := by omega
  rcases this with rfl | rfl | rfl
  · exact Or.inl rfl
  · exact Or.inr (Or.inl rfl)
  · exact Or.inr (Or.inr rfl)
end LK
