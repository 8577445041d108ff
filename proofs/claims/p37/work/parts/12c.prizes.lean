/-- division where nothing is below 0 -/
theorem fl_div {a b : Int32} (ha : 0 ≤ a.toInt) (hb : 0 < b.toInt) : a / b = fl a b := by
  rw [i_eq, i_div hb, td hb, if_pos (Or.inl ha), fl_i hb]
def lsum (st du ea : Int32) : Int64 := Int32.toInt64 st + Int32.toInt64 du * Int32.toInt64 ea
def op_stock (st du ea : Int32) : Int32 := Int64.toInt32 (if lsum st du ea < 99 then lsum st du ea else 99)
section CXP
variable {L : hL} {X : hX} {b : Nat} {π ρ : Nat → Nat} {v : Nat → Int32}
theorem c_placePrize (h : CX L X b π ρ v) {pc : Nat} (hc : pc ≤ 6) (e : v 15 = nI pc) (a1 a2 a3 a4 a5 : Int32) : ∃ X', f_X0_placePrize L X b a1 a2 a3 a4 a5 = some ((op_adds v pc a1 a2 a3 a4 a5).1, X') ∧ CX L X' b π ρ (op_adds v pc a1 a2 a3 a4 a5).2 := by
  have h4 := h.o5
  obtain ⟨⟨t0, -, -, -, -, -, t3, l3⟩, -⟩ := id h.1
  obtain ⟨⟨-, -, -, r2⟩, -, -, rc, -⟩ := id h.2.1
  unfold f_X0_placePrize op_adds
  simp only [s_within]
  by_cases h1 : 1 ≤ a1 ∧ a1 ≤ 5000
  · simp only [if_pos h1, Option.bind_some, i10, if_false]
    by_cases h2 : 1 ≤ a2 ∧ a2 ≤ 20000
    · simp only [if_pos h2, Option.bind_some, i10, if_false]
      by_cases h3 : 0 ≤ a3 ∧ a3 ≤ 99
      · simp only [if_pos h3, Option.bind_some, i10, if_false]
        by_cases h4' : 1 ≤ a4 ∧ a4 ≤ 100000
        · simp only [if_pos h4', Option.bind_some, i10, if_false]
          by_cases h5 : 1 ≤ a5 ∧ a5 ≤ 100000
          · simp only [if_pos h5, Option.bind_some, i10, if_false, if_pos t0, h4, e, if_pos (And.intro h1 (And.intro h2 (And.intro h3 (And.intro h4' h5))))]
            by_cases h6 : pc = 6
            · rw [if_neg (fun q => (w05 hc).mp q h6), if_pos h6, if_pos rfl]
              exact ⟨_, rfl, h⟩
            · have hlt : pc < 6 := by omega
              have z := ((((((h.wpr (j := 0) hlt (by omega) a1).wpr (j := 1) hlt (by omega) a2).wpr (j := 2) hlt (by omega) a3).wpr (j := 3) hlt (by omega) a4).wpr (j := 4) hlt (by omega) a5).wpr (j := 5) hlt (by omega) 0).wpr (j := 6) hlt (by omega) 0
              have z4 := z.o5
              have e4 : (upd (upd (upd (upd (upd (upd (upd v (52 + 7 * pc + 0) a1) (52 + 7 * pc + 1) a2) (52 + 7 * pc + 2) a3) (52 + 7 * pc + 3) a4) (52 + 7 * pc + 4) a5) (52 + 7 * pc + 5) 0) (52 + 7 * pc + 6) 0) 15 = v 15 := by
                simp only [upd]
                repeat rw [if_neg (by omega)]
              rw [if_pos ((w05 hc).mpr h6), if_neg h6]
              simp only [i10, if_false, r2, Option.bind_some, if_pos t3, l3, if_pos (hin_nI (n := 6) hlt (by omega)), nI_clamp (show pc < 2 ^ 31 by omega), rc pc hlt]
              unfold f_X5_begin
              simp only [if_pos (pt h hlt), Option.bind_some, z4, e4]
              have z5 : ∀ (Y : hX) (x : Int32), (smi Y b 5 x).1 b 5 = x := fun Y x => by rw [smi_d]; simp [upd]
              rw [z5, e]
              exact ⟨_, rfl, z.w5 _⟩
          · simp only [if_neg h5, Option.bind_some, i01, if_true]
            rw [if_neg (fun q => h5 q.2.2.2.2)]
            exact ⟨_, rfl, h⟩
        · simp only [if_neg h4', Option.bind_some, i01, if_true]
          rw [if_neg (fun q => h4' q.2.2.2.1)]
          exact ⟨_, rfl, h⟩
      · simp only [if_neg h3, Option.bind_some, i01, if_true]
        rw [if_neg (fun q => h3 q.2.2.1)]
        exact ⟨_, rfl, h⟩
    · simp only [if_neg h2, Option.bind_some, i01, if_true]
      rw [if_neg (fun q => h2 q.2.1)]
      exact ⟨_, rfl, h⟩
  · simp only [if_neg h1, Option.bind_some, i01, if_true]
    rw [if_neg (fun q => h1 q.1)]
    exact ⟨_, rfl, h⟩
end CXP
