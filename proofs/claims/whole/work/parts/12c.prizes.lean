theorem m_adds {L : hL} {X : hX} (hM : MOK L X) {pc : Nat} (hc : pc ≤ 6) (e : X.1 471 15 = nI pc) (a1 a2 a3 a4 a5 : Int32) : ∃ X', f_X10_adds L X 470 a1 a2 a3 a4 a5 = some ((op_adds (X.1 471) pc a1 a2 a3 a4 a5).1, X') ∧ SC X X' ∧ X'.1 471 = (op_adds (X.1 471) pc a1 a2 a3 a4 a5).2 := by
  obtain ⟨⟨t0, t1, -⟩, ⟨l1, -⟩, ⟨r0, -⟩⟩ := hM
  unfold f_X10_adds op_adds
  simp only [s_in]
  by_cases h1 : 1 ≤ a1 ∧ a1 ≤ 5000
  · simp only [if_pos h1, Option.bind_some, i10, if_false]
    by_cases h2 : 1 ≤ a2 ∧ a2 ≤ 20000
    · simp only [if_pos h2, Option.bind_some, i10, if_false]
      by_cases h3 : 0 ≤ a3 ∧ a3 ≤ 99
      · simp only [if_pos h3, Option.bind_some, i10, if_false]
        by_cases h4 : 1 ≤ a4 ∧ a4 ≤ 100000
        · simp only [if_pos h4, Option.bind_some, i10, if_false]
          by_cases h5 : 1 ≤ a5 ∧ a5 ≤ 100000
          · simp only [if_pos h5, Option.bind_some, i10, if_false, if_pos t0, r0, if_pos t1, l1, show (15 < 284) = True from by decide, if_true, if_pos (And.intro h1 (And.intro h2 (And.intro h3 (And.intro h4 h5))))]
            by_cases h6 : pc = 6
            · rw [if_pos (by rw [e]; exact (nI_ne6 hc).mpr h6), if_pos h6]
              exact ⟨_, rfl, SC.rf, rfl⟩
            · rw [if_neg (by rw [e]; exact fun q => h6 ((nI_ne6 hc).mp q)), if_neg h6]
              have z2 : ∀ (Y : hX) (x : Int32), (smi Y 471 15 x).1 471 15 = x := fun Y x => by rw [smi_d]; simp [upd]
              have z : ∀ (Y : hX) (j : Nat) (x : Int32), (smi Y 471 (52 + 7 * pc + j) x).1 471 15 = Y.1 471 15 := fun Y j x => by
                rw [smi_d]
                simp only [upd]
                rw [if_neg (by omega)]
              have z0 : ∀ (Y : hX) (x : Int32), (smi Y 471 (52 + 7 * pc) x).1 471 15 = Y.1 471 15 := fun Y x => z Y 0 x
              simp only [e, n52, nk1, nk2, nk3, nk4, nk5, nk6, if_pos (hin_nI (n := 284) (show 52 + 7 * pc < 284 by omega) (by omega)), if_pos (hin_nI (n := 284) (show 52 + 7 * pc + 1 < 284 by omega) (by omega)), if_pos (hin_nI (n := 284) (show 52 + 7 * pc + 2 < 284 by omega) (by omega)), if_pos (hin_nI (n := 284) (show 52 + 7 * pc + 3 < 284 by omega) (by omega)), if_pos (hin_nI (n := 284) (show 52 + 7 * pc + 4 < 284 by omega) (by omega)), if_pos (hin_nI (n := 284) (show 52 + 7 * pc + 5 < 284 by omega) (by omega)), if_pos (hin_nI (n := 284) (show 52 + 7 * pc + 6 < 284 by omega) (by omega)), nI_clamp (show 52 + 7 * pc < 2 ^ 31 by omega), nI_clamp (show 52 + 7 * pc + 1 < 2 ^ 31 by omega), nI_clamp (show 52 + 7 * pc + 2 < 2 ^ 31 by omega), nI_clamp (show 52 + 7 * pc + 3 < 2 ^ 31 by omega), nI_clamp (show 52 + 7 * pc + 4 < 2 ^ 31 by omega), nI_clamp (show 52 + 7 * pc + 5 < 2 ^ 31 by omega), nI_clamp (show 52 + 7 * pc + 6 < 2 ^ 31 by omega), z, z0, z2]
              exact ⟨_, rfl, SC.rf.d.d.d.d.d.d.d.d, by simp only [smi_d]⟩
          · simp only [if_neg h5, Option.bind_some, i01, if_true]
            rw [if_neg (fun q => h5 q.2.2.2.2)]
            exact ⟨_, rfl, SC.rf, rfl⟩
        · simp only [if_neg h4, Option.bind_some, i01, if_true]
          rw [if_neg (fun q => h4 q.2.2.2.1)]
          exact ⟨_, rfl, SC.rf, rfl⟩
      · simp only [if_neg h3, Option.bind_some, i01, if_true]
        rw [if_neg (fun q => h3 q.2.2.1)]
        exact ⟨_, rfl, SC.rf, rfl⟩
    · simp only [if_neg h2, Option.bind_some, i01, if_true]
      rw [if_neg (fun q => h2 q.2.1)]
      exact ⟨_, rfl, SC.rf, rfl⟩
  · simp only [if_neg h1, Option.bind_some, i01, if_true]
    rw [if_neg (fun q => h1 q.1)]
    exact ⟨_, rfl, SC.rf, rfl⟩
/-- division where nothing is below 0 -/
theorem fl_div {a b : Int32} (ha : 0 ≤ a.toInt) (hb : 0 < b.toInt) : a / b = fl a b := by
  rw [i_eq, i_div hb, td hb, if_pos (Or.inl ha), fl_i hb]
def lsum (st du ea : Int32) : Int64 := Int32.toInt64 st + Int32.toInt64 du * Int32.toInt64 ea
def op_stock (st du ea : Int32) : Int32 := Int64.toInt32 (if lsum st du ea < 99 then lsum st du ea else 99)
theorem stocked_eq {L : hL} {X : hX} (st du ea : Int32) : f_X10_stocked L X st du ea = some (op_stock st du ea) := by
  unfold f_X10_stocked op_stock
  show (if lg_cmp (lsum st du ea) 99 ≤ 0 then some (Int64.toInt32 (lsum st du ea)) else some 99) = _
  generalize lsum st du ea = s
  by_cases h1 : s < 99
  · have h0 := Int64.lt_iff_toInt_lt.mp h1
    rw [if_pos h1, if_pos ((lg_cmp_le s 99).mpr (Int64.le_iff_toInt_le.mpr (by omega)))]
  · have h0 : ¬ s.toInt < (99 : Int64).toInt := fun q => h1 (Int64.lt_iff_toInt_lt.mpr q)
    rw [if_neg h1]
    by_cases h2 : s ≤ 99
    · have h3 := Int64.le_iff_toInt_le.mp h2
      have h4 : s = 99 := Int64.toInt_inj.mp (by omega)
      rw [if_pos ((lg_cmp_le s 99).mpr h2), h4]
    · rw [if_neg (fun q => h2 ((lg_cmp_le s 99).mp q))]
      rfl
section CXP
variable {L : hL} {X : hX} {b : Nat} {π ρ : Nat → Nat} {v : Nat → Int32}
theorem c_placePrize (h : CX L X b π ρ v) {pc : Nat} (hc : pc ≤ 6) (e : v 15 = nI pc) (a1 a2 a3 a4 a5 : Int32) : ∃ X', f_X0_placePrize L X b a1 a2 a3 a4 a5 = some ((op_adds v pc a1 a2 a3 a4 a5).1, X') ∧ CX L X' b π ρ (op_adds v pc a1 a2 a3 a4 a5).2 := by
  have h4 := h.o5
  obtain ⟨⟨t0, -, -, -, -, -, t3, l3⟩, -⟩ := id h.1
  obtain ⟨⟨-, -, -, r2⟩, -, -, rc, -⟩ := id h.2.1
  unfold f_X0_placePrize op_adds
  simp only [s_within]
  by_cases h1 : 1 ≤ a1 ∧ a1 ≤ 5000
  · simp only [if_pos h1, Option.bind_some, i10, if_false]
    by_cases h2 : 1 ≤ a2 ∧ a2 ≤ 20000
    · simp only [if_pos h2, Option.bind_some, i10, if_false]
      by_cases h3 : 0 ≤ a3 ∧ a3 ≤ 99
      · simp only [if_pos h3, Option.bind_some, i10, if_false]
        by_cases h4' : 1 ≤ a4 ∧ a4 ≤ 100000
        · simp only [if_pos h4', Option.bind_some, i10, if_false]
          by_cases h5 : 1 ≤ a5 ∧ a5 ≤ 100000
          · simp only [if_pos h5, Option.bind_some, i10, if_false, if_pos t0, h4, e, if_pos (And.intro h1 (And.intro h2 (And.intro h3 (And.intro h4' h5))))]
            by_cases h6 : pc = 6
            · rw [if_neg (fun q => (w05 hc).mp q h6), if_pos h6, if_pos rfl]
              exact ⟨_, rfl, h⟩
            · have hlt : pc < 6 := by omega
              have z := ((((((h.wpr (j := 0) hlt (by omega) a1).wpr (j := 1) hlt (by omega) a2).wpr (j := 2) hlt (by omega) a3).wpr (j := 3) hlt (by omega) a4).wpr (j := 4) hlt (by omega) a5).wpr (j := 5) hlt (by omega) 0).wpr (j := 6) hlt (by omega) 0
              have z4 := z.o5
              have e4 : (upd (upd (upd (upd (upd (upd (upd v (52 + 7 * pc + 0) a1) (52 + 7 * pc + 1) a2) (52 + 7 * pc + 2) a3) (52 + 7 * pc + 3) a4) (52 + 7 * pc + 4) a5) (52 + 7 * pc + 5) 0) (52 + 7 * pc + 6) 0) 15 = v 15 := by
                simp only [upd]
                repeat rw [if_neg (by omega)]
              rw [if_pos ((w05 hc).mpr h6), if_neg h6]
              simp only [i10, if_false, r2, Option.bind_some, if_pos t3, l3, if_pos (hin_nI (n := 6) hlt (by omega)), nI_clamp (show pc < 2 ^ 31 by omega), rc pc hlt]
              unfold f_X5_begin
              simp only [if_pos (pt h hlt), Option.bind_some, z4, e4]
              have z5 : ∀ (Y : hX) (x : Int32), (smi Y b 5 x).1 b 5 = x := fun Y x => by rw [smi_d]; simp [upd]
              rw [z5, e]
              exact ⟨_, rfl, z.w5 _⟩
          · simp only [if_neg h5, Option.bind_some, i01, if_true]
            rw [if_neg (fun q => h5 q.2.2.2.2)]
            exact ⟨_, rfl, h⟩
        · simp only [if_neg h4', Option.bind_some, i01, if_true]
          rw [if_neg (fun q => h4' q.2.2.2.1)]
          exact ⟨_, rfl, h⟩
      · simp only [if_neg h3, Option.bind_some, i01, if_true]
        rw [if_neg (fun q => h3 q.2.2.1)]
        exact ⟨_, rfl, h⟩
    · simp only [if_neg h2, Option.bind_some, i01, if_true]
      rw [if_neg (fun q => h2 q.2.1)]
      exact ⟨_, rfl, h⟩
  · simp only [if_neg h1, Option.bind_some, i01, if_true]
    rw [if_neg (fun q => h1 q.1)]
    exact ⟨_, rfl, h⟩
end CXP
