/-! commands over the numbers of one counter, and that both sides do them -/
abbrev isR (a : Int32) (n : Nat) : Prop := 0 ≤ a ∧ a < nI n
theorem isR_of {a : Int32} {n : Nat} (hn : n < 2147483648) (h : isR a n) : ∃ c, c < n ∧ a = nI c := by
  rcases pk_ix a (n := n) (by omega) with q | q | ⟨j, hj, rfl⟩
  · exact absurd h.1 (by rw [i_le]; rw [i_lt] at q; omega)
  · exact absurd h.2 (by rw [i_lt]; rw [i_le] at q; omega)
  · exact ⟨j, hj, rfl⟩
theorem isR_m1 {a : Int32} {n : Nat} (hn : n ≤ 6) : (0 ≤ a ∧ a ≤ nI n - 1) ↔ isR a n := by
  have e1 : (1 : Int32).toInt = 1 := by decide
  have en : (nI n).toInt = n := nI_toInt (by omega)
  have e : (nI n - 1).toInt = n - 1 := by rw [i_sub (by omega) (by omega), en, e1]
  unfold isR
  rw [i_le, i_le, i_lt, e, en]
  constructor <;> intro h <;> exact ⟨h.1, by omega⟩
theorem isR5 {a : Int32} {n : Nat} (hn : n ≤ 6) (q : isR a n) : a ≤ 5 := by
  have e5 : (5 : Int32).toInt = 5 := by decide
  have en : (nI n).toInt = n := nI_toInt (by omega)
  have h := i_lt.mp q.2
  rw [i_le]
  omega
theorem nI_ne6 {n : Nat} (h : n ≤ 6) : nI n = 6 ↔ n = 6 := by
  rw [show (6 : Int32) = nI 6 from rfl, nI_eq (by omega) (by omega)]
theorem w05 {n : Nat} (h : n ≤ 6) : (0 ≤ nI n ∧ nI n ≤ 5) ↔ n ≠ 6 := by
  have en : (nI n).toInt = n := nI_toInt (by omega)
  have e5 : (5 : Int32).toInt = 5 := by decide
  have e0 : (0 : Int32).toInt = 0 := by decide
  rw [i_le, i_le, en, e5, e0]
  omega
def op_comes (v : Nat → Int32) (cc : Nat) (p : Int32) : Int32 × (Nat → Int32) := if 0 ≤ p ∧ p ≤ 9999 then (if cc = 6 then (-100003, v) else (v 14 + 1 - 1, upd (upd (upd v (16 + 6 * cc) p) (16 + 6 * cc + 1) 0) 14 (v 14 + 1))) else (-100001, v)
def op_adds (v : Nat → Int32) (pc : Nat) (a1 a2 a3 a4 a5 : Int32) : Int32 × (Nat → Int32) := if (1 ≤ a1 ∧ a1 ≤ 5000) ∧ (1 ≤ a2 ∧ a2 ≤ 20000) ∧ (0 ≤ a3 ∧ a3 ≤ 99) ∧ (1 ≤ a4 ∧ a4 ≤ 100000) ∧ 1 ≤ a5 ∧ a5 ≤ 100000 then (if pc = 6 then (-100003, v) else (v 15 + 1 - 1, upd (upd (upd (upd (upd (upd (upd (upd v (52 + 7 * pc) a1) (52 + 7 * pc + 1) a2) (52 + 7 * pc + 2) a3) (52 + 7 * pc + 3) a4) (52 + 7 * pc + 4) a5) (52 + 7 * pc + 5) 0) (52 + 7 * pc + 6) 0) 15 (v 15 + 1))) else (-100001, v)
def op_price (v : Nat → Int32) (pc : Nat) (a p : Int32) : Int32 × (Nat → Int32) := if isR a pc then op_sets v (52 + 7 * a.toNatClampNeg) p 1 5000 else (-100001, v)
section CXB
variable {L : hL} {X : hX} {b : Nat} {π ρ : Nat → Nat} {v : Nat → Int32}
theorem c_customerAt (h : CX L X b π ρ v) {cc : Nat} (hc : cc ≤ 6) (e : v 14 = nI cc) (a : Int32) : f_X0_customerAt L X b a = some (if isR a cc then some (b + 9 + π a.toNatClampNeg) else none) := by
  have h4 := h.o4
  obtain ⟨⟨⟨t0, -, -, -, t3, l3, -⟩, -⟩, ⟨⟨-, -, r2, -⟩, -, rc, -⟩, -⟩ := h
  have f22 : f_X0_customerAt_21 L b a X = some none := by
    unfold f_X0_customerAt_21 f_X0_customerAt_22
    rw [if_pos rfl]
  have en : (nI cc).toInt = cc := nI_toInt (by omega)
  unfold f_X0_customerAt
  rw [if_pos t0, h4, e, f22]
  by_cases h1 : nI cc ≤ a
  · rw [if_pos h1, if_neg (fun q => by have := q.2; rw [i_lt] at this; rw [i_le] at h1; omega)]
  · rw [if_neg h1, s_within]
    by_cases h2 : 0 ≤ a ∧ a ≤ 5
    · have h3 : isR a cc := ⟨h2.1, by rw [i_lt]; rw [i_le] at h1; omega⟩
      obtain ⟨c, hcc, rfl⟩ := isR_of (by omega) h3
      rw [if_pos h2, if_pos h3]
      unfold f_X0_customerAt_22
      simp only [Option.bind_some, i10, if_false, if_pos t0, r2, if_pos t3, l3, if_pos (hin_nI (n := 6) (show c < 6 by omega) (by omega)), nI_clamp (show c < 2 ^ 31 by omega), rc c (by omega)]
    · rw [if_neg h2, if_neg (fun q => h2 ⟨q.1, isR5 hc q⟩)]
      simp only [Option.bind_some, i01, if_true]
theorem c_prizeAt (h : CX L X b π ρ v) {pc : Nat} (hc : pc ≤ 6) (e : v 15 = nI pc) (a : Int32) : f_X0_prizeAt L X b a = some (if isR a pc then some (b + 15 + ρ a.toNatClampNeg) else none) := by
  have h4 := h.o5
  obtain ⟨⟨⟨t0, -, -, -, -, -, t3, l3⟩, -⟩, ⟨⟨-, -, -, r2⟩, -, -, rc, -⟩, -⟩ := h
  have f22 : f_X0_prizeAt_21 L b a X = some none := by
    unfold f_X0_prizeAt_21 f_X0_prizeAt_22
    rw [if_pos rfl]
  have en : (nI pc).toInt = pc := nI_toInt (by omega)
  unfold f_X0_prizeAt
  rw [if_pos t0, h4, e, f22]
  by_cases h1 : nI pc ≤ a
  · rw [if_pos h1, if_neg (fun q => by have := q.2; rw [i_lt] at this; rw [i_le] at h1; omega)]
  · rw [if_neg h1, s_within]
    by_cases h2 : 0 ≤ a ∧ a ≤ 5
    · have h3 : isR a pc := ⟨h2.1, by rw [i_lt]; rw [i_le] at h1; omega⟩
      obtain ⟨c, hcc, rfl⟩ := isR_of (by omega) h3
      rw [if_pos h2, if_pos h3]
      unfold f_X0_prizeAt_22
      simp only [Option.bind_some, i10, if_false, if_pos t0, r2, if_pos t3, l3, if_pos (hin_nI (n := 6) (show c < 6 by omega) (by omega)), nI_clamp (show c < 2 ^ 31 by omega), rc c (by omega)]
    · rw [if_neg h2, if_neg (fun q => h2 ⟨q.1, isR5 hc q⟩)]
      simp only [Option.bind_some, i01, if_true]
theorem c_addCustomer (h : CX L X b π ρ v) {cc : Nat} (hc : cc ≤ 6) (e : v 14 = nI cc) (p : Int32) : ∃ X', f_X0_addCustomer L X b p = some ((op_comes v cc p).1, X') ∧ CX L X' b π ρ (op_comes v cc p).2 := by
  have h4 := h.o4
  obtain ⟨⟨t0, -, -, -, t3, l3, -⟩, -⟩ := id h.1
  obtain ⟨⟨-, -, r2, -⟩, -, rc, -⟩ := id h.2.1
  unfold f_X0_addCustomer op_comes
  simp only [s_within]
  by_cases h1 : 0 ≤ p ∧ p ≤ 9999
  · simp only [if_pos h1, Option.bind_some, i10, if_false, if_pos t0, h4, e]
    by_cases h6 : cc = 6
    · rw [if_neg (fun q => (w05 hc).mp q h6), if_pos h6, if_pos rfl]
      exact ⟨_, rfl, h⟩
    · have hlt : cc < 6 := by omega
      have z := (h.wcu (j := 0) hlt (by omega) p).wcu (j := 1) hlt (by omega) 0
      have z4 := z.o4
      have e4 : (upd (upd v (16 + 6 * cc + 0) p) (16 + 6 * cc + 1) 0) 14 = v 14 := by
        simp only [upd]
        rw [if_neg (by omega), if_neg (by omega)]
      rw [if_pos ((w05 hc).mpr h6), if_neg h6]
      simp only [i10, if_false, r2, Option.bind_some, if_pos t3, l3, if_pos (hin_nI (n := 6) hlt (by omega)), nI_clamp (show cc < 2 ^ 31 by omega), rc cc hlt]
      unfold f_X1_begin
      simp only [if_pos (ct h hlt), Option.bind_some, z4, e4]
      have z5 : ∀ (Y : hX) (x : Int32), (smi Y b 4 x).1 b 4 = x := fun Y x => by rw [smi_d]; simp [upd]
      rw [z5, e]
      exact ⟨_, rfl, z.w4 _⟩
  · simp only [if_neg h1, Option.bind_some, i01, if_true]
    exact ⟨_, rfl, h⟩
theorem c_changeRule (h : CX L X b π ρ v) (x : Int32) : ∃ X', f_X0_changeRule L X b x = some ((op_sets v 11 x 0 3).1, X') ∧ CX L X' b π ρ (op_sets v 11 x 0 3).2 := by
  have h4 := h.o6
  have t0 := h.1.1.1
  unfold f_X0_changeRule op_sets
  rw [s_within]
  by_cases h1 : 0 ≤ x ∧ x ≤ 3
  · simp only [if_pos h1, Option.bind_some, i10, if_false, if_pos t0, h4]
    exact ⟨_, rfl, h.w6 x⟩
  · simp only [if_neg h1, Option.bind_some, i01, if_true]
    exact ⟨_, rfl, h⟩
theorem c_changeBias (h : CX L X b π ρ v) (x : Int32) : ∃ X', f_X0_changeBias L X b x = some ((op_sets v 10 x (-(v 9)) (v 9)).1, X') ∧ CX L X' b π ρ (op_sets v 10 x (-(v 9)) (v 9)).2 := by
  have e1 := h.sc (j := 1) (by omega)
  have e2 := h.sc (j := 2) (by omega)
  have t0 := h.1.1.1
  have t2 := h.1.1.2.2.2.1
  have r1 := h.2.1.1.2.1
  unfold f_X0_changeBias op_sets
  simp only [if_pos t0, r1, Option.bind_some, if_pos t2, e1, e2, s_within]
  by_cases h1 : -(v 9) ≤ x ∧ x ≤ v 9
  · simp only [if_pos h1, i10, if_false]
    exact ⟨_, rfl, h.wsc (j := 2) (by omega) x⟩
  · simp only [if_neg h1, i01, if_true]
    exact ⟨_, rfl, h⟩
theorem clamp_mm {y l : Int32} (hl : 0 ≤ l.toInt ∧ l.toInt ≤ 2000) : (if -l < (if y < l then y else l) then (if y < l then y else l) else -l) = clampB y l := by
  have en := i_neg (a := l) (by omega)
  unfold clampB
  by_cases h1 : y < l
  · have h1' := i_lt.mp h1
    rw [if_pos h1, if_pos (i_le.mpr (by omega))]
    by_cases h2 : -l < y
    · have := i_lt.mp h2
      rw [if_pos h2, if_pos (i_le.mpr (by omega))]
    · have h2' : ¬ (-l).toInt < y.toInt := fun q => h2 (i_lt.mpr q)
      rw [if_neg h2]
      by_cases h3 : -l ≤ y
      · have := i_le.mp h3
        rw [if_pos h3, i_eq]; omega
      · rw [if_neg h3]
  · have h1' : ¬ y.toInt < l.toInt := fun q => h1 (i_lt.mpr q)
    rw [if_neg h1]
    by_cases h2 : -l < l
    · rw [if_pos h2]
      by_cases h3 : y ≤ l
      · have := i_le.mp h3
        rw [if_pos h3, if_pos (i_le.mpr (by omega)), i_eq]; omega
      · rw [if_neg h3]
    · have h2' : ¬ (-l).toInt < l.toInt := fun q => h2 (i_lt.mpr q)
      rw [if_neg h2]
      have hl0 : l.toInt = 0 := by omega
      by_cases h3 : y ≤ l
      · have := i_le.mp h3
        rw [if_pos h3, if_pos (i_le.mpr (by omega)), i_eq]; omega
      · rw [if_neg h3, i_eq]; omega
theorem c_changeScale (h : CX L X b π ρ v) (st lm : Int32) : ∃ X', f_X0_changeScale L X b st lm = some ((op_scales v st lm).1, X') ∧ CX L X' b π ρ (op_scales v st lm).2 := by
  have t0 := h.1.1.1
  have t2 := h.1.1.2.2.2.1
  have r1 := h.2.1.1.2.1
  unfold f_X0_changeScale op_scales
  simp only [s_within]
  by_cases h1 : 1 ≤ st ∧ st ≤ 1000
  · simp only [if_pos h1, Option.bind_some, i10, if_false]
    by_cases h2 : 0 ≤ lm ∧ lm ≤ 2000
    · have hr : 0 ≤ lm.toInt ∧ lm.toInt ≤ 2000 := by
        have e0 : (0 : Int32).toInt = 0 := by decide
        have e2 : (2000 : Int32).toInt = 2000 := by decide
        have a1 := i_le.mp h2.1
        have a2 := i_le.mp h2.2
        omega
      have z := (h.wsc (j := 0) (by omega) st).wsc (j := 1) (by omega) lm
      have z2 := z.sc (j := 2) (by omega)
      have e10 : (upd (upd v (8 + 0) st) (8 + 1) lm) (8 + 2) = v 10 := by simp [upd]
      rw [e10] at z2
      have z5 : ∀ (Y : hX) (x : Int32), (smi Y (b + 2) 2 x).1 (b + 2) 2 = x := fun Y x => by rw [smi_d]; simp [upd]
      simp only [if_pos h2, Option.bind_some, i10, if_false, if_pos t0, r1, if_pos t2, z2, z5, clamp_mm hr, if_pos (And.intro h1 h2)]
      exact ⟨_, rfl, z.wsc (j := 2) (by omega) _⟩
    · simp only [if_neg h2, Option.bind_some, i01, if_true]
      rw [if_neg (fun q => h2 q.2)]
      exact ⟨_, rfl, h⟩
  · simp only [if_neg h1, Option.bind_some, i01, if_true]
    rw [if_neg (fun q => h1 q.1)]
    exact ⟨_, rfl, h⟩
end CXB
