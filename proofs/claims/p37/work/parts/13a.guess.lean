/-! what a reading allows, and what a rule guesses of it -/
/-- what is said of scale, rule, fee and kinds -/
def RgS (v : Nat → Int32) : Prop := (1 ≤ (v 8).toInt ∧ (v 8).toInt ≤ 1000) ∧ (0 ≤ (v 9).toInt ∧ (v 9).toInt ≤ 2000) ∧ (-(v 9).toInt ≤ (v 10).toInt ∧ (v 10).toInt ≤ (v 9).toInt) ∧ (0 ≤ (v 11).toInt ∧ (v 11).toInt ≤ 3) ∧ (0 ≤ (v 12).toInt ∧ (v 12).toInt ≤ 100) ∧ ∀ j, j < 4 → (100 ≤ (v j).toInt ∧ (v j).toInt ≤ 5000) ∧ 0 ≤ (v (4 + j)).toInt ∧ (v (4 + j)).toInt ≤ 50
abbrev rdg (r : Int32) : Prop := 0 ≤ r.toInt ∧ r.toInt ≤ 3000000
def gh (v : Nat → Int32) (r : Int32) : Int32 := r + (v 8 - 1) / 2
def go (v : Nat → Int32) (r : Int32) : Int32 := r - v 8 / 2
def gl (v : Nat → Int32) (r : Int32) (j : Nat) : Int32 := if 0 < fl (((go v r - v 9) + (v j + v (4 + j))) - 1) (v j + v (4 + j)) then fl (((go v r - v 9) + (v j + v (4 + j))) - 1) (v j + v (4 + j)) else 0
def gg (v : Nat → Int32) (r : Int32) (j : Nat) : Int32 := if r - r / v 8 * v 8 = 0 then fl (gh v r + v 9) (v j - v (4 + j)) else -1
def gn (v : Nat → Int32) (r : Int32) (j : Nat) : Int32 := if v j - (r - fl r (v j) * v j) < r - fl r (v j) * v j then fl r (v j) + 1 else fl r (v j)
def gs (v : Nat → Int32) (r : Int32) (j : Nat) (u : Int32) : Int32 := if gl v r j ≤ gg v r j then (if u = 1 then gl v r j else if u = 2 then gg v r j else if u = 3 then (gl v r j + gg v r j) / 2 else if gl v r j < (if gn v r j < gg v r j then gn v r j else gg v r j) then (if gn v r j < gg v r j then gn v r j else gg v r j) else gl v r j) else -100009
section G
variable {v : Nat → Int32} {r : Int32} {j : Nat}
theorem z1i : (1 : Int32).toInt = 1 := by decide
theorem z2i : (2 : Int32).toInt = 2 := by decide
theorem z0i : (0 : Int32).toInt = 0 := by decide
theorem go_i (h : RgS v) (hr : rdg r) : (go v r).toInt = r.toInt - (v 8).toInt / 2 := by
  obtain ⟨h8, -⟩ := h
  have e : (v 8 / 2).toInt = (v 8).toInt / 2 := by rw [fl_div (by omega) (by rw [z2i]; omega), fl_i (by rw [z2i]; omega), z2i]
  unfold go
  rw [i_sub (by omega) (by omega), e]
theorem gh_i (h : RgS v) (hr : rdg r) : (gh v r).toInt = r.toInt + ((v 8).toInt - 1) / 2 := by
  obtain ⟨h8, -⟩ := h
  have e0 : (v 8 - 1).toInt = (v 8).toInt - 1 := by rw [i_sub (by rw [z1i]; omega) (by rw [z1i]; omega), z1i]
  have e : ((v 8 - 1) / 2).toInt = ((v 8).toInt - 1) / 2 := by rw [fl_div (by omega) (by rw [z2i]; omega), fl_i (by rw [z2i]; omega), z2i, e0]
  unfold gh
  rw [i_add (by omega) (by omega), e]
theorem hv_i (h : RgS v) (hj : j < 4) : (v j + v (4 + j)).toInt = (v j).toInt + (v (4 + j)).toInt := by
  obtain ⟨-, -, -, -, -, hk⟩ := h
  have := hk j hj
  exact i_add (by omega) (by omega)
theorem lt_i (h : RgS v) (hj : j < 4) : (v j - v (4 + j)).toInt = (v j).toInt - (v (4 + j)).toInt := by
  obtain ⟨-, -, -, -, -, hk⟩ := h
  have := hk j hj
  exact i_sub (by omega) (by omega)
theorem nz_i (h : RgS v) (hr : rdg r) (hj : j < 4) : (((go v r - v 9) + (v j + v (4 + j))) - 1).toInt = r.toInt - (v 8).toInt / 2 - (v 9).toInt + ((v j).toInt + (v (4 + j)).toInt) - 1 := by
  have e1 := go_i h hr
  have e2 := hv_i h hj
  obtain ⟨h8, h9, -, -, -, hk⟩ := h
  have := hk j hj
  have e3 : (go v r - v 9).toInt = r.toInt - (v 8).toInt / 2 - (v 9).toInt := by rw [i_sub (by omega) (by omega), e1]
  have e4 : ((go v r - v 9) + (v j + v (4 + j))).toInt = r.toInt - (v 8).toInt / 2 - (v 9).toInt + ((v j).toInt + (v (4 + j)).toInt) := by rw [i_add (by omega) (by omega), e3, e2]
  rw [i_sub (by rw [z1i]; omega) (by rw [z1i]; omega), e4, z1i]
theorem gl_i (h : RgS v) (hr : rdg r) (hj : j < 4) : (gl v r j).toInt = (if r.toInt - (v 8).toInt / 2 - (v 9).toInt ≤ 0 then 0 else (r.toInt - (v 8).toInt / 2 - (v 9).toInt + ((v j).toInt + (v (4 + j)).toInt) - 1) / ((v j).toInt + (v (4 + j)).toInt)) := by
  have e2 := hv_i h hj
  have e4 := nz_i h hr hj
  obtain ⟨h8, h9, -, -, -, hk⟩ := h
  have hk := hk j hj
  have e5 := fl_i (a := ((go v r - v 9) + (v j + v (4 + j))) - 1) (b := v j + v (4 + j)) (by omega)
  rw [e4, e2] at e5
  unfold gl
  generalize fl (((go v r - v 9) + (v j + v (4 + j))) - 1) (v j + v (4 + j)) = q at e5 ⊢
  by_cases c : r.toInt - (v 8).toInt / 2 - (v 9).toInt ≤ 0
  · have : q.toInt < 1 := by
      rw [e5]
      exact Int.ediv_lt_of_lt_mul (by omega) (by omega)
    rw [if_neg (by rw [i_lt, z0i]; omega), if_pos c]
    rfl
  · have : 1 ≤ q.toInt := by
      rw [e5]
      exact Int.le_ediv_of_mul_le (by omega) (by omega)
    rw [if_pos (by rw [i_lt, z0i]; omega), if_neg c, e5]
theorem gg_i (h : RgS v) (hr : rdg r) (hj : j < 4) (hs : r - r / v 8 * v 8 = 0) : (gg v r j).toInt = (r.toInt + ((v 8).toInt - 1) / 2 + (v 9).toInt) / ((v j).toInt - (v (4 + j)).toInt) := by
  have e1 := gh_i h hr
  have e2 := lt_i h hj
  obtain ⟨h8, h9, -, -, -, hk⟩ := h
  have hk := hk j hj
  unfold gg
  rw [if_pos hs, fl_i (by omega), e2, i_add (by omega) (by omega), e1]
theorem gl_0 (h : RgS v) (hr : rdg r) (hj : j < 4) : 0 ≤ (gl v r j).toInt ∧ (gl v r j).toInt ≤ 3100000 := by
  rw [gl_i h hr hj]
  obtain ⟨h8, h9, -, -, -, hk⟩ := h
  have hk := hk j hj
  split
  · omega
  · have a1 := Int.ediv_nonneg (a := r.toInt - (v 8).toInt / 2 - (v 9).toInt + ((v j).toInt + (v (4 + j)).toInt) - 1) (b := (v j).toInt + (v (4 + j)).toInt) (by omega) (by omega)
    have a2 := Int.ediv_le_self (a := r.toInt - (v 8).toInt / 2 - (v 9).toInt + ((v j).toInt + (v (4 + j)).toInt) - 1) ((v j).toInt + (v (4 + j)).toInt) (by omega)
    omega
theorem gg_0 (h : RgS v) (hr : rdg r) (hj : j < 4) : -1 ≤ (gg v r j).toInt ∧ (gg v r j).toInt ≤ 100000 := by
  by_cases hs : r - r / v 8 * v 8 = 0
  · rw [gg_i h hr hj hs]
    obtain ⟨h8, h9, -, -, -, hk⟩ := h
    have hk := hk j hj
    have a1 := Int.ediv_nonneg (a := r.toInt + ((v 8).toInt - 1) / 2 + (v 9).toInt) (b := (v j).toInt - (v (4 + j)).toInt) (by omega) (by omega)
    have a2 : (r.toInt + ((v 8).toInt - 1) / 2 + (v 9).toInt) / ((v j).toInt - (v (4 + j)).toInt) < 100001 := Int.ediv_lt_of_lt_mul (by omega) (by omega)
    omega
  · unfold gg
    rw [if_neg hs]
    decide
theorem gg_n (h : RgS v) (hr : rdg r) (hj : j < 4) (hs : ¬ r - r / v 8 * v 8 = 0) : ¬ gl v r j ≤ gg v r j := by
  have a := gl_0 h hr hj
  unfold gg
  rw [if_neg hs, i_le]
  have : (-1 : Int32).toInt = -1 := by decide
  omega
end G
section GC
variable {L : hL} {X : hX} {b : Nat} {π ρ : Nat → Nat} {v : Nat → Int32}
theorem c_leastCount (h : CX L X b π ρ v) (hS : RgS v) {j : Nat} (hj : j < 4) (r : Int32) : f_X7_leastCount L X (b + 2) r (b + 5 + j) = some (gl v r j) := by
  have tk := kt h hj
  have t2 := h.1.1.2.2.2.1
  have e := hv_i hS hj
  have hk := hS.2.2.2.2.2 j hj
  unfold f_X7_leastCount f_X7_loadFrom f_X4_heaviest
  simp only [if_pos tk, if_pos t2, Option.bind_some, h.kw hj, h.ks hj, h.sc (show 0 < 3 by omega), h.sc (show 1 < 3 by omega)]
  rw [s_quotient (by omega), Option.bind_some]
  rfl
theorem c_greatestCount (h : CX L X b π ρ v) (hS : RgS v) {j : Nat} (hj : j < 4) (r : Int32) : f_X7_greatestCount L X (b + 2) r (b + 5 + j) = some (gg v r j) := by
  have tk := kt h hj
  have t2 := h.1.1.2.2.2.1
  have e := lt_i hS hj
  have hk := hS.2.2.2.2.2 j hj
  have h8 := hS.1
  unfold f_X7_greatestCount f_X7_loadTo f_X7_shows f_X4_lightest gg
  simp only [if_pos tk, if_pos t2, Option.bind_some, h.kw hj, h.ks hj, h.sc (show 0 < 3 by omega), h.sc (show 1 < 3 by omega), if_neg (show ¬ v (8 + 0) < 1 from fun q => by rw [i_lt, z1i] at q; have q : (v 8).toInt < 1 := q; omega), if_pos (show ¬ v (8 + 0) = 0 from i_nz (show 0 < (v 8).toInt by omega))]
  by_cases hs : r - r / v 8 * v 8 = 0
  · simp only [if_pos hs, Option.bind_some, i10, if_false]
    rw [s_quotient (by omega), Option.bind_some]
    rfl
  · simp only [if_neg hs, Option.bind_some, i01, if_true]
theorem c_guessFrom (h : CX L X b π ρ v) (hS : RgS v) {j : Nat} (hj : j < 4) (r u : Int32) : f_X7_guessFrom L X (b + 2) r (b + 5 + j) u = some (gs v r j u) := by
  have tk := kt h hj
  have t2 := h.1.1.2.2.2.1
  have hk := hS.2.2.2.2.2 j hj
  unfold f_X7_guessFrom gs
  simp only [c_leastCount h hS hj, c_greatestCount h hS hj, Option.bind_some, if_pos t2, if_pos tk, h.kw hj]
  unfold f_X7_nearestCount gn
  rw [s_quotient (show 0 < (v j).toInt by omega)]
  simp only [Option.bind_some]
  by_cases h1 : gl v r j ≤ gg v r j
  · simp only [if_pos h1]
    by_cases u1 : u = 1
    · simp only [if_pos u1]
    · by_cases u2 : u = 2
      · simp only [if_neg u1, if_pos u2]
      · by_cases u3 : u = 3
        · simp only [if_neg u1, if_neg u2, if_pos u3]
        · by_cases c : v j - (r - fl r (v j) * v j) < r - fl r (v j) * v j
          · simp only [if_neg u1, if_neg u2, if_neg u3, if_pos c, Option.bind_some]
          · simp only [if_neg u1, if_neg u2, if_neg u3, if_neg c, Option.bind_some]
  · simp only [if_neg h1]
end GC
