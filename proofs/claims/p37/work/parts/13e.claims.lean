def ab0 (x : Int32) : Int32 := if 0 ≤ x then x else 0 - x
def mx0 (x : Int32) : Int32 := if 0 < x then x else 0
def op_claims (v : Nat → Int32) (cc : Nat) (c n : Int32) : Int32 × (Nat → Int32) :=
  if isR c cc ∧ 0 ≤ n ∧ n ≤ 9999 then
    (let ci := 16 + 6 * c.toNatClampNeg
     if v (ci + 1) = 0 ∨ n = v (ci + 5) then (-100002, v) else
     (let v1 := upd v (ci + 1) 0
      if gl v1 (v (ci + 4)) (v (ci + 2)).toNatClampNeg ≤ n ∧ n ≤ gg v1 (v (ci + 4)) (v (ci + 2)).toNatClampNeg then
       (let v2 := upd (upd v1 ci (mx0 (v ci + (v (ci + 3) - v (ci + 5))))) 13 (v 13 + (v (ci + 3) - v (ci + 5)))
        if ab0 (v (ci + 5) - v (ci + 3)) ≤ ab0 (n - v (ci + 3)) then (2, upd v2 ci (mx0 (mx0 (v ci + (v (ci + 3) - v (ci + 5))) + -(v 12)))) else (1, v2))
      else (0, v1)))
  else (-100001, v)
theorem RgS.up {v : Nat → Int32} (h : RgS v) {i : Nat} (hi : 13 ≤ i) (x : Int32) : RgS (upd v i x) := by
  unfold RgS at h ⊢
  rw [pk_un (show 8 ≠ i by omega), pk_un (show 9 ≠ i by omega), pk_un (show 10 ≠ i by omega), pk_un (show 11 ≠ i by omega), pk_un (show 12 ≠ i by omega)]
  refine ⟨h.1, h.2.1, h.2.2.1, h.2.2.2.1, h.2.2.2.2.1, fun j hj => ?_⟩
  rw [pk_un (show j ≠ i by omega), pk_un (show 4 + j ≠ i by omega)]
  exact h.2.2.2.2.2 j hj
section CL
variable {L : hL} {X : hX} {b : Nat} {π ρ : Nat → Nat} {v : Nat → Int32}
theorem c_allows (h : CX L X b π ρ v) (hS : RgS v) {j : Nat} (hj : j < 4) (r n : Int32) : f_X0_allows L X b r (b + 5 + j) n = some (if gl v r j ≤ n ∧ n ≤ gg v r j then 1 else 0) := by
  have t0 := h.1.1.1
  have t2 := h.1.1.2.2.2.1
  have r1 := h.2.1.1.2.1
  unfold f_X0_allows
  simp only [if_pos t0, r1, Option.bind_some, if_pos t2, c_leastCount h hS hj, c_greatestCount h hS hj, s_within]
  by_cases c : gl v r j ≤ n ∧ n ≤ gg v r j
  · simp only [if_pos c, i1or, or_true, if_true]
  · simp only [if_neg c, i0or, true_or, if_true]
theorem c_settleClaim (h : CX L X b π ρ v) (hS : RgS v) {cc : Nat} {B : Int} (hcc : cc ≤ 6) (ec : v 14 = nI cc) (hC : ∀ c, c < cc → RgC B v c) (c n : Int32) : ∃ X', f_X0_settleClaim L X b c n = some ((op_claims v cc c n).1, X') ∧ CX L X' b π ρ (op_claims v cc c n).2 := by
  have t0 := h.1.1.1
  unfold f_X0_settleClaim op_claims
  rw [c_customerAt h hcc ec]
  by_cases h1 : isR c cc
  · obtain ⟨ci, hci, rfl⟩ := isR_of (by omega) h1
    have e1 := nI_clamp (show ci < 2 ^ 31 by omega)
    have hc6 : ci < 6 := by omega
    have tc := ct h hc6
    simp only [if_pos h1, Option.bind_some, if_pos t0, Option.elim_some, e1, s_within]
    by_cases h2 : 0 ≤ n ∧ n ≤ 9999
    · simp only [if_pos h2, i10, if_false, if_pos tc, h.cu hc6 (show 1 < 6 by omega), h.cu hc6 (show 5 < 6 by omega), if_pos (And.intro h1 h2)]
      by_cases h3 : v (16 + 6 * ci + 1) = 0
      · simp only [if_pos h3, if_pos (show v (16 + 6 * ci + 1) = 0 ∨ n = v (16 + 6 * ci + 5) from Or.inl h3)]
        exact ⟨_, rfl, h⟩
      · by_cases h4 : n = v (16 + 6 * ci + 5)
        · simp only [if_neg h3, if_pos h4, if_pos (show v (16 + 6 * ci + 1) = 0 ∨ n = v (16 + 6 * ci + 5) from Or.inr h4)]
          exact ⟨_, rfl, h⟩
        · have z := h.wcu (j := 1) hc6 (by omega) 0
          have ez : ∀ i, i < 6 → i ≠ 1 → upd v (16 + 6 * ci + 1) 0 (16 + 6 * ci + i) = v (16 + 6 * ci + i) := fun i _ hi => pk_un (by omega)
          have zr : ∀ i, i < 6 → i ≠ 1 → (smi X (b + 9 + π ci) 1 0).1 (b + 9 + π ci) i = v (16 + 6 * ci + i) := fun i hi h1 => (z.cu hc6 hi).trans (ez i hi h1)
          obtain ⟨-, hk | ⟨-, ⟨j, hj, ek⟩, -⟩⟩ := hC ci hci
          · exact absurd hk h3
          · have ej := nI_clamp (show j < 2 ^ 31 by omega)
            have zS := hS.up (i := 16 + 6 * ci + 1) (by omega) 0
            simp only [if_neg h3, if_neg h4, if_neg (show ¬ (v (16 + 6 * ci + 1) = 0 ∨ n = v (16 + 6 * ci + 5)) from fun q => q.elim h3 h4), c_kindAt z, zr 2 (by omega) (by omega), zr 4 (by omega) (by omega), ek, ej]
            rw [if_pos (show 0 ≤ nI j ∧ nI j ≤ 3 from ⟨nI_pos' (by omega), by rw [i_le, nI_toInt (by omega), show (3 : Int32).toInt = 3 by decide]; omega⟩)]
            simp only [Option.bind_some, Option.elim_some, c_allows z zS hj]
            by_cases h5 : gl (upd v (16 + 6 * ci + 1) 0) (v (16 + 6 * ci + 4)) j ≤ n ∧ n ≤ gg (upd v (16 + 6 * ci + 1) 0) (v (16 + 6 * ci + 4)) j
            · simp only [if_pos h5, i10, if_false]
              unfold f_X1_gain
              simp only [if_pos tc, Option.bind_some]
              have er0 := zr 0 (by omega) (by omega)
              have er3 := zr 3 (by omega) (by omega)
              have er5 := zr 5 (by omega) (by omega)
              have z2 := z.wcu (j := 0) hc6 (by omega) (mx0 (v (16 + 6 * ci) + (v (16 + 6 * ci + 3) - v (16 + 6 * ci + 5))))
              have y3 := z2.cu hc6 (show 3 < 6 by omega)
              have y5 := z2.cu hc6 (show 5 < 6 by omega)
              have y8 := z2.o8
              simp (disch := omega) only [pk_un] at y3 y5 y8
              have z3 := z2.w8 (v 13 + (v (16 + 6 * ci + 3) - v (16 + 6 * ci + 5)))
              have x0 := z3.cu hc6 (show 0 < 6 by omega)
              have x3 := z3.cu hc6 (show 3 < 6 by omega)
              have x5 := z3.cu hc6 (show 5 < 6 by omega)
              have x7 := z3.o7
              simp (disch := omega) only [pk_un, pk_us] at x0 x3 x5 x7
              have em : (if 0 < v (16 + 6 * ci + 0) + (v (16 + 6 * ci + 3) - v (16 + 6 * ci + 5)) then v (16 + 6 * ci + 0) + (v (16 + 6 * ci + 3) - v (16 + 6 * ci + 5)) else 0) = mx0 (v (16 + 6 * ci) + (v (16 + 6 * ci + 3) - v (16 + 6 * ci + 5))) := rfl
              simp only [er0, er3, er5, em, y3, y5, y8]
              unfold f_X1_isNearer
              simp only [if_pos tc, x3, x5, x0, x7]
              by_cases h6 : ab0 (v (16 + 6 * ci + 5) - v (16 + 6 * ci + 3)) ≤ ab0 (n - v (16 + 6 * ci + 3))
              · simp only [if_pos h6]
                unfold ab0 at h6
                simp only [if_pos h6, Option.bind_some, i01, if_true]
                exact ⟨_, rfl, z3.wcu (j := 0) hc6 (by omega) _⟩
              · simp only [if_neg h6]
                unfold ab0 at h6
                simp only [if_neg h6, Option.bind_some, i10, if_false]
                exact ⟨_, rfl, z3⟩
            · simp only [if_neg h5, i01, if_true]
              exact ⟨_, rfl, z⟩
    · simp only [if_neg h2, i01, if_true]
      rw [if_neg (fun q => h2 q.2)]
      exact ⟨_, rfl, h⟩
  · simp only [if_neg h1, Option.bind_some, if_pos t0, Option.elim_none]
    rw [if_neg (fun q => h1 q.1)]
    exact ⟨_, rfl, h⟩
end CL
theorem mx0_a {x : Int32} : (if 0 ≤ x then x else 0) = mx0 x := by
  unfold mx0
  by_cases c : 0 < x
  · rw [if_pos c, if_pos (i_le.mpr (by have := i_lt.mp c; omega))]
  · rw [if_neg c]
    by_cases d : 0 ≤ x
    · rw [if_pos d]
      have d' := i_le.mp d
      have c' : ¬ (0 : Int32).toInt < x.toInt := fun q => c (i_lt.mpr q)
      exact Int32.toInt_inj.mp (by omega)
    · rw [if_neg d]
theorem mx0_b {x f : Int32} (hx : 0 ≤ x.toInt) (hf : 0 ≤ f.toInt) : (if f ≤ x then x - f else 0) = mx0 (x + -f) := by
  have rx := i_rng x
  have rf := i_rng f
  have e1 := i_neg (a := f) (by omega)
  have e2 : (x + -f).toInt = x.toInt - f.toInt := by rw [i_add (by omega) (by omega), e1]; omega
  have e3 := i_sub (a := x) (b := f) (by omega) (by omega)
  unfold mx0
  by_cases c : f ≤ x
  · have c' := i_le.mp c
    rw [if_pos c]
    by_cases d : 0 < x + -f
    · rw [if_pos d]; exact Int32.toInt_inj.mp (by omega)
    · have d' : ¬ (0 : Int32).toInt < (x + -f).toInt := fun q => d (i_lt.mpr q)
      rw [z0i] at d'
      rw [if_neg d]; exact Int32.toInt_inj.mp (by rw [z0i]; omega)
  · have c' : ¬ f.toInt ≤ x.toInt := fun q => c (i_le.mpr q)
    rw [if_neg c, if_neg (fun q => by rw [i_lt, z0i] at q; omega)]
theorem mx0_0 {x : Int32} : 0 ≤ (mx0 x).toInt := by
  unfold mx0
  by_cases c : 0 < x
  · rw [if_pos c]; have := i_lt.mp c; rw [z0i] at this; omega
  · rw [if_neg c, z0i]; omega
