/-! weighings and claims -/
/-- what is said of a customer's numbers -/
def RgC (B : Int) (v : Nat → Int32) (c : Nat) : Prop := (0 ≤ (v (16 + 6 * c)).toInt ∧ (v (16 + 6 * c)).toInt ≤ B) ∧ (v (16 + 6 * c + 1) = 0 ∨ v (16 + 6 * c + 1) = 1 ∧ (∃ j, j < 4 ∧ v (16 + 6 * c + 2) = nI j) ∧ (1 ≤ (v (16 + 6 * c + 3)).toInt ∧ (v (16 + 6 * c + 3)).toInt ≤ 500) ∧ rdg (v (16 + 6 * c + 4)) ∧ 0 ≤ (v (16 + 6 * c + 5)).toInt ∧ (v (16 + 6 * c + 5)).toInt ≤ 1600)
def wg_r (v : Nat → Int32) (j : Nat) (n d : Int32) : Int32 := rb (v 8) ((n * v j + d) + v 10)
def op_weighs (v : Nat → Int32) (cc : Nat) (c k n d : Int32) : Int32 × (Nat → Int32) :=
  if isR c cc ∧ (0 ≤ k ∧ k ≤ 3) ∧ (1 ≤ n ∧ n ≤ 500) ∧ -(n * v (4 + k.toNatClampNeg)) ≤ d ∧ d ≤ n * v (4 + k.toNatClampNeg) then
    (let ci := 16 + 6 * c.toNatClampNeg
     let r := wg_r v k.toNatClampNeg n d
     let g := gs v r k.toNatClampNeg (v 11)
     (g, upd (upd (upd (upd (upd (upd (upd v ci (v ci + g)) (ci + 1) 1) (ci + 2) k) (ci + 3) n) (ci + 4) r) (ci + 5) g) 13 (v 13 + (g - n))))
  else (-100001, v)
theorem dv_i {v : Nat → Int32} (h : RgS v) {j : Nat} (hj : j < 4) {n d : Int32} (hn : 1 ≤ n ∧ n ≤ 500) (hd : -(n * v (4 + j)) ≤ d ∧ d ≤ n * v (4 + j)) : (1 ≤ n.toInt ∧ n.toInt ≤ 500) ∧ -(n.toInt * (v (4 + j)).toInt) ≤ d.toInt ∧ d.toInt ≤ n.toInt * (v (4 + j)).toInt := by
  have h1 := i_le.mp hn.1
  have h2 := i_le.mp hn.2
  have e5 : (500 : Int32).toInt = 500 := by decide
  rw [z1i] at h1
  rw [e5] at h2
  have hk := h.2.2.2.2.2 j hj
  have b3 : n.toInt * (v (4 + j)).toInt ≤ 500 * (v (4 + j)).toInt := Int.mul_le_mul_of_nonneg_right h2 (by omega)
  have b4 : 0 ≤ n.toInt * (v (4 + j)).toInt := Int.mul_nonneg (by omega) (by omega)
  have e1 : (n * v (4 + j)).toInt = n.toInt * (v (4 + j)).toInt := i_mul (by omega) (by omega)
  have e2 := i_neg (a := n * v (4 + j)) (by omega)
  have h3 := i_le.mp hd.1
  have h4 := i_le.mp hd.2
  exact ⟨⟨h1, h2⟩, by omega, by omega⟩
theorem pos_if {x : Int32} (h : 0 ≤ x.toInt) : (if 0 < x then x else 0) = x := by
  by_cases c : 0 < x
  · rw [if_pos c]
  · rw [if_neg c]
    have : ¬ (0 : Int32).toInt < x.toInt := fun q => c (i_lt.mpr q)
    rw [z0i] at this
    exact Int32.toInt_inj.mp (by rw [z0i]; omega)
section WG
variable {L : hL} {X : hX} {b : Nat} {π ρ : Nat → Nat} {v : Nat → Int32}
theorem c_weighBundle (h : CX L X b π ρ v) (hS : RgS v) {cc : Nat} {B : Int} (hB : B ≤ 1000000000) (hcc : cc ≤ 6) (ec : v 14 = nI cc) (hC : ∀ c, c < cc → RgC B v c) (c k n d : Int32) : ∃ X', f_X0_weighBundle L X b c k n d = some ((op_weighs v cc c k n d).1, X') ∧ CX L X' b π ρ (op_weighs v cc c k n d).2 := by
  have t0 := h.1.1.1
  have t2 := h.1.1.2.2.2.1
  have r1 := h.2.1.1.2.1
  unfold f_X0_weighBundle op_weighs
  rw [c_customerAt h hcc ec]
  by_cases h1 : isR c cc
  · obtain ⟨ci, hci, rfl⟩ := isR_of (by omega) h1
    have e1 := nI_clamp (show ci < 2 ^ 31 by omega)
    have hc6 : ci < 6 := by omega
    simp only [if_pos h1, Option.bind_some, if_pos t0, Option.elim_some, e1, c_kindAt h]
    by_cases h2 : 0 ≤ k ∧ k ≤ 3
    · obtain ⟨j, hj, rfl⟩ := kind_of h2
      have ej := nI_clamp (show j < 2 ^ 31 by omega)
      simp only [if_pos h2, Option.elim_some, ej, s_within, Option.bind_some]
      by_cases h3 : 1 ≤ n ∧ n ≤ 500
      · simp only [if_pos h3, i10, if_false, if_pos (kt h hj), h.ks hj]
        by_cases h4 : -(n * v (4 + j)) ≤ d ∧ d ≤ n * v (4 + j)
        · obtain ⟨g1, g2⟩ := dv_i hS hj h3 h4
          obtain ⟨q1, q2, q3⟩ := weigh_ok hS hj g1 g2
          have g3 := gs_ok hS q1 hj q2 q3 (v 11)
          simp only [if_pos h4, i10, if_false, r1, Option.bind_some, if_pos t2, h.kw hj, h.sc (show 0 < 3 by omega), h.sc (show 2 < 3 by omega), h.o6, c_readingAt (show 1 ≤ (v (8 + 0)).toInt ∧ (v (8 + 0)).toInt ≤ 1000 from hS.1), if_pos (And.intro h1 (And.intro h2 (And.intro h3 h4)))]
          rw [c_guessFrom h hS hj, Option.bind_some]
          have ew : rb (v (8 + 0)) (n * v j + d + v (8 + 2)) = wg_r v j n d := rfl
          rw [ew]
          have g3 : 0 ≤ (gs v (wg_r v j n d) j (v 11)).toInt ∧ (gs v (wg_r v j n d) j (v 11)).toInt ≤ 1600 := g3
          generalize gs v (wg_r v j n d) j (v 11) = g at g3 ⊢
          generalize wg_r v j n d = r
          have hp := (hC ci hci).1
          have e0 : X.1 (b + 9 + π ci) 0 = v (16 + 6 * ci) := h.cu hc6 (show 0 < 6 by omega)
          have es : (v (16 + 6 * ci) + g).toInt = (v (16 + 6 * ci)).toInt + g.toInt := i_add (by omega) (by omega)
          unfold f_X1_gain f_X1_keep
          rw [if_pos (ct h hc6), e0, pos_if (by omega)]
          simp only [Option.bind_some, if_pos (ct h hc6)]
          have z := (((((h.wcu (j := 0) hc6 (by omega) (v (16 + 6 * ci) + g)).wcu (j := 1) hc6 (by omega) 1).wcu (j := 2) hc6 (by omega) (nI j)).wcu (j := 3) hc6 (by omega) n).wcu (j := 4) hc6 (by omega) r).wcu (j := 5) hc6 (by omega) g
          have z8 := z.o8
          have e8 : upd (upd (upd (upd (upd (upd v (16 + 6 * ci + 0) (v (16 + 6 * ci) + g)) (16 + 6 * ci + 1) 1) (16 + 6 * ci + 2) (nI j)) (16 + 6 * ci + 3) n) (16 + 6 * ci + 4) r) (16 + 6 * ci + 5) g 13 = v 13 := by
            simp (disch := omega) only [pk_un]
          rw [z8, e8]
          exact ⟨_, rfl, z.w8 _⟩
        · simp only [if_neg h4, i01, if_true]
          rw [if_neg (fun q => h4 q.2.2.2)]
          exact ⟨_, rfl, h⟩
      · simp only [if_neg h3, i01, if_true]
        rw [if_neg (fun q => h3 q.2.2.1)]
        exact ⟨_, rfl, h⟩
    · simp only [if_neg h2, Option.elim_none]
      rw [if_neg (fun q => h2 q.2.1)]
      exact ⟨_, rfl, h⟩
  · simp only [if_neg h1, Option.bind_some, if_pos t0, Option.elim_none, c_kindAt h]
    rw [if_neg (show ¬ (isR c cc ∧ (0 ≤ k ∧ k ≤ 3) ∧ (1 ≤ n ∧ n ≤ 500) ∧ -(n * v (4 + k.toNatClampNeg)) ≤ d ∧ d ≤ n * v (4 + k.toNatClampNeg)) from fun q => h1 q.1)]
    by_cases h2 : 0 ≤ k ∧ k ≤ 3
    · simp only [if_pos h2, Option.elim_some]
      exact ⟨_, rfl, h⟩
    · simp only [if_neg h2, Option.elim_none]
      exact ⟨_, rfl, h⟩
end WG
theorem nmul {a b : Int32} : -a * b = -(a * b) := Int32.neg_mul a b
