/-! the actions, one by one -/
section OO
variable {d : Nat → Int32} {cc pc : Nat}
theorem o_kinds (a b c : Int32) : ∀ k, 94 ≤ k → (op_kinds d a b c).2 k = d k := fun k hk => by
  unfold op_kinds
  by_cases h : (0 ≤ a ∧ a ≤ 3) ∧ (100 ≤ b ∧ b ≤ 5000) ∧ 0 ≤ c ∧ c ≤ 50
  · obtain ⟨j, hj, rfl⟩ := kind_of h.1
    rw [if_pos h, nI_clamp (show j < 2 ^ 31 by omega)]
    show upd (upd d j b) (4 + j) c k = d k
    rw [pk_un (by omega), pk_un (by omega)]
  · rw [if_neg h]
theorem o_scales (a b : Int32) : ∀ k, 94 ≤ k → (op_scales d a b).2 k = d k := fun k hk => by
  unfold op_scales
  by_cases h : (1 ≤ a ∧ a ≤ 1000) ∧ 0 ≤ b ∧ b ≤ 2000
  · rw [if_pos h]
    show upd (upd (upd d 8 a) 9 b) 10 _ k = d k
    rw [pk_un (by omega), pk_un (by omega), pk_un (by omega)]
  · rw [if_neg h]
theorem o_sets {pl : Nat} (hp : pl < 94) (x lo hi : Int32) : ∀ k, 94 ≤ k → (op_sets d pl x lo hi).2 k = d k := fun k hk => by
  unfold op_sets
  by_cases h : lo ≤ x ∧ x ≤ hi
  · rw [if_pos h]
    show upd d pl x k = d k
    rw [pk_un (by omega)]
  · rw [if_neg h]
theorem o_comes (hc : cc ≤ 6) (p : Int32) : ∀ k, 94 ≤ k → (op_comes d cc p).2 k = d k := fun k hk => by
  unfold op_comes
  by_cases h : 0 ≤ p ∧ p ≤ 9999
  · rw [if_pos h]
    by_cases h6 : cc = 6
    · rw [if_pos h6]
    · rw [if_neg h6]
      show upd (upd (upd d (16 + 6 * cc) p) (16 + 6 * cc + 1) 0) 14 _ k = d k
      rw [pk_un (by omega), pk_un (by omega), pk_un (by omega)]
  · rw [if_neg h]
theorem o_adds (hc : pc ≤ 6) (a1 a2 a3 a4 a5 : Int32) : ∀ k, 94 ≤ k → (op_adds d pc a1 a2 a3 a4 a5).2 k = d k := fun k hk => by
  unfold op_adds
  by_cases h : (1 ≤ a1 ∧ a1 ≤ 5000) ∧ (1 ≤ a2 ∧ a2 ≤ 20000) ∧ (0 ≤ a3 ∧ a3 ≤ 99) ∧ (1 ≤ a4 ∧ a4 ≤ 100000) ∧ 1 ≤ a5 ∧ a5 ≤ 100000
  · rw [if_pos h]
    by_cases h6 : pc = 6
    · rw [if_pos h6]
    · rw [if_neg h6]
      simp (disch := omega) only [pk_un]
  · rw [if_neg h]
theorem o_price (hc : pc ≤ 6) (a p : Int32) : ∀ k, 94 ≤ k → (op_price d pc a p).2 k = d k := fun k hk => by
  unfold op_price
  by_cases h : isR a pc
  · obtain ⟨c, hcc, rfl⟩ := isR_of (by omega) h
    rw [if_pos h, nI_clamp (show c < 2 ^ 31 by omega)]
    exact o_sets (by omega) p 1 5000 k hk
  · rw [if_neg h]
theorem o_weighs (hc : cc ≤ 6) (c a n e : Int32) : ∀ k, 94 ≤ k → (op_weighs d cc c a n e).2 k = d k := fun k hk => by
  unfold op_weighs
  by_cases h : isR c cc ∧ (0 ≤ a ∧ a ≤ 3) ∧ (1 ≤ n ∧ n ≤ 500) ∧ -(n * d (4 + a.toNatClampNeg)) ≤ e ∧ e ≤ n * d (4 + a.toNatClampNeg)
  · obtain ⟨x, hx, rfl⟩ := isR_of (by omega) h.1
    rw [if_pos h]
    simp only [nI_clamp (show x < 2 ^ 31 by omega)]
    simp (disch := omega) only [pk_un]
  · rw [if_neg h]
theorem o_claims (hc : cc ≤ 6) (c n : Int32) : ∀ k, 94 ≤ k → (op_claims d cc c n).2 k = d k := fun k hk => by
  unfold op_claims
  by_cases h : isR c cc ∧ 0 ≤ n ∧ n ≤ 9999
  · obtain ⟨x, hx, rfl⟩ := isR_of (by omega) h.1
    rw [if_pos h]
    simp only [nI_clamp (show x < 2 ^ 31 by omega)]
    by_cases h2 : d (16 + 6 * x + 1) = 0 ∨ n = d (16 + 6 * x + 5)
    · rw [if_pos h2]
    · rw [if_neg h2]
      by_cases h3 : gl (upd d (16 + 6 * x + 1) 0) (d (16 + 6 * x + 4)) (d (16 + 6 * x + 2)).toNatClampNeg ≤ n ∧ n ≤ gg (upd d (16 + 6 * x + 1) 0) (d (16 + 6 * x + 4)) (d (16 + 6 * x + 2)).toNatClampNeg
      · rw [if_pos h3]
        by_cases h4 : ab0 (d (16 + 6 * x + 5) - d (16 + 6 * x + 3)) ≤ ab0 (n - d (16 + 6 * x + 3))
        · rw [if_pos h4]
          simp (disch := omega) only [pk_un]
        · rw [if_neg h4]
          simp (disch := omega) only [pk_un]
      · rw [if_neg h3]
        simp (disch := omega) only [pk_un]
  · rw [if_neg h]
theorem o_buys (hc : cc ≤ 6) (hp : pc ≤ 6) (c p n : Int32) : ∀ k, 94 ≤ k → (op_buys d cc pc c p n).2 k = d k := fun k hk => by
  unfold op_buys
  by_cases h : isR c cc ∧ isR p pc ∧ 1 ≤ n ∧ n ≤ 99
  · obtain ⟨x, hx, rfl⟩ := isR_of (by omega) h.1
    obtain ⟨y, hy, rfl⟩ := isR_of (by omega) h.2.1
    rw [if_pos h]
    simp only [nI_clamp (show x < 2 ^ 31 by omega), nI_clamp (show y < 2 ^ 31 by omega)]
    by_cases h2 : n * d (52 + 7 * y) ≤ d (16 + 6 * x)
    · rw [if_pos h2]
      by_cases h3 : n ≤ d (52 + 7 * y + 2)
      · rw [if_pos h3]
        simp (disch := omega) only [pk_un]
      · rw [if_neg h3]
    · rw [if_neg h2]
  · rw [if_neg h]
theorem o_leave (hc : cc ≤ 6) (c : Int32) : ∀ k, 94 ≤ k → (rop_leave d cc c).2 k = d k := fun k hk => by
  unfold rop_leave
  by_cases h : isR c cc
  · rw [if_pos h]
    show rg_leave _ _ _ k = d k
    unfold rg_leave
    rw [if_neg (by omega), pk_un (by omega)]
  · rw [if_neg h]
theorem o_remove (hc : pc ≤ 6) (c : Int32) : ∀ k, 94 ≤ k → (rop_remove d pc c).2 k = d k := fun k hk => by
  unfold rop_remove
  by_cases h : isR c pc
  · rw [if_pos h]
    show rg_remove _ _ _ k = d k
    unfold rg_remove
    rw [if_neg (by omega), pk_un (by omega)]
  · rw [if_neg h]
end OO
section JA
variable {B : Int} {L : hL} {X : hX}
end JA
