/-! the actions, one by one -/
section OO
variable {d : Nat → Int32} {cc pc : Nat}
theorem o_kinds (a b c : Int32) : ∀ k, 94 ≤ k → (op_kinds d a b c).2 k = d k := fun k hk => by
  unfold op_kinds
  by_cases h : (0 ≤ a ∧ a ≤ 3) ∧ (100 ≤ b ∧ b ≤ 5000) ∧ 0 ≤ c ∧ c ≤ 50
  · obtain ⟨j, hj, rfl⟩ := kind_of h.1
    rw [if_pos h, nI_clamp (show j < 2 ^ 31 by omega)]
    show upd (upd d j b) (4 + j) c k = d k
    rw [pk_un (by omega), pk_un (by omega)]
  · rw [if_neg h]
theorem o_scales (a b : Int32) : ∀ k, 94 ≤ k → (op_scales d a b).2 k = d k := fun k hk => by
  unfold op_scales
  by_cases h : (1 ≤ a ∧ a ≤ 1000) ∧ 0 ≤ b ∧ b ≤ 2000
  · rw [if_pos h]
    show upd (upd (upd d 8 a) 9 b) 10 _ k = d k
    rw [pk_un (by omega), pk_un (by omega), pk_un (by omega)]
  · rw [if_neg h]
theorem o_sets {pl : Nat} (hp : pl < 94) (x lo hi : Int32) : ∀ k, 94 ≤ k → (op_sets d pl x lo hi).2 k = d k := fun k hk => by
  unfold op_sets
  by_cases h : lo ≤ x ∧ x ≤ hi
  · rw [if_pos h]
    show upd d pl x k = d k
    rw [pk_un (by omega)]
  · rw [if_neg h]
theorem o_comes (hc : cc ≤ 6) (p : Int32) : ∀ k, 94 ≤ k → (op_comes d cc p).2 k = d k := fun k hk => by
  unfold op_comes
  by_cases h : 0 ≤ p ∧ p ≤ 9999
  · rw [if_pos h]
    by_cases h6 : cc = 6
    · rw [if_pos h6]
    · rw [if_neg h6]
      show upd (upd (upd d (16 + 6 * cc) p) (16 + 6 * cc + 1) 0) 14 _ k = d k
      rw [pk_un (by omega), pk_un (by omega), pk_un (by omega)]
  · rw [if_neg h]
theorem o_adds (hc : pc ≤ 6) (a1 a2 a3 a4 a5 : Int32) : ∀ k, 94 ≤ k → (op_adds d pc a1 a2 a3 a4 a5).2 k = d k := fun k hk => by
  unfold op_adds
  by_cases h : (1 ≤ a1 ∧ a1 ≤ 5000) ∧ (1 ≤ a2 ∧ a2 ≤ 20000) ∧ (0 ≤ a3 ∧ a3 ≤ 99) ∧ (1 ≤ a4 ∧ a4 ≤ 100000) ∧ 1 ≤ a5 ∧ a5 ≤ 100000
  · rw [if_pos h]
    by_cases h6 : pc = 6
    · rw [if_pos h6]
    · rw [if_neg h6]
      simp (disch := omega) only [pk_un]
  · rw [if_neg h]
theorem o_price (hc : pc ≤ 6) (a p : Int32) : ∀ k, 94 ≤ k → (op_price d pc a p).2 k = d k := fun k hk => by
  unfold op_price
  by_cases h : isR a pc
  · obtain ⟨c, hcc, rfl⟩ := isR_of (by omega) h
    rw [if_pos h, nI_clamp (show c < 2 ^ 31 by omega)]
    exact o_sets (by omega) p 1 5000 k hk
  · rw [if_neg h]
theorem o_weighs (hc : cc ≤ 6) (c a n e : Int32) : ∀ k, 94 ≤ k → (op_weighs d cc c a n e).2 k = d k := fun k hk => by
  unfold op_weighs
  by_cases h : isR c cc ∧ (0 ≤ a ∧ a ≤ 3) ∧ (1 ≤ n ∧ n ≤ 500) ∧ -(n * d (4 + a.toNatClampNeg)) ≤ e ∧ e ≤ n * d (4 + a.toNatClampNeg)
  · obtain ⟨x, hx, rfl⟩ := isR_of (by omega) h.1
    rw [if_pos h]
    simp only [nI_clamp (show x < 2 ^ 31 by omega)]
    simp (disch := omega) only [pk_un]
  · rw [if_neg h]
theorem o_claims (hc : cc ≤ 6) (c n : Int32) : ∀ k, 94 ≤ k → (op_claims d cc c n).2 k = d k := fun k hk => by
  unfold op_claims
  by_cases h : isR c cc ∧ 0 ≤ n ∧ n ≤ 9999
  · obtain ⟨x, hx, rfl⟩ := isR_of (by omega) h.1
    rw [if_pos h]
    simp only [nI_clamp (show x < 2 ^ 31 by omega)]
    by_cases h2 : d (16 + 6 * x + 1) = 0 ∨ n = d (16 + 6 * x + 5)
    · rw [if_pos h2]
    · rw [if_neg h2]
      by_cases h3 : gl (upd d (16 + 6 * x + 1) 0) (d (16 + 6 * x + 4)) (d (16 + 6 * x + 2)).toNatClampNeg ≤ n ∧ n ≤ gg (upd d (16 + 6 * x + 1) 0) (d (16 + 6 * x + 4)) (d (16 + 6 * x + 2)).toNatClampNeg
      · rw [if_pos h3]
        by_cases h4 : ab0 (d (16 + 6 * x + 5) - d (16 + 6 * x + 3)) ≤ ab0 (n - d (16 + 6 * x + 3))
        · rw [if_pos h4]
          simp (disch := omega) only [pk_un]
        · rw [if_neg h4]
          simp (disch := omega) only [pk_un]
      · rw [if_neg h3]
        simp (disch := omega) only [pk_un]
  · rw [if_neg h]
theorem o_buys (hc : cc ≤ 6) (hp : pc ≤ 6) (c p n : Int32) : ∀ k, 94 ≤ k → (op_buys d cc pc c p n).2 k = d k := fun k hk => by
  unfold op_buys
  by_cases h : isR c cc ∧ isR p pc ∧ 1 ≤ n ∧ n ≤ 99
  · obtain ⟨x, hx, rfl⟩ := isR_of (by omega) h.1
    obtain ⟨y, hy, rfl⟩ := isR_of (by omega) h.2.1
    rw [if_pos h]
    simp only [nI_clamp (show x < 2 ^ 31 by omega), nI_clamp (show y < 2 ^ 31 by omega)]
    by_cases h2 : n * d (52 + 7 * y) ≤ d (16 + 6 * x)
    · rw [if_pos h2]
      by_cases h3 : n ≤ d (52 + 7 * y + 2)
      · rw [if_pos h3]
        simp (disch := omega) only [pk_un]
      · rw [if_neg h3]
    · rw [if_neg h2]
  · rw [if_neg h]
theorem o_leave (hc : cc ≤ 6) (c : Int32) : ∀ k, 94 ≤ k → (rop_leave d cc c).2 k = d k := fun k hk => by
  unfold rop_leave
  by_cases h : isR c cc
  · rw [if_pos h]
    show rg_leave _ _ _ k = d k
    unfold rg_leave
    rw [if_neg (by omega), pk_un (by omega)]
  · rw [if_neg h]
theorem o_remove (hc : pc ≤ 6) (c : Int32) : ∀ k, 94 ≤ k → (rop_remove d pc c).2 k = d k := fun k hk => by
  unfold rop_remove
  by_cases h : isR c pc
  · rw [if_pos h]
    show rg_remove _ _ _ k = d k
    unfold rg_remove
    rw [if_neg (by omega), pk_un (by omega)]
  · rw [if_neg h]
end OO
section JA
variable {B : Int} {L : hL} {X : hX}
theorem j_setKind (h : J B L X) (hB : 9999 ≤ B) (hB2 : B ≤ 1000000000) (a1 a2 a3 : Int32) : ∃ r X3 X4, f_X9_setKind L X 0 a1 a2 a3 = some (r, X3) ∧ f_X10_setKind L X3 470 a1 a2 a3 = some (r, X4) ∧ J (B + 1600) L X4 := by
  obtain ⟨E, V, n, l, hJ⟩ := h
  obtain ⟨cc, pc, hv⟩ := hJ.2.1.1.1
  have hn := hJ.1.1.1.2.2.1
  have hcc := hv.1.1
  have hpc := hv.1.2.1
  have ec := hv.1.2.2.2.1
  have ep := hv.1.2.2.2.2.1
  obtain ⟨X3, X4, s1, s2, s3⟩ := J_act (B' := B + 1600) hJ (by omega) (g := fun Y i => f_X0_changeKind L Y i a1 a2 a3) (a := op_kinds (V 5) a1 a2 a3) (b := op_kinds (X.1 471) a1 a2 a3) (fun Y π ρ hx => let ⟨Y', q1, q2⟩ := c_changeKind hx a1 a2 a3; ⟨Y', π, ρ, q1, q2⟩) (fun P Y r Y' c h hcl hp => fr_X0_changeKind h hcl hp) (m := fun Y => f_X10_setKind L Y 470 a1 a2 a3) (fun Y hM h4 hd => by have := r_setKind hM hn h4 a1 a2 a3; rw [hd] at this; exact this) (fun P Y r Y' h hcl hp => fr_X10_setKind h hcl hp) (SIM.mono (rv_kinds hv a1 a2 a3) (by omega)) (o_kinds a1 a2 a3)
  exact ⟨_, X3, X4, s1, s2, s3⟩
theorem j_setScale (h : J B L X) (hB : 9999 ≤ B) (hB2 : B ≤ 1000000000) (a1 a2 : Int32) : ∃ r X3 X4, f_X9_setScale L X 0 a1 a2 = some (r, X3) ∧ f_X10_setScale L X3 470 a1 a2 = some (r, X4) ∧ J (B + 1600) L X4 := by
  obtain ⟨E, V, n, l, hJ⟩ := h
  obtain ⟨cc, pc, hv⟩ := hJ.2.1.1.1
  have hn := hJ.1.1.1.2.2.1
  have hcc := hv.1.1
  have hpc := hv.1.2.1
  have ec := hv.1.2.2.2.1
  have ep := hv.1.2.2.2.2.1
  obtain ⟨X3, X4, s1, s2, s3⟩ := J_act (B' := B + 1600) hJ (by omega) (g := fun Y i => f_X0_changeScale L Y i a1 a2) (a := op_scales (V 5) a1 a2) (b := op_scales (X.1 471) a1 a2) (fun Y π ρ hx => let ⟨Y', q1, q2⟩ := c_changeScale hx a1 a2; ⟨Y', π, ρ, q1, q2⟩) (fun P Y r Y' c h hcl hp => fr_X0_changeScale h hcl hp) (m := fun Y => f_X10_setScale L Y 470 a1 a2) (fun Y hM h4 hd => by have := r_setScale hM hn h4 a1 a2; rw [hd] at this; exact this) (fun P Y r Y' h hcl hp => fr_X10_setScale h hcl hp) (SIM.mono (rv_scales hv a1 a2) (by omega)) (o_scales a1 a2)
  exact ⟨_, X3, X4, s1, s2, s3⟩
theorem j_come (h : J B L X) (hB : 9999 ≤ B) (hB2 : B ≤ 1000000000) (a1 : Int32) : ∃ r X3 X4, f_X9_come L X 0 a1 = some (r, X3) ∧ f_X10_come L X3 470 a1 = some (r, X4) ∧ J (B + 1600) L X4 := by
  obtain ⟨E, V, n, l, hJ⟩ := h
  obtain ⟨cc, pc, hv⟩ := hJ.2.1.1.1
  have hn := hJ.1.1.1.2.2.1
  have hcc := hv.1.1
  have hpc := hv.1.2.1
  have ec := hv.1.2.2.2.1
  have ep := hv.1.2.2.2.2.1
  obtain ⟨X3, X4, s1, s2, s3⟩ := J_act (B' := B + 1600) hJ (by omega) (g := fun Y i => f_X0_addCustomer L Y i a1) (a := op_comes (V 5) cc a1) (b := op_comes (X.1 471) cc a1) (fun Y π ρ hx => let ⟨Y', q1, q2⟩ := c_addCustomer hx hcc ec a1; ⟨Y', π, ρ, q1, q2⟩) (fun P Y r Y' c h hcl hp => fr_X0_addCustomer h hcl hp) (m := fun Y => f_X10_come L Y 470 a1) (fun Y hM h4 hd => by have := r_come hM hn h4 hcc (by rw [hd]; exact hv.w14) a1; rw [hd] at this; exact this) (fun P Y r Y' h hcl hp => fr_X10_come h hcl hp) (SIM.mono (rv_comes hv hB a1) (by omega)) (o_comes hcc a1)
  exact ⟨_, X3, X4, s1, s2, s3⟩
theorem j_leave (h : J B L X) (hB : 9999 ≤ B) (hB2 : B ≤ 1000000000) (a1 : Int32) : ∃ r X3 X4, f_X9_leave L X 0 a1 = some (r, X3) ∧ f_X10_leave L X3 470 a1 = some (r, X4) ∧ J (B + 1600) L X4 := by
  obtain ⟨E, V, n, l, hJ⟩ := h
  obtain ⟨cc, pc, hv⟩ := hJ.2.1.1.1
  have hn := hJ.1.1.1.2.2.1
  have hcc := hv.1.1
  have hpc := hv.1.2.1
  have ec := hv.1.2.2.2.1
  have ep := hv.1.2.2.2.2.1
  obtain ⟨X3, X4, s1, s2, s3⟩ := J_act (B' := B + 1600) hJ (by omega) (g := fun Y i => f_X0_dropCustomer L Y i a1) (a := op_drop (V 5) cc a1) (b := rop_leave (X.1 471) cc a1) (fun Y π ρ hx => let ⟨Y', π', q1, q2⟩ := c_dropCustomer hx hcc ec a1; ⟨Y', π', ρ, q1, q2⟩) (fun P Y r Y' c h hcl hp => fr_X0_dropCustomer h hcl hp) (m := fun Y => f_X10_leave L Y 470 a1) (fun Y hM h4 hd => by have := r_leave hM hn h4 hcc (by rw [hd]; exact hv.w14) a1; rw [hd] at this; exact this) (fun P Y r Y' h hcl hp => fr_X10_leave h hcl hp) (SIM.mono (rv_leave hv a1) (by omega)) (o_leave hcc a1)
  exact ⟨_, X3, X4, s1, s2, s3⟩
theorem j_weigh (h : J B L X) (hB : 9999 ≤ B) (hB2 : B ≤ 1000000000) (a1 a2 a3 a4 : Int32) : ∃ r X3 X4, f_X9_weigh L X 0 a1 a2 a3 a4 = some (r, X3) ∧ f_X10_weigh L X3 470 a1 a2 a3 a4 = some (r, X4) ∧ J (B + 1600) L X4 := by
  obtain ⟨E, V, n, l, hJ⟩ := h
  obtain ⟨cc, pc, hv⟩ := hJ.2.1.1.1
  have hn := hJ.1.1.1.2.2.1
  have hcc := hv.1.1
  have hpc := hv.1.2.1
  have ec := hv.1.2.2.2.1
  have ep := hv.1.2.2.2.2.1
  obtain ⟨X3, X4, s1, s2, s3⟩ := J_act (B' := B + 1600) hJ (by omega) (g := fun Y i => f_X0_weighBundle L Y i a1 a2 a3 a4) (a := op_weighs (V 5) cc a1 a2 a3 a4) (b := op_weighs (X.1 471) cc a1 a2 a3 a4) (fun Y π ρ hx => let ⟨Y', q1, q2⟩ := c_weighBundle hx hv.S hB2 hcc ec hv.C a1 a2 a3 a4; ⟨Y', π, ρ, q1, q2⟩) (fun P Y r Y' c h hcl hp => fr_X0_weighBundle h hcl hp) (m := fun Y => f_X10_weigh L Y 470 a1 a2 a3 a4) (fun Y hM h4 hd => by have := r_weigh hM hn h4 (by rw [hd]; exact hv.Sw) hcc (by rw [hd]; exact hv.w14) a1 a2 a3 a4; rw [hd] at this; exact this) (fun P Y r Y' h hcl hp => fr_X10_weigh h hcl hp) (SIM.mono (rv_weighs hv hB2 a1 a2 a3 a4) (by omega)) (o_weighs hcc a1 a2 a3 a4)
  exact ⟨_, X3, X4, s1, s2, s3⟩
theorem j_claim (h : J B L X) (hB : 9999 ≤ B) (hB2 : B ≤ 1000000000) (a1 a2 : Int32) : ∃ r X3 X4, f_X9_claim L X 0 a1 a2 = some (r, X3) ∧ f_X10_claim L X3 470 a1 a2 = some (r, X4) ∧ J (B + 1600) L X4 := by
  obtain ⟨E, V, n, l, hJ⟩ := h
  obtain ⟨cc, pc, hv⟩ := hJ.2.1.1.1
  have hn := hJ.1.1.1.2.2.1
  have hcc := hv.1.1
  have hpc := hv.1.2.1
  have ec := hv.1.2.2.2.1
  have ep := hv.1.2.2.2.2.1
  obtain ⟨X3, X4, s1, s2, s3⟩ := J_act (B' := B + 1600) hJ (by omega) (g := fun Y i => f_X0_settleClaim L Y i a1 a2) (a := op_claims (V 5) cc a1 a2) (b := op_claims (X.1 471) cc a1 a2) (fun Y π ρ hx => let ⟨Y', q1, q2⟩ := c_settleClaim hx hv.S hcc ec hv.C a1 a2; ⟨Y', π, ρ, q1, q2⟩) (fun P Y r Y' c h hcl hp => fr_X0_settleClaim h hcl hp) (m := fun Y => f_X10_claim L Y 470 a1 a2) (fun Y hM h4 hd => by have := r_claim hM hn h4 (by rw [hd]; exact hv.Sw) hB2 hcc (by rw [hd]; exact hv.w14) (by rw [hd]; exact hv.Cw) a1 a2; rw [hd] at this; exact this) (fun P Y r Y' h hcl hp => fr_X10_claim h hcl hp) (SIM.mono (rv_claims hv hB hB2 a1 a2) (by omega)) (o_claims hcc a1 a2)
  exact ⟨_, X3, X4, s1, s2, s3⟩
theorem j_addPrize (h : J B L X) (hB : 9999 ≤ B) (hB2 : B ≤ 1000000000) (a1 a2 a3 a4 a5 : Int32) : ∃ r X3 X4, f_X9_addPrize L X 0 a1 a2 a3 a4 a5 = some (r, X3) ∧ f_X10_addPrize L X3 470 a1 a2 a3 a4 a5 = some (r, X4) ∧ J (B + 1600) L X4 := by
  obtain ⟨E, V, n, l, hJ⟩ := h
  obtain ⟨cc, pc, hv⟩ := hJ.2.1.1.1
  have hn := hJ.1.1.1.2.2.1
  have hcc := hv.1.1
  have hpc := hv.1.2.1
  have ec := hv.1.2.2.2.1
  have ep := hv.1.2.2.2.2.1
  obtain ⟨X3, X4, s1, s2, s3⟩ := J_act (B' := B + 1600) hJ (by omega) (g := fun Y i => f_X0_placePrize L Y i a1 a2 a3 a4 a5) (a := op_adds (V 5) pc a1 a2 a3 a4 a5) (b := op_adds (X.1 471) pc a1 a2 a3 a4 a5) (fun Y π ρ hx => let ⟨Y', q1, q2⟩ := c_placePrize hx hpc ep a1 a2 a3 a4 a5; ⟨Y', π, ρ, q1, q2⟩) (fun P Y r Y' c h hcl hp => fr_X0_placePrize h hcl hp) (m := fun Y => f_X10_addPrize L Y 470 a1 a2 a3 a4 a5) (fun Y hM h4 hd => by have := r_addPrize hM hn h4 hpc (by rw [hd]; exact hv.w15) a1 a2 a3 a4 a5; rw [hd] at this; exact this) (fun P Y r Y' h hcl hp => fr_X10_addPrize h hcl hp) (SIM.mono (rv_adds hv a1 a2 a3 a4 a5) (by omega)) (o_adds hpc a1 a2 a3 a4 a5)
  exact ⟨_, X3, X4, s1, s2, s3⟩
theorem j_removePrize (h : J B L X) (hB : 9999 ≤ B) (hB2 : B ≤ 1000000000) (a1 : Int32) : ∃ r X3 X4, f_X9_removePrize L X 0 a1 = some (r, X3) ∧ f_X10_removePrize L X3 470 a1 = some (r, X4) ∧ J (B + 1600) L X4 := by
  obtain ⟨E, V, n, l, hJ⟩ := h
  obtain ⟨cc, pc, hv⟩ := hJ.2.1.1.1
  have hn := hJ.1.1.1.2.2.1
  have hcc := hv.1.1
  have hpc := hv.1.2.1
  have ec := hv.1.2.2.2.1
  have ep := hv.1.2.2.2.2.1
  obtain ⟨X3, X4, s1, s2, s3⟩ := J_act (B' := B + 1600) hJ (by omega) (g := fun Y i => f_X0_dropPrize L Y i a1) (a := op_remove (V 5) pc a1) (b := rop_remove (X.1 471) pc a1) (fun Y π ρ hx => let ⟨Y', ρ', q1, q2⟩ := c_dropPrize hx hpc ep a1; ⟨Y', π, ρ', q1, q2⟩) (fun P Y r Y' c h hcl hp => fr_X0_dropPrize h hcl hp) (m := fun Y => f_X10_removePrize L Y 470 a1) (fun Y hM h4 hd => by have := r_removePrize hM hn h4 hpc (by rw [hd]; exact hv.w15) a1; rw [hd] at this; exact this) (fun P Y r Y' h hcl hp => fr_X10_removePrize h hcl hp) (SIM.mono (rv_remove hv a1) (by omega)) (o_remove hpc a1)
  exact ⟨_, X3, X4, s1, s2, s3⟩
theorem j_setPrice (h : J B L X) (hB : 9999 ≤ B) (hB2 : B ≤ 1000000000) (a1 a2 : Int32) : ∃ r X3 X4, f_X9_setPrice L X 0 a1 a2 = some (r, X3) ∧ f_X10_setPrice L X3 470 a1 a2 = some (r, X4) ∧ J (B + 1600) L X4 := by
  obtain ⟨E, V, n, l, hJ⟩ := h
  obtain ⟨cc, pc, hv⟩ := hJ.2.1.1.1
  have hn := hJ.1.1.1.2.2.1
  have hcc := hv.1.1
  have hpc := hv.1.2.1
  have ec := hv.1.2.2.2.1
  have ep := hv.1.2.2.2.2.1
  obtain ⟨X3, X4, s1, s2, s3⟩ := J_act (B' := B + 1600) hJ (by omega) (g := fun Y i => f_X0_changePrice L Y i a1 a2) (a := op_price (V 5) pc a1 a2) (b := op_price (X.1 471) pc a1 a2) (fun Y π ρ hx => let ⟨Y', q1, q2⟩ := c_changePrice hx hpc ep a1 a2; ⟨Y', π, ρ, q1, q2⟩) (fun P Y r Y' c h hcl hp => fr_X0_changePrice h hcl hp) (m := fun Y => f_X10_setPrice L Y 470 a1 a2) (fun Y hM h4 hd => by have := r_setPrice hM hn h4 hpc (by rw [hd]; exact hv.w15) a1 a2; rw [hd] at this; exact this) (fun P Y r Y' h hcl hp => fr_X10_setPrice h hcl hp) (SIM.mono (rv_price hv a1 a2) (by omega)) (o_price hpc a1 a2)
  exact ⟨_, X3, X4, s1, s2, s3⟩
theorem j_buy (h : J B L X) (hB : 9999 ≤ B) (hB2 : B ≤ 1000000000) (a1 a2 a3 : Int32) : ∃ r X3 X4, f_X9_buy L X 0 a1 a2 a3 = some (r, X3) ∧ f_X10_buy L X3 470 a1 a2 a3 = some (r, X4) ∧ J (B + 1600) L X4 := by
  obtain ⟨E, V, n, l, hJ⟩ := h
  obtain ⟨cc, pc, hv⟩ := hJ.2.1.1.1
  have hn := hJ.1.1.1.2.2.1
  have hcc := hv.1.1
  have hpc := hv.1.2.1
  have ec := hv.1.2.2.2.1
  have ep := hv.1.2.2.2.2.1
  obtain ⟨X3, X4, s1, s2, s3⟩ := J_act (B' := B + 1600) hJ (by omega) (g := fun Y i => f_X0_sellPrize L Y i a1 a2 a3) (a := op_buys (V 5) cc pc a1 a2 a3) (b := op_buys (X.1 471) cc pc a1 a2 a3) (fun Y π ρ hx => let ⟨Y', q1, q2⟩ := c_sellPrize hx hcc hpc ec ep hv.P a1 a2 a3; ⟨Y', π, ρ, q1, q2⟩) (fun P Y r Y' c h hcl hp => fr_X0_sellPrize h hcl hp) (m := fun Y => f_X10_buy L Y 470 a1 a2 a3) (fun Y hM h4 hd => by have := r_buy hM hn h4 hcc hpc (by rw [hd]; exact hv.w14) (by rw [hd]; exact hv.w15) (by rw [hd]; exact hv.Pw) a1 a2 a3; rw [hd] at this; exact this) (fun P Y r Y' h hcl hp => fr_X10_buy h hcl hp) (SIM.mono (rv_buys hv (by omega) a1 a2 a3) (by omega)) (o_buys hcc hpc a1 a2 a3)
  exact ⟨_, X3, X4, s1, s2, s3⟩
theorem j_setBias (h : J B L X) (hB : 9999 ≤ B) (hB2 : B ≤ 1000000000) (a1 : Int32) : ∃ r X3 X4, f_X9_setBias L X 0 a1 = some (r, X3) ∧ f_X10_setBias L X3 470 a1 = some (r, X4) ∧ J (B + 1600) L X4 := by
  obtain ⟨E, V, n, l, hJ⟩ := h
  obtain ⟨cc, pc, hv⟩ := hJ.2.1.1.1
  have hn := hJ.1.1.1.2.2.1
  have hcc := hv.1.1
  have hpc := hv.1.2.1
  have ec := hv.1.2.2.2.1
  have ep := hv.1.2.2.2.2.1
  obtain ⟨X3, X4, s1, s2, s3⟩ := J_act (B' := B + 1600) hJ (by omega) (g := fun Y i => f_X0_changeBias L Y i a1) (a := op_sets (V 5) 10 a1 (-(V 5 9)) (V 5 9)) (b := op_sets (X.1 471) 10 a1 (-(X.1 471 9)) (X.1 471 9)) (fun Y π ρ hx => let ⟨Y', q1, q2⟩ := c_changeBias hx a1; ⟨Y', π, ρ, q1, q2⟩) (fun P Y r Y' c h hcl hp => fr_X0_changeBias h hcl hp) (m := fun Y => f_X10_setBias L Y 470 a1) (fun Y hM h4 hd => by have := r_setBias hM hn h4 a1; rw [hd] at this; exact this) (fun P Y r Y' h hcl hp => fr_X10_setBias h hcl hp) (SIM.mono (rv_bias hv a1) (by omega)) (o_sets (by omega) a1 _ _)
  exact ⟨_, X3, X4, s1, s2, s3⟩
theorem j_setRule (h : J B L X) (hB : 9999 ≤ B) (hB2 : B ≤ 1000000000) (a1 : Int32) : ∃ r X3 X4, f_X9_setRule L X 0 a1 = some (r, X3) ∧ f_X10_setRule L X3 470 a1 = some (r, X4) ∧ J (B + 1600) L X4 := by
  obtain ⟨E, V, n, l, hJ⟩ := h
  obtain ⟨cc, pc, hv⟩ := hJ.2.1.1.1
  have hn := hJ.1.1.1.2.2.1
  have hcc := hv.1.1
  have hpc := hv.1.2.1
  have ec := hv.1.2.2.2.1
  have ep := hv.1.2.2.2.2.1
  obtain ⟨X3, X4, s1, s2, s3⟩ := J_act (B' := B + 1600) hJ (by omega) (g := fun Y i => f_X0_changeRule L Y i a1) (a := op_sets (V 5) 11 a1 0 3) (b := op_sets (X.1 471) 11 a1 0 3) (fun Y π ρ hx => let ⟨Y', q1, q2⟩ := c_changeRule hx a1; ⟨Y', π, ρ, q1, q2⟩) (fun P Y r Y' c h hcl hp => fr_X0_changeRule h hcl hp) (m := fun Y => f_X10_setRule L Y 470 a1) (fun Y hM h4 hd => by have := r_setRule hM hn h4 a1; rw [hd] at this; exact this) (fun P Y r Y' h hcl hp => fr_X10_setRule h hcl hp) (SIM.mono (rv_rule hv a1) (by omega)) (o_sets (by omega) a1 _ _)
  exact ⟨_, X3, X4, s1, s2, s3⟩
theorem j_setFee (h : J B L X) (hB : 9999 ≤ B) (hB2 : B ≤ 1000000000) (a1 : Int32) : ∃ r X3 X4, f_X9_setFee L X 0 a1 = some (r, X3) ∧ f_X10_setFee L X3 470 a1 = some (r, X4) ∧ J (B + 1600) L X4 := by
  obtain ⟨E, V, n, l, hJ⟩ := h
  obtain ⟨cc, pc, hv⟩ := hJ.2.1.1.1
  have hn := hJ.1.1.1.2.2.1
  have hcc := hv.1.1
  have hpc := hv.1.2.1
  have ec := hv.1.2.2.2.1
  have ep := hv.1.2.2.2.2.1
  obtain ⟨X3, X4, s1, s2, s3⟩ := J_act (B' := B + 1600) hJ (by omega) (g := fun Y i => f_X0_changeFee L Y i a1) (a := op_sets (V 5) 12 a1 0 100) (b := op_sets (X.1 471) 12 a1 0 100) (fun Y π ρ hx => let ⟨Y', q1, q2⟩ := c_changeFee hx a1; ⟨Y', π, ρ, q1, q2⟩) (fun P Y r Y' c h hcl hp => fr_X0_changeFee h hcl hp) (m := fun Y => f_X10_setFee L Y 470 a1) (fun Y hM h4 hd => by have := r_setFee hM hn h4 a1; rw [hd] at this; exact this) (fun P Y r Y' h hcl hp => fr_X10_setFee h hcl hp) (SIM.mono (rv_fee hv a1) (by omega)) (o_sets (by omega) a1 _ _)
  exact ⟨_, X3, X4, s1, s2, s3⟩
end JA
