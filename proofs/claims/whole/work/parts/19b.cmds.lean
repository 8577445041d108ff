/-! the commands of a program, on both sides -/
section CM
variable {B : Int} {L : hL} {b n m : Nat} {v w g : Nat → Int32}
def CMDC (L : hL) (b : Nat) (v g : Nat → Int32) (i : Nat) (A : Int32 × (Nat → Int32)) : Prop := ∀ X, CXe L X b v → X.2 465 1 = some 467 → (∀ j, j < nb i → X.1 467 j = g j) → Cl (fun k => b ≤ k ∧ k < b + 21) X → ∃ X', f_X6_perform L X 465 (nI i) b = some (A.1, X') ∧ CXe L X' b A.2 ∧ FR (fun k => b ≤ k ∧ k < b + 21) X X'
def CMDM (L : hL) (w g : Nat → Int32) (i : Nat) (A : Int32 × (Nat → Int32)) : Prop := ∀ Y, MOK L Y → Y.1 471 = w → (∀ j, j < nb i → Y.1 477 j = g j) → ∃ Y', f_X10_does L Y 470 (wh i) = some (A.1, Y') ∧ SC Y Y' ∧ Y'.1 471 = A.2
theorem cmd_0 (hv : RV B v w n m) (hB : 9999 ≤ B) (hB2 : B ≤ 1000000000) (n5 : tk L 465 6 ∧ tk L 467 12 ∧ L.2.2 467 = 5) : SIM (B + 1600) (op_kinds v (g 0) (g 1) (g 2)) (op_kinds w (g 0) (g 1) (g 2)) ∧ (∀ k, 94 ≤ k → (op_kinds w (g 0) (g 1) (g 2)).2 k = w k) ∧ CMDC L b v g 0 (op_kinds v (g 0) (g 1) (g 2)) ∧ CMDM L w g 0 (op_kinds w (g 0) (g 1) (g 2)) := by
  have hcc := hv.1.1
  have hpc := hv.1.2.1
  have ec := hv.1.2.2.2.1
  have ep := hv.1.2.2.2.2.1
  refine ⟨SIM.mono (rv_kinds hv (g 0) (g 1) (g 2)) (by omega), o_kinds (g 0) (g 1) (g 2), ?_, ?_⟩
  · rintro X ⟨π, ρ, hx⟩ h1 hg hcl
    obtain ⟨X', q1, q2⟩ := c_changeKind hx (g 0) (g 1) (g 2)
    refine ⟨X', ?_, ⟨π, ρ, q2⟩, fr_X0_changeKind q1 hcl ⟨Nat.le_refl _, by omega⟩⟩
    unfold f_X6_perform
    rw [if_pos (show nI 0 = 0 from rfl), if_pos n5.1, h1, Option.bind_some, if_pos n5.2.1, n5.2.2, if_pos (show (0 : Nat) < 5 by decide), if_pos (show (1 : Nat) < 5 by decide), if_pos (show (2 : Nat) < 5 by decide), hg 0 (by decide), hg 1 (by decide), hg 2 (by decide), q1, Option.bind_some, if_pos hx.1.1.1]
  · intro Y hM hw hg
    obtain ⟨Y', q1, q2, q3⟩ := m_kinds hM (g 0) (g 1) (g 2)
    rw [hw] at q1 q3
    have r12 := hM.2.2.2.2.2.2.2.2
    refine ⟨Y', ?_, q2, q3⟩
    unfold f_X10_does
    rw [if_neg (show ¬ wh 0 = 114085 by decide), if_pos (show wh 0 = 370116 by decide), if_pos hM.1.1, r12, Option.bind_some, if_pos hM.1.2.2.2.2.2.2.2, hM.2.1.2.2.2.2.2.2, if_pos (show (0 : Nat) < 5 by decide), if_pos (show (1 : Nat) < 5 by decide), if_pos (show (2 : Nat) < 5 by decide), hg 0 (by decide), hg 1 (by decide), hg 2 (by decide), q1, Option.bind_some]
theorem cmd_1 (hv : RV B v w n m) (hB : 9999 ≤ B) (hB2 : B ≤ 1000000000) (n5 : tk L 465 6 ∧ tk L 467 12 ∧ L.2.2 467 = 5) : SIM (B + 1600) (op_scales v (g 0) (g 1)) (op_scales w (g 0) (g 1)) ∧ (∀ k, 94 ≤ k → (op_scales w (g 0) (g 1)).2 k = w k) ∧ CMDC L b v g 1 (op_scales v (g 0) (g 1)) ∧ CMDM L w g 1 (op_scales w (g 0) (g 1)) := by
  have hcc := hv.1.1
  have hpc := hv.1.2.1
  have ec := hv.1.2.2.2.1
  have ep := hv.1.2.2.2.2.1
  refine ⟨SIM.mono (rv_scales hv (g 0) (g 1)) (by omega), o_scales (g 0) (g 1), ?_, ?_⟩
  · rintro X ⟨π, ρ, hx⟩ h1 hg hcl
    obtain ⟨X', q1, q2⟩ := c_changeScale hx (g 0) (g 1)
    refine ⟨X', ?_, ⟨π, ρ, q2⟩, fr_X0_changeScale q1 hcl ⟨Nat.le_refl _, by omega⟩⟩
    unfold f_X6_perform
    rw [if_neg (show ¬ nI 1 = 0 by decide), if_pos (show nI 1 = 1 from rfl), if_pos n5.1, h1, Option.bind_some, if_pos n5.2.1, n5.2.2, if_pos (show (0 : Nat) < 5 by decide), if_pos (show (1 : Nat) < 5 by decide), hg 0 (by decide), hg 1 (by decide), q1, Option.bind_some, if_pos hx.1.1.1]
  · intro Y hM hw hg
    obtain ⟨Y', q1, q2, q3⟩ := m_scales hM (g 0) (g 1)
    rw [hw] at q1 q3
    have r12 := hM.2.2.2.2.2.2.2.2
    refine ⟨Y', ?_, q2, q3⟩
    unfold f_X10_does
    rw [if_neg (show ¬ wh 1 = 114085 by decide), if_neg (show ¬ wh 1 = 370116 by decide), if_neg (show ¬ wh 1 = 611717 by decide), if_neg (show ¬ wh 1 = 3540269 by decide), if_neg (show ¬ wh 1 = 17377093 by decide), if_pos (show wh 1 = 20022661 by decide), if_pos hM.1.1, r12, Option.bind_some, if_pos hM.1.2.2.2.2.2.2.2, hM.2.1.2.2.2.2.2.2, if_pos (show (0 : Nat) < 5 by decide), if_pos (show (1 : Nat) < 5 by decide), hg 0 (by decide), hg 1 (by decide), q1, Option.bind_some]
theorem cmd_2 (hv : RV B v w n m) (hB : 9999 ≤ B) (hB2 : B ≤ 1000000000) (n5 : tk L 465 6 ∧ tk L 467 12 ∧ L.2.2 467 = 5) : SIM (B + 1600) (op_sets v 11 (g 0) 0 3) (op_sets w 11 (g 0) 0 3) ∧ (∀ k, 94 ≤ k → (op_sets w 11 (g 0) 0 3).2 k = w k) ∧ CMDC L b v g 2 (op_sets v 11 (g 0) 0 3) ∧ CMDM L w g 2 (op_sets w 11 (g 0) 0 3) := by
  have hcc := hv.1.1
  have hpc := hv.1.2.1
  have ec := hv.1.2.2.2.1
  have ep := hv.1.2.2.2.2.1
  refine ⟨SIM.mono (rv_rule hv (g 0)) (by omega), o_sets (by omega) (g 0) _ _, ?_, ?_⟩
  · rintro X ⟨π, ρ, hx⟩ h1 hg hcl
    obtain ⟨X', q1, q2⟩ := c_changeRule hx (g 0)
    refine ⟨X', ?_, ⟨π, ρ, q2⟩, fr_X0_changeRule q1 hcl ⟨Nat.le_refl _, by omega⟩⟩
    unfold f_X6_perform
    rw [if_neg (show ¬ nI 2 = 0 by decide), if_neg (show ¬ nI 2 = 1 by decide), if_pos (show nI 2 = 2 from rfl), if_pos n5.1, h1, Option.bind_some, if_pos n5.2.1, n5.2.2, if_pos (show (0 : Nat) < 5 by decide), hg 0 (by decide), q1, Option.bind_some, if_pos hx.1.1.1]
  · intro Y hM hw hg
    obtain ⟨Y', q1, q2, q3⟩ := m_sets hM (pl := 11) (by omega) (g 0) 0 3
    rw [hw] at q1 q3
    have q1 : f_X10_sets L Y 470 11 (g 0) 0 3 = some ((op_sets w 11 (g 0) 0 3).1, Y') := q1
    have r12 := hM.2.2.2.2.2.2.2.2
    refine ⟨Y', ?_, q2, q3⟩
    unfold f_X10_does
    rw [if_neg (show ¬ wh 2 = 114085 by decide), if_neg (show ¬ wh 2 = 370116 by decide), if_pos (show wh 2 = 611717 by decide), if_pos hM.1.1, r12, Option.bind_some, if_pos hM.1.2.2.2.2.2.2.2, hM.2.1.2.2.2.2.2.2, if_pos (show (0 : Nat) < 5 by decide), hg 0 (by decide), q1, Option.bind_some]
theorem cmd_3 (hv : RV B v w n m) (hB : 9999 ≤ B) (hB2 : B ≤ 1000000000) (n5 : tk L 465 6 ∧ tk L 467 12 ∧ L.2.2 467 = 5) : SIM (B + 1600) (op_comes v n (g 0)) (op_comes w n (g 0)) ∧ (∀ k, 94 ≤ k → (op_comes w n (g 0)).2 k = w k) ∧ CMDC L b v g 3 (op_comes v n (g 0)) ∧ CMDM L w g 3 (op_comes w n (g 0)) := by
  have hcc := hv.1.1
  have hpc := hv.1.2.1
  have ec := hv.1.2.2.2.1
  have ep := hv.1.2.2.2.2.1
  refine ⟨SIM.mono (rv_comes hv hB (g 0)) (by omega), o_comes hcc (g 0), ?_, ?_⟩
  · rintro X ⟨π, ρ, hx⟩ h1 hg hcl
    obtain ⟨X', q1, q2⟩ := c_addCustomer hx hcc ec (g 0)
    refine ⟨X', ?_, ⟨π, ρ, q2⟩, fr_X0_addCustomer q1 hcl ⟨Nat.le_refl _, by omega⟩⟩
    unfold f_X6_perform
    rw [if_neg (show ¬ nI 3 = 0 by decide), if_neg (show ¬ nI 3 = 1 by decide), if_neg (show ¬ nI 3 = 2 by decide), if_pos (show nI 3 = 3 from rfl), if_pos n5.1, h1, Option.bind_some, if_pos n5.2.1, n5.2.2, if_pos (show (0 : Nat) < 5 by decide), hg 0 (by decide), q1, Option.bind_some, if_pos hx.1.1.1]
  · intro Y hM hw hg
    obtain ⟨Y', q1, q2, q3⟩ := m_comes hM hcc (by rw [hw]; exact hv.w14) (g 0)
    rw [hw] at q1 q3
    have r12 := hM.2.2.2.2.2.2.2.2
    refine ⟨Y', ?_, q2, q3⟩
    unfold f_X10_does
    rw [if_pos (show wh 3 = 114085 by decide), if_pos hM.1.1, r12, Option.bind_some, if_pos hM.1.2.2.2.2.2.2.2, hM.2.1.2.2.2.2.2.2, if_pos (show (0 : Nat) < 5 by decide), hg 0 (by decide), q1, Option.bind_some]
theorem cmd_4 (hv : RV B v w n m) (hB : 9999 ≤ B) (hB2 : B ≤ 1000000000) (n5 : tk L 465 6 ∧ tk L 467 12 ∧ L.2.2 467 = 5) : SIM (B + 1600) (op_adds v m (g 0) (g 1) (g 2) (g 3) (g 4)) (op_adds w m (g 0) (g 1) (g 2) (g 3) (g 4)) ∧ (∀ k, 94 ≤ k → (op_adds w m (g 0) (g 1) (g 2) (g 3) (g 4)).2 k = w k) ∧ CMDC L b v g 4 (op_adds v m (g 0) (g 1) (g 2) (g 3) (g 4)) ∧ CMDM L w g 4 (op_adds w m (g 0) (g 1) (g 2) (g 3) (g 4)) := by
  have hcc := hv.1.1
  have hpc := hv.1.2.1
  have ec := hv.1.2.2.2.1
  have ep := hv.1.2.2.2.2.1
  refine ⟨SIM.mono (rv_adds hv (g 0) (g 1) (g 2) (g 3) (g 4)) (by omega), o_adds hpc (g 0) (g 1) (g 2) (g 3) (g 4), ?_, ?_⟩
  · rintro X ⟨π, ρ, hx⟩ h1 hg hcl
    obtain ⟨X', q1, q2⟩ := c_placePrize hx hpc ep (g 0) (g 1) (g 2) (g 3) (g 4)
    refine ⟨X', ?_, ⟨π, ρ, q2⟩, fr_X0_placePrize q1 hcl ⟨Nat.le_refl _, by omega⟩⟩
    unfold f_X6_perform
    rw [if_neg (show ¬ nI 4 = 0 by decide), if_neg (show ¬ nI 4 = 1 by decide), if_neg (show ¬ nI 4 = 2 by decide), if_neg (show ¬ nI 4 = 3 by decide), if_pos (show nI 4 = 4 from rfl), if_pos n5.1, h1, Option.bind_some, if_pos n5.2.1, n5.2.2, if_pos (show (0 : Nat) < 5 by decide), if_pos (show (1 : Nat) < 5 by decide), if_pos (show (2 : Nat) < 5 by decide), if_pos (show (3 : Nat) < 5 by decide), if_pos (show (4 : Nat) < 5 by decide), hg 0 (by decide), hg 1 (by decide), hg 2 (by decide), hg 3 (by decide), hg 4 (by decide), q1, Option.bind_some, if_pos hx.1.1.1]
  · intro Y hM hw hg
    obtain ⟨Y', q1, q2, q3⟩ := m_adds hM hpc (by rw [hw]; exact hv.w15) (g 0) (g 1) (g 2) (g 3) (g 4)
    rw [hw] at q1 q3
    have r12 := hM.2.2.2.2.2.2.2.2
    refine ⟨Y', ?_, q2, q3⟩
    unfold f_X10_does
    rw [if_neg (show ¬ wh 4 = 114085 by decide), if_neg (show ¬ wh 4 = 370116 by decide), if_neg (show ¬ wh 4 = 611717 by decide), if_neg (show ¬ wh 4 = 3540269 by decide), if_pos (show wh 4 = 17377093 by decide), if_pos hM.1.1, r12, Option.bind_some, if_pos hM.1.2.2.2.2.2.2.2, hM.2.1.2.2.2.2.2.2, if_pos (show (0 : Nat) < 5 by decide), if_pos (show (1 : Nat) < 5 by decide), if_pos (show (2 : Nat) < 5 by decide), if_pos (show (3 : Nat) < 5 by decide), if_pos (show (4 : Nat) < 5 by decide), hg 0 (by decide), hg 1 (by decide), hg 2 (by decide), hg 3 (by decide), hg 4 (by decide), q1, Option.bind_some]
theorem cmd_5 (hv : RV B v w n m) (hB : 9999 ≤ B) (hB2 : B ≤ 1000000000) (n5 : tk L 465 6 ∧ tk L 467 12 ∧ L.2.2 467 = 5) : SIM (B + 1600) (op_weighs v n (g 0) (g 1) (g 2) 0) (op_weighs w n (g 0) (g 1) (g 2) 0) ∧ (∀ k, 94 ≤ k → (op_weighs w n (g 0) (g 1) (g 2) 0).2 k = w k) ∧ CMDC L b v g 5 (op_weighs v n (g 0) (g 1) (g 2) 0) ∧ CMDM L w g 5 (op_weighs w n (g 0) (g 1) (g 2) 0) := by
  have hcc := hv.1.1
  have hpc := hv.1.2.1
  have ec := hv.1.2.2.2.1
  have ep := hv.1.2.2.2.2.1
  refine ⟨rv_weighs hv hB2 (g 0) (g 1) (g 2) 0, o_weighs hcc (g 0) (g 1) (g 2) 0, ?_, ?_⟩
  · rintro X ⟨π, ρ, hx⟩ h1 hg hcl
    obtain ⟨X', q1, q2⟩ := c_weighBundle hx hv.S hB2 hcc ec hv.C (g 0) (g 1) (g 2) 0
    refine ⟨X', ?_, ⟨π, ρ, q2⟩, fr_X0_weighBundle q1 hcl ⟨Nat.le_refl _, by omega⟩⟩
    unfold f_X6_perform
    rw [if_neg (show ¬ nI 5 = 0 by decide), if_neg (show ¬ nI 5 = 1 by decide), if_neg (show ¬ nI 5 = 2 by decide), if_neg (show ¬ nI 5 = 3 by decide), if_neg (show ¬ nI 5 = 4 by decide), if_pos (show nI 5 = 5 from rfl), if_pos n5.1, h1, Option.bind_some, if_pos n5.2.1, n5.2.2, if_pos (show (0 : Nat) < 5 by decide), if_pos (show (1 : Nat) < 5 by decide), if_pos (show (2 : Nat) < 5 by decide), hg 0 (by decide), hg 1 (by decide), hg 2 (by decide), q1, Option.bind_some, if_pos hx.1.1.1]
  · intro Y hM hw hg
    obtain ⟨Y', q1, q2, q3⟩ := m_weighs hM (by rw [hw]; exact hv.Sw) hcc (by rw [hw]; exact hv.w14) (g 0) (g 1) (g 2) 0
    rw [hw] at q1 q3
    have r12 := hM.2.2.2.2.2.2.2.2
    refine ⟨Y', ?_, q2, q3⟩
    unfold f_X10_does
    rw [if_neg (show ¬ wh 5 = 114085 by decide), if_neg (show ¬ wh 5 = 370116 by decide), if_neg (show ¬ wh 5 = 611717 by decide), if_neg (show ¬ wh 5 = 3540269 by decide), if_neg (show ¬ wh 5 = 17377093 by decide), if_neg (show ¬ wh 5 = 20022661 by decide), if_pos (show wh 5 = 24290536 by decide), if_pos hM.1.1, r12, Option.bind_some, if_pos hM.1.2.2.2.2.2.2.2, hM.2.1.2.2.2.2.2.2, if_pos (show (0 : Nat) < 5 by decide), if_pos (show (1 : Nat) < 5 by decide), if_pos (show (2 : Nat) < 5 by decide), hg 0 (by decide), hg 1 (by decide), hg 2 (by decide), q1, Option.bind_some]
theorem cmd_6 (hv : RV B v w n m) (hB : 9999 ≤ B) (hB2 : B ≤ 1000000000) (n5 : tk L 465 6 ∧ tk L 467 12 ∧ L.2.2 467 = 5) : SIM (B + 1600) (op_claims v n (g 0) (g 1)) (op_claims w n (g 0) (g 1)) ∧ (∀ k, 94 ≤ k → (op_claims w n (g 0) (g 1)).2 k = w k) ∧ CMDC L b v g 6 (op_claims v n (g 0) (g 1)) ∧ CMDM L w g 6 (op_claims w n (g 0) (g 1)) := by
  have hcc := hv.1.1
  have hpc := hv.1.2.1
  have ec := hv.1.2.2.2.1
  have ep := hv.1.2.2.2.2.1
  refine ⟨rv_claims hv hB hB2 (g 0) (g 1), o_claims hcc (g 0) (g 1), ?_, ?_⟩
  · rintro X ⟨π, ρ, hx⟩ h1 hg hcl
    obtain ⟨X', q1, q2⟩ := c_settleClaim hx hv.S hcc ec hv.C (g 0) (g 1)
    refine ⟨X', ?_, ⟨π, ρ, q2⟩, fr_X0_settleClaim q1 hcl ⟨Nat.le_refl _, by omega⟩⟩
    unfold f_X6_perform
    rw [if_neg (show ¬ nI 6 = 0 by decide), if_neg (show ¬ nI 6 = 1 by decide), if_neg (show ¬ nI 6 = 2 by decide), if_neg (show ¬ nI 6 = 3 by decide), if_neg (show ¬ nI 6 = 4 by decide), if_neg (show ¬ nI 6 = 5 by decide), if_pos (show nI 6 = 6 from rfl), if_pos n5.1, h1, Option.bind_some, if_pos n5.2.1, n5.2.2, if_pos (show (0 : Nat) < 5 by decide), if_pos (show (1 : Nat) < 5 by decide), hg 0 (by decide), hg 1 (by decide), q1, Option.bind_some, if_pos hx.1.1.1]
  · intro Y hM hw hg
    obtain ⟨Y', q1, q2, q3⟩ := m_claims hM (by rw [hw]; exact hv.Sw) hB2 hcc (by rw [hw]; exact hv.w14) (by rw [hw]; exact hv.Cw) (g 0) (g 1)
    rw [hw] at q1 q3
    have r12 := hM.2.2.2.2.2.2.2.2
    refine ⟨Y', ?_, q2, q3⟩
    unfold f_X10_does
    rw [if_neg (show ¬ wh 6 = 114085 by decide), if_neg (show ¬ wh 6 = 370116 by decide), if_neg (show ¬ wh 6 = 611717 by decide), if_pos (show wh 6 = 3540269 by decide), if_pos hM.1.1, r12, Option.bind_some, if_pos hM.1.2.2.2.2.2.2.2, hM.2.1.2.2.2.2.2.2, if_pos (show (0 : Nat) < 5 by decide), if_pos (show (1 : Nat) < 5 by decide), hg 0 (by decide), hg 1 (by decide), q1, Option.bind_some]
theorem cmd_7 (hv : RV B v w n m) (hB : 9999 ≤ B) (hB2 : B ≤ 1000000000) (n5 : tk L 465 6 ∧ tk L 467 12 ∧ L.2.2 467 = 5) : SIM (B + 1600) (op_buys v n m (g 0) (g 1) (g 2)) (op_buys w n m (g 0) (g 1) (g 2)) ∧ (∀ k, 94 ≤ k → (op_buys w n m (g 0) (g 1) (g 2)).2 k = w k) ∧ CMDC L b v g 7 (op_buys v n m (g 0) (g 1) (g 2)) ∧ CMDM L w g 7 (op_buys w n m (g 0) (g 1) (g 2)) := by
  have hcc := hv.1.1
  have hpc := hv.1.2.1
  have ec := hv.1.2.2.2.1
  have ep := hv.1.2.2.2.2.1
  refine ⟨SIM.mono (rv_buys hv (by omega) (g 0) (g 1) (g 2)) (by omega), o_buys hcc hpc (g 0) (g 1) (g 2), ?_, ?_⟩
  · rintro X ⟨π, ρ, hx⟩ h1 hg hcl
    obtain ⟨X', q1, q2⟩ := c_sellPrize hx hcc hpc ec ep hv.P (g 0) (g 1) (g 2)
    refine ⟨X', ?_, ⟨π, ρ, q2⟩, fr_X0_sellPrize q1 hcl ⟨Nat.le_refl _, by omega⟩⟩
    unfold f_X6_perform
    rw [if_neg (show ¬ nI 7 = 0 by decide), if_neg (show ¬ nI 7 = 1 by decide), if_neg (show ¬ nI 7 = 2 by decide), if_neg (show ¬ nI 7 = 3 by decide), if_neg (show ¬ nI 7 = 4 by decide), if_neg (show ¬ nI 7 = 5 by decide), if_neg (show ¬ nI 7 = 6 by decide), if_pos n5.1, h1, Option.bind_some, if_pos n5.2.1, n5.2.2, if_pos (show (0 : Nat) < 5 by decide), if_pos (show (1 : Nat) < 5 by decide), if_pos (show (2 : Nat) < 5 by decide), hg 0 (by decide), hg 1 (by decide), hg 2 (by decide), q1, Option.bind_some, if_pos hx.1.1.1]
  · intro Y hM hw hg
    obtain ⟨Y', q1, q2, q3⟩ := m_buys hM hcc hpc (by rw [hw]; exact hv.w14) (by rw [hw]; exact hv.w15) (by rw [hw]; exact hv.Pw) (g 0) (g 1) (g 2)
    rw [hw] at q1 q3
    have r12 := hM.2.2.2.2.2.2.2.2
    refine ⟨Y', ?_, q2, q3⟩
    unfold f_X10_does
    rw [if_neg (show ¬ wh 7 = 114085 by decide), if_neg (show ¬ wh 7 = 370116 by decide), if_neg (show ¬ wh 7 = 611717 by decide), if_neg (show ¬ wh 7 = 3540269 by decide), if_neg (show ¬ wh 7 = 17377093 by decide), if_neg (show ¬ wh 7 = 20022661 by decide), if_neg (show ¬ wh 7 = 24290536 by decide), if_pos hM.1.1, r12, Option.bind_some, if_pos hM.1.2.2.2.2.2.2.2, hM.2.1.2.2.2.2.2.2, if_pos (show (0 : Nat) < 5 by decide), if_pos (show (1 : Nat) < 5 by decide), if_pos (show (2 : Nat) < 5 by decide), hg 0 (by decide), hg 1 (by decide), hg 2 (by decide), q1, Option.bind_some]
theorem cmd_all (hv : RV B v w n m) (hB : 9999 ≤ B) (hB2 : B ≤ 1000000000) (n5 : tk L 465 6 ∧ tk L 467 12 ∧ L.2.2 467 = 5) {i : Nat} (hi : i < 8) : ∃ A C : Int32 × (Nat → Int32), SIM (B + 1600) A C ∧ (∀ k, 94 ≤ k → C.2 k = w k) ∧ CMDC L b v g i A ∧ CMDM L w g i C := by
  have : i = 0 ∨ i = 1 ∨ i = 2 ∨ i = 3 ∨ i = 4 ∨ i = 5 ∨ i = 6 ∨ i = 7 := by omega
  rcases this with rfl | rfl | rfl | rfl | rfl | rfl | rfl | rfl
  · exact ⟨_, _, cmd_0 hv hB hB2 n5⟩
  · exact ⟨_, _, cmd_1 hv hB hB2 n5⟩
  · exact ⟨_, _, cmd_2 hv hB hB2 n5⟩
  · exact ⟨_, _, cmd_3 hv hB hB2 n5⟩
  · exact ⟨_, _, cmd_4 hv hB hB2 n5⟩
  · exact ⟨_, _, cmd_5 hv hB hB2 n5⟩
  · exact ⟨_, _, cmd_6 hv hB hB2 n5⟩
  · exact ⟨_, _, cmd_7 hv hB hB2 n5⟩
end CM
