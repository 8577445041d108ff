/-! the actions, over the numbers -/
theorem SIM.wb {B : Int} {a b : Int32 × (Nat → Int32)} (h : SIM B a b) : WB a.2 := by
  obtain ⟨-, -, n, m, h⟩ := h
  exact h.wb
section AC
variable {B : Int} {L : hL} {X : hX} {n cc pc : Nat} {v : Nat → Int32}
theorem ka_setKind (hK : KS L X n v) (hv : RV B v v cc pc) (a1 a2 a3 : Int32) : ∃ X', f_X9_setKind L X 0 a1 a2 a3 = some ((op_kinds v a1 a2 a3).1, X') ∧ ((op_kinds v a1 a2 a3).1 ≤ -100001 → KS L X' n (op_kinds v a1 a2 a3).2) ∧ (¬ (op_kinds v a1 a2 a3).1 ≤ -100001 → KP L X' (if n < 5 then n + 1 else 5) (op_kinds v a1 a2 a3).2 v) := by
  obtain ⟨E, V, hK⟩ := hK
  have hs := rv_kinds hv a1 a2 a3
  obtain ⟨X3, s1, s2, s3⟩ := k_act hK (g := fun Y i => f_X0_changeKind L Y i a1 a2 a3) (a := op_kinds v a1 a2 a3) (fun Y π ρ hx => let ⟨Y', q1, q2⟩ := c_changeKind hx a1 a2 a3; ⟨Y', π, ρ, q1, q2⟩) (fun P Y r Y' c h hcl hp => fr_X0_changeKind h hcl hp) hs.2.1 hs.wb
  exact ⟨X3, s1, s2, s3⟩
theorem kb_setKind (hK : KS L X n v) (hv : RV B v v cc pc) (a1 a2 a3 : Int32) : ∃ X' n', f_X9_setKind L X 0 a1 a2 a3 = some ((op_kinds v a1 a2 a3).1, X') ∧ KS L X' n' (op_kinds v a1 a2 a3).2 := by
  obtain ⟨X', s1, s2, s3⟩ := ka_setKind hK hv a1 a2 a3
  by_cases c : (op_kinds v a1 a2 a3).1 ≤ -100001
  · exact ⟨X', n, s1, s2 c⟩
  · exact ⟨X', _, s1, (s3 c).ks⟩
theorem ka_setScale (hK : KS L X n v) (hv : RV B v v cc pc) (a1 a2 : Int32) : ∃ X', f_X9_setScale L X 0 a1 a2 = some ((op_scales v a1 a2).1, X') ∧ ((op_scales v a1 a2).1 ≤ -100001 → KS L X' n (op_scales v a1 a2).2) ∧ (¬ (op_scales v a1 a2).1 ≤ -100001 → KP L X' (if n < 5 then n + 1 else 5) (op_scales v a1 a2).2 v) := by
  obtain ⟨E, V, hK⟩ := hK
  have hs := rv_scales hv a1 a2
  obtain ⟨X3, s1, s2, s3⟩ := k_act hK (g := fun Y i => f_X0_changeScale L Y i a1 a2) (a := op_scales v a1 a2) (fun Y π ρ hx => let ⟨Y', q1, q2⟩ := c_changeScale hx a1 a2; ⟨Y', π, ρ, q1, q2⟩) (fun P Y r Y' c h hcl hp => fr_X0_changeScale h hcl hp) hs.2.1 hs.wb
  exact ⟨X3, s1, s2, s3⟩
theorem kb_setScale (hK : KS L X n v) (hv : RV B v v cc pc) (a1 a2 : Int32) : ∃ X' n', f_X9_setScale L X 0 a1 a2 = some ((op_scales v a1 a2).1, X') ∧ KS L X' n' (op_scales v a1 a2).2 := by
  obtain ⟨X', s1, s2, s3⟩ := ka_setScale hK hv a1 a2
  by_cases c : (op_scales v a1 a2).1 ≤ -100001
  · exact ⟨X', n, s1, s2 c⟩
  · exact ⟨X', _, s1, (s3 c).ks⟩
theorem ka_setBias (hK : KS L X n v) (hv : RV B v v cc pc) (a1 : Int32) : ∃ X', f_X9_setBias L X 0 a1 = some ((op_sets v 10 a1 (-(v 9)) (v 9)).1, X') ∧ ((op_sets v 10 a1 (-(v 9)) (v 9)).1 ≤ -100001 → KS L X' n (op_sets v 10 a1 (-(v 9)) (v 9)).2) ∧ (¬ (op_sets v 10 a1 (-(v 9)) (v 9)).1 ≤ -100001 → KP L X' (if n < 5 then n + 1 else 5) (op_sets v 10 a1 (-(v 9)) (v 9)).2 v) := by
  obtain ⟨E, V, hK⟩ := hK
  have hs := rv_bias hv a1
  obtain ⟨X3, s1, s2, s3⟩ := k_act hK (g := fun Y i => f_X0_changeBias L Y i a1) (a := op_sets v 10 a1 (-(v 9)) (v 9)) (fun Y π ρ hx => let ⟨Y', q1, q2⟩ := c_changeBias hx a1; ⟨Y', π, ρ, q1, q2⟩) (fun P Y r Y' c h hcl hp => fr_X0_changeBias h hcl hp) hs.2.1 hs.wb
  exact ⟨X3, s1, s2, s3⟩
theorem kb_setBias (hK : KS L X n v) (hv : RV B v v cc pc) (a1 : Int32) : ∃ X' n', f_X9_setBias L X 0 a1 = some ((op_sets v 10 a1 (-(v 9)) (v 9)).1, X') ∧ KS L X' n' (op_sets v 10 a1 (-(v 9)) (v 9)).2 := by
  obtain ⟨X', s1, s2, s3⟩ := ka_setBias hK hv a1
  by_cases c : (op_sets v 10 a1 (-(v 9)) (v 9)).1 ≤ -100001
  · exact ⟨X', n, s1, s2 c⟩
  · exact ⟨X', _, s1, (s3 c).ks⟩
theorem ka_setRule (hK : KS L X n v) (hv : RV B v v cc pc) (a1 : Int32) : ∃ X', f_X9_setRule L X 0 a1 = some ((op_sets v 11 a1 0 3).1, X') ∧ ((op_sets v 11 a1 0 3).1 ≤ -100001 → KS L X' n (op_sets v 11 a1 0 3).2) ∧ (¬ (op_sets v 11 a1 0 3).1 ≤ -100001 → KP L X' (if n < 5 then n + 1 else 5) (op_sets v 11 a1 0 3).2 v) := by
  obtain ⟨E, V, hK⟩ := hK
  have hs := rv_rule hv a1
  obtain ⟨X3, s1, s2, s3⟩ := k_act hK (g := fun Y i => f_X0_changeRule L Y i a1) (a := op_sets v 11 a1 0 3) (fun Y π ρ hx => let ⟨Y', q1, q2⟩ := c_changeRule hx a1; ⟨Y', π, ρ, q1, q2⟩) (fun P Y r Y' c h hcl hp => fr_X0_changeRule h hcl hp) hs.2.1 hs.wb
  exact ⟨X3, s1, s2, s3⟩
theorem kb_setRule (hK : KS L X n v) (hv : RV B v v cc pc) (a1 : Int32) : ∃ X' n', f_X9_setRule L X 0 a1 = some ((op_sets v 11 a1 0 3).1, X') ∧ KS L X' n' (op_sets v 11 a1 0 3).2 := by
  obtain ⟨X', s1, s2, s3⟩ := ka_setRule hK hv a1
  by_cases c : (op_sets v 11 a1 0 3).1 ≤ -100001
  · exact ⟨X', n, s1, s2 c⟩
  · exact ⟨X', _, s1, (s3 c).ks⟩
theorem ka_come (hK : KS L X n v) (hv : RV B v v cc pc) (hB : 9999 ≤ B) (a1 : Int32) : ∃ X', f_X9_come L X 0 a1 = some ((op_comes v cc a1).1, X') ∧ ((op_comes v cc a1).1 ≤ -100001 → KS L X' n (op_comes v cc a1).2) ∧ (¬ (op_comes v cc a1).1 ≤ -100001 → KP L X' (if n < 5 then n + 1 else 5) (op_comes v cc a1).2 v) := by
  obtain ⟨E, V, hK⟩ := hK
  have hs := rv_comes hv hB a1
  obtain ⟨X3, s1, s2, s3⟩ := k_act hK (g := fun Y i => f_X0_addCustomer L Y i a1) (a := op_comes v cc a1) (fun Y π ρ hx => let ⟨Y', q1, q2⟩ := c_addCustomer hx hv.1.1 hv.1.2.2.2.1 a1; ⟨Y', π, ρ, q1, q2⟩) (fun P Y r Y' c h hcl hp => fr_X0_addCustomer h hcl hp) hs.2.1 hs.wb
  exact ⟨X3, s1, s2, s3⟩
theorem kb_come (hK : KS L X n v) (hv : RV B v v cc pc) (hB : 9999 ≤ B) (a1 : Int32) : ∃ X' n', f_X9_come L X 0 a1 = some ((op_comes v cc a1).1, X') ∧ KS L X' n' (op_comes v cc a1).2 := by
  obtain ⟨X', s1, s2, s3⟩ := ka_come hK hv hB a1
  by_cases c : (op_comes v cc a1).1 ≤ -100001
  · exact ⟨X', n, s1, s2 c⟩
  · exact ⟨X', _, s1, (s3 c).ks⟩
theorem ka_leave (hK : KS L X n v) (hv : RV B v v cc pc) (a1 : Int32) : ∃ X', f_X9_leave L X 0 a1 = some ((op_drop v cc a1).1, X') ∧ ((op_drop v cc a1).1 ≤ -100001 → KS L X' n (op_drop v cc a1).2) ∧ (¬ (op_drop v cc a1).1 ≤ -100001 → KP L X' (if n < 5 then n + 1 else 5) (op_drop v cc a1).2 v) := by
  obtain ⟨E, V, hK⟩ := hK
  have hs := rv_leave hv a1
  obtain ⟨X3, s1, s2, s3⟩ := k_act hK (g := fun Y i => f_X0_dropCustomer L Y i a1) (a := op_drop v cc a1) (fun Y π ρ hx => let ⟨Y', π', q1, q2⟩ := c_dropCustomer hx hv.1.1 hv.1.2.2.2.1 a1; ⟨Y', π', ρ, q1, q2⟩) (fun P Y r Y' c h hcl hp => fr_X0_dropCustomer h hcl hp) hs.2.1 hs.wb
  exact ⟨X3, s1, s2, s3⟩
theorem kb_leave (hK : KS L X n v) (hv : RV B v v cc pc) (a1 : Int32) : ∃ X' n', f_X9_leave L X 0 a1 = some ((op_drop v cc a1).1, X') ∧ KS L X' n' (op_drop v cc a1).2 := by
  obtain ⟨X', s1, s2, s3⟩ := ka_leave hK hv a1
  by_cases c : (op_drop v cc a1).1 ≤ -100001
  · exact ⟨X', n, s1, s2 c⟩
  · exact ⟨X', _, s1, (s3 c).ks⟩
theorem ka_weigh (hK : KS L X n v) (hv : RV B v v cc pc) (hB2 : B ≤ 1000000000) (a1 a2 a3 a4 : Int32) : ∃ X', f_X9_weigh L X 0 a1 a2 a3 a4 = some ((op_weighs v cc a1 a2 a3 a4).1, X') ∧ ((op_weighs v cc a1 a2 a3 a4).1 ≤ -100001 → KS L X' n (op_weighs v cc a1 a2 a3 a4).2) ∧ (¬ (op_weighs v cc a1 a2 a3 a4).1 ≤ -100001 → KP L X' (if n < 5 then n + 1 else 5) (op_weighs v cc a1 a2 a3 a4).2 v) := by
  obtain ⟨E, V, hK⟩ := hK
  have hs := rv_weighs hv hB2 a1 a2 a3 a4
  obtain ⟨X3, s1, s2, s3⟩ := k_act hK (g := fun Y i => f_X0_weighBundle L Y i a1 a2 a3 a4) (a := op_weighs v cc a1 a2 a3 a4) (fun Y π ρ hx => let ⟨Y', q1, q2⟩ := c_weighBundle hx hv.S hB2 hv.1.1 hv.1.2.2.2.1 hv.C a1 a2 a3 a4; ⟨Y', π, ρ, q1, q2⟩) (fun P Y r Y' c h hcl hp => fr_X0_weighBundle h hcl hp) hs.2.1 hs.wb
  exact ⟨X3, s1, s2, s3⟩
theorem kb_weigh (hK : KS L X n v) (hv : RV B v v cc pc) (hB2 : B ≤ 1000000000) (a1 a2 a3 a4 : Int32) : ∃ X' n', f_X9_weigh L X 0 a1 a2 a3 a4 = some ((op_weighs v cc a1 a2 a3 a4).1, X') ∧ KS L X' n' (op_weighs v cc a1 a2 a3 a4).2 := by
  obtain ⟨X', s1, s2, s3⟩ := ka_weigh hK hv hB2 a1 a2 a3 a4
  by_cases c : (op_weighs v cc a1 a2 a3 a4).1 ≤ -100001
  · exact ⟨X', n, s1, s2 c⟩
  · exact ⟨X', _, s1, (s3 c).ks⟩
theorem ka_claim (hK : KS L X n v) (hv : RV B v v cc pc) (hB : 9999 ≤ B) (hB2 : B ≤ 1000000000) (a1 a2 : Int32) : ∃ X', f_X9_claim L X 0 a1 a2 = some ((op_claims v cc a1 a2).1, X') ∧ ((op_claims v cc a1 a2).1 ≤ -100001 → KS L X' n (op_claims v cc a1 a2).2) ∧ (¬ (op_claims v cc a1 a2).1 ≤ -100001 → KP L X' (if n < 5 then n + 1 else 5) (op_claims v cc a1 a2).2 v) := by
  obtain ⟨E, V, hK⟩ := hK
  have hs := rv_claims hv hB hB2 a1 a2
  obtain ⟨X3, s1, s2, s3⟩ := k_act hK (g := fun Y i => f_X0_settleClaim L Y i a1 a2) (a := op_claims v cc a1 a2) (fun Y π ρ hx => let ⟨Y', q1, q2⟩ := c_settleClaim hx hv.S hv.1.1 hv.1.2.2.2.1 hv.C a1 a2; ⟨Y', π, ρ, q1, q2⟩) (fun P Y r Y' c h hcl hp => fr_X0_settleClaim h hcl hp) hs.2.1 hs.wb
  exact ⟨X3, s1, s2, s3⟩
theorem kb_claim (hK : KS L X n v) (hv : RV B v v cc pc) (hB : 9999 ≤ B) (hB2 : B ≤ 1000000000) (a1 a2 : Int32) : ∃ X' n', f_X9_claim L X 0 a1 a2 = some ((op_claims v cc a1 a2).1, X') ∧ KS L X' n' (op_claims v cc a1 a2).2 := by
  obtain ⟨X', s1, s2, s3⟩ := ka_claim hK hv hB hB2 a1 a2
  by_cases c : (op_claims v cc a1 a2).1 ≤ -100001
  · exact ⟨X', n, s1, s2 c⟩
  · exact ⟨X', _, s1, (s3 c).ks⟩
theorem ka_addPrize (hK : KS L X n v) (hv : RV B v v cc pc) (a1 a2 a3 a4 a5 : Int32) : ∃ X', f_X9_addPrize L X 0 a1 a2 a3 a4 a5 = some ((op_adds v pc a1 a2 a3 a4 a5).1, X') ∧ ((op_adds v pc a1 a2 a3 a4 a5).1 ≤ -100001 → KS L X' n (op_adds v pc a1 a2 a3 a4 a5).2) ∧ (¬ (op_adds v pc a1 a2 a3 a4 a5).1 ≤ -100001 → KP L X' (if n < 5 then n + 1 else 5) (op_adds v pc a1 a2 a3 a4 a5).2 v) := by
  obtain ⟨E, V, hK⟩ := hK
  have hs := rv_adds hv a1 a2 a3 a4 a5
  obtain ⟨X3, s1, s2, s3⟩ := k_act hK (g := fun Y i => f_X0_placePrize L Y i a1 a2 a3 a4 a5) (a := op_adds v pc a1 a2 a3 a4 a5) (fun Y π ρ hx => let ⟨Y', q1, q2⟩ := c_placePrize hx hv.1.2.1 hv.1.2.2.2.2.1 a1 a2 a3 a4 a5; ⟨Y', π, ρ, q1, q2⟩) (fun P Y r Y' c h hcl hp => fr_X0_placePrize h hcl hp) hs.2.1 hs.wb
  exact ⟨X3, s1, s2, s3⟩
theorem kb_addPrize (hK : KS L X n v) (hv : RV B v v cc pc) (a1 a2 a3 a4 a5 : Int32) : ∃ X' n', f_X9_addPrize L X 0 a1 a2 a3 a4 a5 = some ((op_adds v pc a1 a2 a3 a4 a5).1, X') ∧ KS L X' n' (op_adds v pc a1 a2 a3 a4 a5).2 := by
  obtain ⟨X', s1, s2, s3⟩ := ka_addPrize hK hv a1 a2 a3 a4 a5
  by_cases c : (op_adds v pc a1 a2 a3 a4 a5).1 ≤ -100001
  · exact ⟨X', n, s1, s2 c⟩
  · exact ⟨X', _, s1, (s3 c).ks⟩
theorem ka_buy (hK : KS L X n v) (hv : RV B v v cc pc) (hB0 : 0 ≤ B) (a1 a2 a3 : Int32) : ∃ X', f_X9_buy L X 0 a1 a2 a3 = some ((op_buys v cc pc a1 a2 a3).1, X') ∧ ((op_buys v cc pc a1 a2 a3).1 ≤ -100001 → KS L X' n (op_buys v cc pc a1 a2 a3).2) ∧ (¬ (op_buys v cc pc a1 a2 a3).1 ≤ -100001 → KP L X' (if n < 5 then n + 1 else 5) (op_buys v cc pc a1 a2 a3).2 v) := by
  obtain ⟨E, V, hK⟩ := hK
  have hs := rv_buys hv hB0 a1 a2 a3
  obtain ⟨X3, s1, s2, s3⟩ := k_act hK (g := fun Y i => f_X0_sellPrize L Y i a1 a2 a3) (a := op_buys v cc pc a1 a2 a3) (fun Y π ρ hx => let ⟨Y', q1, q2⟩ := c_sellPrize hx hv.1.1 hv.1.2.1 hv.1.2.2.2.1 hv.1.2.2.2.2.1 hv.P a1 a2 a3; ⟨Y', π, ρ, q1, q2⟩) (fun P Y r Y' c h hcl hp => fr_X0_sellPrize h hcl hp) hs.2.1 hs.wb
  exact ⟨X3, s1, s2, s3⟩
theorem kb_buy (hK : KS L X n v) (hv : RV B v v cc pc) (hB0 : 0 ≤ B) (a1 a2 a3 : Int32) : ∃ X' n', f_X9_buy L X 0 a1 a2 a3 = some ((op_buys v cc pc a1 a2 a3).1, X') ∧ KS L X' n' (op_buys v cc pc a1 a2 a3).2 := by
  obtain ⟨X', s1, s2, s3⟩ := ka_buy hK hv hB0 a1 a2 a3
  by_cases c : (op_buys v cc pc a1 a2 a3).1 ≤ -100001
  · exact ⟨X', n, s1, s2 c⟩
  · exact ⟨X', _, s1, (s3 c).ks⟩
end AC
