/-! the reference's actions -/
def PW (X X' : hX) (n : Nat) (src : Nat → Int32) : Prop := (n < 5 → X'.1 470 4 = nI (n + 1) ∧ (∀ i, i < n → ∀ k, k < 284 → X'.1 474 (284 * i + k) = X.1 474 (284 * i + k)) ∧ ∀ k, k < 284 → X'.1 474 (284 * n + k) = src k) ∧ (n = 5 → X'.1 470 4 = nI 5 ∧ (∀ i, i < 4 → ∀ k, k < 284 → X'.1 474 (284 * i + k) = X.1 474 (284 * (i + 1) + k)) ∧ ∀ k, k < 284 → X'.1 474 (284 * 4 + k) = src k)
def MA (X X' : hX) (n : Nat) (d' : Nat → Int32) (ps : Prop) : Prop := X'.2 = X.2 ∧ (X'.1 475 = X.1 475 ∧ X'.1 476 = X.1 476 ∧ X'.1 470 6 = X.1 470 6 ∧ X'.1 470 8 = X.1 470 8) ∧ X'.1 471 = d' ∧ (ps → PW X X' n (X.1 471)) ∧ (¬ ps → X'.1 470 4 = nI n ∧ X'.1 474 = X.1 474)
def KX (X : hX) : hX := srow X 472 (fun k => if 0 ≤ k ∧ k < 284 then X.1 471 k else X.1 472 k)
theorem KX_d {X : hX} : (KX X).1 471 = X.1 471 := srow_o (by decide)
theorem PW_of {X X1 X' : hX} {n : Nat} {src d : Nat → Int32} (hn : n ≤ 5) (h : PU X1 X' n src) (hw : X1.1 474 = X.1 474) (hs : ∀ k, k < 284 → src k = d k) : PW X X' n d := by
  obtain ⟨-, -, -, h1, h2⟩ := h
  refine ⟨fun hn5 => ?_, fun hn5 => ?_⟩
  · obtain ⟨a1, a2⟩ := h1 hn5
    refine ⟨a1, fun i hi k hk => ?_, fun k hk => ?_⟩
    · rw [a2]
      unfold pw
      rw [if_neg (by omega), hw]
    · rw [a2]
      unfold pw
      rw [if_pos (by omega), show 284 * n + k - 284 * n = k by omega]
      exact hs k hk
  · obtain ⟨a1, a2⟩ := h2 hn5
    refine ⟨a1, fun i hi k hk => ?_, fun k hk => ?_⟩
    · rw [a2 _ (by omega), if_pos (by omega), hw, show 284 * i + k + 284 = 284 * (i + 1) + k by omega]
    · rw [a2 _ (by omega), if_neg (by omega), show 284 * 4 + k - 1136 = k by omega]
      exact hs k hk
section MAS
variable {L : hL} {X : hX} {n : Nat}
theorem m_acted (hM : MOK L X) (hn : n ≤ 5) (hn4 : X.1 470 4 = nI n) {X2 : hX} (hs : SC (KX X) X2) (res : Int32) : ∃ X', f_X10_acted L X2 470 res = some (res, X') ∧ MA X X' n (X2.1 471) (¬ res ≤ -100001) := by
  have hM2 : MOK L X2 := MOK.sc (X := KX X) hM hs
  have k4 : ∀ j, ¬ (j = 9 ∨ j = 10 ∨ j = 11 ∨ j = 13 ∨ j = 14) → X2.1 470 j = X.1 470 j := fun j hj => (hs.fld hj).trans (by unfold KX; rw [srow_o (by decide)])
  have kr : ∀ a, a ≠ 471 → a ≠ 477 → a ≠ 470 → a ≠ 472 → X2.1 a = X.1 a := fun a h1 h2 h3 h4 => (hs.row h1 h2 h3).trans (by unfold KX; rw [srow_o h4])
  have k2 : X2.1 472 = fun k => if 0 ≤ k ∧ k < 284 then X.1 471 k else X.1 472 k := (hs.row (by decide) (by decide) (by decide)).trans (by unfold KX; rw [srow_s])
  have e2 : X2.2 = X.2 := hs.1
  unfold f_X10_acted
  by_cases c : res ≤ -100001
  · rw [if_pos c]
    exact ⟨_, rfl, e2, ⟨kr 475 (by decide) (by decide) (by decide) (by decide), kr 476 (by decide) (by decide) (by decide) (by decide), k4 6 (by decide), k4 8 (by decide)⟩, rfl, fun h => absurd c h, fun _ => ⟨(k4 4 (by decide)).trans hn4, kr 474 (by decide) (by decide) (by decide) (by decide)⟩⟩
  · rw [if_neg c, if_pos hM.1.1, hM2.2.2.2.1, Option.bind_some]
    obtain ⟨X', p1, p2⟩ := m_pushes (q := 472) (Or.inl rfl) hM2 hn ((k4 4 (by decide)).trans hn4)
    rw [p1, Option.bind_some]
    have pw' := PW_of (X := X) (d := X.1 471) hn p2 (kr 474 (by decide) (by decide) (by decide) (by decide)) (fun k hk => by rw [k2]; exact if_pos ⟨Nat.zero_le _, hk⟩)
    obtain ⟨q1, q2, q3, -⟩ := p2
    exact ⟨X', rfl, q1.trans e2, ⟨(q2 475 (by decide) (by decide)).trans (kr 475 (by decide) (by decide) (by decide) (by decide)), (q2 476 (by decide) (by decide)).trans (kr 476 (by decide) (by decide) (by decide) (by decide)), (q3 6 (by decide)).trans (k4 6 (by decide)), (q3 8 (by decide)).trans (k4 8 (by decide))⟩, q2 471 (by decide) (by decide), fun _ => pw', fun h => absurd c h⟩
theorem MA.no (hn4 : X.1 470 4 = nI n) {ps : Prop} (h : ¬ ps) : MA X X n (X.1 471) ps := ⟨rfl, ⟨rfl, rfl, rfl, rfl⟩, rfl, fun q => absurd q h, fun _ => ⟨hn4, rfl⟩⟩
theorem KXM (hM : MOK L X) : MOK L (KX X) := hM
theorem r_setKind (hM : MOK L X) (hn : n ≤ 5) (hn4 : X.1 470 4 = nI n) (a1 a2 a3 : Int32) : ∃ X', f_X10_setKind L X 470 a1 a2 a3 = some ((op_kinds (X.1 471) a1 a2 a3).1, X') ∧ MA X X' n (op_kinds (X.1 471) a1 a2 a3).2 (¬ (op_kinds (X.1 471) a1 a2 a3).1 ≤ -100001) := by
  unfold f_X10_setKind
  rw [m_keeps hM, Option.bind_some, if_pos hM.1.1]
  obtain ⟨X2, h1, h2, h3⟩ := m_kinds (KXM hM) a1 a2 a3
  rw [KX_d] at h1 h3
  unfold KX at h1
  rw [h1, Option.bind_some]
  obtain ⟨X', g1, g2⟩ := m_acted hM hn hn4 h2 (op_kinds (X.1 471) a1 a2 a3).1
  rw [h3] at g2
  simp only [g1, Option.bind_some]
  exact ⟨X', rfl, g2⟩
theorem r_setScale (hM : MOK L X) (hn : n ≤ 5) (hn4 : X.1 470 4 = nI n) (a1 a2 : Int32) : ∃ X', f_X10_setScale L X 470 a1 a2 = some ((op_scales (X.1 471) a1 a2).1, X') ∧ MA X X' n (op_scales (X.1 471) a1 a2).2 (¬ (op_scales (X.1 471) a1 a2).1 ≤ -100001) := by
  unfold f_X10_setScale
  rw [m_keeps hM, Option.bind_some, if_pos hM.1.1]
  obtain ⟨X2, h1, h2, h3⟩ := m_scales (KXM hM) a1 a2
  rw [KX_d] at h1 h3
  unfold KX at h1
  rw [h1, Option.bind_some]
  obtain ⟨X', g1, g2⟩ := m_acted hM hn hn4 h2 (op_scales (X.1 471) a1 a2).1
  rw [h3] at g2
  simp only [g1, Option.bind_some]
  exact ⟨X', rfl, g2⟩
theorem r_setBias (hM : MOK L X) (hn : n ≤ 5) (hn4 : X.1 470 4 = nI n) (a1 : Int32) : ∃ X', f_X10_setBias L X 470 a1 = some ((op_sets (X.1 471) 10 a1 (-(X.1 471 9)) (X.1 471 9)).1, X') ∧ MA X X' n (op_sets (X.1 471) 10 a1 (-(X.1 471 9)) (X.1 471 9)).2 (¬ (op_sets (X.1 471) 10 a1 (-(X.1 471 9)) (X.1 471 9)).1 ≤ -100001) := by
  unfold f_X10_setBias
  rw [m_keeps hM, Option.bind_some, if_pos hM.1.1]
  obtain ⟨X2, h1, h2, h3⟩ := m_sets (KXM hM) (pl := 10) (by decide) a1 (-(X.1 471 9)) (X.1 471 9)
  rw [KX_d] at h1 h3
  have e9 : (KX X).1 471 9 = X.1 471 9 := by rw [KX_d]
  have r0 : (KX X).2 470 0 = some 471 := hM.2.2.1
  unfold KX at h1 e9 r0
  rw [r0, Option.bind_some, if_pos hM.1.2.1, hM.2.1.1, if_pos (by decide), e9]
  have h1 : f_X10_sets L _ 470 10 a1 (-(X.1 471 9)) (X.1 471 9) = _ := h1
  rw [h1, Option.bind_some]
  obtain ⟨X', g1, g2⟩ := m_acted hM hn hn4 h2 (op_sets (X.1 471) 10 a1 (-(X.1 471 9)) (X.1 471 9)).1
  rw [h3] at g2
  simp only [g1, Option.bind_some]
  exact ⟨X', rfl, g2⟩
theorem r_setRule (hM : MOK L X) (hn : n ≤ 5) (hn4 : X.1 470 4 = nI n) (a1 : Int32) : ∃ X', f_X10_setRule L X 470 a1 = some ((op_sets (X.1 471) 11 a1 0 3).1, X') ∧ MA X X' n (op_sets (X.1 471) 11 a1 0 3).2 (¬ (op_sets (X.1 471) 11 a1 0 3).1 ≤ -100001) := by
  unfold f_X10_setRule
  rw [m_keeps hM, Option.bind_some, if_pos hM.1.1]
  obtain ⟨X2, h1, h2, h3⟩ := m_sets (KXM hM) (pl := 11) (by decide) a1 0 3
  rw [KX_d] at h1 h3
  unfold KX at h1
  have h1 : f_X10_sets L _ 470 11 a1 0 3 = _ := h1
  rw [h1, Option.bind_some]
  obtain ⟨X', g1, g2⟩ := m_acted hM hn hn4 h2 (op_sets (X.1 471) 11 a1 0 3).1
  rw [h3] at g2
  simp only [g1, Option.bind_some]
  exact ⟨X', rfl, g2⟩
theorem r_setFee (hM : MOK L X) (hn : n ≤ 5) (hn4 : X.1 470 4 = nI n) (a1 : Int32) : ∃ X', f_X10_setFee L X 470 a1 = some ((op_sets (X.1 471) 12 a1 0 100).1, X') ∧ MA X X' n (op_sets (X.1 471) 12 a1 0 100).2 (¬ (op_sets (X.1 471) 12 a1 0 100).1 ≤ -100001) := by
  unfold f_X10_setFee
  rw [m_keeps hM, Option.bind_some, if_pos hM.1.1]
  obtain ⟨X2, h1, h2, h3⟩ := m_sets (KXM hM) (pl := 12) (by decide) a1 0 100
  rw [KX_d] at h1 h3
  unfold KX at h1
  have h1 : f_X10_sets L _ 470 12 a1 0 100 = _ := h1
  rw [h1, Option.bind_some]
  obtain ⟨X', g1, g2⟩ := m_acted hM hn hn4 h2 (op_sets (X.1 471) 12 a1 0 100).1
  rw [h3] at g2
  simp only [g1, Option.bind_some]
  exact ⟨X', rfl, g2⟩
theorem r_come (hM : MOK L X) (hn : n ≤ 5) (hn4 : X.1 470 4 = nI n) {cc : Nat} (hc : cc ≤ 6) (e : X.1 471 14 = nI cc) (a1 : Int32) : ∃ X', f_X10_come L X 470 a1 = some ((op_comes (X.1 471) cc a1).1, X') ∧ MA X X' n (op_comes (X.1 471) cc a1).2 (¬ (op_comes (X.1 471) cc a1).1 ≤ -100001) := by
  unfold f_X10_come
  rw [m_keeps hM, Option.bind_some, if_pos hM.1.1]
  obtain ⟨X2, h1, h2, h3⟩ := m_comes (KXM hM) hc (by rw [KX_d]; exact e) a1
  rw [KX_d] at h1 h3
  unfold KX at h1
  rw [h1, Option.bind_some]
  obtain ⟨X', g1, g2⟩ := m_acted hM hn hn4 h2 (op_comes (X.1 471) cc a1).1
  rw [h3] at g2
  simp only [g1, Option.bind_some]
  exact ⟨X', rfl, g2⟩
theorem r_weigh (hM : MOK L X) (hn : n ≤ 5) (hn4 : X.1 470 4 = nI n) (hS : RgS (X.1 471)) {cc : Nat} (hc : cc ≤ 6) (e : X.1 471 14 = nI cc) (a1 a2 a3 a4 : Int32) : ∃ X', f_X10_weigh L X 470 a1 a2 a3 a4 = some ((op_weighs (X.1 471) cc a1 a2 a3 a4).1, X') ∧ MA X X' n (op_weighs (X.1 471) cc a1 a2 a3 a4).2 (¬ (op_weighs (X.1 471) cc a1 a2 a3 a4).1 ≤ -100001) := by
  unfold f_X10_weigh
  rw [m_keeps hM, Option.bind_some, if_pos hM.1.1]
  obtain ⟨X2, h1, h2, h3⟩ := m_weighs (KXM hM) (by rw [KX_d]; exact hS) hc (by rw [KX_d]; exact e) a1 a2 a3 a4
  rw [KX_d] at h1 h3
  unfold KX at h1
  rw [h1, Option.bind_some]
  obtain ⟨X', g1, g2⟩ := m_acted hM hn hn4 h2 (op_weighs (X.1 471) cc a1 a2 a3 a4).1
  rw [h3] at g2
  simp only [g1, Option.bind_some]
  exact ⟨X', rfl, g2⟩
theorem r_claim (hM : MOK L X) (hn : n ≤ 5) (hn4 : X.1 470 4 = nI n) (hS : RgS (X.1 471)) {cc : Nat} {B : Int} (hB : B ≤ 1000000000) (hc : cc ≤ 6) (e : X.1 471 14 = nI cc) (hC : ∀ c, c < cc → RgC B (X.1 471) c) (a1 a2 : Int32) : ∃ X', f_X10_claim L X 470 a1 a2 = some ((op_claims (X.1 471) cc a1 a2).1, X') ∧ MA X X' n (op_claims (X.1 471) cc a1 a2).2 (¬ (op_claims (X.1 471) cc a1 a2).1 ≤ -100001) := by
  unfold f_X10_claim
  rw [m_keeps hM, Option.bind_some, if_pos hM.1.1]
  obtain ⟨X2, h1, h2, h3⟩ := m_claims (KXM hM) (by rw [KX_d]; exact hS) hB hc (by rw [KX_d]; exact e) (by rw [KX_d]; exact hC) a1 a2
  rw [KX_d] at h1 h3
  unfold KX at h1
  rw [h1, Option.bind_some]
  obtain ⟨X', g1, g2⟩ := m_acted hM hn hn4 h2 (op_claims (X.1 471) cc a1 a2).1
  rw [h3] at g2
  simp only [g1, Option.bind_some]
  exact ⟨X', rfl, g2⟩
theorem r_addPrize (hM : MOK L X) (hn : n ≤ 5) (hn4 : X.1 470 4 = nI n) {pc : Nat} (hc : pc ≤ 6) (e : X.1 471 15 = nI pc) (a1 a2 a3 a4 a5 : Int32) : ∃ X', f_X10_addPrize L X 470 a1 a2 a3 a4 a5 = some ((op_adds (X.1 471) pc a1 a2 a3 a4 a5).1, X') ∧ MA X X' n (op_adds (X.1 471) pc a1 a2 a3 a4 a5).2 (¬ (op_adds (X.1 471) pc a1 a2 a3 a4 a5).1 ≤ -100001) := by
  unfold f_X10_addPrize
  rw [m_keeps hM, Option.bind_some, if_pos hM.1.1]
  obtain ⟨X2, h1, h2, h3⟩ := m_adds (KXM hM) hc (by rw [KX_d]; exact e) a1 a2 a3 a4 a5
  rw [KX_d] at h1 h3
  unfold KX at h1
  rw [h1, Option.bind_some]
  obtain ⟨X', g1, g2⟩ := m_acted hM hn hn4 h2 (op_adds (X.1 471) pc a1 a2 a3 a4 a5).1
  rw [h3] at g2
  simp only [g1, Option.bind_some]
  exact ⟨X', rfl, g2⟩
theorem r_buy (hM : MOK L X) (hn : n ≤ 5) (hn4 : X.1 470 4 = nI n) {cc pc : Nat} (hc : cc ≤ 6) (hp : pc ≤ 6) (ec : X.1 471 14 = nI cc) (ep : X.1 471 15 = nI pc) (hR : ∀ p, p < pc → RgP (X.1 471) p) (a1 a2 a3 : Int32) : ∃ X', f_X10_buy L X 470 a1 a2 a3 = some ((op_buys (X.1 471) cc pc a1 a2 a3).1, X') ∧ MA X X' n (op_buys (X.1 471) cc pc a1 a2 a3).2 (¬ (op_buys (X.1 471) cc pc a1 a2 a3).1 ≤ -100001) := by
  unfold f_X10_buy
  rw [m_keeps hM, Option.bind_some, if_pos hM.1.1]
  obtain ⟨X2, h1, h2, h3⟩ := m_buys (KXM hM) hc hp (by rw [KX_d]; exact ec) (by rw [KX_d]; exact ep) (by rw [KX_d]; exact hR) a1 a2 a3
  rw [KX_d] at h1 h3
  unfold KX at h1
  rw [h1, Option.bind_some]
  obtain ⟨X', g1, g2⟩ := m_acted hM hn hn4 h2 (op_buys (X.1 471) cc pc a1 a2 a3).1
  rw [h3] at g2
  simp only [g1, Option.bind_some]
  exact ⟨X', rfl, g2⟩
theorem r_setPrice (hM : MOK L X) (hn : n ≤ 5) (hn4 : X.1 470 4 = nI n) {pc : Nat} (hp : pc ≤ 6) (ep : X.1 471 15 = nI pc) (a1 a2 : Int32) : ∃ X', f_X10_setPrice L X 470 a1 a2 = some ((op_price (X.1 471) pc a1 a2).1, X') ∧ MA X X' n (op_price (X.1 471) pc a1 a2).2 (¬ (op_price (X.1 471) pc a1 a2).1 ≤ -100001) := by
  unfold f_X10_setPrice op_price
  simp only [s_isPrize hM, ep, isR_m1 hp, Option.bind_some, if_pos hM.1.1]
  by_cases h : isR a1 pc
  · obtain ⟨p, hpp, rfl⟩ := isR_of (by omega) h
    simp only [if_pos h, i10, if_false, m_keeps hM, Option.bind_some, n52, nI_clamp (show p < 2 ^ 31 by omega)]
    obtain ⟨X2, h1, h2, h3⟩ := m_sets (KXM hM) (pl := 52 + 7 * p) (by omega) a2 1 5000
    rw [KX_d] at h1 h3
    unfold KX at h1
    rw [h1, Option.bind_some]
    obtain ⟨X', g1, g2⟩ := m_acted hM hn hn4 h2 (op_sets (X.1 471) (52 + 7 * p) a2 1 5000).1
    rw [h3] at g2
    simp only [g1, Option.bind_some]
    exact ⟨X', rfl, g2⟩
  · simp only [if_neg h, i01, if_true]
    exact ⟨X, rfl, MA.no hn4 (fun q => q (by decide))⟩
end MAS
