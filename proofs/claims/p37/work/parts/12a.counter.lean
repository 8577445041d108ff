/-! a counter at b: b the object, b+1 kinds, b+2 scale, b+3 customers, b+4 prizes, then 4 kinds, 6 customers, 6 prizes -/
def COK (L : hL) (b : Nat) : Prop := (tk L b 0 ∧ tk L (b + 1) 16 ∧ L.2.2 (b + 1) = 4 ∧ tk L (b + 2) 7 ∧ tk L (b + 3) 15 ∧ L.2.2 (b + 3) = 6 ∧ tk L (b + 4) 17 ∧ L.2.2 (b + 4) = 6) ∧ (∀ i, i < 4 → tk L (b + 5 + i) 4) ∧ (∀ i, i < 6 → tk L (b + 9 + i) 1) ∧ ∀ i, i < 6 → tk L (b + 15 + i) 5
def CR (X : hX) (b : Nat) (π ρ : Nat → Nat) : Prop := (X.2 b 0 = some (b + 1) ∧ X.2 b 1 = some (b + 2) ∧ X.2 b 2 = some (b + 3) ∧ X.2 b 3 = some (b + 4)) ∧ (∀ i, i < 4 → X.2 (b + 1) i = some (b + 5 + i)) ∧ (∀ i, i < 6 → X.2 (b + 3) i = some (b + 9 + π i)) ∧ (∀ i, i < 6 → X.2 (b + 4) i = some (b + 15 + ρ i)) ∧ (∀ i, i < 6 → π i < 6) ∧ (∀ i, i < 6 → ρ i < 6) ∧ (∀ i j, i < 6 → j < 6 → π i = π j → i = j) ∧ ∀ i j, i < 6 → j < 6 → ρ i = ρ j → i = j
def cA (b : Nat) (π ρ : Nat → Nat) (k : Nat) : Nat := if k < 4 then b + 5 + k else if k < 8 then b + 5 + (k - 4) else if k < 11 then b + 2 else if k < 16 then b else if k < 52 then b + 9 + π ((k - 16) / 6) else b + 15 + ρ ((k - 52) / 7)
def cF (k : Nat) : Nat := if k < 4 then 0 else if k < 8 then 1 else if k < 11 then k - 8 else if k < 14 then k - 5 else if k < 16 then k - 10 else if k < 52 then (k - 16) % 6 else (k - 52) % 7
def CV (X : hX) (b : Nat) (π ρ : Nat → Nat) (v : Nat → Int32) : Prop := ∀ k, k < 94 → X.1 (cA b π ρ k) (cF k) = v k
def CX (L : hL) (X : hX) (b : Nat) (π ρ : Nat → Nat) (v : Nat → Int32) : Prop := COK L b ∧ CR X b π ρ ∧ CV X b π ρ v
theorem cA_inj {X : hX} {b : Nat} {π ρ : Nat → Nat} (h : CR X b π ρ) {k j : Nat} (hk : k < 94) (hj : j < 94) (e1 : cA b π ρ k = cA b π ρ j) (e2 : cF k = cF j) : k = j := by
  obtain ⟨-, -, -, -, p1, p2, p3, p4⟩ := h
  unfold cA at e1
  unfold cF at e2
  have q1 : ∀ x, 16 ≤ x → x < 52 → π ((x - 16) / 6) < 6 := fun x h1 h2 => p1 _ (by omega)
  have q2 : ∀ x, 52 ≤ x → x < 94 → ρ ((x - 52) / 7) < 6 := fun x h1 h2 => p2 _ (by omega)
  have a1 := q1 k
  have a2 := q1 j
  have a3 := q2 k
  have a4 := q2 j
  by_cases c1 : 16 ≤ k ∧ k < 52
  · by_cases c2 : 16 ≤ j ∧ j < 52
    · have e3 : π ((k - 16) / 6) = π ((j - 16) / 6) := by
        rw [if_neg (by omega), if_neg (by omega), if_neg (by omega), if_neg (by omega), if_pos c1.2, if_neg (by omega), if_neg (by omega), if_neg (by omega), if_neg (by omega), if_pos c2.2] at e1
        omega
      have e4 := p3 _ _ (by omega) (by omega) e3
      rw [if_neg (by omega), if_neg (by omega), if_neg (by omega), if_neg (by omega), if_neg (by omega), if_pos c1.2, if_neg (by omega), if_neg (by omega), if_neg (by omega), if_neg (by omega), if_neg (by omega), if_pos c2.2] at e2
      omega
    · repeat' split at e1
      all_goals omega
  · by_cases c3 : 52 ≤ k
    · by_cases c4 : 52 ≤ j
      · have e3 : ρ ((k - 52) / 7) = ρ ((j - 52) / 7) := by
          rw [if_neg (by omega), if_neg (by omega), if_neg (by omega), if_neg (by omega), if_neg (by omega), if_neg (by omega), if_neg (by omega), if_neg (by omega), if_neg (by omega), if_neg (by omega)] at e1
          omega
        have e4 := p4 _ _ (by omega) (by omega) e3
        rw [if_neg (by omega), if_neg (by omega), if_neg (by omega), if_neg (by omega), if_neg (by omega), if_neg (by omega), if_neg (by omega), if_neg (by omega), if_neg (by omega), if_neg (by omega), if_neg (by omega), if_neg (by omega)] at e2
        omega
      · repeat' split at e1
        all_goals omega
    · repeat' split at e1
      all_goals first
        | omega
        | (repeat' split at e2
           all_goals omega)
theorem CX.up {L : hL} {X : hX} {b : Nat} {π ρ : Nat → Nat} {v : Nat → Int32} (h : CX L X b π ρ v) {k : Nat} (hk : k < 94) (x : Int32) : CX L (smi X (cA b π ρ k) (cF k) x) b π ρ (upd v k x) := by
  refine ⟨h.1, h.2.1, fun j hj => ?_⟩
  rw [smi_1]
  by_cases e : j = k
  · subst e
    rw [if_pos ⟨rfl, rfl⟩]
    simp [upd]
  · rw [if_neg (fun q => e (cA_inj h.2.1 hj hk q.1 q.2)), h.2.2 j hj]
    simp [upd, e]
theorem cA_kw {b : Nat} {π ρ : Nat → Nat} {i : Nat} (h : i < 4) : cA b π ρ i = b + 5 + i ∧ cF i = 0 := by
  unfold cA cF; rw [if_pos h, if_pos h]; exact ⟨rfl, rfl⟩
theorem cA_ks {b : Nat} {π ρ : Nat → Nat} {i : Nat} (h : i < 4) : cA b π ρ (4 + i) = b + 5 + i ∧ cF (4 + i) = 1 := by
  unfold cA cF; rw [if_neg (by omega), if_pos (by omega), if_neg (by omega), if_pos (by omega)]; exact ⟨by omega, rfl⟩
theorem cA_sc {b : Nat} {π ρ : Nat → Nat} {j : Nat} (h : j < 3) : cA b π ρ (8 + j) = b + 2 ∧ cF (8 + j) = j := by
  unfold cA cF; rw [if_neg (by omega), if_neg (by omega), if_pos (by omega), if_neg (by omega), if_neg (by omega), if_pos (by omega)]; exact ⟨rfl, by omega⟩
theorem cA_cu {b : Nat} {π ρ : Nat → Nat} {c j : Nat} (hc : c < 6) (hj : j < 6) : cA b π ρ (16 + 6 * c + j) = b + 9 + π c ∧ cF (16 + 6 * c + j) = j := by
  have e : (16 + 6 * c + j - 16) / 6 = c := by omega
  unfold cA cF; rw [if_neg (by omega), if_neg (by omega), if_neg (by omega), if_neg (by omega), if_pos (by omega), if_neg (by omega), if_neg (by omega), if_neg (by omega), if_neg (by omega), if_neg (by omega), if_pos (by omega), e]; exact ⟨rfl, by omega⟩
theorem cA_pr {b : Nat} {π ρ : Nat → Nat} {c j : Nat} (hc : c < 6) (hj : j < 7) : cA b π ρ (52 + 7 * c + j) = b + 15 + ρ c ∧ cF (52 + 7 * c + j) = j := by
  have e : (52 + 7 * c + j - 52) / 7 = c := by omega
  unfold cA cF; rw [if_neg (by omega), if_neg (by omega), if_neg (by omega), if_neg (by omega), if_neg (by omega), if_neg (by omega), if_neg (by omega), if_neg (by omega), if_neg (by omega), if_neg (by omega), if_neg (by omega), e]; exact ⟨rfl, by omega⟩
section CXS
variable {L : hL} {X : hX} {b : Nat} {π ρ : Nat → Nat} {v : Nat → Int32}
theorem CX.kw (h : CX L X b π ρ v) {i : Nat} (hi : i < 4) : X.1 (b + 5 + i) 0 = v i := by have := h.2.2 i (by omega); rwa [(cA_kw hi).1, (cA_kw (b := b) (π := π) (ρ := ρ) hi).2] at this
theorem CX.ks (h : CX L X b π ρ v) {i : Nat} (hi : i < 4) : X.1 (b + 5 + i) 1 = v (4 + i) := by have := h.2.2 (4 + i) (by omega); rwa [(cA_ks hi).1, (cA_ks (b := b) (π := π) (ρ := ρ) hi).2] at this
theorem CX.sc (h : CX L X b π ρ v) {j : Nat} (hj : j < 3) : X.1 (b + 2) j = v (8 + j) := by have := h.2.2 (8 + j) (by omega); rwa [(cA_sc hj).1, (cA_sc (b := b) (π := π) (ρ := ρ) hj).2] at this
theorem CX.cu (h : CX L X b π ρ v) {c j : Nat} (hc : c < 6) (hj : j < 6) : X.1 (b + 9 + π c) j = v (16 + 6 * c + j) := by have := h.2.2 (16 + 6 * c + j) (by omega); rwa [(cA_cu hc hj).1, (cA_cu (b := b) (π := π) (ρ := ρ) hc hj).2] at this
theorem CX.pr (h : CX L X b π ρ v) {c j : Nat} (hc : c < 6) (hj : j < 7) : X.1 (b + 15 + ρ c) j = v (52 + 7 * c + j) := by have := h.2.2 (52 + 7 * c + j) (by omega); rwa [(cA_pr hc hj).1, (cA_pr (b := b) (π := π) (ρ := ρ) hc hj).2] at this
theorem CX.o4 (h : CX L X b π ρ v) : X.1 b 4 = v 14 := h.2.2 14 (by omega)
theorem CX.o5 (h : CX L X b π ρ v) : X.1 b 5 = v 15 := h.2.2 15 (by omega)
theorem CX.o6 (h : CX L X b π ρ v) : X.1 b 6 = v 11 := h.2.2 11 (by omega)
theorem CX.o7 (h : CX L X b π ρ v) : X.1 b 7 = v 12 := h.2.2 12 (by omega)
theorem CX.o8 (h : CX L X b π ρ v) : X.1 b 8 = v 13 := h.2.2 13 (by omega)
theorem CX.wkw (h : CX L X b π ρ v) {i : Nat} (hi : i < 4) (x : Int32) : CX L (smi X (b + 5 + i) 0 x) b π ρ (upd v i x) := by have := h.up (k := i) (by omega) x; rwa [(cA_kw hi).1, (cA_kw (b := b) (π := π) (ρ := ρ) hi).2] at this
theorem CX.wks (h : CX L X b π ρ v) {i : Nat} (hi : i < 4) (x : Int32) : CX L (smi X (b + 5 + i) 1 x) b π ρ (upd v (4 + i) x) := by have := h.up (k := 4 + i) (by omega) x; rwa [(cA_ks hi).1, (cA_ks (b := b) (π := π) (ρ := ρ) hi).2] at this
theorem CX.wsc (h : CX L X b π ρ v) {j : Nat} (hj : j < 3) (x : Int32) : CX L (smi X (b + 2) j x) b π ρ (upd v (8 + j) x) := by have := h.up (k := 8 + j) (by omega) x; rwa [(cA_sc hj).1, (cA_sc (b := b) (π := π) (ρ := ρ) hj).2] at this
theorem CX.wcu (h : CX L X b π ρ v) {c j : Nat} (hc : c < 6) (hj : j < 6) (x : Int32) : CX L (smi X (b + 9 + π c) j x) b π ρ (upd v (16 + 6 * c + j) x) := by have := h.up (k := 16 + 6 * c + j) (by omega) x; rwa [(cA_cu hc hj).1, (cA_cu (b := b) (π := π) (ρ := ρ) hc hj).2] at this
theorem CX.wpr (h : CX L X b π ρ v) {c j : Nat} (hc : c < 6) (hj : j < 7) (x : Int32) : CX L (smi X (b + 15 + ρ c) j x) b π ρ (upd v (52 + 7 * c + j) x) := by have := h.up (k := 52 + 7 * c + j) (by omega) x; rwa [(cA_pr hc hj).1, (cA_pr (b := b) (π := π) (ρ := ρ) hc hj).2] at this
theorem CX.w4 (h : CX L X b π ρ v) (x : Int32) : CX L (smi X b 4 x) b π ρ (upd v 14 x) := h.up (k := 14) (by omega) x
theorem CX.w5 (h : CX L X b π ρ v) (x : Int32) : CX L (smi X b 5 x) b π ρ (upd v 15 x) := h.up (k := 15) (by omega) x
theorem CX.w6 (h : CX L X b π ρ v) (x : Int32) : CX L (smi X b 6 x) b π ρ (upd v 11 x) := h.up (k := 11) (by omega) x
theorem CX.w7 (h : CX L X b π ρ v) (x : Int32) : CX L (smi X b 7 x) b π ρ (upd v 12 x) := h.up (k := 12) (by omega) x
theorem CX.w8 (h : CX L X b π ρ v) (x : Int32) : CX L (smi X b 8 x) b π ρ (upd v 13 x) := h.up (k := 13) (by omega) x
/-! the rows by their numbers -/
theorem c_kindAt (h : CX L X b π ρ v) (k : Int32) : f_X0_kindAt L X b k = some (if 0 ≤ k ∧ k ≤ 3 then some (b + 5 + k.toNatClampNeg) else none) := by
  obtain ⟨⟨⟨t0, t1, l1, -⟩, -⟩, ⟨⟨r0, -⟩, rk, -⟩, -⟩ := h
  unfold f_X0_kindAt
  rw [s_within]
  by_cases hk : 0 ≤ k ∧ k ≤ 3
  · obtain ⟨j, hj, rfl⟩ := kind_of hk
    rw [if_pos hk, if_pos hk]
    simp only [Option.bind_some, i10, if_false, if_pos t0, r0, if_pos t1, l1, if_pos (hin_nI hj (by omega)), nI_clamp (show j < 2 ^ 31 by omega), rk j hj]
  · rw [if_neg hk, if_neg hk]
    simp only [Option.bind_some, i01, if_true]
theorem kt (h : CX L X b π ρ v) {i : Nat} (hi : i < 4) : tk L (b + 5 + i) 4 := h.1.2.1 i hi
theorem ct (h : CX L X b π ρ v) {i : Nat} (hi : i < 6) : tk L (b + 9 + π i) 1 := h.1.2.2.1 _ (h.2.1.2.2.2.2.1 i hi)
theorem pt (h : CX L X b π ρ v) {i : Nat} (hi : i < 6) : tk L (b + 15 + ρ i) 5 := h.1.2.2.2 _ (h.2.1.2.2.2.2.2.1 i hi)
theorem c_changeKind (h : CX L X b π ρ v) (k w s : Int32) : ∃ X', f_X0_changeKind L X b k w s = some ((op_kinds v k w s).1, X') ∧ CX L X' b π ρ (op_kinds v k w s).2 := by
  have t0 := h.1.1.1
  unfold f_X0_changeKind op_kinds
  rw [c_kindAt h]
  simp only [s_within]
  by_cases h1 : 0 ≤ k ∧ k ≤ 3
  · obtain ⟨j, hj, rfl⟩ := kind_of h1
    have ec := nI_clamp (show j < 2 ^ 31 by omega)
    simp only [if_pos h1, Option.bind_some, if_pos t0, Option.elim_some, ec]
    by_cases h2 : 100 ≤ w ∧ w ≤ 5000
    · simp only [if_pos h2, Option.bind_some, i10, if_false]
      by_cases h3 : 0 ≤ s ∧ s ≤ 50
      · simp only [if_pos h3, Option.bind_some, i10, if_false, if_pos (kt h hj), if_pos (And.intro h1 (And.intro h2 h3)), h.kw hj]
        exact ⟨_, rfl, (h.wkw hj w).wks hj s⟩
      · simp only [if_neg h3, Option.bind_some, i01, if_true]
        rw [if_neg (fun q => h3 q.2.2)]
        exact ⟨_, rfl, h⟩
    · simp only [if_neg h2, Option.bind_some, i01, if_true]
      rw [if_neg (fun q => h2 q.2.1)]
      exact ⟨_, rfl, h⟩
  · simp only [if_neg h1, Option.bind_some, if_pos t0, Option.elim_none]
    rw [if_neg (fun q => h1 q.1)]
    exact ⟨_, rfl, h⟩
end CXS
