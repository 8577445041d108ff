/-! the reference's heap: 470 the object, 471 d, 472 aside, 473 begun, 474 was, 475 text, 476 failed, 477 got -/
def MOK (L : hL) (X : hX) : Prop := (tk L 470 10 ∧ tk L 471 12 ∧ tk L 472 12 ∧ tk L 473 12 ∧ tk L 474 12 ∧ tk L 475 11 ∧ tk L 476 12 ∧ tk L 477 12) ∧ (L.2.2 471 = 284 ∧ L.2.2 472 = 284 ∧ L.2.2 473 = 284 ∧ L.2.2 474 = 1420 ∧ L.2.2 475 = 140 ∧ L.2.2 476 = 5 ∧ L.2.2 477 = 5) ∧ (X.2 470 0 = some 471 ∧ X.2 470 1 = some 472 ∧ X.2 470 2 = some 473 ∧ X.2 470 3 = some 474 ∧ X.2 470 5 = some 475 ∧ X.2 470 7 = some 476 ∧ X.2 470 12 = some 477)
/-- the same up to d and to what is only scratch -/
def SC (X Y : hX) : Prop := Y.2 = X.2 ∧ ∀ k j, k ≠ 471 → k ≠ 477 → ¬ (k = 470 ∧ (j = 13 ∨ j = 14)) → Y.1 k j = X.1 k j
theorem SC.rf {X : hX} : SC X X := ⟨rfl, fun _ _ _ _ _ => rfl⟩
theorem SC.tr {X Y Z : hX} (h1 : SC X Y) (h2 : SC Y Z) : SC X Z := ⟨h2.1.trans h1.1, fun k j a d e => (h2.2 k j a d e).trans (h1.2 k j a d e)⟩
theorem SC.d {X Y : hX} {i : Nat} {v : Int32} (h : SC X Y) : SC X (smi Y 471 i v) := ⟨h.1, fun k j a d e => by rw [smi_1, if_neg (fun (q : k = 471 ∧ j = i) => a q.1)]; exact h.2 k j a d e⟩
theorem SC.s {X Y : hX} {i : Nat} {v : Int32} (h : SC X Y) (hi : i = 13 ∨ i = 14) : SC X (smi Y 470 i v) := ⟨h.1, fun k j a d e => by rw [smi_1, if_neg (fun (q : k = 470 ∧ j = i) => e ⟨q.1, q.2 ▸ hi⟩)]; exact h.2 k j a d e⟩
theorem SC.g {X Y : hX} {i : Nat} {v : Int32} (h : SC X Y) : SC X (smi Y 477 i v) := ⟨h.1, fun k j a d e => by rw [smi_1, if_neg (fun (q : k = 477 ∧ j = i) => d q.1)]; exact h.2 k j a d e⟩
theorem SC.row {X Y : hX} (h : SC X Y) {k : Nat} (h1 : k ≠ 471) (h2 : k ≠ 477) (h3 : k ≠ 470) : Y.1 k = X.1 k := funext (fun j => h.2 k j h1 h2 (fun q => h3 q.1))
theorem SC.fld {X Y : hX} (h : SC X Y) {j : Nat} (hj : ¬ (j = 9 ∨ j = 10 ∨ j = 11 ∨ j = 13 ∨ j = 14)) : Y.1 470 j = X.1 470 j := h.2 470 j (by decide) (by decide) (fun q => hj (q.2.elim (fun z => Or.inr (Or.inr (Or.inr (Or.inl z)))) (fun z => Or.inr (Or.inr (Or.inr (Or.inr z))))))
theorem MOK.sc {L : hL} {X Y : hX} (h : MOK L X) (hs : SC X Y) : MOK L Y := ⟨h.1, h.2.1, by rw [hs.1]; exact h.2.2⟩
theorem smi_d {X : hX} {a i : Nat} {v : Int32} : (smi X a i v).1 a = upd (X.1 a) i v := by
  funext j
  simp [smi, upd]
theorem smi_o {X : hX} {a b i : Nat} {v : Int32} (h : b ≠ a) : (smi X a i v).1 b = X.1 b := by
  funext j
  simp [smi, h]
theorem i01 : ((0 : Int32) = 0) = True := by decide
theorem i10 : ((1 : Int32) = 0) = False := by decide
theorem i11 : ((1 : Int32) = 1) = True := by decide
theorem i0or : ((0 : Int32) = 0 ∨ (0 : Int32) = 1) = True := by decide
theorem i1or : ((1 : Int32) = 0 ∨ (1 : Int32) = 1) = True := by decide
theorem hin_nI {k n : Nat} (h : k < n) (h2 : k < 2147483648) : hin (nI k) n := ⟨nI_pos' (by omega), by rw [nI_clamp (by omega)]; exact h⟩
theorem nz (k : Nat) : ∀ n : Nat, (OfNat.ofNat n : Nat) = n := fun _ => rfl
theorem n4 (j : Nat) : (4 : Int32) + nI j = nI (4 + j) := nI_add 4 j
theorem n16 (c : Nat) : (16 : Int32) + 6 * nI c = nI (16 + 6 * c) := by rw [show (6 : Int32) = nI 6 from rfl, pk_mul]; exact nI_add 16 _
theorem n52 (c : Nat) : (52 : Int32) + 7 * nI c = nI (52 + 7 * c) := by rw [show (7 : Int32) = nI 7 from rfl, pk_mul]; exact nI_add 52 _
theorem nk1 (c : Nat) : nI c + 1 = nI (c + 1) := nI_1 c
theorem nk0 (c : Nat) : nI c + 0 = nI c := nI_add c 0
theorem nk2 (c : Nat) : nI c + 2 = nI (c + 2) := nI_add c 2
theorem nk3 (c : Nat) : nI c + 3 = nI (c + 3) := nI_add c 3
theorem nk4 (c : Nat) : nI c + 4 = nI (c + 4) := nI_add c 4
theorem nk5 (c : Nat) : nI c + 5 = nI (c + 5) := nI_add c 5
theorem nk6 (c : Nat) : nI c + 6 = nI (c + 6) := nI_add c 6
theorem s_in {L : hL} {X : hX} {a lo hi : Int32} : f_X10_in L X a lo hi = some (if lo ≤ a ∧ a ≤ hi then 1 else 0) := by
  unfold f_X10_in
  by_cases h1 : a < lo
  · rw [if_pos h1, if_neg (fun h => by have := i_le.mp h.1; rw [i_lt] at h1; omega)]
  · rw [if_neg h1]
    by_cases h2 : hi < a
    · rw [if_pos h2, if_neg (fun h => by have := i_le.mp h.2; rw [i_lt] at h2; omega)]
    · rw [if_neg h2, if_pos ⟨by rw [i_le]; rw [i_lt] at h1; omega, by rw [i_le]; rw [i_lt] at h2; omega⟩]
theorem s_isKind {L : hL} {X : hX} {a : Int32} : f_X10_isKind L X a = some (if 0 ≤ a ∧ a ≤ 3 then 1 else 0) := by
  unfold f_X10_isKind
  rw [s_in]
  by_cases h : 0 ≤ a ∧ a ≤ 3
  · simp only [if_pos h, Option.bind_some, i1or, or_true, if_true]
  · simp only [if_neg h, Option.bind_some, i0or, true_or, if_true]
theorem s_isCustomer {L : hL} {X : hX} {a : Int32} (h : MOK L X) : f_X10_isCustomer L X 470 a = some (if 0 ≤ a ∧ a ≤ X.1 471 14 - 1 then 1 else 0) := by
  obtain ⟨⟨t0, t1, -⟩, ⟨l1, -⟩, ⟨r0, -⟩⟩ := h
  unfold f_X10_isCustomer
  rw [if_pos t0, r0]
  simp only [Option.bind_some, if_pos t1, l1, s_in, show (14 < 284) = True from by decide, if_true]
  by_cases h : 0 ≤ a ∧ a ≤ X.1 471 14 - 1
  · simp only [if_pos h, i1or, or_true, if_true]
  · simp only [if_neg h, i0or, true_or, if_true]
theorem s_isPrize {L : hL} {X : hX} {a : Int32} (h : MOK L X) : f_X10_isPrize L X 470 a = some (if 0 ≤ a ∧ a ≤ X.1 471 15 - 1 then 1 else 0) := by
  obtain ⟨⟨t0, t1, -⟩, ⟨l1, -⟩, ⟨r0, -⟩⟩ := h
  unfold f_X10_isPrize
  rw [if_pos t0, r0]
  simp only [Option.bind_some, if_pos t1, l1, s_in, show (15 < 284) = True from by decide, if_true]
  by_cases h : 0 ≤ a ∧ a ≤ X.1 471 15 - 1
  · simp only [if_pos h, i1or, or_true, if_true]
  · simp only [if_neg h, i0or, true_or, if_true]
theorem s_of {L : hL} {X : hX} {c j : Nat} (h : MOK L X) (hc : c < 6) (hj : j < 6) : f_X10_of L X 470 (nI c) (nI j) = some (X.1 471 (16 + 6 * c + j)) := by
  obtain ⟨⟨t0, t1, -⟩, ⟨l1, -⟩, ⟨r0, -⟩⟩ := h
  unfold f_X10_of
  rw [if_pos t0, r0, Option.bind_some, if_pos t1, l1, n16, nI_add, if_pos (hin_nI (by omega) (by omega)), nI_clamp (by omega)]
theorem s_priced {L : hL} {X : hX} {c j : Nat} (h : MOK L X) (hc : c < 6) (hj : j < 7) : f_X10_priced L X 470 (nI c) (nI j) = some (X.1 471 (52 + 7 * c + j)) := by
  obtain ⟨⟨t0, t1, -⟩, ⟨l1, -⟩, ⟨r0, -⟩⟩ := h
  unfold f_X10_priced
  rw [if_pos t0, r0, Option.bind_some, if_pos t1, l1, n52, nI_add, if_pos (hin_nI (by omega) (by omega)), nI_clamp (by omega)]
/-! what the commands do, over the numbers of one counter -/
def op_kinds (v : Nat → Int32) (k w s : Int32) : Int32 × (Nat → Int32) := if (0 ≤ k ∧ k ≤ 3) ∧ (100 ≤ w ∧ w ≤ 5000) ∧ 0 ≤ s ∧ s ≤ 50 then (v k.toNatClampNeg, upd (upd v k.toNatClampNeg w) (4 + k.toNatClampNeg) s) else (-100001, v)
def op_sets (v : Nat → Int32) (place : Nat) (x lo hi : Int32) : Int32 × (Nat → Int32) := if lo ≤ x ∧ x ≤ hi then (v place, upd v place x) else (-100001, v)
def clampB (b l : Int32) : Int32 := if b ≤ l then (if -l ≤ b then b else -l) else l
def op_scales (v : Nat → Int32) (st lm : Int32) : Int32 × (Nat → Int32) := if (1 ≤ st ∧ st ≤ 1000) ∧ 0 ≤ lm ∧ lm ≤ 2000 then (clampB (v 10) lm, upd (upd (upd v 8 st) 9 lm) 10 (clampB (v 10) lm)) else (-100001, v)
theorem kind_of {k : Int32} (h : 0 ≤ k ∧ k ≤ 3) : ∃ j, j < 4 ∧ k = nI j := by
  have e : (3 : Int32).toInt = 3 := by decide
  have e0 : (0 : Int32).toInt = 0 := by decide
  have h1 := i_le.mp h.1
  have h2 := i_le.mp h.2
  obtain ⟨j, hj, rfl⟩ := nI_of2 (x := k) (M := 3) (n := 3) (by decide) (fun q => by rw [i_lt] at q; omega) h.2
  exact ⟨j, by omega, rfl⟩
theorem m_kinds {L : hL} {X : hX} (hM : MOK L X) (k w s : Int32) : ∃ X', f_X10_kinds L X 470 k w s = some ((op_kinds (X.1 471) k w s).1, X') ∧ SC X X' ∧ X'.1 471 = (op_kinds (X.1 471) k w s).2 := by
  obtain ⟨⟨t0, t1, -⟩, ⟨l1, -⟩, ⟨r0, -⟩⟩ := hM
  unfold f_X10_kinds op_kinds
  simp only [s_isKind, s_in]
  by_cases h1 : 0 ≤ k ∧ k ≤ 3
  · obtain ⟨j, hj, rfl⟩ := kind_of h1
    simp only [if_pos h1, Option.bind_some, i10, if_false]
    by_cases h2 : 100 ≤ w ∧ w ≤ 5000
    · simp only [if_pos h2, Option.bind_some, i10, if_false]
      by_cases h3 : 0 ≤ s ∧ s ≤ 50
      · simp only [if_pos h3, Option.bind_some, i10, if_false, if_pos t0, r0, if_pos t1, l1, n4, if_pos (hin_nI (n := 284) (show j < 284 by omega) (by omega)), if_pos (hin_nI (n := 284) (show 4 + j < 284 by omega) (by omega)), nI_clamp (show j < 2 ^ 31 by omega), nI_clamp (show 4 + j < 2 ^ 31 by omega), if_pos (And.intro h1 (And.intro h2 h3))]
        exact ⟨_, rfl, SC.rf.d.d, by rw [smi_d, smi_d]⟩
      · simp only [if_neg h3, Option.bind_some, i01, if_true]
        rw [if_neg (fun q => h3 q.2.2)]
        exact ⟨_, rfl, SC.rf, rfl⟩
    · simp only [if_neg h2, Option.bind_some, i01, if_true]
      rw [if_neg (fun q => h2 q.2.1)]
      exact ⟨_, rfl, SC.rf, rfl⟩
  · simp only [if_neg h1, Option.bind_some, i01, if_true]
    rw [if_neg (fun q => h1 q.1)]
    exact ⟨_, rfl, SC.rf, rfl⟩
theorem m_sets {L : hL} {X : hX} (hM : MOK L X) {pl : Nat} (hp : pl < 284) (x lo hi : Int32) : ∃ X', f_X10_sets L X 470 (nI pl) x lo hi = some ((op_sets (X.1 471) pl x lo hi).1, X') ∧ SC X X' ∧ X'.1 471 = (op_sets (X.1 471) pl x lo hi).2 := by
  obtain ⟨⟨t0, t1, -⟩, ⟨l1, -⟩, ⟨r0, -⟩⟩ := hM
  unfold f_X10_sets op_sets
  simp only [s_in]
  by_cases h1 : lo ≤ x ∧ x ≤ hi
  · simp only [if_pos h1, Option.bind_some, i10, if_false, if_pos t0, r0, if_pos t1, l1, if_pos (hin_nI hp (by omega)), nI_clamp (show pl < 2 ^ 31 by omega)]
    exact ⟨_, rfl, SC.rf.d, smi_d⟩
  · simp only [if_neg h1, Option.bind_some, i01, if_true]
    exact ⟨_, rfl, SC.rf, rfl⟩
theorem m_scales {L : hL} {X : hX} (hM : MOK L X) (st lm : Int32) : ∃ X', f_X10_scales L X 470 st lm = some ((op_scales (X.1 471) st lm).1, X') ∧ SC X X' ∧ X'.1 471 = (op_scales (X.1 471) st lm).2 := by
  obtain ⟨⟨t0, t1, -⟩, ⟨l1, -⟩, ⟨r0, -⟩⟩ := hM
  unfold f_X10_scales op_scales
  simp only [s_in]
  by_cases h1 : 1 ≤ st ∧ st ≤ 1000
  · simp only [if_pos h1, Option.bind_some, i10, if_false]
    by_cases h2 : 0 ≤ lm ∧ lm ≤ 2000
    · have e10 : (smi (smi X 471 8 st) 471 9 lm).1 471 10 = X.1 471 10 := by rw [smi_d, smi_d]; simp [upd]
      simp only [if_pos h2, Option.bind_some, i10, if_false, if_pos t0, r0, if_pos t1, l1, show (8 < 284) = True from by decide, show (9 < 284) = True from by decide, show (10 < 284) = True from by decide, if_true, e10, if_pos (And.intro h1 h2)]
      have z : ∀ y : Int32, (smi (smi (smi X 471 8 st) 471 9 lm) 471 10 y).1 471 10 = y := fun y => by rw [smi_d]; simp [upd]
      unfold clampB
      by_cases h3 : X.1 471 10 ≤ lm
      · by_cases h4 : -lm ≤ X.1 471 10
        · simp only [if_pos h3, if_pos h4, z]
          exact ⟨_, rfl, SC.rf.d.d.d, by rw [smi_d, smi_d, smi_d]⟩
        · simp only [if_pos h3, if_neg h4, z]
          exact ⟨_, rfl, SC.rf.d.d.d, by rw [smi_d, smi_d, smi_d]⟩
      · simp only [if_neg h3, z]
        exact ⟨_, rfl, SC.rf.d.d.d, by rw [smi_d, smi_d, smi_d]⟩
    · simp only [if_neg h2, Option.bind_some, i01, if_true]
      rw [if_neg (fun q => h2 q.2)]
      exact ⟨_, rfl, SC.rf, rfl⟩
  · simp only [if_neg h1, Option.bind_some, i01, if_true]
    rw [if_neg (fun q => h1 q.1)]
    exact ⟨_, rfl, SC.rf, rfl⟩
