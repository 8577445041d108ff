/-! the reference's heap: 470 the object, 471 d, 472 aside, 473 begun, 474 was, 475 text, 476 failed, 477 got -/
theorem smi_d {X : hX} {a i : Nat} {v : Int32} : (smi X a i v).1 a = upd (X.1 a) i v := by
  funext j
  simp [smi, upd]
theorem smi_o {X : hX} {a b i : Nat} {v : Int32} (h : b ≠ a) : (smi X a i v).1 b = X.1 b := by
  funext j
  simp [smi, h]
theorem i01 : ((0 : Int32) = 0) = True := by decide
theorem i10 : ((1 : Int32) = 0) = False := by decide
theorem i11 : ((1 : Int32) = 1) = True := by decide
theorem i0or : ((0 : Int32) = 0 ∨ (0 : Int32) = 1) = True := by decide
theorem i1or : ((1 : Int32) = 0 ∨ (1 : Int32) = 1) = True := by decide
theorem hin_nI {k n : Nat} (h : k < n) (h2 : k < 2147483648) : hin (nI k) n := ⟨nI_pos' (by omega), by rw [nI_clamp (by omega)]; exact h⟩
theorem nz (k : Nat) : ∀ n : Nat, (OfNat.ofNat n : Nat) = n := fun _ => rfl
theorem n4 (j : Nat) : (4 : Int32) + nI j = nI (4 + j) := nI_add 4 j
theorem n16 (c : Nat) : (16 : Int32) + 6 * nI c = nI (16 + 6 * c) := by rw [show (6 : Int32) = nI 6 from rfl, pk_mul]; exact nI_add 16 _
theorem n52 (c : Nat) : (52 : Int32) + 7 * nI c = nI (52 + 7 * c) := by rw [show (7 : Int32) = nI 7 from rfl, pk_mul]; exact nI_add 52 _
theorem nk1 (c : Nat) : nI c + 1 = nI (c + 1) := nI_1 c
theorem nk0 (c : Nat) : nI c + 0 = nI c := nI_add c 0
theorem nk2 (c : Nat) : nI c + 2 = nI (c + 2) := nI_add c 2
theorem nk3 (c : Nat) : nI c + 3 = nI (c + 3) := nI_add c 3
theorem nk4 (c : Nat) : nI c + 4 = nI (c + 4) := nI_add c 4
theorem nk5 (c : Nat) : nI c + 5 = nI (c + 5) := nI_add c 5
theorem nk6 (c : Nat) : nI c + 6 = nI (c + 6) := nI_add c 6
/-! what the commands do, over the numbers of one counter -/
def op_kinds (v : Nat → Int32) (k w s : Int32) : Int32 × (Nat → Int32) := if (0 ≤ k ∧ k ≤ 3) ∧ (100 ≤ w ∧ w ≤ 5000) ∧ 0 ≤ s ∧ s ≤ 50 then (v k.toNatClampNeg, upd (upd v k.toNatClampNeg w) (4 + k.toNatClampNeg) s) else (-100001, v)
def op_sets (v : Nat → Int32) (place : Nat) (x lo hi : Int32) : Int32 × (Nat → Int32) := if lo ≤ x ∧ x ≤ hi then (v place, upd v place x) else (-100001, v)
def clampB (b l : Int32) : Int32 := if b ≤ l then (if -l ≤ b then b else -l) else l
def op_scales (v : Nat → Int32) (st lm : Int32) : Int32 × (Nat → Int32) := if (1 ≤ st ∧ st ≤ 1000) ∧ 0 ≤ lm ∧ lm ≤ 2000 then (clampB (v 10) lm, upd (upd (upd v 8 st) 9 lm) 10 (clampB (v 10) lm)) else (-100001, v)
theorem kind_of {k : Int32} (h : 0 ≤ k ∧ k ≤ 3) : ∃ j, j < 4 ∧ k = nI j := by
  have e : (3 : Int32).toInt = 3 := by decide
  have e0 : (0 : Int32).toInt = 0 := by decide
  have h1 := i_le.mp h.1
  have h2 := i_le.mp h.2
  obtain ⟨j, hj, rfl⟩ := nI_of2 (x := k) (M := 3) (n := 3) (by decide) (fun q => by rw [i_lt] at q; omega) h.2
  exact ⟨j, by omega, rfl⟩
