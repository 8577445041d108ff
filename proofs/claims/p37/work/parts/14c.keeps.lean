/-! the reference's rows of states -/
def srow (X : hX) (a : Nat) (g : Nat → Int32) : hX := (fun k j => if k = a then g j else X.1 k j, X.2)
theorem srow_s {X : hX} {a : Nat} {g : Nat → Int32} : (srow X a g).1 a = g := by
  funext j
  exact if_pos rfl
theorem srow_o {X : hX} {a b : Nat} {g : Nat → Int32} (h : b ≠ a) : (srow X a g).1 b = X.1 b := by
  funext j
  exact if_neg h
theorem smi_row {X : hX} {a i : Nat} {v : Int32} : smi X a i v = srow X a (upd (X.1 a) i v) := by
  refine Prod.ext ?_ rfl
  funext k j
  show (if k = a ∧ j = i then v else X.1 k j) = (if k = a then (if j = i then v else X.1 a j) else X.1 k j)
  by_cases h : k = a
  · subst h
    by_cases h2 : j = i
    · rw [if_pos ⟨rfl, h2⟩, if_pos rfl, if_pos h2]
    · rw [if_neg (fun q => h2 q.2), if_pos rfl, if_neg h2]
  · rw [if_neg (fun q => h q.1), if_neg h]
theorem srow_srow {X : hX} {a : Nat} {g g' : Nat → Int32} : srow (srow X a g) a g' = srow X a g' := by
  refine Prod.ext ?_ rfl
  funext k j
  show (if k = a then g' j else (if k = a then g j else X.1 k j)) = (if k = a then g' j else X.1 k j)
  by_cases h : k = a
  · rw [if_pos h, if_pos h]
  · rw [if_neg h, if_neg h, if_neg h]
theorem srow_id {X : hX} {a : Nat} : srow X a (X.1 a) = X := by
  refine Prod.ext ?_ rfl
  funext k j
  show (if k = a then X.1 a j else X.1 k j) = X.1 k j
  by_cases h : k = a
  · rw [if_pos h, h]
  · rw [if_neg h]
theorem nge {i n : Nat} (hi : i < 2147483648) (hn : n < 2147483648) (h : i < n) : ¬ nI n ≤ nI i := fun z => absurd ((nle hi hn).mp z) (by omega)
section KP
variable {L : hL}
/-- the row of earlier states with one more -/
def pw (w : Nat → Int32) (n : Nat) (src : Nat → Int32) (k : Nat) : Int32 := if 284 * n ≤ k ∧ k < 284 * n + 284 then src (k - 284 * n) else w k
theorem n284 (c i : Nat) : (284 : Int32) * nI c + nI i = nI (284 * c + i) := by rw [show (284 : Int32) = nI 284 from rfl, pk_mul, nI_add]
end KP
