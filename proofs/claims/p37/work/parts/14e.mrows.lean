/-! the reference: rows that go, snapshots, undo -/
def rg_leave (d : Nat → Int32) (c m k : Nat) : Int32 := if 16 + 6 * c ≤ k ∧ k < 16 + 6 * m then d (k + 6) else d k
def rg_remove (d : Nat → Int32) (c m k : Nat) : Int32 := if 52 + 7 * c ≤ k ∧ k < 52 + 7 * m then d (k + 7) else d k
def rop_leave (d : Nat → Int32) (cc : Nat) (c : Int32) : Int32 × (Nat → Int32) := if isR c cc then (d (16 + 6 * c.toNatClampNeg), rg_leave (upd d 14 (d 14 - 1)) c.toNatClampNeg (cc - 1)) else (-100001, d)
def rop_remove (d : Nat → Int32) (pc : Nat) (c : Int32) : Int32 × (Nat → Int32) := if isR c pc then (d (52 + 7 * c.toNatClampNeg + 2), rg_remove (upd d 15 (d 15 - 1)) c.toNatClampNeg (pc - 1)) else (-100001, d)
theorem n6 (c : Nat) : (6 : Int32) * nI c = nI (6 * c) := by rw [show (6 : Int32) = nI 6 from rfl, pk_mul]
theorem n7 (c : Nat) : (7 : Int32) * nI c = nI (7 * c) := by rw [show (7 : Int32) = nI 7 from rfl, pk_mul]
theorem n16' (j : Nat) : (16 : Int32) + nI j = nI (16 + j) := nI_add 16 j
theorem n52' (j : Nat) : (52 : Int32) + nI j = nI (52 + j) := nI_add 52 j
theorem nk7 (c : Nat) : nI c + 7 = nI (c + 7) := nI_add c 7
theorem nm1s {c : Nat} (h : 0 < c) : nI c - 1 = nI (c - 1) := by
  have := nm1' (c - 1)
  rwa [show c - 1 + 1 = c by omega] at this
section MR
variable {L : hL}
variable {X : hX} {n : Nat}
theorem n94 (i : Nat) : (94 : Int32) + 95 * nI i = nI (94 + 95 * i) := by rw [show (95 : Int32) = nI 95 from rfl, pk_mul]; exact nI_add 94 _
def rg_take (d : Nat → Int32) (i j : Nat) : Int32 := if 95 + 95 * i + 0 ≤ j ∧ j < 95 + 95 * i + 94 then upd d (94 + 95 * i) 1 (j - (95 + 95 * i)) else upd d (94 + 95 * i) 1 j
def rg_rest (d : Nat → Int32) (i j : Nat) : Int32 := if 0 ≤ j ∧ j < 94 then d (95 + 95 * i + j) else d j
def rop_take (d : Nat → Int32) (cc : Nat) (a : Int32) : Int32 × (Nat → Int32) := if 0 ≤ a ∧ a ≤ 1 then (smx (fun c => d (16 + 6 * c)) cc, rg_take d a.toNatClampNeg) else (-100001, d)
def rop_restore (d : Nat → Int32) (cs : Nat → Nat) (a : Int32) : Int32 × (Nat → Int32) := if 0 ≤ a ∧ a ≤ 1 then (if d (94 + 95 * a.toNatClampNeg) = 0 then (-100002, d) else (smx (fun c => d (95 + 95 * a.toNatClampNeg + (16 + 6 * c))) (cs a.toNatClampNeg), rg_rest d a.toNatClampNeg)) else (-100001, d)
end MR
