/-! snapshots and undo -/
section SN
variable {B : Int} {L : hL} {X : hX}
theorem Vu_self {V : Nat → Nat → Int32} {r : Nat} {U : Nat → Int32} (h : V r = U) : Vu V r U = V := by
  funext q
  unfold Vu
  by_cases c : q = r
  · rw [if_pos c, c, h]
  · rw [if_neg c]
theorem RV.pts {v w : Nat → Int32} {n m : Nat} (h : RV B v w n m) : smx (fun c => v (16 + 6 * c)) 6 = smx (fun c => w (16 + 6 * c)) n := by
  have hn := h.1.1
  have := smx_cut (f := fun c => v (16 + 6 * c)) (g := fun c => w (16 + 6 * c)) (n := n) (fun i hi => (h.2.1 i hi).2.1) (6 - n) (fun i h1 h2 => (h.2.2.1 i h1 (by omega)).1)
  rwa [show n + (6 - n) = 6 by omega] at this
theorem RV.ptsE {v w : Nat → Int32} {n m : Nat} (h : RV B v w n m) (hB0 : 0 ≤ B) (hB : B ≤ 300000000) : ER (smx (fun c => v (16 + 6 * c)) 6) := by
  refine ERp ?_
  have := (smx_b (f := fun c => v (16 + 6 * c)) hB0 6 (by omega) (fun i hi => by
    by_cases c : i < n
    · exact (h.C i c).1
    · show 0 ≤ (v (16 + 6 * i)).toInt ∧ (v (16 + 6 * i)).toInt ≤ B
      rw [(h.2.2.1 i (by omega) hi).1, z0i]
      omega)).1
  omega
theorem RVS.fill {V d : Nat → Int32} (h : RVS B V d) {i : Nat} (hi2 : i < 2) : RVS B (op_fill V i) (rg_take d i) := by
  obtain ⟨⟨n, m, h1⟩, h2⟩ := h
  have f : ∀ k, k < 94 + 95 * i ∨ 94 + 95 * i + 95 ≤ k → op_fill V i k = V k := fun k hk => by
    unfold op_fill ovr
    rw [pk_un (by omega)]
    exact if_neg (by omega)
  have g : ∀ k, k < 94 + 95 * i ∨ 94 + 95 * i + 95 ≤ k → rg_take d i k = d k := fun k hk => by
    unfold rg_take
    rw [if_neg (by omega), pk_un (by omega)]
  have f1 : op_fill V i (94 + 95 * i) = 1 := by
    unfold op_fill
    rw [pk_us]
  have g1 : rg_take d i (94 + 95 * i) = 1 := by
    unfold rg_take
    rw [if_neg (by omega), pk_us]
  have f2 : ∀ k, k < 94 → op_fill V i (95 + 95 * i + k) = V k := fun k hk => by
    unfold op_fill
    rw [pk_un (by omega)]
    unfold ovr
    rw [if_pos (by omega), show 95 + 95 * i + k - (95 + 95 * i) = k by omega]
  have g2 : ∀ k, k < 94 → rg_take d i (95 + 95 * i + k) = d k := fun k hk => by
    unfold rg_take
    rw [if_pos (by omega), show 95 + 95 * i + k - (95 + 95 * i) = k by omega, pk_un (by omega)]
  refine ⟨⟨n, m, h1.ext (fun k hk => (f k (by omega)).symm) (fun k hk => (g k (by omega)).symm)⟩, fun j hj => ?_⟩
  by_cases c : j = i
  · subst c
    rw [f1, g1]
    exact ⟨rfl, Or.inr ⟨rfl, n, m, h1.ext (fun k hk => (f2 k hk).symm) (fun k hk => (g2 k hk).symm)⟩⟩
  · rw [f _ (by omega), g _ (by omega)]
    exact ⟨(h2 j hj).1, (h2 j hj).2.imp id (fun ⟨q, n', m', h3⟩ => ⟨q, n', m', h3.ext (fun k hk => (f _ (by omega)).symm) (fun k hk => (g _ (by omega)).symm)⟩)⟩
theorem RVS.use {V d : Nat → Int32} (h : RVS B V d) {i : Nat} (hi2 : i < 2) (hf : ¬ V (94 + 95 * i) = 0) : RVS B (ovr V 0 (fun k => V (95 + 95 * i + k))) (rg_rest d i) := by
  obtain ⟨n, m, h1⟩ := ((h.2 i hi2).2.resolve_left hf).2
  refine h.cmd (Int.le_refl _) ⟨n, m, h1.ext (fun k hk => rfl) (fun k hk => ?_)⟩ (fun k hk => ?_)
  · unfold rg_rest
    rw [if_pos (by omega)]
  · unfold rg_rest
    rw [if_neg (by omega)]
end SN
