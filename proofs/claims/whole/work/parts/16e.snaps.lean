/-! snapshots and undo -/
section SN
variable {B : Int} {L : hL} {X : hX}
theorem Vu_self {V : Nat → Nat → Int32} {r : Nat} {U : Nat → Int32} (h : V r = U) : Vu V r U = V := by
  funext q
  unfold Vu
  by_cases c : q = r
  · rw [if_pos c, c, h]
  · rw [if_neg c]
theorem RV.pts {v w : Nat → Int32} {n m : Nat} (h : RV B v w n m) : smx (fun c => v (16 + 6 * c)) 6 = smx (fun c => w (16 + 6 * c)) n := by
  have hn := h.1.1
  have := smx_cut (f := fun c => v (16 + 6 * c)) (g := fun c => w (16 + 6 * c)) (n := n) (fun i hi => (h.2.1 i hi).2.1) (6 - n) (fun i h1 h2 => (h.2.2.1 i h1 (by omega)).1)
  rwa [show n + (6 - n) = 6 by omega] at this
theorem RV.ptsE {v w : Nat → Int32} {n m : Nat} (h : RV B v w n m) (hB0 : 0 ≤ B) (hB : B ≤ 300000000) : ER (smx (fun c => v (16 + 6 * c)) 6) := by
  refine ERp ?_
  have := (smx_b (f := fun c => v (16 + 6 * c)) hB0 6 (by omega) (fun i hi => by
    by_cases c : i < n
    · exact (h.C i c).1
    · show 0 ≤ (v (16 + 6 * i)).toInt ∧ (v (16 + 6 * i)).toInt ≤ B
      rw [(h.2.2.1 i (by omega) hi).1, z0i]
      omega)).1
  omega
theorem RVS.fill {V d : Nat → Int32} (h : RVS B V d) {i : Nat} (hi2 : i < 2) : RVS B (op_fill V i) (rg_take d i) := by
  obtain ⟨⟨n, m, h1⟩, h2⟩ := h
  have f : ∀ k, k < 94 + 95 * i ∨ 94 + 95 * i + 95 ≤ k → op_fill V i k = V k := fun k hk => by
    unfold op_fill ovr
    rw [pk_un (by omega)]
    exact if_neg (by omega)
  have g : ∀ k, k < 94 + 95 * i ∨ 94 + 95 * i + 95 ≤ k → rg_take d i k = d k := fun k hk => by
    unfold rg_take
    rw [if_neg (by omega), pk_un (by omega)]
  have f1 : op_fill V i (94 + 95 * i) = 1 := by
    unfold op_fill
    rw [pk_us]
  have g1 : rg_take d i (94 + 95 * i) = 1 := by
    unfold rg_take
    rw [if_neg (by omega), pk_us]
  have f2 : ∀ k, k < 94 → op_fill V i (95 + 95 * i + k) = V k := fun k hk => by
    unfold op_fill
    rw [pk_un (by omega)]
    unfold ovr
    rw [if_pos (by omega), show 95 + 95 * i + k - (95 + 95 * i) = k by omega]
  have g2 : ∀ k, k < 94 → rg_take d i (95 + 95 * i + k) = d k := fun k hk => by
    unfold rg_take
    rw [if_pos (by omega), show 95 + 95 * i + k - (95 + 95 * i) = k by omega, pk_un (by omega)]
  refine ⟨⟨n, m, h1.ext (fun k hk => (f k (by omega)).symm) (fun k hk => (g k (by omega)).symm)⟩, fun j hj => ?_⟩
  by_cases c : j = i
  · subst c
    rw [f1, g1]
    exact ⟨rfl, Or.inr ⟨rfl, n, m, h1.ext (fun k hk => (f2 k hk).symm) (fun k hk => (g2 k hk).symm)⟩⟩
  · rw [f _ (by omega), g _ (by omega)]
    exact ⟨(h2 j hj).1, (h2 j hj).2.imp id (fun ⟨q, n', m', h3⟩ => ⟨q, n', m', h3.ext (fun k hk => (f _ (by omega)).symm) (fun k hk => (g _ (by omega)).symm)⟩)⟩
theorem RVS.use {V d : Nat → Int32} (h : RVS B V d) {i : Nat} (hi2 : i < 2) (hf : ¬ V (94 + 95 * i) = 0) : RVS B (ovr V 0 (fun k => V (95 + 95 * i + k))) (rg_rest d i) := by
  obtain ⟨n, m, h1⟩ := ((h.2 i hi2).2.resolve_left hf).2
  refine h.cmd (Int.le_refl _) ⟨n, m, h1.ext (fun k hk => rfl) (fun k hk => ?_)⟩ (fun k hk => ?_)
  · unfold rg_rest
    rw [if_pos (by omega)]
  · unfold rg_rest
    rw [if_neg (by omega)]
theorem j_take (h : J B L X) (hB : 9999 ≤ B) (hB2 : B ≤ 300000000) (a : Int32) : ∃ r X3 X4, f_X9_take L X 0 a = some (r, X3) ∧ f_X10_take L X3 470 a = some (r, X4) ∧ J B L X4 := by
  obtain ⟨E, V, n, l, hJ⟩ := h
  obtain ⟨cc, pc, hv⟩ := hJ.2.1.1.1
  have hn := hJ.1.1.1.2.2.1
  obtain ⟨X1, p1, p2, p3, p4, p5⟩ := hJ.prep
  have fx := hJ.1.1.1.1
  have e5 : Vu V 6 (cpy (V 6) (V 5)) 5 = V 5 := rfl
  have h5 := hJ.1.1.rng (r := 5) (by omega)
  have s5 := p2.2.2 5 (by omega)
  rw [e5] at s5
  have r11 := p2.1.2.2.2.1.1
  unfold f_X9_take
  rw [if_pos fx.1.1, fx.2.1.1, Option.bind_some, p1, Option.bind_some, if_pos fx.1.2.1, p4, fx.2.1.1, Option.bind_some, if_pos fx.1.2.1, r11, Option.bind_some]
  have hmf : ∀ (P : Nat → Prop) Y r Y', f_X10_take L Y 470 a = some (r, Y') → Cl P Y → P 470 → FR P Y Y' := fun P Y r Y' h hcl hp => fr_X10_take h hcl hp
  have hm : ∀ Y, MOK L Y → Y.1 470 4 = nI n → Y.1 471 = X.1 471 → ∃ Y', f_X10_take L Y 470 a = some ((rop_take (X.1 471) cc a).1, Y') ∧ MA Y Y' n (rop_take (X.1 471) cc a).2 (¬ (rop_take (X.1 471) cc a).1 ≤ -100001) := fun Y hM h4 hd => by
    have := r_take hM hn h4 hv.1.1 (by rw [hd]; exact hv.w14) a
    rw [hd] at this
    exact this
  by_cases ha : 0 ≤ a ∧ a ≤ 1
  · obtain ⟨i, hi2, rfl⟩ := slot_of ha
    have e : rop_take (X.1 471) cc (nI i) = (smx (fun c => V 5 (16 + 6 * c)) 6, rg_take (X.1 471) i) := by
      unfold rop_take
      rw [if_pos ha, nI_clamp (by omega), hv.pts]
    rw [e] at hm
    obtain ⟨X2, q1, q2, q3⟩ := c_fillSlot s5 hJ.2.1.1.ws hi2
    have cl2 : Cl (fun k => k < 470) X2 := (fr_X8_fillSlot q1 p5 (by omega)).1
    have hci := p2.one (r := 5) (by omega) q3.ou q2 ((p2.1.2.1 (E 5) (p2.2.1.1 5 (by omega))).mv (fun k _ => by rw [q3.1]))
    obtain ⟨X3, X4, t1, t2, t3⟩ := J_fin hJ (Int.le_refl B) hci (fun k hk => ⟨(q3.2 k (by omega)).trans (p3 k hk).1, by rw [q3.1]; exact (p3 k hk).2⟩) cl2 (hv.ptsE (by omega) hB2) hm hmf (hJ.2.1.1.fill hi2)
    rw [q1, Option.bind_some, if_pos s5.1.1, t1, Option.bind_some]
    exact ⟨_, X3, X4, rfl, t2, t3⟩
  · have e : rop_take (X.1 471) cc a = (-100001, X.1 471) := by
      unfold rop_take
      rw [if_neg ha]
    rw [e] at hm
    have q1 : f_X8_fillSlot L X1 (sb (E 5)) a = some (-100001, X1) := by
      unfold f_X8_fillSlot
      rw [s_within, if_neg ha, Option.bind_some, if_pos rfl]
    obtain ⟨X3, X4, t1, t2, t3⟩ := J_fin hJ (Int.le_refl B) (U := V 5) (X2 := X1) (by rw [Vu_self (show Vu V 6 (cpy (V 6) (V 5)) 5 = V 5 from rfl)]; exact p2) p3 p5 ER1 hm hmf hJ.2.1.1
    rw [q1, Option.bind_some, if_pos s5.1.1, t1, Option.bind_some]
    exact ⟨_, X3, X4, rfl, t2, t3⟩
theorem j_restore (h : J B L X) (hB : 9999 ≤ B) (hB2 : B ≤ 300000000) (a : Int32) : ∃ r X3 X4, f_X9_restore L X 0 a = some (r, X3) ∧ f_X10_restore L X3 470 a = some (r, X4) ∧ J B L X4 := by
  obtain ⟨E, V, n, l, hJ⟩ := h
  have hv := hJ.2.1.1
  have hn := hJ.1.1.1.2.2.1
  obtain ⟨X1, p1, p2, p3, p4, p5⟩ := hJ.prep
  have fx := hJ.1.1.1.1
  have e5 : Vu V 6 (cpy (V 6) (V 5)) 5 = V 5 := rfl
  have h5 := hJ.1.1.rng (r := 5) (by omega)
  have s5 := p2.2.2 5 (by omega)
  rw [e5] at s5
  have r11 := p2.1.2.2.2.1.1
  obtain ⟨cs, hcs⟩ : ∃ cs : Nat → Nat, ∀ i, i < 2 → V 5 (94 + 95 * i) ≠ 0 → ∃ m, RV B (fun k => V 5 (95 + 95 * i + k)) (fun k => X.1 471 (95 + 95 * i + k)) (cs i) m := by
    have key : ∀ i, i < 2 → ∃ z, V 5 (94 + 95 * i) ≠ 0 → ∃ m, RV B (fun k => V 5 (95 + 95 * i + k)) (fun k => X.1 471 (95 + 95 * i + k)) z m := fun i hi => by
      rcases (hv.2 i hi).2 with h0 | ⟨-, z, m, h3⟩
      · exact ⟨0, fun q => absurd h0 q⟩
      · exact ⟨z, fun _ => ⟨m, h3⟩⟩
    obtain ⟨z0, k0⟩ := key 0 (by omega)
    obtain ⟨z1, k1⟩ := key 1 (by omega)
    refine ⟨fun i => if i = 0 then z0 else z1, fun i hi hf => ?_⟩
    have : i = 0 ∨ i = 1 := by omega
    rcases this with rfl | rfl
    · exact k0 hf
    · exact k1 hf
  unfold f_X9_restore
  rw [if_pos fx.1.1, fx.2.1.1, Option.bind_some, p1, Option.bind_some, if_pos fx.1.2.1, p4, fx.2.1.1, Option.bind_some, if_pos fx.1.2.1, r11, Option.bind_some]
  have hmf : ∀ (P : Nat → Prop) Y r Y', f_X10_restore L Y 470 a = some (r, Y') → Cl P Y → P 470 → FR P Y Y' := fun P Y r Y' h hcl hp => fr_X10_restore h hcl hp
  have hm : ∀ Y, MOK L Y → Y.1 470 4 = nI n → Y.1 471 = X.1 471 → ∃ Y', f_X10_restore L Y 470 a = some ((rop_restore (X.1 471) cs a).1, Y') ∧ MA Y Y' n (rop_restore (X.1 471) cs a).2 (¬ (rop_restore (X.1 471) cs a).1 ≤ -100001) := fun Y hM h4 hd => by
    have := r_restore hM hn h4 (cs := cs) (fun i hi hf => by
      rw [hd] at hf ⊢
      obtain ⟨m, h3⟩ := hcs i hi (by rw [(hv.2 i hi).1]; exact hf)
      exact ⟨h3.1.1, h3.w14⟩) a
    rw [hd] at this
    exact this
  by_cases ha : 0 ≤ a ∧ a ≤ 1
  · obtain ⟨i, hi2, rfl⟩ := slot_of ha
    obtain ⟨X2, q1, q2, q3⟩ := c_useSlot s5 hv.ws hi2
    have cl2 : Cl (fun k => k < 470) X2 := (fr_X8_useSlot q1 p5 (by omega)).1
    have hci := p2.one (r := 5) (by omega) q3.ou q2 ((p2.1.2.1 (E 5) (p2.2.1.1 5 (by omega))).mv (fun k _ => by rw [q3.1]))
    have k2 : ∀ k, 465 ≤ k → X2.1 k = X.1 k ∧ X2.2 k = X.2 k := fun k hk => ⟨(q3.2 k (by omega)).trans (p3 k hk).1, by rw [q3.1]; exact (p3 k hk).2⟩
    by_cases hf : V 5 (94 + 95 * i) = 0
    · have e : rop_restore (X.1 471) cs (nI i) = (-100002, X.1 471) := by
        unfold rop_restore
        rw [if_pos ha, nI_clamp (by omega), if_pos (by rw [← (hv.2 i hi2).1]; exact hf)]
      rw [e] at hm
      rw [if_pos hf] at q1 q2 hci
      obtain ⟨X3, X4, t1, t2, t3⟩ := J_fin hJ (Int.le_refl B) hci k2 cl2 ER2 hm hmf hv
      rw [q1, Option.bind_some, if_pos s5.1.1, t1, Option.bind_some]
      exact ⟨_, X3, X4, rfl, t2, t3⟩
    · obtain ⟨m, h3⟩ := hcs i hi2 hf
      have e : rop_restore (X.1 471) cs (nI i) = (smx (fun c => V 5 (95 + 95 * i + (16 + 6 * c))) 6, rg_rest (X.1 471) i) := by
        unfold rop_restore
        rw [if_pos ha, nI_clamp (by omega), if_neg (by rw [← (hv.2 i hi2).1]; exact hf), h3.pts]
      rw [e] at hm
      rw [if_neg hf] at q1 q2 hci
      obtain ⟨X3, X4, t1, t2, t3⟩ := J_fin hJ (Int.le_refl B) hci k2 cl2 (h3.ptsE (by omega) hB2) hm hmf (hv.use hi2 hf)
      rw [q1, Option.bind_some, if_pos s5.1.1, t1, Option.bind_some]
      exact ⟨_, X3, X4, rfl, t2, t3⟩
  · have e : rop_restore (X.1 471) cs a = (-100001, X.1 471) := by
      unfold rop_restore
      rw [if_neg ha]
    rw [e] at hm
    have q1 : f_X8_useSlot L X1 (sb (E 5)) a = some (-100001, X1) := by
      unfold f_X8_useSlot
      rw [s_within, if_neg ha, Option.bind_some, if_pos rfl]
    obtain ⟨X3, X4, t1, t2, t3⟩ := J_fin hJ (Int.le_refl B) (U := V 5) (X2 := X1) (by rw [Vu_self (show Vu V 6 (cpy (V 6) (V 5)) 5 = V 5 from rfl)]; exact p2) p3 p5 ER1 hm hmf hv
    rw [q1, Option.bind_some, if_pos s5.1.1, t1, Option.bind_some]
    exact ⟨_, X3, X4, rfl, t2, t3⟩
theorem j_undo (h : J B L X) : ∃ r X3 X4, f_X9_undo L X 0 = some (r, X3) ∧ f_X10_undo L X3 470 = some (r, X4) ∧ J B L X4 := by
  obtain ⟨E, V, n, l, hJ⟩ := h
  have fx := hJ.1.1.1.1
  have hn := hJ.1.1.1.2.2.1
  by_cases c0 : n = 0
  · subst c0
    refine ⟨-100002, X, X, ?_, r_undo0 hJ.1.2.1 hJ.1.2.2, E, V, 0, l, hJ⟩
    unfold f_X9_undo
    rw [if_pos fx.1.1, fx.2.1.1, Option.bind_some, hJ.1.1.back0, Option.bind_some, if_pos fx.1.2.1]
  · obtain ⟨c, rfl⟩ : ∃ c, n = c + 1 := ⟨n - 1, by omega⟩
    obtain ⟨⟨c1, c2, c3⟩, ⟨c4, c5⟩, ⟨t1, t2, t3, t4⟩, c7, c8, c9⟩ := hJ
    obtain ⟨X3, q1, q2, q3⟩ := c1.back
    have k3 : ∀ k, 465 ≤ k → X3.1 k = X.1 k ∧ X3.2 k = X.2 k := fun k hk' => q3 k (by omega) (by omega)
    have e9 : f_X9_undo L X 0 = some (nI c, X3) := by
      unfold f_X9_undo
      rw [if_pos fx.1.1, fx.2.1.1, Option.bind_some, q1, Option.bind_some, if_pos fx.1.2.1]
    have m3 : MOK L X3 := c2.mv (k3 470 (by omega)).2
    have e10 := r_undo (c := c) m3 (by omega) (by rw [(k3 470 (by omega)).1]; exact c3)
    have cl3 : Cl (fun k => k < 470) X3 := (fr_X9_undo e9 c8 (by omega)).1
    have cl3' : Cl (fun k => 470 ≤ k) X3 := c9.mv (fun k hk' => (k3 k (by omega)).2)
    have f4 := fr_X10_undo (P := fun k => 470 ≤ k) e10 cl3' (by omega)
    have h4 := f4.hi
    refine ⟨nI c, X3, _, e9, e10, fun r => E (sw 5 c r), fun r => V (sw 5 c r), c, l, ⟨q2.mv (fun k hk' => h4 k (by omega)), m3, ?_⟩, ⟨?_, fun r hr => ?_⟩, ⟨t1, ?_, ?_, fun k hk' => ?_⟩, ?_, cl3.mv (fun k hk' => (h4 k hk').2), f4.1⟩
    · rw [srow_o (by decide), smi_d, pk_us]
    · have e : sw 5 c 5 = c := by unfold sw; rw [if_pos rfl]
      show RVS B (V (sw 5 c 5)) _
      rw [e, srow_s]
      refine (c5 c (by omega)).ext (fun _ _ => rfl) (fun k hk' => ?_)
      rw [if_pos ⟨Nat.zero_le _, hk'⟩, (k3 474 (by omega)).1]
    · have e : sw 5 c r = r := by unfold sw; rw [if_neg (by omega), if_neg (by omega)]
      show RVS B (V (sw 5 c r)) _
      rw [e, srow_o (by decide), smi_o (by decide), (k3 474 (by omega)).1]
      exact c5 r (by omega)
    · rw [(h4 465 (by omega)).1, (k3 465 (by omega)).1]; exact t2
    · rw [srow_o (by decide), smi_d, pk_un (by omega), (k3 470 (by omega)).1]; exact t3
    · rw [(h4 466 (by omega)).1, (k3 466 (by omega)).1, srow_o (by decide), smi_o (by decide), (k3 475 (by omega)).1]
      exact t4 k hk'
    · unfold FLr at c7 ⊢
      have e8 : (srow (smi X3 470 4 (nI c)) 471 (fun k => if 0 ≤ k ∧ k < 284 then X3.1 474 (284 * c + k) else X3.1 471 k)).1 470 8 = X.1 470 8 := by rw [srow_o (by decide), smi_d, pk_un (by omega), (k3 470 (by omega)).1]
      have e6 : (srow (smi X3 470 4 (nI c)) 471 (fun k => if 0 ≤ k ∧ k < 284 then X3.1 474 (284 * c + k) else X3.1 471 k)).1 476 = X.1 476 := by rw [srow_o (by decide), smi_o (by decide), (k3 476 (by omega)).1]
      rw [e8, e6, (h4 468 (by omega)).1, (k3 468 (by omega)).1]
      exact c7
end SN
