/-! that two rows of numbers say the same of a counter -/
def RV (B : Int) (v w : Nat → Int32) (n m : Nat) : Prop := (n ≤ 6 ∧ m ≤ 6 ∧ (∀ k, k < 16 → v k = w k) ∧ v 14 = nI n ∧ v 15 = nI m ∧ RgS v) ∧ (∀ c, c < n → RgC B v c ∧ v (16 + 6 * c) = w (16 + 6 * c) ∧ v (16 + 6 * c + 1) = w (16 + 6 * c + 1) ∧ (v (16 + 6 * c + 1) ≠ 0 → ∀ j, j < 6 → v (16 + 6 * c + j) = w (16 + 6 * c + j))) ∧ (∀ c, n ≤ c → c < 6 → v (16 + 6 * c) = 0 ∧ v (16 + 6 * c + 1) = 0) ∧ (∀ p, p < m → RgP v p ∧ ∀ j, j < 7 → v (52 + 7 * p + j) = w (52 + 7 * p + j)) ∧ ∀ p, m ≤ p → p < 6 → ∀ j, j < 7 → v (52 + 7 * p + j) = 0
theorem RgS.cong {v w : Nat → Int32} (h : RgS v) (e : ∀ k, k < 13 → v k = w k) : RgS w := by
  unfold RgS at h ⊢
  rw [← e 8 (by omega), ← e 9 (by omega), ← e 10 (by omega), ← e 11 (by omega), ← e 12 (by omega)]
  refine ⟨h.1, h.2.1, h.2.2.1, h.2.2.2.1, h.2.2.2.2.1, fun j hj => ?_⟩
  rw [← e j (by omega), ← e (4 + j) (by omega)]
  exact h.2.2.2.2.2 j hj
theorem RgC.cong {B : Int} {v w : Nat → Int32} {c : Nat} (h : RgC B v c) (e0 : v (16 + 6 * c) = w (16 + 6 * c)) (e1 : v (16 + 6 * c + 1) = w (16 + 6 * c + 1)) (e : v (16 + 6 * c + 1) ≠ 0 → ∀ j, j < 6 → v (16 + 6 * c + j) = w (16 + 6 * c + j)) : RgC B w c := by
  unfold RgC at h ⊢
  rw [← e0, ← e1]
  refine ⟨h.1, ?_⟩
  rcases h.2 with h0 | ⟨h1, h2⟩
  · exact Or.inl h0
  · have e' := e (by rw [h1]; decide)
    rw [← e' 2 (by omega), ← e' 3 (by omega), ← e' 4 (by omega), ← e' 5 (by omega)]
    exact Or.inr ⟨h1, h2⟩
theorem RgC.mono {B B' : Int} {v : Nat → Int32} {c : Nat} (h : RgC B v c) (hB : B ≤ B') : RgC B' v c := ⟨⟨h.1.1, Int.le_trans h.1.2 hB⟩, h.2⟩
theorem RgP.cong {v w : Nat → Int32} {p : Nat} (h : RgP v p) (e : ∀ j, j < 7 → v (52 + 7 * p + j) = w (52 + 7 * p + j)) : RgP w p := by
  have e0 : v (52 + 7 * p) = w (52 + 7 * p) := e 0 (by omega)
  unfold RgP at h ⊢
  rw [← e0, ← e 1 (by omega), ← e 2 (by omega), ← e 3 (by omega), ← e 4 (by omega), ← e 5 (by omega)]
  exact h
section RVS
variable {B B' : Int} {v w : Nat → Int32} {n m : Nat}
theorem RV.ag (h : RV B v w n m) : ∀ k, k < 16 → v k = w k := h.1.2.2.1
theorem RV.S (h : RV B v w n m) : RgS v := h.1.2.2.2.2.2
theorem RV.Sw (h : RV B v w n m) : RgS w := h.S.cong (fun k hk => h.ag k (by omega))
theorem RV.C (h : RV B v w n m) : ∀ c, c < n → RgC B v c := fun c hc => (h.2.1 c hc).1
theorem RV.Cw (h : RV B v w n m) : ∀ c, c < n → RgC B w c := fun c hc => (h.C c hc).cong (h.2.1 c hc).2.1 (h.2.1 c hc).2.2.1 (h.2.1 c hc).2.2.2
theorem RV.P (h : RV B v w n m) : ∀ p, p < m → RgP v p := fun p hp => (h.2.2.2.1 p hp).1
theorem RV.Pw (h : RV B v w n m) : ∀ p, p < m → RgP w p := fun p hp => (h.P p hp).cong (h.2.2.2.1 p hp).2
theorem RV.w14 (h : RV B v w n m) : w 14 = nI n := (h.ag 14 (by omega)).symm.trans h.1.2.2.2.1
theorem RV.w15 (h : RV B v w n m) : w 15 = nI m := (h.ag 15 (by omega)).symm.trans h.1.2.2.2.2.1
theorem RV.wb (h : RV B v w n m) : WB v := fun i hi => by
  by_cases c : i < n
  · exact (h.C i c).2.imp id (fun q => q.1)
  · exact Or.inl (h.2.2.1 i (by omega) hi).2
theorem RV.mono (h : RV B v w n m) (hB : B ≤ B') : RV B' v w n m := ⟨h.1, fun c hc => ⟨(h.C c hc).mono hB, (h.2.1 c hc).2⟩, h.2.2⟩
theorem RV.ext {v' w' : Nat → Int32} (h : RV B v w n m) (e1 : ∀ k, k < 94 → v k = v' k) (e2 : ∀ k, k < 94 → w k = w' k) : RV B v' w' n m := by
  obtain ⟨⟨a1, a2, a3, a4, a5, a6⟩, a7, a8, a9, a10⟩ := h
  refine ⟨⟨a1, a2, fun k hk => ?_, ?_, ?_, a6.cong (fun k hk => e1 k (by omega))⟩, fun c hc => ?_, fun c h1 h2 => ?_, fun p hp => ?_, fun p h1 h2 j hj => ?_⟩
  · rw [← e1 k (by omega), ← e2 k (by omega)]; exact a3 k hk
  · rw [← e1 14 (by omega)]; exact a4
  · rw [← e1 15 (by omega)]; exact a5
  · obtain ⟨b1, b2, b3, b4⟩ := a7 c hc
    refine ⟨b1.cong (e1 _ (by omega)) (e1 _ (by omega)) (fun _ j hj => e1 _ (by omega)), ?_, ?_, fun q j hj => ?_⟩
    · rw [← e1 _ (by omega), ← e2 _ (by omega)]; exact b2
    · rw [← e1 _ (by omega), ← e2 _ (by omega)]; exact b3
    · rw [← e1 _ (by omega), ← e2 _ (by omega)]; exact b4 (by rw [e1 _ (by omega)]; exact q) j hj
  · rw [← e1 _ (by omega), ← e1 _ (by omega)]; exact a8 c h1 h2
  · exact ⟨(a9 p hp).1.cong (fun j hj => e1 _ (by omega)), fun j hj => by rw [← e1 _ (by omega), ← e2 _ (by omega)]; exact (a9 p hp).2 j hj⟩
  · rw [← e1 _ (by omega)]; exact a10 p h1 h2 j hj
/-- a change of the first numbers -/
theorem RV.head {v' w' : Nat → Int32} (h : RV B v w n m) (e1 : ∀ k, 14 ≤ k → v' k = v k) (e2 : ∀ k, 14 ≤ k → w' k = w k) (e : ∀ k, k < 14 → v' k = w' k) (hS : RgS v') : RV B v' w' n m := by
  obtain ⟨⟨a1, a2, a3, a4, a5, a6⟩, a7, a8, a9, a10⟩ := h
  refine ⟨⟨a1, a2, fun k hk => ?_, ?_, ?_, hS⟩, fun c hc => ?_, fun c h1 h2 => ?_, fun p hp => ?_, fun p h1 h2 j hj => ?_⟩
  · by_cases q : k < 14
    · exact e k q
    · rw [e1 k (by omega), e2 k (by omega)]; exact a3 k hk
  · rw [e1 14 (by omega)]; exact a4
  · rw [e1 15 (by omega)]; exact a5
  · obtain ⟨b1, b2, b3, b4⟩ := a7 c hc
    refine ⟨b1.cong (e1 _ (by omega)).symm (e1 _ (by omega)).symm (fun _ j hj => (e1 _ (by omega)).symm), ?_, ?_, fun q j hj => ?_⟩
    · rw [e1 _ (by omega), e2 _ (by omega)]; exact b2
    · rw [e1 _ (by omega), e2 _ (by omega)]; exact b3
    · rw [e1 _ (by omega), e2 _ (by omega)]; exact b4 (by rw [← e1 _ (by omega)]; exact q) j hj
  · rw [e1 _ (by omega), e1 _ (by omega)]; exact a8 c h1 h2
  · exact ⟨(a9 p hp).1.cong (fun j hj => (e1 _ (by omega)).symm), fun j hj => by rw [e1 _ (by omega), e2 _ (by omega)]; exact (a9 p hp).2 j hj⟩
  · rw [e1 _ (by omega)]; exact a10 p h1 h2 j hj
/-- a change of one customer, and of the gift -/
theorem RV.cust {v' w' : Nat → Int32} (h : RV B v w n m) (hB : B ≤ B') {c : Nat} (hc : c < n) (e1 : ∀ k, k < 16 + 6 * c ∨ 16 + 6 * c + 6 ≤ k → k ≠ 13 → v' k = v k) (e2 : ∀ k, k < 16 + 6 * c ∨ 16 + 6 * c + 6 ≤ k → k ≠ 13 → w' k = w k) (e13 : v' 13 = w' 13) (hC : RgC B' v' c ∧ v' (16 + 6 * c) = w' (16 + 6 * c) ∧ v' (16 + 6 * c + 1) = w' (16 + 6 * c + 1) ∧ (v' (16 + 6 * c + 1) ≠ 0 → ∀ j, j < 6 → v' (16 + 6 * c + j) = w' (16 + 6 * c + j))) : RV B' v' w' n m := by
  obtain ⟨⟨a1, a2, a3, a4, a5, a6⟩, a7, a8, a9, a10⟩ := h
  refine ⟨⟨a1, a2, fun k hk => ?_, ?_, ?_, a6.cong (fun k hk => (e1 k (by omega) (by omega)).symm)⟩, fun x hx => ?_, fun x h1 h2 => ?_, fun p hp => ?_, fun p h1 h2 j hj => ?_⟩
  · by_cases q : k = 13
    · subst q; exact e13
    · rw [e1 k (by omega) q, e2 k (by omega) q]; exact a3 k hk
  · rw [e1 14 (by omega) (by omega)]; exact a4
  · rw [e1 15 (by omega) (by omega)]; exact a5
  · by_cases q : x = c
    · subst q; exact hC
    · obtain ⟨b1, b2, b3, b4⟩ := a7 x hx
      have f1 : ∀ j, j < 6 → v' (16 + 6 * x + j) = v (16 + 6 * x + j) := fun j hj => e1 _ (by omega) (by omega)
      have f2 : ∀ j, j < 6 → w' (16 + 6 * x + j) = w (16 + 6 * x + j) := fun j hj => e2 _ (by omega) (by omega)
      have f10 := f1 0 (by omega)
      have f20 := f2 0 (by omega)
      rw [Nat.add_zero] at f10 f20
      refine ⟨(b1.cong f10.symm (f1 1 (by omega)).symm (fun _ j hj => (f1 j hj).symm)).mono hB, ?_, ?_, fun q j hj => ?_⟩
      · rw [f10, f20]; exact b2
      · rw [f1 1 (by omega), f2 1 (by omega)]; exact b3
      · rw [f1 j hj, f2 j hj]; exact b4 (by rw [← f1 1 (by omega)]; exact q) j hj
  · rw [e1 _ (by omega) (by omega), e1 _ (by omega) (by omega)]; exact a8 x h1 h2
  · exact ⟨(a9 p hp).1.cong (fun j hj => (e1 _ (by omega) (by omega)).symm), fun j hj => by rw [e1 _ (by omega) (by omega), e2 _ (by omega) (by omega)]; exact (a9 p hp).2 j hj⟩
  · rw [e1 _ (by omega) (by omega)]; exact a10 p h1 h2 j hj
/-- a change of one prize -/
theorem RV.prize {v' w' : Nat → Int32} (h : RV B v w n m) {p : Nat} (hp : p < m) (e1 : ∀ k, k < 52 + 7 * p ∨ 52 + 7 * p + 7 ≤ k → v' k = v k) (e2 : ∀ k, k < 52 + 7 * p ∨ 52 + 7 * p + 7 ≤ k → w' k = w k) (hP : RgP v' p ∧ ∀ j, j < 7 → v' (52 + 7 * p + j) = w' (52 + 7 * p + j)) : RV B v' w' n m := by
  obtain ⟨⟨a1, a2, a3, a4, a5, a6⟩, a7, a8, a9, a10⟩ := h
  refine ⟨⟨a1, a2, fun k hk => ?_, ?_, ?_, a6.cong (fun k hk => (e1 k (by omega)).symm)⟩, fun x hx => ?_, fun x h1 h2 => ?_, fun x hx => ?_, fun x h1 h2 j hj => ?_⟩
  · rw [e1 k (by omega), e2 k (by omega)]; exact a3 k hk
  · rw [e1 14 (by omega)]; exact a4
  · rw [e1 15 (by omega)]; exact a5
  · obtain ⟨b1, b2, b3, b4⟩ := a7 x hx
    refine ⟨b1.cong (e1 _ (by omega)).symm (e1 _ (by omega)).symm (fun _ j hj => (e1 _ (by omega)).symm), ?_, ?_, fun q j hj => ?_⟩
    · rw [e1 _ (by omega), e2 _ (by omega)]; exact b2
    · rw [e1 _ (by omega), e2 _ (by omega)]; exact b3
    · rw [e1 _ (by omega), e2 _ (by omega)]; exact b4 (by rw [← e1 _ (by omega)]; exact q) j hj
  · rw [e1 _ (by omega), e1 _ (by omega)]; exact a8 x h1 h2
  · by_cases q : x = p
    · subst q; exact hP
    · exact ⟨(a9 x hx).1.cong (fun j hj => (e1 _ (by omega)).symm), fun j hj => by rw [e1 _ (by omega), e2 _ (by omega)]; exact (a9 x hx).2 j hj⟩
  · rw [e1 _ (by omega)]; exact a10 x h1 h2 j hj
theorem gl_cong (e : ∀ k, k < 16 → v k = w k) {r : Int32} {j : Nat} (hj : j < 4) : gl v r j = gl w r j := by
  unfold gl go
  rw [e 8 (by omega), e 9 (by omega), e j (by omega), e (4 + j) (by omega)]
theorem gg_cong (e : ∀ k, k < 16 → v k = w k) {r : Int32} {j : Nat} (hj : j < 4) : gg v r j = gg w r j := by
  unfold gg gh
  rw [e 8 (by omega), e 9 (by omega), e j (by omega), e (4 + j) (by omega)]
theorem gs_cong (e : ∀ k, k < 16 → v k = w k) {r u : Int32} {j : Nat} (hj : j < 4) : gs v r j u = gs w r j u := by
  unfold gs gn
  rw [gl_cong e hj, gg_cong e hj, e j (by omega)]
end RVS
