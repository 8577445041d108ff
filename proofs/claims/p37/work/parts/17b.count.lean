/-! looking: counts -/
section LC
variable {B : Int} {L : hL} {X : hX} {E : Nat → Nat} {V : Nat → Nat → Int32} {n l : Nat}
theorem c_slots {s : Nat} {U : Nat → Int32} (hs : SV L X s U) (hW : ∀ i, i < 2 → U (94 + 95 * i) = 0 ∨ U (94 + 95 * i) = 1) : f_X8_slotsInUse L X s = some (U 94 + U 189) := by
  obtain ⟨⟨s0, s1, s2, s3, s4⟩, ⟨r0, r1, r2, r3⟩, hc, hS⟩ := id hs
  have e0 : X.1 (s + 23) 0 = U 94 := (hS 0 (by omega)).2
  have e1 : X.1 (s + 23) 1 = U 189 := (hS 1 (by omega)).2
  have w0 : U 94 = 0 ∨ U 94 = 1 := hW 0 (by omega)
  have w1 : U 189 = 0 ∨ U 189 = 1 := hW 1 (by omega)
  obtain ⟨m, hm⟩ : ∃ m, u_fuel = m + 3 := ⟨2997, rfl⟩
  unfold f_X8_slotsInUse
  rw [if_pos s0, r2, Option.bind_some, if_pos s3, s4, hm]
  have h2 : (Int32.ofNat 2) = nI 2 := rfl
  rw [h2]
  have f2 : ∀ x, f_X8_slotsInUse_13 L (m + 1) x (s + 23) (nI 2) (nI 2) X = some x := fun x => by
    unfold f_X8_slotsInUse_13
    rw [if_pos (show nI 2 ≤ nI 2 by decide)]
  have f1 : ∀ x, f_X8_slotsInUse_13 L (m + 2) x (s + 23) (nI 2) (nI 1) X = some (x + U 189) := fun x => by
    unfold f_X8_slotsInUse_13 f_X8_slotsInUse_33
    simp only [if_neg (show ¬ nI 2 ≤ nI 1 by decide), if_pos s3, s4, if_pos (hin_nI (k := 1) (n := 2) (by omega) (by omega)), nI_clamp (show 1 < 2 ^ 31 by omega), e1, n1]
    rcases w1 with w | w
    · rw [w, if_pos rfl, Int32.add_zero]
      exact f2 x
    · rw [w, if_neg (show ¬ (1 : Int32) = 0 by decide)]
      exact f2 (x + 1)
  have f0 : ∀ x, f_X8_slotsInUse_13 L (m + 3) x (s + 23) (nI 2) (nI 0) X = some (x + U 94 + U 189) := fun x => by
    unfold f_X8_slotsInUse_13 f_X8_slotsInUse_33
    simp only [if_neg (show ¬ nI 2 ≤ nI 0 by decide), if_pos s3, s4, if_pos (hin_nI (k := 0) (n := 2) (by omega) (by omega)), nI_clamp (show 0 < 2 ^ 31 by omega), e0, n1]
    rcases w0 with w | w
    · rw [w, if_pos rfl, Int32.add_zero]
      exact f1 x
    · rw [w, if_neg (show ¬ (1 : Int32) = 0 by decide)]
      exact f1 (x + 1)
  have := f0 0
  rw [Int32.zero_add] at this
  exact this
theorem RV.kepts {v w : Nat → Int32} {n m : Nat} (h : RV B v w n m) : smx (kp v) 6 = smx (fun c => w (16 + 6 * c + 1)) n := by
  have hn := h.1.1
  have := smx_cut (f := kp v) (g := fun c => w (16 + 6 * c + 1)) (n := n) (fun i hi => by
    obtain ⟨b1, b2, b3, b4⟩ := h.2.1 i hi
    unfold kp
    show _ = w (16 + 6 * i + 1)
    rw [← b3]
    rcases b1.2 with q | ⟨q, -⟩
    · rw [q, if_pos rfl]
    · rw [q, if_neg (by decide)]) (6 - n) (fun i h1 h2 => by
    unfold kp
    rw [(h.2.2.1 i h1 (by omega)).2, if_pos rfl])
  rwa [show n + (6 - n) = 6 by omega] at this
theorem RV.stks {v w : Nat → Int32} {n m : Nat} (h : RV B v w n m) : smx (fun c => v (52 + 7 * c + 2)) 6 = smx (fun c => w (52 + 7 * c + 2)) m := by
  have hm := h.1.2.1
  have := smx_cut (f := fun c => v (52 + 7 * c + 2)) (g := fun c => w (52 + 7 * c + 2)) (n := m) (fun i hi => (h.2.2.2.1 i hi).2 2 (by omega)) (6 - m) (fun i h1 h2 => h.2.2.2.2 i h1 (by omega) 2 (by omega))
  rwa [show m + (6 - m) = 6 by omega] at this
end LC
