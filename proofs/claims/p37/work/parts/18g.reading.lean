/-! the second check of the law: a reading, what it allows, what is guessed -/
section RE
variable {B : Int} {L : hL} {X : hX} {nn cc pc : Nat} {v : Nat → Int32}
theorem r_96 (hK : KS L X nn v) (hS : RgS v) {r : Int32} (hr : rdg r) {j : Nat} (hj : j < 4) : f_L_reading_96 L 0 (nI j) r (if gl v r j ≤ gg v r j then gl v r j else -100009) (if gl v r j ≤ gg v r j then gg v r j else -100009) (if gl v r j ≤ gg v r j then gg v r j - gl v r j + 1 else 0) 1 X = some 1 := by
  unfold f_L_reading_96
  have g0 := k_guess hK hS hr hj (u := 0) (by decide)
  have g1 := k_guess hK hS hr hj (u := 1) (by decide)
  have g2 := k_guess hK hS hr hj (u := 2) (by decide)
  have g3 := k_guess hK hS hr hj (u := 3) (by decide)
  by_cases c : gl v r j ≤ gg v r j
  · have a := gl_0 hS hr hj
    have b := gg_0 hS hr hj
    have c' := i_le.mp c
    have d1 : (gg v r j - gl v r j).toInt = (gg v r j).toInt - (gl v r j).toInt := i_sub (by omega) (by omega)
    have d2 : (gg v r j - gl v r j + 1).toInt = (gg v r j).toInt - (gl v r j).toInt + 1 := by rw [i_add (by rw [z1i]; omega) (by rw [z1i]; omega), d1, z1i]
    have i0 := gs_in hS hr hj c 0
    have i3 := gs_in hS hr hj c 3
    have e1 : gs v r j 1 = gl v r j := by unfold gs; rw [if_pos c, if_pos rfl]
    have e2 : gs v r j 2 = gg v r j := by unfold gs; rw [if_pos c, if_neg (by decide), if_pos rfl]
    have n1 : ¬ gg v r j - gl v r j + 1 = 0 := i_ne (by rw [d2, z0i]; omega)
    have n2 : ¬ gl v r j < 0 := fun q => by rw [i_lt0] at q; omega
    have n3 : ¬ gs v r j 0 < gl v r j := fun q => by rw [i_lt] at q; omega
    have n4 : ¬ gg v r j < gs v r j 0 := fun q => by rw [i_lt] at q; omega
    have n5 : ¬ gs v r j 3 < gl v r j := fun q => by rw [i_lt] at q; omega
    have n6 : ¬ gg v r j < gs v r j 3 := fun q => by rw [i_lt] at q; omega
    simp only [if_pos c, if_neg n1, g0, g1, g2, g3, Option.bind_some, if_pos hK.tk9, if_neg (show ¬ (1 : Int32) = 0 by decide), if_neg n2, e1, e2, if_neg n3, if_neg n4, if_neg n5, if_neg n6, if_true]
  · have e0 := gs_no c 0
    simp only [if_neg c, if_true, if_neg (show ¬ (1 : Int32) = 0 by decide), g0, e0, Option.bind_some, if_pos hK.tk9]
theorem q_reading (hK : KS L X nn v) (hS : RgS v) {x : Int32} (hx : -4900 ≤ x.toInt ∧ x.toInt ≤ 100000) {j : Nat} (hj : j < 4) : f_L_reading L X 0 x (nI j) = some 1 := by
  have h8 := hS.1
  obtain ⟨f1, ⟨q, f2⟩, f3, f4⟩ := rb_f (S := v 8) (x := x) h8 (by omega)
  have hr : rdg (rb (v 8) x) := ⟨f1, by omega⟩
  have hs := shown_of h8 hr f2
  have i5 : (-5000 : Int32).toInt = -5000 := by decide
  have i3 : (3000000 : Int32).toInt = 3000000 := by decide
  have x1 : (x + 1).toInt = x.toInt + 1 := by rw [i_add (by rw [z1i]; omega) (by rw [z1i]; omega), z1i]
  have e0 := k_read hK hS (x := x) ⟨by rw [i_le, i5]; omega, by rw [i_le, i3]; omega⟩
  have e1 := k_read hK hS (x := x + 1) ⟨by rw [i_le, i5, x1]; omega, by rw [i_le, i3, x1]; omega⟩
  have hm := rb_mono (S := v 8) (x := x) (y := x + 1) h8 (by omega) (by rw [x1]; omega) (by rw [x1]; omega)
  have a0 := k_al0 hK hS hr hj
  have a1 := k_al1 hK hS hr hj
  have a2 := k_al2 hK hS hr hj
  have e79 : f_L_reading_79 L 0 x (nI j) (rb (v 8) x) (if gl v (rb (v 8) x) j ≤ gg v (rb (v 8) x) j then gl v (rb (v 8) x) j else -100009) (if gl v (rb (v 8) x) j ≤ gg v (rb (v 8) x) j then gg v (rb (v 8) x) j else -100009) (if gl v (rb (v 8) x) j ≤ gg v (rb (v 8) x) j then gg v (rb (v 8) x) j - gl v (rb (v 8) x) j + 1 else 0) X = some 1 := by
    unfold f_L_reading_79
    rw [e1, Option.bind_some, if_pos hK.tk9, if_neg (fun q => by rw [i_lt] at q; omega)]
    exact r_96 hK hS hr hj
  unfold f_L_reading
  rw [k_c0 hK, Option.bind_some, if_pos hK.tk9, e0, Option.bind_some, a0, Option.bind_some, a1, Option.bind_some, a2, Option.bind_some, if_neg (fun q => by rw [i_lt0] at q; omega), if_pos (i_nz (by omega)), if_pos hs, e79]
  by_cases c : x < 0
  · rw [if_pos c]
  · have c' : 0 ≤ x.toInt := by
      have : ¬ x.toInt < 0 := fun q => c (i_lt0.mpr q)
      omega
    obtain ⟨m1, m2⟩ := f3 c'
    have s1 : (rb (v 8) x - x).toInt = (rb (v 8) x).toInt - x.toInt := i_sub (by omega) (by omega)
    have s2 : (x - rb (v 8) x).toInt = x.toInt - (rb (v 8) x).toInt := i_sub (by omega) (by omega)
    have s3 : (2 * (rb (v 8) x - x)).toInt = 2 * ((rb (v 8) x).toInt - x.toInt) := by rw [i_mul (by rw [z2i, s1]; omega) (by rw [z2i, s1]; omega), z2i, s1]
    have s4 : (2 * (x - rb (v 8) x)).toInt = 2 * (x.toInt - (rb (v 8) x).toInt) := by rw [i_mul (by rw [z2i, s2]; omega) (by rw [z2i, s2]; omega), z2i, s2]
    rw [if_neg c, if_neg (fun q => by rw [i_lt, s3] at q; omega), if_neg (fun q => by rw [i_lt, s4] at q; omega)]
end RE
