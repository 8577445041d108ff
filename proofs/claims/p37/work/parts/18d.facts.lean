/-! readings: near the load, a multiple, monotone -/
theorem i_lt0 {x : Int32} : x < 0 ↔ x.toInt < 0 := by rw [i_lt, z0i]
theorem i_0le {x : Int32} : 0 ≤ x ↔ 0 ≤ x.toInt := by rw [i_le, z0i]
theorem i_ne {a b : Int32} (h : a.toInt ≠ b.toInt) : ¬ a = b := fun e => h (by rw [e])
/-- a rest, where nothing is below 0 -/
theorem i_mod {a b : Int32} (ha : 0 ≤ a.toInt) (hb : 0 < b.toInt) : (a - a / b * b).toInt = a.toInt % b.toInt ∧ (a / b).toInt = a.toInt / b.toInt := by
  have hr := i_rng a
  have e : (a / b).toInt = a.toInt / b.toInt := by rw [fl_div ha hb, fl_i hb]
  have m1 := Int.mul_ediv_self_le (x := a.toInt) (k := b.toInt) (by omega)
  have m0 : 0 ≤ a.toInt / b.toInt := Int.ediv_nonneg ha (by omega)
  have m2 : 0 ≤ a.toInt / b.toInt * b.toInt := Int.mul_nonneg m0 (by omega)
  rw [Int.mul_comm] at m1
  have e2 : (a / b * b).toInt = a.toInt / b.toInt * b.toInt := by rw [i_mul (by rw [e]; omega) (by rw [e]; omega), e]
  have m3 := Int.emod_add_mul_ediv a.toInt b.toInt
  rw [Int.mul_comm] at m3
  refine ⟨?_, e⟩
  rw [i_sub (by rw [e2]; omega) (by rw [e2]; omega), e2]
  omega
theorem rb_f {S x : Int32} (hS : 1 ≤ S.toInt ∧ S.toInt ≤ 1000) (hx : -6000000 ≤ x.toInt ∧ x.toInt ≤ 6000000) : 0 ≤ (rb S x).toInt ∧ (∃ q, (rb S x).toInt = S.toInt * q) ∧ (0 ≤ x.toInt → 2 * (rb S x).toInt - 2 * x.toInt ≤ S.toInt ∧ 2 * x.toInt - 2 * (rb S x).toInt < S.toInt) ∧ ((rb S x).toInt = 0 ∨ 2 * (rb S x).toInt ≤ 2 * x.toInt + S.toInt) := by
  have h := rb_i hS hx
  have m1 := Int.mul_ediv_self_le (x := 2 * x.toInt + S.toInt) (k := 2 * S.toInt) (by omega)
  have m2 := Int.lt_mul_ediv_self_add (x := 2 * x.toInt + S.toInt) (k := 2 * S.toInt) (by omega)
  rw [Int.mul_assoc] at m1 m2
  by_cases c : 0 < S.toInt * ((2 * x.toInt + S.toInt) / (2 * S.toInt))
  · rw [if_pos c] at h
    exact ⟨by omega, ⟨_, h⟩, fun _ => ⟨by omega, by omega⟩, by omega⟩
  · rw [if_neg c] at h
    exact ⟨by omega, ⟨0, by omega⟩, fun _ => ⟨by omega, by omega⟩, by omega⟩
theorem rb_mono {S x y : Int32} (hS : 1 ≤ S.toInt ∧ S.toInt ≤ 1000) (hx : -6000000 ≤ x.toInt) (hy : y.toInt ≤ 6000000) (h : x.toInt ≤ y.toInt) : (rb S x).toInt ≤ (rb S y).toInt := by
  have a := rb_i (x := x) hS (by omega)
  have b := rb_i (x := y) hS (by omega)
  have m : (2 * x.toInt + S.toInt) / (2 * S.toInt) ≤ (2 * y.toInt + S.toInt) / (2 * S.toInt) := Int.ediv_le_ediv (by omega) (by omega)
  have m2 : S.toInt * ((2 * x.toInt + S.toInt) / (2 * S.toInt)) ≤ S.toInt * ((2 * y.toInt + S.toInt) / (2 * S.toInt)) := Int.mul_le_mul_of_nonneg_left m (by omega)
  rw [a, b]
  by_cases c : 0 < S.toInt * ((2 * x.toInt + S.toInt) / (2 * S.toInt))
  · rw [if_pos c, if_pos (by omega)]; omega
  · rw [if_neg c]
    by_cases d : 0 < S.toInt * ((2 * y.toInt + S.toInt) / (2 * S.toInt))
    · rw [if_pos d]; omega
    · rw [if_neg d]; omega
theorem rb_lt {S x y : Int32} (hS : 1 ≤ S.toInt ∧ S.toInt ≤ 1000) (hx : -6000000 ≤ x.toInt ∧ x.toInt ≤ 6000000) (hy : -6000000 ≤ y.toInt ∧ y.toInt ≤ 6000000) (h : (rb S x).toInt < (rb S y).toInt) : 2 * x.toInt + S.toInt < 2 * (rb S y).toInt := by
  have a := rb_i (x := x) hS hx
  have b := rb_i (x := y) hS hy
  have m2 := Int.lt_mul_ediv_self_add (x := 2 * x.toInt + S.toInt) (k := 2 * S.toInt) (by omega)
  rw [Int.mul_assoc] at m2
  have fx := (rb_f (x := x) hS hx).1
  by_cases d : 0 < S.toInt * ((2 * y.toInt + S.toInt) / (2 * S.toInt))
  · rw [if_pos d] at b
    have c1 : S.toInt * ((2 * x.toInt + S.toInt) / (2 * S.toInt)) < S.toInt * ((2 * y.toInt + S.toInt) / (2 * S.toInt)) := by
      by_cases c : 0 < S.toInt * ((2 * x.toInt + S.toInt) / (2 * S.toInt))
      · rw [if_pos c] at a; omega
      · omega
    have c2 : (2 * x.toInt + S.toInt) / (2 * S.toInt) < (2 * y.toInt + S.toInt) / (2 * S.toInt) := Int.lt_of_mul_lt_mul_left c1 (by omega)
    have c3 : S.toInt * ((2 * x.toInt + S.toInt) / (2 * S.toInt) + 1) ≤ S.toInt * ((2 * y.toInt + S.toInt) / (2 * S.toInt)) := Int.mul_le_mul_of_nonneg_left (by omega) (by omega)
    rw [Int.mul_add, Int.mul_one] at c3
    omega
  · rw [if_neg d] at b
    omega
section FA
variable {v w : Nat → Int32} {r u : Int32} {j : Nat}
theorem gl_c (e : ∀ k, k < 13 → v k = w k) (hj : j < 4) : gl v r j = gl w r j := by
  unfold gl go
  rw [e 8 (by omega), e 9 (by omega), e j (by omega), e (4 + j) (by omega)]
theorem gg_c (e : ∀ k, k < 13 → v k = w k) (hj : j < 4) : gg v r j = gg w r j := by
  unfold gg gh
  rw [e 8 (by omega), e 9 (by omega), e j (by omega), e (4 + j) (by omega)]
theorem gs_c (e : ∀ k, k < 13 → v k = w k) (hj : j < 4) : gs v r j u = gs w r j u := by
  unfold gs gn
  rw [gl_c e hj, gg_c e hj, e j (by omega)]
/-- a guess lies within what is allowed -/
theorem gs_in (h : RgS v) (hr : rdg r) (hj : j < 4) (hl : gl v r j ≤ gg v r j) (u : Int32) : (gl v r j).toInt ≤ (gs v r j u).toInt ∧ (gs v r j u).toInt ≤ (gg v r j).toInt := by
  have a := gl_0 h hr hj
  have a2 := gg_0 h hr hj
  have c := i_le.mp hl
  unfold gs
  rw [if_pos hl]
  by_cases u1 : u = 1
  · rw [if_pos u1]; omega
  · rw [if_neg u1]
    by_cases u2 : u = 2
    · rw [if_pos u2]; omega
    · rw [if_neg u2]
      by_cases u3 : u = 3
      · have e := i_add (a := gl v r j) (b := gg v r j) (by omega) (by omega)
        rw [if_pos u3, fl_div (by omega) (by rw [z2i]; omega), fl_i (by rw [z2i]; omega), z2i, e]
        omega
      · rw [if_neg u3]
        by_cases d1 : gn v r j < gg v r j
        · have d1' := i_lt.mp d1
          rw [if_pos d1]
          by_cases d2 : gl v r j < gn v r j
          · have d2' := i_lt.mp d2
            rw [if_pos d2]; omega
          · have d2' : ¬ (gl v r j).toInt < (gn v r j).toInt := fun q => d2 (i_lt.mpr q)
            rw [if_neg d2]; omega
        · rw [if_neg d1]
          by_cases d2 : gl v r j < gg v r j
          · rw [if_pos d2]; omega
          · rw [if_neg d2]; omega
theorem gs_no (hl : ¬ gl v r j ≤ gg v r j) (u : Int32) : gs v r j u = -100009 := by
  unfold gs
  rw [if_neg hl]
/-- all that is allowed by a small reading is small -/
theorem gg_s (h : RgS v) (hr : rdg r) (hr4 : r.toInt ≤ 400000) (hj : j < 4) : (gg v r j).toInt ≤ 8050 := by
  by_cases hs : r - r / v 8 * v 8 = 0
  · rw [gg_i h hr hj hs]
    have h8 := h.1
    have h9 := h.2.1
    have hk := h.2.2.2.2.2 j hj
    have : (r.toInt + ((v 8).toInt - 1) / 2 + (v 9).toInt) / ((v j).toInt - (v (4 + j)).toInt) < 8051 := by
      refine Int.ediv_lt_of_lt_mul (by omega) ?_
      omega
    omega
  · unfold gg
    rw [if_neg hs]
    decide
/-- a count is allowed by its own reading -/
theorem own_ok (h : RgS v) (hj : j < 4) {z : Int32} {c : Int} (hc : 0 ≤ c) (hz : z.toInt = c * (v j).toInt) (hz2 : z.toInt ≤ 2000000) : rdg (rb (v 8) z) ∧ (gl v (rb (v 8) z) j).toInt ≤ c ∧ c ≤ (gg v (rb (v 8) z) j).toInt := by
  have h8 := h.1
  have h9 := h.2.1
  have hk := h.2.2.2.2.2 j hj
  have z0 : 0 ≤ z.toInt := by rw [hz]; exact Int.mul_nonneg hc (by omega)
  obtain ⟨f1, ⟨q, f2⟩, f3, f4⟩ := rb_f (x := z) h8 (by omega)
  have f3 := f3 z0
  have hr : rdg (rb (v 8) z) := ⟨f1, by omega⟩
  have hs := shown_of h8 hr f2
  have g1 := gl_i h hr hj
  have g2 := gg_i h hr hj hs
  have a1 : c * ((v j).toInt + (v (4 + j)).toInt) = z.toInt + c * (v (4 + j)).toInt := by rw [Int.mul_add, hz]
  have a2 : c * ((v j).toInt - (v (4 + j)).toInt) = z.toInt - c * (v (4 + j)).toInt := by rw [Int.mul_sub, hz]
  have a3 : 0 ≤ c * (v (4 + j)).toInt := Int.mul_nonneg hc (by omega)
  refine ⟨hr, ?_, ?_⟩
  · rw [g1]
    split
    · omega
    · have : ((rb (v 8) z).toInt - (v 8).toInt / 2 - (v 9).toInt + ((v j).toInt + (v (4 + j)).toInt) - 1) / ((v j).toInt + (v (4 + j)).toInt) < c + 1 := by
        refine Int.ediv_lt_of_lt_mul (by omega) ?_
        rw [Int.add_mul, Int.one_mul, a1]
        omega
      omega
  · rw [g2]
    refine Int.le_ediv_of_mul_le (by omega) ?_
    rw [a2]
    omega
/-- a count that is told apart from the one below is the least that its reading allows -/
theorem own_least (h : RgS v) (hj : j < 4) {z : Int32} {c : Nat} (hc : c < 998) (hz : z.toInt = ((c : Int) + 1) * (v j).toInt) (hz2 : z.toInt ≤ 2000000) (ha : apS v (v 8) j c = false) : (c : Int) + 1 ≤ (gl v (rb (v 8) z) j).toInt := by
  have h8 := h.1
  have h9 := h.2.1
  have hk := h.2.2.2.2.2 j hj
  obtain ⟨hr, -, -⟩ := own_ok h hj (z := z) (c := (c : Int) + 1) (by omega) hz hz2
  obtain ⟨⟨x1, x2⟩, x3, x4⟩ := apx h hj (n := c) (by omega)
  have hcI : (nI c).toInt = (c : Int) := nI_toInt (by omega)
  have e0 : (nI c + 1).toInt = (c : Int) + 1 := by rw [i_add (by rw [z1i, hcI]; omega) (by rw [z1i, hcI]; omega), z1i, hcI]
  have p1 : (c : Int) * ((v j).toInt + (v (4 + j)).toInt) ≤ 998 * ((v j).toInt + (v (4 + j)).toInt) := Int.mul_le_mul_of_nonneg_right (by omega) (by omega)
  have p2 : 0 ≤ (c : Int) * ((v j).toInt + (v (4 + j)).toInt) := Int.mul_nonneg (by omega) (by omega)
  have q1 : ((c : Int) + 1) * ((v j).toInt - (v (4 + j)).toInt) ≤ 1000 * ((v j).toInt - (v (4 + j)).toInt) := Int.mul_le_mul_of_nonneg_right (by omega) (by omega)
  have q2 : 0 ≤ ((c : Int) + 1) * ((v j).toInt - (v (4 + j)).toInt) := Int.mul_nonneg (by omega) (by omega)
  have s1 : ((c : Int) + 1) * ((v j).toInt - (v (4 + j)).toInt) = z.toInt - ((c : Int) + 1) * (v (4 + j)).toInt := by rw [Int.mul_sub, hz]
  have s2 : 0 ≤ ((c : Int) + 1) * (v (4 + j)).toInt := Int.mul_nonneg (by omega) (by omega)
  have hh := hv_i h hj
  have ll := lt_i h hj
  have eX : (nI c * (v j + v (4 + j)) + v 9).toInt = (c : Int) * ((v j).toInt + (v (4 + j)).toInt) + (v 9).toInt := by
    have m : (nI c * (v j + v (4 + j))).toInt = (c : Int) * ((v j).toInt + (v (4 + j)).toInt) := by rw [i_mul (by rw [hcI, hh]; omega) (by rw [hcI, hh]; omega), hcI, hh]
    rw [i_add (by rw [m]; omega) (by rw [m]; omega), m]
  have eY : ((nI c + 1) * (v j - v (4 + j)) - v 9).toInt = ((c : Int) + 1) * ((v j).toInt - (v (4 + j)).toInt) - (v 9).toInt := by
    have m : ((nI c + 1) * (v j - v (4 + j))).toInt = ((c : Int) + 1) * ((v j).toInt - (v (4 + j)).toInt) := by rw [i_mul (by rw [e0, ll]; omega) (by rw [e0, ll]; omega), e0, ll]
    rw [i_sub (by rw [m]; omega) (by rw [m]; omega), m]
  have hap : (rb (v 8) (nI c * (v j + v (4 + j)) + v 9)).toInt < (rb (v 8) ((nI c + 1) * (v j - v (4 + j)) - v 9)).toInt := by
    unfold apS at ha
    have := of_decide_eq_false ha
    rw [i_le] at this
    omega
  have hyz := rb_mono (S := v 8) (x := (nI c + 1) * (v j - v (4 + j)) - v 9) (y := z) h8 x1 (by omega) (by rw [eY]; omega)
  have hlt := rb_lt (S := v 8) (x := nI c * (v j + v (4 + j)) + v 9) (y := z) h8 ⟨x3, x4⟩ ⟨by omega, by omega⟩ (by omega)
  rw [eX] at hlt
  rw [gl_i h hr hj, if_neg (by omega)]
  refine Int.le_ediv_of_mul_le (by omega) ?_
  rw [Int.add_mul, Int.one_mul]
  omega
end FA
theorem fs_ge {p : Nat → Bool} : ∀ d i, i ≤ fs p d i := by
  intro d
  induction d with
  | zero => intro i; exact Nat.le_refl _
  | succ d ih =>
    intro i
    unfold fs
    by_cases c : p i = true
    · rw [if_pos c]; omega
    · rw [if_neg c]; have := ih (i + 1); omega
/-- all ahead of the first that hits don't hit -/
theorem fs_b {p : Nat → Bool} : ∀ d i j, i ≤ j → j < fs p d i → p j = false := by
  intro d
  induction d with
  | zero => intro i j h1 h2; have h2 : j < i := h2; omega
  | succ d ih =>
    intro i j h1 h2
    unfold fs at h2
    by_cases c : p i = true
    · rw [if_pos c] at h2; omega
    · rw [if_neg c] at h2
      by_cases q : j = i
      · subst q; exact Bool.eq_false_iff.mpr c
      · exact ih (i + 1) j (by omega) h2
theorem fs_al {p : Nat → Bool} {m : Nat} (h : al p m = true) : ∀ d i, m ≤ i + d → m ≤ fs p d i := by
  intro d
  induction d with
  | zero => intro i hi; exact hi
  | succ d ih =>
    intro i hi
    unfold fs
    by_cases c : p i = true
    · rw [if_pos c]
      by_cases q : i < m
      · have := (al_eq m).mp h i q
        rw [this] at c
        cases c
      · omega
    · rw [if_neg c]
      exact ih (i + 1) (by omega)
theorem gst_s {q : Nat → Bool} : ∀ k, gst q k = -100009 ∨ ∃ S, 1 ≤ S ∧ S ≤ k ∧ gst q k = nI S ∧ q S = true := by
  intro k
  induction k with
  | zero => exact Or.inl rfl
  | succ k ih =>
    unfold gst
    by_cases c : q (k + 1) = true
    · rw [if_pos c]
      exact Or.inr ⟨k + 1, by omega, Nat.le_refl _, rfl, c⟩
    · rw [if_neg c]
      rcases ih with h | ⟨S, h1, h2, h3, h4⟩
      · exact Or.inl h
      · exact Or.inr ⟨S, h1, by omega, h3, h4⟩
