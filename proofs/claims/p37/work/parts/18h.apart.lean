/-! the third check of the law: how far counts are told apart -/
theorem nn_of {x : Int32} {n : Nat} (hn : n < 2147483648) (h1 : 0 ≤ x.toInt) (h2 : x.toInt < n) : ∃ j, j < n ∧ x = nI j := isR_of hn ⟨i_0le.mpr h1, by rw [i_lt, nI_toInt hn]; exact h2⟩
/-- a rest by a number -/
theorem mod_of {a b : Int32} {k : Nat} (ha : 0 ≤ a.toInt) (hk : 0 < k) (hk2 : k < 2147483648) (hb : b.toInt = (k : Int)) : ∃ j, j < k ∧ a - a / b * b = nI j := by
  obtain ⟨e1, -⟩ := i_mod (a := a) (b := b) ha (by omega)
  have p1 := Int.emod_nonneg a.toInt (show b.toInt ≠ 0 by omega)
  have p2 := Int.emod_lt_of_pos a.toInt (show 0 < b.toInt by omega)
  exact nn_of hk2 (by rw [e1]; exact p1) (by rw [e1]; omega)
section AP
variable {B : Int} {L : hL} {X : hX} {nn cc pc : Nat} {v : Nat → Int32}
/-- the scale with another step -/
def vS (v : Nat → Int32) (S : Int32) : Nat → Int32 := upd (upd (upd v 8 S) 9 (v 9)) 10 (v 10)
theorem op_vS (hS : RgS v) {S : Nat} (h1 : 1 ≤ S) (h2 : S ≤ 1000) : op_scales v (nI S) (v 9) = (v 10, vS v (nI S)) := by
  obtain ⟨h8, h9, h10, -⟩ := hS
  have hc : (1 ≤ nI S ∧ nI S ≤ 1000) ∧ 0 ≤ v 9 ∧ v 9 ≤ 2000 := by
    refine ⟨⟨?_, ?_⟩, ?_, ?_⟩
    · rw [i_le, z1i, nI_toInt (by omega)]; omega
    · rw [i_le, nI_toInt (by omega), show (1000 : Int32).toInt = 1000 by decide]; omega
    · rw [i_0le]; omega
    · rw [i_le, show (2000 : Int32).toInt = 2000 by decide]; omega
  have e : clampB (v 10) (v 9) = v 10 := by
    unfold clampB
    rw [if_pos (i_le.mpr h10.2), if_pos (by rw [i_le, i_neg (by omega)]; omega)]
  unfold op_scales
  rw [if_pos hc, e]
  rfl
theorem apS_vS {S T : Int32} {j : Nat} (hj : j < 4) : apS (vS v S) T j = apS v T j := by
  have e9 : vS v S 9 = v 9 := by unfold vS; simp (disch := omega) only [pk_us, pk_un]
  have ej : vS v S j = v j := by unfold vS; simp (disch := omega) only [pk_us, pk_un]
  have e4 : vS v S (4 + j) = v (4 + j) := by unfold vS; simp (disch := omega) only [pk_us, pk_un]
  funext n
  unfold apS
  rw [e9, ej, e4]
theorem a_166 (hK : KS L X nn v) (hv : RV B v v cc pc) {j m : Nat} (hj : j < 4) (hm : m < 40) : ∃ X' n', f_L_apart_166 L 0 (nI j) (nI (fs (apS v (v 8) j) 999 0)) (nI m) (gst (fun S => al (apS v (nI S) j) m) 1000) 1 X = some (1, X') ∧ KS L X' n' v := by
  unfold f_L_apart_166
  rw [k_c1 hK, Option.bind_some, if_pos hK.tk9]
  rcases gst_s (q := fun S => al (apS v (nI S) j) m) 1000 with h | ⟨S, h1, h2, h3, h4⟩
  · rw [h, if_pos (show (-100009 : Int32) ≤ 0 by decide), if_pos (Or.inr rfl)]
    exact ⟨X, nn, rfl, hK⟩
  · rw [h3, if_neg (fun q => by rw [i_le, nI_toInt (by omega), z0i] at q; omega), if_neg (show ¬ (1 : Int32) = 0 by decide)]
    have h10 := hv.S.2.2.1
    have h9 := hv.S.2.1
    have hop := op_vS hv.S h1 h2
    obtain ⟨X1, s1, -, s3⟩ := ka_setScale hK hv (nI S) (v 9)
    have hrv := (rv_scales hv (nI S) (v 9)).2.2
    rw [hop] at s1 s3 hrv
    have hP : KP L X1 (if nn < 5 then nn + 1 else 5) (vS v (nI S)) v := s3 (fun q => by
      have q : v 10 ≤ -100001 := q
      rw [i_le, show (-100001 : Int32).toInt = -100001 by decide] at q
      omega)
    have hS' : RgS (vS v (nI S)) := by
      obtain ⟨n', m', h⟩ := hrv
      exact h.S
    have hK1 := hP.ks
    have e10 : vS v (nI S) 10 = v 10 := by unfold vS; simp (disch := omega) only [pk_us, pk_un]
    have e8 : vS v (nI S) 8 = nI S := by unfold vS; simp (disch := omega) only [pk_us, pk_un]
    have ka1 := k_apart hK1 hS' hj
    rw [e8, apS_vS hj] at ka1
    have hle : m ≤ fs (apS v (nI S) j) 999 0 := fs_al h4 999 0 (by omega)
    have hf := fs_le (p := apS v (nI S) j) 999 0
    obtain ⟨X2, u1, u2⟩ := k_undo hP
    rw [s1, Option.bind_some]
    show ∃ X' n', ((f_X9_count L X1 0 2).bind fun r25 => if v 10 = r25 then _ else _) = _ ∧ _
    have k2 : f_X9_count L X1 0 2 = some (vS v (nI S) 10) := k_c2 hK1
    rw [k2, Option.bind_some, if_pos e10.symm, ka1, Option.bind_some, if_neg (fun q => by rw [i_lt, nI_toInt (by omega), nI_toInt (by omega)] at q; omega), u1, Option.bind_some]
    have hn1 : (if nn < 5 then nn + 1 else 5) ≤ 5 := nmin hK.n5
    show ∃ X' n', (if nI ((if nn < 5 then nn + 1 else 5) - 1) < 0 then _ else _) = _ ∧ _
    rw [if_neg (fun q => by rw [i_lt0, nI_toInt (by omega)] at q; omega), k_apart u2 hv.S hj, Option.bind_some, if_pos rfl]
    exact ⟨X2, _, rfl, u2⟩
theorem a_95 (hK : KS L X nn v) (hv : RV B v v cc pc) (hw : ∀ j, j < 4 → (v j).toInt ≤ 1599) {j : Nat} (hj : j < 4) (k66 : Nat → Int32 → Int32 → Int32 → Int32 → Int32 → Int32 → Int32 → hX → Option (Int32 × hX)) (y N stp k7 : Int32) {C : Nat} (hC : C < fs (apS v (v 8) j) 999 0 ∨ C = 0) : f_L_apart_95 L k66 0 (nI j) y (nI (fs (apS v (v 8) j) 999 0)) N stp k7 (nI C) X = k66 0 (nI j) y (nI (fs (apS v (v 8) j) 999 0)) N stp 1 (k7 + 1) X := by
  have hf := fs_le (p := apS v (v 8) j) 999 0
  have hk := hv.S.2.2.2.2.2 j hj
  have hwj := hw j hj
  have cI : (nI C).toInt = (C : Int) := nI_toInt (by omega)
  have b1 : (C : Int) * (v j).toInt ≤ 998 * (v j).toInt := Int.mul_le_mul_of_nonneg_right (by omega) (by omega)
  have b2 : 0 ≤ (C : Int) * (v j).toInt := Int.mul_nonneg (by omega) (by omega)
  have z : (nI C * v j).toInt = (C : Int) * (v j).toInt := by rw [i_mul (by rw [cI]; omega) (by rw [cI]; omega), cI]
  have rd := k_read hK hv.S (x := nI C * v j) ⟨by rw [i_le, z, show (-5000 : Int32).toInt = -5000 by decide]; omega, by rw [i_le, z, show (3000000 : Int32).toInt = 3000000 by decide]; omega⟩
  obtain ⟨hr, o1, o2⟩ := own_ok hv.S hj (z := nI C * v j) (c := (C : Int)) (by omega) z (by omega)
  have hlg : gl v (rb (v 8) (nI C * v j)) j ≤ gg v (rb (v 8) (nI C * v j)) j := by rw [i_le]; omega
  unfold f_L_apart_95
  rw [k_kindw hK hj, Option.bind_some, if_pos hK.tk9, rd, Option.bind_some]
  by_cases c : nI (fs (apS v (v 8) j) 999 0) = 0
  · rw [if_pos c]
    rfl
  · rw [if_neg c, k_al0 hK hv.S hr hj, Option.bind_some, if_pos hlg]
    have hC' : C < fs (apS v (v 8) j) 999 0 := by
      rcases hC with h | h
      · exact h
      · rcases Nat.eq_zero_or_pos (fs (apS v (v 8) j) 999 0) with q | q
        · rw [q] at c; exact absurd rfl c
        · omega
    have hge : (C : Int) ≤ (gl v (rb (v 8) (nI C * v j)) j).toInt := by
      cases C with
      | zero => exact (gl_0 hv.S hr hj).1
      | succ C' =>
        have := own_least hv.S hj (z := nI (C' + 1) * v j) (c := C') (by omega) (by rw [z, Int.natCast_succ]) (by omega) (fs_b 999 0 C' (by omega) (by omega))
        rw [Int.natCast_succ]
        exact this
    rw [if_neg (fun q => by rw [i_lt, cI] at q; omega), Option.bind_some, if_pos (by rw [i_le, nI_toInt (by omega)]; omega)]
    rfl
theorem a_66 (hK : KS L X nn v) (hv : RV B v v cc pc) (hw : ∀ j, j < 4 → (v j).toInt ≤ 1599) {j : Nat} (hj : j < 4) {y : Int32} (hy : 0 ≤ y.toInt) (N stp : Int32) : ∀ (d i m : Nat), i + d = 6 → d < m → f_L_apart_66 L m 0 (nI j) y (nI (fs (apS v (v 8) j) 999 0)) N stp 1 (nI i) X = f_L_apart_166 L 0 (nI j) (nI (fs (apS v (v 8) j) 999 0)) N stp 1 X := by
  intro d
  induction d with
  | zero =>
    intro i m hi hm
    obtain rfl : i = 6 := by omega
    obtain ⟨m, rfl⟩ : ∃ z, m = z + 1 := ⟨m - 1, by omega⟩
    unfold f_L_apart_66
    rw [if_pos (show (6 : Int32) ≤ nI 6 by decide)]
  | succ d ih =>
    intro i m hi hm
    obtain ⟨m, rfl⟩ : ∃ z, m = z + 1 := ⟨m - 1, by omega⟩
    have hf := fs_le (p := apS v (v 8) j) 999 0
    unfold f_L_apart_66
    rw [if_neg (show ¬ (6 : Int32) ≤ nI i from nge (n := 6) (by omega) (by omega) (by omega)), if_neg (show ¬ (1 : Int32) = 0 by decide)]
    by_cases c : nI (fs (apS v (v 8) j) 999 0) = 0
    · have a := a_95 hK hv hw hj (f_L_apart_66 L m) y N stp (nI i) (C := 0) (Or.inr rfl)
      have a : f_L_apart_95 L (f_L_apart_66 L m) 0 (nI j) y (nI (fs (apS v (v 8) j) 999 0)) N stp (nI i) 0 X = _ := a
      rw [if_pos c, a, n1]
      exact ih (i + 1) m (by omega) (by omega)
    · have hT : 0 < fs (apS v (v 8) j) 999 0 := by
        rcases Nat.eq_zero_or_pos (fs (apS v (v 8) j) 999 0) with q | q
        · rw [q] at c; exact absurd rfl c
        · exact q
      have hyr := i_rng y
      have i64 : (64 : Int32).toInt = 64 := by decide
      obtain ⟨-, e64⟩ := i_mod (a := y) (b := 64) hy (by rw [i64]; omega)
      rw [i64] at e64
      have es : (y / 64 + nI i).toInt = y.toInt / 64 + (i : Int) := by rw [i_add (by rw [e64, nI_toInt (by omega)]; omega) (by rw [e64, nI_toInt (by omega)]; omega), e64, nI_toInt (by omega)]
      obtain ⟨C, hC, eC⟩ := mod_of (a := y / 64 + nI i) (b := nI (fs (apS v (v 8) j) 999 0)) (k := fs (apS v (v 8) j) 999 0) (by rw [es]; omega) hT (by omega) (nI_toInt (by omega))
      rw [if_neg c, if_pos c, eC, a_95 hK hv hw hj (f_L_apart_66 L m) y N stp (nI i) (Or.inl hC), n1]
      exact ih (i + 1) m (by omega) (by omega)
theorem q_apart (hK : KS L X nn v) (hv : RV B v v cc pc) (hw : ∀ j, j < 4 → (v j).toInt ≤ 1599) {j : Nat} (hj : j < 4) {y : Int32} (hy : 0 ≤ y.toInt) : ∃ X' n', f_L_apart L X 0 (nI j) y = some (1, X') ∧ KS L X' n' v := by
  obtain ⟨m, hm, em⟩ := mod_of (a := y) (b := 40) (k := 40) hy (by omega) (by omega) (by decide)
  obtain ⟨X', n', e, hK'⟩ := a_166 hK hv hj hm
  refine ⟨X', n', ?_, hK'⟩
  have hf := fs_le (p := apS v (v 8) j) 999 0
  have e56 : f_L_apart_56 L 0 (nI j) y (nI (fs (apS v (v 8) j) 999 0)) (nI m) (gst (fun S => al (apS v (nI S) j) m) 1000) X = some (1, X') := by
    have a := a_66 hK hv hw hj hy (nI m) (gst (fun S => al (apS v (nI S) j) m) 1000) 6 0 u_fuel rfl (by unfold u_fuel; omega)
    have a : f_L_apart_56 L 0 (nI j) y (nI (fs (apS v (v 8) j) 999 0)) (nI m) (gst (fun S => al (apS v (nI S) j) m) 1000) X = _ := a
    rw [a, e]
  unfold f_L_apart
  rw [k_apart hK hv.S hj, Option.bind_some, if_pos hK.tk9, em, k_best hK hv.S hj (c := m) (by omega), Option.bind_some, if_neg (fun q => by rw [i_lt0, nI_toInt (by omega)] at q; omega), e56]
  rcases gst_s (q := fun S => al (apS v (nI S) j) m) 1000 with h | ⟨S, h1, h2, h3, h4⟩
  · rw [h, if_pos (show (-100009 : Int32) < 0 by decide)]
  · rw [h3, if_neg (fun q => by rw [i_lt0, nI_toInt (by omega)] at q; omega), k_c0 hK, Option.bind_some, Option.bind_some]
    by_cases c1 : nI S < v 8
    · rw [if_pos c1]
    · rw [if_neg c1]
      by_cases c2 : nI m ≤ nI (fs (apS v (v 8) j) 999 0)
      · rw [if_pos c2]
      · rw [if_neg c2]
        by_cases c3 : nI S ≤ v 8
        · exfalso
          have e8 : nI S = v 8 := by
            rw [i_eq]
            have q1 : ¬ (nI S).toInt < (v 8).toInt := fun q => c1 (i_lt.mpr q)
            have q2 := i_le.mp c3
            omega
          have h4 : al (apS v (nI S) j) m = true := h4
          rw [e8] at h4
          have := fs_al h4 999 0 (by omega)
          exact c2 ((nle (by omega) (by omega)).mpr this)
        · rw [if_neg c3]
end AP
