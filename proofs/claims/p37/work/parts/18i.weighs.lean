/-! the fourth check of the law: a bundle is weighed -/
/-- what holds of the numbers at each round of the law -/
def LI (B : Int) (v : Nat → Int32) : Prop := RV B v v 4 4 ∧ (∀ j, j < 4 → (v j).toInt ≤ 1599) ∧ RL4 v
theorem LI.mono {B B' : Int} {v : Nat → Int32} (h : LI B v) (hB : B ≤ B') : LI B' v := ⟨h.1.mono hB, h.2⟩
theorem LI.of {B : Int} {w u : Nat → Int32} (h : ∃ n m, RV B u w n m) (e : ∀ j, j < 4 → (u j).toInt ≤ 1599) (e14 : u 14 = nI 4) (e15 : u 15 = nI 4) (hr : RL4 u) : LI B u := ⟨RV.fix h (by omega) (by omega) e14 e15, e, hr⟩
theorem i32_as (a b c : Int32) : a + (b - c) = a + b - c := by
  rw [Int32.sub_eq_add_neg, Int32.sub_eq_add_neg, Int32.add_assoc]
theorem weigh_in {v : Nat → Int32} {j : Nat} {n d : Int32} (h : RgS v) (hj : j < 4) (hn : 1 ≤ n.toInt ∧ n.toInt ≤ 500) (hd : -(n.toInt * (v (4 + j)).toInt) ≤ d.toInt ∧ d.toInt ≤ n.toInt * (v (4 + j)).toInt) : (gl v (wg_r v j n d) j).toInt ≤ n.toInt ∧ n.toInt ≤ (gg v (wg_r v j n d) j).toInt := by
  obtain ⟨x1, x2, x3⟩ := wx h hj hn hd
  have hrb := rb_i (S := v 8) (x := (n * v j + d) + v 10) h.1 ⟨x2, x3⟩
  have hk := h.2.2.2.2.2 j hj
  have hm := wm (S := (v 8).toInt) (lim := (v 9).toInt) (w := (v j).toInt) (s := (v (4 + j)).toInt) (n := n.toInt) (d := d.toInt) (bi := (v 10).toInt) (m := (2 * ((n * v j + d) + v 10).toInt + (v 8).toInt) / (2 * (v 8).toInt)) h.1 h.2.1 hk.1 hk.2 hn hd h.2.2.1 (by rw [x1]) hrb
  unfold wg_r
  generalize rb (v 8) ((n * v j + d) + v 10) = r at hm ⊢
  obtain ⟨hr, ⟨q, hq⟩, m1, m2, m3⟩ := hm
  have hs := shown_of h.1 hr hq
  have g1 := gl_i h hr hj
  have g2 := gg_i h hr hj hs
  have h8 := h.1
  have h9 := h.2.1
  refine ⟨?_, ?_⟩
  · rw [g1]
    split
    · omega
    · have : (r.toInt - (v 8).toInt / 2 - (v 9).toInt + ((v j).toInt + (v (4 + j)).toInt) - 1) / ((v j).toInt + (v (4 + j)).toInt) < n.toInt + 1 := by
        refine Int.ediv_lt_of_lt_mul (by omega) ?_
        rw [Int.add_mul, Int.one_mul]
        omega
      omega
  · rw [g2]
    exact Int.le_ediv_of_mul_le (by omega) m2
/-- the numbers behind a weighing -/
def vW (v : Nat → Int32) (c : Nat) (k n r g : Int32) : Nat → Int32 := upd (upd (upd (upd (upd (upd (upd v (16 + 6 * c) (v (16 + 6 * c) + g)) (16 + 6 * c + 1) 1) (16 + 6 * c + 2) k) (16 + 6 * c + 3) n) (16 + 6 * c + 4) r) (16 + 6 * c + 5) g) 13 (v 13 + (g - n))
section WE
variable {B : Int} {L : hL} {X : hX} {nn : Nat} {v : Nat → Int32}
theorem vW_lo {c k : Nat} {q n r g : Int32} (h : k < 16) (h2 : k ≠ 13) : vW v c q n r g k = v k := by
  unfold vW
  simp (disch := omega) only [pk_un]
theorem vW_o {c d i : Nat} {q n r g : Int32} (hd : d ≠ c) (hi : i < 6) : vW v c q n r g (16 + 6 * d + i) = v (16 + 6 * d + i) := by
  unfold vW
  simp (disch := omega) only [pk_un]
theorem vW_g {c : Nat} {q n r g : Int32} : vW v c q n r g 13 = v 13 + (g - n) := by
  unfold vW
  rw [pk_us]
theorem vW_0 {c : Nat} {q n r g : Int32} : vW v c q n r g (16 + 6 * c) = v (16 + 6 * c) + g := by
  unfold vW
  simp (disch := omega) only [pk_un, pk_us]
theorem vW_1 {c : Nat} {q n r g : Int32} : vW v c q n r g (16 + 6 * c + 1) = 1 := by
  unfold vW
  simp (disch := omega) only [pk_un, pk_us]
theorem vW_3 {c : Nat} {q n r g : Int32} : vW v c q n r g (16 + 6 * c + 3) = n := by
  unfold vW
  simp (disch := omega) only [pk_un, pk_us]
theorem vW_4 {c : Nat} {q n r g : Int32} : vW v c q n r g (16 + 6 * c + 4) = r := by
  unfold vW
  simp (disch := omega) only [pk_un, pk_us]
theorem vW_5 {c : Nat} {q n r g : Int32} : vW v c q n r g (16 + 6 * c + 5) = g := by
  unfold vW
  simp (disch := omega) only [pk_un, pk_us]
theorem op_vW (hS : RgS v) {c j : Nat} (hc : c < 4) (hj : j < 4) {n d : Int32} (hn : 1 ≤ n.toInt ∧ n.toInt ≤ 500) (hd : -(n.toInt * (v (4 + j)).toInt) ≤ d.toInt ∧ d.toInt ≤ n.toInt * (v (4 + j)).toInt) : op_weighs v 4 (nI c) (nI j) n d = (gs v (wg_r v j n d) j (v 11), vW v c (nI j) n (wg_r v j n d) (gs v (wg_r v j n d) j (v 11))) := by
  have hk := hS.2.2.2.2.2 j hj
  have b1 : n.toInt * (v (4 + j)).toInt ≤ 500 * (v (4 + j)).toInt := Int.mul_le_mul_of_nonneg_right hn.2 (by omega)
  have b2 : 0 ≤ n.toInt * (v (4 + j)).toInt := Int.mul_nonneg (by omega) (by omega)
  have m : (n * v (4 + j)).toInt = n.toInt * (v (4 + j)).toInt := i_mul (by omega) (by omega)
  have hcond : isR (nI c) 4 ∧ (0 ≤ nI j ∧ nI j ≤ 3) ∧ (1 ≤ n ∧ n ≤ 500) ∧ -(n * v (4 + j)) ≤ d ∧ d ≤ n * v (4 + j) := by
    refine ⟨(nR (by omega) (by omega)).mpr hc, le3 hj, ⟨by rw [i_le, z1i]; omega, by rw [i_le, show (500 : Int32).toInt = 500 by decide]; omega⟩, ?_, ?_⟩
    · rw [i_le, i_neg (by omega), m]; omega
    · rw [i_le, m]; omega
  unfold op_weighs
  rw [nI_clamp (show j < 2 ^ 31 by omega), nI_clamp (show c < 2 ^ 31 by omega), if_pos hcond]
  rfl
theorem q_weighs (hK : KS L X nn v) (hI : LI B v) (hB : B ≤ 1000000000) {c : Nat} (hc : c < 4) {z : Int32} (hz : 0 ≤ z.toInt) : ∃ X' n' v', f_L_weighs L X 0 (nI c) z = some (1, X') ∧ KS L X' n' v' ∧ LI (B + 1600) v' := by
  obtain ⟨hv, hw, h4⟩ := hI
  have hS := hv.S
  obtain ⟨j, hj, ej⟩ := mod_of (a := z) (b := 4) (k := 4) hz (by omega) (by omega) (by decide)
  have i4 : (4 : Int32).toInt = 4 := by decide
  have i512 : (512 : Int32).toInt = 512 := by decide
  obtain ⟨-, z4⟩ := i_mod (a := z) (b := 4) hz (by rw [i4]; omega)
  obtain ⟨-, z512⟩ := i_mod (a := z) (b := 512) hz (by rw [i512]; omega)
  rw [i4] at z4
  rw [i512] at z512
  obtain ⟨m, hm, em⟩ := mod_of (a := z / 4) (b := 80) (k := 80) (by rw [z4]; omega) (by omega) (by omega) (by decide)
  have hk := hS.2.2.2.2.2 j hj
  have hwj := hw j hj
  have nN : (1 + nI m).toInt = 1 + (m : Int) := by rw [i_add (by rw [z1i, nI_toInt (by omega)]; omega) (by rw [z1i, nI_toInt (by omega)]; omega), z1i, nI_toInt (by omega)]
  have b1 : (1 + (m : Int)) * (v (4 + j)).toInt ≤ 80 * (v (4 + j)).toInt := Int.mul_le_mul_of_nonneg_right (by omega) (by omega)
  have b2 : 0 ≤ (1 + (m : Int)) * (v (4 + j)).toInt := Int.mul_nonneg (by omega) (by omega)
  have eM : ((1 + nI m) * v (4 + j)).toInt = (1 + (m : Int)) * (v (4 + j)).toInt := by rw [i_mul (by rw [nN]; omega) (by rw [nN]; omega), nN]
  have e2M : (2 * ((1 + nI m) * v (4 + j))).toInt = 2 * ((1 + (m : Int)) * (v (4 + j)).toInt) := by rw [i_mul (by rw [z2i, eM]; omega) (by rw [z2i, eM]; omega), z2i, eM]
  have e2M1 : (2 * ((1 + nI m) * v (4 + j)) + 1).toInt = 2 * ((1 + (m : Int)) * (v (4 + j)).toInt) + 1 := by rw [i_add (by rw [z1i, e2M]; omega) (by rw [z1i, e2M]; omega), z1i, e2M]
  obtain ⟨r1, -⟩ := i_mod (a := z / 512) (b := 2 * ((1 + nI m) * v (4 + j)) + 1) (by rw [z512]; omega) (by omega)
  have r2 := Int.emod_nonneg (z / 512).toInt (show (2 * ((1 + nI m) * v (4 + j)) + 1).toInt ≠ 0 by omega)
  have r3 := Int.emod_lt_of_pos (z / 512).toInt (show 0 < (2 * ((1 + nI m) * v (4 + j)) + 1).toInt by omega)
  rw [← r1] at r2 r3
  generalize hq : z / 512 - z / 512 / (2 * ((1 + nI m) * v (4 + j)) + 1) * (2 * ((1 + nI m) * v (4 + j)) + 1) = q at r2 r3
  have eD : (q - (1 + nI m) * v (4 + j)).toInt = q.toInt - (1 + (m : Int)) * (v (4 + j)).toInt := by rw [i_sub (by rw [eM]; omega) (by rw [eM]; omega), eM]
  have hn : 1 ≤ (1 + nI m).toInt ∧ (1 + nI m).toInt ≤ 500 := by omega
  have hd : -((1 + nI m).toInt * (v (4 + j)).toInt) ≤ (q - (1 + nI m) * v (4 + j)).toInt ∧ (q - (1 + nI m) * v (4 + j)).toInt ≤ (1 + nI m).toInt * (v (4 + j)).toInt := by
    rw [nN, eD]
    omega
  have hop := op_vW hS hc hj hn hd
  obtain ⟨X', n', s1, s2⟩ := kb_weigh hK hv hB (nI c) (nI j) (1 + nI m) (q - (1 + nI m) * v (4 + j))
  have hrv := (rv_weighs hv hB (nI c) (nI j) (1 + nI m) (q - (1 + nI m) * v (4 + j))).2.2
  obtain ⟨w1, w2⟩ := weigh_in hS hj hn hd
  obtain ⟨w3, w4, w5⟩ := weigh_ok hS hj hn hd
  obtain ⟨x1, x2, x3⟩ := wx hS hj hn hd
  have wb := (rb_f (S := v 8) (x := ((1 + nI m) * v j + (q - (1 + nI m) * v (4 + j))) + v 10) hS.1 ⟨x2, x3⟩).2.2.2
  have b3 : (1 + (m : Int)) * (v j).toInt ≤ 80 * (v j).toInt := Int.mul_le_mul_of_nonneg_right (by omega) (by omega)
  rw [x1, nN, eD] at wb
  have w6 := gs_ok hS w3 hj w4 w5 (v 11)
  have hS8 := hS.1
  have hS10 := hS.2.2.1
  have hS9 := hS.2.1
  rw [hop] at s1 s2 hrv
  have u3 : rdg (wg_r v j (1 + nI m) (q - (1 + nI m) * v (4 + j))) := w3
  have u4 : gl v (wg_r v j (1 + nI m) (q - (1 + nI m) * v (4 + j))) j ≤ gg v (wg_r v j (1 + nI m) (q - (1 + nI m) * v (4 + j))) j := w4
  have u6 : 0 ≤ (gs v (wg_r v j (1 + nI m) (q - (1 + nI m) * v (4 + j))) j (v 11)).toInt := w6.1
  have w7 : (wg_r v j (1 + nI m) (q - (1 + nI m) * v (4 + j))).toInt ≤ 400000 := by
    show (rb (v 8) (((1 + nI m) * v j + (q - (1 + nI m) * v (4 + j))) + v 10)).toInt ≤ 400000
    omega
  generalize hr : wg_r v j (1 + nI m) (q - (1 + nI m) * v (4 + j)) = r at *
  generalize hg : gs v r j (v 11) = g at *
  generalize hN : 1 + nI m = N at *
  have s2' : KS L X' n' (vW v c (nI j) N r g) := s2
  have hrv' : ∃ n m, RV (B + 1600) (vW v c (nI j) N r g) (vW v c (nI j) N r g) n m := hrv
  have e13 : ∀ k, k < 13 → vW v c (nI j) N r g k = v k := fun k hk' => vW_lo (by omega) (by omega)
  have hI' : LI (B + 1600) (vW v c (nI j) N r g) := by
    refine LI.of hrv' (fun i hi => ?_) ?_ ?_ (fun d hd6 hne => ?_)
    · rw [e13 i (by omega)]; exact hw i hi
    · rw [vW_lo (by omega) (by omega)]; exact hv.1.2.2.2.1
    · rw [vW_lo (by omega) (by omega)]; exact hv.1.2.2.2.2.1
    · by_cases cd : d = c
      · subst cd
        rw [vW_4]
        exact w7
      · rw [vW_o cd (by omega)] at hne ⊢
        exact h4 d hd6 hne
  have hv' := hI'.1
  have hS' := hv'.S
  have l1 : gl (vW v c (nI j) N r g) r j = gl v r j := gl_c e13 hj
  have l2 : gg (vW v c (nI j) N r g) r j = gg v r j := gg_c e13 hj
  have l3 : gs (vW v c (nI j) N r g) r j (v 11) = g := (gs_c e13 hj).trans hg
  have c0 : f_X9_customer L X' 0 (nI c) 0 = some (v (16 + 6 * c) + g) := by rw [k_cu0 s2' hv' hc, vW_0]
  have c2 : f_X9_customer L X' 0 (nI c) 2 = some N := by rw [k_cu2 s2' hv' hc, vW_1, if_neg (show ¬ (1 : Int32) = 0 by decide), vW_3]
  have c3 : f_X9_customer L X' 0 (nI c) 3 = some r := by rw [k_cu3 s2' hv' hc, vW_1, if_neg (show ¬ (1 : Int32) = 0 by decide), vW_4]
  have c4 : f_X9_customer L X' 0 (nI c) 4 = some g := by rw [k_cu4 s2' hv' hc, vW_1, if_neg (show ¬ (1 : Int32) = 0 by decide), vW_5]
  have c8 : f_X9_count L X' 0 8 = some (v 13 + g - N) := by rw [k_c8 s2', vW_g, i32_as]
  have c11 : f_X9_count L X' 0 3 = some (v 11) := by rw [k_c3 s2', e13 11 (by omega)]
  have a0 : f_X9_allowed L X' 0 r (nI j) 0 = some (gl v r j) := by rw [k_al0 s2' hS' u3 hj, l1, l2, if_pos u4]
  have a1 : f_X9_allowed L X' 0 r (nI j) 1 = some (gg v r j) := by rw [k_al1 s2' hS' u3 hj, l1, l2, if_pos u4]
  have gu : f_X9_guess L X' 0 r (nI j) (v 11) = some g := by
    have h11 := hS.2.2.2.1
    rw [k_guess s2' hS' u3 hj ⟨i_0le.mpr h11.1, by rw [i_le, show (3 : Int32).toInt = 3 by decide]; exact h11.2⟩, l3]
  refine ⟨X', n', _, ?_, s2', hI'⟩
  unfold f_L_weighs
  rw [ej, em, hN]
  rw [k_kinds hK hj, Option.bind_some, if_pos hK.tk9, k_cu0 hK hv hc, Option.bind_some, k_c8 hK, Option.bind_some, if_pos (i_nz (by omega)), hq, s1, Option.bind_some]
  simp only [c3, Option.bind_some, if_neg (show ¬ g < 0 from fun q => by rw [i_lt0] at q; omega), c0, if_true, c8, c4, c2, a0, a1, if_neg (show ¬ N < gl v r j from fun q => by rw [i_lt] at q; omega), if_neg (show ¬ gg v r j < N from fun q => by rw [i_lt] at q; omega), c11, gu]
end WE
