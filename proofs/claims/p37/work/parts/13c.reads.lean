/-! readings of loads -/
def rb (S x : Int32) : Int32 := if 0 < S * fl (2 * x + S) (2 * S) then S * fl (2 * x + S) (2 * S) else 0
theorem rb_m {S x : Int32} (hS : 1 ≤ S.toInt ∧ S.toInt ≤ 1000) (hx : -6000000 ≤ x.toInt ∧ x.toInt ≤ 6000000) : (2 * S).toInt = 2 * S.toInt ∧ (fl (2 * x + S) (2 * S)).toInt = (2 * x.toInt + S.toInt) / (2 * S.toInt) ∧ (S * fl (2 * x + S) (2 * S)).toInt = S.toInt * ((2 * x.toInt + S.toInt) / (2 * S.toInt)) ∧ -20000000 ≤ S.toInt * ((2 * x.toInt + S.toInt) / (2 * S.toInt)) ∧ S.toInt * ((2 * x.toInt + S.toInt) / (2 * S.toInt)) ≤ 20000000 := by
  have e1 : (2 * S).toInt = 2 * S.toInt := by rw [i_mul (by rw [z2i]; omega) (by rw [z2i]; omega), z2i]
  have e2 : (2 * x).toInt = 2 * x.toInt := by rw [i_mul (by rw [z2i]; omega) (by rw [z2i]; omega), z2i]
  have e3 : (2 * x + S).toInt = 2 * x.toInt + S.toInt := by rw [i_add (by omega) (by omega), e2]
  have e4 : (fl (2 * x + S) (2 * S)).toInt = (2 * x.toInt + S.toInt) / (2 * S.toInt) := by rw [fl_i (by omega), e1, e3]
  have m1 := Int.mul_ediv_self_le (x := 2 * x.toInt + S.toInt) (k := 2 * S.toInt) (by omega)
  have m2 := Int.lt_mul_ediv_self_add (x := 2 * x.toInt + S.toInt) (k := 2 * S.toInt) (by omega)
  rw [Int.mul_assoc] at m1 m2
  have e5 : (S * fl (2 * x + S) (2 * S)).toInt = S.toInt * ((2 * x.toInt + S.toInt) / (2 * S.toInt)) := by
    rw [i_mul (by rw [e4]; omega) (by rw [e4]; omega), e4]
  exact ⟨e1, e4, e5, by omega, by omega⟩
theorem c_readingAt {L : hL} {X : hX} {S x : Int32} (hS : 1 ≤ S.toInt ∧ S.toInt ≤ 1000) : f_X9_readingAt L X S x = some (rb S x) := by
  have e1 : (2 * S).toInt = 2 * S.toInt := by rw [i_mul (by rw [z2i]; omega) (by rw [z2i]; omega), z2i]
  unfold f_X9_readingAt
  rw [s_quotient (by omega), Option.bind_some]
  rfl
theorem rb_i {S x : Int32} (hS : 1 ≤ S.toInt ∧ S.toInt ≤ 1000) (hx : -6000000 ≤ x.toInt ∧ x.toInt ≤ 6000000) : (rb S x).toInt = if 0 < S.toInt * ((2 * x.toInt + S.toInt) / (2 * S.toInt)) then S.toInt * ((2 * x.toInt + S.toInt) / (2 * S.toInt)) else 0 := by
  obtain ⟨e1, e4, e5, b1, b2⟩ := rb_m hS hx
  unfold rb
  by_cases h : 0 < S * fl (2 * x + S) (2 * S)
  · have h' := i_lt.mp h
    rw [z0i, e5] at h'
    rw [if_pos h, if_pos h', e5]
  · have h' : ¬ (0 : Int32).toInt < (S * fl (2 * x + S) (2 * S)).toInt := fun q => h (i_lt.mpr q)
    rw [z0i, e5] at h'
    rw [if_neg h, if_neg h', z0i]
/-- the true count is allowed -/
theorem wm {S lim w s n d bi m r : Int} (hS : 1 ≤ S ∧ S ≤ 1000) (hl : 0 ≤ lim ∧ lim ≤ 2000) (hw : 100 ≤ w ∧ w ≤ 5000) (hs : 0 ≤ s ∧ s ≤ 50) (hn : 1 ≤ n ∧ n ≤ 500) (hd : -(n * s) ≤ d ∧ d ≤ n * s) (hb : -lim ≤ bi ∧ bi ≤ lim) (hm : m = (2 * (n * w + d + bi) + S) / (2 * S)) (hr : r = if 0 < S * m then S * m else 0) : (0 ≤ r ∧ r ≤ 3000000) ∧ (∃ q, r = S * q) ∧ r - S / 2 - lim ≤ n * (w + s) ∧ n * (w - s) ≤ r + (S - 1) / 2 + lim ∧ r + (S - 1) / 2 + lim < 1601 * (w - s) := by
  have m1 := Int.mul_ediv_self_le (x := 2 * (n * w + d + bi) + S) (k := 2 * S) (by omega)
  have m2 := Int.lt_mul_ediv_self_add (x := 2 * (n * w + d + bi) + S) (k := 2 * S) (by omega)
  rw [← hm, Int.mul_assoc] at m1 m2
  have a1 : n * (w + s) = n * w + n * s := Int.mul_add _ _ _
  have a2 : n * (w - s) = n * w - n * s := Int.mul_sub _ _ _
  have a3 : n * (w + s) ≤ 500 * (w + s) := Int.mul_le_mul_of_nonneg_right hn.2 (by omega)
  have a4 : 0 ≤ n * (w - s) := Int.mul_nonneg (by omega) (by omega)
  have a5 : S * m < 0 ∨ 0 ≤ S * m := by omega
  by_cases c : 0 < S * m
  · rw [if_pos c] at hr
    exact ⟨⟨by omega, by omega⟩, ⟨m, hr⟩, by omega, by omega, by omega⟩
  · rw [if_neg c] at hr
    exact ⟨⟨by omega, by omega⟩, ⟨0, by omega⟩, by omega, by omega, by omega⟩
/-- what is said of a weighing's load -/
theorem wx {v : Nat → Int32} {j : Nat} {n d : Int32} (h : RgS v) (hj : j < 4) (hn : 1 ≤ n.toInt ∧ n.toInt ≤ 500) (hd : -(n.toInt * (v (4 + j)).toInt) ≤ d.toInt ∧ d.toInt ≤ n.toInt * (v (4 + j)).toInt) : ((n * v j + d) + v 10).toInt = n.toInt * (v j).toInt + d.toInt + (v 10).toInt ∧ -6000000 ≤ ((n * v j + d) + v 10).toInt ∧ ((n * v j + d) + v 10).toInt ≤ 6000000 := by
  obtain ⟨h8, h9, h10, -, -, hk⟩ := h
  have hk := hk j hj
  have b1 : n.toInt * (v j).toInt ≤ 500 * (v j).toInt := Int.mul_le_mul_of_nonneg_right hn.2 (by omega)
  have b2 : 0 ≤ n.toInt * (v j).toInt := Int.mul_nonneg (by omega) (by omega)
  have b3 : n.toInt * (v (4 + j)).toInt ≤ 500 * (v (4 + j)).toInt := Int.mul_le_mul_of_nonneg_right hn.2 (by omega)
  have e1 : (n * v j).toInt = n.toInt * (v j).toInt := i_mul (by omega) (by omega)
  have e2 : (n * v j + d).toInt = n.toInt * (v j).toInt + d.toInt := by rw [i_add (by omega) (by omega), e1]
  have e3 : ((n * v j + d) + v 10).toInt = n.toInt * (v j).toInt + d.toInt + (v 10).toInt := by rw [i_add (by omega) (by omega), e2]
  exact ⟨e3, by omega, by omega⟩
theorem shown_of {S r : Int32} {q : Int} (hS : 1 ≤ S.toInt ∧ S.toInt ≤ 1000) (hr : rdg r) (e : r.toInt = S.toInt * q) : r - r / S * S = 0 := by
  have d : r / S = fl r S := fl_div (by omega) (by omega)
  have f := fl_i (a := r) (b := S) (by omega)
  rw [e, Int.mul_ediv_cancel_left _ (by omega)] at f
  have e1 : (fl r S * S).toInt = r.toInt := by
    have : (fl r S).toInt * S.toInt = r.toInt := by rw [f, e, Int.mul_comm]
    rw [i_mul (by omega) (by omega), this]
  rw [d]
  refine Int32.toInt_inj.mp ?_
  rw [i_sub (by omega) (by omega), e1, z0i]
  omega
theorem weigh_ok {v : Nat → Int32} {j : Nat} {n d : Int32} (h : RgS v) (hj : j < 4) (hn : 1 ≤ n.toInt ∧ n.toInt ≤ 500) (hd : -(n.toInt * (v (4 + j)).toInt) ≤ d.toInt ∧ d.toInt ≤ n.toInt * (v (4 + j)).toInt) : rdg (rb (v 8) ((n * v j + d) + v 10)) ∧ gl v (rb (v 8) ((n * v j + d) + v 10)) j ≤ gg v (rb (v 8) ((n * v j + d) + v 10)) j ∧ (gg v (rb (v 8) ((n * v j + d) + v 10)) j).toInt ≤ 1600 := by
  obtain ⟨x1, x2, x3⟩ := wx h hj hn hd
  have hrb := rb_i (S := v 8) (x := (n * v j + d) + v 10) h.1 ⟨x2, x3⟩
  have hk := h.2.2.2.2.2 j hj
  have hm := wm (S := (v 8).toInt) (lim := (v 9).toInt) (w := (v j).toInt) (s := (v (4 + j)).toInt) (n := n.toInt) (d := d.toInt) (bi := (v 10).toInt) (m := (2 * ((n * v j + d) + v 10).toInt + (v 8).toInt) / (2 * (v 8).toInt)) h.1 h.2.1 hk.1 hk.2 hn hd h.2.2.1 (by rw [x1]) hrb
  generalize rb (v 8) ((n * v j + d) + v 10) = r at hm ⊢
  obtain ⟨hr, ⟨q, hq⟩, m1, m2, m3⟩ := hm
  have hs := shown_of h.1 hr hq
  have g1 := gl_i h hr hj
  have g2 := gg_i h hr hj hs
  have h8 := h.1
  have h9 := h.2.1
  have k1 : (gl v r j).toInt ≤ n.toInt := by
    rw [g1]
    split
    · omega
    · have : (r.toInt - (v 8).toInt / 2 - (v 9).toInt + ((v j).toInt + (v (4 + j)).toInt) - 1) / ((v j).toInt + (v (4 + j)).toInt) < n.toInt + 1 := by
        refine Int.ediv_lt_of_lt_mul (by omega) ?_
        rw [Int.add_mul, Int.one_mul]
        omega
      omega
  have k2 : n.toInt ≤ (gg v r j).toInt := by
    rw [g2]
    exact Int.le_ediv_of_mul_le (by omega) m2
  refine ⟨hr, i_le.mpr (by omega), ?_⟩
  rw [g2]
  have : (r.toInt + ((v 8).toInt - 1) / 2 + (v 9).toInt) / ((v j).toInt - (v (4 + j)).toInt) < 1601 := Int.ediv_lt_of_lt_mul (by omega) m3
  omega
theorem gs_ok {v : Nat → Int32} {r : Int32} {j : Nat} (h : RgS v) (hr : rdg r) (hj : j < 4) (hl : gl v r j ≤ gg v r j) (hg : (gg v r j).toInt ≤ 1600) (u : Int32) : 0 ≤ (gs v r j u).toInt ∧ (gs v r j u).toInt ≤ 1600 := by
  have a := gl_0 h hr hj
  have c := i_le.mp hl
  unfold gs
  rw [if_pos hl]
  by_cases u1 : u = 1
  · rw [if_pos u1]; omega
  · rw [if_neg u1]
    by_cases u2 : u = 2
    · rw [if_pos u2]; omega
    · rw [if_neg u2]
      by_cases u3 : u = 3
      · have e := i_add (a := gl v r j) (b := gg v r j) (by omega) (by omega)
        rw [if_pos u3, fl_div (by omega) (by rw [z2i]; omega), fl_i (by rw [z2i]; omega), z2i, e]
        omega
      · rw [if_neg u3]
        by_cases d1 : gn v r j < gg v r j
        · have d1' := i_lt.mp d1
          rw [if_pos d1]
          by_cases d2 : gl v r j < gn v r j
          · have d2' := i_lt.mp d2
            rw [if_pos d2]; omega
          · rw [if_neg d2]; omega
        · rw [if_neg d1]
          by_cases d2 : gl v r j < gg v r j
          · rw [if_pos d2]; omega
          · rw [if_neg d2]; omega
