section RO2
variable {B : Int} {v w : Nat → Int32} {n m : Nat}
theorem rv_weighs (h : RV B v w n m) (hB : B ≤ 1000000000) (c k a d : Int32) : SIM (B + 1600) (op_weighs v n c k a d) (op_weighs w n c k a d) := by
  have hn := h.1.1
  unfold op_weighs
  by_cases hk : 0 ≤ k ∧ k ≤ 3
  · obtain ⟨j, hj, rfl⟩ := kind_of hk
    have ej := nI_clamp (show j < 2 ^ 31 by omega)
    rw [ej]
    have e4 : w (4 + j) = v (4 + j) := (h.ag (4 + j) (by omega)).symm
    rw [e4]
    by_cases hc : isR c n ∧ (0 ≤ nI j ∧ nI j ≤ 3) ∧ (1 ≤ a ∧ a ≤ 500) ∧ -(a * v (4 + j)) ≤ d ∧ d ≤ a * v (4 + j)
    · rw [if_pos hc, if_pos hc]
      obtain ⟨x, hx, rfl⟩ := isR_of (by omega) hc.1
      have ex := nI_clamp (show x < 2 ^ 31 by omega)
      obtain ⟨g1, g2⟩ := dv_i h.S hj hc.2.2.1 hc.2.2.2
      obtain ⟨q1, q2, q3⟩ := weigh_ok h.S hj g1 g2
      have g3 : 0 ≤ (gs v (wg_r v j a d) j (v 11)).toInt ∧ (gs v (wg_r v j a d) j (v 11)).toInt ≤ 1600 := gs_ok h.S q1 hj q2 q3 (v 11)
      have q1 : rdg (wg_r v j a d) := q1
      have er : wg_r w j a d = wg_r v j a d := by
        unfold wg_r
        rw [← h.ag 8 (by omega), ← h.ag 10 (by omega), ← h.ag j (by omega)]
      have eg : gs w (wg_r v j a d) j (w 11) = gs v (wg_r v j a d) j (v 11) := by rw [← h.ag 11 (by omega), gs_cong h.ag hj]
      simp only [ex, eg, er]
      generalize gs v (wg_r v j a d) j (v 11) = g at g3 ⊢
      generalize wg_r v j a d = r at q1 ⊢
      obtain ⟨b1, b2, b3, b4⟩ := h.2.1 x hx
      have hp := b1.1
      have es : (v (16 + 6 * x) + g).toInt = (v (16 + 6 * x)).toInt + g.toInt := i_add (by omega) (by omega)
      have F : ∀ f : Nat → Int32, (∀ y, ∀ i, i < 16 + 6 * x ∨ 16 + 6 * x + 6 ≤ i → i ≠ 13 → upd (upd (upd (upd (upd (upd (upd f (16 + 6 * x) (f (16 + 6 * x) + g)) (16 + 6 * x + 1) 1) (16 + 6 * x + 2) (nI j)) (16 + 6 * x + 3) a) (16 + 6 * x + 4) r) (16 + 6 * x + 5) g) 13 y i = f i) := fun f y i h1 h2 => by simp (disch := omega) only [pk_un]
      refine SIM.mk rfl (ERp (by omega)) (h.cust (B' := B + 1600) (by omega) hx (F v _) (F w _) ?_ ?_)
      · rw [pk_us, pk_us, h.ag 13 (by omega)]
      · have hval : ∀ f : Nat → Int32, ∀ y, (upd (upd (upd (upd (upd (upd (upd f (16 + 6 * x) (f (16 + 6 * x) + g)) (16 + 6 * x + 1) 1) (16 + 6 * x + 2) (nI j)) (16 + 6 * x + 3) a) (16 + 6 * x + 4) r) (16 + 6 * x + 5) g) 13 y (16 + 6 * x) = f (16 + 6 * x) + g) ∧ (upd (upd (upd (upd (upd (upd (upd f (16 + 6 * x) (f (16 + 6 * x) + g)) (16 + 6 * x + 1) 1) (16 + 6 * x + 2) (nI j)) (16 + 6 * x + 3) a) (16 + 6 * x + 4) r) (16 + 6 * x + 5) g) 13 y (16 + 6 * x + 1) = 1) ∧ (upd (upd (upd (upd (upd (upd (upd f (16 + 6 * x) (f (16 + 6 * x) + g)) (16 + 6 * x + 1) 1) (16 + 6 * x + 2) (nI j)) (16 + 6 * x + 3) a) (16 + 6 * x + 4) r) (16 + 6 * x + 5) g) 13 y (16 + 6 * x + 2) = nI j) ∧ (upd (upd (upd (upd (upd (upd (upd f (16 + 6 * x) (f (16 + 6 * x) + g)) (16 + 6 * x + 1) 1) (16 + 6 * x + 2) (nI j)) (16 + 6 * x + 3) a) (16 + 6 * x + 4) r) (16 + 6 * x + 5) g) 13 y (16 + 6 * x + 3) = a) ∧ (upd (upd (upd (upd (upd (upd (upd f (16 + 6 * x) (f (16 + 6 * x) + g)) (16 + 6 * x + 1) 1) (16 + 6 * x + 2) (nI j)) (16 + 6 * x + 3) a) (16 + 6 * x + 4) r) (16 + 6 * x + 5) g) 13 y (16 + 6 * x + 4) = r) ∧ (upd (upd (upd (upd (upd (upd (upd f (16 + 6 * x) (f (16 + 6 * x) + g)) (16 + 6 * x + 1) 1) (16 + 6 * x + 2) (nI j)) (16 + 6 * x + 3) a) (16 + 6 * x + 4) r) (16 + 6 * x + 5) g) 13 y (16 + 6 * x + 5) = g) := fun f y => by
          simp (disch := omega) only [pk_us, pk_un, and_self]
        obtain ⟨v0, v1, v2, v3, v4, v5⟩ := hval v (v 13 + (g - a))
        obtain ⟨w0, w1, w2, w3, w4, w5⟩ := hval w (w 13 + (g - a))
        refine ⟨⟨?_, Or.inr ⟨v1, ⟨j, hj, v2⟩, ?_, ?_, ?_⟩⟩, v0.trans ((by rw [b2] : _ = _).trans w0.symm), v1.trans w1.symm, fun _ i hi => ?_⟩
        · rw [v0]; omega
        · rw [v3]; exact g1
        · rw [v4]; exact q1
        · rw [v5]; exact g3
        · have : i = 0 ∨ i = 1 ∨ i = 2 ∨ i = 3 ∨ i = 4 ∨ i = 5 := by omega
          rcases this with rfl | rfl | rfl | rfl | rfl | rfl
          · exact v0.trans ((by rw [b2] : _ = _).trans w0.symm)
          · exact v1.trans w1.symm
          · exact v2.trans w2.symm
          · exact v3.trans w3.symm
          · exact v4.trans w4.symm
          · exact v5.trans w5.symm
    · rw [if_neg hc, if_neg hc]
      exact SIM.mk rfl ER1 (h.mono (by omega))
  · rw [if_neg (fun q => hk q.2.1), if_neg (fun q => hk q.2.1)]
    exact SIM.mk rfl ER1 (h.mono (by omega))
theorem mx0_le {x : Int32} {B : Int} (h0 : 0 ≤ B) (h : x.toInt ≤ B) : (mx0 x).toInt ≤ B := by
  unfold mx0
  by_cases c : 0 < x
  · rw [if_pos c]; exact h
  · rw [if_neg c, z0i]; exact h0
theorem rv_claims (h : RV B v w n m) (hB0 : 9999 ≤ B) (hB : B ≤ 1000000000) (c a : Int32) : SIM (B + 1600) (op_claims v n c a) (op_claims w n c a) := by
  have hn := h.1.1
  unfold op_claims
  by_cases hc : isR c n ∧ 0 ≤ a ∧ a ≤ 9999
  · rw [if_pos hc, if_pos hc]
    obtain ⟨x, hx, rfl⟩ := isR_of (by omega) hc.1
    have ex := nI_clamp (show x < 2 ^ 31 by omega)
    obtain ⟨b1, b2, b3, b4⟩ := h.2.1 x hx
    simp only [ex, ← b3]
    by_cases hk : v (16 + 6 * x + 1) = 0
    · rw [if_pos (Or.inl hk), if_pos (Or.inl hk)]
      exact SIM.mk rfl ER2 (h.mono (by omega))
    · have b4 := b4 hk
      obtain ⟨hp, hk' | ⟨hk1, ⟨j, hj, ek⟩, hct, hrd, hgu⟩⟩ := b1
      · exact absurd hk' hk
      · rw [← b4 5 (by omega), ← b4 4 (by omega), ← b4 3 (by omega), ← b4 2 (by omega), ← b2, ← h.ag 12 (by omega), ← h.ag 13 (by omega), ek, nI_clamp (show j < 2 ^ 31 by omega)]
        by_cases hg : a = v (16 + 6 * x + 5)
        · rw [if_pos (Or.inr hg), if_pos (Or.inr hg)]
          exact SIM.mk rfl ER2 (h.mono (by omega))
        · have hno : ¬ (v (16 + 6 * x + 1) = 0 ∨ a = v (16 + 6 * x + 5)) := fun q => q.elim hk hg
          rw [if_neg hno, if_neg hno]
          have ag1 : ∀ i, i < 16 → upd v (16 + 6 * x + 1) 0 i = upd w (16 + 6 * x + 1) 0 i := fun i hi => by rw [pk_un (by omega), pk_un (by omega)]; exact h.ag i hi
          rw [← gl_cong ag1 hj, ← gg_cong ag1 hj]
          have fee := h.S.2.2.2.2.1
          have en := i_neg (a := v 12) (by omega)
          have e1 := i_sub (a := v (16 + 6 * x + 3)) (b := v (16 + 6 * x + 5)) (by omega) (by omega)
          have e2 := i_add (a := v (16 + 6 * x)) (b := v (16 + 6 * x + 3) - v (16 + 6 * x + 5)) (by omega) (by omega)
          have p1 := mx0_le (x := v (16 + 6 * x) + (v (16 + 6 * x + 3) - v (16 + 6 * x + 5))) (B := B + 1600) (by omega) (by omega)
          have p0 := mx0_0 (x := v (16 + 6 * x) + (v (16 + 6 * x + 3) - v (16 + 6 * x + 5)))
          generalize mx0 (v (16 + 6 * x) + (v (16 + 6 * x + 3) - v (16 + 6 * x + 5))) = P at p1 p0 ⊢
          have e3 := i_add (a := P) (b := -(v 12)) (by omega) (by omega)
          have r1 := mx0_le (x := P + -(v 12)) (B := B + 1600) (by omega) (by omega)
          have r0 := mx0_0 (x := P + -(v 12))
          generalize mx0 (P + -(v 12)) = Q at r1 r0 ⊢
          generalize v 13 + (v (16 + 6 * x + 3) - v (16 + 6 * x + 5)) = G
          by_cases hal : gl (upd v (16 + 6 * x + 1) 0) (v (16 + 6 * x + 4)) j ≤ a ∧ a ≤ gg (upd v (16 + 6 * x + 1) 0) (v (16 + 6 * x + 4)) j
          · rw [if_pos hal, if_pos hal]
            by_cases hne : ab0 (v (16 + 6 * x + 5) - v (16 + 6 * x + 3)) ≤ ab0 (a - v (16 + 6 * x + 3))
            · rw [if_pos hne, if_pos hne]
              have F : ∀ f : Nat → Int32, ∀ i, i < 16 + 6 * x ∨ 16 + 6 * x + 6 ≤ i → i ≠ 13 → upd (upd (upd (upd f (16 + 6 * x + 1) 0) (16 + 6 * x) P) 13 G) (16 + 6 * x) Q i = f i := fun f i h1 h2 => by simp (disch := omega) only [pk_un]
              have V : ∀ f : Nat → Int32, upd (upd (upd (upd f (16 + 6 * x + 1) 0) (16 + 6 * x) P) 13 G) (16 + 6 * x) Q (16 + 6 * x) = Q ∧ upd (upd (upd (upd f (16 + 6 * x + 1) 0) (16 + 6 * x) P) 13 G) (16 + 6 * x) Q (16 + 6 * x + 1) = 0 ∧ upd (upd (upd (upd f (16 + 6 * x + 1) 0) (16 + 6 * x) P) 13 G) (16 + 6 * x) Q 13 = G := fun f => by simp (disch := omega) only [pk_us, pk_un, and_self]
              obtain ⟨v0, v1, v2⟩ := V v
              obtain ⟨w0, w1, w2⟩ := V w
              exact SIM.mk rfl (ERp (by decide)) (h.cust (B' := B + 1600) (by omega) hx (F v) (F w) (v2.trans w2.symm) ⟨⟨by rw [v0]; exact ⟨r0, r1⟩, Or.inl v1⟩, v0.trans w0.symm, v1.trans w1.symm, fun z => absurd v1 z⟩)
            · rw [if_neg hne, if_neg hne]
              have F : ∀ f : Nat → Int32, ∀ i, i < 16 + 6 * x ∨ 16 + 6 * x + 6 ≤ i → i ≠ 13 → upd (upd (upd f (16 + 6 * x + 1) 0) (16 + 6 * x) P) 13 G i = f i := fun f i h1 h2 => by simp (disch := omega) only [pk_un]
              have V : ∀ f : Nat → Int32, upd (upd (upd f (16 + 6 * x + 1) 0) (16 + 6 * x) P) 13 G (16 + 6 * x) = P ∧ upd (upd (upd f (16 + 6 * x + 1) 0) (16 + 6 * x) P) 13 G (16 + 6 * x + 1) = 0 ∧ upd (upd (upd f (16 + 6 * x + 1) 0) (16 + 6 * x) P) 13 G 13 = G := fun f => by simp (disch := omega) only [pk_us, pk_un, and_self]
              obtain ⟨v0, v1, v2⟩ := V v
              obtain ⟨w0, w1, w2⟩ := V w
              exact SIM.mk rfl (ERp (by decide)) (h.cust (B' := B + 1600) (by omega) hx (F v) (F w) (v2.trans w2.symm) ⟨⟨by rw [v0]; exact ⟨p0, p1⟩, Or.inl v1⟩, v0.trans w0.symm, v1.trans w1.symm, fun z => absurd v1 z⟩)
          · rw [if_neg hal, if_neg hal]
            have F : ∀ f : Nat → Int32, ∀ i, i < 16 + 6 * x ∨ 16 + 6 * x + 6 ≤ i → i ≠ 13 → upd f (16 + 6 * x + 1) 0 i = f i := fun f i h1 h2 => by simp (disch := omega) only [pk_un]
            have v0 : ∀ f : Nat → Int32, upd f (16 + 6 * x + 1) 0 (16 + 6 * x) = f (16 + 6 * x) := fun f => pk_un (by omega)
            have v1 : ∀ f : Nat → Int32, upd f (16 + 6 * x + 1) 0 (16 + 6 * x + 1) = 0 := fun f => pk_us
            exact SIM.mk rfl (ERp (by decide)) (h.cust (B' := B + 1600) (by omega) hx (F v) (F w) (by rw [pk_un (by omega), pk_un (by omega)]; exact h.ag 13 (by omega)) ⟨⟨by rw [v0]; omega, Or.inl (v1 v)⟩, (v0 v).trans (b2.trans (v0 w).symm), (v1 v).trans (v1 w).symm, fun z => absurd (v1 v) z⟩)
  · rw [if_neg hc, if_neg hc]
    exact SIM.mk rfl ER1 (h.mono (by omega))
theorem rv_price (h : RV B v w n m) (a p : Int32) : SIM B (op_price v m a p) (op_price w m a p) := by
  have hm := h.1.2.1
  unfold op_price op_sets
  by_cases hc : isR a m
  · rw [if_pos hc, if_pos hc]
    obtain ⟨x, hx, rfl⟩ := isR_of (by omega) hc
    rw [nI_clamp (show x < 2 ^ 31 by omega)]
    obtain ⟨hP, hE⟩ := h.2.2.2.1 x hx
    by_cases c : 1 ≤ p ∧ p ≤ 5000
    · have c1 := i_le.mp c.1
      have c2 := i_le.mp c.2
      rw [z1i] at c1
      rw [show (5000 : Int32).toInt = 5000 by decide] at c2
      rw [if_pos c, if_pos c]
      refine SIM.mk (hE 0 (by omega)) (ERp (by have := hP.1; omega)) (h.prize hx (fun i hi => pk_un (by omega)) (fun i hi => pk_un (by omega)) ⟨?_, fun j hj => ?_⟩)
      · unfold RgP at hP ⊢
        rw [pk_us, pk_un (by omega), pk_un (by omega), pk_un (by omega), pk_un (by omega), pk_un (by omega)]
        exact ⟨⟨c1, c2⟩, hP.2⟩
      · simp only [upd]
        rw [hE j hj]
    · rw [if_neg c, if_neg c]
      exact SIM.mk rfl ER1 h
  · rw [if_neg hc, if_neg hc]
    exact SIM.mk rfl ER1 h
theorem rv_buys (h : RV B v w n m) (hB0 : 0 ≤ B) (c p a : Int32) : SIM B (op_buys v n m c p a) (op_buys w n m c p a) := by
  have hn := h.1.1
  have hm := h.1.2.1
  unfold op_buys
  by_cases hc : isR c n ∧ isR p m ∧ 1 ≤ a ∧ a ≤ 99
  · rw [if_pos hc, if_pos hc]
    obtain ⟨x, hx, rfl⟩ := isR_of (by omega) hc.1
    obtain ⟨y, hy, rfl⟩ := isR_of (by omega) hc.2.1
    have ex := nI_clamp (show x < 2 ^ 31 by omega)
    have ey := nI_clamp (show y < 2 ^ 31 by omega)
    have c1 := i_le.mp hc.2.2.1
    have c2 := i_le.mp hc.2.2.2
    rw [z1i] at c1
    rw [show (99 : Int32).toInt = 99 by decide] at c2
    obtain ⟨b1, b2, b3, b4⟩ := h.2.1 x hx
    obtain ⟨hP, hE⟩ := h.2.2.2.1 y hy
    have hE0 : v (52 + 7 * y) = w (52 + 7 * y) := hE 0 (by omega)
    simp only [ex, ey, ← b2, ← hE0, ← hE 1 (by omega), ← hE 2 (by omega), ← hE 3 (by omega), ← hE 4 (by omega), ← hE 5 (by omega), ← hE 6 (by omega)]
    by_cases g1 : a * v (52 + 7 * y) ≤ v (16 + 6 * x)
    · rw [if_pos g1, if_pos g1]
      by_cases g2 : a ≤ v (52 + 7 * y + 2)
      · rw [if_pos g2, if_pos g2]
        have g1' := i_le.mp g1
        have g2' := i_le.mp g2
        obtain ⟨⟨h1, h1'⟩, h2, ⟨h3, h3'⟩, h4, h5, h6⟩ := id hP
        have a0 : 0 ≤ a.toInt * (v (52 + 7 * y)).toInt := Int.mul_nonneg (by omega) (by omega)
        have a1 : a.toInt * (v (52 + 7 * y)).toInt ≤ 99 * 5000 := Int.le_trans (Int.mul_le_mul_of_nonneg_right c2 (by omega)) (Int.mul_le_mul_of_nonneg_left h1' (by omega))
        have ew : (a * v (52 + 7 * y)).toInt = a.toInt * (v (52 + 7 * y)).toInt := i_mul (by omega) (by omega)
        have hp := b1.1
        have rx := i_rng (v (16 + 6 * x))
        have es := i_sub (a := v (16 + 6 * x)) (b := a * v (52 + 7 * y)) (by omega) (by omega)
        obtain ⟨s1, s2⟩ := se_i (st := v (52 + 7 * y + 2)) (so := v (52 + 7 * y + 5)) (w := v (52 + 7 * y + 1)) (k := a) (mk := v (52 + 7 * y + 3)) (bx := v (52 + 7 * y + 4)) ⟨c1, c2⟩ ⟨g2', h3'⟩ h2 h4 h5.1 h6
        generalize se_stock (v (52 + 7 * y + 2)) (v (52 + 7 * y + 5)) (v (52 + 7 * y + 1)) a (v (52 + 7 * y + 3)) (v (52 + 7 * y + 4)) = ST at s1 ⊢
        generalize se_sold (v (52 + 7 * y + 5)) (v (52 + 7 * y + 1)) a (v (52 + 7 * y + 3)) = SO at s2 ⊢
        generalize v (16 + 6 * x) - a * v (52 + 7 * y) = Q at es ⊢
        generalize v (52 + 7 * y + 6) + fl (v (52 + 7 * y + 5) + a * v (52 + 7 * y + 1)) (v (52 + 7 * y + 3)) = BX
        have hq : RV B (upd v (16 + 6 * x) Q) (upd w (16 + 6 * x) Q) n m := by
          refine h.cust (Int.le_refl _) hx (fun i h1 h2 => pk_un (by omega)) (fun i h1 h2 => pk_un (by omega)) (by rw [pk_un (by omega), pk_un (by omega)]; exact h.ag 13 (by omega)) ⟨?_, by rw [pk_us, pk_us], by rw [pk_un (by omega), pk_un (by omega)]; exact b3, fun z j hj => ?_⟩
          · unfold RgC at b1 ⊢
            rw [pk_us, pk_un (by omega), pk_un (by omega), pk_un (by omega), pk_un (by omega), pk_un (by omega)]
            exact ⟨by omega, b1.2⟩
          · by_cases q : j = 0
            · subst q
              rw [Nat.add_zero, pk_us, pk_us]
            · rw [pk_un (by omega), pk_un (by omega)]
              exact b4 (by rw [pk_un (by omega)] at z; exact z) j hj
        refine SIM.mk rfl (ERp (by omega)) (hq.prize hy (fun i hi => by rw [pk_un (by omega), pk_un (by omega), pk_un (by omega)]) (fun i hi => by rw [pk_un (by omega), pk_un (by omega), pk_un (by omega)]) ⟨?_, fun j hj => ?_⟩)
        · unfold RgP at hP ⊢
          simp (disch := omega) only [pk_us, pk_un]
          exact ⟨hP.1, hP.2.1, s1, h4, h5, s2⟩
        · simp only [upd]
          rw [hE j hj]
      · rw [if_neg g2, if_neg g2]
        exact SIM.mk rfl ER3 h
    · rw [if_neg g1, if_neg g1]
      exact SIM.mk rfl ER2 h
  · rw [if_neg hc, if_neg hc]
    exact SIM.mk rfl ER1 h
end RO2
