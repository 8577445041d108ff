section RO3
variable {B : Int} {v w : Nat → Int32} {n m : Nat}
theorem RgC.mv {v u : Nat → Int32} {c d : Nat} (h : RgC B v c) (e : ∀ j, j < 6 → u (16 + 6 * d + j) = v (16 + 6 * c + j)) : RgC B u d := by
  have e0 : u (16 + 6 * d) = v (16 + 6 * c) := e 0 (by omega)
  unfold RgC at h ⊢
  rw [e0, e 1 (by omega), e 2 (by omega), e 3 (by omega), e 4 (by omega), e 5 (by omega)]
  exact h
theorem RgP.mv {v u : Nat → Int32} {c d : Nat} (h : RgP v c) (e : ∀ j, j < 7 → u (52 + 7 * d + j) = v (52 + 7 * c + j)) : RgP u d := by
  have e0 : u (52 + 7 * d) = v (52 + 7 * c) := e 0 (by omega)
  unfold RgP at h ⊢
  rw [e0, e 1 (by omega), e 2 (by omega), e 3 (by omega), e 4 (by omega), e 5 (by omega)]
  exact h
theorem rv_leave (h : RV B v w n m) (c : Int32) : SIM B (op_drop v n c) (rop_leave w n c) := by
  have hn := h.1.1
  unfold op_drop rop_leave
  by_cases hc : isR c n
  · rw [if_pos hc, if_pos hc]
    obtain ⟨x, hx, rfl⟩ := isR_of (by omega) hc
    rw [nI_clamp (show x < 2 ^ 31 by omega)]
    obtain ⟨b1, b2, b3, b4⟩ := h.2.1 x hx
    have e14 := h.ag 14 (by omega)
    have hv14 := h.1.2.2.2.1
    obtain ⟨⟨a1, a2, a3, a4, a5, a6⟩, a7, a8, a9, a10⟩ := h
    generalize hV : upd (upd (upd (shv v x) (16 + 6 * 5 + 0) 0) (16 + 6 * 5 + 1) 0) 14 (v 14 - 1) = V
    generalize hW : rg_leave (upd w 14 (w 14 - 1)) x (n - 1) = W
    have vlo : ∀ k, k ≠ 14 → k < 16 ∨ 52 ≤ k → V k = v k := fun k h1 h2 => by
      rw [← hV, pk_un h1, pk_un (by omega), pk_un (by omega)]
      unfold shv
      rw [if_neg (by omega)]
    have wlo : ∀ k, k ≠ 14 → k < 16 ∨ 52 ≤ k → W k = w k := fun k h1 h2 => by
      rw [← hW]
      unfold rg_leave
      rw [if_neg (by omega), pk_un h1]
    have v14 : V 14 = nI (n - 1) := by rw [← hV, pk_us, hv14, nm1s (by omega)]
    have w14 : W 14 = nI (n - 1) := by
      rw [← hW]
      unfold rg_leave
      rw [if_neg (by omega), pk_us, ← e14, hv14, nm1s (by omega)]
    have vc : ∀ c, c < 5 → ∀ j, j < 6 → V (16 + 6 * c + j) = v (16 + 6 * sg x c + j) := fun c hc j hj => by
      rw [← hV, pk_un (by omega), pk_un (by omega), pk_un (by omega)]
      unfold shv
      rw [if_pos (by omega), show (16 + 6 * c + j - 16) / 6 = c by omega, show (16 + 6 * c + j - 16) % 6 = j by omega]
    have wc : ∀ c, c < n - 1 → ∀ j, j < 6 → W (16 + 6 * c + j) = w (16 + 6 * sg x c + j) := fun c hc j hj => by
      rw [← hW]
      unfold rg_leave sg
      by_cases q : c < x
      · rw [if_neg (by omega), if_pos q, pk_un (by omega)]
      · rw [if_pos (by omega), if_neg q, if_pos (by omega), pk_un (by omega), show 16 + 6 * c + j + 6 = 16 + 6 * (c + 1) + j by omega]
    have sgn : ∀ c, c < n - 1 → sg x c < n := fun c hc => by
      unfold sg
      by_cases q : c < x
      · rw [if_pos q]; omega
      · rw [if_neg q, if_pos (by omega)]; omega
    refine SIM.mk (n := n - 1) (m := m) b2 (ERp (by have := b1.1; omega)) ⟨⟨by omega, a2, fun k hk => ?_, v14, (vlo 15 (by omega) (by omega)).trans a5, a6.cong (fun k hk => (vlo k (by omega) (by omega)).symm)⟩, fun c hc => ?_, fun c h1 h2 => ?_, fun p hp => ?_, fun p h1 h2 j hj => ?_⟩
    · by_cases q : k = 14
      · subst q; rw [v14, w14]
      · rw [vlo k q (by omega), wlo k q (by omega)]; exact a3 k hk
    · obtain ⟨c1, c2, c3, c4⟩ := a7 (sg x c) (sgn c hc)
      have f := vc c (by omega)
      have g := wc c hc
      exact ⟨c1.mv f, (f 0 (by omega)).trans (c2.trans (g 0 (by omega)).symm), (f 1 (by omega)).trans (c3.trans (g 1 (by omega)).symm), fun z j hj => (f j hj).trans ((c4 (fun y => z ((f 1 (by omega)).trans y)) j hj).trans (g j hj).symm)⟩
    · by_cases q : c = 5
      · subst q
        rw [← hV]
        exact ⟨by rw [pk_un (by omega), pk_un (by omega), show 16 + 6 * 5 = 16 + 6 * 5 + 0 from rfl, pk_us], by rw [pk_un (by omega), pk_us]⟩
      · have f := vc c (by omega)
        have e : sg x c = c + 1 := by
          unfold sg
          rw [if_neg (by omega), if_pos (by omega)]
        have z := a8 (c + 1) (by omega) (by omega)
        rw [e] at f
        exact ⟨(f 0 (by omega)).trans z.1, (f 1 (by omega)).trans z.2⟩
    · exact ⟨(a9 p hp).1.cong (fun j hj => (vlo _ (by omega) (by omega)).symm), fun j hj => (vlo _ (by omega) (by omega)).trans (((a9 p hp).2 j hj).trans (wlo _ (by omega) (by omega)).symm)⟩
    · exact (vlo _ (by omega) (by omega)).trans (a10 p h1 h2 j hj)
  · rw [if_neg hc, if_neg hc]
    exact SIM.mk rfl ER1 h
theorem rv_remove (h : RV B v w n m) (c : Int32) : SIM B (op_remove v m c) (rop_remove w m c) := by
  have hm := h.1.2.1
  have hn := h.1.1
  unfold op_remove rop_remove
  by_cases hc : isR c m
  · rw [if_pos hc, if_pos hc]
    obtain ⟨x, hx, rfl⟩ := isR_of (by omega) hc
    rw [nI_clamp (show x < 2 ^ 31 by omega)]
    obtain ⟨b1, b2⟩ := h.2.2.2.1 x hx
    have e15 := h.ag 15 (by omega)
    have hv15 := h.1.2.2.2.2.1
    obtain ⟨⟨a1, a2, a3, a4, a5, a6⟩, a7, a8, a9, a10⟩ := h
    generalize hV : upd (upd (upd (upd (upd (upd (upd (upd (shp v x) (52 + 7 * 5 + 0) 0) (52 + 7 * 5 + 1) 0) (52 + 7 * 5 + 2) 0) (52 + 7 * 5 + 3) 0) (52 + 7 * 5 + 4) 0) (52 + 7 * 5 + 5) 0) (52 + 7 * 5 + 6) 0) 15 (v 15 - 1) = V
    generalize hW : rg_remove (upd w 15 (w 15 - 1)) x (m - 1) = W
    have vlo : ∀ k, k ≠ 15 → k < 52 → V k = v k := fun k h1 h2 => by
      rw [← hV]
      simp (disch := omega) only [pk_un]
      unfold shp
      rw [if_neg (by omega)]
    have wlo : ∀ k, k ≠ 15 → k < 52 → W k = w k := fun k h1 h2 => by
      rw [← hW]
      unfold rg_remove
      rw [if_neg (by omega), pk_un h1]
    have v15 : V 15 = nI (m - 1) := by rw [← hV, pk_us, hv15, nm1s (by omega)]
    have w15 : W 15 = nI (m - 1) := by
      rw [← hW]
      unfold rg_remove
      rw [if_neg (by omega), pk_us, ← e15, hv15, nm1s (by omega)]
    have vc : ∀ c, c < 5 → ∀ j, j < 7 → V (52 + 7 * c + j) = v (52 + 7 * sg x c + j) := fun c hc j hj => by
      rw [← hV]
      simp (disch := omega) only [pk_un]
      unfold shp
      rw [if_pos (by omega), show (52 + 7 * c + j - 52) / 7 = c by omega, show (52 + 7 * c + j - 52) % 7 = j by omega]
    have v5 : ∀ j, j < 7 → V (52 + 7 * 5 + j) = 0 := fun j hj => by
      rw [← hV]
      have : j = 0 ∨ j = 1 ∨ j = 2 ∨ j = 3 ∨ j = 4 ∨ j = 5 ∨ j = 6 := by omega
      rcases this with rfl | rfl | rfl | rfl | rfl | rfl | rfl <;> simp (disch := omega) only [pk_un, pk_us]
    have wc : ∀ c, c < m - 1 → ∀ j, j < 7 → W (52 + 7 * c + j) = w (52 + 7 * sg x c + j) := fun c hc j hj => by
      rw [← hW]
      unfold rg_remove sg
      by_cases q : c < x
      · rw [if_neg (by omega), if_pos q, pk_un (by omega)]
      · rw [if_pos (by omega), if_neg q, if_pos (by omega), pk_un (by omega), show 52 + 7 * c + j + 7 = 52 + 7 * (c + 1) + j by omega]
    have sgn : ∀ c, c < m - 1 → sg x c < m := fun c hc => by
      unfold sg
      by_cases q : c < x
      · rw [if_pos q]; omega
      · rw [if_neg q, if_pos (by omega)]; omega
    refine SIM.mk (n := n) (m := m - 1) (b2 2 (by omega)) (ERp (by have := b1.2.2.1; omega)) ⟨⟨a1, by omega, fun k hk => ?_, (vlo 14 (by omega) (by omega)).trans a4, v15, a6.cong (fun k hk => (vlo k (by omega) (by omega)).symm)⟩, fun c hc => ?_, fun c h1 h2 => ?_, fun p hp => ?_, fun p h1 h2 j hj => ?_⟩
    · by_cases q : k = 15
      · subst q; rw [v15, w15]
      · rw [vlo k q (by omega), wlo k q (by omega)]; exact a3 k hk
    · obtain ⟨c1, c2, c3, c4⟩ := a7 c hc
      have f : ∀ j, j < 6 → V (16 + 6 * c + j) = v (16 + 6 * c + j) := fun j hj => vlo _ (by omega) (by omega)
      have g : ∀ j, j < 6 → W (16 + 6 * c + j) = w (16 + 6 * c + j) := fun j hj => wlo _ (by omega) (by omega)
      exact ⟨c1.mv f, (f 0 (by omega)).trans (c2.trans (g 0 (by omega)).symm), (f 1 (by omega)).trans (c3.trans (g 1 (by omega)).symm), fun z j hj => (f j hj).trans ((c4 (fun y => z ((f 1 (by omega)).trans y)) j hj).trans (g j hj).symm)⟩
    · exact ⟨(vlo _ (by omega) (by omega)).trans (a8 c h1 h2).1, (vlo _ (by omega) (by omega)).trans (a8 c h1 h2).2⟩
    · obtain ⟨c1, c2⟩ := a9 (sg x p) (sgn p hp)
      have f := vc p (by omega)
      have g := wc p hp
      exact ⟨c1.mv f, fun j hj => (f j hj).trans ((c2 j hj).trans (g j hj).symm)⟩
    · by_cases q : p = 5
      · subst q; exact v5 j hj
      · have f := vc p (by omega)
        have e : sg x p = p + 1 := by
          unfold sg
          rw [if_neg (by omega), if_pos (by omega)]
        rw [e] at f
        exact (f j hj).trans (a10 (p + 1) (by omega) (by omega) j hj)
  · rw [if_neg hc, if_neg hc]
    exact SIM.mk rfl ER1 h
theorem rv_adds (h : RV B v w n m) (q1 q2 q3 q4 q5 : Int32) : SIM B (op_adds v m q1 q2 q3 q4 q5) (op_adds w m q1 q2 q3 q4 q5) := by
  have hm := h.1.2.1
  have hn := h.1.1
  unfold op_adds
  by_cases hc : (1 ≤ q1 ∧ q1 ≤ 5000) ∧ (1 ≤ q2 ∧ q2 ≤ 20000) ∧ (0 ≤ q3 ∧ q3 ≤ 99) ∧ (1 ≤ q4 ∧ q4 ≤ 100000) ∧ 1 ≤ q5 ∧ q5 ≤ 100000
  · rw [if_pos hc, if_pos hc]
    by_cases h6 : m = 6
    · rw [if_pos h6, if_pos h6]
      exact SIM.mk rfl ER3 h
    · rw [if_neg h6, if_neg h6]
      obtain ⟨⟨r1, r1'⟩, ⟨r2, r2'⟩, ⟨r3, r3'⟩, ⟨r4, r4'⟩, r5, r5'⟩ := hc
      have r1 := i_le.mp r1
      have r1' := i_le.mp r1'
      have r2 := i_le.mp r2
      have r2' := i_le.mp r2'
      have r3 := i_le.mp r3
      have r3' := i_le.mp r3'
      have r4 := i_le.mp r4
      have r4' := i_le.mp r4'
      have r5 := i_le.mp r5
      have r5' := i_le.mp r5'
      have e1 : (5000 : Int32).toInt = 5000 ∧ (20000 : Int32).toInt = 20000 ∧ (99 : Int32).toInt = 99 ∧ (100000 : Int32).toInt = 100000 := by decide
      have e15 := h.ag 15 (by omega)
      have hv15 := h.1.2.2.2.2.1
      obtain ⟨⟨a1, a2, a3, a4, a5, a6⟩, a7, a8, a9, a10⟩ := h
      have er : v 15 + 1 - 1 = nI m := by rw [hv15, Int32.add_sub_cancel]
      have F : ∀ f : Nat → Int32, ∀ z, (∀ k, k ≠ 15 → k < 52 + 7 * m ∨ 52 + 7 * m + 7 ≤ k → upd (upd (upd (upd (upd (upd (upd (upd f (52 + 7 * m) q1) (52 + 7 * m + 1) q2) (52 + 7 * m + 2) q3) (52 + 7 * m + 3) q4) (52 + 7 * m + 4) q5) (52 + 7 * m + 5) 0) (52 + 7 * m + 6) 0) 15 z k = f k) := fun f z k h1 h2 => by simp (disch := omega) only [pk_un]
      have G : ∀ f : Nat → Int32, ∀ z, upd (upd (upd (upd (upd (upd (upd (upd f (52 + 7 * m) q1) (52 + 7 * m + 1) q2) (52 + 7 * m + 2) q3) (52 + 7 * m + 3) q4) (52 + 7 * m + 4) q5) (52 + 7 * m + 5) 0) (52 + 7 * m + 6) 0) 15 z 15 = z := fun f z => pk_us
      have P0 : ∀ f : Nat → Int32, ∀ z, upd (upd (upd (upd (upd (upd (upd (upd f (52 + 7 * m) q1) (52 + 7 * m + 1) q2) (52 + 7 * m + 2) q3) (52 + 7 * m + 3) q4) (52 + 7 * m + 4) q5) (52 + 7 * m + 5) 0) (52 + 7 * m + 6) 0) 15 z (52 + 7 * m) = q1 := fun f z => by simp (disch := omega) only [pk_un, pk_us]
      have P1 : ∀ f : Nat → Int32, ∀ z, upd (upd (upd (upd (upd (upd (upd (upd f (52 + 7 * m) q1) (52 + 7 * m + 1) q2) (52 + 7 * m + 2) q3) (52 + 7 * m + 3) q4) (52 + 7 * m + 4) q5) (52 + 7 * m + 5) 0) (52 + 7 * m + 6) 0) 15 z (52 + 7 * m + 1) = q2 := fun f z => by simp (disch := omega) only [pk_un, pk_us]
      have P2 : ∀ f : Nat → Int32, ∀ z, upd (upd (upd (upd (upd (upd (upd (upd f (52 + 7 * m) q1) (52 + 7 * m + 1) q2) (52 + 7 * m + 2) q3) (52 + 7 * m + 3) q4) (52 + 7 * m + 4) q5) (52 + 7 * m + 5) 0) (52 + 7 * m + 6) 0) 15 z (52 + 7 * m + 2) = q3 := fun f z => by simp (disch := omega) only [pk_un, pk_us]
      have P3 : ∀ f : Nat → Int32, ∀ z, upd (upd (upd (upd (upd (upd (upd (upd f (52 + 7 * m) q1) (52 + 7 * m + 1) q2) (52 + 7 * m + 2) q3) (52 + 7 * m + 3) q4) (52 + 7 * m + 4) q5) (52 + 7 * m + 5) 0) (52 + 7 * m + 6) 0) 15 z (52 + 7 * m + 3) = q4 := fun f z => by simp (disch := omega) only [pk_un, pk_us]
      have P4 : ∀ f : Nat → Int32, ∀ z, upd (upd (upd (upd (upd (upd (upd (upd f (52 + 7 * m) q1) (52 + 7 * m + 1) q2) (52 + 7 * m + 2) q3) (52 + 7 * m + 3) q4) (52 + 7 * m + 4) q5) (52 + 7 * m + 5) 0) (52 + 7 * m + 6) 0) 15 z (52 + 7 * m + 4) = q5 := fun f z => by simp (disch := omega) only [pk_un, pk_us]
      have P5 : ∀ f : Nat → Int32, ∀ z, upd (upd (upd (upd (upd (upd (upd (upd f (52 + 7 * m) q1) (52 + 7 * m + 1) q2) (52 + 7 * m + 2) q3) (52 + 7 * m + 3) q4) (52 + 7 * m + 4) q5) (52 + 7 * m + 5) 0) (52 + 7 * m + 6) 0) 15 z (52 + 7 * m + 5) = 0 := fun f z => by simp (disch := omega) only [pk_un, pk_us]
      have P6 : ∀ f : Nat → Int32, ∀ z, upd (upd (upd (upd (upd (upd (upd (upd f (52 + 7 * m) q1) (52 + 7 * m + 1) q2) (52 + 7 * m + 2) q3) (52 + 7 * m + 3) q4) (52 + 7 * m + 4) q5) (52 + 7 * m + 5) 0) (52 + 7 * m + 6) 0) 15 z (52 + 7 * m + 6) = 0 := fun f z => by simp (disch := omega) only [pk_un, pk_us]
      have vF := F v (v 15 + 1)
      have wF := F w (w 15 + 1)
      have vG := G v (v 15 + 1)
      have wG := G w (w 15 + 1)
      have p0 := (P0 v (v 15 + 1)).trans (P0 w (w 15 + 1)).symm
      have p1 := (P1 v (v 15 + 1)).trans (P1 w (w 15 + 1)).symm
      have p2 := (P2 v (v 15 + 1)).trans (P2 w (w 15 + 1)).symm
      have p3 := (P3 v (v 15 + 1)).trans (P3 w (w 15 + 1)).symm
      have p4 := (P4 v (v 15 + 1)).trans (P4 w (w 15 + 1)).symm
      have p5 := (P5 v (v 15 + 1)).trans (P5 w (w 15 + 1)).symm
      have p6 := (P6 v (v 15 + 1)).trans (P6 w (w 15 + 1)).symm
      have t0 := P0 v (v 15 + 1)
      have t1 := P1 v (v 15 + 1)
      have t2 := P2 v (v 15 + 1)
      have t3 := P3 v (v 15 + 1)
      have t4 := P4 v (v 15 + 1)
      have t5 := P5 v (v 15 + 1)
      refine SIM.mk (n := n) (m := m + 1) (by rw [e15]) (ERp (by rw [er, nI_toInt (by omega)]; omega)) ?_
      generalize upd (upd (upd (upd (upd (upd (upd (upd v (52 + 7 * m) q1) (52 + 7 * m + 1) q2) (52 + 7 * m + 2) q3) (52 + 7 * m + 3) q4) (52 + 7 * m + 4) q5) (52 + 7 * m + 5) 0) (52 + 7 * m + 6) 0) 15 (v 15 + 1) = V at *
      generalize upd (upd (upd (upd (upd (upd (upd (upd w (52 + 7 * m) q1) (52 + 7 * m + 1) q2) (52 + 7 * m + 2) q3) (52 + 7 * m + 3) q4) (52 + 7 * m + 4) q5) (52 + 7 * m + 5) 0) (52 + 7 * m + 6) 0) 15 (w 15 + 1) = W at *
      refine ⟨⟨a1, by omega, fun k hk => ?_, (vF 14 (by omega) (by omega)).trans a4, by rw [vG, hv15, n1], a6.cong (fun k hk => (vF k (by omega) (by omega)).symm)⟩, fun c hc => ?_, fun c h1 h2 => ?_, fun p hp => ?_, fun p h1 h2 j hj => ?_⟩
      · by_cases q : k = 15
        · subst q; rw [vG, wG, e15]
        · rw [vF k q (by omega), wF k q (by omega)]; exact a3 k hk
      · obtain ⟨c1, c2, c3, c4⟩ := a7 c hc
        have f : ∀ j, j < 6 → V (16 + 6 * c + j) = v (16 + 6 * c + j) := fun j hj => vF _ (by omega) (by omega)
        have g : ∀ j, j < 6 → W (16 + 6 * c + j) = w (16 + 6 * c + j) := fun j hj => wF _ (by omega) (by omega)
        exact ⟨c1.mv f, (f 0 (by omega)).trans (c2.trans (g 0 (by omega)).symm), (f 1 (by omega)).trans (c3.trans (g 1 (by omega)).symm), fun z j hj => (f j hj).trans ((c4 (fun y => z ((f 1 (by omega)).trans y)) j hj).trans (g j hj).symm)⟩
      · exact ⟨(vF _ (by omega) (by omega)).trans (a8 c h1 h2).1, (vF _ (by omega) (by omega)).trans (a8 c h1 h2).2⟩
      · by_cases q : p = m
        · subst q
          refine ⟨?_, fun j hj => ?_⟩
          · unfold RgP
            rw [t0, t1, t2, t3, t4, t5]
            rw [z1i] at r1 r2 r4 r5
            rw [z0i] at r3 ⊢
            omega
          · have : j = 0 ∨ j = 1 ∨ j = 2 ∨ j = 3 ∨ j = 4 ∨ j = 5 ∨ j = 6 := by omega
            rcases this with rfl | rfl | rfl | rfl | rfl | rfl | rfl
            · exact p0
            · exact p1
            · exact p2
            · exact p3
            · exact p4
            · exact p5
            · exact p6
        · exact ⟨(a9 p (by omega)).1.cong (fun j hj => (vF _ (by omega) (by omega)).symm), fun j hj => (vF _ (by omega) (by omega)).trans (((a9 p (by omega)).2 j hj).trans (wF _ (by omega) (by omega)).symm)⟩
      · exact (vF _ (by omega) (by omega)).trans (a10 p (by omega) h2 j hj)
  · rw [if_neg hc, if_neg hc]
    exact SIM.mk rfl ER1 h
end RO3
