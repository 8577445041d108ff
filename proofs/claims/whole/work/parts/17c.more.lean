/-! looking: the rest -/
section LM
variable {B : Int} {L : hL} {X : hX} {v w : Nat → Int32} {n m : Nat}
theorem apS_cong (e : ∀ k, k < 16 → v k = w k) {S : Int32} {j : Nat} (hj : j < 4) : apS v S j = apS w S j := by
  funext n
  unfold apS
  rw [e 9 (by omega), e j (by omega), e (4 + j) (by omega)]
theorem mxP_cong (e : ∀ k, k < 16 → v k = w k) {r : Int32} {i k : Nat} (hi : i < 4) (hk : k < 4) : mxP v i k r = mxP w i k r := by
  funext s a
  unfold mxP gh go mxl mxh
  rw [e 8 (by omega), e 9 (by omega), e i (by omega), e (4 + i) (by omega), e k (by omega), e (4 + k) (by omega)]
theorem j_apartUpTo (h : J B L X) (a1 : Int32) : ∃ r, f_X9_apartUpTo L X 0 a1 = some r ∧ f_X10_apartUpTo L X 470 a1 = some r := by
  obtain ⟨E, V, n, l, hJ⟩ := h
  obtain ⟨cc, pc, hv⟩ := hJ.2.1.1.1
  obtain ⟨π, ρ, hx⟩ := hJ.cx
  have hM := hJ.1.2.1
  have fx := hJ.1.1.1.1
  unfold f_X9_apartUpTo f_X10_apartUpTo
  simp only [hJ.1.1.counter, Option.bind_some, if_pos fx.1.1, Option.elim_some, c_kindAt hx, if_pos hx.1.1.1, s_isKind, hx.2.1.1.2.1, if_pos hx.1.1.2.2.2.1]
  by_cases h2 : 0 ≤ a1 ∧ a1 ≤ 3
  · obtain ⟨j, hj, rfl⟩ := kind_of h2
    have e9 : f_X10_apart L X 470 (nI j) (X.1 471 8) 999 = _ := m_apart hM hv.Sw hj hv.Sw.1 (c := 999) (by omega)
    simp only [if_pos h2, Option.bind_some, i10, if_false, Option.elim_some, nI_clamp (show j < 2 ^ 31 by omega), c_lastApart hx hv.S hj, if_pos hM.1.1, hM.2.2.1, if_pos hM.1.2.1, hM.2.1.1, show (8 < 284) = True from by decide, if_true, e9]
    rw [apS_cong hv.ag hj, hv.ag 8 (by omega)]
    exact ⟨_, rfl, rfl⟩
  · simp only [if_neg h2, Option.bind_some, i01, if_true, Option.elim_none]
    exact ⟨_, rfl, rfl⟩
theorem j_bestStep (h : J B L X) (a1 a2 : Int32) : ∃ r, f_X9_bestStep L X 0 a1 a2 = some r ∧ f_X10_bestStep L X 470 a1 a2 = some r := by
  obtain ⟨E, V, n, l, hJ⟩ := h
  obtain ⟨cc, pc, hv⟩ := hJ.2.1.1.1
  obtain ⟨π, ρ, hx⟩ := hJ.cx
  have hM := hJ.1.2.1
  have fx := hJ.1.1.1.1
  unfold f_X9_bestStep f_X10_bestStep
  simp only [hJ.1.1.counter, Option.bind_some, if_pos fx.1.1, Option.elim_some, c_kindAt hx, if_pos hx.1.1.1, s_isKind, s_within, s_in, hx.2.1.1.2.1, if_pos hx.1.1.2.2.2.1]
  by_cases h2 : 0 ≤ a1 ∧ a1 ≤ 3
  · obtain ⟨j, hj, rfl⟩ := kind_of h2
    simp only [if_pos h2, Option.bind_some, i10, if_false, Option.elim_some, nI_clamp (show j < 2 ^ 31 by omega)]
    by_cases h3 : 0 ≤ a2 ∧ a2 ≤ 99
    · obtain ⟨c, hc, rfl⟩ := in_n (m := 99) (by omega) h3
      simp only [if_pos h3, Option.bind_some, i10, if_false, c_greatestStep hx hv.S hj hc, m_bestStep hM hv.Sw hj hc]
      have e : (fun S => al (apS (V 5) (nI S) j) c) = fun S => al (apS (X.1 471) (nI S) j) c := by
        funext S
        rw [apS_cong hv.ag hj]
      rw [e]
      exact ⟨_, rfl, rfl⟩
    · simp only [if_neg h3, Option.bind_some, i01, if_true]
      exact ⟨_, rfl, rfl⟩
  · simp only [if_neg h2, Option.bind_some, i01, if_true, Option.elim_none]
    exact ⟨_, rfl, rfl⟩
theorem j_mixed (h : J B L X) (a1 a2 a3 a4 : Int32) : ∃ r, f_X9_mixed L X 0 a1 a2 a3 a4 = some r ∧ f_X10_mixed L X 470 a1 a2 a3 a4 = some r := by
  obtain ⟨E, V, n, l, hJ⟩ := h
  obtain ⟨cc, pc, hv⟩ := hJ.2.1.1.1
  obtain ⟨π, ρ, hx⟩ := hJ.cx
  have hM := hJ.1.2.1
  have fx := hJ.1.1.1.1
  unfold f_X9_mixed f_X10_mixed
  simp only [hJ.1.1.counter, Option.bind_some, if_pos fx.1.1, Option.elim_some, c_kindAt hx, if_pos hx.1.1.1, s_isKind, s_within, s_in, hx.2.1.1.2.1, if_pos hx.1.1.2.2.2.1]
  by_cases h1 : 0 ≤ a1 ∧ a1 ≤ 3
  · obtain ⟨i, hi, rfl⟩ := kind_of h1
    simp only [if_pos h1, Option.bind_some, i10, if_false, Option.elim_some, nI_clamp (show i < 2 ^ 31 by omega)]
    by_cases h2 : 0 ≤ a2 ∧ a2 ≤ 3
    · obtain ⟨k, hk, rfl⟩ := kind_of h2
      simp only [if_pos h2, Option.bind_some, i10, if_false, Option.elim_some, nI_clamp (show k < 2 ^ 31 by omega)]
      by_cases h3 : 0 ≤ a3 ∧ a3 ≤ 3000000
      · by_cases h4 : 0 ≤ a4 ∧ a4 ≤ 2
        · simp only [if_pos h3, if_pos h4, Option.bind_some, i10, if_false]
          by_cases h5 : nI i = nI k
          · rw [if_pos h5, if_pos h5]
            exact ⟨_, rfl, rfl⟩
          · rw [if_neg h5, if_neg h5, c_mixed hx hv.S hi hk, Option.bind_some, m_mixed hM hv.Sw hi hk (rdg_of h3), mxP_cong hv.ag hi hk]
            exact ⟨_, rfl, rfl⟩
        · simp only [if_pos h3, if_neg h4, Option.bind_some, i10, i01, if_false, if_true]
          by_cases h5 : nI i = nI k
          · rw [if_pos h5]
            exact ⟨_, rfl, rfl⟩
          · rw [if_neg h5]
            exact ⟨_, rfl, rfl⟩
      · simp only [if_neg h3, Option.bind_some, i01, if_true]
        by_cases h5 : nI i = nI k
        · rw [if_pos h5]
          exact ⟨_, rfl, rfl⟩
        · rw [if_neg h5]
          exact ⟨_, rfl, rfl⟩
    · simp only [if_neg h2, Option.bind_some, i01, if_true, Option.elim_none]
      exact ⟨_, rfl, rfl⟩
  · simp only [if_neg h1, Option.bind_some, i01, if_true, Option.elim_none]
    by_cases h2 : 0 ≤ a2 ∧ a2 ≤ 3
    · rw [if_pos h2, Option.elim_some]
      exact ⟨_, rfl, rfl⟩
    · rw [if_neg h2, Option.elim_none]
      exact ⟨_, rfl, rfl⟩
theorem RV.given (h : RV B v w n m) (u : Int32) : gvs v u 6 = gvs w u n := by
  have hn := h.1.1
  have e1 : ∀ c, c ≤ n → gvs v u c = gvs w u c := by
    intro c
    induction c with
    | zero => intro _; rfl
    | succ c ih =>
      intro hc
      obtain ⟨b1, b2, b3, b4⟩ := h.2.1 c (by omega)
      show (_ : Option Int32).bind _ = (_ : Option Int32).bind _
      rw [ih (by omega), ← b3]
      congr 1
      funext s
      by_cases q : v (16 + 6 * c + 1) = 0
      · rw [if_pos q, if_pos q]
      · obtain ⟨-, q' | ⟨-, ⟨j, hj, ek⟩, -⟩⟩ := b1
        · exact absurd q' q
        · rw [if_neg q, if_neg q, ← b4 q 2 (by omega), ← b4 q 3 (by omega), ← b4 q 4 (by omega), ek, nI_clamp (by omega), gs_cong h.ag hj]
  have e2 := gvs_z (v := v) (u := u) (cc := n) (fun c h1 h2 => (h.2.2.1 c h1 h2).2) (6 - n) (by omega)
  rw [show n + (6 - n) = 6 by omega] at e2
  rw [e2]
  exact e1 n (Nat.le_refl _)
theorem RV.zk (h : RV B v w n m) : ∀ c, n ≤ c → c < 6 → v (16 + 6 * c + 1) = 0 := fun c h1 h2 => (h.2.2.1 c h1 h2).2
theorem j_would (h : J B L X) (a1 : Int32) : ∃ r X4, f_X9_would L X 0 a1 = some r ∧ f_X10_would L X 470 a1 = some (r, X4) ∧ J B L X4 := by
  obtain ⟨E, V, n, l, hJ⟩ := id h
  obtain ⟨cc, pc, hv⟩ := hJ.2.1.1.1
  obtain ⟨π, ρ, hx⟩ := hJ.cx
  have hM := hJ.1.2.1
  have fx := hJ.1.1.1.1
  suffices hh : ∃ r X4, f_X9_would L X 0 a1 = some r ∧ f_X10_would L X 470 a1 = some (r, X4) ∧ SC X X4 ∧ X4.1 471 = X.1 471 by
    obtain ⟨r, X4, q1, q2, q3, q4⟩ := hh
    exact ⟨r, X4, q1, q2, hJ.sc q3 q4 (fr_X10_would q2 hJ.2.2.2.2.2 (show (470 : Nat) ≤ 470 by omega))⟩
  unfold f_X9_would f_X10_would
  simp only [hJ.1.1.counter, s_within, s_in]
  by_cases h1 : 0 ≤ a1 ∧ a1 ≤ 3
  · obtain ⟨Y, y1, y2, y3⟩ := m_given hM hv.Sw hv.1.1 hv.w14 hv.Cw a1
    simp only [if_pos h1, Option.bind_some, i10, if_false, if_pos fx.1.1, Option.elim_some, c_given hx hv.S hv.1.1 hv.C hv.zk, if_pos hx.1.1.1, y1, if_pos hM.1.1]
    rw [hv.given]
    cases hg : gvs (X.1 471) a1 cc with
    | none =>
      rw [if_pos (show gvm none = -100009 from rfl)]
      exact ⟨_, Y, rfl, rfl, y2, y3⟩
    | some s =>
      rw [if_neg (show ¬ gvm (some s) = -100009 from (gvr_ne hv.Sw hv.1.1 hv.Cw hg).2)]
      exact ⟨_, Y, rfl, rfl, y2, y3⟩
  · simp only [if_neg h1, Option.bind_some, i01, if_true]
    exact ⟨_, X, rfl, rfl, SC.rf, rfl⟩
theorem j_fairest (h : J B L X) : ∃ r X4, f_X9_fairest L X 0 = some r ∧ f_X10_fairest L X 470 = some (r, X4) ∧ J B L X4 := by
  obtain ⟨E, V, n, l, hJ⟩ := id h
  obtain ⟨cc, pc, hv⟩ := hJ.2.1.1.1
  obtain ⟨π, ρ, hx⟩ := hJ.cx
  have hM := hJ.1.2.1
  have fx := hJ.1.1.1.1
  obtain ⟨Y, y1, y2, y3⟩ := m_fairest hM hv.Sw hv.1.1 hv.w14 hv.Cw
  refine ⟨_, Y, ?_, y1, hJ.sc y2 y3 (fr_X10_fairest y1 hJ.2.2.2.2.2 (show (470 : Nat) ≤ 470 by omega))⟩
  unfold f_X9_fairest
  have e : (fun u => gvs (V 5) u 6) = fun u => gvs (X.1 471) u cc := funext (fun u => hv.given u)
  rw [hJ.1.1.counter, Option.bind_some, if_pos fx.1.1, Option.elim_some, c_fairest hx hv.S hv.1.1 hv.C hv.zk, Option.bind_some, if_pos hx.1.1.1, e]
theorem j_soldOut (h : J B L X) (a1 : Int32) : ∃ r X3, f_X9_soldOut L X 0 a1 = some (r, X3) ∧ f_X10_soldOut L X3 470 a1 = some r ∧ J B L X3 := by
  obtain ⟨E, V, n, l, hJ⟩ := id h
  obtain ⟨cc, pc, hv⟩ := hJ.2.1.1.1
  obtain ⟨π, ρ, hx⟩ := hJ.cx
  have hM := hJ.1.2.1
  have fx := hJ.1.1.1.1
  have hr := hJ.1.1.rng (r := 5) (by omega)
  suffices hh : ∃ r X3, f_X9_soldOut L X 0 a1 = some (r, X3) ∧ (X3.2 = X.2 ∧ ∀ k, k ≠ 469 → X3.1 k = X.1 k) ∧ f_X10_soldOut L X3 470 a1 = some r by
    obtain ⟨r, X3, q1, ⟨q2, q3⟩, q4⟩ := hh
    refine ⟨r, X3, q1, q4, ?_⟩
    obtain ⟨⟨c1, c2, c3⟩, ⟨c4, c5⟩, ⟨t1, t2, t3, t4⟩, c7, c8, c9⟩ := hJ
    refine ⟨E, V, n, l, ⟨c1.mv (fun k hk => ⟨q3 k (by omega), by rw [q2]⟩), c2.mv (by rw [q2]), by rw [q3 470 (by omega)]; exact c3⟩, ⟨by rw [q3 471 (by omega)]; exact c4, by rw [q3 474 (by omega)]; exact c5⟩, ⟨t1, by rw [q3 465 (by omega)]; exact t2, by rw [q3 470 (by omega)]; exact t3, by rw [q3 466 (by omega), q3 475 (by omega)]; exact t4⟩, ?_, c8.mv (fun _ _ => by rw [q2]), c9.mv (fun _ _ => by rw [q2])⟩
    unfold FLr at c7 ⊢
    rw [q3 468 (by omega), q3 470 (by omega), q3 476 (by omega)]
    exact c7
  unfold f_X9_soldOut
  rw [hJ.1.1.counter, Option.bind_some, if_pos fx.1.1, Option.elim_some, c_prizeAt hx hv.1.2.1 hv.1.2.2.2.2.1, Option.bind_some, if_pos hx.1.1.1]
  by_cases h1 : isR a1 pc
  · obtain ⟨c, hc, rfl⟩ := isR_of (by have := hv.1.2.1; omega) h1
    have hc6 : c < 6 := by have := hv.1.2.1; omega
    have hρ := hx.2.1.2.2.2.2.2.1 c hc6
    have hRw := hv.Pw c hc
    obtain ⟨b1, b2⟩ := hv.2.2.2.1 c hc
    have e : ∀ j, j < 7 → X.1 (sb (E 5) + 1 + 15 + ρ c) j = X.1 471 (52 + 7 * c + j) := fun j hj => (hx.pr hc6 hj).trans (b2 j hj)
    have t9 : tk L 469 5 := fx.1.2.2.2.2.2.2.2.2.2.2
    rw [if_pos h1, Option.elim_some, nI_clamp (by omega), fx.2.1.2.2, Option.bind_some, s_pcopy t9 (pt hx hc6) (by omega), Option.bind_some, if_pos t9]
    have e2 : ∀ (x0 x1 x2 x3 x4 x5 x6 : Int32), (smi (smi (smi (smi (smi (smi (smi X 469 0 x0) 469 1 x1) 469 2 x2) 469 3 x3) 469 4 x4) 469 5 x5) 469 6 x6).2 0 2 = some 469 := fun _ _ _ _ _ _ _ => fx.2.1.2.2
    rw [e2, Option.bind_some]
    unfold f_X5_sellOut
    rw [e 0 (by omega), e 1 (by omega), e 2 (by omega), e 3 (by omega), e 4 (by omega), e 5 (by omega), e 6 (by omega)]
    obtain ⟨Z, z1, z2, z3⟩ := c_sellOut_l (L := L) (a := 469) (bx := X.1 471 (52 + 7 * c + 4)) t9 hRw.2.1 hRw.2.2.2.1 hRw.2.2.2.2.1 1000 0 u_fuel (smi (smi (smi (smi (smi (smi (smi X 469 0 (X.1 471 (52 + 7 * c + 0))) 469 1 (X.1 471 (52 + 7 * c + 1))) 469 2 (X.1 471 (52 + 7 * c + 2))) 469 3 (X.1 471 (52 + 7 * c + 3))) 469 4 (X.1 471 (52 + 7 * c + 4))) 469 5 (X.1 471 (52 + 7 * c + 5))) 469 6 (X.1 471 (52 + 7 * c + 6))) rfl (by unfold u_fuel; omega) (by simp (disch := omega) only [smi_d, pk_us, pk_un]) (by simp (disch := omega) only [smi_d, pk_us, pk_un]) (by simp (disch := omega) only [smi_d, pk_us, pk_un]) (by simp (disch := omega) only [smi_d, pk_us, pk_un]; exact hRw.2.2.2.2.2.1) (by simp (disch := omega) only [smi_d, pk_us, pk_un]; exact hRw.2.2.2.2.2.2) (by simp (disch := omega) only [smi_d, pk_us, pk_un]; exact hRw.2.2.1)
    simp (disch := omega) only [smi_d, pk_us, pk_un] at z1
    have z1 : f_X5_sellOut_2 L u_fuel 469 0 _ = _ := z1
    rw [z1, Option.bind_some, if_pos t9]
    have z3' : ∀ k, k ≠ 469 → Z.1 k = X.1 k := fun k hk => (z3 k hk).trans (by simp only [smi_o hk])
    have hMZ : MOK L Z := hM.mv (by rw [z2]; rfl)
    have ed : Z.1 471 = X.1 471 := z3' 471 (by omega)
    refine ⟨_, Z, rfl, ⟨z2, z3'⟩, ?_⟩
    unfold f_X10_soldOut
    rw [s_isPrize hMZ, Option.bind_some, if_pos hM.1.1, ed, hv.w15]
    simp only [isR_m1 hv.1.2.1]
    have p1 : f_X10_priced L Z 470 (nI c) 1 = some (X.1 471 (52 + 7 * c + 1)) := by rw [← ed]; exact s_priced hMZ hc6 (show 1 < 7 by omega)
    have p2 : f_X10_priced L Z 470 (nI c) 2 = some (X.1 471 (52 + 7 * c + 2)) := by rw [← ed]; exact s_priced hMZ hc6 (show 2 < 7 by omega)
    have p4 : f_X10_priced L Z 470 (nI c) 4 = some (X.1 471 (52 + 7 * c + 4)) := by rw [← ed]; exact s_priced hMZ hc6 (show 4 < 7 by omega)
    have p5 : f_X10_priced L Z 470 (nI c) 5 = some (X.1 471 (52 + 7 * c + 5)) := by rw [← ed]; exact s_priced hMZ hc6 (show 5 < 7 by omega)
    have q1 := hRw.2.1
    have q4 := hRw.2.2.2.2.1
    rw [if_pos h1, if_neg (show ¬ (1 : Int32) = 0 by decide), p2, Option.bind_some, p5, Option.bind_some, p4, Option.bind_some, p1, Option.bind_some, if_pos (i_nz (by omega)), fl_div (by omega) (by omega)]
    have m1 := m_sold_l hMZ hc6 (by rw [ed]; exact hRw) 1000 0 u_fuel (X.1 471 (52 + 7 * c + 2)) (X.1 471 (52 + 7 * c + 5)) rfl (by unfold u_fuel; omega) hRw.2.2.2.2.2.1 (by rw [ed]; exact hRw.2.2.2.2.2.2)
    rw [ed] at m1
    exact m1
  · rw [if_neg h1, Option.elim_none]
    refine ⟨_, X, rfl, ⟨rfl, fun _ _ => rfl⟩, ?_⟩
    unfold f_X10_soldOut
    rw [s_isPrize hM, Option.bind_some, if_pos hM.1.1, hv.w15]
    simp only [isR_m1 hv.1.2.1, if_neg h1, if_true]
theorem cn_ext {p q : Nat → Bool} : ∀ n, (∀ i, i < n → p i = q i) → cn p n = cn q n := by
  intro n
  induction n with
  | zero => intro _; rfl
  | succ n ih => intro h; unfold cn; rw [ih (fun i hi => h i (by omega)), h n (by omega)]
theorem fs_ext {p q : Nat → Bool} : ∀ d i, (∀ x, i ≤ x → x < i + d → p x = q x) → fs p d i = fs q d i := by
  intro d
  induction d with
  | zero => intro _ _; rfl
  | succ d ih => intro i h; unfold fs; rw [h i (by omega) (by omega), ih (i + 1) (fun x h1 h2 => h x (by omega) (by omega))]
theorem sst_cong (e : ∀ p, p < m → ∀ j, j < 7 → v (52 + 7 * p + j) = w (52 + 7 * p + j)) (left : Int32) : ∀ k, k ≤ m → sst v m left k = sst w m left k := by
  have ep : ∀ p, p < m → prc v p = prc w p := fun p hp => e p hp 0 (by omega)
  have er : ∀ p, p < m → rk (prc v) m p = rk (prc w) m p := fun p hp => by
    unfold rk
    refine cn_ext m (fun q hq => ?_)
    unfold plt
    rw [ep q hq, ep p hp]
  have ek : ∀ k, pk_k (prc v) m k = pk_k (prc w) m k := fun k => by
    unfold pk_k
    refine fs_ext m 0 (fun x _ hx => ?_)
    rw [er x (by omega)]
  intro k
  induction k with
  | zero => intro _; rfl
  | succ k ih =>
    intro hk
    have hp := (pk_spec (f := prc w) (m := m) (k := k) (by omega)).1
    have eq : ∀ l, sq v l (pk_k (prc w) m k) = sq w l (pk_k (prc w) m k) := fun l => by
      unfold sq
      rw [ep _ hp, e _ hp 2 (by omega)]
    show (_, _, _) = (_, _, _)
    rw [ih (by omega), ek k, eq, ep _ hp, e _ hp 1 (by omega)]
theorem j_shop (h : J B L X) (a1 a2 : Int32) : ∃ r, f_X9_shop L X 0 a1 a2 = some r ∧ f_X10_shop L X 470 a1 a2 = some r := by
  obtain ⟨E, V, n, l, hJ⟩ := h
  obtain ⟨cc, pc, hv⟩ := hJ.2.1.1.1
  obtain ⟨π, ρ, hx⟩ := hJ.cx
  have hM := hJ.1.2.1
  have fx := hJ.1.1.1.1
  unfold f_X9_shop f_X10_shop
  simp only [hJ.1.1.counter, Option.bind_some, if_pos fx.1.1, Option.elim_some, c_customerAt hx hv.1.1 hv.1.2.2.2.1, if_pos hx.1.1.1, s_isCustomer hM, if_pos hM.1.1, s_within, s_in, hv.w14, isR_m1 hv.1.1]
  by_cases h1 : isR a1 cc
  · obtain ⟨c, hc, rfl⟩ := isR_of (by have := hv.1.1; omega) h1
    have hc6 : c < 6 := by have := hv.1.1; omega
    have e0 : X.1 (sb (E 5) + 1 + 9 + π c) 0 = V 5 (16 + 6 * c) := hx.cu hc6 (show 0 < 6 by omega)
    have o0 : f_X10_of L X 470 (nI c) 0 = some (X.1 471 (16 + 6 * c)) := s_of hM hc6 (show 0 < 6 by omega)
    obtain ⟨b1, b2, b3, b4⟩ := hv.2.1 c hc
    simp only [if_pos h1, i10, if_false, Option.elim_some, nI_clamp (show c < 2 ^ 31 by omega)]
    by_cases h2 : 0 ≤ a2 ∧ a2 ≤ 2
    · simp only [if_pos h2, Option.bind_some, i10, if_false, if_pos (ct hx hc6), e0, o0, c_shop hx hv.1.2.1 hv.1.2.2.2.2.1 hv.P]
      rw [m_shop hM hv.1.2.1 hv.w15 hv.Pw (by rw [← b2]; exact b1.1.1), b2, sst_cong (fun p hp => (hv.2.2.2.1 p hp).2) _ pc (Nat.le_refl _)]
      exact ⟨_, rfl, rfl⟩
    · simp only [if_neg h2, Option.bind_some, i01, if_true]
      exact ⟨_, rfl, rfl⟩
  · simp only [if_neg h1, i01, if_true, Option.elim_none]
    exact ⟨_, rfl, rfl⟩
end LM
