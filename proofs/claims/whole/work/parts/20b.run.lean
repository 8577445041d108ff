/-! run -/
section JR
variable {B : Int} {L : hL} {X : hX}
theorem CI.run {X1 X2 : hX} {E : Nat → Nat} {V : Nat → Nat → Int32} {n c : Nat} {v' : Nat → Int32} (h : CI L X1 E V n) (ec : c = sb (E 5) + 1) (hr : ∀ k, k < 465 → ¬ (c ≤ k ∧ k < c + 21) → X2.1 k = X1.1 k ∧ X2.2 k = X1.2 k) (h465 : X2.2 465 = X1.2 465) (hcl : Cl (fun k => c ≤ k ∧ k < c + 21) X2) (hx : CXe L X2 c v') : CI L X2 E (Vu V 5 (ovr (V 5) 0 v')) n := by
  subst ec
  have h5 := h.rng (r := 5) (by omega)
  obtain ⟨Z, eZ⟩ : ∃ Z : hX, Z = (fun k => if k < 465 then X2.1 k else X1.1 k, fun k => if k < 465 then X2.2 k else X1.2 k) := ⟨_, rfl⟩
  have z1 : ∀ k, k < 465 → Z.1 k = X2.1 k ∧ Z.2 k = X2.2 k := fun k hk => by
    rw [eZ]
    exact ⟨if_pos hk, if_pos hk⟩
  have z2 : ∀ k, ¬ k < 465 → Z.1 k = X1.1 k ∧ Z.2 k = X1.2 k := fun k hk => by
    rw [eZ]
    exact ⟨if_neg hk, if_neg hk⟩
  have hf : FR (fun k => sb (E 5) + 1 ≤ k ∧ k < sb (E 5) + 1 + 21) X1 Z := by
    refine ⟨hcl.mv (fun k hk => (z1 k (by omega)).2), fun k hk j => ?_⟩
    by_cases q : k < 465
    · rw [(z1 k q).1, (z1 k q).2, (hr k q hk).1, (hr k q hk).2]
      exact ⟨rfl, rfl⟩
    · rw [(z2 k q).1, (z2 k q).2]
      exact ⟨rfl, rfl⟩
  have hw : CXe L Z (sb (E 5) + 1) v' := hx.move (fun k a b => z1 k (by omega))
  exact (h.cmd hf hw).1.mv2 (fun k hk => ⟨(z1 k hk).1.symm, (z1 k hk).2.symm⟩) (by rw [h465]; exact (z2 465 (by omega)).2.symm)
set_option maxHeartbeats 1000000 in
theorem j_run (h : J B L X) (hB : 9999 ≤ B) (hB2 : B ≤ 800000000) : ∃ r X3 X4, f_X9_run L X 0 = some (r, X3) ∧ f_X10_run L X3 470 = some (r, X4) ∧ J (B + 224000) L X4 := by
  obtain ⟨E, V, n, l, hJ⟩ := h
  obtain ⟨X1, p1, p2, p3, p4, p5⟩ := hJ.prep
  have fx := hJ.1.1.1.1
  have fx1 := p2.1.1
  have h5 := hJ.1.1.rng (r := 5) (by omega)
  obtain ⟨c, ec⟩ : ∃ c, c = sb (E 5) + 1 := ⟨_, rfl⟩
  obtain ⟨⟨c1, c2, c3⟩, ⟨c4, c5⟩, ⟨t1, t2, t3, t4⟩, c7, c8, c9⟩ := hJ
  have hn5 := c1.1.2.2.1
  obtain ⟨⟨cc, pc, hv⟩, hslots⟩ := id c4
  have t465 := fx.1.2.2.2.2.1
  obtain ⟨Xs, eXs⟩ : ∃ Z, Z = smi X1 465 5 0 := ⟨_, rfl⟩
  have xs2 : Xs.2 = X1.2 := by rw [eXs]; rfl
  have xso : ∀ k, k ≠ 465 → Xs.1 k = X1.1 k := fun k hk => by rw [eXs, smi_o hk]
  have xsf : ∀ j, j ≠ 5 → Xs.1 465 j = X1.1 465 j := fun j hj => by rw [eXs, smi_d, pk_un hj]
  have TCs : TC L Xs l := ⟨⟨t465, fx.1.2.2.2.2.2.1, fx.1.2.2.2.2.2.2.1, by rw [xs2]; exact fx1.2.2.2.1⟩, t1, by rw [xsf 3 (by decide), (p3 465 (by omega)).1]; exact t2, fun k hk => by rw [xso 466 (by decide), (p3 466 (by omega)).1]; exact (t4 k hk).2⟩
  have hTU : ∀ k, k < l → X.1 466 k = X.1 475 k := fun k hk => (t4 k (by omega)).1
  have hcx : CXe L Xs c (V 5) := by
    rw [ec]
    exact (p2.2.2 5 (by omega)).2.2.1.move (fun k _ _ => ⟨xso k (by omega), by rw [xs2]⟩)
  have hcl : Cl (fun k => c ≤ k ∧ k < c + 21) Xs := by
    rw [ec]
    exact p2.cl.mv (fun k _ => by rw [xs2])
  obtain ⟨r, X2, g1, g2, g3, g4⟩ := run_l (L := L) (l := l) (b := c) (T := X.1 466) (U := X.1 475) hTU ⟨t465, fx.1.2.2.2.2.2.2.2.1, fx.1.2.2.2.2.2.2.2.2.1, fx.1.2.2.2.2.2.2.2.2.2.1⟩ (by omega) hB (by omega) (l + 1) 0 0 u_fuel Xs (V 5) (X.1 471) cc pc (by omega) (by unfold u_fuel; omega) (Nat.zero_le _) (Nat.le_refl _) ⟨TCs, ⟨by rw [xs2]; exact fx1.2.2.2.2.1, by rw [xs2]; exact fx1.2.2.2.2.2⟩, by rw [xso 466 (by decide), (p3 466 (by omega)).1], by rw [eXs, smi_d, pk_us]; rfl, hcx, hcl⟩ (hv.mono (by omega))
  have g1 : f_X6_runOn_7 L u_fuel 465 c 0 Xs = some (r, X2) := g1
  have k2 : ∀ k, ¬ (c ≤ k ∧ k < c + 21) → X2.2 k = X1.2 k := fun k hk => by rw [(g2.1 k hk).1, xs2]
  have k1 : ∀ k, ¬ (c ≤ k ∧ k < c + 21) → k ≠ 465 → k ≠ 467 → k ≠ 468 → X2.1 k = X1.1 k := fun k hk a b d => by rw [(g2.1 k hk).2 a b d, xso k a]
  have x23 : X2.1 465 3 = nI l := by rw [g2.2, xsf 3 (by decide), (p3 465 (by omega)).1]; exact t2
  have z00 : X2.2 0 0 = some 1 := by rw [k2 0 (by omega), p4]; exact fx.2.1.1
  have z01 : X2.2 0 1 = some 465 := by rw [k2 0 (by omega), p4]; exact fx.2.1.2.1
  rcases g4 with ⟨kk, v', w', y1, y2, y3, y4, y5, y6, y7⟩ | ⟨kd, p, code, cnt, v', y1, y2, y3, y4, y5, y7⟩
  · subst y2
    obtain ⟨Xe, eXe⟩ : ∃ Z, Z = smi X2 465 3 0 := ⟨_, rfl⟩
    have xe2 : Xe.2 = X2.2 := by rw [eXe]; rfl
    have xeo : ∀ k, k ≠ 465 → Xe.1 k = X2.1 k := fun k hk => by rw [eXe, smi_o hk]
    have hem : f_X6_emptyText L X2 465 = some (X2.1 465 3, Xe) := by
      unfold f_X6_emptyText
      rw [if_pos t465, eXe]
    have hCI : CI L Xe E (Vu (Vu V 6 (cpy (V 6) (V 5))) 5 (ovr (V 5) 0 v')) n := p2.run ec (fun k a b => ⟨by rw [xeo k (by omega)]; exact k1 k b (by omega) (by omega) (by omega), by rw [xe2]; exact k2 k b⟩) (by rw [xe2]; exact k2 465 (by omega)) (g3.mv (fun k _ => by rw [xe2])) (y3.move (fun k a b => ⟨xeo k (by omega), by rw [xe2]⟩))
    have hE : ER (nI kk) := ERp (by rw [nI_toInt (by omega)]; omega)
    have nle0 : ¬ nI kk ≤ -100001 := fun q => by
      have q := i_le.mp q
      rw [nI_toInt (by omega), show (-100001 : Int32).toInt = -100001 by decide] at q
      omega
    obtain ⟨X3, s1, s2, -, s4⟩ := hCI.settle hE
    have s4 := s4 nle0
    have e9 : f_X9_run L X 0 = some (nI kk, X3) := by
      unfold f_X9_run f_X6_runOn
      rw [if_pos fx.1.1, fx.2.1.1, Option.bind_some, p1, Option.bind_some, if_pos fx.1.2.1, p4, fx.2.1.2.1, Option.bind_some, p2.counter, Option.bind_some, Option.elim_some, if_pos t465, ← eXs, ← ec, g1, Option.bind_some, if_pos t465, if_pos (show (0 : Int32) ≤ nI kk from nI_pos' (by omega)), z01, Option.bind_some, hem, Option.bind_some, if_pos t465, xe2, z00, Option.bind_some, s1, Option.bind_some, if_pos fx.1.2.1]
    have r3 : ∀ k, 465 ≤ k → X3.2 k = X.2 k := fun k hk => by rw [(s2 k (by omega) (by omega)).2, xe2, k2 k (by omega)]; exact (p3 k hk).2
    have q3 : ∀ k, 465 ≤ k → k ≠ 465 → k ≠ 467 → k ≠ 468 → X3.1 k = X.1 k := fun k hk a b d => by rw [(s2 k (by omega) (by omega)).1, xeo k a, k1 k (by omega) a b d]; exact (p3 k hk).1
    have q468 : X3.1 468 = X.1 468 := by rw [(s2 468 (by omega) (by omega)).1, xeo 468 (by decide), y4, xso 468 (by decide)]; exact (p3 468 (by omega)).1
    have q465 : X3.1 465 3 = 0 := by rw [(s2 465 (by omega) (by omega)).1, eXe, smi_d, pk_us]
    have cl3 : Cl (fun k => k < 470) X3 := (fr_X9_run e9 c8 (show (0 : Nat) < 470 by omega)).1
    have cl3' : Cl (fun k => 470 ≤ k) X3 := c9.mv (fun k hk' => r3 k (by omega))
    have m3 : MOK L X3 := c2.mv (r3 470 (by omega))
    have tm3 : TM X3 l := ⟨t1, by rw [q3 470 (by omega) (by decide) (by decide) (by decide)]; exact t3⟩
    obtain ⟨Y, b1, b2, b3, b4, b5, b6⟩ := m_begins m3 tm3
    rw [q3 475 (by omega) (by decide) (by decide) (by decide), q3 471 (by omega) (by decide) (by decide) (by decide)] at b2
    obtain ⟨Y', d1, d2, d3⟩ := y7 u_fuel Y (by unfold u_fuel; omega) b2
    have mY : MOK L Y' := b2.1.scr d1
    have n4 : Y'.1 470 4 = nI n := by rw [d1.fld (by decide), b6 4 (by decide), q3 470 (by omega) (by decide) (by decide) (by decide)]; exact c3
    obtain ⟨P, f1, f2⟩ := m_pushes (q := 473) (Or.inr rfl) mY hn5 n4
    have hb471 : ∀ k, k < 284 → Y'.1 473 k = X.1 471 k := fun k hk => by rw [d1.row (by decide) (by decide) (by decide), b5 k hk, q3 471 (by omega) (by decide) (by decide) (by decide)]
    have h474 : Y'.1 474 = X3.1 474 := by rw [d1.row (by decide) (by decide) (by decide), b4 474 (by decide) (by decide)]
    have bb := PW_of (X := X3) (d := X.1 471) hn5 f2 h474 hb471
    obtain ⟨f3, f4, f5, -⟩ := f2
    obtain ⟨X4, eX4⟩ : ∃ Z, Z = smi P 470 6 0 := ⟨_, rfl⟩
    have e10 : f_X10_run L X3 470 = some (nI kk, X4) := by
      have d3 : f_X10_run_38 L u_fuel 470 0 Y = _ := d3
      rw [b1, d3, f1, Option.bind_some, eX4]
    have ff := fr_X10_run (P := fun k => 470 ≤ k) e10 cl3' (show (470 : Nat) ≤ 470 by omega)
    have h4 := ff.hi
    have x4o : ∀ k, k ≠ 470 → k ≠ 471 → k ≠ 473 → k ≠ 474 → k ≠ 477 → X4.1 k = X3.1 k := fun k a1 a2 a3 a4 a5 => by rw [eX4, smi_o a1, f4 k a1 a4, d1.row a2 a5 a1, b4 k a1 a3]
    have x42 : X4.2 = X3.2 := by rw [eX4, smi_2, f3, d1.1, b3]
    have x474 : X4.1 474 = P.1 474 := by rw [eX4, smi_o (by decide)]
    have x4704 : X4.1 470 4 = P.1 470 4 := by rw [eX4, smi_d, pk_un (by decide)]
    have x4708 : X4.1 470 8 = X.1 470 8 := by rw [eX4, smi_d, pk_un (by decide), f5 8 (by decide), d1.fld (by decide), b6 8 (by decide), q3 470 (by omega) (by decide) (by decide) (by decide)]
    have x471 : X4.1 471 = w' := by rw [eX4, smi_o (by decide), f4 471 (by decide) (by decide)]; exact d2
    have bb : PW X3 X4 n (X.1 471) := by
      unfold PW at bb ⊢
      rw [x474, x4704]
      exact bb
    refine ⟨nI kk, X3, X4, e9, e10, _, _, (if n < 5 then n + 1 else 5), 0, ⟨s4.mv (fun k hk' => h4 k (by omega)), m3.mv (by rw [x42]), ?_⟩, ⟨?_, fun r hr => ?_⟩, ⟨by omega, ?_, ?_, fun k hk' => ?_⟩, ?_, cl3.mv (fun k _ => by rw [x42]), ff.1⟩
    · by_cases q : n < 5
      · rw [if_pos q]; exact (bb.1 q).1
      · rw [if_neg q]; exact (bb.2 (by omega)).1
    · have e : rec_ n 5 = 5 := by
        unfold rec_ sw rot
        by_cases q : n < 5
        · rw [if_pos q, if_neg (by omega), if_neg (by omega)]
        · rw [if_neg q]; decide
      show RVS (B + 224000) (Vu _ 5 (ovr (V 5) 0 v') (rec_ n 5)) _
      rw [e]
      unfold Vu
      rw [if_pos rfl, x471]
      exact c4.cmd (by omega) y5 y6
    · show RVS (B + 224000) (Vu (Vu V 6 (cpy (V 6) (V 5))) 5 (ovr (V 5) 0 v') (rec_ n r)) _
      have w5 : RVS (B + 224000) (cpy (V 6) (V 5)) (X.1 471) := (c4.mono (by omega)).copied
      by_cases q : n < 5
      · rw [if_pos q] at hr
        obtain ⟨-, u2, u3⟩ := bb.1 q
        by_cases q2 : r = n
        · rw [q2, rec_b q]
          unfold Vu
          rw [if_neg (by omega), if_pos rfl]
          exact w5.ext (fun _ _ => rfl) (fun k hk' => (u3 k hk').symm)
        · rw [rec_a q (by omega)]
          unfold Vu
          rw [if_neg (by omega), if_neg (by omega)]
          refine ((c5 r (by omega)).mono (by omega)).ext (fun _ _ => rfl) (fun k hk' => ?_)
          rw [u2 r (by omega) k hk', q3 474 (by omega) (by decide) (by decide) (by decide)]
      · rw [if_neg q] at hr
        obtain ⟨-, u2, u3⟩ := bb.2 (by omega)
        have e5 : n = 5 := by omega
        subst e5
        by_cases q2 : r < 4
        · rw [rec_c r q2]
          unfold Vu
          rw [if_neg (by omega), if_neg (by omega)]
          refine ((c5 (r + 1) (by omega)).mono (by omega)).ext (fun _ _ => rfl) (fun k hk' => ?_)
          show X.1 474 (284 * (r + 1) + k) = X4.1 474 (284 * r + k)
          rw [u2 r q2 k hk', q3 474 (by omega) (by decide) (by decide) (by decide)]
        · have er : r = 4 := by omega
          subst er
          rw [rec_d]
          unfold Vu
          rw [if_neg (by omega), if_pos rfl]
          exact w5.ext (fun _ _ => rfl) (fun k hk' => (u3 k hk').symm)
    · rw [(h4 465 (by omega)).1]; exact q465
    · rw [eX4, smi_d, pk_us]; rfl
    · rw [(h4 466 (by omega)).1, q3 466 (by omega) (by decide) (by decide) (by decide), x4o 475 (by decide) (by decide) (by decide) (by decide) (by decide), q3 475 (by omega) (by decide) (by decide) (by decide)]
      exact t4 k hk'
    · unfold FLr at c7 ⊢
      rw [(h4 468 (by omega)).1, q468, x4708, x4o 476 (by decide) (by decide) (by decide) (by decide) (by decide), q3 476 (by omega) (by decide) (by decide) (by decide)]
      exact c7
  · subst y2
    have hCI : CI L X2 E (Vu (Vu V 6 (cpy (V 6) (V 5))) 5 (ovr (V 5) 0 v')) n := p2.run ec (fun k a b => ⟨k1 k b (by omega) (by omega) (by omega), k2 k b⟩) (k2 465 (by omega)) g3 y4
    obtain ⟨X3, s1, s4, s2⟩ := hCI.abandon
    have e9 : f_X9_run L X 0 = some (-1000 - nI p, X3) := by
      unfold f_X9_run f_X6_runOn
      rw [if_pos fx.1.1, fx.2.1.1, Option.bind_some, p1, Option.bind_some, if_pos fx.1.2.1, p4, fx.2.1.2.1, Option.bind_some, p2.counter, Option.bind_some, Option.elim_some, if_pos t465, ← eXs, ← ec, g1, Option.bind_some, if_pos t465, if_neg (neg_pl p (by omega)), z00, Option.bind_some, s1, Option.bind_some, if_pos fx.1.2.1]
    have r3 : ∀ k, 465 ≤ k → X3.2 k = X.2 k := fun k hk => by rw [(s2 k (by omega) (by omega)).2, k2 k (by omega)]; exact (p3 k hk).2
    have q3 : ∀ k, 465 ≤ k → k ≠ 465 → k ≠ 467 → k ≠ 468 → X3.1 k = X.1 k := fun k hk a b d => by rw [(s2 k (by omega) (by omega)).1, k1 k (by omega) a b d]; exact (p3 k hk).1
    have q468 : X3.1 468 = X2.1 468 := (s2 468 (by omega) (by omega)).1
    have q465 : X3.1 465 3 = nI l := by rw [(s2 465 (by omega) (by omega)).1]; exact x23
    have cl3 : Cl (fun k => k < 470) X3 := (fr_X9_run e9 c8 (show (0 : Nat) < 470 by omega)).1
    have cl3' : Cl (fun k => 470 ≤ k) X3 := c9.mv (fun k hk' => r3 k (by omega))
    have m3 : MOK L X3 := c2.mv (r3 470 (by omega))
    have tm3 : TM X3 l := ⟨t1, by rw [q3 470 (by omega) (by decide) (by decide) (by decide)]; exact t3⟩
    obtain ⟨Y, b1, b2, b3, b4, b5, b6⟩ := m_begins m3 tm3
    rw [q3 475 (by omega) (by decide) (by decide) (by decide), q3 471 (by omega) (by decide) (by decide) (by decide)] at b2
    obtain ⟨Y', d1, d3⟩ := y7 u_fuel Y (by unfold u_fuel; omega) b2
    have mY : MOK L Y' := b2.1.scr d1
    have hb471 : ∀ k, k < 284 → Y'.1 473 k = X.1 471 k := fun k hk => by rw [d1.row (by decide) (by decide) (by decide), b5 k hk, q3 471 (by omega) (by decide) (by decide) (by decide)]
    obtain ⟨X4, eX4⟩ : ∃ Z, Z = F5 (srow Y' 471 (fun k => if 0 ≤ k ∧ k < 284 then Y'.1 473 k else Y'.1 471 k)) kd (nI p) code cnt := ⟨_, rfl⟩
    have e10 : f_X10_run L X3 470 = some (-1000 - nI p, X4) := by
      have d3 : f_X10_run_38 L u_fuel 470 0 Y = _ := d3
      rw [b1, d3, m_fails mY, eX4]
    have ff := fr_X10_run (P := fun k => 470 ≤ k) e10 cl3' (show (470 : Nat) ≤ 470 by omega)
    have h4 := ff.hi
    have x4o : ∀ k, k ≠ 470 → k ≠ 471 → k ≠ 473 → k ≠ 476 → k ≠ 477 → X4.1 k = X3.1 k := fun k a1 a2 a3 a4 a5 => by rw [eX4, F5_o a1 a4, srow_o a2, d1.row a2 a5 a1, b4 k a1 a3]
    have x42 : X4.2 = X3.2 := by
      rw [eX4, F5_2]
      show Y'.2 = X3.2
      rw [d1.1, b3]
    have x470 : ∀ j, j ≠ 8 → ¬ (j = 9 ∨ j = 10 ∨ j = 11 ∨ j = 13 ∨ j = 14) → X4.1 470 j = X.1 470 j := fun j h8 hj => by rw [eX4, F5_f h8, srow_o (by decide), d1.fld hj, b6 j hj, q3 470 (by omega) (by decide) (by decide) (by decide)]
    have x471 : ∀ k, k < 284 → X4.1 471 k = X.1 471 k := fun k hk => by rw [eX4, F5_o (by decide) (by decide), srow_s, if_pos ⟨Nat.zero_le _, hk⟩]; exact hb471 k hk
    have es5 : sw 5 6 5 = 6 := by decide
    refine ⟨-1000 - nI p, X3, X4, e9, e10, _, _, n, l, ⟨s4.mv (fun k hk' => h4 k (by omega)), m3.mv (by rw [x42]), ?_⟩, ⟨?_, fun r hr => ?_⟩, ⟨t1, ?_, ?_, fun k hk' => ?_⟩, ?_, cl3.mv (fun k _ => by rw [x42]), ff.1⟩
    · rw [x470 4 (by decide) (by decide)]; exact c3
    · show RVS (B + 224000) (Vu (Vu V 6 (cpy (V 6) (V 5))) 5 (ovr (V 5) 0 v') (sw 5 6 5)) _
      rw [es5]
      unfold Vu
      rw [if_neg (by omega), if_pos rfl]
      exact ((c4.mono (by omega)).copied).ext (fun _ _ => rfl) (fun k hk' => (x471 k hk').symm)
    · show RVS (B + 224000) (Vu (Vu V 6 (cpy (V 6) (V 5))) 5 (ovr (V 5) 0 v') (sw 5 6 r)) _
      have er : sw 5 6 r = r := by
        unfold sw
        rw [if_neg (by omega), if_neg (by omega)]
      rw [er]
      unfold Vu
      rw [if_neg (by omega), if_neg (by omega), x4o 474 (by decide) (by decide) (by decide) (by decide) (by decide), q3 474 (by omega) (by decide) (by decide) (by decide)]
      exact (c5 r hr).mono (by omega)
    · rw [(h4 465 (by omega)).1]; exact q465
    · rw [x470 6 (by decide) (by decide)]; exact t3
    · rw [(h4 466 (by omega)).1, q3 466 (by omega) (by decide) (by decide) (by decide), x4o 475 (by decide) (by decide) (by decide) (by decide) (by decide), q3 475 (by omega) (by decide) (by decide) (by decide)]
      exact t4 k hk'
    · unfold FLr
      obtain ⟨v1, v2, v3, v4⟩ := y5
      obtain ⟨u1, u2, u3, u4, u5⟩ := F5_v (X := srow Y' 471 (fun k => if 0 ≤ k ∧ k < 284 then Y'.1 473 k else Y'.1 471 k)) (kd := kd) (pl := nI p) (code := code) (cnt := cnt)
      rw [(h4 468 (by omega)).1, q468, v1, v2, v3, v4, eX4]
      exact Or.inr ⟨F5_8, y3, u1, u2, u3, u4, u5⟩
end JR
