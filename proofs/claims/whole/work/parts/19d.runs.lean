/-! a program's run, on both sides: the loop -/
def CF2 (b : Nat) (X Y : hX) : Prop := (∀ k, ¬ (b ≤ k ∧ k < b + 21) → Y.2 k = X.2 k ∧ (k ≠ 465 → k ≠ 467 → k ≠ 468 → Y.1 k = X.1 k)) ∧ Y.1 465 3 = X.1 465 3
theorem CFR.f2 {b : Nat} {X Y : hX} (h : CFR b X Y) : CF2 b X Y := ⟨fun k hk => ⟨(h.1 k hk).1, fun a c _ => (h.1 k hk).2 a c⟩, h.2⟩
theorem CFR.t2 {b : Nat} {X Y Z : hX} (h1 : CFR b X Y) (h2 : CF2 b Y Z) : CF2 b X Z := ⟨fun k hk => ⟨(h2.1 k hk).1.trans (h1.1 k hk).1, fun a c e => ((h2.1 k hk).2 a c e).trans ((h1.1 k hk).2 a c)⟩, h2.2.trans h1.2⟩
theorem CF2.n4 {b : Nat} {X : hX} {p c q kd : Int32} : CF2 b X (N4 X p c q kd) := ⟨fun k _ => ⟨rfl, fun _ _ e => N4_o e⟩, by rw [N4_o (by decide)]⟩
section RL
variable {L : hL} {l b : Nat} {T U : Nat → Int32}
theorem CXe.n4 {X : hX} {v : Nat → Int32} (h : CXe L X b v) (hb : b + 21 ≤ 465) {p c q kd : Int32} : CXe L (N4 X p c q kd) b v := h.move (fun k _ _ => ⟨N4_o (by omega), rfl⟩)
theorem m_tail (hTU : ∀ k, k < l → T k = U k) {Y : hX} {w : Nat → Int32} {a n i s e : Nat} {q : Int32} (h : PM L Y l a U w) (ha : a ≤ l) (hsl : s < l) (eU : tst U l a = s) (eV : ten U l s = e) (he : e ≤ l) (hc : i < 8) (hw : wv U l s e = wh i) : ∃ Y2, SCR Y Y2 ∧ Y2.1 471 = w ∧ (bd T l e (nb i) 0 = nb i → Y2.1 470 10 = nI (pa T l e (nb i + 1)) ∧ ∀ j, j < nb i → Y2.1 477 j = nv T l e j) ∧ f_X10_run_38 L (n + 1) 470 q Y = if bd T l e (nb i) 0 = nb i ∧ okE T l e (nb i) = true then (f_X10_does L Y2 470 (wh i)).bind fun r13 => if (-100001) < r13.1 then (f_X10_reads L r13.2 470).bind fun r16 => f_X10_run_38 L n 470 (q + 1) r16 else if r13.1 = (-100001) then (f_X10_fails L r13.2 470 2 (nI s) r13.1 q).bind fun r21 => some (r21.1, r21.2) else (f_X10_fails L r13.2 470 3 (nI s) r13.1 q).bind fun r19 => some (r19.1, r19.2) else f_X10_fails L Y2 470 1 (nI (tsn T l e (bd T l e (nb i) 0))) (-100009) q := by
  obtain ⟨hM, hT, h75, h71, h9, h10, h11⟩ := id h
  have h5 := nb_5 i hc
  obtain ⟨Y2, y1, y2, y3, y4, y5⟩ := m_rn (L := L) (l := l) (m := nb i) (T := U) he h5 (nb i) 0 u_fuel Y (by omega) (by unfold u_fuel; omega) hM hT h75 (by rw [h10, eU, eV]; rfl) (fun j hj => absurd hj (Nat.not_lt_zero j))
  have y1 : f_X10_readsNumbers L Y 470 (nI (nb i)) = _ := y1
  rw [← bd_cong hTU, ← okE_cong hTU] at y1
  rw [← bd_cong hTU, ← tsn_cong hTU] at y4
  rw [← bd_cong hTU] at y5
  refine ⟨Y2, y2, y3.trans h71, fun z => ?_, ?_⟩
  · obtain ⟨z1, z2⟩ := y5 z
    rw [← pa_cong hTU] at z1
    exact ⟨z1, fun j hj => by rw [z2 j hj, nv_cong he hTU]⟩
  · have hng : ¬ nI (nb i) < 0 := nI_pos (by omega)
    rw [m_38s h ha (by rw [eU]; exact hsl), eU, eV, m_66, hw, num_hit i hc, if_neg hng, y1, Option.bind_some, if_pos hM.1.1]
    by_cases z : bd T l e (nb i) 0 = nb i ∧ okE T l e (nb i) = true
    · rw [if_pos z, if_pos z, if_neg (show ¬ (1 : Int32) = 0 by decide)]
    · rw [if_neg z, if_neg z, if_pos rfl, m_run85 (hM.scr y2) y4]
set_option maxHeartbeats 1000000 in
theorem run_l (hTU : ∀ k, k < l → T k = U k) (st : tk L 465 6 ∧ tk L 467 12 ∧ L.2.2 467 = 5 ∧ tk L 468 2) (hb : b + 21 ≤ 465) {B0 : Int} (hB0 : 9999 ≤ B0) (hB2 : B0 ≤ 900000000) : ∀ (d a k n : Nat) (X : hX) (v w : Nat → Int32) (p q : Nat), l - a < d → d ≤ n → a ≤ l → k ≤ a → PS L X l b a T v → RV (B0 + 1600 * (k : Int)) v w p q → ∃ r X', f_X6_runOn_7 L n 465 b (nI k) X = some (r, X') ∧ CF2 b X X' ∧ Cl (fun k => b ≤ k ∧ k < b + 21) X' ∧ (RL1 L l b a k d U w (B0 + 224000) X r X' ∨ RL2 L l b a k d U w r X') := by
  intro d
  induction d with
  | zero => intro a k n X v w p q h; exact absurd h (Nat.not_lt_zero _)
  | succ d ih =>
    intro a k n X v w p q hd hn ha hk hP hv
    obtain ⟨n, rfl⟩ : ∃ n', n = n' + 1 := ⟨n - 1, by omega⟩
    obtain ⟨hT, ⟨r1, r2⟩, h6, h5, hx, hcl⟩ := id hP
    have hl := hT.2.1
    obtain ⟨s, es⟩ : ∃ s, s = tst T l a := ⟨_, rfl⟩
    obtain ⟨e, ee⟩ : ∃ e, e = ten T l s := ⟨_, rfl⟩
    have hs : a ≤ s ∧ s ≤ l := by rw [es]; exact tst_r ha
    have he : s ≤ e ∧ e ≤ l := by rw [ee]; exact ten_r hs.2
    have eU : tst U l a = s := by rw [es]; exact (tst_cong hTU).symm
    have eV : ten U l s = e := by rw [ee]; exact (ten_cong hTU).symm
    have rd := c_readToken hT ha h5
    rw [h6, ← es, ← ee] at rd
    obtain ⟨X1, eX1⟩ : ∃ Z, Z = P5 (P4 X s) e := ⟨_, rfl⟩
    have c1 : CRR X X1 := by rw [eX1]; exact CRR.p
    have hT1 := hT.crr c1
    have h41 : X1.1 465 4 = nI s := by rw [eX1, P5_o (by decide), P4_4]
    have h51 : X1.1 465 5 = nI e := by rw [eX1]; exact P5_5
    have h61 : X1.1 466 = T := by rw [c1.2.1 466 (by decide) (by decide)]; exact h6
    rw [← eX1] at rd
    have k140 : ¬ (140 : Int32) < nI k := fun z => absurd ((nlt (i := k) (n := 140) (by omega) (by omega)).mp z) (by omega)
    rw [f_X6_runOn_7, if_neg k140, rd, Option.bind_some, if_pos st.1, h41, hT1.2.2.1]
    by_cases hsl : s < l
    · have hg : s < e := by rw [ee]; exact ten_gt hsl
      have hch := c_commandHere hT1 he.1 he.2 h41 h51
      rw [h61] at hch
      rw [if_pos ((nlt (i := l) (n := s) (by omega) (by omega)).mpr hsl), hch, Option.bind_some]
      by_cases hc : cmI T s e < 8
      · obtain ⟨i, ei⟩ : ∃ i, i = cmI T s e := ⟨_, rfl⟩
        have iU : cmI U s e = i := by rw [ei]; exact (cmI_cong he.2 hTU).symm
        rw [← ei] at hc
        rw [← ei, if_pos hc, if_neg (nI_n1 i hc), c_numbersOf, Option.bind_some, numC_hit i hc]
        have hw := (wv_hit (T := U) hsl (show cmI U s e < 8 by rw [iU]; exact hc)).2
        rw [iU] at hw
        have hm := nb_5 i hc
        obtain ⟨X2, q1, q2, q3, q4⟩ := c_rn (L := L) (l := l) (a := e) (m := nb i) (T := T) ⟨st.2.1, st.2.2.1⟩ he.2 hm (nb i) 0 u_fuel X1 (by omega) (by unfold u_fuel; omega) hT1 (by rw [c1.1]; exact r1) h61 h51 (fun j hj => absurd hj (Nat.not_lt_zero j))
        have q1 : f_X6_readNumbers L X1 465 (nI (nb i)) = _ := q1
        rw [q1, Option.bind_some]
        have c2 := c1.tr q2
        have hpm := tsn_r (T := T) he.2 (nb i)
        by_cases hb1 : bd T l e (nb i) 0 = nb i
        · rw [if_pos hb1, if_neg (show ¬ (1 : Int32) = 0 by decide)]
          obtain ⟨h52, hg2⟩ := q3 hb1
          have hT2 := hT1.crr q2
          have h62 : X2.1 466 = T := by rw [c2.2.1 466 (by decide) (by decide)]; exact h6
          have re := c_readEnd (L := L) (l := l) (a := e) (m := nb i) (T := T) hT2 he.2 h62 h52
          obtain ⟨X3, eX3⟩ : ∃ Z, Z = P5 (P4 X2 (tsn T l e (nb i))) (pa T l e (nb i + 1)) := ⟨_, rfl⟩
          rw [← eX3] at re
          rw [re, Option.bind_some]
          have c23 : CRR X2 X3 := by rw [eX3]; exact CRR.p
          have c3 := c2.tr c23
          have h43 : X3.1 465 4 = nI (tsn T l e (nb i)) := by rw [eX3, P5_o (by decide), P4_4]
          have h53 : X3.1 465 5 = nI (pa T l e (nb i + 1)) := by rw [eX3]; exact P5_5
          have h73 : X3.1 467 = X2.1 467 := by rw [eX3, P5_r (by decide), P4_r (by decide)]
          have hcl3 : Cl (fun k => b ≤ k ∧ k < b + 21) X3 := hcl.mv (fun k _ => by rw [c3.1])
          cases ho : okE T l e (nb i) with
          | false =>
            rw [if_neg Bool.false_ne_true, if_pos rfl, c_run67 st.1 st.2.2.2 (by rw [c3.1]; exact r2) h43]
            refine ⟨_, _, rfl, c3.cfr.t2 CF2.n4, hcl3, Or.inr ⟨1, tsn T l e (nb i), -100009, nI k, v, by omega, rfl, Or.inl rfl, (hx.frz hb c3.lo).n4 hb, N4_v, fun n' Y hnn hY => ?_⟩⟩
            obtain ⟨n', rfl⟩ : ∃ z, n' = z + 1 := ⟨n' - 1, by omega⟩
            obtain ⟨Y2, y1, y2, y3, y4⟩ := m_tail (n := n') (q := nI k) hTU hY ha hsl eU eV he.2 hc hw
            refine ⟨Y2, y1, ?_⟩
            rw [y4, if_neg (fun z => absurd z.2 (by rw [ho]; decide)), hb1]
          | true =>
            rw [if_pos rfl, if_neg (show ¬ (1 : Int32) = 0 by decide)]
            obtain ⟨A, C, hS, hO, hCC, hMM⟩ := cmd_all (b := b) (g := nv T l e) hv (by omega) (by omega) ⟨st.1, st.2.1, st.2.2.1⟩ hc
            obtain ⟨X4, p1, p2, p3⟩ := hCC X3 (hx.frz hb c3.lo) (by rw [c3.1]; exact r1) (fun j hj => by rw [h73]; exact hg2 j hj) hcl3
            obtain ⟨hAC, hER, n', m', hv'⟩ := hS
            have hcf : CFR b X X4 := c3.cfr.tr (p3.cfr hb)
            have hr2 : X4.2 465 2 = some 468 := by rw [(hcf.1 465 (by omega)).1]; exact r2
            rw [p1, Option.bind_some, isErr, Option.bind_some]
            by_cases ce : A.1 ≤ -100001
            · have h3 := hER.le.mpr ce
              have hne : ¬ A.1 = -100009 := by
                rcases h3 with z | z | z
                · rw [z]; decide
                · rw [z]; decide
                · rw [z]; decide
              rw [if_pos h3, if_neg (show ¬ (1 : Int32) = 0 by decide), hr2, Option.bind_some, c_note st.2.2.2, Option.bind_some, if_pos st.2.2.2, if_neg hne]
              refine ⟨_, _, rfl, hcf.t2 CF2.n4, p3.1, Or.inr ⟨if A.1 = -100001 then 2 else 3, s, A.1, nI k, A.2, by omega, rfl, ?_, p2.n4 hb, N4_v, fun n1 Y hnn hY => ?_⟩⟩
              · by_cases z : A.1 = -100001
                · rw [if_pos z]; exact Or.inr (Or.inl rfl)
                · rw [if_neg z]; exact Or.inr (Or.inr rfl)
              · obtain ⟨n1, rfl⟩ : ∃ z, n1 = z + 1 := ⟨n1 - 1, by omega⟩
                obtain ⟨Y2, y1, y2, y3, y4⟩ := m_tail (n := n1) (q := nI k) hTU hY ha hsl eU eV he.2 hc hw
                obtain ⟨y5, y6⟩ := y3 hb1
                obtain ⟨Y3, z1, z2, z3⟩ := hMM Y2 (hY.1.scr y1) y2 y6
                refine ⟨Y3, y1.tr z2.r, ?_⟩
                have cg : ¬ (-100001 : Int32) < A.1 := fun z => by
                  have z := i_lt.mp z
                  have w := i_le.mp ce
                  omega
                rw [y4, if_pos ⟨hb1, ho⟩, z1, Option.bind_some, ← hAC, if_neg cg]
                by_cases z : A.1 = -100001
                · rw [if_pos z, if_pos z, bind_eta]
                · rw [if_neg z, if_neg z, bind_eta]
            · rw [if_neg (fun z => ce (hER.le.mp z)), if_pos rfl, n1]
              have hpa := pa_r (T := T) he.2 (nb i + 1)
              have hT4 : TC L X4 l := ⟨⟨hT.1.1, hT.1.2.1, hT.1.2.2.1, by rw [(hcf.1 465 (by omega)).1]; exact hT.1.2.2.2⟩, hl, by rw [hcf.2]; exact hT.2.2.1, by rw [(hcf.1 466 (by omega)).2 (by decide) (by decide)]; exact hT.2.2.2⟩
              have h64 : X4.1 466 = T := by rw [(hcf.1 466 (by omega)).2 (by decide) (by decide)]; exact h6
              have h54 : X4.1 465 5 = nI (pa T l e (nb i + 1)) := by rw [(p3.2 465 (by omega) 5).1]; exact h53
              obtain ⟨r, X', g1, g2, g3, g4⟩ := ih (pa T l e (nb i + 1)) (k + 1) n X4 A.2 C.2 n' m' (by omega) (by omega) hpa.2 (by omega) ⟨hT4, ⟨by rw [(hcf.1 465 (by omega)).1]; exact r1, hr2⟩, h64, h54, p2, p3.1⟩ (hv'.mono (by omega))
              refine ⟨r, X', g1, hcf.t2 g2, g3, ?_⟩
              have pmn : ∀ nq Y, d + 1 ≤ nq + 1 → PM L Y l a U w → ∃ Y4, SCR Y Y4 ∧ PM L Y4 l (pa T l e (nb i + 1)) U C.2 ∧ f_X10_run_38 L (nq + 1) 470 (nI k) Y = f_X10_run_38 L nq 470 (nI (k + 1)) Y4 := fun nq Y _ hY => by
                obtain ⟨Y2, y1, y2, y3, y4⟩ := m_tail (n := nq) (q := nI k) hTU hY ha hsl eU eV he.2 hc hw
                obtain ⟨y5, y6⟩ := y3 hb1
                obtain ⟨Y3, z1, z2, z3⟩ := hMM Y2 (hY.1.scr y1) y2 y6
                have s13 := y1.tr z2.r
                have hM3 := hY.1.scr s13
                have hT3 := hY.2.1.sc s13
                have h75 : Y3.1 475 = U := (s13.row (by decide) (by decide) (by decide)).trans hY.2.2.1
                have h10 : Y3.1 470 10 = nI (pa T l e (nb i + 1)) := (z2.2 470 10 (by decide) (by decide) (fun q => by omega)).trans y5
                have mr := m_reads hM3 hT3 hpa.2 h10
                rw [h75] at mr
                have cg : (-100001 : Int32) < A.1 := i_lt.mpr (by
                  have w : ¬ A.1.toInt ≤ (-100001 : Int32).toInt := fun z => ce (i_le.mpr z)
                  omega)
                refine ⟨_, s13.tr SC_RR, ⟨hM3.scr SC_RR, hT3.sc SC_RR, by rw [RR_r (by decide)]; exact h75, by rw [RR_r (by decide)]; exact z3, RR_9, RR_10, RR_11⟩, ?_⟩
                rw [y4, if_pos ⟨hb1, ho⟩, z1, Option.bind_some, ← hAC, if_pos cg, mr, Option.bind_some, n1]
              rcases g4 with ⟨kk, v', w', z1, z2, z3, z4, z5, z6, z7⟩ | ⟨kd, p', code, cnt, v', z1, z2, z3, z4, z5, z7⟩
              · refine Or.inl ⟨kk, v', w', z1, z2, z3, z4.trans ((hcf.1 468 (by omega)).2 (by decide) (by decide)), z5, fun j hj => (z6 j hj).trans (hO j hj), fun n1 Y hnn hY => ?_⟩
                obtain ⟨n1, rfl⟩ : ∃ z, n1 = z + 1 := ⟨n1 - 1, by omega⟩
                obtain ⟨Y4, u1, u2, u3⟩ := pmn n1 Y hnn hY
                obtain ⟨Y', u4, u5, u6⟩ := z7 n1 Y4 (by omega) u2
                exact ⟨Y', u1.tr u4, u5, u3.trans u6⟩
              · refine Or.inr ⟨kd, p', code, cnt, v', z1, z2, z3, z4, z5, fun n1 Y hnn hY => ?_⟩
                obtain ⟨n1, rfl⟩ : ∃ z, n1 = z + 1 := ⟨n1 - 1, by omega⟩
                obtain ⟨Y4, u1, u2, u3⟩ := pmn n1 Y hnn hY
                obtain ⟨Y', u4, u6⟩ := z7 n1 Y4 (by omega) u2
                exact ⟨Y', u1.tr u4, u3.trans u6⟩
        · have hbl : bd T l e (nb i) 0 ≤ nb i := by
            have := fs_le (p := fun q => !(okN T l e q)) (nb i) 0
            unfold bd
            omega
          have hpb := tsn_r (T := T) he.2 (bd T l e (nb i) 0)
          rw [if_neg hb1, if_pos rfl, c_run67 st.1 st.2.2.2 (by rw [c2.1]; exact r2) (q4 hb1)]
          refine ⟨_, _, rfl, c2.cfr.t2 CF2.n4, hcl.mv (fun k _ => by rw [N4_2, c2.1]), Or.inr ⟨1, tsn T l e (bd T l e (nb i) 0), -100009, nI k, v, by omega, rfl, Or.inl rfl, (hx.frz hb c2.lo).n4 hb, N4_v, fun n' Y hnn hY => ?_⟩⟩
          obtain ⟨n', rfl⟩ : ∃ z, n' = z + 1 := ⟨n' - 1, by omega⟩
          obtain ⟨Y2, y1, y2, y3, y4⟩ := m_tail (n := n') (q := nI k) hTU hY ha hsl eU eV he.2 hc hw
          refine ⟨Y2, y1, ?_⟩
          rw [y4, if_neg (fun z => hb1 z.1)]
      · rw [if_neg hc, if_pos rfl, c_run67 st.1 st.2.2.2 (by rw [c1.1]; exact r2) h41]
        refine ⟨_, _, rfl, c1.cfr.t2 CF2.n4, hcl.mv (fun k _ => by rw [N4_2, c1.1]), Or.inr ⟨1, s, -100009, nI k, v, by omega, rfl, Or.inl rfl, (hx.frz hb c1.lo).n4 hb, N4_v, fun n' Y hnn hY => ⟨Y, SCR.rf, ?_⟩⟩⟩
        obtain ⟨n', rfl⟩ : ∃ z, n' = z + 1 := ⟨n' - 1, by omega⟩
        have noU := wv_no (T := U) (l := l) (s := s) (by rw [eV, ← cmI_cong he.2 hTU]; exact hc)
        rw [eV] at noU
        rw [m_38s hY ha (by rw [eU]; exact hsl), eU, eV, m_66, num_no noU, if_pos (show (-1 : Int32) < 0 by decide), m_run85 hY.1 (p := s) (by rw [hY.2.2.2.2.1, eU])]
    · rw [if_neg (fun z => hsl ((nlt (i := l) (n := s) (by omega) (by omega)).mp z))]
      refine ⟨nI k, X1, rfl, c1.cfr.f2, hcl.mv (fun k _ => by rw [c1.1]), Or.inl ⟨k, v, w, by omega, rfl, hx.frz hb c1.lo, c1.2.1 468 (by decide) (by decide), ⟨p, q, hv.mono (by omega)⟩, fun _ _ => rfl, fun n' Y hnn hY => ⟨Y, SCR.rf, hY.2.2.2.1, ?_⟩⟩⟩
      obtain ⟨n', rfl⟩ : ∃ z, n' = z + 1 := ⟨n' - 1, by omega⟩
      have t0 : tso U l s = 0 := by
        unfold tso
        rw [if_neg hsl]
      rw [f_X10_run_38, if_pos hY.1.1.1, hY.2.2.2.2.2.2, eU, t0, if_pos (show nI 0 = 0 from rfl), hY.1.2.2.2.2.1, Option.bind_some]
end RL
