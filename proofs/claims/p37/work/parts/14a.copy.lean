/-! copies of counters -/
def OUT (b n : Nat) (X Y : hX) : Prop := Y.2 = X.2 ∧ ∀ k, (k < b ∨ b + n ≤ k) → Y.1 k = X.1 k
theorem OUT.rf {b n : Nat} {X : hX} : OUT b n X X := ⟨rfl, fun _ _ => rfl⟩
theorem OUT.tr {b n : Nat} {X Y Z : hX} (h1 : OUT b n X Y) (h2 : OUT b n Y Z) : OUT b n X Z := ⟨h2.1.trans h1.1, fun k hk => (h2.2 k hk).trans (h1.2 k hk)⟩
theorem OUT.w {b n : Nat} {X Y : hX} (h : OUT b n X Y) {a i : Nat} {x : Int32} (h1 : b ≤ a) (h2 : a < b + n) : OUT b n X (smi Y a i x) := ⟨h.1, fun k hk => by rw [smi_o (by omega)]; exact h.2 k hk⟩
theorem CX.ext {L : hL} {X : hX} {b : Nat} {π ρ : Nat → Nat} {v u : Nat → Int32} (h : CX L X b π ρ v) (e : ∀ k, k < 94 → v k = u k) : CX L X b π ρ u := ⟨h.1, h.2.1, fun k hk => (h.2.2 k hk).trans (e k hk)⟩
theorem cA_rng {X : hX} {b : Nat} {π ρ : Nat → Nat} (h : CR X b π ρ) {k : Nat} (hk : k < 94) : b ≤ cA b π ρ k ∧ cA b π ρ k < b + 21 := by
  obtain ⟨-, -, -, -, p1, p2, -⟩ := h
  have a1 : 16 ≤ k → k < 52 → π ((k - 16) / 6) < 6 := fun _ _ => p1 _ (by omega)
  have a2 : 52 ≤ k → ρ ((k - 52) / 7) < 6 := fun _ => p2 _ (by omega)
  unfold cA
  by_cases q1 : k < 4
  · rw [if_pos q1]; omega
  · by_cases q2 : k < 8
    · rw [if_neg q1, if_pos q2]; omega
    · by_cases q3 : k < 11
      · rw [if_neg q1, if_neg q2, if_pos q3]; omega
      · by_cases q4 : k < 16
        · rw [if_neg q1, if_neg q2, if_neg q3, if_pos q4]; omega
        · by_cases q5 : k < 52
          · rw [if_neg q1, if_neg q2, if_neg q3, if_neg q4, if_pos q5]; have := a1 (by omega) q5; omega
          · rw [if_neg q1, if_neg q2, if_neg q3, if_neg q4, if_neg q5]; have := a2 (by omega); omega
theorem CX.move {L : hL} {X Y : hX} {c : Nat} {π ρ : Nat → Nat} {v : Nat → Int32} (h : CX L X c π ρ v) (h2 : ∀ k, c ≤ k → k < c + 21 → Y.2 k = X.2 k ∧ Y.1 k = X.1 k) : CX L Y c π ρ v := by
  refine ⟨h.1, ?_, fun k hk => ?_⟩
  · obtain ⟨⟨r0, r1, r2, r3⟩, rk, rc, rp, p⟩ := h.2.1
    have e0 := (h2 c (by omega) (by omega)).1
    have e1 := (h2 (c + 1) (by omega) (by omega)).1
    have e3 := (h2 (c + 3) (by omega) (by omega)).1
    have e4 := (h2 (c + 4) (by omega) (by omega)).1
    refine ⟨⟨?_, ?_, ?_, ?_⟩, fun i hi => ?_, fun i hi => ?_, fun i hi => ?_, p⟩
    · rw [e0]; exact r0
    · rw [e0]; exact r1
    · rw [e0]; exact r2
    · rw [e0]; exact r3
    · rw [e1]; exact rk i hi
    · rw [e3]; exact rc i hi
    · rw [e4]; exact rp i hi
  · have := cA_rng h.2.1 hk
    rw [(h2 _ this.1 this.2).2]
    exact h.2.2 k hk
theorem CX.out {L : hL} {X Y : hX} {b c n : Nat} {π ρ : Nat → Nat} {v : Nat → Int32} (h : CX L X c π ρ v) (ho : OUT b n X Y) (hd : b + n ≤ c ∨ c + 21 ≤ b) : CX L Y c π ρ v := h.move (fun k h1 h2 => ⟨by rw [ho.1], ho.2 k (by omega)⟩)
theorem s_kcopy {L : hL} {X : hX} {a c : Nat} (ta : tk L a 4) (tc : tk L c 4) (h : c ≠ a) : f_X4_copyFrom L X a c = some (smi (smi X a 0 (X.1 c 0)) a 1 (X.1 c 1)) := by
  unfold f_X4_copyFrom
  rw [if_pos tc, if_pos ta]
  simp only [smi_o h]
theorem s_ccopy {L : hL} {X : hX} {a c : Nat} (ta : tk L a 1) (tc : tk L c 1) (h : c ≠ a) (hb : X.1 c 1 = 0 ∨ X.1 c 1 = 1) : f_X1_copyFrom L X a c = some (smi (smi (smi (smi (smi (smi X a 0 (X.1 c 0)) a 1 (X.1 c 1)) a 2 (X.1 c 2)) a 3 (X.1 c 3)) a 4 (X.1 c 4)) a 5 (X.1 c 5)) := by
  unfold f_X1_copyFrom
  rw [if_pos tc, if_pos ta]
  simp only [smi_o h]
  rw [if_pos hb]
theorem s_scopy {L : hL} {X : hX} {a c : Nat} (ta : tk L a 7) (tc : tk L c 7) (h : c ≠ a) : f_X7_copyFrom L X a c = some (smi (smi (smi X a 0 (X.1 c 0)) a 1 (X.1 c 1)) a 2 (X.1 c 2)) := by
  unfold f_X7_copyFrom
  rw [if_pos tc, if_pos ta]
  simp only [smi_o h]
section CP
variable {L : hL} {b c : Nat} {π ρ π2 ρ2 : Nat → Nat} {v : Nat → Int32}
theorem c_copy_59 (hd : b + 21 ≤ c ∨ c + 21 ≤ b) : ∀ (d i n : Nat) (u : Nat → Int32) (X : hX), i + d = 6 → d < n → CX L X b π ρ u → CX L X c π2 ρ2 v → (∀ k, k < 94 → k < 8 ∨ 16 ≤ k ∧ k < 52 + 7 * i → u k = v k) → ∃ X', f_X0_copyFrom_59 L n b c (nI i) X = some X' ∧ CX L X' b π ρ v ∧ OUT b 21 X X' := by
  intro d
  induction d with
  | zero =>
    intro i n u X hi hn hb hc hu
    obtain rfl : i = 6 := by omega
    obtain ⟨m, rfl⟩ : ∃ m, n = m + 1 := ⟨n - 1, by omega⟩
    have t1 := hb.1.1.2.2.2.1
    have t2 := hc.1.1.2.2.2.1
    have e0 := hc.sc (j := 0) (by omega)
    have e1 := hc.sc (j := 1) (by omega)
    have e2 := hc.sc (j := 2) (by omega)
    have hne : c ≠ b := by omega
    have hne2 : c ≠ b + 2 := by omega
    unfold f_X0_copyFrom_59
    rw [if_pos (show (6 : Int32) ≤ nI 6 by decide), if_pos hb.1.1.1, hb.2.1.1.2.1, Option.bind_some, if_pos hc.1.1.1, hc.2.1.1.2.1, Option.bind_some, s_scopy t1 t2 (by omega), Option.bind_some, if_pos t1, e0, e1, e2]
    simp only [smi_o hne, smi_o hne2, hc.o4, hc.o5, hc.o6, hc.o7, hc.o8]
    have z := ((((((((hb.wsc (j := 0) (by omega) (v 8)).wsc (j := 1) (by omega) (v 9)).wsc (j := 2) (by omega) (v 10)).w4 (v 14)).w5 (v 15)).w6 (v 11)).w7 (v 12)).w8 (v 13))
    refine ⟨_, rfl, z.ext (fun k hk => ?_), ?_⟩
    · simp only [upd]
      by_cases q : k < 8 ∨ 16 ≤ k ∧ k < 52 + 7 * 6
      · have := hu k hk q
        repeat rw [if_neg (by omega)]
        exact this
      · have : k = 8 ∨ k = 9 ∨ k = 10 ∨ k = 11 ∨ k = 12 ∨ k = 13 ∨ k = 14 ∨ k = 15 := by omega
        rcases this with rfl | rfl | rfl | rfl | rfl | rfl | rfl | rfl <;> simp
    · exact (((((((OUT.rf.w (by omega) (by omega)).w (by omega) (by omega)).w (by omega) (by omega)).w (by omega) (by omega)).w (by omega) (by omega)).w (by omega) (by omega)).w (by omega) (by omega)).w (by omega) (by omega)
  | succ d ih =>
    intro i n u X hi hn hb hc hu
    obtain ⟨m, rfl⟩ : ∃ m, n = m + 1 := ⟨n - 1, by omega⟩
    have hi6 : i < 6 := by omega
    have r1 := hb.2.1.2.2.2.2.2.1 i hi6
    have r2 := hc.2.1.2.2.2.2.2.1 i hi6
    have e := fun j hj => hc.pr (c := i) (j := j) hi6 hj
    unfold f_X0_copyFrom_59
    simp only [if_neg (show ¬ (6 : Int32) ≤ nI i from fun z => absurd ((nle (i := i) (n := 6) (by omega) (by omega)).mp z) (by omega)), if_pos hb.1.1.1, hb.2.1.1.2.2.2, Option.bind_some, if_pos hb.1.1.2.2.2.2.2.2.1, hb.1.1.2.2.2.2.2.2.2, if_pos (hin_nI (n := 6) hi6 (by omega)), nI_clamp (show i < 2 ^ 31 by omega), hb.2.1.2.2.2.1 i hi6, Option.bind_some, if_pos hc.1.1.1, hc.2.1.1.2.2.2, Option.bind_some, if_pos hc.1.1.2.2.2.2.2.2.1, hc.1.1.2.2.2.2.2.2.2, if_pos (hin_nI (n := 6) hi6 (by omega)), hc.2.1.2.2.2.1 i hi6, Option.bind_some, s_pcopy (X := X) (pt hb hi6) (pt hc hi6) (show c + 15 + ρ2 i ≠ b + 15 + ρ i by omega), Option.bind_some, if_pos (pt hb hi6), n1, e 0 (by omega), e 1 (by omega), e 2 (by omega), e 3 (by omega), e 4 (by omega), e 5 (by omega), e 6 (by omega)]
    have z := ((((((hb.wpr (c := i) (j := 0) hi6 (by omega) (v (52 + 7 * i + 0))).wpr (c := i) (j := 1) hi6 (by omega) (v (52 + 7 * i + 1))).wpr (c := i) (j := 2) hi6 (by omega) (v (52 + 7 * i + 2))).wpr (c := i) (j := 3) hi6 (by omega) (v (52 + 7 * i + 3))).wpr (c := i) (j := 4) hi6 (by omega) (v (52 + 7 * i + 4))).wpr (c := i) (j := 5) hi6 (by omega) (v (52 + 7 * i + 5))).wpr (c := i) (j := 6) hi6 (by omega) (v (52 + 7 * i + 6))
    have o : OUT b 21 X _ := ((((((OUT.rf.w (a := b + 15 + ρ i) (i := 0) (x := v (52 + 7 * i + 0)) (by omega) (by omega)).w (a := b + 15 + ρ i) (i := 1) (x := v (52 + 7 * i + 1)) (by omega) (by omega)).w (a := b + 15 + ρ i) (i := 2) (x := v (52 + 7 * i + 2)) (by omega) (by omega)).w (a := b + 15 + ρ i) (i := 3) (x := v (52 + 7 * i + 3)) (by omega) (by omega)).w (a := b + 15 + ρ i) (i := 4) (x := v (52 + 7 * i + 4)) (by omega) (by omega)).w (a := b + 15 + ρ i) (i := 5) (x := v (52 + 7 * i + 5)) (by omega) (by omega)).w (a := b + 15 + ρ i) (i := 6) (x := v (52 + 7 * i + 6)) (by omega) (by omega)
    obtain ⟨X', h1, h2, h3⟩ := ih (i + 1) m _ _ (by omega) (by omega) z (hc.out o hd) (fun k hk q => by
      simp only [upd]
      by_cases q1 : 52 + 7 * i ≤ k
      · have : k = 52 + 7 * i + 0 ∨ k = 52 + 7 * i + 1 ∨ k = 52 + 7 * i + 2 ∨ k = 52 + 7 * i + 3 ∨ k = 52 + 7 * i + 4 ∨ k = 52 + 7 * i + 5 ∨ k = 52 + 7 * i + 6 := by omega
        rcases this with rfl | rfl | rfl | rfl | rfl | rfl | rfl <;> simp
      · repeat rw [if_neg (by omega)]
        exact hu k hk (by omega))
    exact ⟨X', h1, h2, o.tr h3⟩
theorem c_copy_30 (hd : b + 21 ≤ c ∨ c + 21 ≤ b) (hk01 : ∀ i, i < 6 → v (16 + 6 * i + 1) = 0 ∨ v (16 + 6 * i + 1) = 1) : ∀ (d i n : Nat) (u : Nat → Int32) (X : hX), i + d = 6 → d < n → CX L X b π ρ u → CX L X c π2 ρ2 v → (∀ k, k < 94 → k < 8 ∨ 16 ≤ k ∧ k < 16 + 6 * i → u k = v k) → ∃ X', f_X0_copyFrom_30 L n b c (nI i) X = some X' ∧ CX L X' b π ρ v ∧ OUT b 21 X X' := by
  intro d
  induction d with
  | zero =>
    intro i n u X hi hn hb hc hu
    obtain rfl : i = 6 := by omega
    obtain ⟨m, rfl⟩ : ∃ m, n = m + 1 := ⟨n - 1, by omega⟩
    unfold f_X0_copyFrom_30
    rw [if_pos (show (6 : Int32) ≤ nI 6 by decide)]
    exact c_copy_59 hd 6 0 u_fuel u X rfl (by unfold u_fuel; omega) hb hc (fun k hk q => hu k hk (by omega))
  | succ d ih =>
    intro i n u X hi hn hb hc hu
    obtain ⟨m, rfl⟩ : ∃ m, n = m + 1 := ⟨n - 1, by omega⟩
    have hi6 : i < 6 := by omega
    have r1 := hb.2.1.2.2.2.2.1 i hi6
    have r2 := hc.2.1.2.2.2.2.1 i hi6
    have e := fun j hj => hc.cu (c := i) (j := j) hi6 hj
    unfold f_X0_copyFrom_30
    simp only [if_neg (show ¬ (6 : Int32) ≤ nI i from fun z => absurd ((nle (i := i) (n := 6) (by omega) (by omega)).mp z) (by omega)), if_pos hb.1.1.1, hb.2.1.1.2.2.1, Option.bind_some, if_pos hb.1.1.2.2.2.2.1, hb.1.1.2.2.2.2.2.1, if_pos (hin_nI (n := 6) hi6 (by omega)), nI_clamp (show i < 2 ^ 31 by omega), hb.2.1.2.2.1 i hi6, Option.bind_some, if_pos hc.1.1.1, hc.2.1.1.2.2.1, Option.bind_some, if_pos hc.1.1.2.2.2.2.1, hc.1.1.2.2.2.2.2.1, if_pos (hin_nI (n := 6) hi6 (by omega)), hc.2.1.2.2.1 i hi6, Option.bind_some, s_ccopy (X := X) (ct hb hi6) (ct hc hi6) (show c + 9 + π2 i ≠ b + 9 + π i by omega) (show X.1 (c + 9 + π2 i) 1 = 0 ∨ X.1 (c + 9 + π2 i) 1 = 1 by rw [e 1 (by omega)]; exact hk01 i hi6), Option.bind_some, if_pos (ct hb hi6), n1, e 0 (by omega), e 1 (by omega), e 2 (by omega), e 3 (by omega), e 4 (by omega), e 5 (by omega)]
    have z := (((((hb.wcu (c := i) (j := 0) hi6 (by omega) (v (16 + 6 * i + 0))).wcu (c := i) (j := 1) hi6 (by omega) (v (16 + 6 * i + 1))).wcu (c := i) (j := 2) hi6 (by omega) (v (16 + 6 * i + 2))).wcu (c := i) (j := 3) hi6 (by omega) (v (16 + 6 * i + 3))).wcu (c := i) (j := 4) hi6 (by omega) (v (16 + 6 * i + 4))).wcu (c := i) (j := 5) hi6 (by omega) (v (16 + 6 * i + 5))
    have o : OUT b 21 X _ := (((((OUT.rf.w (a := b + 9 + π i) (i := 0) (x := v (16 + 6 * i + 0)) (by omega) (by omega)).w (a := b + 9 + π i) (i := 1) (x := v (16 + 6 * i + 1)) (by omega) (by omega)).w (a := b + 9 + π i) (i := 2) (x := v (16 + 6 * i + 2)) (by omega) (by omega)).w (a := b + 9 + π i) (i := 3) (x := v (16 + 6 * i + 3)) (by omega) (by omega)).w (a := b + 9 + π i) (i := 4) (x := v (16 + 6 * i + 4)) (by omega) (by omega)).w (a := b + 9 + π i) (i := 5) (x := v (16 + 6 * i + 5)) (by omega) (by omega)
    obtain ⟨X', h1, h2, h3⟩ := ih (i + 1) m _ _ (by omega) (by omega) z (hc.out o hd) (fun k hk q => by
      simp only [upd]
      by_cases q1 : 16 + 6 * i ≤ k
      · have : k = 16 + 6 * i + 0 ∨ k = 16 + 6 * i + 1 ∨ k = 16 + 6 * i + 2 ∨ k = 16 + 6 * i + 3 ∨ k = 16 + 6 * i + 4 ∨ k = 16 + 6 * i + 5 := by omega
        rcases this with rfl | rfl | rfl | rfl | rfl | rfl <;> simp
      · repeat rw [if_neg (by omega)]
        exact hu k hk (by omega))
    exact ⟨X', h1, h2, o.tr h3⟩
theorem c_copy_2 (hd : b + 21 ≤ c ∨ c + 21 ≤ b) (hk01 : ∀ i, i < 6 → v (16 + 6 * i + 1) = 0 ∨ v (16 + 6 * i + 1) = 1) : ∀ (d i n : Nat) (u : Nat → Int32) (X : hX), i + d = 4 → d < n → CX L X b π ρ u → CX L X c π2 ρ2 v → (∀ k, k < i → u k = v k ∧ u (4 + k) = v (4 + k)) → ∃ X', f_X0_copyFrom_2 L n b c (nI i) X = some X' ∧ CX L X' b π ρ v ∧ OUT b 21 X X' := by
  intro d
  induction d with
  | zero =>
    intro i n u X hi hn hb hc hu
    obtain rfl : i = 4 := by omega
    obtain ⟨m, rfl⟩ : ∃ m, n = m + 1 := ⟨n - 1, by omega⟩
    unfold f_X0_copyFrom_2
    rw [if_pos (show (4 : Int32) ≤ nI 4 by decide)]
    refine c_copy_30 hd hk01 6 0 u_fuel u X rfl (by unfold u_fuel; omega) hb hc (fun k hk q => ?_)
    by_cases q1 : k < 4
    · exact (hu k q1).1
    · have := (hu (k - 4) (by omega)).2
      rwa [show 4 + (k - 4) = k by omega] at this
  | succ d ih =>
    intro i n u X hi hn hb hc hu
    obtain ⟨m, rfl⟩ : ∃ m, n = m + 1 := ⟨n - 1, by omega⟩
    have hi4 : i < 4 := by omega
    unfold f_X0_copyFrom_2
    simp only [if_neg (show ¬ (4 : Int32) ≤ nI i from fun z => absurd ((nle (i := i) (n := 4) (by omega) (by omega)).mp z) (by omega)), if_pos hb.1.1.1, hb.2.1.1.1, Option.bind_some, if_pos hb.1.1.2.1, hb.1.1.2.2.1, if_pos (hin_nI (n := 4) hi4 (by omega)), nI_clamp (show i < 2 ^ 31 by omega), hb.2.1.2.1 i hi4, Option.bind_some, if_pos hc.1.1.1, hc.2.1.1.1, Option.bind_some, if_pos hc.1.1.2.1, hc.1.1.2.2.1, if_pos (hin_nI (n := 4) hi4 (by omega)), hc.2.1.2.1 i hi4, Option.bind_some, s_kcopy (X := X) (kt hb hi4) (kt hc hi4) (show c + 5 + i ≠ b + 5 + i by omega), Option.bind_some, if_pos (kt hb hi4), n1, hc.kw hi4, hc.ks hi4]
    have z := (hb.wkw hi4 (v i)).wks hi4 (v (4 + i))
    have o : OUT b 21 X _ := (OUT.rf.w (a := b + 5 + i) (i := 0) (x := v i) (by omega) (by omega)).w (a := b + 5 + i) (i := 1) (x := v (4 + i)) (by omega) (by omega)
    obtain ⟨X', h1, h2, h3⟩ := ih (i + 1) m _ _ (by omega) (by omega) z (hc.out o hd) (fun k hk => by
      simp only [upd]
      by_cases q1 : k = i
      · subst q1
        rw [if_neg (by omega), if_pos rfl, if_pos rfl]
        exact ⟨rfl, rfl⟩
      · rw [if_neg (by omega), if_neg q1, if_neg (by omega), if_neg (by omega)]
        exact hu k (by omega))
    exact ⟨X', h1, h2, o.tr h3⟩
theorem c_copy {X : hX} {u : Nat → Int32} (hb : CX L X b π ρ u) (hc : CX L X c π2 ρ2 v) (hd : b + 21 ≤ c ∨ c + 21 ≤ b) (hk01 : ∀ i, i < 6 → v (16 + 6 * i + 1) = 0 ∨ v (16 + 6 * i + 1) = 1) : ∃ X', f_X0_copyFrom L X b c = some X' ∧ CX L X' b π ρ v ∧ OUT b 21 X X' := by
  unfold f_X0_copyFrom
  exact c_copy_2 hd hk01 4 0 u_fuel u X rfl (by unfold u_fuel; omega) hb hc (fun k hk => absurd hk (by omega))
end CP
