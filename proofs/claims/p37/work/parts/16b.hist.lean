/-! the component's history: seven states that change their roles (0..4 earlier, 5 now, 6 spare) -/
def sb (t : Nat) : Nat := 3 + 66 * t
def FX (L : hL) (X : hX) : Prop := (tk L 0 9 ∧ tk L 1 3 ∧ tk L 2 18 ∧ L.2.2 2 = 5 ∧ tk L 465 6 ∧ tk L 466 11 ∧ L.2.2 466 = 140 ∧ tk L 467 12 ∧ L.2.2 467 = 5 ∧ tk L 468 2 ∧ tk L 469 5) ∧ (X.2 0 0 = some 1 ∧ X.2 0 1 = some 465 ∧ X.2 0 2 = some 469) ∧ X.2 1 0 = some 2 ∧ X.2 465 0 = some 466 ∧ X.2 465 1 = some 467 ∧ X.2 465 2 = some 468
def CLc (X : hX) : Prop := ∀ t, t < 7 → Cl (fun k => sb t + 1 ≤ k ∧ k < sb t + 1 + 21) X
def HR (X : hX) (E : Nat → Nat) (n : Nat) : Prop := (X.2 1 1 = some (sb (E 5)) ∧ X.2 1 2 = some (sb (E 6)) ∧ X.1 1 3 = nI n) ∧ ∀ i, i < 5 → X.2 2 i = some (sb (E i))
def CI (L : hL) (X : hX) (E : Nat → Nat) (V : Nat → Nat → Int32) (n : Nat) : Prop := (FX L X ∧ CLc X ∧ n ≤ 5 ∧ HR X E n) ∧ ((∀ r, r < 7 → E r < 7) ∧ ∀ r q, r < 7 → q < 7 → E r = E q → r = q) ∧ ∀ r, r < 7 → SV L X (sb (E r)) (V r)
def Vu (V : Nat → Nat → Int32) (r : Nat) (U : Nat → Int32) (q : Nat) : Nat → Int32 := if q = r then U else V q
/-- the cells from a on, n of them, are what may differ -/
def OU (a n : Nat) (X Y : hX) : Prop := ∀ k, (k < a ∨ a + n ≤ k) → Y.1 k = X.1 k ∧ Y.2 k = X.2 k
theorem OUT.ou {a n : Nat} {X Y : hX} (h : OUT a n X Y) : OU a n X Y := fun k hk => ⟨h.2 k hk, by rw [h.1]⟩
theorem OU.mono {a n b m : Nat} {X Y : hX} (h : OU b m X Y) (h1 : a ≤ b) (h2 : b + m ≤ a + n) : OU a n X Y := fun k hk => h k (by omega)
theorem OU.rf {a n : Nat} {X : hX} : OU a n X X := fun _ _ => ⟨rfl, rfl⟩
theorem OU.tr {a n : Nat} {X Y Z : hX} (h1 : OU a n X Y) (h2 : OU a n Y Z) : OU a n X Z := fun k hk => ⟨(h2 k hk).1.trans (h1 k hk).1, (h2 k hk).2.trans (h1 k hk).2⟩
theorem FR.ou {a n : Nat} {X Y : hX} (h : FR (fun k => a ≤ k ∧ k < a + n) X Y) : OU a n X Y := fun k hk => ⟨funext (fun j => (h.2 k (fun q => by omega) j).1), funext (fun j => (h.2 k (fun q => by omega) j).2)⟩
theorem CXe.move {L : hL} {X Y : hX} {c : Nat} {v : Nat → Int32} (h : CXe L X c v) (h2 : ∀ k, c ≤ k → k < c + 21 → Y.1 k = X.1 k ∧ Y.2 k = X.2 k) : CXe L Y c v := by
  obtain ⟨π, ρ, h⟩ := h
  exact ⟨π, ρ, h.move (fun k h1 h3 => ⟨(h2 k h1 h3).2, (h2 k h1 h3).1⟩)⟩
theorem SV.move {L : hL} {X Y : hX} {s : Nat} {V : Nat → Int32} (h : SV L X s V) (h2 : ∀ k, s ≤ k → k < s + 66 → Y.1 k = X.1 k ∧ Y.2 k = X.2 k) : SV L Y s V := by
  have e0 := (h2 s (by omega) (by omega)).2
  have e22 := (h2 (s + 22) (by omega) (by omega)).2
  refine ⟨h.1, ?_, h.2.2.1.move (fun k a b => h2 k (by omega) (by omega)), fun i hi => ⟨(h.2.2.2 i hi).1.move (fun k a b => h2 k (by omega) (by omega)), ?_⟩⟩
  · unfold SR
    rw [e0, e22]
    exact h.2.1
  · rw [(h2 (s + 23) (by omega) (by omega)).1]
    exact (h.2.2.2 i hi).2
theorem SV.cnt2 {L : hL} {X Y : hX} {s : Nat} {V w : Nat → Int32} (h : SV L X s V) (ho : OU (s + 1) 21 X Y) (hw : CXe L Y (s + 1) w) : SV L Y s (ovr V 0 w) := by
  have e0 := (ho s (by omega)).2
  have e22 := (ho (s + 22) (by omega)).2
  refine ⟨h.1, ?_, hw.ext (fun k hk => ?_), fun i hi => ⟨((h.2.2.2 i hi).1.move (fun k a b => ho k (by omega))).ext (fun k hk => ?_), ?_⟩⟩
  · unfold SR
    rw [e0, e22]
    exact h.2.1
  · unfold ovr
    rw [if_pos (by omega), Nat.sub_zero]
  · unfold ovr
    rw [if_neg (by omega)]
  · rw [(ho (s + 23) (by omega)).1, (h.2.2.2 i hi).2]
    unfold ovr
    rw [if_neg (by omega)]
section HI
variable {L : hL} {X : hX} {E : Nat → Nat} {V : Nat → Nat → Int32} {n : Nat}
theorem FX.move {Y : hX} (h : FX L X) (h2 : ∀ k, k = 0 ∨ k = 465 → Y.2 k = X.2 k) (h1 : Y.2 1 0 = X.2 1 0) : FX L Y := by
  unfold FX at h ⊢
  rw [h2 0 (Or.inl rfl), h2 465 (Or.inr rfl), h1]
  exact h
theorem Cl.mv {P : Nat → Prop} {X Y : hX} (h : Cl P X) (e : ∀ k, P k → Y.2 k = X.2 k) : Cl P Y := fun k j b hk hb => h k j b hk (by rw [← e k hk]; exact hb)
theorem CI.sbd (h : CI L X E V n) {r q : Nat} (hr : r < 7) (hq : q < 7) (hne : r ≠ q) : sb (E r) + 66 ≤ sb (E q) ∨ sb (E q) + 66 ≤ sb (E r) := by
  have : E r ≠ E q := fun e => hne (h.2.1.2 r q hr hq e)
  unfold sb
  omega
theorem CI.rng (h : CI L X E V n) {r : Nat} (hr : r < 7) : 3 ≤ sb (E r) ∧ sb (E r) + 66 ≤ 465 := by
  have := h.2.1.1 r hr
  unfold sb
  omega
/-- one state has changed -/
theorem CI.one (h : CI L X E V n) {r : Nat} (hr : r < 7) {Y : hX} {U : Nat → Int32} (ho : OU (sb (E r)) 66 X Y) (hs : SV L Y (sb (E r)) U) (hc : Cl (fun k => sb (E r) + 1 ≤ k ∧ k < sb (E r) + 1 + 21) Y) : CI L Y E (Vu V r U) n := by
  have hg := h.rng hr
  have o : ∀ k, (k < sb (E r) ∨ sb (E r) + 66 ≤ k) → Y.1 k = X.1 k ∧ Y.2 k = X.2 k := ho
  obtain ⟨⟨f1, f2, f3, ⟨f4, f5, f6⟩, f7⟩, g, s⟩ := id h
  refine ⟨⟨f1.move (fun k hk => (o k (by omega)).2) (by rw [(o 1 (by omega)).2]), fun t ht => ?_, f3, ⟨by rw [(o 1 (by omega)).2]; exact f4, by rw [(o 1 (by omega)).2]; exact f5, by rw [(o 1 (by omega)).1]; exact f6⟩, fun i hi => by rw [(o 2 (by omega)).2]; exact f7 i hi⟩, g, fun q hq => ?_⟩
  · by_cases c : t = E r
    · subst c; exact hc
    · exact (f2 t ht).mv (fun k hk => (o k (by unfold sb at hk ⊢; omega)).2)
  · unfold Vu
    by_cases c : q = r
    · subst c; rw [if_pos rfl]; exact hs
    · rw [if_neg c]
      have := h.sbd hr hq (fun e => c e.symm)
      exact (s q hq).move (fun k a b => o k (by omega))
theorem CI.prep (h : CI L X E V n) (hW : WS (V 5)) : ∃ X', f_X3_prepare L X 1 = some X' ∧ CI L X' E (Vu V 6 (cpy (V 6) (V 5))) n ∧ OU (sb (E 6)) 66 X X' := by
  obtain ⟨⟨f1, f2, f3, ⟨f4, f5, f6⟩, f7⟩, g, s⟩ := id h
  obtain ⟨X', q1, q2, q3⟩ := c_scopy (h.sbd (r := 6) (q := 5) (by omega) (by omega) (by omega)) hW (s 6 (by omega)) (s 5 (by omega))
  refine ⟨X', ?_, h.one (r := 6) (by omega) q3.ou q2 ((f2 (E 6) (g.1 6 (by omega))).mv (fun k _ => by rw [q3.1])), q3.ou⟩
  unfold f_X3_prepare
  rw [if_pos f1.1.2.1, f5, Option.bind_some, f4, Option.bind_some, q1, Option.bind_some, if_pos (s 6 (by omega)).1.1]
theorem CI.counter (h : CI L X E V n) : f_X9_counter L X 0 = some (some (sb (E 5) + 1)) := by
  obtain ⟨⟨f1, f2, f3, ⟨f4, f5, f6⟩, f7⟩, g, s⟩ := id h
  obtain ⟨s0, ⟨s1, -⟩, -⟩ := s 5 (by omega)
  unfold f_X9_counter
  rw [if_pos f1.1.1, f1.2.1.1, Option.bind_some, if_pos f1.1.2.1, f4, Option.bind_some, if_pos s0.1, s1, Option.bind_some]
/-- a command on the counter that is now -/
theorem CI.cmd (h : CI L X E V n) {Y : hX} {w : Nat → Int32} (hf : FR (fun k => sb (E 5) + 1 ≤ k ∧ k < sb (E 5) + 1 + 21) X Y) (hw : CXe L Y (sb (E 5) + 1) w) : CI L Y E (Vu V 5 (ovr (V 5) 0 w)) n ∧ OU (sb (E 5) + 1) 21 X Y :=
  ⟨h.one (r := 5) (by omega) (hf.ou.mono (by omega) (by omega)) ((h.2.2 5 (by omega)).cnt2 hf.ou hw) hf.1, hf.ou⟩
theorem CI.cl (h : CI L X E V n) : Cl (fun k => sb (E 5) + 1 ≤ k ∧ k < sb (E 5) + 1 + 21) X := h.1.2.1 (E 5) (h.2.1.1 5 (by omega))
theorem CI.perm (h : CI L X E V n) {σ : Nat → Nat} {n' : Nat} (h1 : ∀ r, r < 7 → σ r < 7) (h2 : ∀ r q, r < 7 → q < 7 → σ r = σ q → r = q) {Y : hX} (ho : ∀ k, k ≠ 1 → k ≠ 2 → Y.1 k = X.1 k ∧ Y.2 k = X.2 k) (h0 : Y.2 1 0 = X.2 1 0) (hn : n' ≤ 5) (hr : HR Y (fun r => E (σ r)) n') : CI L Y (fun r => E (σ r)) (fun r => V (σ r)) n' := by
  obtain ⟨⟨f1, f2, f3, f4⟩, g, s⟩ := id h
  refine ⟨⟨f1.move (fun k hk => (ho k (by omega) (by omega)).2) h0, fun t ht => (f2 t ht).mv (fun k hk => (ho k (by unfold sb at hk; omega) (by unfold sb at hk; omega)).2), hn, hr⟩, ⟨fun r hr => g.1 _ (h1 r hr), fun r q hr hq e => h2 r q hr hq (g.2 _ _ (h1 r hr) (h1 q hq) e)⟩, fun r hr => ?_⟩
  have := h.rng (h1 r hr)
  exact (s _ (h1 r hr)).move (fun k a b => ho k (by omega) (by omega))
def sw (a b r : Nat) : Nat := if r = a then b else if r = b then a else r
theorem sw_lt {a b r : Nat} (ha : a < 7) (hb : b < 7) (hr : r < 7) : sw a b r < 7 := by
  unfold sw
  by_cases c : r = a
  · rw [if_pos c]; exact hb
  · rw [if_neg c]
    by_cases d : r = b
    · rw [if_pos d]; exact ha
    · rw [if_neg d]; exact hr
theorem sw_sw {a b r : Nat} : sw a b (sw a b r) = r := by
  unfold sw
  by_cases c1 : r = a
  · subst c1
    by_cases c2 : b = r
    · simp [c2]
    · simp [c2]
  · by_cases c3 : r = b
    · subst c3
      simp [c1]
    · simp [c1, c3]
theorem sw_inj {a b r q : Nat} (h : sw a b r = sw a b q) : r = q := by
  have := congrArg (sw a b) h
  rwa [sw_sw, sw_sw] at this
def rot (r : Nat) : Nat := if r < 4 then r + 1 else if r = 4 then 0 else r
theorem rot_inj {r q : Nat} (h : rot r = rot q) : r = q := by
  unfold rot at h
  by_cases c1 : r < 4 <;> by_cases c2 : r = 4 <;> by_cases c3 : q < 4 <;> by_cases c4 : q = 4 <;> simp [c1, c2, c3, c4] at h <;> omega
theorem rot_lt {r : Nat} (h : r < 7) : rot r < 7 := by
  unfold rot
  by_cases c : r < 4
  · rw [if_pos c]; omega
  · rw [if_neg c]
    by_cases d : r = 4
    · rw [if_pos d]; omega
    · rw [if_neg d]; exact h
theorem smr_r {X : hX} {a j : Nat} {o : Option Nat} {k i : Nat} : (smr X a j o).2 k i = if k = a ∧ i = j then o else X.2 k i := rfl
theorem smr_ro {X : hX} {a j : Nat} {o : Option Nat} {k : Nat} (h : k ≠ a) : (smr X a j o).2 k = X.2 k := by
  funext i
  exact if_neg (fun q => h q.1)
theorem in04 {n : Nat} (h : n < 5) : 0 ≤ nI n ∧ nI n ≤ 4 := ⟨nI_pos' (by omega), by rw [i_le, nI_toInt (by omega), show (4 : Int32).toInt = 4 by decide]; omega⟩
theorem CI.rec12 (h : CI L X E V n) (hn : n < 5) : ∃ X', f_X3_recordSpare_12 L 1 X = some X' ∧ CI L X' (fun r => E (sw n 6 r)) (fun r => V (sw n 6 r)) (n + 1) ∧ (∀ k, k ≠ 1 → k ≠ 2 → X'.1 k = X.1 k ∧ X'.2 k = X.2 k) := by
  obtain ⟨⟨f1, f2, f3, ⟨f4, f5, f6⟩, f7⟩, g, s⟩ := id h
  unfold f_X3_recordSpare_12
  rw [if_pos f1.1.2.1, f6, s_within, if_pos (in04 hn), Option.bind_some, if_neg (show ¬ (1 : Int32) = 0 by decide), f1.2.2.1, Option.bind_some, if_pos f1.1.2.2.1]
  simp only [f1.1.2.2.2.1, if_pos (hin_nI (n := 5) hn (by omega)), nI_clamp (show n < 2 ^ 31 by omega), f7 n hn, f5, Option.bind_some, if_pos (s 6 (by omega)).1.1]
  have oo : ∀ k, k ≠ 1 → k ≠ 2 → (smi (smr (smr X 2 n (some (sb (E 6)))) 1 2 (some (sb (E n)))) 1 3 ((smr (smr X 2 n (some (sb (E 6)))) 1 2 (some (sb (E n)))).1 1 3 + 1)).1 k = X.1 k ∧ (smi (smr (smr X 2 n (some (sb (E 6)))) 1 2 (some (sb (E n)))) 1 3 ((smr (smr X 2 n (some (sb (E 6)))) 1 2 (some (sb (E n)))).1 1 3 + 1)).2 k = X.2 k := fun k h1 h2 => ⟨by rw [smi_o h1]; rfl, (smr_ro h1).trans (smr_ro h2)⟩
  refine ⟨_, rfl, h.perm (fun r hr => sw_lt (by omega) (by omega) hr) (fun r q _ _ e => sw_inj e) oo ?_ (by omega) ⟨⟨?_, ?_, ?_⟩, fun i hi => ?_⟩, oo⟩
  · rw [smi_2, smr_r, if_neg (by omega), smr_r, if_neg (by omega)]
  · rw [smi_2, smr_r, if_neg (by omega), smr_r, if_neg (by omega), f4]
    show _ = some (sb (E (sw n 6 5)))
    unfold sw
    rw [if_neg (by omega), if_neg (by omega)]
  · rw [smi_2, smr_r, if_pos ⟨rfl, rfl⟩]
    show _ = some (sb (E (sw n 6 6)))
    unfold sw
    rw [if_neg (by omega), if_pos rfl]
  · rw [smi_d, pk_us]
    show X.1 1 3 + 1 = nI (n + 1)
    rw [f6, n1]
  · rw [smi_2, smr_r, if_neg (by omega), smr_r]
    show _ = some (sb (E (sw n 6 i)))
    unfold sw
    by_cases c : i = n
    · rw [if_pos ⟨rfl, c⟩, if_pos c]
    · rw [if_neg (fun q => c q.2), if_neg c, if_neg (by omega), f7 i hi]
theorem drop9 {L : hL} {q : Nat} (t1 : tk L 1 3) (t2 : tk L 2 18) (l2 : L.2.2 2 = 5) (tq : tk L q 8) : ∀ (d i m : Nat) (X : hX), i + d = 4 → d < m → X.2 1 0 = some 2 → (∀ k, k < 5 → ∃ z, X.2 2 k = some z ∧ tk L z 8) → f_X3_dropOldest_9 L m 1 q (nI i) X = some (smi (X.1, fun a k => if a = 2 then (if k < i then X.2 2 k else if k < 4 then X.2 2 (k + 1) else if k = 4 then some q else X.2 2 k) else X.2 a k) 1 3 4) := by
  intro d
  induction d with
  | zero =>
    intro i m X hi hn r0 hk
    obtain rfl : i = 4 := by omega
    obtain ⟨m, rfl⟩ : ∃ z, m = z + 1 := ⟨m - 1, by omega⟩
    unfold f_X3_dropOldest_9
    rw [if_pos (show (4 : Int32) ≤ nI 4 by decide), if_pos t1, r0, Option.bind_some, if_pos t2, l2, if_pos (by decide), if_pos tq]
    refine congrArg (fun Z => some (smi (X.1, Z) 1 3 4)) ?_
    funext a k
    show (if a = 2 ∧ k = 4 then some q else X.2 a k) = _
    by_cases c : a = 2
    · subst c
      by_cases c2 : k = 4
      · subst c2; simp
      · by_cases c3 : k < 4
        · simp [c2, c3]
        · simp [c2, c3]
    · simp [c]
  | succ d ih =>
    intro i m X hi hn r0 hk
    obtain ⟨m, rfl⟩ : ∃ z, m = z + 1 := ⟨m - 1, by omega⟩
    obtain ⟨z, hz, tz⟩ := hk (i + 1) (by omega)
    unfold f_X3_dropOldest_9
    simp only [if_neg (show ¬ (4 : Int32) ≤ nI i from nge (n := 4) (by omega) (by omega) (by omega)), if_pos t1, r0, Option.bind_some, if_pos t2, l2, n1, if_pos (hin_nI (n := 5) (show i + 1 < 5 by omega) (by omega)), if_pos (hin_nI (n := 5) (show i < 5 by omega) (by omega)), nI_clamp (show i + 1 < 2 ^ 31 by omega), nI_clamp (show i < 2 ^ 31 by omega), hz, if_pos tz]
    rw [ih (i + 1) m (smr X 2 i (some z)) (by omega) (by omega) ((smr_r).trans (by rw [if_neg (by omega)]; exact r0)) (fun k hk' => by
      rw [smr_r]
      by_cases c : k = i
      · rw [if_pos ⟨rfl, c⟩]; exact ⟨z, rfl, tz⟩
      · rw [if_neg (fun y => c y.2)]; exact hk k hk')]
    refine congrArg (fun Z => some (smi (X.1, Z) 1 3 4)) ?_
    funext a k
    show (if a = 2 then (if k < i + 1 then (if 2 = 2 ∧ k = i then some z else X.2 2 k) else if k < 4 then (if 2 = 2 ∧ k + 1 = i then some z else X.2 2 (k + 1)) else if k = 4 then some q else (if 2 = 2 ∧ k = i then some z else X.2 2 k)) else (if a = 2 ∧ k = i then some z else X.2 a k)) = _
    by_cases c : a = 2
    · subst c
      by_cases c2 : k = i
      · subst c2
        have : k < 4 := by omega
        simp [this, hz]
      · by_cases c3 : k < i
        · have c4 : k < i + 1 := by omega
          simp [c2, c3, c4]
        · have c4 : ¬ k < i + 1 := by omega
          have c5 : ¬ k + 1 = i := by omega
          simp [c2, c3, c4, c5]
    · simp [c]
theorem CI.drop (h : CI L X E V 5) : ∃ X', f_X3_dropOldest L X 1 = some X' ∧ CI L X' (fun r => E (rot r)) (fun r => V (rot r)) 4 ∧ (∀ k, k ≠ 1 → k ≠ 2 → X'.1 k = X.1 k ∧ X'.2 k = X.2 k) := by
  obtain ⟨⟨f1, f2, f3, ⟨f4, f5, f6⟩, f7⟩, g, s⟩ := id h
  unfold f_X3_dropOldest
  rw [if_pos f1.1.2.1, f1.2.2.1, Option.bind_some, if_pos f1.1.2.2.1, f1.1.2.2.2.1, if_pos (by decide), f7 0 (by omega), Option.bind_some]
  have e := drop9 f1.1.2.1 f1.1.2.2.1 f1.1.2.2.2.1 (s 0 (by omega)).1.1 4 0 u_fuel X rfl (by unfold u_fuel; omega) f1.2.2.1 (fun k hk => ⟨_, f7 k hk, (s k (by omega)).1.1⟩)
  have oo : ∀ k, k ≠ 1 → k ≠ 2 → (smi (X.1, fun a k => if a = 2 then (if k < 0 then X.2 2 k else if k < 4 then X.2 2 (k + 1) else if k = 4 then some (sb (E 0)) else X.2 2 k) else X.2 a k) 1 3 4).1 k = X.1 k ∧ (smi (X.1, fun a k => if a = 2 then (if k < 0 then X.2 2 k else if k < 4 then X.2 2 (k + 1) else if k = 4 then some (sb (E 0)) else X.2 2 k) else X.2 a k) 1 3 4).2 k = X.2 k := fun k h1 h2 => ⟨by rw [smi_o h1], by
    funext i
    show (if k = 2 then _ else X.2 k i) = _
    rw [if_neg h2]⟩
  refine ⟨_, e, h.perm (fun r hr => rot_lt hr) (fun r q _ _ e => rot_inj e) oo ?_ (by omega) ⟨⟨?_, ?_, ?_⟩, fun i hi => ?_⟩, oo⟩
  · rfl
  · exact f4
  · exact f5
  · rw [smi_d, pk_us]
    rfl
  · show (if 2 = 2 then (if i < 0 then X.2 2 i else if i < 4 then X.2 2 (i + 1) else if i = 4 then some (sb (E 0)) else X.2 2 i) else X.2 2 i) = some (sb (E (rot i)))
    rw [if_pos rfl, if_neg (by omega)]
    unfold rot
    by_cases c : i < 4
    · rw [if_pos c, if_pos c, f7 (i + 1) (by omega)]
    · rw [if_neg c, if_neg c, if_pos (by omega), if_pos (by omega)]
/-- which role a state had, after a success -/
def rec_ (n r : Nat) : Nat := if n < 5 then sw n 6 r else rot (sw 4 6 r)
theorem CI.record (h : CI L X E V n) : ∃ X', f_X3_recordSpare L X 1 = some X' ∧ CI L X' (fun r => E (rec_ n r)) (fun r => V (rec_ n r)) (if n < 5 then n + 1 else 5) ∧ (∀ k, k ≠ 1 → k ≠ 2 → X'.1 k = X.1 k ∧ X'.2 k = X.2 k) := by
  obtain ⟨⟨f1, f2, f3, ⟨f4, f5, f6⟩, f7⟩, g, s⟩ := id h
  unfold f_X3_recordSpare rec_
  rw [if_pos f1.1.2.1, f6]
  by_cases c : n < 5
  · obtain ⟨X', q1, q2, q3⟩ := h.rec12 c
    simp only [if_pos c]
    rw [if_pos (show nI n < 5 from (nlt (i := 5) (by omega) (by omega)).mpr c)]
    exact ⟨X', q1, q2, q3⟩
  · obtain rfl : n = 5 := by omega
    obtain ⟨Y, y1, y2, y3⟩ := h.drop
    obtain ⟨X', q1, q2, q3⟩ := y2.rec12 (by omega)
    simp only [if_neg c]
    rw [if_neg (show ¬ nI 5 < 5 by decide), y1, Option.bind_some]
    exact ⟨X', q1, q2, fun k h1 h2 => ⟨(q3 k h1 h2).1.trans (y3 k h1 h2).1, (q3 k h1 h2).2.trans (y3 k h1 h2).2⟩⟩
theorem isErr {r : Int32} : f_X9_isError L X r = some (if r = -100001 ∨ r = -100002 ∨ r = -100003 then 1 else 0) := by
  unfold f_X9_isError
  by_cases c1 : r = -100001
  · rw [if_pos c1, if_pos (Or.inl c1)]
  · rw [if_neg c1]
    by_cases c2 : r = -100002
    · rw [if_pos c2, if_pos (Or.inr (Or.inl c2))]
    · rw [if_neg c2]
      by_cases c3 : r = -100003
      · rw [if_pos c3, if_pos (Or.inr (Or.inr c3))]
      · rw [if_neg c3, if_neg (fun q => q.elim c1 (fun q => q.elim c2 c3))]
theorem ER.le {r : Int32} (h : ER r) : (r = -100001 ∨ r = -100002 ∨ r = -100003) ↔ r ≤ -100001 := by
  have e1 : (-100001 : Int32).toInt = -100001 := by decide
  constructor
  · rintro (rfl | rfl | rfl) <;> decide
  · intro q
    have q := i_le.mp q
    rcases h with h | h | h | h
    · exact Or.inl h
    · exact Or.inr (Or.inl h)
    · exact Or.inr (Or.inr h)
    · omega
theorem CI.settle (h : CI L X E V n) {r : Int32} (hE : ER r) : ∃ X', f_X3_settle L X 1 r = some (r, X') ∧ (∀ k, k ≠ 1 → k ≠ 2 → X'.1 k = X.1 k ∧ X'.2 k = X.2 k) ∧ (r ≤ -100001 → X' = X) ∧ (¬ r ≤ -100001 → CI L X' (fun q => E (rec_ n q)) (fun q => V (rec_ n q)) (if n < 5 then n + 1 else 5)) := by
  unfold f_X3_settle
  rw [isErr]
  by_cases c : r ≤ -100001
  · rw [if_pos (hE.le.mpr c), Option.bind_some, if_neg (by decide)]
    exact ⟨X, rfl, fun _ _ _ => ⟨rfl, rfl⟩, fun _ => rfl, fun q => absurd c q⟩
  · obtain ⟨X', q1, q2, q3⟩ := h.record
    rw [if_neg (fun q => c (hE.le.mp q)), Option.bind_some, if_pos rfl, q1, Option.bind_some, if_pos h.1.1.1.2.1]
    exact ⟨X', rfl, q3, fun q => absurd q c, fun _ => q2⟩
theorem CI.back0 (h : CI L X E V 0) : f_X3_stepBack L X 1 = some (-100002, X) := by
  unfold f_X3_stepBack
  rw [if_pos h.1.1.1.2.1, h.1.2.2.2.1.2.2, s_within, if_neg (show ¬ (0 ≤ nI 0 - 1 ∧ nI 0 - 1 ≤ 4) by decide), Option.bind_some, if_pos rfl]
theorem CI.back {c : Nat} (h : CI L X E V (c + 1)) : ∃ X', f_X3_stepBack L X 1 = some (nI c, X') ∧ CI L X' (fun r => E (sw 5 c r)) (fun r => V (sw 5 c r)) c ∧ (∀ k, k ≠ 1 → k ≠ 2 → X'.1 k = X.1 k ∧ X'.2 k = X.2 k) := by
  obtain ⟨⟨f1, f2, f3, ⟨f4, f5, f6⟩, f7⟩, g, s⟩ := id h
  have hc : c < 5 := by omega
  unfold f_X3_stepBack
  have r0 : (smr X 1 1 (some (sb (E c)))).2 1 0 = some 2 := by
    rw [smr_r, if_neg (by omega)]
    exact f1.2.2.1
  simp only [if_pos f1.1.2.1, f6, nm1', s_within, if_pos (in04 hc), Option.bind_some, i10, if_false, f4, f1.2.2.1, if_pos f1.1.2.2.1, f1.1.2.2.2.1, if_pos (hin_nI (n := 5) hc (by omega)), nI_clamp (show c < 2 ^ 31 by omega), f7 c hc, r0, if_pos (s 5 (by omega)).1.1]
  have oo : ∀ k, k ≠ 1 → k ≠ 2 → (smi (smr (smr X 1 1 (some (sb (E c)))) 2 c (some (sb (E 5)))) 1 3 (nI c)).1 k = X.1 k ∧ (smi (smr (smr X 1 1 (some (sb (E c)))) 2 c (some (sb (E 5)))) 1 3 (nI c)).2 k = X.2 k := fun k h1 h2 => ⟨by rw [smi_o h1]; rfl, (smr_ro h2).trans (smr_ro h1)⟩
  refine ⟨_, congrArg some (Prod.ext (by rw [smi_d, pk_us]) rfl), h.perm (fun r hr => sw_lt (by omega) (by omega) hr) (fun r q _ _ e => sw_inj e) oo ?_ (by omega) ⟨⟨?_, ?_, ?_⟩, fun i hi => ?_⟩, oo⟩
  · rw [smi_2, smr_r, if_neg (by omega), smr_r, if_neg (by omega)]
  · rw [smi_2, smr_r, if_neg (by omega), smr_r, if_pos ⟨rfl, rfl⟩]
    rfl
  · rw [smi_2, smr_r, if_neg (by omega), smr_r, if_neg (by omega), f5]
    show _ = some (sb (E (sw 5 c 6)))
    unfold sw
    rw [if_neg (by omega), if_neg (by omega)]
  · rw [smi_d, pk_us]
  · rw [smi_2, smr_r, smr_r]
    show _ = some (sb (E (sw 5 c i)))
    unfold sw
    by_cases q : i = c
    · rw [if_pos ⟨rfl, q⟩, if_neg (by omega), if_pos q]
    · rw [if_neg (fun z => q z.2), if_neg (by omega), if_neg (by omega), if_neg q, f7 i hi]
end HI
