/-! the numbers of the counter that is now, and of the state before an action -/
def KE (L : hL) (X : hX) (E : Nat → Nat) (V : Nat → Nat → Int32) (n : Nat) (v : Nat → Int32) : Prop := CI L X E V n ∧ Cl (fun k => k < 470) X ∧ (∀ k, k < 94 → V 5 k = v k) ∧ WS (V 5)
def KS (L : hL) (X : hX) (n : Nat) (v : Nat → Int32) : Prop := ∃ E V, KE L X E V n v
def KP (L : hL) (X : hX) (n : Nat) (v u : Nat → Int32) : Prop := ∃ E V, KE L X E V n v ∧ ∃ c, n = c + 1 ∧ (∀ k, k < 94 → V c k = u k) ∧ WS (V c)
theorem KP.ks {L : hL} {X : hX} {n : Nat} {v u : Nat → Int32} (h : KP L X n v u) : KS L X n v := by
  obtain ⟨E, V, h, -⟩ := h
  exact ⟨E, V, h⟩
theorem KS.n5 {L : hL} {X : hX} {n : Nat} {v : Nat → Int32} (h : KS L X n v) : n ≤ 5 := by
  obtain ⟨E, V, h⟩ := h
  exact h.1.1.2.2.1
theorem KS.ext {L : hL} {X : hX} {n : Nat} {v w : Nat → Int32} (h : KS L X n v) (e : ∀ k, k < 94 → v k = w k) : KS L X n w := by
  obtain ⟨E, V, h1, h2, h3, h4⟩ := h
  exact ⟨E, V, h1, h2, fun k hk => (h3 k hk).trans (e k hk), h4⟩
theorem WB.ext {v w : Nat → Int32} (h : WB v) (e : ∀ k, k < 94 → v k = w k) : WB w := fun i hi => by
  rw [← e (16 + 6 * i + 1) (by omega)]
  exact h i hi
theorem ws_ovr {V w : Nat → Int32} (h : WS V) (hw : WB w) : WS (ovr V 0 w) := by
  have g : ∀ k, 94 ≤ k → ovr V 0 w k = V k := fun k hk => by
    unfold ovr
    rw [if_neg (by omega)]
  refine ⟨hw.ext (fun k hk => ?_), fun i hi => ?_⟩
  · unfold ovr
    rw [if_pos (by omega), Nat.sub_zero]
  · rw [g _ (by omega)]
    refine (h.2 i hi).imp id (fun q => ⟨q.1, q.2.ext (fun k hk => ?_)⟩)
    exact (g _ (by omega)).symm
theorem ws_cpy {U V : Nat → Int32} (h : WS V) : WS (cpy U V) := by
  have g : ∀ i, i < 2 → cpy U V (94 + 95 * i) = V (94 + 95 * i) := fun i hi => by
    unfold cpy
    rw [if_neg (by omega), if_pos (by omega)]
  refine ⟨h.1.ext (fun k hk => ?_), fun i hi => ?_⟩
  · unfold cpy
    rw [if_pos hk]
  · rw [g i hi]
    refine (h.2 i hi).imp id (fun q => ⟨q.1, q.2.ext (fun k hk => ?_)⟩)
    show V (95 + 95 * i + k) = cpy U V (95 + 95 * i + k)
    unfold cpy
    rw [if_neg (by omega), if_neg (by omega), show (95 + 95 * i + k - 94) / 95 = i by omega, if_neg (by rw [q.1]; decide)]
theorem rec_5 (n : Nat) : rec_ n 5 = 5 := by
  unfold rec_ sw rot
  by_cases q : n < 5
  · rw [if_pos q, if_neg (by omega), if_neg (by omega)]
  · rw [if_neg q]; decide
/-- an action on the counter that is now -/
theorem k_act {L : hL} {X : hX} {E : Nat → Nat} {V : Nat → Nat → Int32} {n : Nat} {v : Nat → Int32} (hK : KE L X E V n v) {g : hX → Nat → Option (Int32 × hX)} {a : Int32 × (Nat → Int32)} (hg : ∀ Y π ρ, CX L Y (sb (E 5) + 1) π ρ v → ∃ Y' π' ρ', g Y (sb (E 5) + 1) = some (a.1, Y') ∧ CX L Y' (sb (E 5) + 1) π' ρ' a.2) (hgf : ∀ (P : Nat → Prop) Y r Y' c, g Y c = some (r, Y') → Cl P Y → P c → FR P Y Y') (hE : ER a.1) (hW : WB a.2) : ∃ X3, act L X g = some (a.1, X3) ∧ (a.1 ≤ -100001 → KS L X3 n a.2) ∧ (¬ a.1 ≤ -100001 → KP L X3 (if n < 5 then n + 1 else 5) a.2 v) := by
  obtain ⟨c1, c8, c3, c4⟩ := hK
  have fx := c1.1.1
  have hn5 := c1.1.2.2.1
  obtain ⟨X1, p1, p2, p3⟩ := c1.prep c4
  have h6 := c1.rng (r := 6) (by omega)
  have h5 := c1.rng (r := 5) (by omega)
  have p4 : X1.2 0 = X.2 0 := (p3 0 (by omega)).2
  have p5 : Cl (fun k => k < 470) X1 := (fr_X3_prepare p1 c8 (show (1 : Nat) < 470 by omega)).1
  obtain ⟨π, ρ, hx⟩ := (p2.2.2 5 (by omega)).2.2.1
  have e5 : Vu V 6 (cpy (V 6) (V 5)) 5 = V 5 := rfl
  rw [e5] at hx
  obtain ⟨X2, π', ρ', g1, g2⟩ := hg X1 π ρ (hx.ext c3)
  have hf := hgf _ X1 _ X2 _ g1 p2.cl ⟨Nat.le_refl _, by omega⟩
  obtain ⟨q1, q2⟩ := p2.cmd hf ⟨π', ρ', g2⟩
  rw [e5] at q1
  have cl2 : Cl (fun k => k < 470) X2 := (hgf (fun k => k < 470) X1 _ X2 _ g1 p5 (by omega)).1
  obtain ⟨X3, s1, s2, s3, s4⟩ := q1.settle hE
  have cl3 : Cl (fun k => k < 470) X3 := (fr_X3_settle s1 cl2 (show (1 : Nat) < 470 by omega)).1
  have ho : ∀ k, k < 94 → ovr (V 5) 0 a.2 k = a.2 k := fun k hk => by
    unfold ovr
    rw [if_pos (by omega), Nat.sub_zero]
  refine ⟨X3, ?_, fun c => ?_, fun c => ?_⟩
  · unfold act
    rw [if_pos fx.1.1, fx.2.1.1, Option.bind_some, p1, Option.bind_some, if_pos fx.1.2.1, p4, fx.2.1.1, Option.bind_some, p2.counter, Option.bind_some, Option.elim_some, g1, Option.bind_some, if_pos g2.1.1.1, s1, Option.bind_some, if_pos fx.1.2.1]
  · rw [s3 c] at cl3 ⊢
    exact ⟨E, _, q1, cl3, ho, ws_ovr c4 hW⟩
  · have e6 : Vu (Vu V 6 (cpy (V 6) (V 5))) 5 (ovr (V 5) 0 a.2) 6 = cpy (V 6) (V 5) := rfl
    have w6 : ∀ k, k < 94 → cpy (V 6) (V 5) k = v k := fun k hk => by
      unfold cpy
      rw [if_pos hk]
      exact c3 k hk
    refine ⟨_, _, ⟨s4 c, cl3, fun k hk => ?_, ?_⟩, (if n < 5 then n else 4), ?_, fun k hk => ?_, ?_⟩
    · show Vu (Vu V 6 (cpy (V 6) (V 5))) 5 (ovr (V 5) 0 a.2) (rec_ n 5) k = a.2 k
      rw [rec_5]
      exact ho k hk
    · show WS (Vu (Vu V 6 (cpy (V 6) (V 5))) 5 (ovr (V 5) 0 a.2) (rec_ n 5))
      rw [rec_5]
      exact ws_ovr c4 hW
    · by_cases q : n < 5
      · rw [if_pos q, if_pos q]
      · rw [if_neg q, if_neg q]
    · show Vu (Vu V 6 (cpy (V 6) (V 5))) 5 (ovr (V 5) 0 a.2) (rec_ n (if n < 5 then n else 4)) k = v k
      have er : rec_ n (if n < 5 then n else 4) = 6 := by
        by_cases q : n < 5
        · rw [if_pos q, rec_b q]
        · rw [if_neg q, show n = 5 by omega, rec_d]
      rw [er, e6]
      exact w6 k hk
    · show WS (Vu (Vu V 6 (cpy (V 6) (V 5))) 5 (ovr (V 5) 0 a.2) (rec_ n (if n < 5 then n else 4)))
      have er : rec_ n (if n < 5 then n else 4) = 6 := by
        by_cases q : n < 5
        · rw [if_pos q, rec_b q]
        · rw [if_neg q, show n = 5 by omega, rec_d]
      rw [er, e6]
      exact ws_cpy c4
theorem k_undo {L : hL} {X : hX} {n : Nat} {v u : Nat → Int32} (h : KP L X n v u) : ∃ X', f_X9_undo L X 0 = some (nI (n - 1), X') ∧ KS L X' (n - 1) u := by
  obtain ⟨E, V, ⟨c1, c8, c3, c4⟩, c, rfl, w1, w2⟩ := h
  have fx := c1.1.1
  have hn5 := c1.1.2.2.1
  obtain ⟨X3, q1, q2, q3⟩ := c1.back
  have e9 : f_X9_undo L X 0 = some (nI c, X3) := by
    unfold f_X9_undo
    rw [if_pos fx.1.1, fx.2.1.1, Option.bind_some, q1, Option.bind_some, if_pos fx.1.2.1]
  have cl3 : Cl (fun k => k < 470) X3 := (fr_X9_undo e9 c8 (by omega)).1
  have e : sw 5 c 5 = c := by unfold sw; rw [if_pos rfl]
  refine ⟨X3, e9, _, _, q2, cl3, fun k hk => ?_, ?_⟩
  · show V (sw 5 c 5) k = u k
    rw [e]
    exact w1 k hk
  · show WS (V (sw 5 c 5))
    rw [e]
    exact w2
/-- what is known of the cells of the counter that is now -/
theorem KS.cx {L : hL} {X : hX} {n : Nat} {v : Nat → Int32} (h : KS L X n v) : ∃ b π ρ, f_X9_counter L X 0 = some (some b) ∧ FX L X ∧ CX L X b π ρ v ∧ b + 21 < 466 := by
  obtain ⟨E, V, c1, c8, c3, c4⟩ := h
  obtain ⟨π, ρ, hx⟩ := (c1.2.2 5 (by omega)).2.2.1
  have h5 := c1.rng (r := 5) (by omega)
  exact ⟨_, π, ρ, c1.counter, c1.1.1, hx.ext c3, by omega⟩
theorem KS.tk9 {L : hL} {X : hX} {n : Nat} {v : Nat → Int32} (h : KS L X n v) : tk L 0 9 := by
  obtain ⟨b, π, ρ, -, fx, -⟩ := h.cx
  exact fx.1.1
theorem KS.size {L : hL} {X : hX} {n : Nat} {v : Nat → Int32} (h : KS L X n v) : X.1 1 3 = nI n := by
  obtain ⟨E, V, c1, -⟩ := h
  exact c1.1.2.2.2.1.2.2
/-- the trial row is nobody's -/
theorem KS.mv {L : hL} {X Y : hX} {n : Nat} {v : Nat → Int32} (h : KS L X n v) (e1 : Y.2 = X.2) (e2 : ∀ k, k ≠ 469 → Y.1 k = X.1 k) : KS L Y n v := by
  obtain ⟨E, V, c1, c8, c3, c4⟩ := h
  exact ⟨E, V, c1.mv (fun k hk => ⟨e2 k (by omega), by rw [e1]⟩), c8.mv (fun _ _ => by rw [e1]), c3, c4⟩
theorem nI_inj6 {a b : Nat} (ha : a ≤ 6) (hb : b ≤ 6) (h : nI a = nI b) : a = b := (nI_eq (by omega) (by omega)).mp h
theorem RV.self {B : Int} {v w : Nat → Int32} {n m : Nat} (h : RV B v w n m) : RV B v v n m :=
  ⟨⟨h.1.1, h.1.2.1, fun _ _ => rfl, h.1.2.2.2⟩, fun c hc => ⟨(h.2.1 c hc).1, rfl, rfl, fun _ _ _ => rfl⟩, h.2.2.1, fun p hp => ⟨(h.2.2.2.1 p hp).1, fun _ _ => rfl⟩, h.2.2.2.2⟩
/-- a row whose counts are known -/
theorem RV.fix {B : Int} {v w : Nat → Int32} {n m : Nat} (h : ∃ n m, RV B v w n m) (hn : n ≤ 6) (hm : m ≤ 6) (e14 : v 14 = nI n) (e15 : v 15 = nI m) : RV B v v n m := by
  obtain ⟨n', m', h⟩ := h
  have a := nI_inj6 h.1.1 hn (h.1.2.2.2.1.symm.trans e14)
  have b := nI_inj6 h.1.2.1 hm (h.1.2.2.2.2.1.symm.trans e15)
  subst a; subst b
  exact h.self
