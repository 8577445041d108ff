/-! what a customer could shop, over the numbers -/
theorem sq_99 {v : Nat → Int32} {p : Nat} (hR : RgP v p) {left : Int32} : (sq v left p).toInt ≤ 99 := by
  unfold sq
  by_cases c : fl left (prc v p) < v (52 + 7 * p + 2)
  · rw [if_pos c]
    have := i_lt.mp c
    have := hR.2.2.1.2
    omega
  · rw [if_neg c]
    exact hR.2.2.1.2
theorem sst_i {v : Nat → Int32} {m : Nat} (hm : m ≤ 6) (hR : ∀ p, p < m → RgP v p) {left : Int32} (h : 0 ≤ left.toInt) : ∀ k : Nat, k ≤ m → (0 ≤ (sst v m left k).1.toInt ∧ (sst v m left k).1.toInt ≤ left.toInt) ∧ (0 ≤ (sst v m left k).2.1.toInt ∧ (sst v m left k).2.1.toInt ≤ 99 * (k : Int)) ∧ (sst v m left k).2.1.toInt ≤ (sst v m left k).2.2.toInt ∧ (sst v m left k).2.2.toInt ≤ 20000 * (sst v m left k).2.1.toInt := by
  intro k
  induction k with
  | zero =>
    intro _
    have e : sst v m left 0 = (left, 0, 0) := rfl
    rw [e, z0i]
    exact ⟨⟨h, Int.le_refl _⟩, ⟨by omega, by omega⟩, by omega, by omega⟩
  | succ k ih =>
    intro hk
    obtain ⟨⟨a1, a2⟩, ⟨a3, a4⟩, a5, a6⟩ := ih (by omega)
    have e : sst v m left (k + 1) = ((sst v m left k).1 - sq v (sst v m left k).1 (pk_k (prc v) m k) * prc v (pk_k (prc v) m k), (sst v m left k).2.1 + sq v (sst v m left k).1 (pk_k (prc v) m k), (sst v m left k).2.2 + sq v (sst v m left k).1 (pk_k (prc v) m k) * v (52 + 7 * pk_k (prc v) m k + 1)) := rfl
    have hp := (pk_spec (f := prc v) (m := m) (k := k) (by omega)).1
    have hRp := hR _ hp
    obtain ⟨b1, b2, b3⟩ := sq_i hRp a1
    have b4 := sq_99 hRp (left := (sst v m left k).1)
    have w1 := hRp.2.1
    rw [e]
    generalize (sst v m left k).1 = l at *
    generalize (sst v m left k).2.1 = q at *
    generalize (sst v m left k).2.2 = t at *
    generalize pk_k (prc v) m k = p at *
    generalize sq v l p = s at *
    have c1 : s.toInt * (v (52 + 7 * p + 1)).toInt ≤ s.toInt * 20000 := Int.mul_le_mul_of_nonneg_left w1.2 b1
    have c2 : s.toInt * 1 ≤ s.toInt * (v (52 + 7 * p + 1)).toInt := Int.mul_le_mul_of_nonneg_left w1.1 b1
    have c3 : (s * v (52 + 7 * p + 1)).toInt = s.toInt * (v (52 + 7 * p + 1)).toInt := i_mul (by omega) (by omega)
    have hl := i_rng l
    have d1 : (l - s * prc v p).toInt = l.toInt - (s * prc v p).toInt := i_sub (by omega) (by omega)
    have d2 : (q + s).toInt = q.toInt + s.toInt := i_add (by omega) (by omega)
    have d3 : (t + s * v (52 + 7 * p + 1)).toInt = t.toInt + s.toInt * (v (52 + 7 * p + 1)).toInt := by rw [i_add (by omega) (by omega), c3]
    show ((0 ≤ (l - s * prc v p).toInt ∧ (l - s * prc v p).toInt ≤ left.toInt) ∧ (0 ≤ (q + s).toInt ∧ (q + s).toInt ≤ 99 * ((k + 1 : Nat) : Int)) ∧ (q + s).toInt ≤ (t + s * v (52 + 7 * p + 1)).toInt ∧ (t + s * v (52 + 7 * p + 1)).toInt ≤ 20000 * (q + s).toInt)
    rw [d1, d2, d3]
    refine ⟨⟨by omega, by omega⟩, ⟨by omega, by omega⟩, by omega, by omega⟩
/-! a prize that is sold out at once is one without stock -/
theorem soL_s {w mk bx : Int32} (d i : Nat) (st so : Int32) : soL w mk bx (d + 1) i st so = if st = 0 then nI i else soL w mk bx d (i + 1) (se_stock st so w 1 mk bx) (se_sold so w 1 mk) := rfl
theorem soL_ne {w mk bx : Int32} : ∀ (d i : Nat) (st so : Int32), 1 ≤ i → i + d ≤ 2000 → soL w mk bx d i st so ≠ 0 := by
  intro d
  induction d with
  | zero =>
    intro i st so _ _
    show (-100009 : Int32) ≠ 0
    decide
  | succ d ih =>
    intro i st so h1 h2
    rw [soL_s]
    by_cases c : st = 0
    · rw [if_pos c]
      intro e
      have := (nI_eq (a := i) (b := 0) (by omega) (by omega)).mp e
      omega
    · rw [if_neg c]
      exact ih (i + 1) _ _ (by omega) (by omega)
theorem soL_0 {w mk bx : Int32} (st so : Int32) : soL w mk bx 1000 0 st so = 0 ↔ st = 0 := by
  have e := soL_s (w := w) (mk := mk) (bx := bx) 999 0 st so
  have e' : soL w mk bx 1000 0 st so = if st = 0 then nI 0 else soL w mk bx 999 1 (se_stock st so w 1 mk bx) (se_sold so w 1 mk) := e
  rw [e']
  by_cases c : st = 0
  · rw [if_pos c]
    exact ⟨fun _ => c, fun _ => rfl⟩
  · rw [if_neg c]
    exact ⟨fun q => absurd q (soL_ne 999 1 _ _ (by omega) (by omega)), fun q => absurd q c⟩
/-! the fairest rule is nearest to nothing -/
theorem ab0_i {x : Int32} (h : -40000 ≤ x.toInt ∧ x.toInt ≤ 40000) : (ab0 x).toInt = if 0 ≤ x.toInt then x.toInt else -x.toInt := by
  unfold ab0
  by_cases c : 0 ≤ x
  · rw [if_pos c, if_pos (i_0le.mp c)]
  · rw [if_neg c, if_neg (fun q => c (i_0le.mpr q)), i_sub (by rw [z0i]; omega) (by rw [z0i]; omega), z0i]
    omega
theorem sq_le {a b : Int32} (ha : -40000 ≤ a.toInt ∧ a.toInt ≤ 40000) (hb : -40000 ≤ b.toInt ∧ b.toInt ≤ 40000) (h : (ab0 a).toInt ≤ (ab0 b).toInt) : ¬ b * b < a * a := by
  rw [ab0_i ha, ab0_i hb] at h
  have sqI : ∀ x : Int, x * x = (if 0 ≤ x then x else -x) * (if 0 ≤ x then x else -x) := fun x => by
    by_cases c : 0 ≤ x
    · rw [if_pos c]
    · rw [if_neg c, Int.neg_mul_neg]
  have n0 : ∀ x : Int, 0 ≤ (if 0 ≤ x then x else -x) := fun x => by
    by_cases c : 0 ≤ x
    · rw [if_pos c]; exact c
    · rw [if_neg c]; omega
  have n4 : ∀ x : Int, -40000 ≤ x → x ≤ 40000 → (if 0 ≤ x then x else -x) ≤ 40000 := fun x h1 h2 => by
    by_cases c : 0 ≤ x
    · rw [if_pos c]; exact h2
    · rw [if_neg c]; omega
  have n1600 : ∀ x : Int, -40000 ≤ x → x ≤ 40000 → x * x ≤ 1600000000 ∧ 0 ≤ x * x := fun x h1 h2 => by
    have := Int.mul_le_mul (n4 x h1 h2) (n4 x h1 h2) (n0 x) (by omega)
    have z := Int.mul_nonneg (n0 x) (n0 x)
    rw [← sqI x] at this z
    exact ⟨by omega, z⟩
  have ea := n1600 _ ha.1 ha.2
  have eb := n1600 _ hb.1 hb.2
  have m : a.toInt * a.toInt ≤ b.toInt * b.toInt := by
    rw [sqI a.toInt, sqI b.toInt]
    exact Int.mul_le_mul h h (n0 _) (n0 _)
  intro q
  have q := i_lt.mp q
  rw [i_mul (by omega) (by omega), i_mul (by omega) (by omega)] at q
  omega
theorem fz_sp {G : Int32 → Option Int32} : ∀ (d i : Nat) (best : Int32), i + d = 4 → (best = -100009 ∧ i = 0 ∨ ∃ b t, b < i ∧ best = nI b ∧ G (nI b) = some t ∧ ∀ q, q < i → ∃ s, G (nI q) = some s ∧ (ab0 t).toInt ≤ (ab0 s).toInt) → (fzL G d best i = -100009 ∧ ∃ q, q < 4 ∧ G (nI q) = none) ∨ ∃ b t, b < 4 ∧ fzL G d best i = nI b ∧ G (nI b) = some t ∧ ∀ q, q < 4 → ∃ s, G (nI q) = some s ∧ (ab0 t).toInt ≤ (ab0 s).toInt := by
  intro d
  induction d with
  | zero =>
    intro i best hi h
    obtain rfl : i = 4 := by omega
    rcases h with ⟨-, h⟩ | ⟨b, t, h1, h2, h3, h4⟩
    · omega
    · exact Or.inr ⟨b, t, h1, h2, h3, h4⟩
  | succ d ih =>
    intro i best hi h
    have e : fzL G (d + 1) best i = (G (nI i)).elim (-100009) (fun s => if best = -100009 then fzL G d (nI i) (i + 1) else if ab0 ((G best).getD 0) ≤ ab0 s then fzL G d best (i + 1) else fzL G d (nI i) (i + 1)) := rfl
    rw [e]
    cases hg : G (nI i) with
    | none => exact Or.inl ⟨rfl, i, by omega, hg⟩
    | some s =>
      simp only [Option.elim_some]
      rcases h with ⟨h, h0⟩ | ⟨b, t, h1, h2, h3, h4⟩
      · rw [if_pos h]
        refine ih (i + 1) (nI i) (by omega) (Or.inr ⟨i, s, by omega, rfl, hg, fun q hq => ?_⟩)
        obtain rfl : q = i := by omega
        exact ⟨s, hg, Int.le_refl _⟩
      · have hne : ¬ best = -100009 := by rw [h2]; exact nIne b (by omega)
        have hb : (G best).getD 0 = t := by rw [h2, h3]; rfl
        rw [if_neg hne, hb]
        by_cases c : ab0 t ≤ ab0 s
        · rw [if_pos c]
          refine ih (i + 1) best (by omega) (Or.inr ⟨b, t, by omega, h2, h3, fun q hq => ?_⟩)
          by_cases qi : q = i
          · subst qi
            exact ⟨s, hg, i_le.mp c⟩
          · exact h4 q (by omega)
        · have c' : (ab0 s).toInt < (ab0 t).toInt := by
            have : ¬ (ab0 t).toInt ≤ (ab0 s).toInt := fun q => c (i_le.mpr q)
            omega
          rw [if_neg c]
          refine ih (i + 1) (nI i) (by omega) (Or.inr ⟨i, s, by omega, rfl, hg, fun q hq => ?_⟩)
          by_cases qi : q = i
          · subst qi
            exact ⟨s, hg, Int.le_refl _⟩
          · obtain ⟨z, z1, z2⟩ := h4 q (by omega)
            exact ⟨z, z1, by omega⟩
/-- whether a rule can guess does not hang on the rule -/
theorem gs_n {v : Nat → Int32} {r : Int32} {j : Nat} (h : RgS v) (hr : rdg r) (hj : j < 4) (u : Int32) : gs v r j u = -100009 ↔ ¬ gl v r j ≤ gg v r j := by
  constructor
  · intro e c
    have a := gs_in h hr hj c u
    have b := gl_0 h hr hj
    rw [e, show (-100009 : Int32).toInt = -100009 by decide] at a
    omega
  · intro c
    exact gs_no c u
theorem gvs_ni {v : Nat → Int32} {B : Int} (hS : RgS v) (u u' : Int32) : ∀ n : Nat, (∀ c, c < n → RgC B v c) → gvs v u n = none → gvs v u' n = none := by
  intro n
  induction n with
  | zero => intro _ h; cases h
  | succ n ih =>
    intro hC h
    have h : (gvs v u n).bind (fun s => if v (16 + 6 * n + 1) = 0 then some s else if gs v (v (16 + 6 * n + 4)) (v (16 + 6 * n + 2)).toNatClampNeg u = -100009 then none else some (s + (gs v (v (16 + 6 * n + 4)) (v (16 + 6 * n + 2)).toNatClampNeg u - v (16 + 6 * n + 3)))) = none := h
    show (gvs v u' n).bind (fun s => if v (16 + 6 * n + 1) = 0 then some s else if gs v (v (16 + 6 * n + 4)) (v (16 + 6 * n + 2)).toNatClampNeg u' = -100009 then none else some (s + (gs v (v (16 + 6 * n + 4)) (v (16 + 6 * n + 2)).toNatClampNeg u' - v (16 + 6 * n + 3)))) = none
    cases hg : gvs v u n with
    | none => rw [ih (fun c hc => hC c (by omega)) hg]; rfl
    | some s =>
      rw [hg, Option.bind_some] at h
      by_cases hk : v (16 + 6 * n + 1) = 0
      · rw [if_pos hk] at h; cases h
      · rw [if_neg hk] at h
        obtain ⟨-, hk' | ⟨-, ⟨j, hj, ek⟩, hct, hrd, -⟩⟩ := hC n (by omega)
        · exact absurd hk' hk
        · rw [ek, nI_clamp (show j < 2 ^ 31 by omega)] at h ⊢
          by_cases q : gs v (v (16 + 6 * n + 4)) j u = -100009
          · have q2 := (gs_n hS hrd hj u').mpr ((gs_n hS hrd hj u).mp q)
            cases gvs v u' n with
            | none => rfl
            | some s' => rw [Option.bind_some, if_neg hk, if_pos q2]
          · rw [if_neg q] at h; cases h
/-- the readings that are kept are small -/
def RL4 (v : Nat → Int32) : Prop := ∀ c, c < 6 → v (16 + 6 * c + 1) ≠ 0 → (v (16 + 6 * c + 4)).toInt ≤ 400000
theorem gvs_bb {v : Nat → Int32} {u : Int32} {B : Int} (hS : RgS v) (h4 : RL4 v) : ∀ (n : Nat), n ≤ 4 → (∀ c, c < n → RgC B v c) → ∀ s, gvs v u n = some s → -(n * 500 : Int) ≤ s.toInt ∧ s.toInt ≤ n * 8050 := by
  intro n
  induction n with
  | zero =>
    intro _ _ s hs
    obtain rfl := Option.some.inj hs
    rw [z0i]; omega
  | succ n ih =>
    intro hn hC s hs
    have hs : (gvs v u n).bind _ = some s := hs
    obtain ⟨t, ht, hs⟩ := hx_bind hs
    have hb := ih (by omega) (fun c hc => hC c (by omega)) t ht
    by_cases hk : v (16 + 6 * n + 1) = 0
    · rw [if_pos hk] at hs
      obtain rfl := Option.some.inj hs
      omega
    · rw [if_neg hk] at hs
      obtain ⟨-, hk' | ⟨-, ⟨j, hj, ek⟩, hct, hrd, -⟩⟩ := hC n (by omega)
      · exact absurd hk' hk
      · rw [ek, nI_clamp (show j < 2 ^ 31 by omega)] at hs
        by_cases hg : gs v (v (16 + 6 * n + 4)) j u = -100009
        · rw [if_pos hg] at hs; cases hs
        · rw [if_neg hg] at hs
          have hl : gl v (v (16 + 6 * n + 4)) j ≤ gg v (v (16 + 6 * n + 4)) j := Classical.byContradiction fun q => hg ((gs_n hS hrd hj u).mpr q)
          have hi := gs_in hS hrd hj hl u
          have h0 := gl_0 hS hrd hj
          have h8 := gg_s hS hrd (h4 n (by omega) hk) hj
          obtain rfl := Option.some.inj hs
          have e1 := i_sub (a := gs v (v (16 + 6 * n + 4)) j u) (b := v (16 + 6 * n + 3)) (by omega) (by omega)
          rw [i_add (by omega) (by omega), e1]
          omega
