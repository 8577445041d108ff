/-! the shop: dearer and dearer -/
def prc (v : Nat → Int32) (p : Nat) : Int32 := v (52 + 7 * p)
def sq (v : Nat → Int32) (left : Int32) (p : Nat) : Int32 := if fl left (prc v p) < v (52 + 7 * p + 2) then fl left (prc v p) else v (52 + 7 * p + 2)
def sst (v : Nat → Int32) (m : Nat) (left : Int32) : Nat → Int32 × Int32 × Int32
  | 0 => (left, 0, 0)
  | k + 1 => ((sst v m left k).1 - sq v (sst v m left k).1 (pk_k (prc v) m k) * prc v (pk_k (prc v) m k), (sst v m left k).2.1 + sq v (sst v m left k).1 (pk_k (prc v) m k), (sst v m left k).2.2 + sq v (sst v m left k).1 (pk_k (prc v) m k) * v (52 + 7 * pk_k (prc v) m k + 1))
def shr (t : Int32 × Int32 × Int32) (what : Int32) : Int32 := if what = 0 then t.2.1 else if what = 1 then t.1 else t.2.2
theorem sq_i {v : Nat → Int32} {p : Nat} (hR : RgP v p) {left : Int32} (h : 0 ≤ left.toInt) : 0 ≤ (sq v left p).toInt ∧ (sq v left p * prc v p).toInt ≤ left.toInt ∧ 0 ≤ (sq v left p * prc v p).toInt := by
  obtain ⟨h1, -, h2, -⟩ := hR
  have hp : (prc v p).toInt = (v (52 + 7 * p)).toInt := rfl
  have f := fl_i (a := left) (b := prc v p) (by omega)
  have e0 := Int.ediv_nonneg (a := left.toInt) (b := (prc v p).toInt) (by omega) (by omega)
  have m1 := Int.mul_ediv_self_le (x := left.toInt) (k := (prc v p).toInt) (by omega)
  rw [Int.mul_comm] at m1
  have rl := i_rng left
  have key : ∀ q : Int32, 0 ≤ q.toInt → q.toInt ≤ left.toInt / (prc v p).toInt → 0 ≤ q.toInt ∧ (q * prc v p).toInt ≤ left.toInt ∧ 0 ≤ (q * prc v p).toInt := by
    intro q h0 hq
    have a1 : q.toInt * (prc v p).toInt ≤ left.toInt / (prc v p).toInt * (prc v p).toInt := Int.mul_le_mul_of_nonneg_right hq (by omega)
    have a2 : 0 ≤ q.toInt * (prc v p).toInt := Int.mul_nonneg h0 (by omega)
    rw [i_mul (by omega) (by omega)]
    omega
  unfold sq
  by_cases c : fl left (prc v p) < v (52 + 7 * p + 2)
  · rw [if_pos c]
    exact key _ (by omega) (by omega)
  · have c' : ¬ (fl left (prc v p)).toInt < (v (52 + 7 * p + 2)).toInt := fun z => c (i_lt.mpr z)
    rw [if_neg c]
    exact key _ (by omega) (by omega)
theorem sst_0 {v : Nat → Int32} {m : Nat} (hR : ∀ p, p < m → RgP v p) {left : Int32} (h : 0 ≤ left.toInt) : ∀ k, k ≤ m → 0 ≤ (sst v m left k).1.toInt := by
  intro k
  induction k with
  | zero => intro _; exact h
  | succ k ih =>
    intro hk
    have ih := ih (by omega)
    obtain ⟨hp, -⟩ := pk_spec (f := prc v) (m := m) (k := k) (by omega)
    obtain ⟨-, a2, a3⟩ := sq_i (hR _ hp) ih
    have := i_rng (sst v m left k).1
    show 0 ≤ ((sst v m left k).1 - sq v (sst v m left k).1 (pk_k (prc v) m k) * prc v (pk_k (prc v) m k)).toInt
    rw [i_sub (by omega) (by omega)]
    omega
/-- what the latest prize is, by how many came before -/
def lat (v : Nat → Int32) (m : Nat) : Nat → Int32
  | 0 => -1
  | k + 1 => if k < m then nI (pk_k (prc v) m k) else nI m
section SH
variable {L : hL} {X : hX} {b : Nat} {π ρ : Nat → Nat} {v : Nat → Int32}
theorem nR {i m : Nat} (hi : i < 2147483648) (hm : m < 2147483648) : isR (nI i) m ↔ i < m := by
  unfold isR
  rw [i_le, i_lt, nI_toInt hi, nI_toInt hm, z0i]
  omega
theorem m1R {m : Nat} : ¬ isR (-1) m := fun h => by have := i_le.mp h.1; rw [z0i, show (-1 : Int32).toInt = -1 by decide] at this; omega
theorem c_behind (h : CX L X b π ρ v) {m : Nat} (hm : m ≤ 6) (e : v 15 = nI m) {i q : Nat} (hi : i < m) (hq : q < m) : f_X0_isBehind L X b (nI i) (nI q) = some (if plt (prc v) q i = true then 1 else 0) := by
  have p1 := h.pr (c := i) (j := 0) (by omega) (by omega)
  have p2 := h.pr (c := q) (j := 0) (by omega) (by omega)
  unfold f_X0_isBehind
  simp only [c_prizeAt h hm e, if_pos ((nR (by omega) (by omega)).mpr hi), if_pos ((nR (by omega) (by omega)).mpr hq), Option.bind_some, if_pos h.1.1.1, Option.elim_some, nI_clamp (show i < 2 ^ 31 by omega), nI_clamp (show q < 2 ^ 31 by omega), if_pos (pt h (show i < 6 by omega)), if_pos (pt h (show q < 6 by omega)), p1, p2, Nat.add_zero]
  have eP : plt (prc v) q i = decide (v (52 + 7 * q) < v (52 + 7 * i) ∨ v (52 + 7 * q) = v (52 + 7 * i) ∧ q < i) := rfl
  have en : nI i ≤ nI q ↔ i ≤ q := nle (by omega) (by omega)
  rw [eP]
  by_cases c1 : v (52 + 7 * q) < v (52 + 7 * i)
  · rw [if_pos c1, if_pos (decide_eq_true (Or.inl c1))]
  · rw [if_neg c1]
    by_cases c2 : v (52 + 7 * i) = v (52 + 7 * q)
    · rw [if_pos c2]
      by_cases c3 : i ≤ q
      · rw [if_pos (en.mpr c3), if_neg (fun z => (of_decide_eq_true z).elim c1 (fun y => absurd y.2 (by omega)))]
      · rw [if_neg (fun z => c3 (en.mp z)), if_pos (decide_eq_true (Or.inr ⟨c2.symm, by omega⟩))]
    · rw [if_neg c2, if_neg (fun z => (of_decide_eq_true z).elim c1 (fun y => c2 y.1.symm))]
theorem c_behind_n (h : CX L X b π ρ v) {m : Nat} (hm : m ≤ 6) (e : v 15 = nI m) {i : Nat} (hi : i < 6) (hin : ¬ i < m) (q : Int32) : f_X0_isBehind L X b (nI i) q = some 0 := by
  unfold f_X0_isBehind
  simp only [c_prizeAt h hm e, if_neg (fun z => hin ((nR (show i < 2147483648 by omega) (show m < 2147483648 by omega)).mp z)), Option.bind_some, if_pos h.1.1.1, Option.elim_none]
  by_cases c : isR q m
  · simp only [if_pos c, Option.elim_some]
  · simp only [if_neg c, Option.elim_none]
theorem c_behind_l (h : CX L X b π ρ v) {m : Nat} (hm : m ≤ 6) (e : v 15 = nI m) {i k : Nat} (hi : i < m) : f_X0_isBehind L X b (nI i) (lat v m k) = some (if k ≤ rk (prc v) m i then 1 else 0) := by
  have hr := rk_m (f := prc v) hi
  have none_ : ∀ q : Int32, ¬ isR q m → f_X0_isBehind L X b (nI i) q = some (if 0 ≤ q then 0 else 1) := by
    intro q hq
    unfold f_X0_isBehind
    simp only [c_prizeAt h hm e, if_pos ((nR (show i < 2147483648 by omega) (show m < 2147483648 by omega)).mpr hi), if_neg hq, Option.bind_some, if_pos h.1.1.1, Option.elim_none, Option.elim_some]
    by_cases c : 0 ≤ q
    · rw [if_pos c, if_pos c]
    · rw [if_neg c, if_neg c]
  cases k with
  | zero =>
    rw [if_pos (Nat.zero_le _)]
    exact (none_ (-1) m1R).trans (congrArg some (if_neg (by decide)))
  | succ k =>
    by_cases hk : k < m
    · obtain ⟨hp, ep⟩ := pk_spec (f := prc v) hk
      have e1 : lat v m (k + 1) = nI (pk_k (prc v) m k) := if_pos hk
      have hh := rk_iff (f := prc v) hp hi
      rw [e1, c_behind h hm e hi hp]
      by_cases c : k + 1 ≤ rk (prc v) m i
      · rw [if_pos c, if_pos (hh.mpr (by omega))]
      · rw [if_neg c, if_neg (fun z => by have := hh.mp z; omega)]
    · have e1 : lat v m (k + 1) = nI m := if_neg hk
      rw [e1, none_ _ (fun z => absurd ((nR (show m < 2147483648 by omega) (show m < 2147483648 by omega)).mp z) (by omega)), if_pos (nI_pos' (by omega)), if_neg (by omega)]
theorem c_next_l (h : CX L X b π ρ v) {m : Nat} (hm : m ≤ 6) (e : v 15 = nI m) (k : Nat) : ∀ (d i n j : Nat), i + d = 6 → d < n → (j = m ∧ (∀ x, x < i → x < m → ¬ k ≤ rk (prc v) m x)) ∨ (j < m ∧ k ≤ rk (prc v) m j ∧ ∀ x, x < i → x < m → k ≤ rk (prc v) m x → rk (prc v) m j ≤ rk (prc v) m x) → f_X0_nextByPrice_7 L n b (lat v m k) (nI j) (nI i) X = some (lat v m (k + 1)) := by
  intro d
  induction d with
  | zero =>
    intro i n j hi hn hj
    obtain rfl : i = 6 := by omega
    obtain ⟨q, rfl⟩ : ∃ q, n = q + 1 := ⟨n - 1, by omega⟩
    unfold f_X0_nextByPrice_7
    rw [if_pos (show (6 : Int32) ≤ nI 6 by decide)]
    rcases hj with ⟨rfl, h1⟩ | ⟨h1, h2, h3⟩
    · by_cases hk : k < j
      · obtain ⟨hp, ep⟩ := pk_spec (f := prc v) hk
        exact absurd (show k ≤ rk (prc v) j (pk_k (prc v) j k) by omega) (h1 _ (by omega) hp)
      · have e1 : lat v j (k + 1) = nI j := if_neg hk
        rw [e1]
    · have hr := rk_m (f := prc v) h1
      have hk : k < m := by omega
      obtain ⟨hp, ep⟩ := pk_spec (f := prc v) hk
      have h4 := h3 _ (by omega) hp (by omega)
      have e1 : lat v m (k + 1) = nI (pk_k (prc v) m k) := if_pos hk
      rw [e1, pk_uniq (f := prc v) hk h1 (by omega)]
  | succ d ih =>
    intro i n j hi hn hj
    obtain ⟨q, rfl⟩ : ∃ q, n = q + 1 := ⟨n - 1, by omega⟩
    have e5 := h.o5
    unfold f_X0_nextByPrice_7 f_X0_nextByPrice_39 f_X0_nextByPrice_41
    rw [if_neg (show ¬ (6 : Int32) ≤ nI i from fun z => absurd ((nle (i := i) (n := 6) (by omega) (by omega)).mp z) (by omega)), n1]
    by_cases him : i < m
    · rw [c_behind_l h hm e him, Option.bind_some, if_pos h.1.1.1]
      by_cases c : k ≤ rk (prc v) m i
      · rw [if_pos c, if_neg (show ¬ (1 : Int32) = 0 by decide), e5, e]
        rcases hj with ⟨rfl, h1⟩ | ⟨h1, h2, h3⟩
        · rw [if_pos rfl]
          exact ih (i + 1) q i (by omega) (by omega) (Or.inr ⟨him, c, fun x hx hxm hk => by
            by_cases z : x = i
            · subst z; omega
            · exact absurd hk (h1 x (by omega) hxm)⟩)
        · rw [if_neg (fun z => by have := (nI_eq (show j < 2 ^ 31 by omega) (show m < 2 ^ 31 by omega)).mp z; omega), c_behind h hm e h1 him, Option.bind_some]
          have hh := rk_iff (f := prc v) him h1
          by_cases c2 : plt (prc v) i j = true
          · have := hh.mp c2
            rw [if_pos c2, if_neg (show ¬ (1 : Int32) = 0 by decide)]
            exact ih (i + 1) q i (by omega) (by omega) (Or.inr ⟨him, c, fun x hx hxm hk => by
              by_cases z : x = i
              · subst z; omega
              · have := h3 x (by omega) hxm hk; omega⟩)
          · have : ¬ _ := fun z => c2 (hh.mpr z)
            rw [if_neg c2, if_pos rfl]
            exact ih (i + 1) q j (by omega) (by omega) (Or.inr ⟨h1, h2, fun x hx hxm hk => by
              by_cases z : x = i
              · subst z; omega
              · exact h3 x (by omega) hxm hk⟩)
      · rw [if_neg c, if_pos rfl]
        refine ih (i + 1) q j (by omega) (by omega) ?_
        rcases hj with ⟨rfl, h1⟩ | ⟨h1, h2, h3⟩
        · exact Or.inl ⟨rfl, fun x hx hxm => by
            by_cases z : x = i
            · subst z; exact c
            · exact h1 x (by omega) hxm⟩
        · exact Or.inr ⟨h1, h2, fun x hx hxm hk => by
            by_cases z : x = i
            · subst z; exact absurd hk c
            · exact h3 x (by omega) hxm hk⟩
    · rw [c_behind_n h hm e (by omega) him, Option.bind_some, if_pos h.1.1.1, if_pos rfl]
      refine ih (i + 1) q j (by omega) (by omega) ?_
      rcases hj with ⟨rfl, h1⟩ | ⟨h1, h2, h3⟩
      · exact Or.inl ⟨rfl, fun x hx hxm => h1 x (by omega) hxm⟩
      · exact Or.inr ⟨h1, h2, fun x hx hxm hk => h3 x (by omega) hxm hk⟩
theorem c_next (h : CX L X b π ρ v) {m : Nat} (hm : m ≤ 6) (e : v 15 = nI m) (k : Nat) : f_X0_nextByPrice L X b (lat v m k) = some (lat v m (k + 1)) := by
  have e5 := h.o5
  unfold f_X0_nextByPrice
  rw [if_pos h.1.1.1, e5, e]
  exact c_next_l h hm e k 6 0 u_fuel m rfl (by unfold u_fuel; omega) (Or.inl ⟨rfl, fun x hx => absurd hx (by omega)⟩)
theorem c_shop_l (h : CX L X b π ρ v) {m : Nat} (hm : m ≤ 6) (e : v 15 = nI m) (hR : ∀ p, p < m → RgP v p) {left : Int32} (what : Int32) : ∀ (d i n : Nat), i + d = 6 → d < n → f_X0_shopWith_14 L n b what (sst v m left (min i m)).1 (sst v m left (min i m)).2.1 (sst v m left (min i m)).2.2 (lat v m i) (nI i) X = some (shr (sst v m left m) what) := by
  intro d
  induction d with
  | zero =>
    intro i n hi hn
    obtain rfl : i = 6 := by omega
    obtain ⟨q, rfl⟩ : ∃ q, n = q + 1 := ⟨n - 1, by omega⟩
    unfold f_X0_shopWith_14
    rw [if_pos (show (6 : Int32) ≤ nI 6 by decide), show min 6 m = m by omega]
    unfold shr
    by_cases w0 : what = 0
    · rw [if_pos w0, if_pos w0]
    · rw [if_neg w0, if_neg w0]
      by_cases w1 : what = 1
      · rw [if_pos w1, if_pos w1]
      · rw [if_neg w1, if_neg w1]
  | succ d ih =>
    intro i n hi hn
    obtain ⟨q, rfl⟩ : ∃ q, n = q + 1 := ⟨n - 1, by omega⟩
    have ih := ih (i + 1) q (by omega) (by omega)
    unfold f_X0_shopWith_14 f_X0_shopWith_92
    rw [if_neg (show ¬ (6 : Int32) ≤ nI i from fun z => absurd ((nle (i := i) (n := 6) (by omega) (by omega)).mp z) (by omega)), c_next h hm e, Option.bind_some, if_pos h.1.1.1, c_prizeAt h hm e, Option.bind_some, n1]
    by_cases hk : i < m
    · obtain ⟨hp, ep⟩ := pk_spec (f := prc v) hk
      have e1 : lat v m (i + 1) = nI (pk_k (prc v) m i) := if_pos hk
      have h1 := (hR _ hp).1
      have p0 := h.pr (c := pk_k (prc v) m i) (j := 0) (by omega) (by omega)
      have p1 := h.pr (c := pk_k (prc v) m i) (j := 1) (by omega) (by omega)
      have p2 := h.pr (c := pk_k (prc v) m i) (j := 2) (by omega) (by omega)
      rw [e1] at ih ⊢
      rw [if_pos ((nR (by omega) (by omega)).mpr hp), Option.elim_some, nI_clamp (by omega), if_pos (pt h (by omega)), p0, s_quotient (show 0 < (v (52 + 7 * pk_k (prc v) m i + 0)).toInt by rw [Nat.add_zero]; omega), Option.bind_some, p1, p2]
      rw [show min (i + 1) m = i + 1 by omega] at ih
      rw [show min i m = i by omega]
      exact ih
    · have e1 : lat v m (i + 1) = nI m := if_neg hk
      rw [show min (i + 1) m = m by omega] at ih
      rw [e1] at ih ⊢
      rw [if_neg (fun z => absurd ((nR (show m < 2147483648 by omega) (show m < 2147483648 by omega)).mp z) (by omega)), Option.elim_none, show min i m = m by omega]
      exact ih
theorem c_shop (h : CX L X b π ρ v) {m : Nat} (hm : m ≤ 6) (e : v 15 = nI m) (hR : ∀ p, p < m → RgP v p) (left what : Int32) : f_X0_shopWith L X b left what = some (shr (sst v m left m) what) := by
  unfold f_X0_shopWith
  have := c_shop_l h hm e hR (left := left) what 6 0 u_fuel rfl (by unfold u_fuel; omega)
  rw [show min 0 m = 0 by omega] at this
  exact this
end SH
section SHM
variable {L : hL} {X : hX}
theorem m_ahead_l (hM : MOK L X) {m : Nat} (hm : m ≤ 6) (e : X.1 471 15 = nI m) {p : Nat} (hp : p < m) : ∀ (d i n : Nat), i + d = m → d < n → f_X10_ahead_4 L n 470 (nI p) (nI (cn (fun q => plt (prc (X.1 471)) q p) i)) (nI i) X = some (nI (rk (prc (X.1 471)) m p)) := by
  intro d
  induction d with
  | zero =>
    intro i n hi hn
    obtain rfl : i = m := by omega
    obtain ⟨q, rfl⟩ : ∃ q, n = q + 1 := ⟨n - 1, by omega⟩
    unfold f_X10_ahead_4
    simp only [if_pos hM.1.1, hM.2.2.1, Option.bind_some, if_pos hM.1.2.1, hM.2.1.1, show (15 < 284) = True from by decide, if_true, e]
    rw [if_pos ((nle (by omega) (by omega)).mpr (by omega))]
    rfl
  | succ d ih =>
    intro i n hi hn
    obtain ⟨q, rfl⟩ : ∃ q, n = q + 1 := ⟨n - 1, by omega⟩
    have ih := ih (i + 1) q (by omega) (by omega)
    have ec : cn (fun q => plt (prc (X.1 471)) q p) (i + 1) = cn (fun q => plt (prc (X.1 471)) q p) i + (if plt (prc (X.1 471)) i p = true then 1 else 0) := rfl
    rw [ec] at ih
    have p1 : f_X10_priced L X 470 (nI i) 0 = some (X.1 471 (52 + 7 * i)) := s_priced hM (by omega) (show 0 < 7 by omega)
    have p2 : f_X10_priced L X 470 (nI p) 0 = some (X.1 471 (52 + 7 * p)) := s_priced hM (by omega) (show 0 < 7 by omega)
    have eP : plt (prc (X.1 471)) i p = decide (X.1 471 (52 + 7 * i) < X.1 471 (52 + 7 * p) ∨ X.1 471 (52 + 7 * i) = X.1 471 (52 + 7 * p) ∧ i < p) := rfl
    have en : nI p ≤ nI i ↔ p ≤ i := nle (by omega) (by omega)
    unfold f_X10_ahead_4 f_X10_ahead_51 f_X10_ahead_55 f_X10_ahead_56
    simp only [if_pos hM.1.1, hM.2.2.1, Option.bind_some, if_pos hM.1.2.1, hM.2.1.1, show (15 < 284) = True from by decide, if_true, e, p1, p2, if_neg (fun z => absurd ((nle (i := i) (n := m) (by omega) (by omega)).mp z) (by omega)), n1, Int32.add_zero]
    have y1 : plt (prc (X.1 471)) i p = true → f_X10_ahead_4 L q 470 (nI p) (nI (cn (fun q => plt (prc (X.1 471)) q p) i) + 1) (nI (i + 1)) X = some (nI (rk (prc (X.1 471)) m p)) := by
      intro c
      rw [if_pos c] at ih
      rw [n1]
      exact ih
    have y0 : ¬ plt (prc (X.1 471)) i p = true → f_X10_ahead_4 L q 470 (nI p) (nI (cn (fun q => plt (prc (X.1 471)) q p) i)) (nI (i + 1)) X = some (nI (rk (prc (X.1 471)) m p)) := by
      intro c
      rw [if_neg c] at ih
      exact ih
    rw [n1] at y1
    by_cases c1 : X.1 471 (52 + 7 * i) < X.1 471 (52 + 7 * p)
    · rw [if_pos c1]
      exact y1 (by rw [eP]; exact decide_eq_true (Or.inl c1))
    · rw [if_neg c1]
      by_cases c2 : X.1 471 (52 + 7 * i) = X.1 471 (52 + 7 * p)
      · rw [if_pos c2]
        by_cases c3 : p ≤ i
        · rw [if_pos (en.mpr c3)]
          exact y0 (by rw [eP]; exact fun z => (of_decide_eq_true z).elim c1 (fun y => absurd y.2 (by omega)))
        · rw [if_neg (fun z => c3 (en.mp z))]
          exact y1 (by rw [eP]; exact decide_eq_true (Or.inr ⟨c2, by omega⟩))
      · rw [if_neg c2]
        exact y0 (by rw [eP]; exact fun z => (of_decide_eq_true z).elim c1 (fun y => c2 y.1))
theorem m_ahead (hM : MOK L X) {m : Nat} (hm : m ≤ 6) (e : X.1 471 15 = nI m) {p : Nat} (hp : p < m) : f_X10_ahead L X 470 (nI p) = some (nI (rk (prc (X.1 471)) m p)) := by
  unfold f_X10_ahead
  exact m_ahead_l hM hm e hp m 0 u_fuel (by omega) (by unfold u_fuel; omega)
theorem m_shop_in (hM : MOK L X) {m : Nat} (hm : m ≤ 6) (e : X.1 471 15 = nI m) (hR : ∀ p, p < m → RgP (X.1 471) p) {k : Nat} (hk : k < m) {left : Int32} (hl : 0 ≤ left.toInt) (what pc wt : Int32) (k36 : Nat → Int32 → Int32 → Int32 → Int32 → Int32 → hX → Option Int32) : ∀ (d i n : Nat), i + d = pk_k (prc (X.1 471)) m k → d < n → f_X10_shop_51 L k36 n 470 what left pc wt (nI k) (nI i) X = k36 470 what (left - sq (X.1 471) left (pk_k (prc (X.1 471)) m k) * prc (X.1 471) (pk_k (prc (X.1 471)) m k)) (pc + sq (X.1 471) left (pk_k (prc (X.1 471)) m k)) (wt + sq (X.1 471) left (pk_k (prc (X.1 471)) m k) * X.1 471 (52 + 7 * pk_k (prc (X.1 471)) m k + 1)) (nI (k + 1)) X := by
  obtain ⟨hp, ep⟩ := pk_spec (f := prc (X.1 471)) hk
  intro d
  induction d with
  | zero =>
    intro i n hi hn
    have hi : i = pk_k (prc (X.1 471)) m k := by omega
    rw [← hi] at hp ep ⊢
    obtain ⟨q, rfl⟩ : ∃ q, n = q + 1 := ⟨n - 1, by omega⟩
    have hr := hR i hp
    have p0 : f_X10_priced L X 470 (nI i) 0 = some (X.1 471 (52 + 7 * i)) := s_priced hM (by omega) (show 0 < 7 by omega)
    have p1 : f_X10_priced L X 470 (nI i) 1 = some (X.1 471 (52 + 7 * i + 1)) := s_priced hM (by omega) (show 1 < 7 by omega)
    have p2 : f_X10_priced L X 470 (nI i) 2 = some (X.1 471 (52 + 7 * i + 2)) := s_priced hM (by omega) (show 2 < 7 by omega)
    have d1 : left / X.1 471 (52 + 7 * i) = fl left (prc (X.1 471) i) := fl_div hl (by have := hr.1; omega)
    unfold f_X10_shop_51 f_X10_shop_103
    rw [m_ahead hM hm e hp, Option.bind_some, if_pos hM.1.1, ep, if_pos rfl, p0, Option.bind_some, if_pos (i_nz (by have := hr.1; omega)), p2, Option.bind_some, d1]
    simp only [Option.bind_some, if_pos hM.1.1, p1, n1]
    have es : sq (X.1 471) left i = if fl left (prc (X.1 471) i) < X.1 471 (52 + 7 * i + 2) then fl left (prc (X.1 471) i) else X.1 471 (52 + 7 * i + 2) := rfl
    by_cases c : fl left (prc (X.1 471) i) ≤ X.1 471 (52 + 7 * i + 2)
    · have : fl left (prc (X.1 471) i) = sq (X.1 471) left i := by
        rw [es]
        by_cases c2 : fl left (prc (X.1 471) i) < X.1 471 (52 + 7 * i + 2)
        · rw [if_pos c2]
        · have c' := i_le.mp c
          have c2' : ¬ _ := fun z => c2 (i_lt.mpr z)
          rw [if_neg c2]
          exact Int32.toInt_inj.mp (by omega)
      rw [if_pos c, this]
      rfl
    · have : X.1 471 (52 + 7 * i + 2) = sq (X.1 471) left i := by
        have c' : ¬ _ := fun z => c (i_le.mpr z)
        rw [es, if_neg (fun z => by have := i_lt.mp z; omega)]
      rw [if_neg c, this]
      rfl
  | succ d ih =>
    intro i n hi hn
    obtain ⟨q, rfl⟩ : ∃ q, n = q + 1 := ⟨n - 1, by omega⟩
    have him : i < m := by omega
    have hr := rk_m (f := prc (X.1 471)) him
    unfold f_X10_shop_51
    rw [m_ahead hM hm e him, Option.bind_some, if_pos hM.1.1, if_neg, n1]
    · exact ih (i + 1) q (by omega) (by omega)
    · intro z
      have := (nI_eq (show rk (prc (X.1 471)) m i < 2 ^ 31 by omega) (show k < 2 ^ 31 by omega)).mp z
      have := rk_inj (f := prc (X.1 471)) him hp (by omega)
      omega
theorem m_shop_l (hM : MOK L X) {m : Nat} (hm : m ≤ 6) (e : X.1 471 15 = nI m) (hR : ∀ p, p < m → RgP (X.1 471) p) {left : Int32} (hl : 0 ≤ left.toInt) (what : Int32) : ∀ (d k n : Nat), k + d = m → d < n → f_X10_shop_36 L n 470 what (sst (X.1 471) m left k).1 (sst (X.1 471) m left k).2.1 (sst (X.1 471) m left k).2.2 (nI k) X = some (shr (sst (X.1 471) m left m) what) := by
  intro d
  induction d with
  | zero =>
    intro k n hi hn
    obtain rfl : k = m := by omega
    obtain ⟨q, rfl⟩ : ∃ q, n = q + 1 := ⟨n - 1, by omega⟩
    unfold f_X10_shop_36
    rw [if_pos hM.1.1, hM.2.2.1, Option.bind_some, if_pos hM.1.2.1, hM.2.1.1, if_pos (by decide), e, if_pos ((nle (by omega) (by omega)).mpr (by omega))]
    unfold shr
    by_cases w0 : what = 0
    · rw [if_pos w0, if_pos w0]
    · rw [if_neg w0, if_neg w0]
      by_cases w1 : what = 1
      · rw [if_pos w1, if_pos w1]
      · rw [if_neg w1, if_neg w1]
  | succ d ih =>
    intro k n hi hn
    obtain ⟨q, rfl⟩ : ∃ q, n = q + 1 := ⟨n - 1, by omega⟩
    have ih := ih (k + 1) q (by omega) (by omega)
    obtain ⟨hp, -⟩ := pk_spec (f := prc (X.1 471)) (show k < m by omega)
    unfold f_X10_shop_36
    rw [if_pos hM.1.1, hM.2.2.1, Option.bind_some, if_pos hM.1.2.1, hM.2.1.1, if_pos (by decide), e, if_neg (fun z => absurd ((nle (i := k) (n := m) (by omega) (by omega)).mp z) (by omega))]
    exact (m_shop_in hM hm e hR (show k < m by omega) (sst_0 hR hl k (by omega)) what (sst (X.1 471) m left k).2.1 (sst (X.1 471) m left k).2.2 (f_X10_shop_36 L q) (pk_k (prc (X.1 471)) m k) 0 u_fuel (by omega) (by unfold u_fuel; omega)).trans ih
theorem m_shop (hM : MOK L X) {m : Nat} (hm : m ≤ 6) (e : X.1 471 15 = nI m) (hR : ∀ p, p < m → RgP (X.1 471) p) {left : Int32} (hl : 0 ≤ left.toInt) (what : Int32) : f_X10_shop_36 L u_fuel 470 what left 0 0 0 X = some (shr (sst (X.1 471) m left m) what) := m_shop_l hM hm e hR hl what m 0 u_fuel (by omega) (by unfold u_fuel; omega)
end SHM
