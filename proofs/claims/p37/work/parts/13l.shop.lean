/-! the shop: dearer and dearer -/
def prc (v : Nat → Int32) (p : Nat) : Int32 := v (52 + 7 * p)
def sq (v : Nat → Int32) (left : Int32) (p : Nat) : Int32 := if fl left (prc v p) < v (52 + 7 * p + 2) then fl left (prc v p) else v (52 + 7 * p + 2)
def sst (v : Nat → Int32) (m : Nat) (left : Int32) : Nat → Int32 × Int32 × Int32
  | 0 => (left, 0, 0)
  | k + 1 => ((sst v m left k).1 - sq v (sst v m left k).1 (pk_k (prc v) m k) * prc v (pk_k (prc v) m k), (sst v m left k).2.1 + sq v (sst v m left k).1 (pk_k (prc v) m k), (sst v m left k).2.2 + sq v (sst v m left k).1 (pk_k (prc v) m k) * v (52 + 7 * pk_k (prc v) m k + 1))
def shr (t : Int32 × Int32 × Int32) (what : Int32) : Int32 := if what = 0 then t.2.1 else if what = 1 then t.1 else t.2.2
theorem sq_i {v : Nat → Int32} {p : Nat} (hR : RgP v p) {left : Int32} (h : 0 ≤ left.toInt) : 0 ≤ (sq v left p).toInt ∧ (sq v left p * prc v p).toInt ≤ left.toInt ∧ 0 ≤ (sq v left p * prc v p).toInt := by
  obtain ⟨h1, -, h2, -⟩ := hR
  have hp : (prc v p).toInt = (v (52 + 7 * p)).toInt := rfl
  have f := fl_i (a := left) (b := prc v p) (by omega)
  have e0 := Int.ediv_nonneg (a := left.toInt) (b := (prc v p).toInt) (by omega) (by omega)
  have m1 := Int.mul_ediv_self_le (x := left.toInt) (k := (prc v p).toInt) (by omega)
  rw [Int.mul_comm] at m1
  have rl := i_rng left
  have key : ∀ q : Int32, 0 ≤ q.toInt → q.toInt ≤ left.toInt / (prc v p).toInt → 0 ≤ q.toInt ∧ (q * prc v p).toInt ≤ left.toInt ∧ 0 ≤ (q * prc v p).toInt := by
    intro q h0 hq
    have a1 : q.toInt * (prc v p).toInt ≤ left.toInt / (prc v p).toInt * (prc v p).toInt := Int.mul_le_mul_of_nonneg_right hq (by omega)
    have a2 : 0 ≤ q.toInt * (prc v p).toInt := Int.mul_nonneg h0 (by omega)
    rw [i_mul (by omega) (by omega)]
    omega
  unfold sq
  by_cases c : fl left (prc v p) < v (52 + 7 * p + 2)
  · rw [if_pos c]
    exact key _ (by omega) (by omega)
  · have c' : ¬ (fl left (prc v p)).toInt < (v (52 + 7 * p + 2)).toInt := fun z => c (i_lt.mpr z)
    rw [if_neg c]
    exact key _ (by omega) (by omega)
theorem sst_0 {v : Nat → Int32} {m : Nat} (hR : ∀ p, p < m → RgP v p) {left : Int32} (h : 0 ≤ left.toInt) : ∀ k, k ≤ m → 0 ≤ (sst v m left k).1.toInt := by
  intro k
  induction k with
  | zero => intro _; exact h
  | succ k ih =>
    intro hk
    have ih := ih (by omega)
    obtain ⟨hp, -⟩ := pk_spec (f := prc v) (m := m) (k := k) (by omega)
    obtain ⟨-, a2, a3⟩ := sq_i (hR _ hp) ih
    have := i_rng (sst v m left k).1
    show 0 ≤ ((sst v m left k).1 - sq v (sst v m left k).1 (pk_k (prc v) m k) * prc v (pk_k (prc v) m k)).toInt
    rw [i_sub (by omega) (by omega)]
    omega
/-- what the latest prize is, by how many came before -/
def lat (v : Nat → Int32) (m : Nat) : Nat → Int32
  | 0 => -1
  | k + 1 => if k < m then nI (pk_k (prc v) m k) else nI m
section SH
variable {L : hL} {X : hX} {b : Nat} {π ρ : Nat → Nat} {v : Nat → Int32}
theorem nR {i m : Nat} (hi : i < 2147483648) (hm : m < 2147483648) : isR (nI i) m ↔ i < m := by
  unfold isR
  rw [i_le, i_lt, nI_toInt hi, nI_toInt hm, z0i]
  omega
theorem m1R {m : Nat} : ¬ isR (-1) m := fun h => by have := i_le.mp h.1; rw [z0i, show (-1 : Int32).toInt = -1 by decide] at this; omega
theorem c_behind (h : CX L X b π ρ v) {m : Nat} (hm : m ≤ 6) (e : v 15 = nI m) {i q : Nat} (hi : i < m) (hq : q < m) : f_X0_isBehind L X b (nI i) (nI q) = some (if plt (prc v) q i = true then 1 else 0) := by
  have p1 := h.pr (c := i) (j := 0) (by omega) (by omega)
  have p2 := h.pr (c := q) (j := 0) (by omega) (by omega)
  unfold f_X0_isBehind
  simp only [c_prizeAt h hm e, if_pos ((nR (by omega) (by omega)).mpr hi), if_pos ((nR (by omega) (by omega)).mpr hq), Option.bind_some, if_pos h.1.1.1, Option.elim_some, nI_clamp (show i < 2 ^ 31 by omega), nI_clamp (show q < 2 ^ 31 by omega), if_pos (pt h (show i < 6 by omega)), if_pos (pt h (show q < 6 by omega)), p1, p2, Nat.add_zero]
  have eP : plt (prc v) q i = decide (v (52 + 7 * q) < v (52 + 7 * i) ∨ v (52 + 7 * q) = v (52 + 7 * i) ∧ q < i) := rfl
  have en : nI i ≤ nI q ↔ i ≤ q := nle (by omega) (by omega)
  rw [eP]
  by_cases c1 : v (52 + 7 * q) < v (52 + 7 * i)
  · rw [if_pos c1, if_pos (decide_eq_true (Or.inl c1))]
  · rw [if_neg c1]
    by_cases c2 : v (52 + 7 * i) = v (52 + 7 * q)
    · rw [if_pos c2]
      by_cases c3 : i ≤ q
      · rw [if_pos (en.mpr c3), if_neg (fun z => (of_decide_eq_true z).elim c1 (fun y => absurd y.2 (by omega)))]
      · rw [if_neg (fun z => c3 (en.mp z)), if_pos (decide_eq_true (Or.inr ⟨c2.symm, by omega⟩))]
    · rw [if_neg c2, if_neg (fun z => (of_decide_eq_true z).elim c1 (fun y => c2 y.1.symm))]
theorem c_behind_n (h : CX L X b π ρ v) {m : Nat} (hm : m ≤ 6) (e : v 15 = nI m) {i : Nat} (hi : i < 6) (hin : ¬ i < m) (q : Int32) : f_X0_isBehind L X b (nI i) q = some 0 := by
  unfold f_X0_isBehind
  simp only [c_prizeAt h hm e, if_neg (fun z => hin ((nR (show i < 2147483648 by omega) (show m < 2147483648 by omega)).mp z)), Option.bind_some, if_pos h.1.1.1, Option.elim_none]
  by_cases c : isR q m
  · simp only [if_pos c, Option.elim_some]
  · simp only [if_neg c, Option.elim_none]
theorem c_behind_l (h : CX L X b π ρ v) {m : Nat} (hm : m ≤ 6) (e : v 15 = nI m) {i k : Nat} (hi : i < m) : f_X0_isBehind L X b (nI i) (lat v m k) = some (if k ≤ rk (prc v) m i then 1 else 0) := by
  have hr := rk_m (f := prc v) hi
  have none_ : ∀ q : Int32, ¬ isR q m → f_X0_isBehind L X b (nI i) q = some (if 0 ≤ q then 0 else 1) := by
    intro q hq
    unfold f_X0_isBehind
    simp only [c_prizeAt h hm e, if_pos ((nR (show i < 2147483648 by omega) (show m < 2147483648 by omega)).mpr hi), if_neg hq, Option.bind_some, if_pos h.1.1.1, Option.elim_none, Option.elim_some]
    by_cases c : 0 ≤ q
    · rw [if_pos c, if_pos c]
    · rw [if_neg c, if_neg c]
  cases k with
  | zero =>
    rw [if_pos (Nat.zero_le _)]
    exact (none_ (-1) m1R).trans (congrArg some (if_neg (by decide)))
  | succ k =>
    by_cases hk : k < m
    · obtain ⟨hp, ep⟩ := pk_spec (f := prc v) hk
      have e1 : lat v m (k + 1) = nI (pk_k (prc v) m k) := if_pos hk
      have hh := rk_iff (f := prc v) hp hi
      rw [e1, c_behind h hm e hi hp]
      by_cases c : k + 1 ≤ rk (prc v) m i
      · rw [if_pos c, if_pos (hh.mpr (by omega))]
      · rw [if_neg c, if_neg (fun z => by have := hh.mp z; omega)]
    · have e1 : lat v m (k + 1) = nI m := if_neg hk
      rw [e1, none_ _ (fun z => absurd ((nR (show m < 2147483648 by omega) (show m < 2147483648 by omega)).mp z) (by omega)), if_pos (nI_pos' (by omega)), if_neg (by omega)]
theorem c_next_l (h : CX L X b π ρ v) {m : Nat} (hm : m ≤ 6) (e : v 15 = nI m) (k : Nat) : ∀ (d i n j : Nat), i + d = 6 → d < n → (j = m ∧ (∀ x, x < i → x < m → ¬ k ≤ rk (prc v) m x)) ∨ (j < m ∧ k ≤ rk (prc v) m j ∧ ∀ x, x < i → x < m → k ≤ rk (prc v) m x → rk (prc v) m j ≤ rk (prc v) m x) → f_X0_nextByPrice_7 L n b (lat v m k) (nI j) (nI i) X = some (lat v m (k + 1)) := by
  intro d
  induction d with
  | zero =>
    intro i n j hi hn hj
    obtain rfl : i = 6 := by omega
    obtain ⟨q, rfl⟩ : ∃ q, n = q + 1 := ⟨n - 1, by omega⟩
    unfold f_X0_nextByPrice_7
    rw [if_pos (show (6 : Int32) ≤ nI 6 by decide)]
    rcases hj with ⟨rfl, h1⟩ | ⟨h1, h2, h3⟩
    · by_cases hk : k < j
      · obtain ⟨hp, ep⟩ := pk_spec (f := prc v) hk
        exact absurd (show k ≤ rk (prc v) j (pk_k (prc v) j k) by omega) (h1 _ (by omega) hp)
      · have e1 : lat v j (k + 1) = nI j := if_neg hk
        rw [e1]
    · have hr := rk_m (f := prc v) h1
      have hk : k < m := by omega
      obtain ⟨hp, ep⟩ := pk_spec (f := prc v) hk
      have h4 := h3 _ (by omega) hp (by omega)
      have e1 : lat v m (k + 1) = nI (pk_k (prc v) m k) := if_pos hk
      rw [e1, pk_uniq (f := prc v) hk h1 (by omega)]
  | succ d ih =>
    intro i n j hi hn hj
    obtain ⟨q, rfl⟩ : ∃ q, n = q + 1 := ⟨n - 1, by omega⟩
    have e5 := h.o5
    unfold f_X0_nextByPrice_7 f_X0_nextByPrice_39 f_X0_nextByPrice_41
    rw [if_neg (show ¬ (6 : Int32) ≤ nI i from fun z => absurd ((nle (i := i) (n := 6) (by omega) (by omega)).mp z) (by omega)), n1]
    by_cases him : i < m
    · rw [c_behind_l h hm e him, Option.bind_some, if_pos h.1.1.1]
      by_cases c : k ≤ rk (prc v) m i
      · rw [if_pos c, if_neg (show ¬ (1 : Int32) = 0 by decide), e5, e]
        rcases hj with ⟨rfl, h1⟩ | ⟨h1, h2, h3⟩
        · rw [if_pos rfl]
          exact ih (i + 1) q i (by omega) (by omega) (Or.inr ⟨him, c, fun x hx hxm hk => by
            by_cases z : x = i
            · subst z; omega
            · exact absurd hk (h1 x (by omega) hxm)⟩)
        · rw [if_neg (fun z => by have := (nI_eq (show j < 2 ^ 31 by omega) (show m < 2 ^ 31 by omega)).mp z; omega), c_behind h hm e h1 him, Option.bind_some]
          have hh := rk_iff (f := prc v) him h1
          by_cases c2 : plt (prc v) i j = true
          · have := hh.mp c2
            rw [if_pos c2, if_neg (show ¬ (1 : Int32) = 0 by decide)]
            exact ih (i + 1) q i (by omega) (by omega) (Or.inr ⟨him, c, fun x hx hxm hk => by
              by_cases z : x = i
              · subst z; omega
              · have := h3 x (by omega) hxm hk; omega⟩)
          · have : ¬ _ := fun z => c2 (hh.mpr z)
            rw [if_neg c2, if_pos rfl]
            exact ih (i + 1) q j (by omega) (by omega) (Or.inr ⟨h1, h2, fun x hx hxm hk => by
              by_cases z : x = i
              · subst z; omega
              · exact h3 x (by omega) hxm hk⟩)
      · rw [if_neg c, if_pos rfl]
        refine ih (i + 1) q j (by omega) (by omega) ?_
        rcases hj with ⟨rfl, h1⟩ | ⟨h1, h2, h3⟩
        · exact Or.inl ⟨rfl, fun x hx hxm => by
            by_cases z : x = i
            · subst z; exact c
            · exact h1 x (by omega) hxm⟩
        · exact Or.inr ⟨h1, h2, fun x hx hxm hk => by
            by_cases z : x = i
            · subst z; exact absurd hk c
            · exact h3 x (by omega) hxm hk⟩
    · rw [c_behind_n h hm e (by omega) him, Option.bind_some, if_pos h.1.1.1, if_pos rfl]
      refine ih (i + 1) q j (by omega) (by omega) ?_
      rcases hj with ⟨rfl, h1⟩ | ⟨h1, h2, h3⟩
      · exact Or.inl ⟨rfl, fun x hx hxm => h1 x (by omega) hxm⟩
      · exact Or.inr ⟨h1, h2, fun x hx hxm hk => h3 x (by omega) hxm hk⟩
theorem c_next (h : CX L X b π ρ v) {m : Nat} (hm : m ≤ 6) (e : v 15 = nI m) (k : Nat) : f_X0_nextByPrice L X b (lat v m k) = some (lat v m (k + 1)) := by
  have e5 := h.o5
  unfold f_X0_nextByPrice
  rw [if_pos h.1.1.1, e5, e]
  exact c_next_l h hm e k 6 0 u_fuel m rfl (by unfold u_fuel; omega) (Or.inl ⟨rfl, fun x hx => absurd hx (by omega)⟩)
theorem c_shop_l (h : CX L X b π ρ v) {m : Nat} (hm : m ≤ 6) (e : v 15 = nI m) (hR : ∀ p, p < m → RgP v p) {left : Int32} (what : Int32) : ∀ (d i n : Nat), i + d = 6 → d < n → f_X0_shopWith_14 L n b what (sst v m left (min i m)).1 (sst v m left (min i m)).2.1 (sst v m left (min i m)).2.2 (lat v m i) (nI i) X = some (shr (sst v m left m) what) := by
  intro d
  induction d with
  | zero =>
    intro i n hi hn
    obtain rfl : i = 6 := by omega
    obtain ⟨q, rfl⟩ : ∃ q, n = q + 1 := ⟨n - 1, by omega⟩
    unfold f_X0_shopWith_14
    rw [if_pos (show (6 : Int32) ≤ nI 6 by decide), show min 6 m = m by omega]
    unfold shr
    by_cases w0 : what = 0
    · rw [if_pos w0, if_pos w0]
    · rw [if_neg w0, if_neg w0]
      by_cases w1 : what = 1
      · rw [if_pos w1, if_pos w1]
      · rw [if_neg w1, if_neg w1]
  | succ d ih =>
    intro i n hi hn
    obtain ⟨q, rfl⟩ : ∃ q, n = q + 1 := ⟨n - 1, by omega⟩
    have ih := ih (i + 1) q (by omega) (by omega)
    unfold f_X0_shopWith_14 f_X0_shopWith_92
    rw [if_neg (show ¬ (6 : Int32) ≤ nI i from fun z => absurd ((nle (i := i) (n := 6) (by omega) (by omega)).mp z) (by omega)), c_next h hm e, Option.bind_some, if_pos h.1.1.1, c_prizeAt h hm e, Option.bind_some, n1]
    by_cases hk : i < m
    · obtain ⟨hp, ep⟩ := pk_spec (f := prc v) hk
      have e1 : lat v m (i + 1) = nI (pk_k (prc v) m i) := if_pos hk
      have h1 := (hR _ hp).1
      have p0 := h.pr (c := pk_k (prc v) m i) (j := 0) (by omega) (by omega)
      have p1 := h.pr (c := pk_k (prc v) m i) (j := 1) (by omega) (by omega)
      have p2 := h.pr (c := pk_k (prc v) m i) (j := 2) (by omega) (by omega)
      rw [e1] at ih ⊢
      rw [if_pos ((nR (by omega) (by omega)).mpr hp), Option.elim_some, nI_clamp (by omega), if_pos (pt h (by omega)), p0, s_quotient (show 0 < (v (52 + 7 * pk_k (prc v) m i + 0)).toInt by rw [Nat.add_zero]; omega), Option.bind_some, p1, p2]
      rw [show min (i + 1) m = i + 1 by omega] at ih
      rw [show min i m = i by omega]
      exact ih
    · have e1 : lat v m (i + 1) = nI m := if_neg hk
      rw [show min (i + 1) m = m by omega] at ih
      rw [e1] at ih ⊢
      rw [if_neg (fun z => absurd ((nR (show m < 2147483648 by omega) (show m < 2147483648 by omega)).mp z) (by omega)), Option.elim_none, show min i m = m by omega]
      exact ih
theorem c_shop (h : CX L X b π ρ v) {m : Nat} (hm : m ≤ 6) (e : v 15 = nI m) (hR : ∀ p, p < m → RgP v p) (left what : Int32) : f_X0_shopWith L X b left what = some (shr (sst v m left m) what) := by
  unfold f_X0_shopWith
  have := c_shop_l h hm e hR (left := left) what 6 0 u_fuel rfl (by unfold u_fuel; omega)
  rw [show min 0 m = 0 by omega] at this
  exact this
end SH
section SHM
variable {L : hL} {X : hX}
end SHM
