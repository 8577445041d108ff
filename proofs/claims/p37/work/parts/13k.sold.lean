/-! a prize that is sold out piece by piece -/
def soL (w mk bx : Int32) : Nat → Nat → Int32 → Int32 → Int32
  | 0, _, _, _ => -100009
  | d + 1, i, st, so => if st = 0 then nI i else soL w mk bx d (i + 1) (se_stock st so w 1 mk bx) (se_sold so w 1 mk)
theorem se_sold_i {so w mk : Int32} (h1 : 1 ≤ w.toInt ∧ w.toInt ≤ 20000) (h3 : 1 ≤ mk.toInt ∧ mk.toInt ≤ 100000) (h5 : 0 ≤ so.toInt ∧ so.toInt < mk.toInt) : (so + 1 * w).toInt = so.toInt + w.toInt ∧ 0 ≤ (se_sold so w 1 mk).toInt ∧ (se_sold so w 1 mk).toInt < mk.toInt := by
  have e1 : (so + 1 * w).toInt = so.toInt + w.toInt := by rw [Int32.one_mul, i_add (by omega) (by omega)]
  have f := fl_i (a := so + 1 * w) (b := mk) (by omega)
  have m1 := Int.mul_ediv_add_emod (so + 1 * w).toInt mk.toInt
  have m2 := Int.emod_nonneg (so + 1 * w).toInt (by omega : mk.toInt ≠ 0)
  have m3 := Int.emod_lt_of_pos (so + 1 * w).toInt (by omega : 0 < mk.toInt)
  have m4 := Int.mul_comm mk.toInt ((so + 1 * w).toInt / mk.toInt)
  have m5 : (fl (so + 1 * w) mk * mk).toInt = (so + 1 * w).toInt / mk.toInt * mk.toInt := by rw [i_mul (by rw [f]; omega) (by rw [f]; omega), f]
  refine ⟨e1, ?_⟩
  unfold se_sold
  rw [i_sub (by omega) (by omega), m5]
  omega
theorem c_sellOut_l {L : hL} {a : Nat} (ta : tk L a 5) {w mk bx : Int32} (h1 : 1 ≤ w.toInt ∧ w.toInt ≤ 20000) (h3 : 1 ≤ mk.toInt ∧ mk.toInt ≤ 100000) (h4 : 1 ≤ bx.toInt ∧ bx.toInt ≤ 100000) : ∀ (d i n : Nat) (X : hX), i + d = 1000 → d < n → X.1 a 1 = w → X.1 a 3 = mk → X.1 a 4 = bx → 0 ≤ (X.1 a 5).toInt → (X.1 a 5).toInt < mk.toInt → 0 ≤ (X.1 a 2).toInt ∧ (X.1 a 2).toInt ≤ 99 → ∃ X', f_X5_sellOut_2 L n a (nI i) X = some (soL w mk bx d i (X.1 a 2) (X.1 a 5), X') ∧ X'.2 = X.2 ∧ ∀ k, k ≠ a → X'.1 k = X.1 k := by
  intro d
  induction d with
  | zero =>
    intro i n X hi hn _ _ _ _ _ _
    obtain rfl : i = 1000 := by omega
    obtain ⟨m, rfl⟩ : ∃ m, n = m + 1 := ⟨n - 1, by omega⟩
    unfold f_X5_sellOut_2
    rw [if_pos (show (999 : Int32) < nI 1000 by decide)]
    exact ⟨_, rfl, rfl, fun _ _ => rfl⟩
  | succ d ih =>
    intro i n X hi hn e1 e3 e4 h5 h5' h2
    obtain ⟨m, rfl⟩ : ∃ m, n = m + 1 := ⟨n - 1, by omega⟩
    unfold f_X5_sellOut_2 soL
    rw [if_neg (show ¬ (999 : Int32) < nI i from fun q => absurd ((nlt (i := i) (n := 999) (by omega) (by omega)).mp q) (by omega)), if_pos ta]
    by_cases c : X.1 a 2 = 0
    · rw [if_pos c, if_pos c]
      exact ⟨_, rfl, rfl, fun _ _ => rfl⟩
    · rw [if_neg c, if_neg c]
      have c1 : (X.1 a 2).toInt ≠ 0 := fun q => c (i_eq.mpr q)
      have y1 : (1 : Int32).toInt = 1 := by decide
      have hst : (1 : Int32).toInt ≤ (X.1 a 2).toInt ∧ (X.1 a 2).toInt ≤ 99 := by omega
      obtain ⟨Y, hY, rfl⟩ := s_sell (L := L) (X := X) (a := a) (n := 1) ta (by decide) hst (by rw [e1]; exact h1) (by rw [e3]; exact h3) (by rw [e4]; exact h4) (by rw [e3]; exact ⟨h5, h5'⟩)
      rw [hY, Option.bind_some, n1, e1, e3, e4]
      obtain ⟨s1, s2, s3⟩ := se_sold_i (so := X.1 a 5) h1 h3 ⟨h5, h5'⟩
      obtain ⟨Z, hZ, hZ2, hZ3⟩ := ih (i + 1) m (smi (smi (smi (smi (smi X a 2 (X.1 a 2 - 1)) a 5 (X.1 a 5 + 1 * w)) a 5 (se_sold (X.1 a 5) w 1 mk)) a 6 (X.1 a 6 + fl (X.1 a 5 + 1 * w) mk)) a 2 (se_stock (X.1 a 2) (X.1 a 5) w 1 mk bx)) (by omega) (by omega) (by simp (disch := omega) only [smi_d, pk_us, pk_un]; exact e1) (by simp (disch := omega) only [smi_d, pk_us, pk_un]; exact e3) (by simp (disch := omega) only [smi_d, pk_us, pk_un]; exact e4) (by simp (disch := omega) only [smi_d, pk_us, pk_un]; exact s2) (by simp (disch := omega) only [smi_d, pk_us, pk_un]; exact s3) (by simp (disch := omega) only [smi_d, pk_us, pk_un]; exact (se_i (by decide) hst h1 h3 h4.1 ⟨h5, h5'⟩).1)
      rw [hZ]
      simp (disch := omega) only [smi_d, pk_us, pk_un]
      exact ⟨_, rfl, hZ2, fun k hk => (hZ3 k hk).trans (by simp only [smi_o hk])⟩
theorem s_pcopy {L : hL} {X : hX} {a c : Nat} (ta : tk L a 5) (tc : tk L c 5) (h : c ≠ a) : f_X5_copyFrom L X a c = some (smi (smi (smi (smi (smi (smi (smi X a 0 (X.1 c 0)) a 1 (X.1 c 1)) a 2 (X.1 c 2)) a 3 (X.1 c 3)) a 4 (X.1 c 4)) a 5 (X.1 c 5)) a 6 (X.1 c 6)) := by
  unfold f_X5_copyFrom
  rw [if_pos tc, if_pos ta]
  simp only [smi_o h]
/-! ranks of prizes by price, then number -/
def plt (f : Nat → Int32) (q p : Nat) : Bool := decide (f q < f p ∨ f q = f p ∧ q < p)
def rk (f : Nat → Int32) (m p : Nat) : Nat := cn (fun q => plt f q p) m
theorem plt_iff {f : Nat → Int32} {q p : Nat} : plt f q p = true ↔ (f q).toInt < (f p).toInt ∨ (f q).toInt = (f p).toInt ∧ q < p := by
  unfold plt
  rw [decide_eq_true_eq, i_lt, i_eq]
theorem cn_lt {a b : Nat → Bool} : ∀ m, (∀ x, x < m → a x = true → b x = true) → cn a m ≤ cn b m ∧ ((∃ x, x < m ∧ a x = false ∧ b x = true) → cn a m < cn b m) := by
  intro m
  induction m with
  | zero => intro _; exact ⟨Nat.le_refl _, fun ⟨x, hx, _⟩ => absurd hx (by omega)⟩
  | succ m ih =>
    intro h
    obtain ⟨h1, h2⟩ := ih (fun x hx => h x (by omega))
    unfold cn
    have hm := h m (by omega)
    constructor
    · cases ha : a m with
      | false =>
        rw [if_neg Bool.false_ne_true]; omega
      | true =>
        rw [ha] at hm; rw [hm rfl]; omega
    · intro ⟨x, hx, hax, hbx⟩
      by_cases q : x = m
      · subst q
        rw [hax, hbx, if_neg Bool.false_ne_true, if_pos rfl]
        omega
      · have := h2 ⟨x, by omega, hax, hbx⟩
        cases ha : a m with
        | false =>
          rw [if_neg Bool.false_ne_true]; omega
        | true =>
          rw [ha] at hm; rw [hm rfl]; omega
theorem plt_pp {f : Nat → Int32} {p : Nat} : plt f p p = false := by
  cases h : plt f p p with
  | false => rfl
  | true => have := plt_iff.mp h; omega
theorem rk_lt {f : Nat → Int32} {m q p : Nat} (hq : q < m) (h : plt f q p = true) : rk f m q < rk f m p := by
  refine (cn_lt m (fun x _ hx => ?_)).2 ⟨q, hq, plt_pp, h⟩
  have h1 := plt_iff.mp hx
  have h2 := plt_iff.mp h
  exact plt_iff.mpr (by omega)
theorem rk_iff {f : Nat → Int32} {m q p : Nat} (hq : q < m) (hp : p < m) : plt f q p = true ↔ rk f m q < rk f m p := by
  refine ⟨rk_lt hq, fun h => ?_⟩
  by_cases c : plt f q p = true
  · exact c
  · have c' : ¬ _ := fun z => c (plt_iff.mpr z)
    by_cases e : q = p
    · subst e; omega
    · have := rk_lt hp (plt_iff.mpr (show (f p).toInt < (f q).toInt ∨ (f p).toInt = (f q).toInt ∧ p < q by omega))
      omega
theorem rk_inj {f : Nat → Int32} {m q p : Nat} (hq : q < m) (hp : p < m) (h : rk f m q = rk f m p) : q = p := by
  by_cases e : q = p
  · exact e
  · by_cases c : plt f q p = true
    · have := rk_lt hq c; omega
    · have c' : ¬ _ := fun z => c (plt_iff.mpr z)
      have := rk_lt hp (plt_iff.mpr (show (f p).toInt < (f q).toInt ∨ (f p).toInt = (f q).toInt ∧ p < q by omega))
      omega
theorem cn_t : ∀ m, cn (fun _ => true) m = m := by
  intro m
  induction m with
  | zero => rfl
  | succ m ih => unfold cn; rw [ih, if_pos rfl]
theorem rk_m {f : Nat → Int32} {m p : Nat} (hp : p < m) : rk f m p < m := by
  have := (cn_lt (a := fun q => plt f q p) (b := fun _ => true) m (fun x _ _ => rfl)).2 ⟨p, hp, plt_pp, rfl⟩
  rw [cn_t] at this
  exact this
theorem surj : ∀ (m : Nat) (g : Nat → Nat), (∀ i, i < m → g i < m) → (∀ i j, i < m → j < m → g i = g j → i = j) → ∀ k, k < m → ∃ i, i < m ∧ g i = k := by
  intro m
  induction m with
  | zero => intro g _ _ k hk; exact absurd hk (by omega)
  | succ m ih =>
    intro g h1 h2 k hk
    by_cases ht : g m = m
    · by_cases hkm : k = m
      · exact ⟨m, by omega, by omega⟩
      · obtain ⟨i, hi, e⟩ := ih g (fun i hi => by
          have a := h1 i (by omega)
          by_cases q : g i = m
          · have := h2 i m (by omega) (by omega) (by omega); omega
          · omega) (fun i j hi hj => h2 i j (by omega) (by omega)) k (by omega)
        exact ⟨i, by omega, e⟩
    · have htm := h1 m (by omega)
      have key := ih (fun i => if g i = m then g m else g i) (fun i hi => by
          have a := h1 i (by omega)
          show (if g i = m then g m else g i) < m
          by_cases q : g i = m
          · rw [if_pos q]; omega
          · rw [if_neg q]; omega) (fun i j hi hj e => by
          have e : (if g i = m then g m else g i) = (if g j = m then g m else g j) := e
          by_cases q1 : g i = m
          · by_cases q2 : g j = m
            · exact h2 i j (by omega) (by omega) (by omega)
            · rw [if_pos q1, if_neg q2] at e
              have := h2 m j (by omega) (by omega) e; omega
          · by_cases q2 : g j = m
            · rw [if_neg q1, if_pos q2] at e
              have := h2 i m (by omega) (by omega) e; omega
            · rw [if_neg q1, if_neg q2] at e
              exact h2 i j (by omega) (by omega) e)
      by_cases hkm : k = m
      · obtain ⟨i, hi, e⟩ := key (g m) (by omega)
        have e : (if g i = m then g m else g i) = g m := e
        by_cases q : g i = m
        · exact ⟨i, by omega, by omega⟩
        · rw [if_neg q] at e
          have := h2 i m (by omega) (by omega) e; omega
      · obtain ⟨i, hi, e⟩ := key k (by omega)
        have e : (if g i = m then g m else g i) = k := e
        by_cases q : g i = m
        · rw [if_pos q] at e
          exact ⟨m, by omega, e⟩
        · rw [if_neg q] at e
          exact ⟨i, by omega, e⟩
def pk_k (f : Nat → Int32) (m k : Nat) : Nat := fs (fun p => decide (rk f m p = k)) m 0
theorem fs_hit {p : Nat → Bool} {j : Nat} (hp : p j = true) : ∀ d i, i ≤ j → j < i + d → (∀ x, i ≤ x → x < j → p x = false) → fs p d i = j := by
  intro d
  induction d with
  | zero => intro i h1 h2; omega
  | succ d ih =>
    intro i h1 h2 h3
    unfold fs
    by_cases q : i = j
    · subst q; rw [if_pos hp]
    · rw [if_neg (by rw [h3 i (by omega) (by omega)]; exact Bool.false_ne_true)]
      exact ih (i + 1) (by omega) (by omega) (fun x hx => h3 x (by omega))
theorem pk_spec {f : Nat → Int32} {m k : Nat} (hk : k < m) : pk_k f m k < m ∧ rk f m (pk_k f m k) = k := by
  obtain ⟨j, hj, ej⟩ := surj m (rk f m) (fun i hi => rk_m hi) (fun i j hi hj e => rk_inj hi hj e) k hk
  have : pk_k f m k = j := by
    refine fs_hit (decide_eq_true ej) m 0 (by omega) (by omega) (fun x _ hx => decide_eq_false (fun q => ?_))
    have := rk_inj (f := f) (show x < m by omega) hj (by omega)
    omega
  rw [this]
  exact ⟨hj, ej⟩
theorem pk_uniq {f : Nat → Int32} {m k j : Nat} (hk : k < m) (hj : j < m) (e : rk f m j = k) : j = pk_k f m k := by
  obtain ⟨h1, h2⟩ := pk_spec (f := f) hk
  exact rk_inj (f := f) hj h1 (by omega)
