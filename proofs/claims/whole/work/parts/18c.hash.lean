/-! words as numbers -/
theorem wd_snoc {T : Nat → Int32} : ∀ d i acc, wd T (d + 1) i acc = 32 * wd T d i acc + T (i + d) - 96 := by
  intro d
  induction d with
  | zero => intro i acc; rfl
  | succ d ih =>
    intro i acc
    show wd T (d + 1) (i + 1) (32 * acc + T i - 96) = _
    rw [ih (i + 1)]
    show _ = 32 * wd T d (i + 1) (32 * acc + T i - 96) + T (i + (d + 1)) - 96
    rw [show i + 1 + d = i + (d + 1) by omega]
theorem wd_cong2 {T U : Nat → Int32} {i j : Nat} : ∀ d acc, (∀ x, x < d → T (i + x) = U (j + x)) → wd T d i acc = wd U d j acc := by
  intro d
  induction d with
  | zero => intro acc _; rfl
  | succ d ih =>
    intro acc h
    rw [wd_snoc, wd_snoc, ih acc (fun x hx => h x (by omega)), h d (by omega)]
def wK : Nat → Int
  | 0 => 0
  | d + 1 => 32 * wK d + 26
theorem wK_b : ∀ d, d < 6 → 0 ≤ wK d ∧ wK d ≤ 40000000 := by decide
theorem wd_r {T : Nat → Int32} {i : Nat} : ∀ d, d < 6 → (∀ x, x < d → isL (T (i + x)) = true) → 0 ≤ (wd T d i 0).toInt ∧ (wd T d i 0).toInt ≤ wK d ∧ (0 < d → 0 < (wd T d i 0).toInt) := by
  intro d
  induction d with
  | zero =>
    intro _ _
    refine ⟨?_, ?_, fun h => absurd h (by omega)⟩
    · show (0 : Int) ≤ (0 : Int32).toInt
      decide
    · show (0 : Int32).toInt ≤ (0 : Int)
      decide
  | succ d ih =>
    intro hd h
    obtain ⟨h1, h2, -⟩ := ih (by omega) (fun x hx => h x (by omega))
    have hc := ltr (h d (by omega))
    have hk := (wK_b d (by omega)).2
    have e := wstep (a := wd T d i 0) (c := T (i + d)) hk ⟨h1, h2⟩ hc
    have ek : wK (d + 1) = 32 * wK d + 26 := rfl
    rw [wd_snoc, e, ek]
    refine ⟨?_, ?_, fun _ => ?_⟩
    · omega
    · omega
    · omega
theorem wd_inj {T U : Nat → Int32} {i j : Nat} : ∀ d d', d < 6 → d' < 6 → (∀ x, x < d → isL (T (i + x)) = true) → (∀ x, x < d' → isL (U (j + x)) = true) → wd T d i 0 = wd U d' j 0 → d = d' ∧ ∀ x, x < d → T (i + x) = U (j + x) := by
  intro d
  induction d with
  | zero =>
    intro d' _ hd' _ h2 e
    have h3 := (wd_r d' hd' h2).2.2
    rw [← e] at h3
    have z : (wd T 0 i 0).toInt = 0 := (by decide : (0 : Int32).toInt = 0)
    rw [z] at h3
    refine ⟨?_, fun x hx => absurd hx (by omega)⟩
    rcases Nat.eq_zero_or_pos d' with q | q
    · exact q.symm
    · exact absurd (h3 q) (by decide)
  | succ d ih =>
    intro d' hd hd' h1 h2 e
    have p1 := (wd_r (d + 1) hd h1).2.2 (by omega)
    obtain ⟨q, rfl⟩ : ∃ q, d' = q + 1 := by
      rcases Nat.eq_zero_or_pos d' with z | z
      · subst z
        rw [e] at p1
        have z : (wd U 0 j 0).toInt = 0 := (by decide : (0 : Int32).toInt = 0)
        rw [z] at p1
        exact absurd p1 (by decide)
      · exact ⟨d' - 1, by omega⟩
    obtain ⟨a1, a2, -⟩ := wd_r (T := T) (i := i) d (by omega) (fun x hx => h1 x (by omega))
    obtain ⟨b1, b2, -⟩ := wd_r (T := U) (i := j) q (by omega) (fun x hx => h2 x (by omega))
    have c1 := ltr (h1 d (by omega))
    have c2 := ltr (h2 q (by omega))
    have e1 := wstep (wK_b d (by omega)).2 ⟨a1, a2⟩ c1
    have e2 := wstep (wK_b q (by omega)).2 ⟨b1, b2⟩ c2
    rw [wd_snoc, wd_snoc] at e
    rw [e, e2] at e1
    obtain ⟨g1, g2⟩ := ih q (by omega) (by omega) (fun x hx => h1 x (by omega)) (fun x hx => h2 x (by omega)) (i_eq.mpr (by omega))
    have g3 : T (i + d) = U (j + q) := i_eq.mpr (by omega)
    subst g1
    refine ⟨rfl, fun x hx => ?_⟩
    by_cases c : x = d
    · rw [c]; exact g3
    · exact g2 x (by omega)
theorem fs_lt {p : Nat → Bool} : ∀ d i k, i ≤ k → k < fs p d i → p k = false := by
  intro d
  induction d with
  | zero => intro i k h1 h2; exact absurd h2 (by show ¬ k < i; omega)
  | succ d ih =>
    intro i k h1 h2
    unfold fs at h2
    by_cases c : p i = true
    · rw [if_pos c] at h2; omega
    · rw [if_neg c] at h2
      by_cases q : k = i
      · subst q; exact Bool.eq_false_iff.mpr c
      · exact ih (i + 1) k (by omega) h2
theorem ten_L {T : Nat → Int32} {l s : Nat} (hs : s < l) (h : isL (T s) = true) : ∀ k, s ≤ k → k < ten T l s → isL (T k) = true := by
  intro k h1 h2
  unfold ten at h2
  rw [if_pos hs, if_pos h] at h2
  have := fs_lt _ _ k h1 h2
  cases q : isL (T k) with
  | true => rfl
  | false => rw [q] at this; cases this
theorem tso1 {T : Nat → Int32} {l s : Nat} (h : tso T l s = 1) : s < l ∧ isL (T s) = true := by
  unfold tso at h
  by_cases c : s < l
  · rw [if_pos c] at h
    by_cases c1 : isL (T s) = true
    · exact ⟨c, c1⟩
    · rw [if_neg c1] at h
      by_cases c2 : isD (T s) = true
      · rw [if_pos c2] at h; omega
      · rw [if_neg c2] at h; omega
  · rw [if_neg c] at h; omega
theorem hSc_all : ∀ i, i < 8 → ∀ x, x < sl i → isL (hSc i x) = true := by decide +kernel
theorem wh_eq : ∀ i, i < 8 → wd (hSc i) (sl i) 0 0 = wh i := by decide +kernel
theorem wh_nz : ∀ i, i < 8 → ¬ (0 : Int32) = wh i := by decide +kernel
def wv (T : Nat → Int32) (l s e : Nat) : Int32 := if tso T l s = 1 then (if e - s ≤ 5 then wd T (e - s) s 0 else 0) else 0
theorem wv_hit {T : Nat → Int32} {l s e : Nat} (hs : s < l) (hc : cmI T s e < 8) : tso T l s = 1 ∧ wv T l s e = wh (cmI T s e) := by
  have ht : tso T l s = 1 := by
    by_cases c : tso T l s = 1
    · exact c
    · rw [cm_no hs c] at hc; omega
  have hp : spB T s e (cmI T s e) = true := fs_true (p := fun i => spB T s e i) 8 0 (by show cmI T s e < 0 + 8; omega)
  obtain ⟨h1, h2⟩ := spB_iff.mp hp
  have hr := sl_r _ hc
  refine ⟨ht, ?_⟩
  unfold wv
  rw [if_pos ht, if_pos (by omega), h1, ← wh_eq _ hc]
  exact wd_cong2 _ _ (fun x hx => by rw [Nat.zero_add]; exact h2 x hx)
theorem wv_no {T : Nat → Int32} {l s : Nat} (hc : ¬ cmI T s (ten T l s) < 8) : ∀ i, i < 8 → ¬ wv T l s (ten T l s) = wh i := by
  intro i hi e
  unfold wv at e
  by_cases ht : tso T l s = 1
  · rw [if_pos ht] at e
    obtain ⟨h1, h2⟩ := tso1 ht
    by_cases h5 : ten T l s - s ≤ 5
    · rw [if_pos h5, ← wh_eq i hi] at e
      have hr := sl_r i hi
      obtain ⟨g1, g2⟩ := wd_inj (ten T l s - s) (sl i) (by omega) (by omega) (fun x hx => ten_L h1 h2 _ (by omega) (by omega)) (fun x hx => by rw [Nat.zero_add]; exact hSc_all i hi x hx) e
      have hp : spB T s (ten T l s) i = true := spB_iff.mpr ⟨g1, fun x hx => by rw [g2 x (by omega), Nat.zero_add]⟩
      have h8 : cmI T s (ten T l s) = 8 := by
        have := fs_le (p := fun i => spB T s (ten T l s) i) 8 0
        unfold cmI at hc ⊢
        omega
      have := (fs_eq (p := fun i => spB T s (ten T l s) i) 8 0).mp h8 i (by omega) (by omega)
      rw [hp] at this
      cases this
    · rw [if_neg h5] at e
      exact wh_nz i hi e
  · rw [if_neg ht] at e
    exact wh_nz i hi e
def nb (i : Nat) : Nat := [3, 2, 1, 1, 5, 3, 2, 3].getD i 0
theorem nb_5 : ∀ i, i < 8 → nb i ≤ 5 := by decide
def num (w : Int32) : Int32 := if w = 2745 then 3 else if w = 114085 then 1 else if w = 370116 then 3 else if w = 611717 then 1 else if w = 3540269 then 2 else if w = 17377093 then 5 else if w = 20022661 then 2 else if w = 24290536 then 3 else -1
theorem m_numbers {L : hL} {X : hX} {w : Int32} : f_X10_numbers L X w = some (num w) := by
  unfold f_X10_numbers num
  by_cases h1 : w = 2745
  · rw [if_pos h1, if_pos h1]
  rw [if_neg h1, if_neg h1]
  by_cases h2 : w = 114085
  · rw [if_pos h2, if_pos h2]
  rw [if_neg h2, if_neg h2]
  by_cases h3 : w = 370116
  · rw [if_pos h3, if_pos h3]
  rw [if_neg h3, if_neg h3]
  by_cases h4 : w = 611717
  · rw [if_pos h4, if_pos h4]
  rw [if_neg h4, if_neg h4]
  by_cases h5 : w = 3540269
  · rw [if_pos h5, if_pos h5]
  rw [if_neg h5, if_neg h5]
  by_cases h6 : w = 17377093
  · rw [if_pos h6, if_pos h6]
  rw [if_neg h6, if_neg h6]
  by_cases h7 : w = 20022661
  · rw [if_pos h7, if_pos h7]
  rw [if_neg h7, if_neg h7]
  by_cases h8 : w = 24290536
  · rw [if_pos h8, if_pos h8]
  rw [if_neg h8, if_neg h8]
theorem num_hit : ∀ i, i < 8 → num (wh i) = nI (nb i) := by decide +kernel
theorem num_no {w : Int32} (h : ∀ i, i < 8 → ¬ w = wh i) : num w = -1 := by
  have h0 : ¬ w = 370116 := h 0 (by omega)
  have h1 : ¬ w = 20022661 := h 1 (by omega)
  have h2 : ¬ w = 611717 := h 2 (by omega)
  have h3 : ¬ w = 114085 := h 3 (by omega)
  have h4 : ¬ w = 17377093 := h 4 (by omega)
  have h5 : ¬ w = 24290536 := h 5 (by omega)
  have h6 : ¬ w = 3540269 := h 6 (by omega)
  have h7 : ¬ w = 2745 := h 7 (by omega)
  unfold num
  rw [if_neg h7, if_neg h3, if_neg h0, if_neg h2, if_neg h6, if_neg h4, if_neg h1, if_neg h5]
def numC (a : Int32) : Int32 := if a = 1 then 2 else if a = 2 then 1 else if a = 3 then 1 else if a = 4 then 5 else if a = 6 then 2 else 3
theorem c_numbersOf {L : hL} {X : hX} {a : Int32} : f_X6_numbersOf L X a = some (numC a) := by
  unfold f_X6_numbersOf numC
  by_cases h1 : a = 1
  · rw [if_pos h1, if_pos h1]
  rw [if_neg h1, if_neg h1]
  by_cases h2 : a = 2
  · rw [if_pos h2, if_pos h2]
  rw [if_neg h2, if_neg h2]
  by_cases h3 : a = 3
  · rw [if_pos h3, if_pos h3]
  rw [if_neg h3, if_neg h3]
  by_cases h4 : a = 4
  · rw [if_pos h4, if_pos h4]
  rw [if_neg h4, if_neg h4]
  by_cases h5 : a = 6
  · rw [if_pos h5, if_pos h5]
  rw [if_neg h5, if_neg h5]
theorem numC_hit : ∀ i, i < 8 → numC (nI i) = nI (nb i) := by decide +kernel
