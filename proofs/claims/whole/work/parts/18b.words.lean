/-! words and numbers of a text -/
def vl (T : Nat → Int32) : Nat → Nat → Int32 → Int32
  | 0, _, acc => acc
  | d + 1, i, acc => vl T d (i + 1) (10 * acc + T i - 48)
def wd (T : Nat → Int32) : Nat → Nat → Int32 → Int32
  | 0, _, acc => acc
  | d + 1, i, acc => wd T d (i + 1) (32 * acc + T i - 96)
def isN (T : Nat → Int32) (l s e : Nat) : Bool := decide (tso T l s = 2 ∧ e - s ≤ 6 ∧ (e - s = 1 ∨ ¬ T s = 48))
def sl (i : Nat) : Nat := hSl.getD i 0
def spB (T : Nat → Int32) (s e i : Nat) : Bool := decide (e - s = sl i) && decide (fs (fun x => !(decide (T (s + x) = hSc i x))) (sl i) 0 = sl i)
def cmI (T : Nat → Int32) (s e : Nat) : Nat := fs (fun i => spB T s e i) 8 0
def wh (i : Nat) : Int32 := [370116, 20022661, 611717, 114085, 17377093, 24290536, 3540269, 2745].getD i 0
theorem vl_cong {T U : Nat → Int32} {l : Nat} (e : ∀ k, k < l → T k = U k) : ∀ d i acc, i + d ≤ l → vl T d i acc = vl U d i acc := by
  intro d
  induction d with
  | zero => intro i acc _; rfl
  | succ d ih => intro i acc h; unfold vl; rw [e i (by omega), ih _ _ (by omega)]
theorem isN_cong {T U : Nat → Int32} {l s e : Nat} (h : ∀ k, k < l → T k = U k) : isN T l s e = isN U l s e := by
  unfold isN
  rw [tso_cong h]
  by_cases c : s < l
  · rw [h s c]
  · have : tso U l s = 0 := by unfold tso; rw [if_neg c]
    rw [this]
    rw [decide_eq_false (fun q => absurd q.1 (by decide)), decide_eq_false (fun q => absurd q.1 (by decide))]
theorem LD (c : Int32) : isL c = true → isD c = false := by
  intro h
  have h := of_decide_eq_true h
  have h1 := i_le.mp h.1
  rw [show (97 : Int32).toInt = 97 by decide] at h1
  exact decide_eq_false (fun q => by
    have := i_le.mp q.2
    rw [show (57 : Int32).toInt = 57 by decide] at this
    omega)
theorem tso2 {T : Nat → Int32} {l s : Nat} : tso T l s = 2 ↔ isD (if s < l then T s else 0) = true := by
  unfold tso
  by_cases c : s < l
  · rw [if_pos c, if_pos c]
    cases c1 : isL (T s) with
    | true =>
      rw [if_pos rfl, LD _ c1]
      constructor
      · intro q; omega
      · intro q; cases q
    | false =>
      rw [if_neg Bool.false_ne_true]
      cases c2 : isD (T s) with
      | true => rw [if_pos rfl]; exact ⟨fun _ => rfl, fun _ => rfl⟩
      | false =>
        rw [if_neg Bool.false_ne_true]
        constructor
        · intro q; omega
        · intro q; cases q
  · rw [if_neg c, if_neg c]
    constructor
    · intro q; omega
    · intro q; exact absurd q (by decide)
section WW
variable {L : hL} {X : hX} {l : Nat}
theorem le6 {k : Nat} (h : k < 2147483648) : nI k ≤ 6 ↔ k ≤ 6 := nle (i := 6) (by omega) (by omega)
theorem eq1 {k : Nat} (h : k < 2147483648) : nI k = 1 ↔ k = 1 := nI_eq (b := 1) (by omega) (by omega)
theorem c_isNumber (h : TC L X l) {s e : Nat} (hs : s ≤ e) (he : e ≤ l) (h4 : X.1 465 4 = nI s) (h5 : X.1 465 5 = nI e) : f_X6_isNumber L X 465 = some (if isN (X.1 466) l s e = true then 1 else 0) := by
  have hl := h.2.1
  unfold f_X6_isNumber isN
  simp only [if_pos h.1.1, h4, h5, nsub hs, c_signAt h (show s < 2147483648 by omega), Option.bind_some, c_isDigit, decide_eq_true_eq]
  have t2 := tso2 (T := X.1 466) (l := l) (s := s)
  cases c : isD (if s < l then X.1 466 s else 0) with
  | false =>
    rw [c] at t2
    rw [if_neg Bool.false_ne_true, if_pos rfl, if_neg (fun q => absurd (t2.mp q.1) Bool.false_ne_true)]
  | true =>
    have t2' := t2.mpr c
    have hsl : s < l := by
      by_cases q : s < l
      · exact q
      · rw [if_neg q] at c; exact absurd c (by decide)
    rw [if_pos rfl, if_neg (show ¬ (1 : Int32) = 0 by decide)]
    by_cases c6 : e - s ≤ 6
    · rw [if_pos ((le6 (by omega)).mpr c6)]
      by_cases c1 : e - s = 1
      · rw [if_pos ((eq1 (by omega)).mpr c1), if_pos ⟨t2', c6, Or.inl c1⟩]
      · rw [if_neg (fun q => c1 ((eq1 (by omega)).mp q)), if_pos hsl]
        by_cases c48 : X.1 466 s = 48
        · rw [if_pos c48, if_neg (fun q => q.2.2.elim c1 (fun z => z c48))]
        · rw [if_neg c48, if_pos ⟨t2', c6, Or.inr c48⟩]
    · rw [if_neg (fun q => c6 ((le6 (by omega)).mp q)), if_neg (fun q => c6 q.2.1)]
theorem c_value_l (h : TC L X l) {e : Nat} (he : e ≤ l) (h5 : X.1 465 5 = nI e) : ∀ (d i n : Nat) (acc : Int32), i + d = e → d < n → f_X6_value_7 L n 465 acc (nI i) X = some (vl (X.1 466) d i acc) := by
  intro d
  have hl := h.2.1
  induction d with
  | zero =>
    intro i n acc hi hn
    obtain ⟨m, rfl⟩ : ∃ m, n = m + 1 := ⟨n - 1, by omega⟩
    unfold f_X6_value_7
    rw [if_pos h.1.1, h5, if_pos ((nle (by omega) (by omega)).mpr (by omega))]
    rfl
  | succ d ih =>
    intro i n acc hi hn
    obtain ⟨m, rfl⟩ : ∃ m, n = m + 1 := ⟨n - 1, by omega⟩
    unfold f_X6_value_7 vl
    rw [if_pos h.1.1, h5, if_neg (nge (by omega) (by omega) (by omega)), c_signAt h (by omega), Option.bind_some, if_pos (show i < l by omega), n1]
    exact ih (i + 1) m _ (by omega) (by omega)
theorem c_value (h : TC L X l) {s e : Nat} (hs : s ≤ e) (he : e ≤ l) (h4 : X.1 465 4 = nI s) (h5 : X.1 465 5 = nI e) : f_X6_value L X 465 = some (vl (X.1 466) (e - s) s 0) := by
  have hl := h.2.1
  unfold f_X6_value
  rw [if_pos h.1.1, h4]
  exact c_value_l h he h5 (e - s) s u_fuel 0 (by omega) (by unfold u_fuel; omega)
theorem m_isNumber (hM : MOK L X) (hl : l ≤ 140) {s e : Nat} (hs : s ≤ e) (he : e ≤ l) (h9 : X.1 470 9 = nI s) (h10 : X.1 470 10 = nI e) (h11 : X.1 470 11 = nI (tso (X.1 475) l s)) : f_X10_isNumber L X 470 = some (if isN (X.1 475) l s e = true then 1 else 0) := by
  have ht : tso (X.1 475) l s < 4 := by
    unfold tso
    by_cases c : s < l
    · rw [if_pos c]
      by_cases c1 : isL (X.1 475 s) = true
      · rw [if_pos c1]; omega
      · rw [if_neg c1]
        by_cases c2 : isD (X.1 475 s) = true
        · rw [if_pos c2]; omega
        · rw [if_neg c2]; omega
    · rw [if_neg c]; omega
  unfold f_X10_isNumber isN
  simp only [if_pos hM.1.1, h9, h10, h11, nsub hs, decide_eq_true_eq]
  by_cases t2 : tso (X.1 475) l s = 2
  · have hsl : s < l := by
      by_cases q : s < l
      · exact q
      · unfold tso at t2; rw [if_neg q] at t2; omega
    rw [t2, if_pos (show nI 2 = 2 from rfl)]
    by_cases c6 : e - s ≤ 6
    · rw [if_neg (show ¬ (6 : Int32) < nI (e - s) from fun q => absurd ((nlt (i := e - s) (n := 6) (by omega) (by omega)).mp q) (by omega))]
      by_cases c1 : e - s = 1
      · rw [if_pos ((eq1 (by omega)).mpr c1), if_pos ⟨rfl, c6, Or.inl c1⟩]
      · simp only [if_neg (show ¬ nI (e - s) = 1 from fun q => c1 ((eq1 (by omega)).mp q)), hM.2.2.2.2.2.2.1, Option.bind_some, if_pos hM.1.2.2.2.2.2.1, hM.2.1.2.2.2.2.1, if_pos (hin_nI (n := 140) (show s < 140 by omega) (by omega)), nI_clamp (show s < 2 ^ 31 by omega)]
        by_cases c48 : X.1 475 s = 48
        · rw [if_pos c48, if_neg (fun q => q.2.2.elim c1 (fun z => z c48))]
        · rw [if_neg c48, if_pos ⟨trivial, c6, Or.inr c48⟩]
    · rw [if_pos (show (6 : Int32) < nI (e - s) from (nlt (i := e - s) (n := 6) (by omega) (by omega)).mpr (by omega)), if_neg (fun q => c6 q.2.1)]
  · rw [if_neg (show ¬ nI (tso (X.1 475) l s) = 2 from fun q => t2 ((nI_eq (b := 2) (by omega) (by omega)).mp q)), if_neg (fun q => t2 q.1)]
theorem m_value_l (hM : MOK L X) {e : Nat} (he : e ≤ 140) (h10 : X.1 470 10 = nI e) : ∀ (d i n : Nat) (acc : Int32), i + d = e → d < n → f_X10_value_7 L n 470 acc (nI i) X = some (vl (X.1 475) d i acc) := by
  intro d
  induction d with
  | zero =>
    intro i n acc hi hn
    obtain ⟨m, rfl⟩ : ∃ m, n = m + 1 := ⟨n - 1, by omega⟩
    unfold f_X10_value_7
    rw [if_pos hM.1.1, h10, if_pos ((nle (by omega) (by omega)).mpr (by omega))]
    rfl
  | succ d ih =>
    intro i n acc hi hn
    obtain ⟨m, rfl⟩ : ∃ m, n = m + 1 := ⟨n - 1, by omega⟩
    unfold f_X10_value_7 vl
    simp only [if_pos hM.1.1, h10, if_neg (nge (i := i) (n := e) (by omega) (by omega) (by omega)), hM.2.2.2.2.2.2.1, Option.bind_some, if_pos hM.1.2.2.2.2.2.1, hM.2.1.2.2.2.2.1, if_pos (hin_nI (n := 140) (show i < 140 by omega) (by omega)), nI_clamp (show i < 2 ^ 31 by omega), n1]
    exact ih (i + 1) m _ (by omega) (by omega)
theorem m_value (hM : MOK L X) {s e : Nat} (hs : s ≤ e) (he : e ≤ 140) (h9 : X.1 470 9 = nI s) (h10 : X.1 470 10 = nI e) : f_X10_value L X 470 = some (vl (X.1 475) (e - s) s 0) := by
  unfold f_X10_value
  rw [if_pos hM.1.1, h9]
  exact m_value_l hM he h10 (e - s) s u_fuel 0 (by omega) (by unfold u_fuel; omega)
theorem m_word_l (hM : MOK L X) {s e : Nat} (he : e ≤ 140) (hs : s ≤ e) (h9 : X.1 470 9 = nI s) (h10 : X.1 470 10 = nI e) (h5 : e - s ≤ 5) : ∀ (d i n : Nat) (acc : Int32), i + d = e → d < n → f_X10_word_7 L n 470 acc (nI i) X = some (wd (X.1 475) d i acc) := by
  intro d
  induction d with
  | zero =>
    intro i n acc hi hn
    obtain ⟨m, rfl⟩ : ∃ m, n = m + 1 := ⟨n - 1, by omega⟩
    unfold f_X10_word_7
    rw [if_pos hM.1.1, h10, if_pos ((nle (by omega) (by omega)).mpr (by omega))]
    rfl
  | succ d ih =>
    intro i n acc hi hn
    obtain ⟨m, rfl⟩ : ∃ m, n = m + 1 := ⟨n - 1, by omega⟩
    unfold f_X10_word_7 wd
    simp only [if_pos hM.1.1, h9, h10, nsub hs, if_neg (nge (i := i) (n := e) (by omega) (by omega) (by omega)), if_neg (show ¬ (6 : Int32) ≤ nI (e - s) from nge (n := 6) (by omega) (by omega) (by omega)), hM.2.2.2.2.2.2.1, Option.bind_some, if_pos hM.1.2.2.2.2.2.1, hM.2.1.2.2.2.2.1, if_pos (hin_nI (n := 140) (show i < 140 by omega) (by omega)), nI_clamp (show i < 2 ^ 31 by omega), n1]
    exact ih (i + 1) m _ (by omega) (by omega)
theorem m_word (hM : MOK L X) {s e : Nat} (he : e ≤ 140) (hs : s < e) (h9 : X.1 470 9 = nI s) (h10 : X.1 470 10 = nI e) : f_X10_word L X 470 = some (if e - s ≤ 5 then wd (X.1 475) (e - s) s 0 else 0) := by
  unfold f_X10_word
  rw [if_pos hM.1.1, h9]
  by_cases c : e - s ≤ 5
  · rw [if_pos c]
    exact m_word_l hM he (by omega) h9 h10 c (e - s) s u_fuel 0 (by omega) (by unfold u_fuel; omega)
  · rw [if_neg c]
    obtain ⟨m, hm⟩ : ∃ m, u_fuel = m + 1 := ⟨2999, rfl⟩
    rw [hm]
    unfold f_X10_word_7
    rw [if_pos hM.1.1, h9, h10, if_neg (nge (by omega) (by omega) hs), nsub (by omega), if_pos (show (6 : Int32) ≤ nI (e - s) from (nle (n := 6) (by omega) (by omega)).mpr (by omega))]
theorem hSn_eq : ∀ i, i < 8 → hSn i = nI (sl i) := by decide
theorem sl_r : ∀ i, i < 8 → 3 ≤ sl i ∧ sl i ≤ 5 := by decide
theorem c_spells_l (h : TC L X l) {s i : Nat} (hi : i < 8) (hs : s + sl i ≤ l) (h4 : X.1 465 4 = nI s) : ∀ (d j n : Nat), j + d = sl i → d < n → f_X6_spells_20 L n 465 i (nI j) X = some (if fs (fun x => !(decide (X.1 466 (s + x) = hSc i x))) d j = sl i then 1 else 0) := by
  intro d
  have hl := h.2.1
  have hr := sl_r i hi
  induction d with
  | zero =>
    intro j n hj hn
    obtain ⟨m, rfl⟩ : ∃ m, n = m + 1 := ⟨n - 1, by omega⟩
    unfold f_X6_spells_20
    rw [if_pos hi, hSn_eq i hi, if_pos ((nle (by omega) (by omega)).mpr (by omega)), if_pos (show fs _ 0 j = sl i from by show j = sl i; omega)]
  | succ d ih =>
    intro j n hj hn
    obtain ⟨m, rfl⟩ : ∃ m, n = m + 1 := ⟨n - 1, by omega⟩
    have g : hin (nI j) (hSl.getD i 0) ∧ ¬ nI j < 0 ∧ nI j < Int32.ofNat (hSl.getD i 0) := ⟨hin_nI (show j < sl i by omega) (by omega), fun q => by rw [i_lt, nI_toInt (by omega), z0i] at q; omega, (nlt (i := sl i) (by omega) (by omega)).mpr (by omega)⟩
    unfold f_X6_spells_20 fs
    rw [if_pos hi, hSn_eq i hi, if_neg (nge (by omega) (by omega) (by omega)), if_pos g, if_pos h.1.1, h4, nI_add, c_signAt h (by omega), Option.bind_some, if_pos (show s + j < l by omega), nI_clamp (by omega), n1]
    by_cases c : hSc i j = X.1 466 (s + j)
    · rw [if_pos c, if_neg (show ¬ (!(decide (X.1 466 (s + j) = hSc i j))) = true by rw [decide_eq_true c.symm]; decide)]
      exact ih (j + 1) m (by omega) (by omega)
    · rw [if_neg c, if_pos (show (!(decide (X.1 466 (s + j) = hSc i j))) = true by rw [decide_eq_false (fun q => c q.symm)]; rfl), if_neg (by omega)]
theorem c_spells (h : TC L X l) {s e i : Nat} (hi : i < 8) (hs : s ≤ e) (he : e ≤ l) (h4 : X.1 465 4 = nI s) (h5 : X.1 465 5 = nI e) : f_X6_spells L X 465 i = some (if spB (X.1 466) s e i = true then 1 else 0) := by
  have hl := h.2.1
  have hr := sl_r i hi
  unfold f_X6_spells spB
  rw [if_pos hi, if_pos h.1.1, h4, h5, nsub hs, hSn_eq i hi]
  by_cases c : e - s = sl i
  · rw [if_pos (by rw [c]), decide_eq_true c, Bool.true_and]
    simp only [decide_eq_true_eq]
    exact c_spells_l h hi (by omega) h4 (sl i) 0 u_fuel (by omega) (by unfold u_fuel; omega)
  · rw [if_neg (fun q => c ((nI_eq (by omega) (by omega)).mp q).symm), decide_eq_false c, Bool.false_and, if_neg Bool.false_ne_true]
theorem fs_hit0 {p : Nat → Bool} {k : Nat} (hp : p k = true) (hk : k < 8) (h : ∀ x, x < k → p x = false) : fs p 8 0 = k := by
  have gen : ∀ d i, i ≤ k → k < i + d → (∀ x, i ≤ x → x < k → p x = false) → fs p d i = k := by
    intro d
    induction d with
    | zero => intro i h1 h2; omega
    | succ d ih =>
      intro i h1 h2 h3
      unfold fs
      by_cases q : i = k
      · subst q; rw [if_pos hp]
      · rw [if_neg (by rw [h3 i (by omega) (by omega)]; exact Bool.false_ne_true)]
        exact ih (i + 1) (by omega) (by omega) (fun x hx => h3 x (by omega))
  exact gen 8 0 (by omega) (by omega) (fun x _ hx => h x hx)
theorem c_commandHere (h : TC L X l) {s e : Nat} (hs : s ≤ e) (he : e ≤ l) (h4 : X.1 465 4 = nI s) (h5 : X.1 465 5 = nI e) : f_X6_commandHere L X 465 = some (if cmI (X.1 466) s e < 8 then nI (cmI (X.1 466) s e) else -1) := by
  have e0 := fun i hi => c_spells h (i := i) hi hs he h4 h5
  have hit : ∀ k, k < 8 → spB (X.1 466) s e k = true → (∀ x, x < k → spB (X.1 466) s e x = false) → cmI (X.1 466) s e = k := fun k hk hp hx => fs_hit0 (p := fun i => spB (X.1 466) s e i) hp hk hx
  unfold f_X6_commandHere
  simp only [e0 0 (by omega), e0 1 (by omega), e0 2 (by omega), e0 3 (by omega), e0 4 (by omega), e0 5 (by omega), e0 6 (by omega), e0 7 (by omega), Option.bind_some, if_pos h.1.1]
  cases c0 : spB (X.1 466) s e 0 with
  | true =>
    have hc := hit 0 (by omega) c0 (fun x hx => absurd hx (by omega))
    rw [hc]
    rfl
  | false =>
    cases c1 : spB (X.1 466) s e 1 with
    | true =>
      have hc := hit 1 (by omega) c1 (fun x hx => by
        have : x = 0 := by omega
        rcases this with rfl
        · exact c0
        )
      rw [hc]
      rfl
    | false =>
      cases c2 : spB (X.1 466) s e 2 with
      | true =>
        have hc := hit 2 (by omega) c2 (fun x hx => by
          have : x = 0 ∨ x = 1 := by omega
          rcases this with rfl | rfl
          · exact c0
          · exact c1
          )
        rw [hc]
        rfl
      | false =>
        cases c3 : spB (X.1 466) s e 3 with
        | true =>
          have hc := hit 3 (by omega) c3 (fun x hx => by
            have : x = 0 ∨ x = 1 ∨ x = 2 := by omega
            rcases this with rfl | rfl | rfl
            · exact c0
            · exact c1
            · exact c2
            )
          rw [hc]
          rfl
        | false =>
          cases c4 : spB (X.1 466) s e 4 with
          | true =>
            have hc := hit 4 (by omega) c4 (fun x hx => by
              have : x = 0 ∨ x = 1 ∨ x = 2 ∨ x = 3 := by omega
              rcases this with rfl | rfl | rfl | rfl
              · exact c0
              · exact c1
              · exact c2
              · exact c3
              )
            rw [hc]
            rfl
          | false =>
            cases c5 : spB (X.1 466) s e 5 with
            | true =>
              have hc := hit 5 (by omega) c5 (fun x hx => by
                have : x = 0 ∨ x = 1 ∨ x = 2 ∨ x = 3 ∨ x = 4 := by omega
                rcases this with rfl | rfl | rfl | rfl | rfl
                · exact c0
                · exact c1
                · exact c2
                · exact c3
                · exact c4
                )
              rw [hc]
              rfl
            | false =>
              cases c6 : spB (X.1 466) s e 6 with
              | true =>
                have hc := hit 6 (by omega) c6 (fun x hx => by
                  have : x = 0 ∨ x = 1 ∨ x = 2 ∨ x = 3 ∨ x = 4 ∨ x = 5 := by omega
                  rcases this with rfl | rfl | rfl | rfl | rfl | rfl
                  · exact c0
                  · exact c1
                  · exact c2
                  · exact c3
                  · exact c4
                  · exact c5
                  )
                rw [hc]
                rfl
              | false =>
                cases c7 : spB (X.1 466) s e 7 with
                | true =>
                  have hc := hit 7 (by omega) c7 (fun x hx => by
                    have : x = 0 ∨ x = 1 ∨ x = 2 ∨ x = 3 ∨ x = 4 ∨ x = 5 ∨ x = 6 := by omega
                    rcases this with rfl | rfl | rfl | rfl | rfl | rfl | rfl
                    · exact c0
                    · exact c1
                    · exact c2
                    · exact c3
                    · exact c4
                    · exact c5
                    · exact c6
                    )
                  rw [hc]
                  rfl
                | false =>
                  have hc : cmI (X.1 466) s e = 8 := (fs_eq (p := fun i => spB (X.1 466) s e i) 8 0).mpr (fun j _ hj => by
                    have : j = 0 ∨ j = 1 ∨ j = 2 ∨ j = 3 ∨ j = 4 ∨ j = 5 ∨ j = 6 ∨ j = 7 := by omega
                    rcases this with rfl | rfl | rfl | rfl | rfl | rfl | rfl | rfl
                    · exact c0
                    · exact c1
                    · exact c2
                    · exact c3
                    · exact c4
                    · exact c5
                    · exact c6
                    · exact c7
                    )
                  rw [hc]
                  rfl
end WW
theorem fs_true {p : Nat → Bool} : ∀ d i, fs p d i < i + d → p (fs p d i) = true := by
  intro d
  induction d with
  | zero => intro i h; exact absurd h (by show ¬ i < i + 0; omega)
  | succ d ih =>
    intro i h
    unfold fs at h ⊢
    by_cases c : p i = true
    · rw [if_pos c]; exact c
    · rw [if_neg c] at h ⊢
      exact ih (i + 1) (by omega)
theorem spB_iff {T : Nat → Int32} {s e i : Nat} : spB T s e i = true ↔ e - s = sl i ∧ ∀ x, x < sl i → T (s + x) = hSc i x := by
  unfold spB
  rw [Bool.and_eq_true, decide_eq_true_eq, decide_eq_true_eq]
  have := fs_eq (p := fun x => !(decide (T (s + x) = hSc i x))) (sl i) 0
  rw [Nat.zero_add] at this
  rw [this]
  constructor
  · intro ⟨h1, h2⟩
    refine ⟨h1, fun x hx => ?_⟩
    have := h2 x (by omega) hx
    by_cases c : T (s + x) = hSc i x
    · exact c
    · rw [decide_eq_false c] at this; cases this
  · intro ⟨h1, h2⟩
    exact ⟨h1, fun x _ hx => by rw [decide_eq_true (h2 x hx)]; rfl⟩
theorem spB_cong {T U : Nat → Int32} {s e l : Nat} (he : e ≤ l) (h : ∀ k, k < l → T k = U k) (i : Nat) : spB T s e i = spB U s e i := by
  have : spB T s e i = true ↔ spB U s e i = true := by
    rw [spB_iff, spB_iff]
    constructor
    · intro ⟨h1, h2⟩
      exact ⟨h1, fun x hx => by rw [← h _ (by omega)]; exact h2 x hx⟩
    · intro ⟨h1, h2⟩
      exact ⟨h1, fun x hx => by rw [h _ (by omega)]; exact h2 x hx⟩
  cases a : spB T s e i with
  | true => exact (this.mp a).symm
  | false =>
    cases b : spB U s e i with
    | true => rw [this.mpr b] at a; cases a
    | false => rfl
theorem cmI_cong {T U : Nat → Int32} {s e l : Nat} (he : e ≤ l) (h : ∀ k, k < l → T k = U k) : cmI T s e = cmI U s e := by
  unfold cmI
  exact fs_ext _ _ (fun x _ _ => spB_cong he h x)
theorem hSc_L : ∀ i, i < 8 → isL (hSc i 0) = true := by decide
/-- what is no word of letters is no command -/
theorem cm_no {T : Nat → Int32} {l s e : Nat} (hs : s < l) (h : ¬ tso T l s = 1) : cmI T s e = 8 := by
  have := (fs_eq (p := fun i => spB T s e i) 8 0).mpr (fun j _ hj => by
    cases c : spB T s e j with
    | false => rfl
    | true =>
      obtain ⟨h1, h2⟩ := spB_iff.mp c
      have hr := sl_r j (by omega)
      have h3 := h2 0 (by omega)
      have h4 := hSc_L j (by omega)
      rw [← h3, Nat.add_zero] at h4
      exact absurd (by unfold tso; rw [if_pos hs, if_pos h4]) h)
  exact this
theorem wstep {a c : Int32} {k : Int} (hk : k ≤ 40000000) (ha : 0 ≤ a.toInt ∧ a.toInt ≤ k) (hc : 97 ≤ c.toInt ∧ c.toInt ≤ 122) : (32 * a + c - 96).toInt = 32 * a.toInt + (c.toInt - 96) := by
  have e1 : (32 * a).toInt = 32 * a.toInt := by rw [i_mul (by rw [show (32 : Int32).toInt = 32 by decide]; omega) (by rw [show (32 : Int32).toInt = 32 by decide]; omega), show (32 : Int32).toInt = 32 by decide]
  have e2 := i_add (a := 32 * a) (b := c) (by omega) (by omega)
  rw [i_sub (by rw [show (96 : Int32).toInt = 96 by decide]; omega) (by rw [show (96 : Int32).toInt = 96 by decide]; omega), e2, e1, show (96 : Int32).toInt = 96 by decide]
  omega
theorem ltr {c : Int32} (h : isL c = true) : 97 ≤ c.toInt ∧ c.toInt ≤ 122 := by
  have h := of_decide_eq_true h
  have h1 := i_le.mp h.1
  have h2 := i_le.mp h.2
  rw [show (97 : Int32).toInt = 97 by decide] at h1
  rw [show (122 : Int32).toInt = 122 by decide] at h2
  exact ⟨h1, h2⟩
