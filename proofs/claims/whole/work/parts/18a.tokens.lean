/-! tokens of a text -/
def isL (c : Int32) : Bool := decide (97 ≤ c ∧ c ≤ 122)
def isD (c : Int32) : Bool := decide (48 ≤ c ∧ c ≤ 57)
def tst (T : Nat → Int32) (l a : Nat) : Nat := fs (fun k => !(decide (T k = 32))) (l - a) a
def ten (T : Nat → Int32) (l s : Nat) : Nat := if s < l then (if isL (T s) = true then fs (fun k => !(isL (T k))) (l - s) s else if isD (T s) = true then fs (fun k => !(isD (T k))) (l - s) s else s + 1) else s
def tso (T : Nat → Int32) (l s : Nat) : Nat := if s < l then (if isL (T s) = true then 1 else if isD (T s) = true then 2 else 3) else 0
theorem fs_ge {p : Nat → Bool} : ∀ d i, i ≤ fs p d i := by
  intro d
  induction d with
  | zero => intro i; exact Nat.le_refl _
  | succ d ih =>
    intro i
    unfold fs
    by_cases c : p i = true
    · rw [if_pos c]; exact Nat.le_refl _
    · rw [if_neg c]; have := ih (i + 1); omega
theorem tst_r {T : Nat → Int32} {l a : Nat} (h : a ≤ l) : a ≤ tst T l a ∧ tst T l a ≤ l := by
  have h1 := fs_ge (p := fun k => !(decide (T k = 32))) (l - a) a
  have h2 := fs_le (p := fun k => !(decide (T k = 32))) (l - a) a
  unfold tst
  omega
theorem ten_r {T : Nat → Int32} {l s : Nat} (h : s ≤ l) : s ≤ ten T l s ∧ ten T l s ≤ l := by
  unfold ten
  by_cases c : s < l
  · rw [if_pos c]
    by_cases c1 : isL (T s) = true
    · rw [if_pos c1]
      have h1 := fs_ge (p := fun k => !(isL (T k))) (l - s) s
      have h2 := fs_le (p := fun k => !(isL (T k))) (l - s) s
      omega
    · rw [if_neg c1]
      by_cases c2 : isD (T s) = true
      · rw [if_pos c2]
        have h1 := fs_ge (p := fun k => !(isD (T k))) (l - s) s
        have h2 := fs_le (p := fun k => !(isD (T k))) (l - s) s
        omega
      · rw [if_neg c2]; omega
  · rw [if_neg c]; omega
theorem ten_gt {T : Nat → Int32} {l s : Nat} (h : s < l) : s < ten T l s := by
  have step : ∀ p : Nat → Bool, p s = false → s < fs p (l - s) s := fun p hp => by
    obtain ⟨d, hd⟩ : ∃ d, l - s = d + 1 := ⟨l - s - 1, by omega⟩
    rw [hd]
    unfold fs
    rw [if_neg (by rw [hp]; exact Bool.false_ne_true)]
    have := fs_ge (p := p) d (s + 1)
    omega
  unfold ten
  rw [if_pos h]
  by_cases c1 : isL (T s) = true
  · rw [if_pos c1]
    exact step _ (by rw [c1]; rfl)
  · rw [if_neg c1]
    by_cases c2 : isD (T s) = true
    · rw [if_pos c2]
      exact step _ (by rw [c2]; rfl)
    · rw [if_neg c2]; omega
theorem tst_cong {T U : Nat → Int32} {l a : Nat} (e : ∀ k, k < l → T k = U k) : tst T l a = tst U l a := by
  unfold tst
  exact fs_ext _ _ (fun x h1 h2 => by show (!(decide (T x = 32))) = (!(decide (U x = 32))); rw [e x (by omega)])
theorem ten_cong {T U : Nat → Int32} {l s : Nat} (e : ∀ k, k < l → T k = U k) : ten T l s = ten U l s := by
  unfold ten
  by_cases c : s < l
  · rw [if_pos c, if_pos c, e s c]
    have a1 : fs (fun k => !(isL (T k))) (l - s) s = fs (fun k => !(isL (U k))) (l - s) s := fs_ext _ _ (fun x h1 h2 => by show (!(isL (T x))) = (!(isL (U x))); rw [e x (by omega)])
    have a2 : fs (fun k => !(isD (T k))) (l - s) s = fs (fun k => !(isD (U k))) (l - s) s := fs_ext _ _ (fun x h1 h2 => by show (!(isD (T x))) = (!(isD (U x))); rw [e x (by omega)])
    rw [a1, a2]
  · rw [if_neg c, if_neg c]
theorem tso_cong {T U : Nat → Int32} {l s : Nat} (e : ∀ k, k < l → T k = U k) : tso T l s = tso U l s := by
  unfold tso
  by_cases c : s < l
  · rw [if_pos c, if_pos c, e s c]
  · rw [if_neg c, if_neg c]
def P4 (X : hX) (i : Nat) : hX := srow X 465 (upd (X.1 465) 4 (nI i))
def P5 (X : hX) (i : Nat) : hX := srow X 465 (upd (X.1 465) 5 (nI i))
def RR (X : hX) (s e t : Nat) : hX := srow X 470 (upd (upd (upd (X.1 470) 9 (nI s)) 11 (nI t)) 10 (nI e))
def R10 (X : hX) (i : Nat) : hX := srow X 470 (upd (X.1 470) 10 (nI i))
/-- what is said of the component's text -/
def TC (L : hL) (X : hX) (l : Nat) : Prop := (tk L 465 6 ∧ tk L 466 11 ∧ L.2.2 466 = 140 ∧ X.2 465 0 = some 466) ∧ l ≤ 140 ∧ X.1 465 3 = nI l ∧ ∀ k, k < 140 → 0 ≤ X.1 466 k ∧ X.1 466 k < 65536
section TK
variable {L : hL} {X : hX} {l : Nat}
theorem P4_4 {i : Nat} : (P4 X i).1 465 4 = nI i := by unfold P4; rw [srow_s, pk_us]
theorem P4_o {i j : Nat} (h : j ≠ 4) : (P4 X i).1 465 j = X.1 465 j := by unfold P4; rw [srow_s, pk_un h]
theorem P5_5 {i : Nat} : (P5 X i).1 465 5 = nI i := by unfold P5; rw [srow_s, pk_us]
theorem P5_o {i j : Nat} (h : j ≠ 5) : (P5 X i).1 465 j = X.1 465 j := by unfold P5; rw [srow_s, pk_un h]
theorem P4_r {i k : Nat} (h : k ≠ 465) : (P4 X i).1 k = X.1 k := srow_o h
theorem P5_r {i k : Nat} (h : k ≠ 465) : (P5 X i).1 k = X.1 k := srow_o h
theorem P4_w {i k : Nat} : smi (P4 X i) 465 4 (nI k) = P4 X k := by unfold P4; rw [smi_row, srow_srow, srow_s, upd_upd]
theorem P5_w {i k : Nat} : smi (P5 X i) 465 5 (nI k) = P5 X k := by unfold P5; rw [smi_row, srow_srow, srow_s, upd_upd]
theorem TC.p4 (h : TC L X l) {i : Nat} : TC L (P4 X i) l := ⟨h.1, h.2.1, by rw [P4_o (by decide)]; exact h.2.2.1, by rw [P4_r (by decide)]; exact h.2.2.2⟩
theorem TC.p5 (h : TC L X l) {i : Nat} : TC L (P5 X i) l := ⟨h.1, h.2.1, by rw [P5_o (by decide)]; exact h.2.2.1, by rw [P5_r (by decide)]; exact h.2.2.2⟩
theorem c_signAt (h : TC L X l) {k : Nat} (hk : k < 2147483648) : f_X6_signAt L X 465 (nI k) = some (if k < l then X.1 466 k else 0) := by
  obtain ⟨⟨h1, h2, h3, h4⟩, h5, h6, h7⟩ := h
  unfold f_X6_signAt
  rw [if_pos h1, h6]
  by_cases c : k < l
  · have e1 : 0 ≤ nI k ∧ nI k ≤ 139 := ⟨nI_pos' (by omega), by rw [i_le, nI_toInt (by omega), show (139 : Int32).toInt = 139 by decide]; omega⟩
    simp only [if_neg (nge (i := k) (n := l) (by omega) (by omega) c), s_within, if_pos e1, Option.bind_some, i10, if_false, h4, if_pos h2, h3, if_pos (hin_nI (n := 140) (show k < 140 by omega) (by omega)), nI_clamp (show k < 2 ^ 31 by omega), if_pos (h7 k (by omega)), if_pos c]
  · rw [if_pos ((nle (by omega) (by omega)).mpr (by omega)), if_neg c]
theorem c_isLetter {Y : hX} (c : Int32) : f_X6_isLetter L Y c = some (if isL c = true then 1 else 0) := by
  unfold f_X6_isLetter isL
  simp only [decide_eq_true_eq]
  by_cases h1 : c < 97
  · rw [if_pos h1, if_neg (fun q => by have := i_le.mp q.1; rw [i_lt] at h1; omega)]
  · rw [if_neg h1]
    by_cases h2 : 122 < c
    · rw [if_pos h2, if_neg (fun q => by have := i_le.mp q.2; rw [i_lt] at h2; omega)]
    · rw [if_neg h2, if_pos ⟨by rw [i_le]; rw [i_lt] at h1; omega, by rw [i_le]; rw [i_lt] at h2; omega⟩]
theorem c_isDigit {Y : hX} (c : Int32) : f_X6_isDigit L Y c = some (if isD c = true then 1 else 0) := by
  unfold f_X6_isDigit isD
  simp only [decide_eq_true_eq]
  by_cases h1 : c < 48
  · rw [if_pos h1, if_neg (fun q => by have := i_le.mp q.1; rw [i_lt] at h1; omega)]
  · rw [if_neg h1]
    by_cases h2 : 57 < c
    · rw [if_pos h2, if_neg (fun q => by have := i_le.mp q.2; rw [i_lt] at h2; omega)]
    · rw [if_neg h2, if_pos ⟨by rw [i_le]; rw [i_lt] at h1; omega, by rw [i_le]; rw [i_lt] at h2; omega⟩]
theorem c_67 (h : TC L X l) : ∀ (d i n : Nat), i + d = l → d < n → f_X6_readToken_67 L n 465 (P5 X i) = some (P5 X (fs (fun k => !(isL (X.1 466 k))) d i)) := by
  intro d
  induction d with
  | zero =>
    intro i n hi hn
    obtain ⟨m, rfl⟩ : ∃ m, n = m + 1 := ⟨n - 1, by omega⟩
    have hl := h.2.1
    unfold f_X6_readToken_67
    rw [if_pos h.1.1, P5_5, P5_o (by decide), h.2.2.1, if_pos ((nle (by omega) (by omega)).mpr (by omega))]
    rfl
  | succ d ih =>
    intro i n hi hn
    obtain ⟨m, rfl⟩ : ∃ m, n = m + 1 := ⟨n - 1, by omega⟩
    have hl := h.2.1
    unfold f_X6_readToken_67 fs
    rw [if_pos h.1.1, P5_5, P5_o (by decide), h.2.2.1, if_neg (nge (by omega) (by omega) (by omega)), c_signAt h.p5 (by omega), Option.bind_some, if_pos (by omega), P5_r (by decide), c_isLetter, Option.bind_some, n1, P5_w]
    cases c : isL (X.1 466 i) with
    | true =>
      rw [if_pos rfl, if_neg (show ¬ (1 : Int32) = 0 by decide), if_neg (show ¬ (!true) = true by decide)]
      exact ih (i + 1) m (by omega) (by omega)
    | false =>
      rw [if_neg Bool.false_ne_true, if_pos rfl, if_pos (show (!false) = true from rfl)]
theorem c_119 (h : TC L X l) : ∀ (d i n : Nat), i + d = l → d < n → f_X6_readToken_119 L n 465 (P5 X i) = some (P5 X (fs (fun k => !(isD (X.1 466 k))) d i)) := by
  intro d
  induction d with
  | zero =>
    intro i n hi hn
    obtain ⟨m, rfl⟩ : ∃ m, n = m + 1 := ⟨n - 1, by omega⟩
    have hl := h.2.1
    unfold f_X6_readToken_119
    rw [if_pos h.1.1, P5_5, P5_o (by decide), h.2.2.1, if_pos ((nle (by omega) (by omega)).mpr (by omega))]
    rfl
  | succ d ih =>
    intro i n hi hn
    obtain ⟨m, rfl⟩ : ∃ m, n = m + 1 := ⟨n - 1, by omega⟩
    have hl := h.2.1
    unfold f_X6_readToken_119 fs
    rw [if_pos h.1.1, P5_5, P5_o (by decide), h.2.2.1, if_neg (nge (by omega) (by omega) (by omega)), c_signAt h.p5 (by omega), Option.bind_some, if_pos (by omega), P5_r (by decide), c_isDigit, Option.bind_some, n1, P5_w]
    cases c : isD (X.1 466 i) with
    | true =>
      rw [if_pos rfl, if_neg (show ¬ (1 : Int32) = 0 by decide), if_neg (show ¬ (!true) = true by decide)]
      exact ih (i + 1) m (by omega) (by omega)
    | false =>
      rw [if_neg Bool.false_ne_true, if_pos rfl, if_pos (show (!false) = true from rfl)]
theorem c_45 (h : TC L X l) {s : Nat} (hs : s ≤ l) (h4 : X.1 465 4 = nI s) : f_X6_readToken_45 L 465 X = some (P5 X (ten (X.1 466) l s)) := by
  have hl := h.2.1
  have e0 : smi X 465 5 (nI s) = P5 X s := by unfold P5; rw [smi_row]
  have e4 : (P5 X s).1 465 4 = nI s := by rw [P5_o (by decide)]; exact h4
  have e3 : (P5 X s).1 465 3 = nI l := by rw [P5_o (by decide)]; exact h.2.2.1
  unfold f_X6_readToken_45 ten
  rw [if_pos h.1.1, h4, e0]
  simp only [e4, e3, P5_5, c_signAt h.p5 (show s < 2147483648 by omega), P5_r (X := X) (i := s) (show 466 ≠ 465 by decide), Option.bind_some, c_isLetter, c_isDigit, n1, P5_w]
  by_cases c : s < l
  · simp only [if_pos c]
    cases c1 : isL (X.1 466 s) with
    | true =>
      simp only [if_true, i10, if_false]
      exact c_67 h (l - s) s u_fuel (by omega) (by unfold u_fuel; omega)
    | false =>
      simp only [Bool.false_eq_true, if_false, i01, if_true]
      cases c2 : isD (X.1 466 s) with
      | true =>
        simp only [if_true, i10, if_false]
        exact c_119 h (l - s) s u_fuel (by omega) (by unfold u_fuel; omega)
      | false =>
        simp only [Bool.false_eq_true, if_false, i01, if_true]
        rw [if_neg (nge (by omega) (by omega) c)]
  · have d1 : isL 0 = false := by decide
    have d2 : isD 0 = false := by decide
    simp only [if_neg c, d1, d2, Bool.false_eq_true, if_false, i01, if_true]
    rw [if_pos ((nle (by omega) (by omega)).mpr (by omega))]
theorem c_8 (h : TC L X l) : ∀ (d i n : Nat), i + d = l → d < n → f_X6_readToken_8 L n 465 (P4 X i) = some (P5 (P4 X (fs (fun k => !(decide (X.1 466 k = 32))) d i)) (ten (X.1 466) l (fs (fun k => !(decide (X.1 466 k = 32))) d i))) := by
  intro d
  induction d with
  | zero =>
    intro i n hi hn
    obtain ⟨m, rfl⟩ : ∃ m, n = m + 1 := ⟨n - 1, by omega⟩
    have hl := h.2.1
    unfold f_X6_readToken_8
    rw [if_pos h.1.1, P4_4, P4_o (by decide), h.2.2.1, if_pos ((nle (by omega) (by omega)).mpr (by omega)), c_45 h.p4 (s := i) (by omega) P4_4, P4_r (by decide)]
    rfl
  | succ d ih =>
    intro i n hi hn
    obtain ⟨m, rfl⟩ : ∃ m, n = m + 1 := ⟨n - 1, by omega⟩
    have hl := h.2.1
    unfold f_X6_readToken_8 fs
    rw [if_pos h.1.1, P4_4, P4_o (by decide), h.2.2.1, if_neg (nge (by omega) (by omega) (by omega)), c_signAt h.p4 (by omega), Option.bind_some, if_pos (show i < l by omega), P4_r (show 466 ≠ 465 by decide), n1, P4_w]
    by_cases c : X.1 466 i = 32
    · rw [if_pos c, c, if_neg (show ¬ (!(decide ((32 : Int32) = 32))) = true by decide)]
      exact ih (i + 1) m (by omega) (by omega)
    · have e : (!(decide (X.1 466 i = 32))) = true := by rw [decide_eq_false c]; rfl
      rw [if_neg c, if_pos e, c_45 h.p4 (s := i) (by omega) P4_4, P4_r (by decide)]
theorem c_readToken (h : TC L X l) {a : Nat} (ha : a ≤ l) (h5 : X.1 465 5 = nI a) : f_X6_readToken L X 465 = some (P5 (P4 X (tst (X.1 466) l a)) (ten (X.1 466) l (tst (X.1 466) l a))) := by
  have hl := h.2.1
  have e0 : smi X 465 4 (nI a) = P4 X a := by unfold P4; rw [smi_row]
  unfold f_X6_readToken
  rw [if_pos h.1.1, h5, e0, c_8 h (l - a) a u_fuel (by omega) (by unfold u_fuel; omega)]
  rfl
/-! the reference's tokens -/
def TM (X : hX) (l : Nat) : Prop := l ≤ 140 ∧ X.1 470 6 = nI l
theorem RR_9 {s e t : Nat} : (RR X s e t).1 470 9 = nI s := by unfold RR; rw [srow_s, pk_un (by decide), pk_un (by decide), pk_us]
theorem RR_10 {s e t : Nat} : (RR X s e t).1 470 10 = nI e := by unfold RR; rw [srow_s, pk_us]
theorem RR_11 {s e t : Nat} : (RR X s e t).1 470 11 = nI t := by unfold RR; rw [srow_s, pk_un (by decide), pk_us]
theorem RR_o {s e t j : Nat} (h1 : j ≠ 9) (h2 : j ≠ 10) (h3 : j ≠ 11) : (RR X s e t).1 470 j = X.1 470 j := by unfold RR; rw [srow_s, pk_un h2, pk_un h3, pk_un h1]
theorem RR_r {s e t k : Nat} (h : k ≠ 470) : (RR X s e t).1 k = X.1 k := srow_o h
theorem RR_w {s e t k : Nat} : smi (RR X s e t) 470 10 (nI k) = RR X s k t := by unfold RR; rw [smi_row, srow_srow, srow_s, upd_upd]
theorem R10_10 {i : Nat} : (R10 X i).1 470 10 = nI i := by unfold R10; rw [srow_s, pk_us]
theorem R10_o {i j : Nat} (h : j ≠ 10) : (R10 X i).1 470 j = X.1 470 j := by unfold R10; rw [srow_s, pk_un h]
theorem R10_r {i k : Nat} (h : k ≠ 470) : (R10 X i).1 k = X.1 k := srow_o h
theorem R10_w {i k : Nat} : smi (R10 X i) 470 10 (nI k) = R10 X k := by unfold R10; rw [smi_row, srow_srow, srow_s, upd_upd]
theorem R10_RR {i s t : Nat} : smi (smi (R10 X i) 470 9 (nI s)) 470 11 (nI t) = RR X s i t := by
  unfold R10 RR
  rw [smi_row, smi_row, srow_srow, srow_s, srow_srow, srow_s, upd_comm (i := 10) (j := 9) (by decide), upd_comm (i := 10) (j := 11) (by decide)]
theorem m_isIn {Y : hX} (hM : MOK L Y) (hl : l ≤ 140) (h6 : Y.1 470 6 = nI l) {i : Nat} (hi : i ≤ l) (h10 : Y.1 470 10 = nI i) (lo hi' : Int32) : f_X10_isIn L Y 470 lo hi' = some (if i < l ∧ lo ≤ Y.1 475 i ∧ Y.1 475 i ≤ hi' then 1 else 0) := by
  unfold f_X10_isIn
  rw [if_pos hM.1.1, h6, h10]
  by_cases c : i < l
  · simp only [if_neg (nge (i := i) (n := l) (by omega) (by omega) c), hM.2.2.2.2.2.2.1, Option.bind_some, if_pos hM.1.2.2.2.2.2.1, hM.2.1.2.2.2.2.1, if_pos (hin_nI (n := 140) (show i < 140 by omega) (by omega)), nI_clamp (show i < 2 ^ 31 by omega), s_in]
    by_cases c2 : lo ≤ Y.1 475 i ∧ Y.1 475 i ≤ hi'
    · simp only [if_pos c2, i10, if_false]
      rw [if_pos (show i < l ∧ lo ≤ Y.1 475 i ∧ Y.1 475 i ≤ hi' from ⟨c, c2⟩)]
    · simp only [if_neg c2, i01, if_true]
      rw [if_neg (show ¬ (i < l ∧ lo ≤ Y.1 475 i ∧ Y.1 475 i ≤ hi') from fun q => c2 q.2)]
  · rw [if_pos ((nle (by omega) (by omega)).mpr (by omega)), if_neg (fun q => c q.1)]
def tb (t : Nat) (c : Int32) : Bool := if t = 1 then isL c else if t = 2 then isD c else false
theorem m_96 (hM : MOK L X) (h : TM X l) {s t : Nat} (ht : t < 4) : ∀ (d i n : Nat), i + d = l → d < n → f_X10_reads_96 L n 470 (RR X s i t) = some (RR X s (fs (fun k => !(tb t (X.1 475 k))) d i + (if t = 3 then 1 else 0)) t) ∨ (t ≠ 1 ∧ t ≠ 2 ∧ f_X10_reads_96 L n 470 (RR X s i t) = some (RR X s (i + (if t = 3 then 1 else 0)) t)) := by
  intro d
  have hl := h.1
  have e147 : ∀ i, f_X10_reads_147 L 470 (RR X s i t) = some (RR X s (i + (if t = 3 then 1 else 0)) t) := fun i => by
    unfold f_X10_reads_147
    rw [if_pos hM.1.1, RR_11, RR_10]
    by_cases c : t = 3
    · subst c
      rw [if_pos (show nI 3 = 3 from rfl), if_pos rfl, n1, RR_w]
    · rw [if_neg (show ¬ nI t = 3 from fun q => c ((nI_eq (b := 3) (by omega) (by omega)).mp q)), if_neg c, Int32.add_zero, RR_w, Nat.add_zero]
  have n11 : nI t = 1 ↔ t = 1 := nI_eq (b := 1) (by omega) (by omega)
  have n12 : nI t = 2 ↔ t = 2 := nI_eq (b := 2) (by omega) (by omega)
  induction d with
  | zero =>
    intro i n hi hn
    obtain ⟨m, rfl⟩ : ∃ m, n = m + 1 := ⟨n - 1, by omega⟩
    unfold f_X10_reads_96 f_X10_reads_115
    have i1 := fun lo hi' => m_isIn (Y := RR X s i t) (l := l) (i := i) hM h.1 (by rw [RR_o (by decide) (by decide) (by decide)]; exact h.2) (by omega) RR_10 lo hi'
    simp only [if_pos hM.1.1, RR_11, i1, if_neg (show ¬ (i < l ∧ (97 : Int32) ≤ (RR X s i t).1 475 i ∧ (RR X s i t).1 475 i ≤ 122) from fun q => by omega), if_neg (show ¬ (i < l ∧ (48 : Int32) ≤ (RR X s i t).1 475 i ∧ (RR X s i t).1 475 i ≤ 57) from fun q => by omega), Option.bind_some, e147, if_true, ite_self]
    exact Or.inl rfl
  | succ d ih =>
    intro i n hi hn
    obtain ⟨m, rfl⟩ : ∃ m, n = m + 1 := ⟨n - 1, by omega⟩
    have i1 := fun lo hi' => m_isIn (Y := RR X s i t) (l := l) (i := i) hM h.1 (by rw [RR_o (by decide) (by decide) (by decide)]; exact h.2) (by omega) RR_10 lo hi'
    rw [RR_r (by decide)] at i1
    have e134 : f_X10_reads_134 L (f_X10_reads_96 L m) 470 (RR X s i t) = f_X10_reads_96 L m 470 (RR X s (i + 1) t) := by
      unfold f_X10_reads_134
      rw [if_pos hM.1.1, RR_10, n1, RR_w]
    unfold f_X10_reads_96 f_X10_reads_115 fs
    simp only [if_pos hM.1.1, RR_11, i1, e147, e134, Option.bind_some]
    by_cases t1 : t = 1
    · subst t1
      rw [if_pos (show nI 1 = 1 from rfl), if_neg (show ¬ nI 1 = 2 by decide)]
      have eb : tb 1 (X.1 475 i) = isL (X.1 475 i) := rfl
      rw [eb]
      cases c : isL (X.1 475 i) with
      | true =>
        have c' := of_decide_eq_true c
        rw [if_pos (show i < l ∧ (97 : Int32) ≤ X.1 475 i ∧ X.1 475 i ≤ 122 from ⟨by omega, c'⟩), if_neg (show ¬ (1 : Int32) = 0 by decide), if_neg (show ¬ (!true) = true by decide)]
        rcases ih (i + 1) m (by omega) (by omega) with q | q
        · exact Or.inl q
        · exact absurd rfl q.1
      | false =>
        have c' := of_decide_eq_false c
        rw [if_neg (show ¬ (i < l ∧ (97 : Int32) ≤ X.1 475 i ∧ X.1 475 i ≤ 122) from fun q => c' q.2), if_pos (show (0 : Int32) = 0 from rfl), if_pos (show (!false) = true from rfl)]
        exact Or.inl rfl
    · rw [if_neg (fun q => t1 (n11.mp q))]
      by_cases t2 : t = 2
      · subst t2
        rw [if_pos (show nI 2 = 2 from rfl)]
        have eb : tb 2 (X.1 475 i) = isD (X.1 475 i) := rfl
        rw [eb]
        cases c : isD (X.1 475 i) with
        | true =>
          have c' := of_decide_eq_true c
          rw [if_pos (show i < l ∧ (48 : Int32) ≤ X.1 475 i ∧ X.1 475 i ≤ 57 from ⟨by omega, c'⟩), if_neg (show ¬ (1 : Int32) = 0 by decide), if_neg (show ¬ (!true) = true by decide)]
          rcases ih (i + 1) m (by omega) (by omega) with q | q
          · exact Or.inl q
          · exact absurd rfl q.2.1
        | false =>
          have c' := of_decide_eq_false c
          rw [if_neg (show ¬ (i < l ∧ (48 : Int32) ≤ X.1 475 i ∧ X.1 475 i ≤ 57) from fun q => c' q.2), if_pos (show (0 : Int32) = 0 from rfl), if_pos (show (!false) = true from rfl)]
          exact Or.inl rfl
      · rw [if_neg (fun q => t2 (n12.mp q))]
        exact Or.inr ⟨t1, t2, rfl⟩
theorem m_38 (hM : MOK L X) (h : TM X l) {s : Nat} (hs : s ≤ l) : f_X10_reads_38 L 470 (R10 X s) = some (RR X s (ten (X.1 475) l s) (tso (X.1 475) l s)) := by
  have hl := h.1
  have e9 : (smi (R10 X s) 470 9 (nI s)).1 470 10 = nI s := by rw [smi_d, pk_un (by decide)]; exact R10_10
  have e6 : (smi (R10 X s) 470 9 (nI s)).1 470 6 = nI l := by rw [smi_d, pk_un (by decide), R10_o (by decide)]; exact h.2
  have e75 : (smi (R10 X s) 470 9 (nI s)).1 475 = X.1 475 := by rw [smi_o (by decide), R10_r (by decide)]
  have i1 := fun lo hi' => m_isIn (L := L) (Y := smi (R10 X s) 470 9 (nI s)) (l := l) (i := s) hM hl e6 hs e9 lo hi'
  rw [e75] at i1
  have e93 : ∀ t, f_X10_reads_93 L 470 (nI t) 470 (smi (R10 X s) 470 9 (nI s)) = f_X10_reads_96 L u_fuel 470 (RR X s s t) := fun t => by
    unfold f_X10_reads_93
    rw [if_pos hM.1.1, R10_RR]
  have go := fun t (ht : t < 4) => m_96 (L := L) hM h (s := s) ht (l - s) s u_fuel (by omega) (by unfold u_fuel; omega)
  unfold f_X10_reads_38
  simp only [if_pos hM.1.1, R10_10, e9, e6, i1, Option.bind_some]
  have f0 := e93 0
  have f1 := e93 1
  have f2 := e93 2
  have f3 := e93 3
  have f0 : f_X10_reads_93 L 470 0 470 (smi (R10 X s) 470 9 (nI s)) = _ := f0
  have f1 : f_X10_reads_93 L 470 1 470 (smi (R10 X s) 470 9 (nI s)) = _ := f1
  have f2 : f_X10_reads_93 L 470 2 470 (smi (R10 X s) 470 9 (nI s)) = _ := f2
  have f3 : f_X10_reads_93 L 470 3 470 (smi (R10 X s) 470 9 (nI s)) = _ := f3
  rw [f0, f1, f2, f3]
  unfold ten tso
  by_cases c : s < l
  · rw [if_neg (fun q => by have := (nI_eq (show s < 2 ^ 31 by omega) (show l < 2 ^ 31 by omega)).mp q; omega), if_pos c, if_pos c]
    cases c1 : isL (X.1 475 s) with
    | true =>
      have c' := of_decide_eq_true c1
      rw [if_pos (show s < l ∧ (97 : Int32) ≤ X.1 475 s ∧ X.1 475 s ≤ 122 from ⟨c, c'⟩), if_neg (show ¬ (1 : Int32) = 0 by decide), if_pos rfl, if_pos rfl]
      rcases go 1 (by omega) with q | q
      · exact q
      · exact absurd rfl q.1
    | false =>
      have c' := of_decide_eq_false c1
      rw [if_neg (show ¬ (s < l ∧ (97 : Int32) ≤ X.1 475 s ∧ X.1 475 s ≤ 122) from fun q => c' q.2), if_pos (show (0 : Int32) = 0 from rfl), if_neg Bool.false_ne_true, if_neg Bool.false_ne_true]
      cases c2 : isD (X.1 475 s) with
      | true =>
        have c'' := of_decide_eq_true c2
        rw [if_pos (show s < l ∧ (48 : Int32) ≤ X.1 475 s ∧ X.1 475 s ≤ 57 from ⟨c, c''⟩), if_neg (show ¬ (1 : Int32) = 0 by decide), if_pos rfl, if_pos rfl]
        rcases go 2 (by omega) with q | q
        · exact q
        · exact absurd rfl q.2.1
      | false =>
        have c'' := of_decide_eq_false c2
        rw [if_neg (show ¬ (s < l ∧ (48 : Int32) ≤ X.1 475 s ∧ X.1 475 s ≤ 57) from fun q => c'' q.2), if_pos (show (0 : Int32) = 0 from rfl), if_neg Bool.false_ne_true, if_neg Bool.false_ne_true]
        rcases go 3 (by omega) with q | q
        · rw [q]
          have e : fs (fun k => !(tb 3 (X.1 475 k))) (l - s) s = s := by
            obtain ⟨d, hd⟩ : ∃ d, l - s = d + 1 := ⟨l - s - 1, by omega⟩
            rw [hd]
            rfl
          rw [e]
          rfl
        · exact q.2.2
  · have e : s = l := by omega
    rw [if_pos (by rw [e]), if_neg c, if_neg c]
    rcases go 0 (by omega) with q | q
    · rw [q]
      have e : fs (fun k => !(tb 0 (X.1 475 k))) (l - s) s = s := by
        rw [show l - s = 0 by omega]
        rfl
      rw [e]
      rfl
    · exact q.2.2
theorem m_reads_l (hM : MOK L X) (h : TM X l) : ∀ (d i n : Nat), i + d = l → d < n → f_X10_reads_0 L n 470 (R10 X i) = some (RR X (fs (fun k => !(decide (X.1 475 k = 32))) d i) (ten (X.1 475) l (fs (fun k => !(decide (X.1 475 k = 32))) d i)) (tso (X.1 475) l (fs (fun k => !(decide (X.1 475 k = 32))) d i))) := by
  intro d
  have hl := h.1
  induction d with
  | zero =>
    intro i n hi hn
    obtain ⟨m, rfl⟩ : ∃ m, n = m + 1 := ⟨n - 1, by omega⟩
    unfold f_X10_reads_0
    rw [if_pos hM.1.1, R10_10, R10_o (by decide), h.2, if_pos ((nle (by omega) (by omega)).mpr (by omega)), m_38 hM h (by omega)]
    rfl
  | succ d ih =>
    intro i n hi hn
    obtain ⟨m, rfl⟩ : ∃ m, n = m + 1 := ⟨n - 1, by omega⟩
    have r5 : (R10 X i).2 470 5 = some 475 := hM.2.2.2.2.2.2.1
    unfold f_X10_reads_0 fs
    simp only [if_pos hM.1.1, R10_10, R10_o (X := X) (i := i) (show 6 ≠ 10 by decide), h.2, if_neg (nge (i := i) (n := l) (by omega) (by omega) (by omega)), r5, Option.bind_some, if_pos hM.1.2.2.2.2.2.1, hM.2.1.2.2.2.2.1, if_pos (hin_nI (n := 140) (show i < 140 by omega) (by omega)), nI_clamp (show i < 2 ^ 31 by omega), R10_r (X := X) (i := i) (show 475 ≠ 470 by decide), n1, R10_w]
    by_cases c : X.1 475 i = 32
    · rw [if_pos c, c, if_neg (show ¬ (!(decide ((32 : Int32) = 32))) = true by decide)]
      exact ih (i + 1) m (by omega) (by omega)
    · have e : (!(decide (X.1 475 i = 32))) = true := by rw [decide_eq_false c]; rfl
      rw [if_neg c, if_pos e, m_38 hM h (by omega)]
theorem m_reads (hM : MOK L X) (h : TM X l) {a : Nat} (ha : a ≤ l) (h10 : X.1 470 10 = nI a) : f_X10_reads L X 470 = some (RR X (tst (X.1 475) l a) (ten (X.1 475) l (tst (X.1 475) l a)) (tso (X.1 475) l (tst (X.1 475) l a))) := by
  have hl := h.1
  have e0 : R10 X a = X := by
    unfold R10
    rw [← h10]
    have : upd (X.1 470) 10 (X.1 470 10) = X.1 470 := by
      funext j
      unfold upd
      by_cases c : j = 10
      · rw [if_pos c, c]
      · rw [if_neg c]
    rw [this, srow_id]
  have := m_reads_l hM h (l - a) a u_fuel (by omega) (by unfold u_fuel; omega)
  rw [e0] at this
  exact this
end TK
