/-! bundles of two kinds -/
def mxl (v : Nat → Int32) (i k a b : Nat) : Int32 := ((nI a * (v i - v (4 + i))) + (nI b * (v k - v (4 + k)))) - v 9
def mxh (v : Nat → Int32) (i k a b : Nat) : Int32 := ((nI a * (v i + v (4 + i))) + (nI b * (v k + v (4 + k)))) + v 9
def mxP (v : Nat → Int32) (i k : Nat) (r : Int32) (s a : Nat) : Bool := decide (r - r / v 8 * v 8 = 0 ∧ ¬ gh v r < mxl v i k a (s - a) ∧ ¬ mxh v i k a (s - a) < go v r)
def cn (p : Nat → Bool) : Nat → Nat
  | 0 => 0
  | n + 1 => cn p n + (if p n = true then 1 else 0)
theorem cn_le {p : Nat → Bool} : ∀ n, cn p n ≤ n := by
  intro n
  induction n with
  | zero => exact Nat.le_refl _
  | succ n ih => unfold cn; split <;> omega
def mst (t : Nat × Int32 × Int32) (s c : Nat) : Nat × Int32 × Int32 := (t.1 + c, if c = 0 then t.2.1 else if t.2.1 = -100009 then nI s else t.2.1, if c = 0 then t.2.2 else nI s)
def mxs (P : Nat → Nat → Bool) : Nat → Nat × Int32 × Int32
  | 0 => (0, -100009, -100009)
  | s + 1 => mst (mxs P s) s (cn (P s) (s + 1))
def mxr (t : Nat × Int32 × Int32) (what : Int32) : Int32 := if what = 0 then nI t.1 else if what = 1 then t.2.1 else t.2.2
theorem nsub {s a : Nat} (h : a ≤ s) : nI s - nI a = nI (s - a) := by
  have : nI s = nI (s - a) + nI a := by rw [nI_add, show s - a + a = s by omega]
  rw [this, Int32.add_sub_cancel]
theorem nlt {i n : Nat} (hi : i < 2147483648) (hn : n < 2147483648) : nI n < nI i ↔ n < i := by
  rw [i_lt, nI_toInt (by omega), nI_toInt (by omega)]
  omega
theorem nIne60 (i : Nat) (h : i ≤ 60) : nI i ≠ -100009 := by
  intro q
  have := i_eq.mp q
  rw [nI_toInt (by omega), show (-100009 : Int32).toInt = -100009 by decide] at this
  omega
theorem mxh_0 {v : Nat → Int32} (h : RgS v) {i k a b : Nat} (hi : i < 4) (hk : k < 4) (ha : a ≤ 60) (hb : b ≤ 60) : 0 ≤ (mxh v i k a b).toInt := by
  have e1 := hv_i h hi
  have e2 := hv_i h hk
  have h9 := h.2.1
  have k1 := h.2.2.2.2.2 i hi
  have k2 := h.2.2.2.2.2 k hk
  have ea : (nI a).toInt = a := nI_toInt (by omega)
  have eb : (nI b).toInt = b := nI_toInt (by omega)
  have p1 : 0 ≤ (a : Int) * ((v i).toInt + (v (4 + i)).toInt) := Int.mul_nonneg (by omega) (by omega)
  have p2 : 0 ≤ (b : Int) * ((v k).toInt + (v (4 + k)).toInt) := Int.mul_nonneg (by omega) (by omega)
  have p3 : (a : Int) * ((v i).toInt + (v (4 + i)).toInt) ≤ 60 * ((v i).toInt + (v (4 + i)).toInt) := Int.mul_le_mul_of_nonneg_right (by omega) (by omega)
  have p4 : (b : Int) * ((v k).toInt + (v (4 + k)).toInt) ≤ 60 * ((v k).toInt + (v (4 + k)).toInt) := Int.mul_le_mul_of_nonneg_right (by omega) (by omega)
  have m1 : (nI a * (v i + v (4 + i))).toInt = (a : Int) * ((v i).toInt + (v (4 + i)).toInt) := by rw [i_mul (by rw [ea, e1]; omega) (by rw [ea, e1]; omega), ea, e1]
  have m2 : (nI b * (v k + v (4 + k))).toInt = (b : Int) * ((v k).toInt + (v (4 + k)).toInt) := by rw [i_mul (by rw [eb, e2]; omega) (by rw [eb, e2]; omega), eb, e2]
  have m3 := i_add (a := nI a * (v i + v (4 + i))) (b := nI b * (v k + v (4 + k))) (by omega) (by omega)
  unfold mxh
  rw [i_add (by omega) (by omega), m3, m1, m2]
  omega
section MX
variable {L : hL} {X : hX} {b : Nat} {π ρ : Nat → Nat} {v : Nat → Int32}
theorem c_shows (h : CX L X b π ρ v) (hS : RgS v) (r : Int32) : f_X7_shows L X (b + 2) r = some (if r - r / v 8 * v 8 = 0 then 1 else 0) := by
  have t2 := h.1.1.2.2.2.1
  have h8 := hS.1
  unfold f_X7_shows
  simp only [if_pos t2, h.sc (show 0 < 3 by omega), if_neg (show ¬ v (8 + 0) < 1 from fun q => by rw [i_lt, z1i] at q; have q : (v 8).toInt < 1 := q; omega), if_pos (show ¬ v (8 + 0) = 0 from i_nz (show 0 < (v 8).toInt by omega))]
  by_cases hs : r - r / v 8 * v 8 = 0
  · rw [if_pos hs, if_pos (show r - r / v (8 + 0) * v (8 + 0) = 0 from hs)]
  · rw [if_neg hs, if_neg (show ¬ r - r / v (8 + 0) * v (8 + 0) = 0 from hs)]
theorem c_pairs_l (h : CX L X b π ρ v) (hS : RgS v) {i k : Nat} (hi : i < 4) (hk : k < 4) {r : Int32} (hs : r - r / v 8 * v 8 = 0) {s : Nat} (h60 : s ≤ 60) : ∀ (d a n : Nat), a + d = s + 1 → d < n → f_X7_pairsOf_17 L n (b + 2) (nI s) (b + 5 + i) (b + 5 + k) r (nI (cn (mxP v i k r s) a)) (nI a) X = some (nI (cn (mxP v i k r s) (s + 1))) := by
  intro d
  induction d with
  | zero =>
    intro a n ha hn
    obtain rfl : a = s + 1 := by omega
    obtain ⟨m, rfl⟩ : ∃ m, n = m + 1 := ⟨n - 1, by omega⟩
    unfold f_X7_pairsOf_17
    rw [if_pos ((nlt (by omega) (by omega)).mpr (by omega))]
  | succ d ih =>
    intro a n ha hn
    obtain ⟨m, rfl⟩ : ∃ m, n = m + 1 := ⟨n - 1, by omega⟩
    have := ih (a + 1) m (by omega) (by omega)
    have ec : cn (mxP v i k r s) (a + 1) = cn (mxP v i k r s) a + (if mxP v i k r s a = true then 1 else 0) := rfl
    rw [ec] at this
    unfold f_X7_pairsOf_17 f_X4_lightest f_X4_heaviest f_X7_loadTo f_X7_loadFrom f_X7_pairsOf_98
    simp only [if_neg (fun q => absurd ((nlt (i := a) (n := s) (by omega) (by omega)).mp q) (by omega)), if_pos (kt h hi), if_pos (kt h hk), if_pos h.1.1.2.2.2.1, Option.bind_some, h.kw hi, h.ks hi, h.kw hk, h.ks hk, h.sc (show 0 < 3 by omega), h.sc (show 1 < 3 by omega), nsub (show a ≤ s by omega), n1]
    have eP : mxP v i k r s a = decide (r - r / v 8 * v 8 = 0 ∧ ¬ gh v r < mxl v i k a (s - a) ∧ ¬ mxh v i k a (s - a) < go v r) := rfl
    by_cases c1 : gh v r < mxl v i k a (s - a)
    · rw [if_neg (show ¬ mxP v i k r s a = true from fun q => (of_decide_eq_true (eP ▸ q)).2.1 c1)] at this
      rw [if_pos (show r + (v (8 + 0) - 1) / 2 < nI a * (v i - v (4 + i)) + nI (s - a) * (v k - v (4 + k)) - v (8 + 1) from c1)]
      exact this
    · rw [if_neg (show ¬ r + (v (8 + 0) - 1) / 2 < nI a * (v i - v (4 + i)) + nI (s - a) * (v k - v (4 + k)) - v (8 + 1) from c1)]
      by_cases c2 : mxh v i k a (s - a) < go v r
      · rw [if_neg (show ¬ mxP v i k r s a = true from fun q => (of_decide_eq_true (eP ▸ q)).2.2 c2)] at this
        rw [if_pos (show nI a * (v i + v (4 + i)) + nI (s - a) * (v k + v (4 + k)) + v (8 + 1) < r - v (8 + 0) / 2 from c2)]
        exact this
      · rw [if_pos (show mxP v i k r s a = true from eP ▸ decide_eq_true ⟨hs, c1, c2⟩)] at this
        rw [if_neg (show ¬ nI a * (v i + v (4 + i)) + nI (s - a) * (v k + v (4 + k)) + v (8 + 1) < r - v (8 + 0) / 2 from c2)]
        exact this
theorem cn_0 {v : Nat → Int32} {i k : Nat} {r : Int32} (hs : ¬ r - r / v 8 * v 8 = 0) (s : Nat) : ∀ n, cn (mxP v i k r s) n = 0 := by
  intro n
  induction n with
  | zero => rfl
  | succ n ih =>
    unfold cn
    rw [ih, if_neg]
    intro q
    exact hs (of_decide_eq_true (show decide (r - r / v 8 * v 8 = 0 ∧ ¬ gh v r < mxl v i k n (s - n) ∧ ¬ mxh v i k n (s - n) < go v r) = true from q)).1
theorem c_pairs (h : CX L X b π ρ v) (hS : RgS v) {i k : Nat} (hi : i < 4) (hk : k < 4) (r : Int32) {s : Nat} (h60 : s ≤ 60) : f_X7_pairsOf L X (b + 2) (nI s) (b + 5 + i) (b + 5 + k) r = some (nI (cn (mxP v i k r s) (s + 1))) := by
  unfold f_X7_pairsOf
  rw [c_shows h hS, Option.bind_some, if_pos h.1.1.2.2.2.1]
  by_cases hs : r - r / v 8 * v 8 = 0
  · rw [if_pos hs, if_neg (show ¬ (1 : Int32) = 0 by decide)]
    exact c_pairs_l h hS hi hk hs h60 (s + 1) 0 u_fuel (by omega) (by unfold u_fuel; omega)
  · rw [if_neg hs, if_pos rfl, cn_0 hs]
    rfl
theorem c_mixed_l (h : CX L X b π ρ v) (hS : RgS v) {i k : Nat} (hi : i < 4) (hk : k < 4) (r what : Int32) : ∀ (d s n : Nat), s + d = 61 → d < n → f_X7_mixedPairs_14 L n (b + 2) (b + 5 + i) (b + 5 + k) r what (nI (mxs (mxP v i k r) s).1) (mxs (mxP v i k r) s).2.1 (mxs (mxP v i k r) s).2.2 (nI s) X = some (mxr (mxs (mxP v i k r) 61) what) := by
  intro d
  induction d with
  | zero =>
    intro s n hs hn
    obtain rfl : s = 61 := by omega
    obtain ⟨m, rfl⟩ : ∃ m, n = m + 1 := ⟨n - 1, by omega⟩
    unfold f_X7_mixedPairs_14
    rw [if_pos (show (60 : Int32) < nI 61 by decide)]
    unfold mxr
    by_cases w0 : what = 0
    · rw [if_pos w0, if_pos w0]
    · rw [if_neg w0, if_neg w0]
      by_cases w1 : what = 1
      · rw [if_pos w1, if_pos w1]
      · rw [if_neg w1, if_neg w1]
  | succ d ih =>
    intro s n hs hn
    obtain ⟨m, rfl⟩ : ∃ m, n = m + 1 := ⟨n - 1, by omega⟩
    have := ih (s + 1) m (by omega) (by omega)
    have ec : mxs (mxP v i k r) (s + 1) = mst (mxs (mxP v i k r) s) s (cn (mxP v i k r s) (s + 1)) := rfl
    rw [ec] at this
    have hc := cn_le (p := mxP v i k r s) (s + 1)
    unfold f_X7_mixedPairs_14 f_X7_mixedPairs_59
    rw [if_neg (show ¬ (60 : Int32) < nI s from fun q => absurd ((nlt (i := s) (n := 60) (by omega) (by omega)).mp q) (by omega)), c_pairs h hS hi hk r (by omega), Option.bind_some, if_pos h.1.1.2.2.2.1, n1]
    generalize cn (mxP v i k r s) (s + 1) = c at this hc ⊢
    unfold mst at this
    by_cases c0 : c = 0
    · subst c0
      rw [if_pos (show nI 0 ≤ 0 by decide)]
      rw [if_pos rfl, if_pos rfl] at this
      exact this
    · rw [if_neg (show ¬ nI c ≤ 0 from fun q => by rw [i_le, nI_toInt (by omega), z0i] at q; omega), nI_add]
      rw [if_neg c0, if_neg c0] at this
      by_cases c1 : (mxs (mxP v i k r) s).2.1 = -100009
      · rw [if_pos c1] at this
        rw [if_pos c1]
        exact this
      · rw [if_neg c1] at this
        rw [if_neg c1]
        exact this
theorem c_mixed (h : CX L X b π ρ v) (hS : RgS v) {i k : Nat} (hi : i < 4) (hk : k < 4) (r what : Int32) : f_X7_mixedPairs L X (b + 2) (b + 5 + i) (b + 5 + k) r what = some (mxr (mxs (mxP v i k r) 61) what) := by
  unfold f_X7_mixedPairs
  exact c_mixed_l h hS hi hk r what 61 0 u_fuel rfl (by unfold u_fuel; omega)
end MX
section MXM
variable {L : hL} {X : hX}
end MXM
