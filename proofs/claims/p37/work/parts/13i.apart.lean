/-! how far counts are told apart -/
def apS (v : Nat → Int32) (S : Int32) (j n : Nat) : Bool := decide (rb S ((nI n + 1) * (v j - v (4 + j)) - v 9) ≤ rb S (nI n * (v j + v (4 + j)) + v 9))
def fs (p : Nat → Bool) : Nat → Nat → Nat
  | 0, i => i
  | d + 1, i => if p i = true then i else fs p d (i + 1)
def al (p : Nat → Bool) : Nat → Bool
  | 0 => true
  | n + 1 => !(p n) && al p n
def gst (q : Nat → Bool) : Nat → Int32
  | 0 => -100009
  | k + 1 => if q (k + 1) = true then nI (k + 1) else gst q k
theorem fs_le {p : Nat → Bool} : ∀ d i, fs p d i ≤ i + d := by
  intro d
  induction d with
  | zero => intro i; exact Nat.le_refl _
  | succ d ih =>
    intro i
    unfold fs
    by_cases c : p i = true
    · rw [if_pos c]; omega
    · rw [if_neg c]; have := ih (i + 1); omega
theorem fs_eq {p : Nat → Bool} : ∀ d i, fs p d i = i + d ↔ ∀ j, i ≤ j → j < i + d → p j = false := by
  intro d
  induction d with
  | zero => intro i; exact ⟨fun _ j h1 h2 => absurd h2 (by omega), fun _ => rfl⟩
  | succ d ih =>
    intro i
    unfold fs
    by_cases c : p i = true
    · rw [if_pos c]
      constructor
      · intro h; omega
      · intro h; have := h i (by omega) (by omega); rw [c] at this; cases this
    · rw [if_neg c]
      rw [show i + (d + 1) = (i + 1) + d by omega, ih (i + 1)]
      constructor
      · intro h j h1 h2
        by_cases q : j = i
        · subst q; exact Bool.eq_false_iff.mpr c
        · exact h j (by omega) h2
      · intro h j h1 h2
        exact h j (by omega) h2
theorem al_eq {p : Nat → Bool} : ∀ n, al p n = true ↔ ∀ j, j < n → p j = false := by
  intro n
  induction n with
  | zero => exact ⟨fun _ j h => absurd h (by omega), fun _ => rfl⟩
  | succ n ih =>
    unfold al
    rw [Bool.and_eq_true, ih]
    constructor
    · intro h j hj
      by_cases q : j = n
      · subst q; have := h.1; cases hp : p j with
        | false => rfl
        | true => rw [hp] at this; cases this
      · exact h.2 j (by omega)
    · intro h
      exact ⟨by rw [h n (by omega)]; rfl, fun j hj => h j (by omega)⟩
theorem al_fs {p : Nat → Bool} {n : Nat} : (fs p n 0 = n) ↔ al p n = true := by
  have := fs_eq (p := p) n 0
  rw [Nat.zero_add] at this
  rw [this, al_eq]
  exact ⟨fun h j hj => h j (by omega) hj, fun h j _ hj => h j hj⟩
theorem nm1 (k : Nat) : nI (k + 1) + -1 = nI k := by
  rw [← nI_1 k, Int32.add_assoc]
  exact (congrArg (fun z => nI k + z) (show (1 : Int32) + -1 = 0 by decide)).trans (Int32.add_zero _)
theorem nm1' (k : Nat) : nI (k + 1) - 1 = nI k := by
  rw [← nI_1 k, Int32.add_sub_cancel]
theorem apx {v : Nat → Int32} (h : RgS v) {j n : Nat} (hj : j < 4) (hn : n < 1000) : (-6000000 ≤ ((nI n + 1) * (v j - v (4 + j)) - v 9).toInt ∧ ((nI n + 1) * (v j - v (4 + j)) - v 9).toInt ≤ 6000000) ∧ -6000000 ≤ (nI n * (v j + v (4 + j)) + v 9).toInt ∧ (nI n * (v j + v (4 + j)) + v 9).toInt ≤ 6000000 := by
  have el := lt_i h hj
  have eh := hv_i h hj
  have h9 := h.2.1
  have hk := h.2.2.2.2.2 j hj
  have en : (nI n).toInt = n := nI_toInt (by omega)
  have en1 : (nI n + 1).toInt = n + 1 := by rw [i_add (by rw [z1i]; omega) (by rw [z1i]; omega), en, z1i]
  have b1 : ((n : Int) + 1) * ((v j).toInt - (v (4 + j)).toInt) ≤ 1000 * ((v j).toInt - (v (4 + j)).toInt) := Int.mul_le_mul_of_nonneg_right (by omega) (by omega)
  have b2 : 0 ≤ ((n : Int) + 1) * ((v j).toInt - (v (4 + j)).toInt) := Int.mul_nonneg (by omega) (by omega)
  have b3 : (n : Int) * ((v j).toInt + (v (4 + j)).toInt) ≤ 1000 * ((v j).toInt + (v (4 + j)).toInt) := Int.mul_le_mul_of_nonneg_right (by omega) (by omega)
  have b4 : 0 ≤ (n : Int) * ((v j).toInt + (v (4 + j)).toInt) := Int.mul_nonneg (by omega) (by omega)
  have m1 : ((nI n + 1) * (v j - v (4 + j))).toInt = ((n : Int) + 1) * ((v j).toInt - (v (4 + j)).toInt) := by rw [i_mul (by rw [en1, el]; omega) (by rw [en1, el]; omega), en1, el]
  have m2 : (nI n * (v j + v (4 + j))).toInt = (n : Int) * ((v j).toInt + (v (4 + j)).toInt) := by rw [i_mul (by rw [en, eh]; omega) (by rw [en, eh]; omega), en, eh]
  rw [i_sub (by omega) (by omega), i_add (by omega) (by omega), m1, m2]
  omega
section AP
variable {L : hL} {X : hX} {b : Nat} {π ρ : Nat → Nat} {v : Nat → Int32}
theorem c_apartNext (h : CX L X b π ρ v) (hS : RgS v) {j : Nat} (hj : j < 4) {S : Int32} (h8 : 1 ≤ S.toInt ∧ S.toInt ≤ 1000) (n : Nat) : f_X7_apartFromNext L X (b + 2) S (b + 5 + j) (nI n) = some (if apS v S j n = true then 0 else 1) := by
  have tk := kt h hj
  have t2 := h.1.1.2.2.2.1
  unfold f_X7_apartFromNext f_X4_heaviest f_X4_lightest apS
  simp only [if_pos tk, if_pos t2, Option.bind_some, h.kw hj, h.ks hj, h.sc (show 1 < 3 by omega), c_readingAt h8, decide_eq_true_eq]
  by_cases c : rb S ((nI n + 1) * (v j - v (4 + j)) - v 9) ≤ rb S (nI n * (v j + v (4 + j)) + v 9)
  · rw [if_pos c, if_pos (show rb S ((nI n + 1) * (v j - v (4 + j)) - v (8 + 1)) ≤ rb S (nI n * (v j + v (4 + j)) + v (8 + 1)) from c)]
  · rw [if_neg c, if_neg (show ¬ rb S ((nI n + 1) * (v j - v (4 + j)) - v (8 + 1)) ≤ rb S (nI n * (v j + v (4 + j)) + v (8 + 1)) from c)]
theorem c_lastApart_l (h : CX L X b π ρ v) (hS : RgS v) {j : Nat} (hj : j < 4) : ∀ (d i n : Nat), i + d = 999 → d < n → f_X7_lastApart_2 L n (b + 2) (b + 5 + j) (nI i) X = some (nI (fs (apS v (v 8) j) d i)) := by
  intro d
  induction d with
  | zero =>
    intro i n hi hn
    obtain rfl : i = 999 := by omega
    obtain ⟨m, rfl⟩ : ∃ m, n = m + 1 := ⟨n - 1, by omega⟩
    unfold f_X7_lastApart_2
    rw [if_pos (show (999 : Int32) ≤ nI 999 by decide)]
    rfl
  | succ d ih =>
    intro i n hi hn
    obtain ⟨m, rfl⟩ : ∃ m, n = m + 1 := ⟨n - 1, by omega⟩
    have e := c_apartNext h hS hj hS.1 i
    unfold f_X7_lastApart_2 fs
    simp only [if_neg (show ¬ (999 : Int32) ≤ nI i from fun q => absurd ((nle (i := i) (n := 999) (by omega) (by omega)).mp q) (by omega)), if_pos h.1.1.2.2.2.1, h.sc (show 0 < 3 by omega), Nat.add_zero, e, Option.bind_some, n1]
    by_cases c : apS v (v 8) j i = true
    · simp only [if_pos c, if_true]
    · simp only [if_neg c, i10, if_false]
      exact ih (i + 1) m (by omega) (by omega)
theorem c_lastApart (h : CX L X b π ρ v) (hS : RgS v) {j : Nat} (hj : j < 4) : f_X7_lastApart L X (b + 2) (b + 5 + j) = some (nI (fs (apS v (v 8) j) 999 0)) := by
  unfold f_X7_lastApart
  exact c_lastApart_l h hS hj 999 0 u_fuel rfl (by unfold u_fuel; omega)
theorem c_allApart_l (h : CX L X b π ρ v) (hS : RgS v) {j : Nat} (hj : j < 4) {S : Int32} (h8 : 1 ≤ S.toInt ∧ S.toInt ≤ 1000) : ∀ (k n : Nat), k < 2147483647 → k < n → f_X7_allApart_5 L n (b + 2) S (b + 5 + j) (nI k - 1) X = some (if al (apS v S j) k = true then 1 else 0) := by
  intro k
  induction k with
  | zero =>
    intro n _ hn
    obtain ⟨m, rfl⟩ : ∃ m, n = m + 1 := ⟨n - 1, by omega⟩
    unfold f_X7_allApart_5
    rw [if_pos (show nI 0 - 1 < 0 by decide)]
    rfl
  | succ k ih =>
    intro n hk hn
    obtain ⟨m, rfl⟩ : ∃ m, n = m + 1 := ⟨n - 1, by omega⟩
    have := ih m (by omega) (by omega)
    have e := c_apartNext h hS hj h8 k
    unfold f_X7_allApart_5 al
    rw [nm1', if_neg (show ¬ nI k < 0 from fun q => by rw [i_lt, nI_toInt (by omega), z0i] at q; omega)]
    cases c : apS v S j k with
    | true =>
      rw [c, if_pos rfl] at e
      rw [e, Option.bind_some, if_pos h.1.1.2.2.2.1, if_pos (show (0 : Int32) = 0 from rfl)]
      rfl
    | false =>
      rw [c, if_neg Bool.false_ne_true] at e
      rw [e, Option.bind_some, if_pos h.1.1.2.2.2.1, if_neg (show ¬ (1 : Int32) = 0 by decide), Bool.not_false, Bool.true_and, ← Int32.sub_eq_add_neg]
      exact this
theorem c_greatestStep_l (h : CX L X b π ρ v) (hS : RgS v) {j : Nat} (hj : j < 4) {c : Nat} (hc : c ≤ 99) : ∀ (k n : Nat), k ≤ 1000 → k < n → f_X7_greatestStep_4 L n (b + 2) (b + 5 + j) (nI c) (nI k) X = some (gst (fun S => al (apS v (nI S) j) c) k) := by
  intro k
  induction k with
  | zero =>
    intro n _ hn
    obtain ⟨m, rfl⟩ : ∃ m, n = m + 1 := ⟨n - 1, by omega⟩
    unfold f_X7_greatestStep_4
    rw [if_pos (show nI 0 < 1 by decide)]
    rfl
  | succ k ih =>
    intro n hk hn
    obtain ⟨m, rfl⟩ : ∃ m, n = m + 1 := ⟨n - 1, by omega⟩
    have := ih m (by omega) (by omega)
    have e8 : (nI (k + 1)).toInt = k + 1 := nI_toInt (by omega)
    have e := c_allApart_l h hS hj (S := nI (k + 1)) (by omega) c u_fuel (by omega) (by unfold u_fuel; omega)
    unfold f_X7_greatestStep_4 gst f_X7_allApart
    rw [if_neg (show ¬ nI (k + 1) < 1 from fun q => by rw [i_lt, e8, z1i] at q; omega)]
    cases q : al (apS v (nI (k + 1)) j) c with
    | true =>
      rw [q, if_pos rfl] at e
      rw [e, Option.bind_some, if_pos h.1.1.2.2.2.1, if_neg (show ¬ (1 : Int32) = 0 by decide), if_pos rfl]
    | false =>
      rw [q, if_neg Bool.false_ne_true] at e
      rw [e, Option.bind_some, if_pos h.1.1.2.2.2.1, if_pos (show (0 : Int32) = 0 from rfl), if_neg Bool.false_ne_true, nm1]
      exact this
theorem c_greatestStep (h : CX L X b π ρ v) (hS : RgS v) {j : Nat} (hj : j < 4) {c : Nat} (hc : c ≤ 99) : f_X7_greatestStep L X (b + 2) (b + 5 + j) (nI c) = some (gst (fun S => al (apS v (nI S) j) c) 1000) := by
  unfold f_X7_greatestStep
  exact c_greatestStep_l h hS hj hc 1000 u_fuel (by omega) (by unfold u_fuel; omega)
end AP
section APM
variable {L : hL} {X : hX}
end APM
