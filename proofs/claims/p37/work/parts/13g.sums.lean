/-! sums over rows -/
def smx (f : Nat → Int32) : Nat → Int32
  | 0 => 0
  | n + 1 => smx f n + f n
theorem smx_ext {f g : Nat → Int32} : ∀ n, (∀ i, i < n → f i = g i) → smx f n = smx g n := by
  intro n
  induction n with
  | zero => intro _; rfl
  | succ n ih => intro h; unfold smx; rw [ih (fun i hi => h i (by omega)), h n (by omega)]
theorem smx_cut {f g : Nat → Int32} {n : Nat} (h1 : ∀ i, i < n → f i = g i) : ∀ d, (∀ i, n ≤ i → i < n + d → f i = 0) → smx f (n + d) = smx g n := by
  intro d
  induction d with
  | zero => intro _; exact smx_ext n h1
  | succ d ih =>
    intro h
    rw [show n + (d + 1) = (n + d) + 1 by omega]
    show smx f (n + d) + f (n + d) = _
    rw [ih (fun i a b => h i a (by omega)), h (n + d) (by omega) (by omega), Int32.add_zero]
theorem smx_b {f : Nat → Int32} {B : Int} (hB : 0 ≤ B) : ∀ n : Nat, (n : Int) * B < 2147483648 → (∀ i, i < n → 0 ≤ (f i).toInt ∧ (f i).toInt ≤ B) → 0 ≤ (smx f n).toInt ∧ (smx f n).toInt ≤ n * B := by
  intro n
  induction n with
  | zero => intro _ _; show 0 ≤ (0 : Int32).toInt ∧ (0 : Int32).toInt ≤ _; rw [z0i]; omega
  | succ n ih =>
    intro hn h
    have e : ((n + 1 : Nat) : Int) * B = n * B + B := by rw [Int.natCast_succ, Int.add_mul, Int.one_mul]
    rw [e] at hn ⊢
    have hnb : 0 ≤ (n : Int) * B := Int.mul_nonneg (by omega) hB
    obtain ⟨a1, a2⟩ := ih (by omega) (fun i hi => h i (by omega))
    have hf := h n (by omega)
    show 0 ≤ (smx f n + f n).toInt ∧ (smx f n + f n).toInt ≤ _
    rw [i_add (by omega) (by omega)]
    omega
theorem nle {i n : Nat} (hi : i < 2147483648) (hn : n < 2147483648) : nI n ≤ nI i ↔ n ≤ i := by
  rw [i_le, nI_toInt (by omega), nI_toInt (by omega)]
  omega
section SM
variable {L : hL} {X : hX} {b : Nat} {π ρ : Nat → Nat} {v : Nat → Int32}
theorem c_allPoints_l (h : CX L X b π ρ v) : ∀ (d i n : Nat), i + d = 6 → d < n → f_X0_allPoints_13 L n (smx (fun c => v (16 + 6 * c)) i) (b + 3) (nI 6) (nI i) X = some (smx (fun c => v (16 + 6 * c)) 6) := by
  intro d
  induction d with
  | zero =>
    intro i n hi hn
    obtain rfl : i = 6 := by omega
    obtain ⟨m, rfl⟩ : ∃ m, n = m + 1 := ⟨n - 1, by omega⟩
    unfold f_X0_allPoints_13
    rw [if_pos ((nle (by omega) (by omega)).mpr (by omega))]
  | succ d ih =>
    intro i n hi hn
    obtain ⟨m, rfl⟩ : ∃ m, n = m + 1 := ⟨n - 1, by omega⟩
    have e0 : X.1 (b + 9 + π i) 0 = v (16 + 6 * i) := h.cu (c := i) (by omega) (show 0 < 6 by omega)
    unfold f_X0_allPoints_13
    simp only [if_neg (fun q => absurd ((nle (i := i) (n := 6) (by omega) (by omega)).mp q) (by omega)), if_pos h.1.1.2.2.2.2.1, h.1.1.2.2.2.2.2.1, if_pos (hin_nI (n := 6) (show i < 6 by omega) (by omega)), nI_clamp (show i < 2 ^ 31 by omega), h.2.1.2.2.1 i (by omega), Option.bind_some, if_pos (ct h (show i < 6 by omega)), e0, n1]
    exact ih (i + 1) m (by omega) (by omega)
theorem c_allPoints (h : CX L X b π ρ v) : f_X0_allPoints L X b = some (smx (fun c => v (16 + 6 * c)) 6) := by
  unfold f_X0_allPoints
  simp only [if_pos h.1.1.1, h.2.1.1.2.2.1, Option.bind_some, if_pos h.1.1.2.2.2.2.1, h.1.1.2.2.2.2.2.1]
  exact c_allPoints_l h 6 0 u_fuel rfl (by unfold u_fuel; omega)
theorem c_allStocks_l (h : CX L X b π ρ v) : ∀ (d i n : Nat), i + d = 6 → d < n → f_X0_allStocks_13 L n (smx (fun c => v (52 + 7 * c + 2)) i) (b + 4) (nI 6) (nI i) X = some (smx (fun c => v (52 + 7 * c + 2)) 6) := by
  intro d
  induction d with
  | zero =>
    intro i n hi hn
    obtain rfl : i = 6 := by omega
    obtain ⟨m, rfl⟩ : ∃ m, n = m + 1 := ⟨n - 1, by omega⟩
    unfold f_X0_allStocks_13
    rw [if_pos ((nle (by omega) (by omega)).mpr (by omega))]
  | succ d ih =>
    intro i n hi hn
    obtain ⟨m, rfl⟩ : ∃ m, n = m + 1 := ⟨n - 1, by omega⟩
    have e0 : X.1 (b + 15 + ρ i) 2 = v (52 + 7 * i + 2) := h.pr (c := i) (by omega) (show 2 < 7 by omega)
    unfold f_X0_allStocks_13
    simp only [if_neg (fun q => absurd ((nle (i := i) (n := 6) (by omega) (by omega)).mp q) (by omega)), if_pos h.1.1.2.2.2.2.2.2.1, h.1.1.2.2.2.2.2.2.2, if_pos (hin_nI (n := 6) (show i < 6 by omega) (by omega)), nI_clamp (show i < 2 ^ 31 by omega), h.2.1.2.2.2.1 i (by omega), Option.bind_some, if_pos (pt h (show i < 6 by omega)), e0, n1]
    exact ih (i + 1) m (by omega) (by omega)
theorem c_allStocks (h : CX L X b π ρ v) : f_X0_allStocks L X b = some (smx (fun c => v (52 + 7 * c + 2)) 6) := by
  unfold f_X0_allStocks
  simp only [if_pos h.1.1.1, h.2.1.1.2.2.2, Option.bind_some, if_pos h.1.1.2.2.2.2.2.2.1, h.1.1.2.2.2.2.2.2.2]
  exact c_allStocks_l h 6 0 u_fuel rfl (by unfold u_fuel; omega)
def kp (v : Nat → Int32) (c : Nat) : Int32 := if v (16 + 6 * c + 1) = 0 then 0 else 1
theorem c_kept_l (h : CX L X b π ρ v) : ∀ (d i n : Nat), i + d = 6 → d < n → f_X0_keptWeighings_13 L n (smx (kp v) i) (b + 3) (nI 6) (nI i) X = some (smx (kp v) 6) := by
  intro d
  induction d with
  | zero =>
    intro i n hi hn
    obtain rfl : i = 6 := by omega
    obtain ⟨m, rfl⟩ : ∃ m, n = m + 1 := ⟨n - 1, by omega⟩
    unfold f_X0_keptWeighings_13
    rw [if_pos ((nle (by omega) (by omega)).mpr (by omega))]
  | succ d ih =>
    intro i n hi hn
    obtain ⟨m, rfl⟩ : ∃ m, n = m + 1 := ⟨n - 1, by omega⟩
    have e0 : X.1 (b + 9 + π i) 1 = v (16 + 6 * i + 1) := h.cu (c := i) (by omega) (show 1 < 6 by omega)
    have es : smx (kp v) (i + 1) = smx (kp v) i + kp v i := rfl
    have := ih (i + 1) m (by omega) (by omega)
    rw [es] at this
    unfold f_X0_keptWeighings_13 f_X0_keptWeighings_36
    simp only [if_neg (fun q => absurd ((nle (i := i) (n := 6) (by omega) (by omega)).mp q) (by omega)), if_pos h.1.1.2.2.2.2.1, h.1.1.2.2.2.2.2.1, if_pos (hin_nI (n := 6) (show i < 6 by omega) (by omega)), nI_clamp (show i < 2 ^ 31 by omega), h.2.1.2.2.1 i (by omega), Option.bind_some, if_pos (ct h (show i < 6 by omega)), e0, n1]
    unfold kp at this
    by_cases c : v (16 + 6 * i + 1) = 0
    · rw [if_pos c, Int32.add_zero] at this
      rw [if_pos c]
      exact this
    · rw [if_neg c] at this
      rw [if_neg c]
      exact this
theorem c_kept (h : CX L X b π ρ v) : f_X0_keptWeighings L X b = some (smx (kp v) 6) := by
  unfold f_X0_keptWeighings
  simp only [if_pos h.1.1.1, h.2.1.1.2.2.1, Option.bind_some, if_pos h.1.1.2.2.2.2.1, h.1.1.2.2.2.2.2.1]
  exact c_kept_l h 6 0 u_fuel rfl (by unfold u_fuel; omega)
end SM
section SMM
variable {L : hL} {X : hX}
end SMM
