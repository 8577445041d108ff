/-! looking: the rest -/
section LM
variable {B : Int} {L : hL} {X : hX} {v w : Nat → Int32} {n m : Nat}
theorem apS_cong (e : ∀ k, k < 16 → v k = w k) {S : Int32} {j : Nat} (hj : j < 4) : apS v S j = apS w S j := by
  funext n
  unfold apS
  rw [e 9 (by omega), e j (by omega), e (4 + j) (by omega)]
theorem mxP_cong (e : ∀ k, k < 16 → v k = w k) {r : Int32} {i k : Nat} (hi : i < 4) (hk : k < 4) : mxP v i k r = mxP w i k r := by
  funext s a
  unfold mxP gh go mxl mxh
  rw [e 8 (by omega), e 9 (by omega), e i (by omega), e (4 + i) (by omega), e k (by omega), e (4 + k) (by omega)]
theorem RV.given (h : RV B v w n m) (u : Int32) : gvs v u 6 = gvs w u n := by
  have hn := h.1.1
  have e1 : ∀ c, c ≤ n → gvs v u c = gvs w u c := by
    intro c
    induction c with
    | zero => intro _; rfl
    | succ c ih =>
      intro hc
      obtain ⟨b1, b2, b3, b4⟩ := h.2.1 c (by omega)
      show (_ : Option Int32).bind _ = (_ : Option Int32).bind _
      rw [ih (by omega), ← b3]
      congr 1
      funext s
      by_cases q : v (16 + 6 * c + 1) = 0
      · rw [if_pos q, if_pos q]
      · obtain ⟨-, q' | ⟨-, ⟨j, hj, ek⟩, -⟩⟩ := b1
        · exact absurd q' q
        · rw [if_neg q, if_neg q, ← b4 q 2 (by omega), ← b4 q 3 (by omega), ← b4 q 4 (by omega), ek, nI_clamp (by omega), gs_cong h.ag hj]
  have e2 := gvs_z (v := v) (u := u) (cc := n) (fun c h1 h2 => (h.2.2.1 c h1 h2).2) (6 - n) (by omega)
  rw [show n + (6 - n) = 6 by omega] at e2
  rw [e2]
  exact e1 n (Nat.le_refl _)
theorem RV.zk (h : RV B v w n m) : ∀ c, n ≤ c → c < 6 → v (16 + 6 * c + 1) = 0 := fun c h1 h2 => (h.2.2.1 c h1 h2).2
theorem cn_ext {p q : Nat → Bool} : ∀ n, (∀ i, i < n → p i = q i) → cn p n = cn q n := by
  intro n
  induction n with
  | zero => intro _; rfl
  | succ n ih => intro h; unfold cn; rw [ih (fun i hi => h i (by omega)), h n (by omega)]
theorem fs_ext {p q : Nat → Bool} : ∀ d i, (∀ x, i ≤ x → x < i + d → p x = q x) → fs p d i = fs q d i := by
  intro d
  induction d with
  | zero => intro _ _; rfl
  | succ d ih => intro i h; unfold fs; rw [h i (by omega) (by omega), ih (i + 1) (fun x h1 h2 => h x (by omega) (by omega))]
theorem sst_cong (e : ∀ p, p < m → ∀ j, j < 7 → v (52 + 7 * p + j) = w (52 + 7 * p + j)) (left : Int32) : ∀ k, k ≤ m → sst v m left k = sst w m left k := by
  have ep : ∀ p, p < m → prc v p = prc w p := fun p hp => e p hp 0 (by omega)
  have er : ∀ p, p < m → rk (prc v) m p = rk (prc w) m p := fun p hp => by
    unfold rk
    refine cn_ext m (fun q hq => ?_)
    unfold plt
    rw [ep q hq, ep p hp]
  have ek : ∀ k, pk_k (prc v) m k = pk_k (prc w) m k := fun k => by
    unfold pk_k
    refine fs_ext m 0 (fun x _ hx => ?_)
    rw [er x (by omega)]
  intro k
  induction k with
  | zero => intro _; rfl
  | succ k ih =>
    intro hk
    have hp := (pk_spec (f := prc w) (m := m) (k := k) (by omega)).1
    have eq : ∀ l, sq v l (pk_k (prc w) m k) = sq w l (pk_k (prc w) m k) := fun l => by
      unfold sq
      rw [ep _ hp, e _ hp 2 (by omega)]
    show (_, _, _) = (_, _, _)
    rw [ih (by omega), ek k, eq, ep _ hp, e _ hp 1 (by omega)]
end LM
