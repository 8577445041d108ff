/-! the object as it is made -/
def S9 : Option (hL × hX) := f_X9_init (newL L_0 9 0) (newX X_0 0) 0
def SF : hL × hX := S9.getD (L_0, X_0)
def e0 (r : Nat) : Nat := if r = 5 then 0 else if r = 6 then 1 else r + 2
def civ (j : Nat) : Int32 := if j < 4 then 1000 else if j < 8 then 10 else if j = 8 then 100 else if j = 9 then 50 else if j = 12 then 5 else 0
def iv (k : Nat) : Int32 := if k < 94 then civ k else if (k - 94) % 95 = 0 then 0 else civ ((k - 95) % 95)
def bl (p : Nat → Bool) : Nat → Bool
  | 0 => true
  | n + 1 => p n && bl p n
theorem bl_t {p : Nat → Bool} : ∀ n, bl p n = true → ∀ i, i < n → p i = true := by
  intro n
  induction n with
  | zero => intro _ i hi; exact absurd hi (Nat.not_lt_zero i)
  | succ n ih =>
    intro h i hi
    unfold bl at h
    rw [Bool.and_eq_true] at h
    by_cases c : i = n
    · rw [c]; exact h.1
    · exact ih h.2 i (by omega)
def ck1 (L : hL) (b : Nat) : Bool := decide (tk L b 0 ∧ tk L (b + 1) 16 ∧ L.2.2 (b + 1) = 4 ∧ tk L (b + 2) 7 ∧ tk L (b + 3) 15 ∧ L.2.2 (b + 3) = 6 ∧ tk L (b + 4) 17 ∧ L.2.2 (b + 4) = 6) && (bl (fun i => decide (tk L (b + 5 + i) 4)) 4 && (bl (fun i => decide (tk L (b + 9 + i) 1)) 6 && bl (fun i => decide (tk L (b + 15 + i) 5)) 6))
def ck2 (X : hX) (b : Nat) : Bool := decide (X.2 b 0 = some (b + 1) ∧ X.2 b 1 = some (b + 2) ∧ X.2 b 2 = some (b + 3) ∧ X.2 b 3 = some (b + 4)) && (bl (fun i => decide (X.2 (b + 1) i = some (b + 5 + i))) 4 && (bl (fun i => decide (X.2 (b + 3) i = some (b + 9 + i))) 6 && bl (fun i => decide (X.2 (b + 4) i = some (b + 15 + i))) 6))
def ck3 (X : hX) (b : Nat) : Bool := bl (fun k => decide (X.1 (cA b (fun i => i) (fun i => i) k) (cF k) = civ k)) 94
def ckc (L : hL) (X : hX) (b : Nat) : Bool := ck1 L b && (ck2 X b && ck3 X b)
def cks (L : hL) (X : hX) (s : Nat) : Bool := decide (tk L s 8 ∧ tk L (s + 22) 14 ∧ L.2.2 (s + 22) = 2 ∧ tk L (s + 23) 13 ∧ L.2.2 (s + 23) = 2) && (decide (X.2 s 0 = some (s + 1) ∧ X.2 s 1 = some (s + 22) ∧ X.2 s 2 = some (s + 23)) && (bl (fun i => decide (X.2 (s + 22) i = some (s + 24 + 21 * i))) 2 && bl (fun i => decide (X.1 (s + 23) i = 0)) 2))
def ckl (X : hX) (b : Nat) : Bool := bl (fun o => bl (fun j => match X.2 (b + o) j with | none => true | some q => decide (b ≤ q ∧ q < b + 21)) 6) 21
def cka (L : hL) (X : hX) (s : Nat) : Bool := cks L X s && (ckc L X (s + 1) && (ckc L X (s + 24) && (ckc L X (s + 45) && ckl X (s + 1))))
theorem s9 : S9.isSome = true := by decide +kernel
theorem s9n : SF.1.1 = 470 := by decide +kernel
theorem cka_0 : cka SF.1 SF.2 3 = true := by decide +kernel
theorem cka_1 : cka SF.1 SF.2 69 = true := by decide +kernel
theorem cka_2 : cka SF.1 SF.2 135 = true := by decide +kernel
theorem cka_3 : cka SF.1 SF.2 201 = true := by decide +kernel
theorem cka_4 : cka SF.1 SF.2 267 = true := by decide +kernel
theorem cka_5 : cka SF.1 SF.2 333 = true := by decide +kernel
theorem cka_6 : cka SF.1 SF.2 399 = true := by decide +kernel
theorem in_fx : FX SF.1 SF.2 := by unfold FX; decide +kernel
theorem in_hr : HR SF.2 e0 0 := by unfold HR sb; decide +kernel
theorem in_iv : RgS iv ∧ (∀ c, c < 6 → iv (16 + 6 * c) = 0 ∧ iv (16 + 6 * c + 1) = 0) ∧ (∀ p, p < 6 → ∀ j, j < 7 → iv (52 + 7 * p + j) = 0) ∧ iv 14 = 0 ∧ iv 15 = 0 ∧ ∀ i, i < 2 → iv (94 + 95 * i) = 0 := by unfold RgS; decide +kernel
theorem ck1_c {L : hL} {b : Nat} (h : ck1 L b = true) : COK L b := by
  unfold ck1 at h
  rw [Bool.and_eq_true, Bool.and_eq_true, Bool.and_eq_true] at h
  obtain ⟨h1, h2, h3, h4⟩ := h
  exact ⟨of_decide_eq_true h1, fun i hi => of_decide_eq_true (bl_t 4 h2 i hi), fun i hi => of_decide_eq_true (bl_t 6 h3 i hi), fun i hi => of_decide_eq_true (bl_t 6 h4 i hi)⟩
theorem ck2_c {X : hX} {b : Nat} (h : ck2 X b = true) : CR X b (fun i => i) (fun i => i) := by
  unfold ck2 at h
  rw [Bool.and_eq_true, Bool.and_eq_true, Bool.and_eq_true] at h
  obtain ⟨h1, h2, h3, h4⟩ := h
  exact ⟨of_decide_eq_true h1, fun i hi => of_decide_eq_true (bl_t 4 h2 i hi), fun i hi => of_decide_eq_true (bl_t 6 h3 i hi), fun i hi => of_decide_eq_true (bl_t 6 h4 i hi), fun _ h => h, fun _ h => h, fun _ _ _ _ h => h, fun _ _ _ _ h => h⟩
theorem ckc_c {L : hL} {X : hX} {b : Nat} (h : ckc L X b = true) : CX L X b (fun i => i) (fun i => i) civ := by
  unfold ckc at h
  rw [Bool.and_eq_true, Bool.and_eq_true] at h
  exact ⟨ck1_c h.1, ck2_c h.2.1, fun k hk => of_decide_eq_true (bl_t 94 h.2.2 k hk)⟩
theorem iv_c : ∀ k, k < 94 → civ k = iv k := fun k hk => by unfold iv; rw [if_pos hk]
theorem iv_s : ∀ i, i < 2 → ∀ k, k < 94 → civ k = iv (95 + 95 * i + k) := fun i hi k hk => by
  unfold iv
  rw [if_neg (by omega), if_neg (by omega), show (95 + 95 * i + k - 95) % 95 = k by omega]
theorem cka_s {L : hL} {X : hX} {s : Nat} (h : cka L X s = true) : SV L X s iv ∧ ckl X (s + 1) = true := by
  unfold cka at h
  rw [Bool.and_eq_true, Bool.and_eq_true, Bool.and_eq_true, Bool.and_eq_true] at h
  obtain ⟨h1, h2, h3, h4, h5⟩ := h
  unfold cks at h1
  rw [Bool.and_eq_true, Bool.and_eq_true, Bool.and_eq_true] at h1
  obtain ⟨u1, u2, u3, u4⟩ := h1
  have u1 := of_decide_eq_true u1
  have u2 := of_decide_eq_true u2
  refine ⟨⟨u1, ⟨u2.1, u2.2.1, u2.2.2, fun i hi => of_decide_eq_true (bl_t 2 u3 i hi)⟩, CXe.ext ⟨_, _, ckc_c h2⟩ iv_c, fun i hi => ⟨?_, ?_⟩⟩, h5⟩
  · have : i = 0 ∨ i = 1 := by omega
    rcases this with rfl | rfl
    · exact CXe.ext ⟨_, _, ckc_c h3⟩ (iv_s 0 (by omega))
    · exact CXe.ext ⟨_, _, ckc_c h4⟩ (iv_s 1 (by omega))
  · rw [show X.1 (s + 23) i = 0 from of_decide_eq_true (bl_t 2 u4 i hi), in_iv.2.2.2.2.2 i hi]
theorem sv_all : ∀ t, t < 7 → SV SF.1 SF.2 (sb t) iv ∧ ckl SF.2 (sb t + 1) = true := fun t ht => by
  have : t = 0 ∨ t = 1 ∨ t = 2 ∨ t = 3 ∨ t = 4 ∨ t = 5 ∨ t = 6 := by omega
  rcases this with rfl | rfl | rfl | rfl | rfl | rfl | rfl
  · exact cka_s cka_0
  · exact cka_s cka_1
  · exact cka_s cka_2
  · exact cka_s cka_3
  · exact cka_s cka_4
  · exact cka_s cka_5
  · exact cka_s cka_6
theorem e0_r : (∀ r, r < 7 → e0 r < 7) ∧ ∀ r, r < 7 → ∀ q, q < 7 → e0 r = e0 q → r = q := by decide
theorem in_rv : RV 9999 iv iv 0 0 := by
  obtain ⟨h1, h2, h3, h4, h5, h6⟩ := in_iv
  exact ⟨⟨by omega, by omega, fun _ _ => rfl, h4, h5, h1⟩, fun c hc => absurd hc (Nat.not_lt_zero c), fun c _ hc => h2 c hc, fun p hp => absurd hp (Nat.not_lt_zero p), fun p _ hp j hj => h3 p hp j hj⟩
theorem in_lj : LJ 0 iv := by
  have h := in_iv
  exact ⟨in_rv, by decide +kernel, fun j _ hj => (by decide +kernel : ∀ j, j < 4 → iv j = 1000) j hj, by decide +kernel, fun c hc => (h.2.1 c hc).2⟩
theorem in_ws : WS iv := by
  have h := in_iv
  exact ⟨fun i hi => Or.inl (h.2.1 i hi).2, fun i hi => Or.inl (h.2.2.2.2.2 i hi)⟩
theorem in_rb0 : RB 6 (newL L_0 9 0) (newX X_0 0) ∧ hRS (newL L_0 9 0) (newX X_0 0) := by
  have e : ∀ k j, (newX X_0 0).2 k j = none := fun k j => by
    show (if k = 0 then none else none) = none
    exact ite_self _
  refine ⟨fun k j _ => e k j, fun k j b _ h => ?_⟩
  rw [e] at h
  cases h
theorem k_init : ∃ L2 X2, f_X9_init (newL L_0 9 0) (newX X_0 0) 0 = some (L2, X2) ∧ KS L2 X2 0 iv := by
  cases e9 : S9 with
  | none =>
    refine absurd s9 ?_
    rw [e9]
    exact Bool.false_ne_true
  | some q =>
    obtain ⟨L2, X2⟩ := q
    have hSF : SF = (L2, X2) := by
      unfold SF
      rw [e9]
      rfl
    have hn : L2.1 = 470 := by
      have h := s9n
      rw [hSF] at h
      exact h
    have c1 : ∀ t, t < 7 → SV L2 X2 (sb t) iv ∧ ckl X2 (sb t + 1) = true := by
      have h := sv_all
      rw [hSF] at h
      exact h
    have c2 : FX L2 X2 := by
      have h := in_fx
      rw [hSF] at h
      exact h
    have c3 : HR X2 e0 0 := by
      have h := in_hr
      rw [hSF] at h
      exact h
    have e9' : f_X9_init (newL L_0 9 0) (newX X_0 0) 0 = some (L2, X2) := e9
    have b6 := rb_X9_init (J := 6) (by omega) e9' in_rb0.1
    have rs := (rs_X9_init e9' in_rb0.2).1
    refine ⟨L2, X2, e9', e0, fun _ => iv, ⟨⟨c2, fun t ht => ?_, by omega, c3⟩, ⟨e0_r.1, fun r q hr hq => e0_r.2 r hr q hq⟩, fun r hr => (c1 (e0 r) (e0_r.1 r hr)).1⟩, fun k j b hk hb => ?_, fun _ _ => rfl, in_ws⟩
    · intro k j b hk hb
      have ht' : sb t + 1 + 21 ≤ 470 := by unfold sb; omega
      by_cases hj : j < 6
      · have h0 := (c1 t ht).2
        unfold ckl at h0
        have h := bl_t 6 (bl_t 21 h0 (k - (sb t + 1)) (by omega)) j hj
        rw [show sb t + 1 + (k - (sb t + 1)) = k by omega, hb] at h
        exact of_decide_eq_true h
      · rw [b6 k j (by omega)] at hb
        cases hb
    · have hk : k < 470 := hk
      have := rs k j b (by omega) hb
      show b < 470
      omega
theorem law_ok : ∀ (xs : Nat → Int32) (Ln : Nat), Ln ≤ 260 → law_run xs Ln := by
  intro xs Ln hLn
  obtain ⟨L2, X2, e1, hK⟩ := k_init
  exact ⟨L2, X2, e1, l_8 hLn hK in_lj⟩
