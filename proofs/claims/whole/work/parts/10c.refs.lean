set_option maxRecDepth 100000 in
set_option maxHeartbeats 4000000 in
theorem rf_X4_copyFrom {L : hL} {X : hX} {this : Nat} {a1 : Nat} {X' : hX} (h : f_X4_copyFrom L X this a1 = some X') : X'.2 = X.2 := by
  unfold f_X4_copyFrom at h
  have F : X.2 = X.2 := rfl
  obtain ⟨g1, h⟩ := hx_gd h
  obtain ⟨g2, h⟩ := hx_gd h
  obtain rfl := hx_some1 h
  exact F
set_option maxRecDepth 100000 in
set_option maxHeartbeats 4000000 in
theorem rf_X1_copyFrom {L : hL} {X : hX} {this : Nat} {a1 : Nat} {X' : hX} (h : f_X1_copyFrom L X this a1 = some X') : X'.2 = X.2 := by
  unfold f_X1_copyFrom at h
  have F : X.2 = X.2 := rfl
  obtain ⟨g1, h⟩ := hx_gd h
  obtain ⟨g2, h⟩ := hx_gd h
  obtain ⟨g3, h⟩ := hx_gd h
  obtain rfl := hx_some1 h
  exact F
set_option maxRecDepth 100000 in
set_option maxHeartbeats 4000000 in
theorem rf_X5_copyFrom {L : hL} {X : hX} {this : Nat} {a1 : Nat} {X' : hX} (h : f_X5_copyFrom L X this a1 = some X') : X'.2 = X.2 := by
  unfold f_X5_copyFrom at h
  have F : X.2 = X.2 := rfl
  obtain ⟨g1, h⟩ := hx_gd h
  obtain ⟨g2, h⟩ := hx_gd h
  obtain rfl := hx_some1 h
  exact F
set_option maxRecDepth 100000 in
set_option maxHeartbeats 4000000 in
theorem rf_X7_copyFrom {L : hL} {X : hX} {this : Nat} {a1 : Nat} {X' : hX} (h : f_X7_copyFrom L X this a1 = some X') : X'.2 = X.2 := by
  unfold f_X7_copyFrom at h
  have F : X.2 = X.2 := rfl
  obtain ⟨g1, h⟩ := hx_gd h
  obtain ⟨g2, h⟩ := hx_gd h
  obtain rfl := hx_some1 h
  exact F
set_option maxRecDepth 100000 in
set_option maxHeartbeats 4000000 in
theorem rf_X0_copyFrom_59 {L : hL} : ∀ (n : Nat) (v0 : Nat) (v1 : Nat) (v2 : Int32) (X : hX) (X' : hX), f_X0_copyFrom_59 L n v0 v1 v2 X = some X' → X'.2 = X.2 := by
  intro n
  induction n with
  | zero => intro v0 v1 v2 X X' h; cases h
  | succ n ih =>
    intro v0 v1 v2 X X' h
    rw [f_X0_copyFrom_59] at h
    have F : X.2 = X.2 := rfl
    rcases hx_ite h with ⟨c1, h⟩ | ⟨c1, h⟩
    · skip
      obtain ⟨g2, h⟩ := hx_gd h
      obtain ⟨q3, e4, h⟩ := hx_bind h
      obtain ⟨g5, h⟩ := hx_gd h
      obtain ⟨q6, e7, h⟩ := hx_bind h
      obtain ⟨r8, e9, h⟩ := hx_bind h
      have F := (rf_X7_copyFrom (X' := r8) e9).trans F
      obtain ⟨g10, h⟩ := hx_gd h
      obtain rfl := hx_some1 h
      exact F
    · skip
      obtain ⟨g11, h⟩ := hx_gd h
      obtain ⟨q12, e13, h⟩ := hx_bind h
      obtain ⟨g14, h⟩ := hx_gd h
      obtain ⟨g15, h⟩ := hx_gd h
      obtain ⟨q16, e17, h⟩ := hx_bind h
      obtain ⟨g18, h⟩ := hx_gd h
      obtain ⟨q19, e20, h⟩ := hx_bind h
      obtain ⟨g21, h⟩ := hx_gd h
      obtain ⟨g22, h⟩ := hx_gd h
      obtain ⟨q23, e24, h⟩ := hx_bind h
      obtain ⟨r25, e26, h⟩ := hx_bind h
      have F := (rf_X5_copyFrom (X' := r25) e26).trans F
      obtain ⟨g27, h⟩ := hx_gd h
      exact (ih v0 v1 (v2 + 1) r25 _ h).trans F
set_option maxRecDepth 100000 in
set_option maxHeartbeats 4000000 in
theorem rf_X0_copyFrom_30 {L : hL} : ∀ (n : Nat) (v0 : Nat) (v1 : Nat) (v2 : Int32) (X : hX) (X' : hX), f_X0_copyFrom_30 L n v0 v1 v2 X = some X' → X'.2 = X.2 := by
  intro n
  induction n with
  | zero => intro v0 v1 v2 X X' h; cases h
  | succ n ih =>
    intro v0 v1 v2 X X' h
    rw [f_X0_copyFrom_30] at h
    have F : X.2 = X.2 := rfl
    rcases hx_ite h with ⟨c28, h⟩ | ⟨c28, h⟩
    · skip
      exact (rf_X0_copyFrom_59 u_fuel v0 v1 0 X _ h).trans F
    · skip
      obtain ⟨g29, h⟩ := hx_gd h
      obtain ⟨q30, e31, h⟩ := hx_bind h
      obtain ⟨g32, h⟩ := hx_gd h
      obtain ⟨g33, h⟩ := hx_gd h
      obtain ⟨q34, e35, h⟩ := hx_bind h
      obtain ⟨g36, h⟩ := hx_gd h
      obtain ⟨q37, e38, h⟩ := hx_bind h
      obtain ⟨g39, h⟩ := hx_gd h
      obtain ⟨g40, h⟩ := hx_gd h
      obtain ⟨q41, e42, h⟩ := hx_bind h
      obtain ⟨r43, e44, h⟩ := hx_bind h
      have F := (rf_X1_copyFrom (X' := r43) e44).trans F
      obtain ⟨g45, h⟩ := hx_gd h
      exact (ih v0 v1 (v2 + 1) r43 _ h).trans F
set_option maxRecDepth 100000 in
set_option maxHeartbeats 4000000 in
theorem rf_X0_copyFrom_2 {L : hL} : ∀ (n : Nat) (v0 : Nat) (v1 : Nat) (v2 : Int32) (X : hX) (X' : hX), f_X0_copyFrom_2 L n v0 v1 v2 X = some X' → X'.2 = X.2 := by
  intro n
  induction n with
  | zero => intro v0 v1 v2 X X' h; cases h
  | succ n ih =>
    intro v0 v1 v2 X X' h
    rw [f_X0_copyFrom_2] at h
    have F : X.2 = X.2 := rfl
    rcases hx_ite h with ⟨c46, h⟩ | ⟨c46, h⟩
    · skip
      exact (rf_X0_copyFrom_30 u_fuel v0 v1 0 X _ h).trans F
    · skip
      obtain ⟨g47, h⟩ := hx_gd h
      obtain ⟨q48, e49, h⟩ := hx_bind h
      obtain ⟨g50, h⟩ := hx_gd h
      obtain ⟨g51, h⟩ := hx_gd h
      obtain ⟨q52, e53, h⟩ := hx_bind h
      obtain ⟨g54, h⟩ := hx_gd h
      obtain ⟨q55, e56, h⟩ := hx_bind h
      obtain ⟨g57, h⟩ := hx_gd h
      obtain ⟨g58, h⟩ := hx_gd h
      obtain ⟨q59, e60, h⟩ := hx_bind h
      obtain ⟨r61, e62, h⟩ := hx_bind h
      have F := (rf_X4_copyFrom (X' := r61) e62).trans F
      obtain ⟨g63, h⟩ := hx_gd h
      exact (ih v0 v1 (v2 + 1) r61 _ h).trans F
set_option maxRecDepth 100000 in
set_option maxHeartbeats 4000000 in
theorem rf_X0_copyFrom {L : hL} {X : hX} {this : Nat} {a1 : Nat} {X' : hX} (h : f_X0_copyFrom L X this a1 = some X') : X'.2 = X.2 := by
  unfold f_X0_copyFrom at h
  have F : X.2 = X.2 := rfl
  exact (rf_X0_copyFrom_2 u_fuel this a1 0 X _ h).trans F
set_option maxRecDepth 100000 in
set_option maxHeartbeats 4000000 in
theorem rf_X0_changeKind {L : hL} {X : hX} {this : Nat} {a1 : Int32} {a2 : Int32} {a3 : Int32} {r : Int32} {X' : hX} (h : f_X0_changeKind L X this a1 a2 a3 = some (r, X')) : X'.2 = X.2 := by
  unfold f_X0_changeKind at h
  have F : X.2 = X.2 := rfl
  obtain ⟨r1, e2, h⟩ := hx_bind h
  obtain ⟨g3, h⟩ := hx_gd h
  rcases r1 with _ | i4
  · have h := hx_eln h
    obtain ⟨rfl, rfl⟩ := hx_some2 h
    exact F
  · have h := hx_els h
    obtain ⟨r5, e6, h⟩ := hx_bind h
    rcases hx_ite h with ⟨c7, h⟩ | ⟨c7, h⟩
    · skip
      obtain ⟨rfl, rfl⟩ := hx_some2 h
      exact F
    · skip
      obtain ⟨r8, e9, h⟩ := hx_bind h
      rcases hx_ite2 h with ⟨c10, h⟩ | ⟨c10, h⟩
      · skip
        obtain ⟨g11, h⟩ := hx_gd h
        obtain ⟨rfl, rfl⟩ := hx_some2 h
        exact F
      · skip
        obtain ⟨rfl, rfl⟩ := hx_some2 h
        exact F
set_option maxRecDepth 100000 in
set_option maxHeartbeats 4000000 in
theorem rf_X0_changeScale {L : hL} {X : hX} {this : Nat} {a1 : Int32} {a2 : Int32} {r : Int32} {X' : hX} (h : f_X0_changeScale L X this a1 a2 = some (r, X')) : X'.2 = X.2 := by
  unfold f_X0_changeScale at h
  have F : X.2 = X.2 := rfl
  obtain ⟨r1, e2, h⟩ := hx_bind h
  rcases hx_ite h with ⟨c3, h⟩ | ⟨c3, h⟩
  · skip
    obtain ⟨rfl, rfl⟩ := hx_some2 h
    exact F
  · skip
    obtain ⟨r4, e5, h⟩ := hx_bind h
    rcases hx_ite2 h with ⟨c6, h⟩ | ⟨c6, h⟩
    · skip
      obtain ⟨g7, h⟩ := hx_gd h
      obtain ⟨q8, e9, h⟩ := hx_bind h
      obtain ⟨g10, h⟩ := hx_gd h
      obtain ⟨rfl, rfl⟩ := hx_some2 h
      exact F
    · skip
      obtain ⟨rfl, rfl⟩ := hx_some2 h
      exact F
set_option maxRecDepth 100000 in
set_option maxHeartbeats 4000000 in
theorem rf_X0_changeBias {L : hL} {X : hX} {this : Nat} {a1 : Int32} {r : Int32} {X' : hX} (h : f_X0_changeBias L X this a1 = some (r, X')) : X'.2 = X.2 := by
  unfold f_X0_changeBias at h
  have F : X.2 = X.2 := rfl
  obtain ⟨g1, h⟩ := hx_gd h
  obtain ⟨q2, e3, h⟩ := hx_bind h
  obtain ⟨g4, h⟩ := hx_gd h
  obtain ⟨r5, e6, h⟩ := hx_bind h
  rcases hx_ite2 h with ⟨c7, h⟩ | ⟨c7, h⟩
  · skip
    obtain ⟨rfl, rfl⟩ := hx_some2 h
    exact F
  · skip
    obtain ⟨rfl, rfl⟩ := hx_some2 h
    exact F
set_option maxRecDepth 100000 in
set_option maxHeartbeats 4000000 in
theorem rf_X0_changeRule {L : hL} {X : hX} {this : Nat} {a1 : Int32} {r : Int32} {X' : hX} (h : f_X0_changeRule L X this a1 = some (r, X')) : X'.2 = X.2 := by
  unfold f_X0_changeRule at h
  have F : X.2 = X.2 := rfl
  obtain ⟨r1, e2, h⟩ := hx_bind h
  rcases hx_ite2 h with ⟨c3, h⟩ | ⟨c3, h⟩
  · skip
    obtain ⟨g4, h⟩ := hx_gd h
    obtain ⟨rfl, rfl⟩ := hx_some2 h
    exact F
  · skip
    obtain ⟨rfl, rfl⟩ := hx_some2 h
    exact F
set_option maxRecDepth 100000 in
set_option maxHeartbeats 4000000 in
theorem rf_X0_changeFee {L : hL} {X : hX} {this : Nat} {a1 : Int32} {r : Int32} {X' : hX} (h : f_X0_changeFee L X this a1 = some (r, X')) : X'.2 = X.2 := by
  unfold f_X0_changeFee at h
  have F : X.2 = X.2 := rfl
  obtain ⟨r1, e2, h⟩ := hx_bind h
  rcases hx_ite2 h with ⟨c3, h⟩ | ⟨c3, h⟩
  · skip
    obtain ⟨g4, h⟩ := hx_gd h
    obtain ⟨rfl, rfl⟩ := hx_some2 h
    exact F
  · skip
    obtain ⟨rfl, rfl⟩ := hx_some2 h
    exact F
set_option maxRecDepth 100000 in
set_option maxHeartbeats 4000000 in
theorem rf_X1_begin {L : hL} {X : hX} {this : Nat} {a1 : Int32} {X' : hX} (h : f_X1_begin L X this a1 = some X') : X'.2 = X.2 := by
  unfold f_X1_begin at h
  have F : X.2 = X.2 := rfl
  obtain ⟨g1, h⟩ := hx_gd h
  obtain rfl := hx_some1 h
  exact F
set_option maxRecDepth 100000 in
set_option maxHeartbeats 4000000 in
theorem rf_X0_addCustomer {L : hL} {X : hX} {this : Nat} {a1 : Int32} {r : Int32} {X' : hX} (h : f_X0_addCustomer L X this a1 = some (r, X')) : X'.2 = X.2 := by
  unfold f_X0_addCustomer at h
  have F : X.2 = X.2 := rfl
  obtain ⟨r1, e2, h⟩ := hx_bind h
  rcases hx_ite2 h with ⟨c3, h⟩ | ⟨c3, h⟩
  · skip
    obtain ⟨g4, h⟩ := hx_gd h
    obtain ⟨r5, e6, h⟩ := hx_bind h
    rcases hx_ite2 h with ⟨c7, h⟩ | ⟨c7, h⟩
    · skip
      obtain ⟨q8, e9, h⟩ := hx_bind h
      obtain ⟨g10, h⟩ := hx_gd h
      obtain ⟨g11, h⟩ := hx_gd h
      obtain ⟨q12, e13, h⟩ := hx_bind h
      obtain ⟨r14, e15, h⟩ := hx_bind h
      have F := (rf_X1_begin (X' := r14) e15).trans F
      obtain ⟨g16, h⟩ := hx_gd h
      obtain ⟨rfl, rfl⟩ := hx_some2 h
      exact F
    · skip
      obtain ⟨rfl, rfl⟩ := hx_some2 h
      exact F
  · skip
    obtain ⟨rfl, rfl⟩ := hx_some2 h
    exact F
set_option maxRecDepth 100000 in
set_option maxHeartbeats 4000000 in
theorem rf_X1_gain {L : hL} {X : hX} {this : Nat} {a1 : Int32} {X' : hX} (h : f_X1_gain L X this a1 = some X') : X'.2 = X.2 := by
  unfold f_X1_gain at h
  have F : X.2 = X.2 := rfl
  obtain ⟨g1, h⟩ := hx_gd h
  obtain rfl := hx_some1 h
  exact F
set_option maxRecDepth 100000 in
set_option maxHeartbeats 4000000 in
theorem rf_X1_keep {L : hL} {X : hX} {this : Nat} {a1 : Int32} {a2 : Int32} {a3 : Int32} {a4 : Int32} {X' : hX} (h : f_X1_keep L X this a1 a2 a3 a4 = some X') : X'.2 = X.2 := by
  unfold f_X1_keep at h
  have F : X.2 = X.2 := rfl
  obtain ⟨g1, h⟩ := hx_gd h
  obtain rfl := hx_some1 h
  exact F
set_option maxRecDepth 100000 in
set_option maxHeartbeats 4000000 in
theorem rf_X0_weighBundle {L : hL} {X : hX} {this : Nat} {a1 : Int32} {a2 : Int32} {a3 : Int32} {a4 : Int32} {r : Int32} {X' : hX} (h : f_X0_weighBundle L X this a1 a2 a3 a4 = some (r, X')) : X'.2 = X.2 := by
  unfold f_X0_weighBundle at h
  have F : X.2 = X.2 := rfl
  obtain ⟨r1, e2, h⟩ := hx_bind h
  obtain ⟨g3, h⟩ := hx_gd h
  rcases r1 with _ | i4
  · have h := hx_eln h
    obtain ⟨r5, e6, h⟩ := hx_bind h
    rcases r5 with _ | i7
    · have h := hx_eln h
      obtain ⟨rfl, rfl⟩ := hx_some2 h
      exact F
    · have h := hx_els h
      obtain ⟨rfl, rfl⟩ := hx_some2 h
      exact F
  · have h := hx_els h
    obtain ⟨r8, e9, h⟩ := hx_bind h
    rcases r8 with _ | i10
    · have h := hx_eln h
      obtain ⟨rfl, rfl⟩ := hx_some2 h
      exact F
    · have h := hx_els h
      obtain ⟨r11, e12, h⟩ := hx_bind h
      rcases hx_ite2 h with ⟨c13, h⟩ | ⟨c13, h⟩
      · skip
        obtain ⟨g14, h⟩ := hx_gd h
        obtain ⟨r15, e16, h⟩ := hx_bind h
        rcases hx_ite2 h with ⟨c17, h⟩ | ⟨c17, h⟩
        · skip
          obtain ⟨q18, e19, h⟩ := hx_bind h
          obtain ⟨g20, h⟩ := hx_gd h
          obtain ⟨r21, e22, h⟩ := hx_bind h
          obtain ⟨r23, e24, h⟩ := hx_bind h
          obtain ⟨r25, e26, h⟩ := hx_bind h
          have F := (rf_X1_gain (X' := r25) e26).trans F
          obtain ⟨g27, h⟩ := hx_gd h
          obtain ⟨r28, e29, h⟩ := hx_bind h
          have F := (rf_X1_keep (X' := r28) e29).trans F
          obtain ⟨rfl, rfl⟩ := hx_some2 h
          exact F
        · skip
          obtain ⟨rfl, rfl⟩ := hx_some2 h
          exact F
      · skip
        obtain ⟨rfl, rfl⟩ := hx_some2 h
        exact F
set_option maxRecDepth 100000 in
set_option maxHeartbeats 4000000 in
theorem rf_X0_settleClaim {L : hL} {X : hX} {this : Nat} {a1 : Int32} {a2 : Int32} {r : Int32} {X' : hX} (h : f_X0_settleClaim L X this a1 a2 = some (r, X')) : X'.2 = X.2 := by
  unfold f_X0_settleClaim at h
  have F : X.2 = X.2 := rfl
  obtain ⟨r1, e2, h⟩ := hx_bind h
  obtain ⟨g3, h⟩ := hx_gd h
  rcases r1 with _ | i4
  · have h := hx_eln h
    obtain ⟨rfl, rfl⟩ := hx_some2 h
    exact F
  · have h := hx_els h
    obtain ⟨r5, e6, h⟩ := hx_bind h
    rcases hx_ite2 h with ⟨c7, h⟩ | ⟨c7, h⟩
    · skip
      obtain ⟨g8, h⟩ := hx_gd h
      rcases hx_ite h with ⟨c9, h⟩ | ⟨c9, h⟩
      · skip
        obtain ⟨rfl, rfl⟩ := hx_some2 h
        exact F
      · skip
        rcases hx_ite2 h with ⟨c10, h⟩ | ⟨c10, h⟩
        · skip
          obtain ⟨r11, e12, h⟩ := hx_bind h
          rcases r11 with _ | i13
          · have h := hx_eln h
            obtain ⟨rfl, rfl⟩ := hx_some2 h
            exact F
          · have h := hx_els h
            obtain ⟨r14, e15, h⟩ := hx_bind h
            rcases hx_ite2 h with ⟨c16, h⟩ | ⟨c16, h⟩
            · skip
              obtain ⟨r17, e18, h⟩ := hx_bind h
              have F := (rf_X1_gain (X' := r17) e18).trans F
              obtain ⟨r19, e20, h⟩ := hx_bind h
              rcases hx_ite h with ⟨c21, h⟩ | ⟨c21, h⟩
              · skip
                obtain ⟨r22, e23, h⟩ := hx_bind h
                have F := (rf_X1_gain (X' := r22) e23).trans F
                obtain ⟨rfl, rfl⟩ := hx_some2 h
                exact F
              · skip
                obtain ⟨rfl, rfl⟩ := hx_some2 h
                exact F
            · skip
              obtain ⟨rfl, rfl⟩ := hx_some2 h
              exact F
        · skip
          obtain ⟨rfl, rfl⟩ := hx_some2 h
          exact F
    · skip
      obtain ⟨rfl, rfl⟩ := hx_some2 h
      exact F
set_option maxRecDepth 100000 in
set_option maxHeartbeats 4000000 in
theorem rf_X5_begin {L : hL} {X : hX} {this : Nat} {a1 : Int32} {a2 : Int32} {a3 : Int32} {a4 : Int32} {a5 : Int32} {X' : hX} (h : f_X5_begin L X this a1 a2 a3 a4 a5 = some X') : X'.2 = X.2 := by
  unfold f_X5_begin at h
  have F : X.2 = X.2 := rfl
  obtain ⟨g1, h⟩ := hx_gd h
  obtain rfl := hx_some1 h
  exact F
set_option maxRecDepth 100000 in
set_option maxHeartbeats 4000000 in
theorem rf_X0_placePrize {L : hL} {X : hX} {this : Nat} {a1 : Int32} {a2 : Int32} {a3 : Int32} {a4 : Int32} {a5 : Int32} {r : Int32} {X' : hX} (h : f_X0_placePrize L X this a1 a2 a3 a4 a5 = some (r, X')) : X'.2 = X.2 := by
  unfold f_X0_placePrize at h
  have F : X.2 = X.2 := rfl
  obtain ⟨r1, e2, h⟩ := hx_bind h
  rcases hx_ite h with ⟨c3, h⟩ | ⟨c3, h⟩
  · skip
    obtain ⟨rfl, rfl⟩ := hx_some2 h
    exact F
  · skip
    obtain ⟨r4, e5, h⟩ := hx_bind h
    rcases hx_ite h with ⟨c6, h⟩ | ⟨c6, h⟩
    · skip
      obtain ⟨rfl, rfl⟩ := hx_some2 h
      exact F
    · skip
      obtain ⟨r7, e8, h⟩ := hx_bind h
      rcases hx_ite2 h with ⟨c9, h⟩ | ⟨c9, h⟩
      · skip
        obtain ⟨r10, e11, h⟩ := hx_bind h
        rcases hx_ite h with ⟨c12, h⟩ | ⟨c12, h⟩
        · skip
          obtain ⟨rfl, rfl⟩ := hx_some2 h
          exact F
        · skip
          obtain ⟨r13, e14, h⟩ := hx_bind h
          rcases hx_ite2 h with ⟨c15, h⟩ | ⟨c15, h⟩
          · skip
            obtain ⟨g16, h⟩ := hx_gd h
            obtain ⟨r17, e18, h⟩ := hx_bind h
            rcases hx_ite2 h with ⟨c19, h⟩ | ⟨c19, h⟩
            · skip
              obtain ⟨q20, e21, h⟩ := hx_bind h
              obtain ⟨g22, h⟩ := hx_gd h
              obtain ⟨g23, h⟩ := hx_gd h
              obtain ⟨q24, e25, h⟩ := hx_bind h
              obtain ⟨r26, e27, h⟩ := hx_bind h
              have F := (rf_X5_begin (X' := r26) e27).trans F
              obtain ⟨g28, h⟩ := hx_gd h
              obtain ⟨rfl, rfl⟩ := hx_some2 h
              exact F
            · skip
              obtain ⟨rfl, rfl⟩ := hx_some2 h
              exact F
          · skip
            obtain ⟨rfl, rfl⟩ := hx_some2 h
            exact F
      · skip
        obtain ⟨rfl, rfl⟩ := hx_some2 h
        exact F
set_option maxRecDepth 100000 in
set_option maxHeartbeats 4000000 in
theorem rf_X0_changePrice {L : hL} {X : hX} {this : Nat} {a1 : Int32} {a2 : Int32} {r : Int32} {X' : hX} (h : f_X0_changePrice L X this a1 a2 = some (r, X')) : X'.2 = X.2 := by
  unfold f_X0_changePrice at h
  have F : X.2 = X.2 := rfl
  obtain ⟨r1, e2, h⟩ := hx_bind h
  obtain ⟨g3, h⟩ := hx_gd h
  rcases r1 with _ | i4
  · have h := hx_eln h
    obtain ⟨rfl, rfl⟩ := hx_some2 h
    exact F
  · have h := hx_els h
    obtain ⟨r5, e6, h⟩ := hx_bind h
    rcases hx_ite2 h with ⟨c7, h⟩ | ⟨c7, h⟩
    · skip
      obtain ⟨g8, h⟩ := hx_gd h
      obtain ⟨rfl, rfl⟩ := hx_some2 h
      exact F
    · skip
      obtain ⟨rfl, rfl⟩ := hx_some2 h
      exact F
set_option maxRecDepth 100000 in
set_option maxHeartbeats 4000000 in
theorem rf_X5_sell {L : hL} {X : hX} {this : Nat} {a1 : Int32} {X' : hX} (h : f_X5_sell L X this a1 = some X') : X'.2 = X.2 := by
  unfold f_X5_sell at h
  have F : X.2 = X.2 := rfl
  obtain ⟨g1, h⟩ := hx_gd h
  obtain ⟨r2, e3, h⟩ := hx_bind h
  obtain ⟨r4, e5, h⟩ := hx_bind h
  obtain rfl := hx_some1 h
  exact F
set_option maxRecDepth 100000 in
set_option maxHeartbeats 4000000 in
theorem rf_X0_sellPrize {L : hL} {X : hX} {this : Nat} {a1 : Int32} {a2 : Int32} {a3 : Int32} {r : Int32} {X' : hX} (h : f_X0_sellPrize L X this a1 a2 a3 = some (r, X')) : X'.2 = X.2 := by
  unfold f_X0_sellPrize at h
  have F : X.2 = X.2 := rfl
  obtain ⟨r1, e2, h⟩ := hx_bind h
  obtain ⟨g3, h⟩ := hx_gd h
  rcases r1 with _ | i4
  · have h := hx_eln h
    obtain ⟨r5, e6, h⟩ := hx_bind h
    rcases r5 with _ | i7
    · have h := hx_eln h
      obtain ⟨rfl, rfl⟩ := hx_some2 h
      exact F
    · have h := hx_els h
      obtain ⟨rfl, rfl⟩ := hx_some2 h
      exact F
  · have h := hx_els h
    obtain ⟨r8, e9, h⟩ := hx_bind h
    rcases r8 with _ | i10
    · have h := hx_eln h
      obtain ⟨rfl, rfl⟩ := hx_some2 h
      exact F
    · have h := hx_els h
      obtain ⟨r11, e12, h⟩ := hx_bind h
      rcases hx_ite2 h with ⟨c13, h⟩ | ⟨c13, h⟩
      · skip
        obtain ⟨g14, h⟩ := hx_gd h
        obtain ⟨g15, h⟩ := hx_gd h
        rcases hx_ite h with ⟨c16, h⟩ | ⟨c16, h⟩
        · skip
          rcases hx_ite h with ⟨c17, h⟩ | ⟨c17, h⟩
          · skip
            obtain ⟨r18, e19, h⟩ := hx_bind h
            have F := (rf_X5_sell (X' := r18) e19).trans F
            obtain ⟨rfl, rfl⟩ := hx_some2 h
            exact F
          · skip
            obtain ⟨rfl, rfl⟩ := hx_some2 h
            exact F
        · skip
          obtain ⟨rfl, rfl⟩ := hx_some2 h
          exact F
      · skip
        obtain ⟨rfl, rfl⟩ := hx_some2 h
        exact F
set_option maxRecDepth 100000 in
set_option maxHeartbeats 4000000 in
theorem rf_X2_note {L : hL} {X : hX} {this : Nat} {a1 : Int32} {a2 : Int32} {a3 : Int32} {X' : hX} (h : f_X2_note L X this a1 a2 a3 = some X') : X'.2 = X.2 := by
  unfold f_X2_note at h
  have F : X.2 = X.2 := rfl
  obtain ⟨g1, h⟩ := hx_gd h
  rcases hx_ite2 h with ⟨c2, h⟩ | ⟨c2, h⟩
  · skip
    rcases hx_ite2 h with ⟨c3, h⟩ | ⟨c3, h⟩
    · skip
      obtain rfl := hx_some1 h
      exact F
    · skip
      obtain rfl := hx_some1 h
      exact F
  · skip
    obtain rfl := hx_some1 h
    exact F
set_option maxRecDepth 100000 in
set_option maxHeartbeats 4000000 in
theorem rf_X8_copyFrom_54 {L : hL} (k13 : Nat → Nat → Int32 → hX → Option (hX)) (hk13 : ∀ (v0 : Nat) (v1 : Nat) (v2 : Int32) (X : hX) (X' : hX), k13 v0 v1 v2 X = some X' → X'.2 = X.2) : ∀ (v0 : Nat) (v1 : Nat) (v2 : Int32) (X : hX) (X' : hX), f_X8_copyFrom_54 L k13 v0 v1 v2 X = some X' → X'.2 = X.2 := by
  intro v0 v1 v2 X X' h
  unfold f_X8_copyFrom_54 at h
  have F : X.2 = X.2 := rfl
  exact (hk13 v0 v1 (v2 + 1) X _ h).trans F
set_option maxRecDepth 100000 in
set_option maxHeartbeats 4000000 in
theorem rf_X8_copyFrom_13 {L : hL} : ∀ (n : Nat) (v0 : Nat) (v1 : Nat) (v2 : Int32) (X : hX) (X' : hX), f_X8_copyFrom_13 L n v0 v1 v2 X = some X' → X'.2 = X.2 := by
  intro n
  induction n with
  | zero => intro v0 v1 v2 X X' h; cases h
  | succ n ih =>
    intro v0 v1 v2 X X' h
    rw [f_X8_copyFrom_13] at h
    have F : X.2 = X.2 := rfl
    rcases hx_ite h with ⟨c1, h⟩ | ⟨c1, h⟩
    · skip
      obtain rfl := hx_some1 h
      exact F
    · skip
      obtain ⟨g2, h⟩ := hx_gd h
      obtain ⟨q3, e4, h⟩ := hx_bind h
      obtain ⟨g5, h⟩ := hx_gd h
      obtain ⟨q6, e7, h⟩ := hx_bind h
      obtain ⟨g8, h⟩ := hx_gd h
      obtain ⟨g9, h⟩ := hx_gd h
      obtain ⟨g10, h⟩ := hx_gd h
      obtain ⟨g11, h⟩ := hx_gd h
      rcases hx_ite h with ⟨c12, h⟩ | ⟨c12, h⟩
      · skip
        exact (rf_X8_copyFrom_54 (f_X8_copyFrom_13 L n) ih v0 v1 v2 (smi X q3 (Int32.toNatClampNeg v2) (vp_nar .boolean (X.1 q6 (Int32.toNatClampNeg v2)))) _ h).trans F
      · skip
        obtain ⟨q13, e14, h⟩ := hx_bind h
        obtain ⟨g15, h⟩ := hx_gd h
        obtain ⟨g16, h⟩ := hx_gd h
        obtain ⟨q17, e18, h⟩ := hx_bind h
        obtain ⟨q19, e20, h⟩ := hx_bind h
        obtain ⟨g21, h⟩ := hx_gd h
        obtain ⟨g22, h⟩ := hx_gd h
        obtain ⟨q23, e24, h⟩ := hx_bind h
        obtain ⟨r25, e26, h⟩ := hx_bind h
        have F := (rf_X0_copyFrom (X' := r25) e26).trans F
        obtain ⟨g27, h⟩ := hx_gd h
        exact (rf_X8_copyFrom_54 (f_X8_copyFrom_13 L n) ih v0 v1 v2 r25 _ h).trans F
set_option maxRecDepth 100000 in
set_option maxHeartbeats 4000000 in
theorem rf_X8_copyFrom {L : hL} {X : hX} {this : Nat} {a1 : Nat} {X' : hX} (h : f_X8_copyFrom L X this a1 = some X') : X'.2 = X.2 := by
  unfold f_X8_copyFrom at h
  have F : X.2 = X.2 := rfl
  obtain ⟨g28, h⟩ := hx_gd h
  obtain ⟨q29, e30, h⟩ := hx_bind h
  obtain ⟨g31, h⟩ := hx_gd h
  obtain ⟨q32, e33, h⟩ := hx_bind h
  obtain ⟨r34, e35, h⟩ := hx_bind h
  have F := (rf_X0_copyFrom (X' := r34) e35).trans F
  obtain ⟨g36, h⟩ := hx_gd h
  exact (rf_X8_copyFrom_13 u_fuel this a1 0 r34 _ h).trans F
set_option maxRecDepth 100000 in
set_option maxHeartbeats 4000000 in
theorem rf_X3_prepare {L : hL} {X : hX} {this : Nat} {X' : hX} (h : f_X3_prepare L X this = some X') : X'.2 = X.2 := by
  unfold f_X3_prepare at h
  have F : X.2 = X.2 := rfl
  obtain ⟨g1, h⟩ := hx_gd h
  obtain ⟨q2, e3, h⟩ := hx_bind h
  obtain ⟨q4, e5, h⟩ := hx_bind h
  obtain ⟨r6, e7, h⟩ := hx_bind h
  have F := (rf_X8_copyFrom (X' := r6) e7).trans F
  obtain ⟨g8, h⟩ := hx_gd h
  obtain rfl := hx_some1 h
  exact F
set_option maxRecDepth 100000 in
set_option maxHeartbeats 4000000 in
theorem rf_X5_sellOut_2 {L : hL} : ∀ (n : Nat) (v0 : Nat) (v1 : Int32) (X : hX) (r : Int32) (X' : hX), f_X5_sellOut_2 L n v0 v1 X = some (r, X') → X'.2 = X.2 := by
  intro n
  induction n with
  | zero => intro v0 v1 X r X' h; cases h
  | succ n ih =>
    intro v0 v1 X r X' h
    rw [f_X5_sellOut_2] at h
    have F : X.2 = X.2 := rfl
    rcases hx_ite h with ⟨c1, h⟩ | ⟨c1, h⟩
    · skip
      obtain ⟨rfl, rfl⟩ := hx_some2 h
      exact F
    · skip
      obtain ⟨g2, h⟩ := hx_gd h
      rcases hx_ite2 h with ⟨c3, h⟩ | ⟨c3, h⟩
      · skip
        obtain ⟨r4, e5, h⟩ := hx_bind h
        have F := (rf_X5_sell (X' := r4) e5).trans F
        exact (ih v0 (v1 + 1) r4 _ _ h).trans F
      · skip
        obtain ⟨rfl, rfl⟩ := hx_some2 h
        exact F
set_option maxRecDepth 100000 in
set_option maxHeartbeats 4000000 in
theorem rf_X5_sellOut {L : hL} {X : hX} {this : Nat} {r : Int32} {X' : hX} (h : f_X5_sellOut L X this = some (r, X')) : X'.2 = X.2 := by
  unfold f_X5_sellOut at h
  have F : X.2 = X.2 := rfl
  exact (rf_X5_sellOut_2 u_fuel this 0 X _ _ h).trans F
set_option maxRecDepth 100000 in
set_option maxHeartbeats 4000000 in
theorem rf_X6_addSign {L : hL} {X : hX} {this : Nat} {a1 : Int32} {r : Int32} {X' : hX} (h : f_X6_addSign L X this a1 = some (r, X')) : X'.2 = X.2 := by
  unfold f_X6_addSign at h
  have F : X.2 = X.2 := rfl
  obtain ⟨r1, e2, h⟩ := hx_bind h
  rcases hx_ite2 h with ⟨c3, h⟩ | ⟨c3, h⟩
  · skip
    obtain ⟨g4, h⟩ := hx_gd h
    obtain ⟨r5, e6, h⟩ := hx_bind h
    rcases hx_ite2 h with ⟨c7, h⟩ | ⟨c7, h⟩
    · skip
      obtain ⟨q8, e9, h⟩ := hx_bind h
      obtain ⟨g10, h⟩ := hx_gd h
      obtain ⟨g11, h⟩ := hx_gd h
      obtain ⟨rfl, rfl⟩ := hx_some2 h
      exact F
    · skip
      obtain ⟨rfl, rfl⟩ := hx_some2 h
      exact F
  · skip
    obtain ⟨rfl, rfl⟩ := hx_some2 h
    exact F
set_option maxRecDepth 100000 in
set_option maxHeartbeats 4000000 in
theorem rf_X6_emptyText {L : hL} {X : hX} {this : Nat} {r : Int32} {X' : hX} (h : f_X6_emptyText L X this = some (r, X')) : X'.2 = X.2 := by
  unfold f_X6_emptyText at h
  have F : X.2 = X.2 := rfl
  obtain ⟨g1, h⟩ := hx_gd h
  obtain ⟨rfl, rfl⟩ := hx_some2 h
  exact F
set_option maxRecDepth 100000 in
set_option maxHeartbeats 4000000 in
theorem rf_X6_readToken_67 {L : hL} : ∀ (n : Nat) (v0 : Nat) (X : hX) (X' : hX), f_X6_readToken_67 L n v0 X = some X' → X'.2 = X.2 := by
  intro n
  induction n with
  | zero => intro v0 X X' h; cases h
  | succ n ih =>
    intro v0 X X' h
    rw [f_X6_readToken_67] at h
    have F : X.2 = X.2 := rfl
    obtain ⟨g1, h⟩ := hx_gd h
    rcases hx_ite h with ⟨c2, h⟩ | ⟨c2, h⟩
    · skip
      obtain rfl := hx_some1 h
      exact F
    · skip
      obtain ⟨r3, e4, h⟩ := hx_bind h
      obtain ⟨r5, e6, h⟩ := hx_bind h
      rcases hx_ite h with ⟨c7, h⟩ | ⟨c7, h⟩
      · skip
        obtain rfl := hx_some1 h
        exact F
      · skip
        exact (ih v0 (smi X v0 5 ((X.1 v0 5) + 1)) _ h).trans F
set_option maxRecDepth 100000 in
set_option maxHeartbeats 4000000 in
theorem rf_X6_readToken_119 {L : hL} : ∀ (n : Nat) (v0 : Nat) (X : hX) (X' : hX), f_X6_readToken_119 L n v0 X = some X' → X'.2 = X.2 := by
  intro n
  induction n with
  | zero => intro v0 X X' h; cases h
  | succ n ih =>
    intro v0 X X' h
    rw [f_X6_readToken_119] at h
    have F : X.2 = X.2 := rfl
    obtain ⟨g8, h⟩ := hx_gd h
    rcases hx_ite h with ⟨c9, h⟩ | ⟨c9, h⟩
    · skip
      obtain rfl := hx_some1 h
      exact F
    · skip
      obtain ⟨r10, e11, h⟩ := hx_bind h
      obtain ⟨r12, e13, h⟩ := hx_bind h
      rcases hx_ite h with ⟨c14, h⟩ | ⟨c14, h⟩
      · skip
        obtain rfl := hx_some1 h
        exact F
      · skip
        exact (ih v0 (smi X v0 5 ((X.1 v0 5) + 1)) _ h).trans F
set_option maxRecDepth 100000 in
set_option maxHeartbeats 4000000 in
theorem rf_X6_readToken_45 {L : hL} : ∀ (v0 : Nat) (X : hX) (X' : hX), f_X6_readToken_45 L v0 X = some X' → X'.2 = X.2 := by
  intro v0 X X' h
  unfold f_X6_readToken_45 at h
  have F : X.2 = X.2 := rfl
  obtain ⟨g15, h⟩ := hx_gd h
  obtain ⟨r16, e17, h⟩ := hx_bind h
  obtain ⟨r18, e19, h⟩ := hx_bind h
  rcases hx_ite h with ⟨c20, h⟩ | ⟨c20, h⟩
  · skip
    obtain ⟨r21, e22, h⟩ := hx_bind h
    obtain ⟨r23, e24, h⟩ := hx_bind h
    rcases hx_ite h with ⟨c25, h⟩ | ⟨c25, h⟩
    · skip
      rcases hx_ite h with ⟨c26, h⟩ | ⟨c26, h⟩
      · skip
        obtain rfl := hx_some1 h
        exact F
      · skip
        obtain rfl := hx_some1 h
        exact F
    · skip
      exact (rf_X6_readToken_119 u_fuel v0 (smi X v0 5 (X.1 v0 4)) _ h).trans F
  · skip
    exact (rf_X6_readToken_67 u_fuel v0 (smi X v0 5 (X.1 v0 4)) _ h).trans F
set_option maxRecDepth 100000 in
set_option maxHeartbeats 4000000 in
theorem rf_X6_readToken_8 {L : hL} : ∀ (n : Nat) (v0 : Nat) (X : hX) (X' : hX), f_X6_readToken_8 L n v0 X = some X' → X'.2 = X.2 := by
  intro n
  induction n with
  | zero => intro v0 X X' h; cases h
  | succ n ih =>
    intro v0 X X' h
    rw [f_X6_readToken_8] at h
    have F : X.2 = X.2 := rfl
    obtain ⟨g27, h⟩ := hx_gd h
    rcases hx_ite h with ⟨c28, h⟩ | ⟨c28, h⟩
    · skip
      exact (rf_X6_readToken_45 v0 X _ h).trans F
    · skip
      obtain ⟨r29, e30, h⟩ := hx_bind h
      rcases hx_ite2 h with ⟨c31, h⟩ | ⟨c31, h⟩
      · skip
        exact (rf_X6_readToken_45 v0 X _ h).trans F
      · skip
        exact (ih v0 (smi X v0 4 ((X.1 v0 4) + 1)) _ h).trans F
set_option maxRecDepth 100000 in
set_option maxHeartbeats 4000000 in
theorem rf_X6_readToken {L : hL} {X : hX} {this : Nat} {X' : hX} (h : f_X6_readToken L X this = some X') : X'.2 = X.2 := by
  unfold f_X6_readToken at h
  have F : X.2 = X.2 := rfl
  obtain ⟨g32, h⟩ := hx_gd h
  exact (rf_X6_readToken_8 u_fuel this (smi X this 4 (X.1 this 5)) _ h).trans F
set_option maxRecDepth 100000 in
set_option maxHeartbeats 4000000 in
theorem rf_X6_readNumbers_2 {L : hL} : ∀ (n : Nat) (v0 : Nat) (v1 : Int32) (v2 : Int32) (X : hX) (r : Int32) (X' : hX), f_X6_readNumbers_2 L n v0 v1 v2 X = some (r, X') → X'.2 = X.2 := by
  intro n
  induction n with
  | zero => intro v0 v1 v2 X r X' h; cases h
  | succ n ih =>
    intro v0 v1 v2 X r X' h
    rw [f_X6_readNumbers_2] at h
    have F : X.2 = X.2 := rfl
    rcases hx_ite h with ⟨c1, h⟩ | ⟨c1, h⟩
    · skip
      obtain ⟨rfl, rfl⟩ := hx_some2 h
      exact F
    · skip
      rcases hx_ite h with ⟨c2, h⟩ | ⟨c2, h⟩
      · skip
        obtain ⟨rfl, rfl⟩ := hx_some2 h
        exact F
      · skip
        obtain ⟨r3, e4, h⟩ := hx_bind h
        have F := (rf_X6_readToken (X' := r3) e4).trans F
        obtain ⟨g5, h⟩ := hx_gd h
        obtain ⟨r6, e7, h⟩ := hx_bind h
        rcases hx_ite2 h with ⟨c8, h⟩ | ⟨c8, h⟩
        · skip
          obtain ⟨q9, e10, h⟩ := hx_bind h
          obtain ⟨r11, e12, h⟩ := hx_bind h
          obtain ⟨g13, h⟩ := hx_gd h
          obtain ⟨g14, h⟩ := hx_gd h
          exact (ih v0 v1 (v2 + 1) (smi r3 q9 (Int32.toNatClampNeg v2) r11) _ _ h).trans F
        · skip
          obtain ⟨rfl, rfl⟩ := hx_some2 h
          exact F
set_option maxRecDepth 100000 in
set_option maxHeartbeats 4000000 in
theorem rf_X6_readNumbers {L : hL} {X : hX} {this : Nat} {a1 : Int32} {r : Int32} {X' : hX} (h : f_X6_readNumbers L X this a1 = some (r, X')) : X'.2 = X.2 := by
  unfold f_X6_readNumbers at h
  have F : X.2 = X.2 := rfl
  exact (rf_X6_readNumbers_2 u_fuel this a1 0 X _ _ h).trans F
set_option maxRecDepth 100000 in
set_option maxHeartbeats 4000000 in
theorem rf_X6_readEnd {L : hL} {X : hX} {this : Nat} {r : Int32} {X' : hX} (h : f_X6_readEnd L X this = some (r, X')) : X'.2 = X.2 := by
  unfold f_X6_readEnd at h
  have F : X.2 = X.2 := rfl
  obtain ⟨r1, e2, h⟩ := hx_bind h
  have F := (rf_X6_readToken (X' := r1) e2).trans F
  obtain ⟨g3, h⟩ := hx_gd h
  obtain ⟨r4, e5, h⟩ := hx_bind h
  rcases hx_ite2 h with ⟨c6, h⟩ | ⟨c6, h⟩
  · skip
    obtain ⟨rfl, rfl⟩ := hx_some2 h
    exact F
  · skip
    obtain ⟨rfl, rfl⟩ := hx_some2 h
    exact F
set_option maxRecDepth 100000 in
set_option maxHeartbeats 4000000 in
theorem rf_X6_perform {L : hL} {X : hX} {this : Nat} {a1 : Int32} {a2 : Nat} {r : Int32} {X' : hX} (h : f_X6_perform L X this a1 a2 = some (r, X')) : X'.2 = X.2 := by
  unfold f_X6_perform at h
  have F : X.2 = X.2 := rfl
  by_cases c1 : a1 = 0
  · have h := hx_pos c1 h
    obtain ⟨g2, h⟩ := hx_gd h
    obtain ⟨q3, e4, h⟩ := hx_bind h
    obtain ⟨g5, h⟩ := hx_gd h
    obtain ⟨g6, h⟩ := hx_gd h
    obtain ⟨g7, h⟩ := hx_gd h
    obtain ⟨g8, h⟩ := hx_gd h
    obtain ⟨r9, e10, h⟩ := hx_bind h
    have F := (rf_X0_changeKind (r := r9.1) (X' := r9.2) e10).trans F
    obtain ⟨g11, h⟩ := hx_gd h
    obtain ⟨rfl, rfl⟩ := hx_some2 h
    exact F
  have h := hx_neg c1 h
  by_cases c12 : a1 = 1
  · have h := hx_pos c12 h
    obtain ⟨g13, h⟩ := hx_gd h
    obtain ⟨q14, e15, h⟩ := hx_bind h
    obtain ⟨g16, h⟩ := hx_gd h
    obtain ⟨g17, h⟩ := hx_gd h
    obtain ⟨g18, h⟩ := hx_gd h
    obtain ⟨r19, e20, h⟩ := hx_bind h
    have F := (rf_X0_changeScale (r := r19.1) (X' := r19.2) e20).trans F
    obtain ⟨g21, h⟩ := hx_gd h
    obtain ⟨rfl, rfl⟩ := hx_some2 h
    exact F
  have h := hx_neg c12 h
  by_cases c22 : a1 = 2
  · have h := hx_pos c22 h
    obtain ⟨g23, h⟩ := hx_gd h
    obtain ⟨q24, e25, h⟩ := hx_bind h
    obtain ⟨g26, h⟩ := hx_gd h
    obtain ⟨g27, h⟩ := hx_gd h
    obtain ⟨r28, e29, h⟩ := hx_bind h
    have F := (rf_X0_changeRule (r := r28.1) (X' := r28.2) e29).trans F
    obtain ⟨g30, h⟩ := hx_gd h
    obtain ⟨rfl, rfl⟩ := hx_some2 h
    exact F
  have h := hx_neg c22 h
  by_cases c31 : a1 = 3
  · have h := hx_pos c31 h
    obtain ⟨g32, h⟩ := hx_gd h
    obtain ⟨q33, e34, h⟩ := hx_bind h
    obtain ⟨g35, h⟩ := hx_gd h
    obtain ⟨g36, h⟩ := hx_gd h
    obtain ⟨r37, e38, h⟩ := hx_bind h
    have F := (rf_X0_addCustomer (r := r37.1) (X' := r37.2) e38).trans F
    obtain ⟨g39, h⟩ := hx_gd h
    obtain ⟨rfl, rfl⟩ := hx_some2 h
    exact F
  have h := hx_neg c31 h
  by_cases c40 : a1 = 4
  · have h := hx_pos c40 h
    obtain ⟨g41, h⟩ := hx_gd h
    obtain ⟨q42, e43, h⟩ := hx_bind h
    obtain ⟨g44, h⟩ := hx_gd h
    obtain ⟨g45, h⟩ := hx_gd h
    obtain ⟨g46, h⟩ := hx_gd h
    obtain ⟨g47, h⟩ := hx_gd h
    obtain ⟨g48, h⟩ := hx_gd h
    obtain ⟨g49, h⟩ := hx_gd h
    obtain ⟨r50, e51, h⟩ := hx_bind h
    have F := (rf_X0_placePrize (r := r50.1) (X' := r50.2) e51).trans F
    obtain ⟨g52, h⟩ := hx_gd h
    obtain ⟨rfl, rfl⟩ := hx_some2 h
    exact F
  have h := hx_neg c40 h
  by_cases c53 : a1 = 5
  · have h := hx_pos c53 h
    obtain ⟨g54, h⟩ := hx_gd h
    obtain ⟨q55, e56, h⟩ := hx_bind h
    obtain ⟨g57, h⟩ := hx_gd h
    obtain ⟨g58, h⟩ := hx_gd h
    obtain ⟨g59, h⟩ := hx_gd h
    obtain ⟨g60, h⟩ := hx_gd h
    obtain ⟨r61, e62, h⟩ := hx_bind h
    have F := (rf_X0_weighBundle (r := r61.1) (X' := r61.2) e62).trans F
    obtain ⟨g63, h⟩ := hx_gd h
    obtain ⟨rfl, rfl⟩ := hx_some2 h
    exact F
  have h := hx_neg c53 h
  by_cases c64 : a1 = 6
  · have h := hx_pos c64 h
    obtain ⟨g65, h⟩ := hx_gd h
    obtain ⟨q66, e67, h⟩ := hx_bind h
    obtain ⟨g68, h⟩ := hx_gd h
    obtain ⟨g69, h⟩ := hx_gd h
    obtain ⟨g70, h⟩ := hx_gd h
    obtain ⟨r71, e72, h⟩ := hx_bind h
    have F := (rf_X0_settleClaim (r := r71.1) (X' := r71.2) e72).trans F
    obtain ⟨g73, h⟩ := hx_gd h
    obtain ⟨rfl, rfl⟩ := hx_some2 h
    exact F
  have h := hx_neg c64 h
  obtain ⟨g74, h⟩ := hx_gd h
  obtain ⟨q75, e76, h⟩ := hx_bind h
  obtain ⟨g77, h⟩ := hx_gd h
  obtain ⟨g78, h⟩ := hx_gd h
  obtain ⟨g79, h⟩ := hx_gd h
  obtain ⟨g80, h⟩ := hx_gd h
  obtain ⟨r81, e82, h⟩ := hx_bind h
  have F := (rf_X0_sellPrize (r := r81.1) (X' := r81.2) e82).trans F
  obtain ⟨g83, h⟩ := hx_gd h
  obtain ⟨rfl, rfl⟩ := hx_some2 h
  exact F
set_option maxRecDepth 100000 in
set_option maxHeartbeats 4000000 in
theorem rf_X6_runOn_67 {L : hL} : ∀ (v0 : Nat) (v2 : Int32) (X : hX) (r : Int32) (X' : hX), f_X6_runOn_67 L v0 v2 X = some (r, X') → X'.2 = X.2 := by
  intro v0 v2 X r X' h
  unfold f_X6_runOn_67 at h
  have F : X.2 = X.2 := rfl
  obtain ⟨g1, h⟩ := hx_gd h
  obtain ⟨q2, e3, h⟩ := hx_bind h
  obtain ⟨r4, e5, h⟩ := hx_bind h
  have F := (rf_X2_note (X' := r4) e5).trans F
  obtain ⟨g6, h⟩ := hx_gd h
  obtain ⟨rfl, rfl⟩ := hx_some2 h
  exact F
set_option maxRecDepth 100000 in
set_option maxHeartbeats 4000000 in
theorem rf_X6_runOn_7 {L : hL} : ∀ (n : Nat) (v0 : Nat) (v1 : Nat) (v2 : Int32) (X : hX) (r : Int32) (X' : hX), f_X6_runOn_7 L n v0 v1 v2 X = some (r, X') → X'.2 = X.2 := by
  intro n
  induction n with
  | zero => intro v0 v1 v2 X r X' h; cases h
  | succ n ih =>
    intro v0 v1 v2 X r X' h
    rw [f_X6_runOn_7] at h
    have F : X.2 = X.2 := rfl
    rcases hx_ite h with ⟨c7, h⟩ | ⟨c7, h⟩
    · skip
      obtain ⟨rfl, rfl⟩ := hx_some2 h
      exact F
    · skip
      obtain ⟨r8, e9, h⟩ := hx_bind h
      have F := (rf_X6_readToken (X' := r8) e9).trans F
      obtain ⟨g10, h⟩ := hx_gd h
      rcases hx_ite h with ⟨c11, h⟩ | ⟨c11, h⟩
      · skip
        obtain ⟨r12, e13, h⟩ := hx_bind h
        rcases hx_ite h with ⟨c14, h⟩ | ⟨c14, h⟩
        · skip
          exact (rf_X6_runOn_67 v0 v2 r8 _ _ h).trans F
        · skip
          obtain ⟨r15, e16, h⟩ := hx_bind h
          obtain ⟨r17, e18, h⟩ := hx_bind h
          have F := (rf_X6_readNumbers (r := r17.1) (X' := r17.2) e18).trans F
          rcases hx_ite h with ⟨c19, h⟩ | ⟨c19, h⟩
          · skip
            exact (rf_X6_runOn_67 v0 v2 r17.2 _ _ h).trans F
          · skip
            obtain ⟨r20, e21, h⟩ := hx_bind h
            have F := (rf_X6_readEnd (r := r20.1) (X' := r20.2) e21).trans F
            rcases hx_ite2 h with ⟨c22, h⟩ | ⟨c22, h⟩
            · skip
              obtain ⟨r23, e24, h⟩ := hx_bind h
              have F := (rf_X6_perform (r := r23.1) (X' := r23.2) e24).trans F
              obtain ⟨r25, e26, h⟩ := hx_bind h
              rcases hx_ite h with ⟨c27, h⟩ | ⟨c27, h⟩
              · skip
                exact (ih v0 v1 (v2 + 1) r23.2 _ _ h).trans F
              · skip
                obtain ⟨q28, e29, h⟩ := hx_bind h
                obtain ⟨r30, e31, h⟩ := hx_bind h
                have F := (rf_X2_note (X' := r30) e31).trans F
                obtain ⟨g32, h⟩ := hx_gd h
                obtain ⟨rfl, rfl⟩ := hx_some2 h
                exact F
            · skip
              exact (rf_X6_runOn_67 v0 v2 r20.2 _ _ h).trans F
      · skip
        obtain ⟨rfl, rfl⟩ := hx_some2 h
        exact F
set_option maxRecDepth 100000 in
set_option maxHeartbeats 4000000 in
theorem rf_X6_runOn {L : hL} {X : hX} {this : Nat} {a1 : Nat} {r : Int32} {X' : hX} (h : f_X6_runOn L X this a1 = some (r, X')) : X'.2 = X.2 := by
  unfold f_X6_runOn at h
  have F : X.2 = X.2 := rfl
  obtain ⟨g33, h⟩ := hx_gd h
  exact (rf_X6_runOn_7 u_fuel this a1 0 (smi X this 5 0) _ _ h).trans F
set_option maxRecDepth 100000 in
set_option maxHeartbeats 4000000 in
theorem rf_X8_fillSlot {L : hL} {X : hX} {this : Nat} {a1 : Int32} {r : Int32} {X' : hX} (h : f_X8_fillSlot L X this a1 = some (r, X')) : X'.2 = X.2 := by
  unfold f_X8_fillSlot at h
  have F : X.2 = X.2 := rfl
  obtain ⟨r1, e2, h⟩ := hx_bind h
  rcases hx_ite2 h with ⟨c3, h⟩ | ⟨c3, h⟩
  · skip
    obtain ⟨g4, h⟩ := hx_gd h
    obtain ⟨q5, e6, h⟩ := hx_bind h
    obtain ⟨g7, h⟩ := hx_gd h
    obtain ⟨g8, h⟩ := hx_gd h
    obtain ⟨q9, e10, h⟩ := hx_bind h
    obtain ⟨q11, e12, h⟩ := hx_bind h
    obtain ⟨r13, e14, h⟩ := hx_bind h
    have F := (rf_X0_copyFrom (X' := r13) e14).trans F
    obtain ⟨g15, h⟩ := hx_gd h
    obtain ⟨q16, e17, h⟩ := hx_bind h
    obtain ⟨g18, h⟩ := hx_gd h
    obtain ⟨g19, h⟩ := hx_gd h
    obtain ⟨q20, e21, h⟩ := hx_bind h
    obtain ⟨r22, e23, h⟩ := hx_bind h
    obtain ⟨g24, h⟩ := hx_gd h
    obtain ⟨rfl, rfl⟩ := hx_some2 h
    exact F
  · skip
    obtain ⟨rfl, rfl⟩ := hx_some2 h
    exact F
set_option maxRecDepth 100000 in
set_option maxHeartbeats 4000000 in
theorem rf_X8_useSlot {L : hL} {X : hX} {this : Nat} {a1 : Int32} {r : Int32} {X' : hX} (h : f_X8_useSlot L X this a1 = some (r, X')) : X'.2 = X.2 := by
  unfold f_X8_useSlot at h
  have F : X.2 = X.2 := rfl
  obtain ⟨r1, e2, h⟩ := hx_bind h
  rcases hx_ite2 h with ⟨c3, h⟩ | ⟨c3, h⟩
  · skip
    obtain ⟨g4, h⟩ := hx_gd h
    obtain ⟨q5, e6, h⟩ := hx_bind h
    obtain ⟨g7, h⟩ := hx_gd h
    obtain ⟨g8, h⟩ := hx_gd h
    rcases hx_ite2 h with ⟨c9, h⟩ | ⟨c9, h⟩
    · skip
      obtain ⟨q10, e11, h⟩ := hx_bind h
      obtain ⟨q12, e13, h⟩ := hx_bind h
      obtain ⟨g14, h⟩ := hx_gd h
      obtain ⟨g15, h⟩ := hx_gd h
      obtain ⟨q16, e17, h⟩ := hx_bind h
      obtain ⟨r18, e19, h⟩ := hx_bind h
      have F := (rf_X0_copyFrom (X' := r18) e19).trans F
      obtain ⟨g20, h⟩ := hx_gd h
      obtain ⟨q21, e22, h⟩ := hx_bind h
      obtain ⟨r23, e24, h⟩ := hx_bind h
      obtain ⟨g25, h⟩ := hx_gd h
      obtain ⟨rfl, rfl⟩ := hx_some2 h
      exact F
    · skip
      obtain ⟨rfl, rfl⟩ := hx_some2 h
      exact F
  · skip
    obtain ⟨rfl, rfl⟩ := hx_some2 h
    exact F
set_option maxRecDepth 100000 in
set_option maxHeartbeats 4000000 in
theorem rf_X9_append {L : hL} {X : hX} {this : Nat} {a1 : Int32} {r : Int32} {X' : hX} (h : f_X9_append L X this a1 = some (r, X')) : X'.2 = X.2 := by
  unfold f_X9_append at h
  have F : X.2 = X.2 := rfl
  obtain ⟨g1, h⟩ := hx_gd h
  obtain ⟨q2, e3, h⟩ := hx_bind h
  obtain ⟨r4, e5, h⟩ := hx_bind h
  have F := (rf_X6_addSign (r := r4.1) (X' := r4.2) e5).trans F
  obtain ⟨g6, h⟩ := hx_gd h
  obtain ⟨rfl, rfl⟩ := hx_some2 h
  exact F
set_option maxRecDepth 100000 in
set_option maxHeartbeats 4000000 in
theorem rf_X9_clearText {L : hL} {X : hX} {this : Nat} {r : Int32} {X' : hX} (h : f_X9_clearText L X this = some (r, X')) : X'.2 = X.2 := by
  unfold f_X9_clearText at h
  have F : X.2 = X.2 := rfl
  obtain ⟨g1, h⟩ := hx_gd h
  obtain ⟨q2, e3, h⟩ := hx_bind h
  obtain ⟨r4, e5, h⟩ := hx_bind h
  have F := (rf_X6_emptyText (r := r4.1) (X' := r4.2) e5).trans F
  obtain ⟨g6, h⟩ := hx_gd h
  obtain ⟨rfl, rfl⟩ := hx_some2 h
  exact F
set_option maxRecDepth 100000 in
set_option maxHeartbeats 4000000 in
theorem rf_X9_soldOut {L : hL} {X : hX} {this : Nat} {a1 : Int32} {r : Int32} {X' : hX} (h : f_X9_soldOut L X this a1 = some (r, X')) : X'.2 = X.2 := by
  unfold f_X9_soldOut at h
  have F : X.2 = X.2 := rfl
  obtain ⟨r1, e2, h⟩ := hx_bind h
  obtain ⟨g3, h⟩ := hx_gd h
  rcases r1 with _ | i4
  · have h := hx_eln h
    cases h
  · have h := hx_els h
    obtain ⟨r5, e6, h⟩ := hx_bind h
    obtain ⟨g7, h⟩ := hx_gd h
    rcases r5 with _ | i8
    · have h := hx_eln h
      obtain ⟨rfl, rfl⟩ := hx_some2 h
      exact F
    · have h := hx_els h
      obtain ⟨q9, e10, h⟩ := hx_bind h
      obtain ⟨r11, e12, h⟩ := hx_bind h
      have F := (rf_X5_copyFrom (X' := r11) e12).trans F
      obtain ⟨g13, h⟩ := hx_gd h
      obtain ⟨q14, e15, h⟩ := hx_bind h
      obtain ⟨r16, e17, h⟩ := hx_bind h
      have F := (rf_X5_sellOut (r := r16.1) (X' := r16.2) e17).trans F
      obtain ⟨g18, h⟩ := hx_gd h
      obtain ⟨rfl, rfl⟩ := hx_some2 h
      exact F
set_option maxRecDepth 100000 in
set_option maxHeartbeats 4000000 in
theorem rf_X10_pushes_51 {L : hL} : ∀ (n : Nat) (v0 : Nat) (v1 : Nat) (v2 : Int32) (X : hX) (X' : hX), f_X10_pushes_51 L n v0 v1 v2 X = some X' → X'.2 = X.2 := by
  intro n
  induction n with
  | zero => intro v0 v1 v2 X X' h; cases h
  | succ n ih =>
    intro v0 v1 v2 X X' h
    rw [f_X10_pushes_51] at h
    have F : X.2 = X.2 := rfl
    rcases hx_ite h with ⟨c1, h⟩ | ⟨c1, h⟩
    · skip
      obtain ⟨g2, h⟩ := hx_gd h
      obtain rfl := hx_some1 h
      exact F
    · skip
      obtain ⟨g3, h⟩ := hx_gd h
      obtain ⟨q4, e5, h⟩ := hx_bind h
      obtain ⟨g6, h⟩ := hx_gd h
      obtain ⟨g7, h⟩ := hx_gd h
      obtain ⟨g8, h⟩ := hx_gd h
      obtain ⟨g9, h⟩ := hx_gd h
      exact (ih v0 v1 (v2 + 1) (smi X q4 (Int32.toNatClampNeg ((284 * (X.1 v0 4)) + v2)) (X.1 v1 (Int32.toNatClampNeg v2))) _ h).trans F
set_option maxRecDepth 100000 in
set_option maxHeartbeats 4000000 in
theorem rf_X10_pushes_49 {L : hL} : ∀ (v0 : Nat) (v1 : Nat) (X : hX) (X' : hX), f_X10_pushes_49 L v0 v1 X = some X' → X'.2 = X.2 := by
  intro v0 v1 X X' h
  unfold f_X10_pushes_49 at h
  have F : X.2 = X.2 := rfl
  exact (rf_X10_pushes_51 u_fuel v0 v1 0 X _ h).trans F
set_option maxRecDepth 100000 in
set_option maxHeartbeats 4000000 in
theorem rf_X10_pushes_10 {L : hL} : ∀ (n : Nat) (v0 : Nat) (v1 : Nat) (v2 : Int32) (X : hX) (X' : hX), f_X10_pushes_10 L n v0 v1 v2 X = some X' → X'.2 = X.2 := by
  intro n
  induction n with
  | zero => intro v0 v1 v2 X X' h; cases h
  | succ n ih =>
    intro v0 v1 v2 X X' h
    rw [f_X10_pushes_10] at h
    have F : X.2 = X.2 := rfl
    rcases hx_ite h with ⟨c10, h⟩ | ⟨c10, h⟩
    · skip
      obtain ⟨g11, h⟩ := hx_gd h
      exact (rf_X10_pushes_49 v0 v1 (smi X v0 4 ((X.1 v0 4) - 1)) _ h).trans F
    · skip
      obtain ⟨g12, h⟩ := hx_gd h
      obtain ⟨q13, e14, h⟩ := hx_bind h
      obtain ⟨g15, h⟩ := hx_gd h
      obtain ⟨g16, h⟩ := hx_gd h
      obtain ⟨g17, h⟩ := hx_gd h
      exact (ih v0 v1 (v2 + 1) (smi X q13 (Int32.toNatClampNeg v2) (X.1 q13 (Int32.toNatClampNeg (v2 + 284)))) _ h).trans F
set_option maxRecDepth 100000 in
set_option maxHeartbeats 4000000 in
theorem rf_X10_pushes {L : hL} {X : hX} {this : Nat} {a1 : Nat} {X' : hX} (h : f_X10_pushes L X this a1 = some X') : X'.2 = X.2 := by
  unfold f_X10_pushes at h
  have F : X.2 = X.2 := rfl
  obtain ⟨g18, h⟩ := hx_gd h
  rcases hx_ite2 h with ⟨c19, h⟩ | ⟨c19, h⟩
  · skip
    exact (rf_X10_pushes_49 this a1 X _ h).trans F
  · skip
    exact (rf_X10_pushes_10 u_fuel this a1 0 X _ h).trans F
set_option maxRecDepth 100000 in
set_option maxHeartbeats 4000000 in
theorem rf_X10_keeps_2 {L : hL} : ∀ (n : Nat) (v0 : Nat) (v1 : Int32) (X : hX) (X' : hX), f_X10_keeps_2 L n v0 v1 X = some X' → X'.2 = X.2 := by
  intro n
  induction n with
  | zero => intro v0 v1 X X' h; cases h
  | succ n ih =>
    intro v0 v1 X X' h
    rw [f_X10_keeps_2] at h
    have F : X.2 = X.2 := rfl
    rcases hx_ite h with ⟨c1, h⟩ | ⟨c1, h⟩
    · skip
      obtain rfl := hx_some1 h
      exact F
    · skip
      obtain ⟨g2, h⟩ := hx_gd h
      obtain ⟨q3, e4, h⟩ := hx_bind h
      obtain ⟨q5, e6, h⟩ := hx_bind h
      obtain ⟨g7, h⟩ := hx_gd h
      obtain ⟨g8, h⟩ := hx_gd h
      obtain ⟨g9, h⟩ := hx_gd h
      obtain ⟨g10, h⟩ := hx_gd h
      exact (ih v0 (v1 + 1) (smi X q3 (Int32.toNatClampNeg v1) (X.1 q5 (Int32.toNatClampNeg v1))) _ h).trans F
set_option maxRecDepth 100000 in
set_option maxHeartbeats 4000000 in
theorem rf_X10_keeps {L : hL} {X : hX} {this : Nat} {X' : hX} (h : f_X10_keeps L X this = some X') : X'.2 = X.2 := by
  unfold f_X10_keeps at h
  have F : X.2 = X.2 := rfl
  exact (rf_X10_keeps_2 u_fuel this 0 X _ h).trans F
set_option maxRecDepth 100000 in
set_option maxHeartbeats 4000000 in
theorem rf_X10_acted {L : hL} {X : hX} {this : Nat} {a1 : Int32} {r : Int32} {X' : hX} (h : f_X10_acted L X this a1 = some (r, X')) : X'.2 = X.2 := by
  unfold f_X10_acted at h
  have F : X.2 = X.2 := rfl
  rcases hx_ite h with ⟨c1, h⟩ | ⟨c1, h⟩
  · skip
    obtain ⟨rfl, rfl⟩ := hx_some2 h
    exact F
  · skip
    obtain ⟨g2, h⟩ := hx_gd h
    obtain ⟨q3, e4, h⟩ := hx_bind h
    obtain ⟨r5, e6, h⟩ := hx_bind h
    have F := (rf_X10_pushes (X' := r5) e6).trans F
    obtain ⟨rfl, rfl⟩ := hx_some2 h
    exact F
set_option maxRecDepth 100000 in
set_option maxHeartbeats 4000000 in
theorem rf_X10_allows_82 {L : hL} : ∀ (v0 : Nat) (v1 : Int32) (v3 : Int32) (s0 : Int32) (s1 : Nat) (X : hX) (r : Int32) (X' : hX), f_X10_allows_82 L v0 v1 v3 s0 s1 X = some (r, X') → X'.2 = X.2 := by
  intro v0 v1 v3 s0 s1 X r X' h
  unfold f_X10_allows_82 at h
  have F : X.2 = X.2 := rfl
  obtain ⟨g1, h⟩ := hx_gd h
  obtain ⟨r2, e3, h⟩ := hx_bind h
  obtain ⟨g4, h⟩ := hx_gd h
  obtain ⟨q5, e6, h⟩ := hx_bind h
  obtain ⟨g7, h⟩ := hx_gd h
  obtain ⟨g8, h⟩ := hx_gd h
  obtain ⟨g9, h⟩ := hx_gd h
  rcases hx_ite h with ⟨c10, h⟩ | ⟨c10, h⟩
  · skip
    obtain ⟨rfl, rfl⟩ := hx_some2 h
    exact F
  · skip
    obtain ⟨rfl, rfl⟩ := hx_some2 h
    exact F
set_option maxRecDepth 100000 in
set_option maxHeartbeats 4000000 in
theorem rf_X10_allows {L : hL} {X : hX} {this : Nat} {a1 : Int32} {a2 : Int32} {r : Int32} {X' : hX} (h : f_X10_allows L X this a1 a2 = some (r, X')) : X'.2 = X.2 := by
  unfold f_X10_allows at h
  have F : X.2 = X.2 := rfl
  obtain ⟨g11, h⟩ := hx_gd h
  obtain ⟨q12, e13, h⟩ := hx_bind h
  obtain ⟨g14, h⟩ := hx_gd h
  obtain ⟨g15, h⟩ := hx_gd h
  obtain ⟨g16, h⟩ := hx_gd h
  rcases hx_ite h with ⟨c17, h⟩ | ⟨c17, h⟩
  · skip
    obtain ⟨g18, h⟩ := hx_gd h
    obtain ⟨g19, h⟩ := hx_gd h
    obtain ⟨r20, e21, h⟩ := hx_bind h
    obtain ⟨g22, h⟩ := hx_gd h
    rcases hx_ite h with ⟨c23, h⟩ | ⟨c23, h⟩
    · skip
      obtain ⟨g24, h⟩ := hx_gd h
      exact (rf_X10_allows_82 this a1 ((X.1 q12 (Int32.toNatClampNeg a2)) - (X.1 q12 (Int32.toNatClampNeg (4 + a2)))) ((((r20 - (X.1 q12 9)) + ((X.1 q12 (Int32.toNatClampNeg a2)) + (X.1 q12 (Int32.toNatClampNeg (4 + a2))))) - 1) / ((X.1 q12 (Int32.toNatClampNeg a2)) + (X.1 q12 (Int32.toNatClampNeg (4 + a2))))) this X _ _ h).trans F
    · skip
      exact (rf_X10_allows_82 this a1 ((X.1 q12 (Int32.toNatClampNeg a2)) - (X.1 q12 (Int32.toNatClampNeg (4 + a2)))) 0 this X _ _ h).trans F
  · skip
    obtain ⟨rfl, rfl⟩ := hx_some2 h
    exact F
set_option maxRecDepth 100000 in
set_option maxHeartbeats 4000000 in
theorem rf_X10_guesses_93 {L : hL} : ∀ (v0 : Nat) (s0 : Int32) (X : hX) (r : Int32) (X' : hX), f_X10_guesses_93 L v0 s0 X = some (r, X') → X'.2 = X.2 := by
  intro v0 s0 X r X' h
  unfold f_X10_guesses_93 at h
  have F : X.2 = X.2 := rfl
  obtain ⟨g1, h⟩ := hx_gd h
  rcases hx_ite h with ⟨c2, h⟩ | ⟨c2, h⟩
  · skip
    rcases hx_ite h with ⟨c3, h⟩ | ⟨c3, h⟩
    · skip
      obtain ⟨rfl, rfl⟩ := hx_some2 h
      exact F
    · skip
      obtain ⟨rfl, rfl⟩ := hx_some2 h
      exact F
  · skip
    obtain ⟨rfl, rfl⟩ := hx_some2 h
    exact F
set_option maxRecDepth 100000 in
set_option maxHeartbeats 4000000 in
theorem rf_X10_guesses {L : hL} {X : hX} {this : Nat} {a1 : Int32} {a2 : Int32} {a3 : Int32} {r : Int32} {X' : hX} (h : f_X10_guesses L X this a1 a2 a3 = some (r, X')) : X'.2 = X.2 := by
  unfold f_X10_guesses at h
  have F : X.2 = X.2 := rfl
  obtain ⟨r4, e5, h⟩ := hx_bind h
  have F := (rf_X10_allows (r := r4.1) (X' := r4.2) e5).trans F
  obtain ⟨g6, h⟩ := hx_gd h
  rcases hx_ite2 h with ⟨c7, h⟩ | ⟨c7, h⟩
  · skip
    rcases hx_ite h with ⟨c8, h⟩ | ⟨c8, h⟩
    · skip
      rcases hx_ite2 h with ⟨c9, h⟩ | ⟨c9, h⟩
      · skip
        obtain ⟨rfl, rfl⟩ := hx_some2 h
        exact F
      · skip
        obtain ⟨rfl, rfl⟩ := hx_some2 h
        exact F
    · skip
      rcases hx_ite2 h with ⟨c10, h⟩ | ⟨c10, h⟩
      · skip
        rcases hx_ite2 h with ⟨c11, h⟩ | ⟨c11, h⟩
        · skip
          obtain ⟨q12, e13, h⟩ := hx_bind h
          obtain ⟨g14, h⟩ := hx_gd h
          obtain ⟨g15, h⟩ := hx_gd h
          obtain ⟨g16, h⟩ := hx_gd h
          rcases hx_ite h with ⟨c17, h⟩ | ⟨c17, h⟩
          · skip
            exact (rf_X10_guesses_93 this (a1 / (r4.2.1 q12 (Int32.toNatClampNeg a2))) r4.2 _ _ h).trans F
          · skip
            exact (rf_X10_guesses_93 this ((a1 / (r4.2.1 q12 (Int32.toNatClampNeg a2))) + 1) r4.2 _ _ h).trans F
        · skip
          obtain ⟨rfl, rfl⟩ := hx_some2 h
          exact F
      · skip
        rcases hx_ite2 h with ⟨c18, h⟩ | ⟨c18, h⟩
        · skip
          obtain ⟨rfl, rfl⟩ := hx_some2 h
          exact F
        · skip
          obtain ⟨rfl, rfl⟩ := hx_some2 h
          exact F
  · skip
    obtain ⟨rfl, rfl⟩ := hx_some2 h
    exact F
set_option maxRecDepth 100000 in
set_option maxHeartbeats 4000000 in
theorem rf_X10_kinds {L : hL} {X : hX} {this : Nat} {a1 : Int32} {a2 : Int32} {a3 : Int32} {r : Int32} {X' : hX} (h : f_X10_kinds L X this a1 a2 a3 = some (r, X')) : X'.2 = X.2 := by
  unfold f_X10_kinds at h
  have F : X.2 = X.2 := rfl
  obtain ⟨r1, e2, h⟩ := hx_bind h
  rcases hx_ite h with ⟨c3, h⟩ | ⟨c3, h⟩
  · skip
    obtain ⟨rfl, rfl⟩ := hx_some2 h
    exact F
  · skip
    obtain ⟨r4, e5, h⟩ := hx_bind h
    rcases hx_ite h with ⟨c6, h⟩ | ⟨c6, h⟩
    · skip
      obtain ⟨rfl, rfl⟩ := hx_some2 h
      exact F
    · skip
      obtain ⟨r7, e8, h⟩ := hx_bind h
      rcases hx_ite2 h with ⟨c9, h⟩ | ⟨c9, h⟩
      · skip
        obtain ⟨g10, h⟩ := hx_gd h
        obtain ⟨q11, e12, h⟩ := hx_bind h
        obtain ⟨g13, h⟩ := hx_gd h
        obtain ⟨g14, h⟩ := hx_gd h
        obtain ⟨g15, h⟩ := hx_gd h
        obtain ⟨rfl, rfl⟩ := hx_some2 h
        exact F
      · skip
        obtain ⟨rfl, rfl⟩ := hx_some2 h
        exact F
set_option maxRecDepth 100000 in
set_option maxHeartbeats 4000000 in
theorem rf_X10_setKind {L : hL} {X : hX} {this : Nat} {a1 : Int32} {a2 : Int32} {a3 : Int32} {r : Int32} {X' : hX} (h : f_X10_setKind L X this a1 a2 a3 = some (r, X')) : X'.2 = X.2 := by
  unfold f_X10_setKind at h
  have F : X.2 = X.2 := rfl
  obtain ⟨r1, e2, h⟩ := hx_bind h
  have F := (rf_X10_keeps (X' := r1) e2).trans F
  obtain ⟨g3, h⟩ := hx_gd h
  obtain ⟨r4, e5, h⟩ := hx_bind h
  have F := (rf_X10_kinds (r := r4.1) (X' := r4.2) e5).trans F
  obtain ⟨r6, e7, h⟩ := hx_bind h
  have F := (rf_X10_acted (r := r6.1) (X' := r6.2) e7).trans F
  obtain ⟨rfl, rfl⟩ := hx_some2 h
  exact F
set_option maxRecDepth 100000 in
set_option maxHeartbeats 4000000 in
theorem rf_X10_scales {L : hL} {X : hX} {this : Nat} {a1 : Int32} {a2 : Int32} {r : Int32} {X' : hX} (h : f_X10_scales L X this a1 a2 = some (r, X')) : X'.2 = X.2 := by
  unfold f_X10_scales at h
  have F : X.2 = X.2 := rfl
  obtain ⟨r1, e2, h⟩ := hx_bind h
  rcases hx_ite h with ⟨c3, h⟩ | ⟨c3, h⟩
  · skip
    obtain ⟨rfl, rfl⟩ := hx_some2 h
    exact F
  · skip
    obtain ⟨r4, e5, h⟩ := hx_bind h
    rcases hx_ite2 h with ⟨c6, h⟩ | ⟨c6, h⟩
    · skip
      obtain ⟨g7, h⟩ := hx_gd h
      obtain ⟨q8, e9, h⟩ := hx_bind h
      obtain ⟨g10, h⟩ := hx_gd h
      obtain ⟨g11, h⟩ := hx_gd h
      obtain ⟨g12, h⟩ := hx_gd h
      obtain ⟨g13, h⟩ := hx_gd h
      rcases hx_ite h with ⟨c14, h⟩ | ⟨c14, h⟩
      · skip
        rcases hx_ite h with ⟨c15, h⟩ | ⟨c15, h⟩
        · skip
          obtain ⟨rfl, rfl⟩ := hx_some2 h
          exact F
        · skip
          obtain ⟨rfl, rfl⟩ := hx_some2 h
          exact F
      · skip
        obtain ⟨rfl, rfl⟩ := hx_some2 h
        exact F
    · skip
      obtain ⟨rfl, rfl⟩ := hx_some2 h
      exact F
set_option maxRecDepth 100000 in
set_option maxHeartbeats 4000000 in
theorem rf_X10_setScale {L : hL} {X : hX} {this : Nat} {a1 : Int32} {a2 : Int32} {r : Int32} {X' : hX} (h : f_X10_setScale L X this a1 a2 = some (r, X')) : X'.2 = X.2 := by
  unfold f_X10_setScale at h
  have F : X.2 = X.2 := rfl
  obtain ⟨r1, e2, h⟩ := hx_bind h
  have F := (rf_X10_keeps (X' := r1) e2).trans F
  obtain ⟨g3, h⟩ := hx_gd h
  obtain ⟨r4, e5, h⟩ := hx_bind h
  have F := (rf_X10_scales (r := r4.1) (X' := r4.2) e5).trans F
  obtain ⟨r6, e7, h⟩ := hx_bind h
  have F := (rf_X10_acted (r := r6.1) (X' := r6.2) e7).trans F
  obtain ⟨rfl, rfl⟩ := hx_some2 h
  exact F
set_option maxRecDepth 100000 in
set_option maxHeartbeats 4000000 in
theorem rf_X10_sets {L : hL} {X : hX} {this : Nat} {a1 : Int32} {a2 : Int32} {a3 : Int32} {a4 : Int32} {r : Int32} {X' : hX} (h : f_X10_sets L X this a1 a2 a3 a4 = some (r, X')) : X'.2 = X.2 := by
  unfold f_X10_sets at h
  have F : X.2 = X.2 := rfl
  obtain ⟨r1, e2, h⟩ := hx_bind h
  rcases hx_ite2 h with ⟨c3, h⟩ | ⟨c3, h⟩
  · skip
    obtain ⟨g4, h⟩ := hx_gd h
    obtain ⟨q5, e6, h⟩ := hx_bind h
    obtain ⟨g7, h⟩ := hx_gd h
    obtain ⟨g8, h⟩ := hx_gd h
    obtain ⟨rfl, rfl⟩ := hx_some2 h
    exact F
  · skip
    obtain ⟨rfl, rfl⟩ := hx_some2 h
    exact F
set_option maxRecDepth 100000 in
set_option maxHeartbeats 4000000 in
theorem rf_X10_setBias {L : hL} {X : hX} {this : Nat} {a1 : Int32} {r : Int32} {X' : hX} (h : f_X10_setBias L X this a1 = some (r, X')) : X'.2 = X.2 := by
  unfold f_X10_setBias at h
  have F : X.2 = X.2 := rfl
  obtain ⟨r1, e2, h⟩ := hx_bind h
  have F := (rf_X10_keeps (X' := r1) e2).trans F
  obtain ⟨g3, h⟩ := hx_gd h
  obtain ⟨q4, e5, h⟩ := hx_bind h
  obtain ⟨g6, h⟩ := hx_gd h
  obtain ⟨g7, h⟩ := hx_gd h
  obtain ⟨r8, e9, h⟩ := hx_bind h
  have F := (rf_X10_sets (r := r8.1) (X' := r8.2) e9).trans F
  obtain ⟨r10, e11, h⟩ := hx_bind h
  have F := (rf_X10_acted (r := r10.1) (X' := r10.2) e11).trans F
  obtain ⟨rfl, rfl⟩ := hx_some2 h
  exact F
set_option maxRecDepth 100000 in
set_option maxHeartbeats 4000000 in
theorem rf_X10_setRule {L : hL} {X : hX} {this : Nat} {a1 : Int32} {r : Int32} {X' : hX} (h : f_X10_setRule L X this a1 = some (r, X')) : X'.2 = X.2 := by
  unfold f_X10_setRule at h
  have F : X.2 = X.2 := rfl
  obtain ⟨r1, e2, h⟩ := hx_bind h
  have F := (rf_X10_keeps (X' := r1) e2).trans F
  obtain ⟨g3, h⟩ := hx_gd h
  obtain ⟨r4, e5, h⟩ := hx_bind h
  have F := (rf_X10_sets (r := r4.1) (X' := r4.2) e5).trans F
  obtain ⟨r6, e7, h⟩ := hx_bind h
  have F := (rf_X10_acted (r := r6.1) (X' := r6.2) e7).trans F
  obtain ⟨rfl, rfl⟩ := hx_some2 h
  exact F
set_option maxRecDepth 100000 in
set_option maxHeartbeats 4000000 in
theorem rf_X10_setFee {L : hL} {X : hX} {this : Nat} {a1 : Int32} {r : Int32} {X' : hX} (h : f_X10_setFee L X this a1 = some (r, X')) : X'.2 = X.2 := by
  unfold f_X10_setFee at h
  have F : X.2 = X.2 := rfl
  obtain ⟨r1, e2, h⟩ := hx_bind h
  have F := (rf_X10_keeps (X' := r1) e2).trans F
  obtain ⟨g3, h⟩ := hx_gd h
  obtain ⟨r4, e5, h⟩ := hx_bind h
  have F := (rf_X10_sets (r := r4.1) (X' := r4.2) e5).trans F
  obtain ⟨r6, e7, h⟩ := hx_bind h
  have F := (rf_X10_acted (r := r6.1) (X' := r6.2) e7).trans F
  obtain ⟨rfl, rfl⟩ := hx_some2 h
  exact F
set_option maxRecDepth 100000 in
set_option maxHeartbeats 4000000 in
theorem rf_X10_comes {L : hL} {X : hX} {this : Nat} {a1 : Int32} {r : Int32} {X' : hX} (h : f_X10_comes L X this a1 = some (r, X')) : X'.2 = X.2 := by
  unfold f_X10_comes at h
  have F : X.2 = X.2 := rfl
  obtain ⟨r1, e2, h⟩ := hx_bind h
  rcases hx_ite2 h with ⟨c3, h⟩ | ⟨c3, h⟩
  · skip
    obtain ⟨g4, h⟩ := hx_gd h
    obtain ⟨q5, e6, h⟩ := hx_bind h
    obtain ⟨g7, h⟩ := hx_gd h
    obtain ⟨g8, h⟩ := hx_gd h
    rcases hx_ite2 h with ⟨c9, h⟩ | ⟨c9, h⟩
    · skip
      obtain ⟨g10, h⟩ := hx_gd h
      obtain ⟨g11, h⟩ := hx_gd h
      obtain ⟨rfl, rfl⟩ := hx_some2 h
      exact F
    · skip
      obtain ⟨rfl, rfl⟩ := hx_some2 h
      exact F
  · skip
    obtain ⟨rfl, rfl⟩ := hx_some2 h
    exact F
set_option maxRecDepth 100000 in
set_option maxHeartbeats 4000000 in
theorem rf_X10_come {L : hL} {X : hX} {this : Nat} {a1 : Int32} {r : Int32} {X' : hX} (h : f_X10_come L X this a1 = some (r, X')) : X'.2 = X.2 := by
  unfold f_X10_come at h
  have F : X.2 = X.2 := rfl
  obtain ⟨r1, e2, h⟩ := hx_bind h
  have F := (rf_X10_keeps (X' := r1) e2).trans F
  obtain ⟨g3, h⟩ := hx_gd h
  obtain ⟨r4, e5, h⟩ := hx_bind h
  have F := (rf_X10_comes (r := r4.1) (X' := r4.2) e5).trans F
  obtain ⟨r6, e7, h⟩ := hx_bind h
  have F := (rf_X10_acted (r := r6.1) (X' := r6.2) e7).trans F
  obtain ⟨rfl, rfl⟩ := hx_some2 h
  exact F
set_option maxRecDepth 100000 in
set_option maxHeartbeats 4000000 in
theorem rf_X10_leave_38 {L : hL} : ∀ (n : Nat) (v0 : Nat) (v2 : Int32) (v3 : Int32) (X : hX) (r : Int32) (X' : hX), f_X10_leave_38 L n v0 v2 v3 X = some (r, X') → X'.2 = X.2 := by
  intro n
  induction n with
  | zero => intro v0 v2 v3 X r X' h; cases h
  | succ n ih =>
    intro v0 v2 v3 X r X' h
    rw [f_X10_leave_38] at h
    have F : X.2 = X.2 := rfl
    obtain ⟨g1, h⟩ := hx_gd h
    obtain ⟨q2, e3, h⟩ := hx_bind h
    obtain ⟨g4, h⟩ := hx_gd h
    obtain ⟨g5, h⟩ := hx_gd h
    rcases hx_ite h with ⟨c6, h⟩ | ⟨c6, h⟩
    · skip
      obtain ⟨r7, e8, h⟩ := hx_bind h
      have F := (rf_X10_acted (r := r7.1) (X' := r7.2) e8).trans F
      obtain ⟨rfl, rfl⟩ := hx_some2 h
      exact F
    · skip
      obtain ⟨g9, h⟩ := hx_gd h
      obtain ⟨g10, h⟩ := hx_gd h
      exact (ih v0 v2 (v3 + 1) (smi X q2 (Int32.toNatClampNeg (16 + v3)) (X.1 q2 (Int32.toNatClampNeg ((16 + v3) + 6)))) _ _ h).trans F
set_option maxRecDepth 100000 in
set_option maxHeartbeats 4000000 in
theorem rf_X10_leave {L : hL} {X : hX} {this : Nat} {a1 : Int32} {r : Int32} {X' : hX} (h : f_X10_leave L X this a1 = some (r, X')) : X'.2 = X.2 := by
  unfold f_X10_leave at h
  have F : X.2 = X.2 := rfl
  obtain ⟨r11, e12, h⟩ := hx_bind h
  obtain ⟨g13, h⟩ := hx_gd h
  rcases hx_ite2 h with ⟨c14, h⟩ | ⟨c14, h⟩
  · skip
    obtain ⟨r15, e16, h⟩ := hx_bind h
    have F := (rf_X10_keeps (X' := r15) e16).trans F
    obtain ⟨r17, e18, h⟩ := hx_bind h
    obtain ⟨q19, e20, h⟩ := hx_bind h
    obtain ⟨g21, h⟩ := hx_gd h
    obtain ⟨g22, h⟩ := hx_gd h
    exact (rf_X10_leave_38 u_fuel this r17 (6 * a1) (smi r15 q19 14 ((r15.1 q19 14) - 1)) _ _ h).trans F
  · skip
    obtain ⟨rfl, rfl⟩ := hx_some2 h
    exact F
set_option maxRecDepth 100000 in
set_option maxHeartbeats 4000000 in
theorem rf_X10_weighs {L : hL} {X : hX} {this : Nat} {a1 : Int32} {a2 : Int32} {a3 : Int32} {a4 : Int32} {r : Int32} {X' : hX} (h : f_X10_weighs L X this a1 a2 a3 a4 = some (r, X')) : X'.2 = X.2 := by
  unfold f_X10_weighs at h
  have F : X.2 = X.2 := rfl
  obtain ⟨r1, e2, h⟩ := hx_bind h
  obtain ⟨g3, h⟩ := hx_gd h
  rcases hx_ite h with ⟨c4, h⟩ | ⟨c4, h⟩
  · skip
    obtain ⟨rfl, rfl⟩ := hx_some2 h
    exact F
  · skip
    obtain ⟨r5, e6, h⟩ := hx_bind h
    rcases hx_ite h with ⟨c7, h⟩ | ⟨c7, h⟩
    · skip
      obtain ⟨rfl, rfl⟩ := hx_some2 h
      exact F
    · skip
      obtain ⟨r8, e9, h⟩ := hx_bind h
      rcases hx_ite h with ⟨c10, h⟩ | ⟨c10, h⟩
      · skip
        obtain ⟨rfl, rfl⟩ := hx_some2 h
        exact F
      · skip
        obtain ⟨q11, e12, h⟩ := hx_bind h
        obtain ⟨g13, h⟩ := hx_gd h
        obtain ⟨g14, h⟩ := hx_gd h
        obtain ⟨r15, e16, h⟩ := hx_bind h
        rcases hx_ite2 h with ⟨c17, h⟩ | ⟨c17, h⟩
        · skip
          obtain ⟨g18, h⟩ := hx_gd h
          obtain ⟨g19, h⟩ := hx_gd h
          obtain ⟨g20, h⟩ := hx_gd h
          obtain ⟨r21, e22, h⟩ := hx_bind h
          obtain ⟨g23, h⟩ := hx_gd h
          obtain ⟨r24, e25, h⟩ := hx_bind h
          have F := (rf_X10_guesses (r := r24.1) (X' := r24.2) e25).trans F
          obtain ⟨q26, e27, h⟩ := hx_bind h
          obtain ⟨g28, h⟩ := hx_gd h
          obtain ⟨g29, h⟩ := hx_gd h
          obtain ⟨g30, h⟩ := hx_gd h
          obtain ⟨g31, h⟩ := hx_gd h
          obtain ⟨g32, h⟩ := hx_gd h
          obtain ⟨g33, h⟩ := hx_gd h
          obtain ⟨g34, h⟩ := hx_gd h
          obtain ⟨g35, h⟩ := hx_gd h
          obtain ⟨rfl, rfl⟩ := hx_some2 h
          exact F
        · skip
          obtain ⟨rfl, rfl⟩ := hx_some2 h
          exact F
set_option maxRecDepth 100000 in
set_option maxHeartbeats 4000000 in
theorem rf_X10_weigh {L : hL} {X : hX} {this : Nat} {a1 : Int32} {a2 : Int32} {a3 : Int32} {a4 : Int32} {r : Int32} {X' : hX} (h : f_X10_weigh L X this a1 a2 a3 a4 = some (r, X')) : X'.2 = X.2 := by
  unfold f_X10_weigh at h
  have F : X.2 = X.2 := rfl
  obtain ⟨r1, e2, h⟩ := hx_bind h
  have F := (rf_X10_keeps (X' := r1) e2).trans F
  obtain ⟨g3, h⟩ := hx_gd h
  obtain ⟨r4, e5, h⟩ := hx_bind h
  have F := (rf_X10_weighs (r := r4.1) (X' := r4.2) e5).trans F
  obtain ⟨r6, e7, h⟩ := hx_bind h
  have F := (rf_X10_acted (r := r6.1) (X' := r6.2) e7).trans F
  obtain ⟨rfl, rfl⟩ := hx_some2 h
  exact F
set_option maxRecDepth 100000 in
set_option maxHeartbeats 4000000 in
theorem rf_X10_claims_161 {L : hL} : ∀ (v0 : Nat) (v2 : Int32) (v3 : Int32) (v4 : Int32) (v5 : Int32) (s0 : Int32) (s1 : Int32) (s2 : Nat) (X : hX) (r : Int32) (X' : hX), f_X10_claims_161 L v0 v2 v3 v4 v5 s0 s1 s2 X = some (r, X') → X'.2 = X.2 := by
  intro v0 v2 v3 v4 v5 s0 s1 s2 X r X' h
  unfold f_X10_claims_161 at h
  have F : X.2 = X.2 := rfl
  obtain ⟨g1, h⟩ := hx_gd h
  obtain ⟨g2, h⟩ := hx_gd h
  obtain ⟨r3, e4, h⟩ := hx_bind h
  obtain ⟨r5, e6, h⟩ := hx_bind h
  rcases hx_ite h with ⟨c7, h⟩ | ⟨c7, h⟩
  · skip
    obtain ⟨g8, h⟩ := hx_gd h
    obtain ⟨q9, e10, h⟩ := hx_bind h
    obtain ⟨g11, h⟩ := hx_gd h
    obtain ⟨g12, h⟩ := hx_gd h
    obtain ⟨g13, h⟩ := hx_gd h
    rcases hx_ite h with ⟨c14, h⟩ | ⟨c14, h⟩
    · skip
      obtain ⟨rfl, rfl⟩ := hx_some2 h
      exact F
    · skip
      obtain ⟨rfl, rfl⟩ := hx_some2 h
      exact F
  · skip
    obtain ⟨rfl, rfl⟩ := hx_some2 h
    exact F
set_option maxRecDepth 100000 in
set_option maxHeartbeats 4000000 in
theorem rf_X10_claims {L : hL} {X : hX} {this : Nat} {a1 : Int32} {a2 : Int32} {r : Int32} {X' : hX} (h : f_X10_claims L X this a1 a2 = some (r, X')) : X'.2 = X.2 := by
  unfold f_X10_claims at h
  have F : X.2 = X.2 := rfl
  obtain ⟨r15, e16, h⟩ := hx_bind h
  obtain ⟨g17, h⟩ := hx_gd h
  rcases hx_ite h with ⟨c18, h⟩ | ⟨c18, h⟩
  · skip
    obtain ⟨rfl, rfl⟩ := hx_some2 h
    exact F
  · skip
    obtain ⟨r19, e20, h⟩ := hx_bind h
    rcases hx_ite2 h with ⟨c21, h⟩ | ⟨c21, h⟩
    · skip
      obtain ⟨r22, e23, h⟩ := hx_bind h
      obtain ⟨r24, e25, h⟩ := hx_bind h
      obtain ⟨r26, e27, h⟩ := hx_bind h
      rcases hx_ite h with ⟨c28, h⟩ | ⟨c28, h⟩
      · skip
        obtain ⟨rfl, rfl⟩ := hx_some2 h
        exact F
      · skip
        rcases hx_ite2 h with ⟨c29, h⟩ | ⟨c29, h⟩
        · skip
          obtain ⟨q30, e31, h⟩ := hx_bind h
          obtain ⟨g32, h⟩ := hx_gd h
          obtain ⟨g33, h⟩ := hx_gd h
          obtain ⟨r34, e35, h⟩ := hx_bind h
          obtain ⟨r36, e37, h⟩ := hx_bind h
          obtain ⟨r38, e39, h⟩ := hx_bind h
          have F := (rf_X10_allows (r := r38.1) (X' := r38.2) e39).trans F
          rcases hx_ite h with ⟨c40, h⟩ | ⟨c40, h⟩
          · skip
            obtain ⟨rfl, rfl⟩ := hx_some2 h
            exact F
          · skip
            obtain ⟨r41, e42, h⟩ := hx_bind h
            rcases hx_ite2 h with ⟨c43, h⟩ | ⟨c43, h⟩
            · skip
              obtain ⟨q44, e45, h⟩ := hx_bind h
              obtain ⟨g46, h⟩ := hx_gd h
              obtain ⟨g47, h⟩ := hx_gd h
              obtain ⟨g48, h⟩ := hx_gd h
              rcases hx_ite h with ⟨c49, h⟩ | ⟨c49, h⟩
              · skip
                exact (rf_X10_claims_161 this a2 r22 r24 (16 + (6 * a1)) ((((smi r38.2 q44 13 ((r38.2.1 q44 13) + (r22 - r24))).1 q44 (Int32.toNatClampNeg (16 + (6 * a1)))) + r22) - r24) (16 + (6 * a1)) q44 (smi r38.2 q44 13 ((r38.2.1 q44 13) + (r22 - r24))) _ _ h).trans F
              · skip
                exact (rf_X10_claims_161 this a2 r22 r24 (16 + (6 * a1)) 0 (16 + (6 * a1)) q44 (smi r38.2 q44 13 ((r38.2.1 q44 13) + (r22 - r24))) _ _ h).trans F
            · skip
              obtain ⟨rfl, rfl⟩ := hx_some2 h
              exact F
        · skip
          obtain ⟨rfl, rfl⟩ := hx_some2 h
          exact F
    · skip
      obtain ⟨rfl, rfl⟩ := hx_some2 h
      exact F
set_option maxRecDepth 100000 in
set_option maxHeartbeats 4000000 in
theorem rf_X10_claim {L : hL} {X : hX} {this : Nat} {a1 : Int32} {a2 : Int32} {r : Int32} {X' : hX} (h : f_X10_claim L X this a1 a2 = some (r, X')) : X'.2 = X.2 := by
  unfold f_X10_claim at h
  have F : X.2 = X.2 := rfl
  obtain ⟨r1, e2, h⟩ := hx_bind h
  have F := (rf_X10_keeps (X' := r1) e2).trans F
  obtain ⟨g3, h⟩ := hx_gd h
  obtain ⟨r4, e5, h⟩ := hx_bind h
  have F := (rf_X10_claims (r := r4.1) (X' := r4.2) e5).trans F
  obtain ⟨r6, e7, h⟩ := hx_bind h
  have F := (rf_X10_acted (r := r6.1) (X' := r6.2) e7).trans F
  obtain ⟨rfl, rfl⟩ := hx_some2 h
  exact F
set_option maxRecDepth 100000 in
set_option maxHeartbeats 4000000 in
theorem rf_X10_adds {L : hL} {X : hX} {this : Nat} {a1 : Int32} {a2 : Int32} {a3 : Int32} {a4 : Int32} {a5 : Int32} {r : Int32} {X' : hX} (h : f_X10_adds L X this a1 a2 a3 a4 a5 = some (r, X')) : X'.2 = X.2 := by
  unfold f_X10_adds at h
  have F : X.2 = X.2 := rfl
  obtain ⟨r1, e2, h⟩ := hx_bind h
  rcases hx_ite h with ⟨c3, h⟩ | ⟨c3, h⟩
  · skip
    obtain ⟨rfl, rfl⟩ := hx_some2 h
    exact F
  · skip
    obtain ⟨r4, e5, h⟩ := hx_bind h
    rcases hx_ite h with ⟨c6, h⟩ | ⟨c6, h⟩
    · skip
      obtain ⟨rfl, rfl⟩ := hx_some2 h
      exact F
    · skip
      obtain ⟨r7, e8, h⟩ := hx_bind h
      rcases hx_ite h with ⟨c9, h⟩ | ⟨c9, h⟩
      · skip
        obtain ⟨rfl, rfl⟩ := hx_some2 h
        exact F
      · skip
        obtain ⟨r10, e11, h⟩ := hx_bind h
        rcases hx_ite h with ⟨c12, h⟩ | ⟨c12, h⟩
        · skip
          obtain ⟨rfl, rfl⟩ := hx_some2 h
          exact F
        · skip
          obtain ⟨r13, e14, h⟩ := hx_bind h
          rcases hx_ite2 h with ⟨c15, h⟩ | ⟨c15, h⟩
          · skip
            obtain ⟨g16, h⟩ := hx_gd h
            obtain ⟨q17, e18, h⟩ := hx_bind h
            obtain ⟨g19, h⟩ := hx_gd h
            obtain ⟨g20, h⟩ := hx_gd h
            rcases hx_ite2 h with ⟨c21, h⟩ | ⟨c21, h⟩
            · skip
              obtain ⟨g22, h⟩ := hx_gd h
              obtain ⟨g23, h⟩ := hx_gd h
              obtain ⟨g24, h⟩ := hx_gd h
              obtain ⟨g25, h⟩ := hx_gd h
              obtain ⟨g26, h⟩ := hx_gd h
              obtain ⟨g27, h⟩ := hx_gd h
              obtain ⟨g28, h⟩ := hx_gd h
              obtain ⟨rfl, rfl⟩ := hx_some2 h
              exact F
            · skip
              obtain ⟨rfl, rfl⟩ := hx_some2 h
              exact F
          · skip
            obtain ⟨rfl, rfl⟩ := hx_some2 h
            exact F
set_option maxRecDepth 100000 in
set_option maxHeartbeats 4000000 in
theorem rf_X10_addPrize {L : hL} {X : hX} {this : Nat} {a1 : Int32} {a2 : Int32} {a3 : Int32} {a4 : Int32} {a5 : Int32} {r : Int32} {X' : hX} (h : f_X10_addPrize L X this a1 a2 a3 a4 a5 = some (r, X')) : X'.2 = X.2 := by
  unfold f_X10_addPrize at h
  have F : X.2 = X.2 := rfl
  obtain ⟨r1, e2, h⟩ := hx_bind h
  have F := (rf_X10_keeps (X' := r1) e2).trans F
  obtain ⟨g3, h⟩ := hx_gd h
  obtain ⟨r4, e5, h⟩ := hx_bind h
  have F := (rf_X10_adds (r := r4.1) (X' := r4.2) e5).trans F
  obtain ⟨r6, e7, h⟩ := hx_bind h
  have F := (rf_X10_acted (r := r6.1) (X' := r6.2) e7).trans F
  obtain ⟨rfl, rfl⟩ := hx_some2 h
  exact F
set_option maxRecDepth 100000 in
set_option maxHeartbeats 4000000 in
theorem rf_X10_removePrize_38 {L : hL} : ∀ (n : Nat) (v0 : Nat) (v2 : Int32) (v3 : Int32) (X : hX) (r : Int32) (X' : hX), f_X10_removePrize_38 L n v0 v2 v3 X = some (r, X') → X'.2 = X.2 := by
  intro n
  induction n with
  | zero => intro v0 v2 v3 X r X' h; cases h
  | succ n ih =>
    intro v0 v2 v3 X r X' h
    rw [f_X10_removePrize_38] at h
    have F : X.2 = X.2 := rfl
    obtain ⟨g1, h⟩ := hx_gd h
    obtain ⟨q2, e3, h⟩ := hx_bind h
    obtain ⟨g4, h⟩ := hx_gd h
    obtain ⟨g5, h⟩ := hx_gd h
    rcases hx_ite h with ⟨c6, h⟩ | ⟨c6, h⟩
    · skip
      obtain ⟨r7, e8, h⟩ := hx_bind h
      have F := (rf_X10_acted (r := r7.1) (X' := r7.2) e8).trans F
      obtain ⟨rfl, rfl⟩ := hx_some2 h
      exact F
    · skip
      obtain ⟨g9, h⟩ := hx_gd h
      obtain ⟨g10, h⟩ := hx_gd h
      exact (ih v0 v2 (v3 + 1) (smi X q2 (Int32.toNatClampNeg (52 + v3)) (X.1 q2 (Int32.toNatClampNeg ((52 + v3) + 7)))) _ _ h).trans F
set_option maxRecDepth 100000 in
set_option maxHeartbeats 4000000 in
theorem rf_X10_removePrize {L : hL} {X : hX} {this : Nat} {a1 : Int32} {r : Int32} {X' : hX} (h : f_X10_removePrize L X this a1 = some (r, X')) : X'.2 = X.2 := by
  unfold f_X10_removePrize at h
  have F : X.2 = X.2 := rfl
  obtain ⟨r11, e12, h⟩ := hx_bind h
  obtain ⟨g13, h⟩ := hx_gd h
  rcases hx_ite2 h with ⟨c14, h⟩ | ⟨c14, h⟩
  · skip
    obtain ⟨r15, e16, h⟩ := hx_bind h
    have F := (rf_X10_keeps (X' := r15) e16).trans F
    obtain ⟨r17, e18, h⟩ := hx_bind h
    obtain ⟨q19, e20, h⟩ := hx_bind h
    obtain ⟨g21, h⟩ := hx_gd h
    obtain ⟨g22, h⟩ := hx_gd h
    exact (rf_X10_removePrize_38 u_fuel this r17 (7 * a1) (smi r15 q19 15 ((r15.1 q19 15) - 1)) _ _ h).trans F
  · skip
    obtain ⟨rfl, rfl⟩ := hx_some2 h
    exact F
set_option maxRecDepth 100000 in
set_option maxHeartbeats 4000000 in
theorem rf_X10_setPrice {L : hL} {X : hX} {this : Nat} {a1 : Int32} {a2 : Int32} {r : Int32} {X' : hX} (h : f_X10_setPrice L X this a1 a2 = some (r, X')) : X'.2 = X.2 := by
  unfold f_X10_setPrice at h
  have F : X.2 = X.2 := rfl
  obtain ⟨r1, e2, h⟩ := hx_bind h
  obtain ⟨g3, h⟩ := hx_gd h
  rcases hx_ite2 h with ⟨c4, h⟩ | ⟨c4, h⟩
  · skip
    obtain ⟨r5, e6, h⟩ := hx_bind h
    have F := (rf_X10_keeps (X' := r5) e6).trans F
    obtain ⟨r7, e8, h⟩ := hx_bind h
    have F := (rf_X10_sets (r := r7.1) (X' := r7.2) e8).trans F
    obtain ⟨r9, e10, h⟩ := hx_bind h
    have F := (rf_X10_acted (r := r9.1) (X' := r9.2) e10).trans F
    obtain ⟨rfl, rfl⟩ := hx_some2 h
    exact F
  · skip
    obtain ⟨rfl, rfl⟩ := hx_some2 h
    exact F
set_option maxRecDepth 100000 in
set_option maxHeartbeats 4000000 in
theorem rf_X10_buys {L : hL} {X : hX} {this : Nat} {a1 : Int32} {a2 : Int32} {a3 : Int32} {r : Int32} {X' : hX} (h : f_X10_buys L X this a1 a2 a3 = some (r, X')) : X'.2 = X.2 := by
  unfold f_X10_buys at h
  have F : X.2 = X.2 := rfl
  obtain ⟨r1, e2, h⟩ := hx_bind h
  obtain ⟨g3, h⟩ := hx_gd h
  rcases hx_ite h with ⟨c4, h⟩ | ⟨c4, h⟩
  · skip
    obtain ⟨rfl, rfl⟩ := hx_some2 h
    exact F
  · skip
    obtain ⟨r5, e6, h⟩ := hx_bind h
    rcases hx_ite h with ⟨c7, h⟩ | ⟨c7, h⟩
    · skip
      obtain ⟨rfl, rfl⟩ := hx_some2 h
      exact F
    · skip
      obtain ⟨r8, e9, h⟩ := hx_bind h
      rcases hx_ite2 h with ⟨c10, h⟩ | ⟨c10, h⟩
      · skip
        obtain ⟨r11, e12, h⟩ := hx_bind h
        obtain ⟨r13, e14, h⟩ := hx_bind h
        rcases hx_ite h with ⟨c15, h⟩ | ⟨c15, h⟩
        · skip
          obtain ⟨r16, e17, h⟩ := hx_bind h
          rcases hx_ite h with ⟨c18, h⟩ | ⟨c18, h⟩
          · skip
            obtain ⟨q19, e20, h⟩ := hx_bind h
            obtain ⟨g21, h⟩ := hx_gd h
            obtain ⟨g22, h⟩ := hx_gd h
            obtain ⟨r23, e24, h⟩ := hx_bind h
            obtain ⟨g25, h⟩ := hx_gd h
            obtain ⟨g26, h⟩ := hx_gd h
            obtain ⟨g27, h⟩ := hx_gd h
            obtain ⟨g28, h⟩ := hx_gd h
            obtain ⟨g29, h⟩ := hx_gd h
            obtain ⟨g30, h⟩ := hx_gd h
            obtain ⟨g31, h⟩ := hx_gd h
            obtain ⟨r32, e33, h⟩ := hx_bind h
            obtain ⟨g34, h⟩ := hx_gd h
            obtain ⟨r35, e36, h⟩ := hx_bind h
            obtain ⟨rfl, rfl⟩ := hx_some2 h
            exact F
          · skip
            obtain ⟨rfl, rfl⟩ := hx_some2 h
            exact F
        · skip
          obtain ⟨rfl, rfl⟩ := hx_some2 h
          exact F
      · skip
        obtain ⟨rfl, rfl⟩ := hx_some2 h
        exact F
set_option maxRecDepth 100000 in
set_option maxHeartbeats 4000000 in
theorem rf_X10_buy {L : hL} {X : hX} {this : Nat} {a1 : Int32} {a2 : Int32} {a3 : Int32} {r : Int32} {X' : hX} (h : f_X10_buy L X this a1 a2 a3 = some (r, X')) : X'.2 = X.2 := by
  unfold f_X10_buy at h
  have F : X.2 = X.2 := rfl
  obtain ⟨r1, e2, h⟩ := hx_bind h
  have F := (rf_X10_keeps (X' := r1) e2).trans F
  obtain ⟨g3, h⟩ := hx_gd h
  obtain ⟨r4, e5, h⟩ := hx_bind h
  have F := (rf_X10_buys (r := r4.1) (X' := r4.2) e5).trans F
  obtain ⟨r6, e7, h⟩ := hx_bind h
  have F := (rf_X10_acted (r := r6.1) (X' := r6.2) e7).trans F
  obtain ⟨rfl, rfl⟩ := hx_some2 h
  exact F
set_option maxRecDepth 100000 in
set_option maxHeartbeats 4000000 in
theorem rf_X10_take_33 {L : hL} : ∀ (n : Nat) (v0 : Nat) (v2 : Int32) (v3 : Int32) (X : hX) (r : Int32) (X' : hX), f_X10_take_33 L n v0 v2 v3 X = some (r, X') → X'.2 = X.2 := by
  intro n
  induction n with
  | zero => intro v0 v2 v3 X r X' h; cases h
  | succ n ih =>
    intro v0 v2 v3 X r X' h
    rw [f_X10_take_33] at h
    have F : X.2 = X.2 := rfl
    rcases hx_ite h with ⟨c1, h⟩ | ⟨c1, h⟩
    · skip
      obtain ⟨r2, e3, h⟩ := hx_bind h
      obtain ⟨g4, h⟩ := hx_gd h
      obtain ⟨r5, e6, h⟩ := hx_bind h
      have F := (rf_X10_acted (r := r5.1) (X' := r5.2) e6).trans F
      obtain ⟨rfl, rfl⟩ := hx_some2 h
      exact F
    · skip
      obtain ⟨g7, h⟩ := hx_gd h
      obtain ⟨q8, e9, h⟩ := hx_bind h
      obtain ⟨g10, h⟩ := hx_gd h
      obtain ⟨g11, h⟩ := hx_gd h
      obtain ⟨g12, h⟩ := hx_gd h
      exact (ih v0 v2 (v3 + 1) (smi X q8 (Int32.toNatClampNeg ((v2 + 1) + v3)) (X.1 q8 (Int32.toNatClampNeg v3))) _ _ h).trans F
set_option maxRecDepth 100000 in
set_option maxHeartbeats 4000000 in
theorem rf_X10_take {L : hL} {X : hX} {this : Nat} {a1 : Int32} {r : Int32} {X' : hX} (h : f_X10_take L X this a1 = some (r, X')) : X'.2 = X.2 := by
  unfold f_X10_take at h
  have F : X.2 = X.2 := rfl
  obtain ⟨r13, e14, h⟩ := hx_bind h
  rcases hx_ite2 h with ⟨c15, h⟩ | ⟨c15, h⟩
  · skip
    obtain ⟨r16, e17, h⟩ := hx_bind h
    have F := (rf_X10_keeps (X' := r16) e17).trans F
    obtain ⟨g18, h⟩ := hx_gd h
    obtain ⟨q19, e20, h⟩ := hx_bind h
    obtain ⟨g21, h⟩ := hx_gd h
    obtain ⟨g22, h⟩ := hx_gd h
    exact (rf_X10_take_33 u_fuel this (94 + (95 * a1)) 0 (smi r16 q19 (Int32.toNatClampNeg (94 + (95 * a1))) 1) _ _ h).trans F
  · skip
    obtain ⟨rfl, rfl⟩ := hx_some2 h
    exact F
set_option maxRecDepth 100000 in
set_option maxHeartbeats 4000000 in
theorem rf_X10_restore_38 {L : hL} : ∀ (n : Nat) (v0 : Nat) (v2 : Int32) (v3 : Int32) (X : hX) (r : Int32) (X' : hX), f_X10_restore_38 L n v0 v2 v3 X = some (r, X') → X'.2 = X.2 := by
  intro n
  induction n with
  | zero => intro v0 v2 v3 X r X' h; cases h
  | succ n ih =>
    intro v0 v2 v3 X r X' h
    rw [f_X10_restore_38] at h
    have F : X.2 = X.2 := rfl
    rcases hx_ite h with ⟨c1, h⟩ | ⟨c1, h⟩
    · skip
      obtain ⟨r2, e3, h⟩ := hx_bind h
      obtain ⟨g4, h⟩ := hx_gd h
      obtain ⟨r5, e6, h⟩ := hx_bind h
      have F := (rf_X10_acted (r := r5.1) (X' := r5.2) e6).trans F
      obtain ⟨rfl, rfl⟩ := hx_some2 h
      exact F
    · skip
      obtain ⟨g7, h⟩ := hx_gd h
      obtain ⟨q8, e9, h⟩ := hx_bind h
      obtain ⟨g10, h⟩ := hx_gd h
      obtain ⟨g11, h⟩ := hx_gd h
      obtain ⟨g12, h⟩ := hx_gd h
      exact (ih v0 v2 (v3 + 1) (smi X q8 (Int32.toNatClampNeg v3) (X.1 q8 (Int32.toNatClampNeg ((v2 + 1) + v3)))) _ _ h).trans F
set_option maxRecDepth 100000 in
set_option maxHeartbeats 4000000 in
theorem rf_X10_restore {L : hL} {X : hX} {this : Nat} {a1 : Int32} {r : Int32} {X' : hX} (h : f_X10_restore L X this a1 = some (r, X')) : X'.2 = X.2 := by
  unfold f_X10_restore at h
  have F : X.2 = X.2 := rfl
  obtain ⟨r13, e14, h⟩ := hx_bind h
  rcases hx_ite2 h with ⟨c15, h⟩ | ⟨c15, h⟩
  · skip
    obtain ⟨g16, h⟩ := hx_gd h
    obtain ⟨q17, e18, h⟩ := hx_bind h
    obtain ⟨g19, h⟩ := hx_gd h
    obtain ⟨g20, h⟩ := hx_gd h
    rcases hx_ite2 h with ⟨c21, h⟩ | ⟨c21, h⟩
    · skip
      obtain ⟨r22, e23, h⟩ := hx_bind h
      have F := (rf_X10_keeps (X' := r22) e23).trans F
      exact (rf_X10_restore_38 u_fuel this (94 + (95 * a1)) 0 r22 _ _ h).trans F
    · skip
      obtain ⟨rfl, rfl⟩ := hx_some2 h
      exact F
  · skip
    obtain ⟨rfl, rfl⟩ := hx_some2 h
    exact F
set_option maxRecDepth 100000 in
set_option maxHeartbeats 4000000 in
theorem rf_X10_undo_22 {L : hL} : ∀ (n : Nat) (v0 : Nat) (v1 : Int32) (X : hX) (r : Int32) (X' : hX), f_X10_undo_22 L n v0 v1 X = some (r, X') → X'.2 = X.2 := by
  intro n
  induction n with
  | zero => intro v0 v1 X r X' h; cases h
  | succ n ih =>
    intro v0 v1 X r X' h
    rw [f_X10_undo_22] at h
    have F : X.2 = X.2 := rfl
    rcases hx_ite h with ⟨c1, h⟩ | ⟨c1, h⟩
    · skip
      obtain ⟨g2, h⟩ := hx_gd h
      obtain ⟨rfl, rfl⟩ := hx_some2 h
      exact F
    · skip
      obtain ⟨g3, h⟩ := hx_gd h
      obtain ⟨q4, e5, h⟩ := hx_bind h
      obtain ⟨q6, e7, h⟩ := hx_bind h
      obtain ⟨g8, h⟩ := hx_gd h
      obtain ⟨g9, h⟩ := hx_gd h
      obtain ⟨g10, h⟩ := hx_gd h
      obtain ⟨g11, h⟩ := hx_gd h
      exact (ih v0 (v1 + 1) (smi X q4 (Int32.toNatClampNeg v1) (X.1 q6 (Int32.toNatClampNeg ((284 * (X.1 v0 4)) + v1)))) _ _ h).trans F
set_option maxRecDepth 100000 in
set_option maxHeartbeats 4000000 in
theorem rf_X10_undo {L : hL} {X : hX} {this : Nat} {r : Int32} {X' : hX} (h : f_X10_undo L X this = some (r, X')) : X'.2 = X.2 := by
  unfold f_X10_undo at h
  have F : X.2 = X.2 := rfl
  obtain ⟨g12, h⟩ := hx_gd h
  rcases hx_ite2 h with ⟨c13, h⟩ | ⟨c13, h⟩
  · skip
    exact (rf_X10_undo_22 u_fuel this 0 (smi X this 4 ((X.1 this 4) - 1)) _ _ h).trans F
  · skip
    obtain ⟨rfl, rfl⟩ := hx_some2 h
    exact F
set_option maxRecDepth 100000 in
set_option maxHeartbeats 4000000 in
theorem rf_X10_append {L : hL} {X : hX} {this : Nat} {a1 : Int32} {r : Int32} {X' : hX} (h : f_X10_append L X this a1 = some (r, X')) : X'.2 = X.2 := by
  unfold f_X10_append at h
  have F : X.2 = X.2 := rfl
  obtain ⟨r1, e2, h⟩ := hx_bind h
  rcases hx_ite2 h with ⟨c3, h⟩ | ⟨c3, h⟩
  · skip
    obtain ⟨g4, h⟩ := hx_gd h
    rcases hx_ite2 h with ⟨c5, h⟩ | ⟨c5, h⟩
    · skip
      obtain ⟨q6, e7, h⟩ := hx_bind h
      obtain ⟨g8, h⟩ := hx_gd h
      obtain ⟨g9, h⟩ := hx_gd h
      obtain ⟨rfl, rfl⟩ := hx_some2 h
      exact F
    · skip
      obtain ⟨rfl, rfl⟩ := hx_some2 h
      exact F
  · skip
    obtain ⟨rfl, rfl⟩ := hx_some2 h
    exact F
set_option maxRecDepth 100000 in
set_option maxHeartbeats 4000000 in
theorem rf_X10_clearText {L : hL} {X : hX} {this : Nat} {r : Int32} {X' : hX} (h : f_X10_clearText L X this = some (r, X')) : X'.2 = X.2 := by
  unfold f_X10_clearText at h
  have F : X.2 = X.2 := rfl
  obtain ⟨g1, h⟩ := hx_gd h
  obtain ⟨rfl, rfl⟩ := hx_some2 h
  exact F
set_option maxRecDepth 100000 in
set_option maxHeartbeats 4000000 in
theorem rf_X10_reads_134 {L : hL} (k96 : Nat → hX → Option (hX)) (hk96 : ∀ (v0 : Nat) (X : hX) (X' : hX), k96 v0 X = some X' → X'.2 = X.2) : ∀ (v0 : Nat) (X : hX) (X' : hX), f_X10_reads_134 L k96 v0 X = some X' → X'.2 = X.2 := by
  intro v0 X X' h
  unfold f_X10_reads_134 at h
  have F : X.2 = X.2 := rfl
  obtain ⟨g1, h⟩ := hx_gd h
  exact (hk96 v0 (smi X v0 10 ((X.1 v0 10) + 1)) _ h).trans F
set_option maxRecDepth 100000 in
set_option maxHeartbeats 4000000 in
theorem rf_X10_reads_147 {L : hL} : ∀ (v0 : Nat) (X : hX) (X' : hX), f_X10_reads_147 L v0 X = some X' → X'.2 = X.2 := by
  intro v0 X X' h
  unfold f_X10_reads_147 at h
  have F : X.2 = X.2 := rfl
  obtain ⟨g2, h⟩ := hx_gd h
  rcases hx_ite2 h with ⟨c3, h⟩ | ⟨c3, h⟩
  · skip
    obtain rfl := hx_some1 h
    exact F
  · skip
    obtain rfl := hx_some1 h
    exact F
set_option maxRecDepth 100000 in
set_option maxHeartbeats 4000000 in
theorem rf_X10_reads_115 {L : hL} (k96 : Nat → hX → Option (hX)) (hk96 : ∀ (v0 : Nat) (X : hX) (X' : hX), k96 v0 X = some X' → X'.2 = X.2) : ∀ (v0 : Nat) (X : hX) (X' : hX), f_X10_reads_115 L k96 v0 X = some X' → X'.2 = X.2 := by
  intro v0 X X' h
  unfold f_X10_reads_115 at h
  have F : X.2 = X.2 := rfl
  obtain ⟨g4, h⟩ := hx_gd h
  rcases hx_ite2 h with ⟨c5, h⟩ | ⟨c5, h⟩
  · skip
    exact (rf_X10_reads_147 v0 X _ h).trans F
  · skip
    obtain ⟨r6, e7, h⟩ := hx_bind h
    rcases hx_ite h with ⟨c8, h⟩ | ⟨c8, h⟩
    · skip
      exact (rf_X10_reads_147 v0 X _ h).trans F
    · skip
      exact (rf_X10_reads_134 k96 hk96 v0 X _ h).trans F
set_option maxRecDepth 100000 in
set_option maxHeartbeats 4000000 in
theorem rf_X10_reads_96 {L : hL} : ∀ (n : Nat) (v0 : Nat) (X : hX) (X' : hX), f_X10_reads_96 L n v0 X = some X' → X'.2 = X.2 := by
  intro n
  induction n with
  | zero => intro v0 X X' h; cases h
  | succ n ih =>
    intro v0 X X' h
    rw [f_X10_reads_96] at h
    have F : X.2 = X.2 := rfl
    obtain ⟨g9, h⟩ := hx_gd h
    rcases hx_ite2 h with ⟨c10, h⟩ | ⟨c10, h⟩
    · skip
      exact (rf_X10_reads_115 (f_X10_reads_96 L n) ih v0 X _ h).trans F
    · skip
      obtain ⟨r11, e12, h⟩ := hx_bind h
      rcases hx_ite2 h with ⟨c13, h⟩ | ⟨c13, h⟩
      · skip
        exact (rf_X10_reads_134 (f_X10_reads_96 L n) ih v0 X _ h).trans F
      · skip
        exact (rf_X10_reads_115 (f_X10_reads_96 L n) ih v0 X _ h).trans F
set_option maxRecDepth 100000 in
set_option maxHeartbeats 4000000 in
theorem rf_X10_reads_93 {L : hL} : ∀ (v0 : Nat) (s0 : Int32) (s1 : Nat) (X : hX) (X' : hX), f_X10_reads_93 L v0 s0 s1 X = some X' → X'.2 = X.2 := by
  intro v0 s0 s1 X X' h
  unfold f_X10_reads_93 at h
  have F : X.2 = X.2 := rfl
  obtain ⟨g14, h⟩ := hx_gd h
  exact (rf_X10_reads_96 u_fuel v0 (smi X s1 11 s0) _ h).trans F
set_option maxRecDepth 100000 in
set_option maxHeartbeats 4000000 in
theorem rf_X10_reads_38 {L : hL} : ∀ (v0 : Nat) (X : hX) (X' : hX), f_X10_reads_38 L v0 X = some X' → X'.2 = X.2 := by
  intro v0 X X' h
  unfold f_X10_reads_38 at h
  have F : X.2 = X.2 := rfl
  obtain ⟨g15, h⟩ := hx_gd h
  rcases hx_ite2 h with ⟨c16, h⟩ | ⟨c16, h⟩
  · skip
    obtain ⟨r17, e18, h⟩ := hx_bind h
    rcases hx_ite h with ⟨c19, h⟩ | ⟨c19, h⟩
    · skip
      obtain ⟨r20, e21, h⟩ := hx_bind h
      rcases hx_ite h with ⟨c22, h⟩ | ⟨c22, h⟩
      · skip
        exact (rf_X10_reads_93 v0 3 v0 (smi X v0 9 (X.1 v0 10)) _ h).trans F
      · skip
        exact (rf_X10_reads_93 v0 2 v0 (smi X v0 9 (X.1 v0 10)) _ h).trans F
    · skip
      exact (rf_X10_reads_93 v0 1 v0 (smi X v0 9 (X.1 v0 10)) _ h).trans F
  · skip
    exact (rf_X10_reads_93 v0 0 v0 (smi X v0 9 (X.1 v0 10)) _ h).trans F
set_option maxRecDepth 100000 in
set_option maxHeartbeats 4000000 in
theorem rf_X10_reads_0 {L : hL} : ∀ (n : Nat) (v0 : Nat) (X : hX) (X' : hX), f_X10_reads_0 L n v0 X = some X' → X'.2 = X.2 := by
  intro n
  induction n with
  | zero => intro v0 X X' h; cases h
  | succ n ih =>
    intro v0 X X' h
    rw [f_X10_reads_0] at h
    have F : X.2 = X.2 := rfl
    obtain ⟨g23, h⟩ := hx_gd h
    rcases hx_ite h with ⟨c24, h⟩ | ⟨c24, h⟩
    · skip
      exact (rf_X10_reads_38 v0 X _ h).trans F
    · skip
      obtain ⟨q25, e26, h⟩ := hx_bind h
      obtain ⟨g27, h⟩ := hx_gd h
      obtain ⟨g28, h⟩ := hx_gd h
      rcases hx_ite2 h with ⟨c29, h⟩ | ⟨c29, h⟩
      · skip
        exact (rf_X10_reads_38 v0 X _ h).trans F
      · skip
        exact (ih v0 (smi X v0 10 ((X.1 v0 10) + 1)) _ h).trans F
set_option maxRecDepth 100000 in
set_option maxHeartbeats 4000000 in
theorem rf_X10_reads {L : hL} {X : hX} {this : Nat} {X' : hX} (h : f_X10_reads L X this = some X') : X'.2 = X.2 := by
  unfold f_X10_reads at h
  have F : X.2 = X.2 := rfl
  exact (rf_X10_reads_0 u_fuel this X _ h).trans F
set_option maxRecDepth 100000 in
set_option maxHeartbeats 4000000 in
theorem rf_X10_does {L : hL} {X : hX} {this : Nat} {a1 : Int32} {r : Int32} {X' : hX} (h : f_X10_does L X this a1 = some (r, X')) : X'.2 = X.2 := by
  unfold f_X10_does at h
  have F : X.2 = X.2 := rfl
  by_cases c1 : a1 = 114085
  · have h := hx_pos c1 h
    obtain ⟨g2, h⟩ := hx_gd h
    obtain ⟨q3, e4, h⟩ := hx_bind h
    obtain ⟨g5, h⟩ := hx_gd h
    obtain ⟨g6, h⟩ := hx_gd h
    obtain ⟨r7, e8, h⟩ := hx_bind h
    have F := (rf_X10_comes (r := r7.1) (X' := r7.2) e8).trans F
    obtain ⟨rfl, rfl⟩ := hx_some2 h
    exact F
  have h := hx_neg c1 h
  by_cases c9 : a1 = 370116
  · have h := hx_pos c9 h
    obtain ⟨g10, h⟩ := hx_gd h
    obtain ⟨q11, e12, h⟩ := hx_bind h
    obtain ⟨g13, h⟩ := hx_gd h
    obtain ⟨g14, h⟩ := hx_gd h
    obtain ⟨g15, h⟩ := hx_gd h
    obtain ⟨g16, h⟩ := hx_gd h
    obtain ⟨r17, e18, h⟩ := hx_bind h
    have F := (rf_X10_kinds (r := r17.1) (X' := r17.2) e18).trans F
    obtain ⟨rfl, rfl⟩ := hx_some2 h
    exact F
  have h := hx_neg c9 h
  by_cases c19 : a1 = 611717
  · have h := hx_pos c19 h
    obtain ⟨g20, h⟩ := hx_gd h
    obtain ⟨q21, e22, h⟩ := hx_bind h
    obtain ⟨g23, h⟩ := hx_gd h
    obtain ⟨g24, h⟩ := hx_gd h
    obtain ⟨r25, e26, h⟩ := hx_bind h
    have F := (rf_X10_sets (r := r25.1) (X' := r25.2) e26).trans F
    obtain ⟨rfl, rfl⟩ := hx_some2 h
    exact F
  have h := hx_neg c19 h
  by_cases c27 : a1 = 3540269
  · have h := hx_pos c27 h
    obtain ⟨g28, h⟩ := hx_gd h
    obtain ⟨q29, e30, h⟩ := hx_bind h
    obtain ⟨g31, h⟩ := hx_gd h
    obtain ⟨g32, h⟩ := hx_gd h
    obtain ⟨g33, h⟩ := hx_gd h
    obtain ⟨r34, e35, h⟩ := hx_bind h
    have F := (rf_X10_claims (r := r34.1) (X' := r34.2) e35).trans F
    obtain ⟨rfl, rfl⟩ := hx_some2 h
    exact F
  have h := hx_neg c27 h
  by_cases c36 : a1 = 17377093
  · have h := hx_pos c36 h
    obtain ⟨g37, h⟩ := hx_gd h
    obtain ⟨q38, e39, h⟩ := hx_bind h
    obtain ⟨g40, h⟩ := hx_gd h
    obtain ⟨g41, h⟩ := hx_gd h
    obtain ⟨g42, h⟩ := hx_gd h
    obtain ⟨g43, h⟩ := hx_gd h
    obtain ⟨g44, h⟩ := hx_gd h
    obtain ⟨g45, h⟩ := hx_gd h
    obtain ⟨r46, e47, h⟩ := hx_bind h
    have F := (rf_X10_adds (r := r46.1) (X' := r46.2) e47).trans F
    obtain ⟨rfl, rfl⟩ := hx_some2 h
    exact F
  have h := hx_neg c36 h
  by_cases c48 : a1 = 20022661
  · have h := hx_pos c48 h
    obtain ⟨g49, h⟩ := hx_gd h
    obtain ⟨q50, e51, h⟩ := hx_bind h
    obtain ⟨g52, h⟩ := hx_gd h
    obtain ⟨g53, h⟩ := hx_gd h
    obtain ⟨g54, h⟩ := hx_gd h
    obtain ⟨r55, e56, h⟩ := hx_bind h
    have F := (rf_X10_scales (r := r55.1) (X' := r55.2) e56).trans F
    obtain ⟨rfl, rfl⟩ := hx_some2 h
    exact F
  have h := hx_neg c48 h
  by_cases c57 : a1 = 24290536
  · have h := hx_pos c57 h
    obtain ⟨g58, h⟩ := hx_gd h
    obtain ⟨q59, e60, h⟩ := hx_bind h
    obtain ⟨g61, h⟩ := hx_gd h
    obtain ⟨g62, h⟩ := hx_gd h
    obtain ⟨g63, h⟩ := hx_gd h
    obtain ⟨g64, h⟩ := hx_gd h
    obtain ⟨r65, e66, h⟩ := hx_bind h
    have F := (rf_X10_weighs (r := r65.1) (X' := r65.2) e66).trans F
    obtain ⟨rfl, rfl⟩ := hx_some2 h
    exact F
  have h := hx_neg c57 h
  obtain ⟨g67, h⟩ := hx_gd h
  obtain ⟨q68, e69, h⟩ := hx_bind h
  obtain ⟨g70, h⟩ := hx_gd h
  obtain ⟨g71, h⟩ := hx_gd h
  obtain ⟨g72, h⟩ := hx_gd h
  obtain ⟨g73, h⟩ := hx_gd h
  obtain ⟨r74, e75, h⟩ := hx_bind h
  have F := (rf_X10_buys (r := r74.1) (X' := r74.2) e75).trans F
  obtain ⟨rfl, rfl⟩ := hx_some2 h
  exact F
set_option maxRecDepth 100000 in
set_option maxHeartbeats 4000000 in
theorem rf_X10_fails_65 {L : hL} : ∀ (v0 : Nat) (v2 : Int32) (v3 : Int32) (v4 : Int32) (s0 : Int32) (s1 : Int32) (s2 : Nat) (X : hX) (r : Int32) (X' : hX), f_X10_fails_65 L v0 v2 v3 v4 s0 s1 s2 X = some (r, X') → X'.2 = X.2 := by
  intro v0 v2 v3 v4 s0 s1 s2 X r X' h
  unfold f_X10_fails_65 at h
  have F : X.2 = X.2 := rfl
  obtain ⟨g1, h⟩ := hx_gd h
  obtain ⟨g2, h⟩ := hx_gd h
  obtain ⟨g3, h⟩ := hx_gd h
  obtain ⟨q4, e5, h⟩ := hx_bind h
  obtain ⟨g6, h⟩ := hx_gd h
  obtain ⟨g7, h⟩ := hx_gd h
  obtain ⟨g8, h⟩ := hx_gd h
  obtain ⟨rfl, rfl⟩ := hx_some2 h
  exact F
set_option maxRecDepth 100000 in
set_option maxHeartbeats 4000000 in
theorem rf_X10_fails_3 {L : hL} : ∀ (n : Nat) (v0 : Nat) (v1 : Int32) (v2 : Int32) (v3 : Int32) (v4 : Int32) (v5 : Int32) (X : hX) (r : Int32) (X' : hX), f_X10_fails_3 L n v0 v1 v2 v3 v4 v5 X = some (r, X') → X'.2 = X.2 := by
  intro n
  induction n with
  | zero => intro v0 v1 v2 v3 v4 v5 X r X' h; cases h
  | succ n ih =>
    intro v0 v1 v2 v3 v4 v5 X r X' h
    rw [f_X10_fails_3] at h
    have F : X.2 = X.2 := rfl
    rcases hx_ite h with ⟨c9, h⟩ | ⟨c9, h⟩
    · skip
      obtain ⟨g10, h⟩ := hx_gd h
      obtain ⟨q11, e12, h⟩ := hx_bind h
      obtain ⟨g13, h⟩ := hx_gd h
      obtain ⟨g14, h⟩ := hx_gd h
      obtain ⟨g15, h⟩ := hx_gd h
      rcases hx_ite2 h with ⟨c16, h⟩ | ⟨c16, h⟩
      · skip
        exact (rf_X10_fails_65 v0 v2 v3 v4 2 2 q11 (smi (smi (smi X v0 8 1) q11 0 v1) q11 1 v2) _ _ h).trans F
      · skip
        exact (rf_X10_fails_65 v0 v2 v3 v4 1 2 q11 (smi (smi (smi X v0 8 1) q11 0 v1) q11 1 v2) _ _ h).trans F
    · skip
      obtain ⟨g17, h⟩ := hx_gd h
      obtain ⟨q18, e19, h⟩ := hx_bind h
      obtain ⟨q20, e21, h⟩ := hx_bind h
      obtain ⟨g22, h⟩ := hx_gd h
      obtain ⟨g23, h⟩ := hx_gd h
      obtain ⟨g24, h⟩ := hx_gd h
      obtain ⟨g25, h⟩ := hx_gd h
      exact (ih v0 v1 v2 v3 v4 (v5 + 1) (smi X q18 (Int32.toNatClampNeg v5) (X.1 q20 (Int32.toNatClampNeg v5))) _ _ h).trans F
set_option maxRecDepth 100000 in
set_option maxHeartbeats 4000000 in
theorem rf_X10_fails {L : hL} {X : hX} {this : Nat} {a1 : Int32} {a2 : Int32} {a3 : Int32} {a4 : Int32} {r : Int32} {X' : hX} (h : f_X10_fails L X this a1 a2 a3 a4 = some (r, X')) : X'.2 = X.2 := by
  unfold f_X10_fails at h
  have F : X.2 = X.2 := rfl
  exact (rf_X10_fails_3 u_fuel this a1 a2 a3 a4 0 X _ _ h).trans F
set_option maxRecDepth 100000 in
set_option maxHeartbeats 4000000 in
theorem rf_X10_readsNumbers_2 {L : hL} : ∀ (n : Nat) (v0 : Nat) (v1 : Int32) (v2 : Int32) (X : hX) (r : Int32) (X' : hX), f_X10_readsNumbers_2 L n v0 v1 v2 X = some (r, X') → X'.2 = X.2 := by
  intro n
  induction n with
  | zero => intro v0 v1 v2 X r X' h; cases h
  | succ n ih =>
    intro v0 v1 v2 X r X' h
    rw [f_X10_readsNumbers_2] at h
    have F : X.2 = X.2 := rfl
    rcases hx_ite h with ⟨c1, h⟩ | ⟨c1, h⟩
    · skip
      obtain ⟨r2, e3, h⟩ := hx_bind h
      have F := (rf_X10_reads (X' := r2) e3).trans F
      obtain ⟨g4, h⟩ := hx_gd h
      rcases hx_ite2 h with ⟨c5, h⟩ | ⟨c5, h⟩
      · skip
        obtain ⟨rfl, rfl⟩ := hx_some2 h
        exact F
      · skip
        obtain ⟨q6, e7, h⟩ := hx_bind h
        obtain ⟨g8, h⟩ := hx_gd h
        obtain ⟨g9, h⟩ := hx_gd h
        rcases hx_ite2 h with ⟨c10, h⟩ | ⟨c10, h⟩
        · skip
          obtain ⟨rfl, rfl⟩ := hx_some2 h
          exact F
        · skip
          obtain ⟨rfl, rfl⟩ := hx_some2 h
          exact F
    · skip
      obtain ⟨r11, e12, h⟩ := hx_bind h
      have F := (rf_X10_reads (X' := r11) e12).trans F
      obtain ⟨g13, h⟩ := hx_gd h
      obtain ⟨r14, e15, h⟩ := hx_bind h
      rcases hx_ite2 h with ⟨c16, h⟩ | ⟨c16, h⟩
      · skip
        obtain ⟨q17, e18, h⟩ := hx_bind h
        obtain ⟨r19, e20, h⟩ := hx_bind h
        obtain ⟨g21, h⟩ := hx_gd h
        obtain ⟨g22, h⟩ := hx_gd h
        exact (ih v0 v1 (v2 + 1) (smi r11 q17 (Int32.toNatClampNeg v2) r19) _ _ h).trans F
      · skip
        obtain ⟨rfl, rfl⟩ := hx_some2 h
        exact F
set_option maxRecDepth 100000 in
set_option maxHeartbeats 4000000 in
theorem rf_X10_readsNumbers {L : hL} {X : hX} {this : Nat} {a1 : Int32} {r : Int32} {X' : hX} (h : f_X10_readsNumbers L X this a1 = some (r, X')) : X'.2 = X.2 := by
  unfold f_X10_readsNumbers at h
  have F : X.2 = X.2 := rfl
  exact (rf_X10_readsNumbers_2 u_fuel this a1 0 X _ _ h).trans F
set_option maxRecDepth 100000 in
set_option maxHeartbeats 4000000 in
theorem rf_X10_run_85 {L : hL} : ∀ (v0 : Nat) (v1 : Int32) (X : hX) (r : Int32) (X' : hX), f_X10_run_85 L v0 v1 X = some (r, X') → X'.2 = X.2 := by
  intro v0 v1 X r X' h
  unfold f_X10_run_85 at h
  have F : X.2 = X.2 := rfl
  obtain ⟨g1, h⟩ := hx_gd h
  obtain ⟨r2, e3, h⟩ := hx_bind h
  have F := (rf_X10_fails (r := r2.1) (X' := r2.2) e3).trans F
  obtain ⟨rfl, rfl⟩ := hx_some2 h
  exact F
set_option maxRecDepth 100000 in
set_option maxHeartbeats 4000000 in
theorem rf_X10_run_66 {L : hL} (k38 : Nat → Int32 → hX → Option (Int32 × hX)) (hk38 : ∀ (v0 : Nat) (v1 : Int32) (X : hX) (r : Int32) (X' : hX), k38 v0 v1 X = some (r, X') → X'.2 = X.2) : ∀ (v0 : Nat) (v1 : Int32) (v2 : Int32) (s0 : Int32) (X : hX) (r : Int32) (X' : hX), f_X10_run_66 L k38 v0 v1 v2 s0 X = some (r, X') → X'.2 = X.2 := by
  intro v0 v1 v2 s0 X r X' h
  unfold f_X10_run_66 at h
  have F : X.2 = X.2 := rfl
  obtain ⟨r4, e5, h⟩ := hx_bind h
  rcases hx_ite h with ⟨c6, h⟩ | ⟨c6, h⟩
  · skip
    exact (rf_X10_run_85 v0 v1 X _ _ h).trans F
  · skip
    obtain ⟨r7, e8, h⟩ := hx_bind h
    obtain ⟨r9, e10, h⟩ := hx_bind h
    have F := (rf_X10_readsNumbers (r := r9.1) (X' := r9.2) e10).trans F
    obtain ⟨g11, h⟩ := hx_gd h
    rcases hx_ite2 h with ⟨c12, h⟩ | ⟨c12, h⟩
    · skip
      obtain ⟨r13, e14, h⟩ := hx_bind h
      have F := (rf_X10_does (r := r13.1) (X' := r13.2) e14).trans F
      rcases hx_ite h with ⟨c15, h⟩ | ⟨c15, h⟩
      · skip
        obtain ⟨r16, e17, h⟩ := hx_bind h
        have F := (rf_X10_reads (X' := r16) e17).trans F
        exact (hk38 v0 (v1 + 1) r16 _ _ h).trans F
      · skip
        rcases hx_ite2 h with ⟨c18, h⟩ | ⟨c18, h⟩
        · skip
          obtain ⟨r19, e20, h⟩ := hx_bind h
          have F := (rf_X10_fails (r := r19.1) (X' := r19.2) e20).trans F
          obtain ⟨rfl, rfl⟩ := hx_some2 h
          exact F
        · skip
          obtain ⟨r21, e22, h⟩ := hx_bind h
          have F := (rf_X10_fails (r := r21.1) (X' := r21.2) e22).trans F
          obtain ⟨rfl, rfl⟩ := hx_some2 h
          exact F
    · skip
      exact (rf_X10_run_85 v0 v1 r9.2 _ _ h).trans F
set_option maxRecDepth 100000 in
set_option maxHeartbeats 4000000 in
theorem rf_X10_run_38 {L : hL} : ∀ (n : Nat) (v0 : Nat) (v1 : Int32) (X : hX) (r : Int32) (X' : hX), f_X10_run_38 L n v0 v1 X = some (r, X') → X'.2 = X.2 := by
  intro n
  induction n with
  | zero => intro v0 v1 X r X' h; cases h
  | succ n ih =>
    intro v0 v1 X r X' h
    rw [f_X10_run_38] at h
    have F : X.2 = X.2 := rfl
    obtain ⟨g23, h⟩ := hx_gd h
    rcases hx_ite h with ⟨c24, h⟩ | ⟨c24, h⟩
    · skip
      obtain ⟨q25, e26, h⟩ := hx_bind h
      obtain ⟨r27, e28, h⟩ := hx_bind h
      have F := (rf_X10_pushes (X' := r27) e28).trans F
      obtain ⟨rfl, rfl⟩ := hx_some2 h
      exact F
    · skip
      rcases hx_ite2 h with ⟨c29, h⟩ | ⟨c29, h⟩
      · skip
        exact (rf_X10_run_66 (f_X10_run_38 L n) ih v0 v1 (X.1 v0 9) 0 X _ _ h).trans F
      · skip
        obtain ⟨r30, e31, h⟩ := hx_bind h
        exact (rf_X10_run_66 (f_X10_run_38 L n) ih v0 v1 (X.1 v0 9) r30 X _ _ h).trans F
set_option maxRecDepth 100000 in
set_option maxHeartbeats 4000000 in
theorem rf_X10_run_2 {L : hL} : ∀ (n : Nat) (v0 : Nat) (v1 : Int32) (X : hX) (r : Int32) (X' : hX), f_X10_run_2 L n v0 v1 X = some (r, X') → X'.2 = X.2 := by
  intro n
  induction n with
  | zero => intro v0 v1 X r X' h; cases h
  | succ n ih =>
    intro v0 v1 X r X' h
    rw [f_X10_run_2] at h
    have F : X.2 = X.2 := rfl
    rcases hx_ite h with ⟨c32, h⟩ | ⟨c32, h⟩
    · skip
      obtain ⟨g33, h⟩ := hx_gd h
      obtain ⟨r34, e35, h⟩ := hx_bind h
      have F := (rf_X10_reads (X' := r34) e35).trans F
      exact (rf_X10_run_38 u_fuel v0 0 r34 _ _ h).trans F
    · skip
      obtain ⟨g36, h⟩ := hx_gd h
      obtain ⟨q37, e38, h⟩ := hx_bind h
      obtain ⟨q39, e40, h⟩ := hx_bind h
      obtain ⟨g41, h⟩ := hx_gd h
      obtain ⟨g42, h⟩ := hx_gd h
      obtain ⟨g43, h⟩ := hx_gd h
      obtain ⟨g44, h⟩ := hx_gd h
      exact (ih v0 (v1 + 1) (smi X q37 (Int32.toNatClampNeg v1) (X.1 q39 (Int32.toNatClampNeg v1))) _ _ h).trans F
set_option maxRecDepth 100000 in
set_option maxHeartbeats 4000000 in
theorem rf_X10_run {L : hL} {X : hX} {this : Nat} {r : Int32} {X' : hX} (h : f_X10_run L X this = some (r, X')) : X'.2 = X.2 := by
  unfold f_X10_run at h
  have F : X.2 = X.2 := rfl
  exact (rf_X10_run_2 u_fuel this 0 X _ _ h).trans F
set_option maxRecDepth 100000 in
set_option maxHeartbeats 4000000 in
theorem rf_X10_allowed {L : hL} {X : hX} {this : Nat} {a1 : Int32} {a2 : Int32} {a3 : Int32} {r : Int32} {X' : hX} (h : f_X10_allowed L X this a1 a2 a3 = some (r, X')) : X'.2 = X.2 := by
  unfold f_X10_allowed at h
  have F : X.2 = X.2 := rfl
  obtain ⟨r1, e2, h⟩ := hx_bind h
  rcases hx_ite h with ⟨c3, h⟩ | ⟨c3, h⟩
  · skip
    obtain ⟨rfl, rfl⟩ := hx_some2 h
    exact F
  · skip
    obtain ⟨r4, e5, h⟩ := hx_bind h
    rcases hx_ite h with ⟨c6, h⟩ | ⟨c6, h⟩
    · skip
      obtain ⟨rfl, rfl⟩ := hx_some2 h
      exact F
    · skip
      obtain ⟨r7, e8, h⟩ := hx_bind h
      rcases hx_ite2 h with ⟨c9, h⟩ | ⟨c9, h⟩
      · skip
        obtain ⟨r10, e11, h⟩ := hx_bind h
        have F := (rf_X10_allows (r := r10.1) (X' := r10.2) e11).trans F
        obtain ⟨g12, h⟩ := hx_gd h
        rcases hx_ite2 h with ⟨c13, h⟩ | ⟨c13, h⟩
        · skip
          rcases hx_ite2 h with ⟨c14, h⟩ | ⟨c14, h⟩
          · skip
            rcases hx_ite2 h with ⟨c15, h⟩ | ⟨c15, h⟩
            · skip
              obtain ⟨rfl, rfl⟩ := hx_some2 h
              exact F
            · skip
              obtain ⟨rfl, rfl⟩ := hx_some2 h
              exact F
          · skip
            obtain ⟨rfl, rfl⟩ := hx_some2 h
            exact F
        · skip
          rcases hx_ite2 h with ⟨c16, h⟩ | ⟨c16, h⟩
          · skip
            obtain ⟨rfl, rfl⟩ := hx_some2 h
            exact F
          · skip
            obtain ⟨rfl, rfl⟩ := hx_some2 h
            exact F
      · skip
        obtain ⟨rfl, rfl⟩ := hx_some2 h
        exact F
set_option maxRecDepth 100000 in
set_option maxHeartbeats 4000000 in
theorem rf_X10_guess {L : hL} {X : hX} {this : Nat} {a1 : Int32} {a2 : Int32} {a3 : Int32} {r : Int32} {X' : hX} (h : f_X10_guess L X this a1 a2 a3 = some (r, X')) : X'.2 = X.2 := by
  unfold f_X10_guess at h
  have F : X.2 = X.2 := rfl
  obtain ⟨r1, e2, h⟩ := hx_bind h
  rcases hx_ite h with ⟨c3, h⟩ | ⟨c3, h⟩
  · skip
    obtain ⟨rfl, rfl⟩ := hx_some2 h
    exact F
  · skip
    obtain ⟨r4, e5, h⟩ := hx_bind h
    rcases hx_ite h with ⟨c6, h⟩ | ⟨c6, h⟩
    · skip
      obtain ⟨rfl, rfl⟩ := hx_some2 h
      exact F
    · skip
      obtain ⟨r7, e8, h⟩ := hx_bind h
      rcases hx_ite h with ⟨c9, h⟩ | ⟨c9, h⟩
      · skip
        obtain ⟨rfl, rfl⟩ := hx_some2 h
        exact F
      · skip
        obtain ⟨r10, e11, h⟩ := hx_bind h
        have F := (rf_X10_guesses (r := r10.1) (X' := r10.2) e11).trans F
        obtain ⟨g12, h⟩ := hx_gd h
        obtain ⟨rfl, rfl⟩ := hx_some2 h
        exact F
set_option maxRecDepth 100000 in
set_option maxHeartbeats 4000000 in
theorem rf_X10_given_66 {L : hL} (k4 : Nat → Int32 → Int32 → Int32 → hX → Option (Int32 × hX)) (hk4 : ∀ (v0 : Nat) (v1 : Int32) (v2 : Int32) (v3 : Int32) (X : hX) (r : Int32) (X' : hX), k4 v0 v1 v2 v3 X = some (r, X') → X'.2 = X.2) : ∀ (v0 : Nat) (v1 : Int32) (v2 : Int32) (v3 : Int32) (X : hX) (r : Int32) (X' : hX), f_X10_given_66 L k4 v0 v1 v2 v3 X = some (r, X') → X'.2 = X.2 := by
  intro v0 v1 v2 v3 X r X' h
  unfold f_X10_given_66 at h
  have F : X.2 = X.2 := rfl
  exact (hk4 v0 v1 v2 (v3 + 1) X _ _ h).trans F
set_option maxRecDepth 100000 in
set_option maxHeartbeats 4000000 in
theorem rf_X10_given_4 {L : hL} : ∀ (n : Nat) (v0 : Nat) (v1 : Int32) (v2 : Int32) (v3 : Int32) (X : hX) (r : Int32) (X' : hX), f_X10_given_4 L n v0 v1 v2 v3 X = some (r, X') → X'.2 = X.2 := by
  intro n
  induction n with
  | zero => intro v0 v1 v2 v3 X r X' h; cases h
  | succ n ih =>
    intro v0 v1 v2 v3 X r X' h
    rw [f_X10_given_4] at h
    have F : X.2 = X.2 := rfl
    obtain ⟨g1, h⟩ := hx_gd h
    obtain ⟨q2, e3, h⟩ := hx_bind h
    obtain ⟨g4, h⟩ := hx_gd h
    obtain ⟨g5, h⟩ := hx_gd h
    rcases hx_ite h with ⟨c6, h⟩ | ⟨c6, h⟩
    · skip
      obtain ⟨rfl, rfl⟩ := hx_some2 h
      exact F
    · skip
      obtain ⟨r7, e8, h⟩ := hx_bind h
      rcases hx_ite2 h with ⟨c9, h⟩ | ⟨c9, h⟩
      · skip
        exact (rf_X10_given_66 (f_X10_given_4 L n) ih v0 v1 v2 v3 X _ _ h).trans F
      · skip
        obtain ⟨r10, e11, h⟩ := hx_bind h
        obtain ⟨r12, e13, h⟩ := hx_bind h
        obtain ⟨r14, e15, h⟩ := hx_bind h
        have F := (rf_X10_guesses (r := r14.1) (X' := r14.2) e15).trans F
        rcases hx_ite2 h with ⟨c16, h⟩ | ⟨c16, h⟩
        · skip
          obtain ⟨r17, e18, h⟩ := hx_bind h
          exact (rf_X10_given_66 (f_X10_given_4 L n) ih v0 v1 (v2 + (r14.1 - r17)) v3 r14.2 _ _ h).trans F
        · skip
          obtain ⟨rfl, rfl⟩ := hx_some2 h
          exact F
set_option maxRecDepth 100000 in
set_option maxHeartbeats 4000000 in
theorem rf_X10_given {L : hL} {X : hX} {this : Nat} {a1 : Int32} {r : Int32} {X' : hX} (h : f_X10_given L X this a1 = some (r, X')) : X'.2 = X.2 := by
  unfold f_X10_given at h
  have F : X.2 = X.2 := rfl
  exact (rf_X10_given_4 u_fuel this a1 0 0 X _ _ h).trans F
set_option maxRecDepth 100000 in
set_option maxHeartbeats 4000000 in
theorem rf_X10_would {L : hL} {X : hX} {this : Nat} {a1 : Int32} {r : Int32} {X' : hX} (h : f_X10_would L X this a1 = some (r, X')) : X'.2 = X.2 := by
  unfold f_X10_would at h
  have F : X.2 = X.2 := rfl
  obtain ⟨r1, e2, h⟩ := hx_bind h
  rcases hx_ite2 h with ⟨c3, h⟩ | ⟨c3, h⟩
  · skip
    obtain ⟨r4, e5, h⟩ := hx_bind h
    have F := (rf_X10_given (r := r4.1) (X' := r4.2) e5).trans F
    obtain ⟨g6, h⟩ := hx_gd h
    rcases hx_ite2 h with ⟨c7, h⟩ | ⟨c7, h⟩
    · skip
      obtain ⟨rfl, rfl⟩ := hx_some2 h
      exact F
    · skip
      obtain ⟨rfl, rfl⟩ := hx_some2 h
      exact F
  · skip
    obtain ⟨rfl, rfl⟩ := hx_some2 h
    exact F
set_option maxRecDepth 100000 in
set_option maxHeartbeats 4000000 in
theorem rf_X10_fairest_53 {L : hL} (k5 : Nat → Int32 → Int32 → hX → Option (Int32 × hX)) (hk5 : ∀ (v0 : Nat) (v1 : Int32) (v2 : Int32) (X : hX) (r : Int32) (X' : hX), k5 v0 v1 v2 X = some (r, X') → X'.2 = X.2) : ∀ (v0 : Nat) (v2 : Int32) (s0 : Int32) (X : hX) (r : Int32) (X' : hX), f_X10_fairest_53 L k5 v0 v2 s0 X = some (r, X') → X'.2 = X.2 := by
  intro v0 v2 s0 X r X' h
  unfold f_X10_fairest_53 at h
  have F : X.2 = X.2 := rfl
  exact (hk5 v0 s0 (v2 + 1) X _ _ h).trans F
set_option maxRecDepth 100000 in
set_option maxHeartbeats 4000000 in
theorem rf_X10_fairest_48 {L : hL} (k5 : Nat → Int32 → Int32 → hX → Option (Int32 × hX)) (hk5 : ∀ (v0 : Nat) (v1 : Int32) (v2 : Int32) (X : hX) (r : Int32) (X' : hX), k5 v0 v1 v2 X = some (r, X') → X'.2 = X.2) : ∀ (v0 : Nat) (v2 : Int32) (X : hX) (r : Int32) (X' : hX), f_X10_fairest_48 L k5 v0 v2 X = some (r, X') → X'.2 = X.2 := by
  intro v0 v2 X r X' h
  unfold f_X10_fairest_48 at h
  have F : X.2 = X.2 := rfl
  exact (rf_X10_fairest_53 k5 hk5 v0 v2 v2 X _ _ h).trans F
set_option maxRecDepth 100000 in
set_option maxHeartbeats 4000000 in
theorem rf_X10_fairest_5 {L : hL} : ∀ (n : Nat) (v0 : Nat) (v1 : Int32) (v2 : Int32) (X : hX) (r : Int32) (X' : hX), f_X10_fairest_5 L n v0 v1 v2 X = some (r, X') → X'.2 = X.2 := by
  intro n
  induction n with
  | zero => intro v0 v1 v2 X r X' h; cases h
  | succ n ih =>
    intro v0 v1 v2 X r X' h
    rw [f_X10_fairest_5] at h
    have F : X.2 = X.2 := rfl
    rcases hx_ite h with ⟨c1, h⟩ | ⟨c1, h⟩
    · skip
      obtain ⟨rfl, rfl⟩ := hx_some2 h
      exact F
    · skip
      obtain ⟨r2, e3, h⟩ := hx_bind h
      have F := (rf_X10_given (r := r2.1) (X' := r2.2) e3).trans F
      obtain ⟨g4, h⟩ := hx_gd h
      rcases hx_ite2 h with ⟨c5, h⟩ | ⟨c5, h⟩
      · skip
        rcases hx_ite h with ⟨c6, h⟩ | ⟨c6, h⟩
        · skip
          exact (rf_X10_fairest_48 (f_X10_fairest_5 L n) ih v0 v2 r2.2 _ _ h).trans F
        · skip
          obtain ⟨r7, e8, h⟩ := hx_bind h
          obtain ⟨r9, e10, h⟩ := hx_bind h
          have F := (rf_X10_given (r := r9.1) (X' := r9.2) e10).trans F
          obtain ⟨r11, e12, h⟩ := hx_bind h
          rcases hx_ite h with ⟨c13, h⟩ | ⟨c13, h⟩
          · skip
            exact (rf_X10_fairest_53 (f_X10_fairest_5 L n) ih v0 v2 v1 r9.2 _ _ h).trans F
          · skip
            exact (rf_X10_fairest_48 (f_X10_fairest_5 L n) ih v0 v2 r9.2 _ _ h).trans F
      · skip
        obtain ⟨rfl, rfl⟩ := hx_some2 h
        exact F
set_option maxRecDepth 100000 in
set_option maxHeartbeats 4000000 in
theorem rf_X10_fairest {L : hL} {X : hX} {this : Nat} {r : Int32} {X' : hX} (h : f_X10_fairest L X this = some (r, X')) : X'.2 = X.2 := by
  unfold f_X10_fairest at h
  have F : X.2 = X.2 := rfl
  exact (rf_X10_fairest_5 u_fuel this (-100009) 0 X _ _ h).trans F
