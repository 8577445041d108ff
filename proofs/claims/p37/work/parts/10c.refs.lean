set_option maxRecDepth 100000 in
set_option maxHeartbeats 4000000 in
theorem rf_X4_copyFrom {L : hL} {X : hX} {this : Nat} {a1 : Nat} {X' : hX} (h : f_X4_copyFrom L X this a1 = some X') : X'.2 = X.2 := by
  unfold f_X4_copyFrom at h
  have F : X.2 = X.2 := rfl
  obtain ⟨g1, h⟩ := hx_gd h
  obtain ⟨g2, h⟩ := hx_gd h
  obtain rfl := hx_some1 h
  exact F
set_option maxRecDepth 100000 in
set_option maxHeartbeats 4000000 in
theorem rf_X1_copyFrom {L : hL} {X : hX} {this : Nat} {a1 : Nat} {X' : hX} (h : f_X1_copyFrom L X this a1 = some X') : X'.2 = X.2 := by
  unfold f_X1_copyFrom at h
  have F : X.2 = X.2 := rfl
  obtain ⟨g1, h⟩ := hx_gd h
  obtain ⟨g2, h⟩ := hx_gd h
  obtain ⟨g3, h⟩ := hx_gd h
  obtain rfl := hx_some1 h
  exact F
set_option maxRecDepth 100000 in
set_option maxHeartbeats 4000000 in
theorem rf_X5_copyFrom {L : hL} {X : hX} {this : Nat} {a1 : Nat} {X' : hX} (h : f_X5_copyFrom L X this a1 = some X') : X'.2 = X.2 := by
  unfold f_X5_copyFrom at h
  have F : X.2 = X.2 := rfl
  obtain ⟨g1, h⟩ := hx_gd h
  obtain ⟨g2, h⟩ := hx_gd h
  obtain rfl := hx_some1 h
  exact F
set_option maxRecDepth 100000 in
set_option maxHeartbeats 4000000 in
theorem rf_X7_copyFrom {L : hL} {X : hX} {this : Nat} {a1 : Nat} {X' : hX} (h : f_X7_copyFrom L X this a1 = some X') : X'.2 = X.2 := by
  unfold f_X7_copyFrom at h
  have F : X.2 = X.2 := rfl
  obtain ⟨g1, h⟩ := hx_gd h
  obtain ⟨g2, h⟩ := hx_gd h
  obtain rfl := hx_some1 h
  exact F
set_option maxRecDepth 100000 in
set_option maxHeartbeats 4000000 in
theorem rf_X0_copyFrom_59 {L : hL} : ∀ (n : Nat) (v0 : Nat) (v1 : Nat) (v2 : Int32) (X : hX) (X' : hX), f_X0_copyFrom_59 L n v0 v1 v2 X = some X' → X'.2 = X.2 := by
  intro n
  induction n with
  | zero => intro v0 v1 v2 X X' h; cases h
  | succ n ih =>
    intro v0 v1 v2 X X' h
    rw [f_X0_copyFrom_59] at h
    have F : X.2 = X.2 := rfl
    rcases hx_ite h with ⟨c1, h⟩ | ⟨c1, h⟩
    · skip
      obtain ⟨g2, h⟩ := hx_gd h
      obtain ⟨q3, e4, h⟩ := hx_bind h
      obtain ⟨g5, h⟩ := hx_gd h
      obtain ⟨q6, e7, h⟩ := hx_bind h
      obtain ⟨r8, e9, h⟩ := hx_bind h
      have F := (rf_X7_copyFrom (X' := r8) e9).trans F
      obtain ⟨g10, h⟩ := hx_gd h
      obtain rfl := hx_some1 h
      exact F
    · skip
      obtain ⟨g11, h⟩ := hx_gd h
      obtain ⟨q12, e13, h⟩ := hx_bind h
      obtain ⟨g14, h⟩ := hx_gd h
      obtain ⟨g15, h⟩ := hx_gd h
      obtain ⟨q16, e17, h⟩ := hx_bind h
      obtain ⟨g18, h⟩ := hx_gd h
      obtain ⟨q19, e20, h⟩ := hx_bind h
      obtain ⟨g21, h⟩ := hx_gd h
      obtain ⟨g22, h⟩ := hx_gd h
      obtain ⟨q23, e24, h⟩ := hx_bind h
      obtain ⟨r25, e26, h⟩ := hx_bind h
      have F := (rf_X5_copyFrom (X' := r25) e26).trans F
      obtain ⟨g27, h⟩ := hx_gd h
      exact (ih v0 v1 (v2 + 1) r25 _ h).trans F
set_option maxRecDepth 100000 in
set_option maxHeartbeats 4000000 in
theorem rf_X0_copyFrom_30 {L : hL} : ∀ (n : Nat) (v0 : Nat) (v1 : Nat) (v2 : Int32) (X : hX) (X' : hX), f_X0_copyFrom_30 L n v0 v1 v2 X = some X' → X'.2 = X.2 := by
  intro n
  induction n with
  | zero => intro v0 v1 v2 X X' h; cases h
  | succ n ih =>
    intro v0 v1 v2 X X' h
    rw [f_X0_copyFrom_30] at h
    have F : X.2 = X.2 := rfl
    rcases hx_ite h with ⟨c28, h⟩ | ⟨c28, h⟩
    · skip
      exact (rf_X0_copyFrom_59 u_fuel v0 v1 0 X _ h).trans F
    · skip
      obtain ⟨g29, h⟩ := hx_gd h
      obtain ⟨q30, e31, h⟩ := hx_bind h
      obtain ⟨g32, h⟩ := hx_gd h
      obtain ⟨g33, h⟩ := hx_gd h
      obtain ⟨q34, e35, h⟩ := hx_bind h
      obtain ⟨g36, h⟩ := hx_gd h
      obtain ⟨q37, e38, h⟩ := hx_bind h
      obtain ⟨g39, h⟩ := hx_gd h
      obtain ⟨g40, h⟩ := hx_gd h
      obtain ⟨q41, e42, h⟩ := hx_bind h
      obtain ⟨r43, e44, h⟩ := hx_bind h
      have F := (rf_X1_copyFrom (X' := r43) e44).trans F
      obtain ⟨g45, h⟩ := hx_gd h
      exact (ih v0 v1 (v2 + 1) r43 _ h).trans F
set_option maxRecDepth 100000 in
set_option maxHeartbeats 4000000 in
theorem rf_X0_copyFrom_2 {L : hL} : ∀ (n : Nat) (v0 : Nat) (v1 : Nat) (v2 : Int32) (X : hX) (X' : hX), f_X0_copyFrom_2 L n v0 v1 v2 X = some X' → X'.2 = X.2 := by
  intro n
  induction n with
  | zero => intro v0 v1 v2 X X' h; cases h
  | succ n ih =>
    intro v0 v1 v2 X X' h
    rw [f_X0_copyFrom_2] at h
    have F : X.2 = X.2 := rfl
    rcases hx_ite h with ⟨c46, h⟩ | ⟨c46, h⟩
    · skip
      exact (rf_X0_copyFrom_30 u_fuel v0 v1 0 X _ h).trans F
    · skip
      obtain ⟨g47, h⟩ := hx_gd h
      obtain ⟨q48, e49, h⟩ := hx_bind h
      obtain ⟨g50, h⟩ := hx_gd h
      obtain ⟨g51, h⟩ := hx_gd h
      obtain ⟨q52, e53, h⟩ := hx_bind h
      obtain ⟨g54, h⟩ := hx_gd h
      obtain ⟨q55, e56, h⟩ := hx_bind h
      obtain ⟨g57, h⟩ := hx_gd h
      obtain ⟨g58, h⟩ := hx_gd h
      obtain ⟨q59, e60, h⟩ := hx_bind h
      obtain ⟨r61, e62, h⟩ := hx_bind h
      have F := (rf_X4_copyFrom (X' := r61) e62).trans F
      obtain ⟨g63, h⟩ := hx_gd h
      exact (ih v0 v1 (v2 + 1) r61 _ h).trans F
set_option maxRecDepth 100000 in
set_option maxHeartbeats 4000000 in
theorem rf_X0_copyFrom {L : hL} {X : hX} {this : Nat} {a1 : Nat} {X' : hX} (h : f_X0_copyFrom L X this a1 = some X') : X'.2 = X.2 := by
  unfold f_X0_copyFrom at h
  have F : X.2 = X.2 := rfl
  exact (rf_X0_copyFrom_2 u_fuel this a1 0 X _ h).trans F
set_option maxRecDepth 100000 in
set_option maxHeartbeats 4000000 in
theorem rf_X0_changeKind {L : hL} {X : hX} {this : Nat} {a1 : Int32} {a2 : Int32} {a3 : Int32} {r : Int32} {X' : hX} (h : f_X0_changeKind L X this a1 a2 a3 = some (r, X')) : X'.2 = X.2 := by
  unfold f_X0_changeKind at h
  have F : X.2 = X.2 := rfl
  obtain ⟨r1, e2, h⟩ := hx_bind h
  obtain ⟨g3, h⟩ := hx_gd h
  rcases r1 with _ | i4
  · have h := hx_eln h
    obtain ⟨rfl, rfl⟩ := hx_some2 h
    exact F
  · have h := hx_els h
    obtain ⟨r5, e6, h⟩ := hx_bind h
    rcases hx_ite h with ⟨c7, h⟩ | ⟨c7, h⟩
    · skip
      obtain ⟨rfl, rfl⟩ := hx_some2 h
      exact F
    · skip
      obtain ⟨r8, e9, h⟩ := hx_bind h
      rcases hx_ite2 h with ⟨c10, h⟩ | ⟨c10, h⟩
      · skip
        obtain ⟨g11, h⟩ := hx_gd h
        obtain ⟨rfl, rfl⟩ := hx_some2 h
        exact F
      · skip
        obtain ⟨rfl, rfl⟩ := hx_some2 h
        exact F
set_option maxRecDepth 100000 in
set_option maxHeartbeats 4000000 in
theorem rf_X0_changeScale {L : hL} {X : hX} {this : Nat} {a1 : Int32} {a2 : Int32} {r : Int32} {X' : hX} (h : f_X0_changeScale L X this a1 a2 = some (r, X')) : X'.2 = X.2 := by
  unfold f_X0_changeScale at h
  have F : X.2 = X.2 := rfl
  obtain ⟨r1, e2, h⟩ := hx_bind h
  rcases hx_ite h with ⟨c3, h⟩ | ⟨c3, h⟩
  · skip
    obtain ⟨rfl, rfl⟩ := hx_some2 h
    exact F
  · skip
    obtain ⟨r4, e5, h⟩ := hx_bind h
    rcases hx_ite2 h with ⟨c6, h⟩ | ⟨c6, h⟩
    · skip
      obtain ⟨g7, h⟩ := hx_gd h
      obtain ⟨q8, e9, h⟩ := hx_bind h
      obtain ⟨g10, h⟩ := hx_gd h
      obtain ⟨rfl, rfl⟩ := hx_some2 h
      exact F
    · skip
      obtain ⟨rfl, rfl⟩ := hx_some2 h
      exact F
set_option maxRecDepth 100000 in
set_option maxHeartbeats 4000000 in
theorem rf_X0_changeBias {L : hL} {X : hX} {this : Nat} {a1 : Int32} {r : Int32} {X' : hX} (h : f_X0_changeBias L X this a1 = some (r, X')) : X'.2 = X.2 := by
  unfold f_X0_changeBias at h
  have F : X.2 = X.2 := rfl
  obtain ⟨g1, h⟩ := hx_gd h
  obtain ⟨q2, e3, h⟩ := hx_bind h
  obtain ⟨g4, h⟩ := hx_gd h
  obtain ⟨r5, e6, h⟩ := hx_bind h
  rcases hx_ite2 h with ⟨c7, h⟩ | ⟨c7, h⟩
  · skip
    obtain ⟨rfl, rfl⟩ := hx_some2 h
    exact F
  · skip
    obtain ⟨rfl, rfl⟩ := hx_some2 h
    exact F
set_option maxRecDepth 100000 in
set_option maxHeartbeats 4000000 in
theorem rf_X0_changeRule {L : hL} {X : hX} {this : Nat} {a1 : Int32} {r : Int32} {X' : hX} (h : f_X0_changeRule L X this a1 = some (r, X')) : X'.2 = X.2 := by
  unfold f_X0_changeRule at h
  have F : X.2 = X.2 := rfl
  obtain ⟨r1, e2, h⟩ := hx_bind h
  rcases hx_ite2 h with ⟨c3, h⟩ | ⟨c3, h⟩
  · skip
    obtain ⟨g4, h⟩ := hx_gd h
    obtain ⟨rfl, rfl⟩ := hx_some2 h
    exact F
  · skip
    obtain ⟨rfl, rfl⟩ := hx_some2 h
    exact F
set_option maxRecDepth 100000 in
set_option maxHeartbeats 4000000 in
theorem rf_X1_begin {L : hL} {X : hX} {this : Nat} {a1 : Int32} {X' : hX} (h : f_X1_begin L X this a1 = some X') : X'.2 = X.2 := by
  unfold f_X1_begin at h
  have F : X.2 = X.2 := rfl
  obtain ⟨g1, h⟩ := hx_gd h
  obtain rfl := hx_some1 h
  exact F
set_option maxRecDepth 100000 in
set_option maxHeartbeats 4000000 in
theorem rf_X0_addCustomer {L : hL} {X : hX} {this : Nat} {a1 : Int32} {r : Int32} {X' : hX} (h : f_X0_addCustomer L X this a1 = some (r, X')) : X'.2 = X.2 := by
  unfold f_X0_addCustomer at h
  have F : X.2 = X.2 := rfl
  obtain ⟨r1, e2, h⟩ := hx_bind h
  rcases hx_ite2 h with ⟨c3, h⟩ | ⟨c3, h⟩
  · skip
    obtain ⟨g4, h⟩ := hx_gd h
    obtain ⟨r5, e6, h⟩ := hx_bind h
    rcases hx_ite2 h with ⟨c7, h⟩ | ⟨c7, h⟩
    · skip
      obtain ⟨q8, e9, h⟩ := hx_bind h
      obtain ⟨g10, h⟩ := hx_gd h
      obtain ⟨g11, h⟩ := hx_gd h
      obtain ⟨q12, e13, h⟩ := hx_bind h
      obtain ⟨r14, e15, h⟩ := hx_bind h
      have F := (rf_X1_begin (X' := r14) e15).trans F
      obtain ⟨g16, h⟩ := hx_gd h
      obtain ⟨rfl, rfl⟩ := hx_some2 h
      exact F
    · skip
      obtain ⟨rfl, rfl⟩ := hx_some2 h
      exact F
  · skip
    obtain ⟨rfl, rfl⟩ := hx_some2 h
    exact F
set_option maxRecDepth 100000 in
set_option maxHeartbeats 4000000 in
theorem rf_X1_gain {L : hL} {X : hX} {this : Nat} {a1 : Int32} {X' : hX} (h : f_X1_gain L X this a1 = some X') : X'.2 = X.2 := by
  unfold f_X1_gain at h
  have F : X.2 = X.2 := rfl
  obtain ⟨g1, h⟩ := hx_gd h
  obtain rfl := hx_some1 h
  exact F
set_option maxRecDepth 100000 in
set_option maxHeartbeats 4000000 in
theorem rf_X1_keep {L : hL} {X : hX} {this : Nat} {a1 : Int32} {a2 : Int32} {a3 : Int32} {a4 : Int32} {X' : hX} (h : f_X1_keep L X this a1 a2 a3 a4 = some X') : X'.2 = X.2 := by
  unfold f_X1_keep at h
  have F : X.2 = X.2 := rfl
  obtain ⟨g1, h⟩ := hx_gd h
  obtain rfl := hx_some1 h
  exact F
set_option maxRecDepth 100000 in
set_option maxHeartbeats 4000000 in
theorem rf_X0_weighBundle {L : hL} {X : hX} {this : Nat} {a1 : Int32} {a2 : Int32} {a3 : Int32} {a4 : Int32} {r : Int32} {X' : hX} (h : f_X0_weighBundle L X this a1 a2 a3 a4 = some (r, X')) : X'.2 = X.2 := by
  unfold f_X0_weighBundle at h
  have F : X.2 = X.2 := rfl
  obtain ⟨r1, e2, h⟩ := hx_bind h
  obtain ⟨g3, h⟩ := hx_gd h
  rcases r1 with _ | i4
  · have h := hx_eln h
    obtain ⟨r5, e6, h⟩ := hx_bind h
    rcases r5 with _ | i7
    · have h := hx_eln h
      obtain ⟨rfl, rfl⟩ := hx_some2 h
      exact F
    · have h := hx_els h
      obtain ⟨rfl, rfl⟩ := hx_some2 h
      exact F
  · have h := hx_els h
    obtain ⟨r8, e9, h⟩ := hx_bind h
    rcases r8 with _ | i10
    · have h := hx_eln h
      obtain ⟨rfl, rfl⟩ := hx_some2 h
      exact F
    · have h := hx_els h
      obtain ⟨r11, e12, h⟩ := hx_bind h
      rcases hx_ite2 h with ⟨c13, h⟩ | ⟨c13, h⟩
      · skip
        obtain ⟨g14, h⟩ := hx_gd h
        obtain ⟨r15, e16, h⟩ := hx_bind h
        rcases hx_ite2 h with ⟨c17, h⟩ | ⟨c17, h⟩
        · skip
          obtain ⟨q18, e19, h⟩ := hx_bind h
          obtain ⟨g20, h⟩ := hx_gd h
          obtain ⟨r21, e22, h⟩ := hx_bind h
          obtain ⟨r23, e24, h⟩ := hx_bind h
          obtain ⟨r25, e26, h⟩ := hx_bind h
          have F := (rf_X1_gain (X' := r25) e26).trans F
          obtain ⟨g27, h⟩ := hx_gd h
          obtain ⟨r28, e29, h⟩ := hx_bind h
          have F := (rf_X1_keep (X' := r28) e29).trans F
          obtain ⟨rfl, rfl⟩ := hx_some2 h
          exact F
        · skip
          obtain ⟨rfl, rfl⟩ := hx_some2 h
          exact F
      · skip
        obtain ⟨rfl, rfl⟩ := hx_some2 h
        exact F
set_option maxRecDepth 100000 in
set_option maxHeartbeats 4000000 in
theorem rf_X0_settleClaim {L : hL} {X : hX} {this : Nat} {a1 : Int32} {a2 : Int32} {r : Int32} {X' : hX} (h : f_X0_settleClaim L X this a1 a2 = some (r, X')) : X'.2 = X.2 := by
  unfold f_X0_settleClaim at h
  have F : X.2 = X.2 := rfl
  obtain ⟨r1, e2, h⟩ := hx_bind h
  obtain ⟨g3, h⟩ := hx_gd h
  rcases r1 with _ | i4
  · have h := hx_eln h
    obtain ⟨rfl, rfl⟩ := hx_some2 h
    exact F
  · have h := hx_els h
    obtain ⟨r5, e6, h⟩ := hx_bind h
    rcases hx_ite2 h with ⟨c7, h⟩ | ⟨c7, h⟩
    · skip
      obtain ⟨g8, h⟩ := hx_gd h
      rcases hx_ite h with ⟨c9, h⟩ | ⟨c9, h⟩
      · skip
        obtain ⟨rfl, rfl⟩ := hx_some2 h
        exact F
      · skip
        rcases hx_ite2 h with ⟨c10, h⟩ | ⟨c10, h⟩
        · skip
          obtain ⟨r11, e12, h⟩ := hx_bind h
          rcases r11 with _ | i13
          · have h := hx_eln h
            obtain ⟨rfl, rfl⟩ := hx_some2 h
            exact F
          · have h := hx_els h
            obtain ⟨r14, e15, h⟩ := hx_bind h
            rcases hx_ite2 h with ⟨c16, h⟩ | ⟨c16, h⟩
            · skip
              obtain ⟨r17, e18, h⟩ := hx_bind h
              have F := (rf_X1_gain (X' := r17) e18).trans F
              obtain ⟨r19, e20, h⟩ := hx_bind h
              rcases hx_ite h with ⟨c21, h⟩ | ⟨c21, h⟩
              · skip
                obtain ⟨r22, e23, h⟩ := hx_bind h
                have F := (rf_X1_gain (X' := r22) e23).trans F
                obtain ⟨rfl, rfl⟩ := hx_some2 h
                exact F
              · skip
                obtain ⟨rfl, rfl⟩ := hx_some2 h
                exact F
            · skip
              obtain ⟨rfl, rfl⟩ := hx_some2 h
              exact F
        · skip
          obtain ⟨rfl, rfl⟩ := hx_some2 h
          exact F
    · skip
      obtain ⟨rfl, rfl⟩ := hx_some2 h
      exact F
set_option maxRecDepth 100000 in
set_option maxHeartbeats 4000000 in
theorem rf_X5_begin {L : hL} {X : hX} {this : Nat} {a1 : Int32} {a2 : Int32} {a3 : Int32} {a4 : Int32} {a5 : Int32} {X' : hX} (h : f_X5_begin L X this a1 a2 a3 a4 a5 = some X') : X'.2 = X.2 := by
  unfold f_X5_begin at h
  have F : X.2 = X.2 := rfl
  obtain ⟨g1, h⟩ := hx_gd h
  obtain rfl := hx_some1 h
  exact F
set_option maxRecDepth 100000 in
set_option maxHeartbeats 4000000 in
theorem rf_X0_placePrize {L : hL} {X : hX} {this : Nat} {a1 : Int32} {a2 : Int32} {a3 : Int32} {a4 : Int32} {a5 : Int32} {r : Int32} {X' : hX} (h : f_X0_placePrize L X this a1 a2 a3 a4 a5 = some (r, X')) : X'.2 = X.2 := by
  unfold f_X0_placePrize at h
  have F : X.2 = X.2 := rfl
  obtain ⟨r1, e2, h⟩ := hx_bind h
  rcases hx_ite h with ⟨c3, h⟩ | ⟨c3, h⟩
  · skip
    obtain ⟨rfl, rfl⟩ := hx_some2 h
    exact F
  · skip
    obtain ⟨r4, e5, h⟩ := hx_bind h
    rcases hx_ite h with ⟨c6, h⟩ | ⟨c6, h⟩
    · skip
      obtain ⟨rfl, rfl⟩ := hx_some2 h
      exact F
    · skip
      obtain ⟨r7, e8, h⟩ := hx_bind h
      rcases hx_ite2 h with ⟨c9, h⟩ | ⟨c9, h⟩
      · skip
        obtain ⟨r10, e11, h⟩ := hx_bind h
        rcases hx_ite h with ⟨c12, h⟩ | ⟨c12, h⟩
        · skip
          obtain ⟨rfl, rfl⟩ := hx_some2 h
          exact F
        · skip
          obtain ⟨r13, e14, h⟩ := hx_bind h
          rcases hx_ite2 h with ⟨c15, h⟩ | ⟨c15, h⟩
          · skip
            obtain ⟨g16, h⟩ := hx_gd h
            obtain ⟨r17, e18, h⟩ := hx_bind h
            rcases hx_ite2 h with ⟨c19, h⟩ | ⟨c19, h⟩
            · skip
              obtain ⟨q20, e21, h⟩ := hx_bind h
              obtain ⟨g22, h⟩ := hx_gd h
              obtain ⟨g23, h⟩ := hx_gd h
              obtain ⟨q24, e25, h⟩ := hx_bind h
              obtain ⟨r26, e27, h⟩ := hx_bind h
              have F := (rf_X5_begin (X' := r26) e27).trans F
              obtain ⟨g28, h⟩ := hx_gd h
              obtain ⟨rfl, rfl⟩ := hx_some2 h
              exact F
            · skip
              obtain ⟨rfl, rfl⟩ := hx_some2 h
              exact F
          · skip
            obtain ⟨rfl, rfl⟩ := hx_some2 h
            exact F
      · skip
        obtain ⟨rfl, rfl⟩ := hx_some2 h
        exact F
set_option maxRecDepth 100000 in
set_option maxHeartbeats 4000000 in
theorem rf_X5_sell {L : hL} {X : hX} {this : Nat} {a1 : Int32} {X' : hX} (h : f_X5_sell L X this a1 = some X') : X'.2 = X.2 := by
  unfold f_X5_sell at h
  have F : X.2 = X.2 := rfl
  obtain ⟨g1, h⟩ := hx_gd h
  obtain ⟨r2, e3, h⟩ := hx_bind h
  obtain ⟨r4, e5, h⟩ := hx_bind h
  obtain rfl := hx_some1 h
  exact F
set_option maxRecDepth 100000 in
set_option maxHeartbeats 4000000 in
theorem rf_X0_sellPrize {L : hL} {X : hX} {this : Nat} {a1 : Int32} {a2 : Int32} {a3 : Int32} {r : Int32} {X' : hX} (h : f_X0_sellPrize L X this a1 a2 a3 = some (r, X')) : X'.2 = X.2 := by
  unfold f_X0_sellPrize at h
  have F : X.2 = X.2 := rfl
  obtain ⟨r1, e2, h⟩ := hx_bind h
  obtain ⟨g3, h⟩ := hx_gd h
  rcases r1 with _ | i4
  · have h := hx_eln h
    obtain ⟨r5, e6, h⟩ := hx_bind h
    rcases r5 with _ | i7
    · have h := hx_eln h
      obtain ⟨rfl, rfl⟩ := hx_some2 h
      exact F
    · have h := hx_els h
      obtain ⟨rfl, rfl⟩ := hx_some2 h
      exact F
  · have h := hx_els h
    obtain ⟨r8, e9, h⟩ := hx_bind h
    rcases r8 with _ | i10
    · have h := hx_eln h
      obtain ⟨rfl, rfl⟩ := hx_some2 h
      exact F
    · have h := hx_els h
      obtain ⟨r11, e12, h⟩ := hx_bind h
      rcases hx_ite2 h with ⟨c13, h⟩ | ⟨c13, h⟩
      · skip
        obtain ⟨g14, h⟩ := hx_gd h
        obtain ⟨g15, h⟩ := hx_gd h
        rcases hx_ite h with ⟨c16, h⟩ | ⟨c16, h⟩
        · skip
          rcases hx_ite h with ⟨c17, h⟩ | ⟨c17, h⟩
          · skip
            obtain ⟨r18, e19, h⟩ := hx_bind h
            have F := (rf_X5_sell (X' := r18) e19).trans F
            obtain ⟨rfl, rfl⟩ := hx_some2 h
            exact F
          · skip
            obtain ⟨rfl, rfl⟩ := hx_some2 h
            exact F
        · skip
          obtain ⟨rfl, rfl⟩ := hx_some2 h
          exact F
      · skip
        obtain ⟨rfl, rfl⟩ := hx_some2 h
        exact F
set_option maxRecDepth 100000 in
set_option maxHeartbeats 4000000 in
theorem rf_X8_copyFrom_54 {L : hL} (k13 : Nat → Nat → Int32 → hX → Option (hX)) (hk13 : ∀ (v0 : Nat) (v1 : Nat) (v2 : Int32) (X : hX) (X' : hX), k13 v0 v1 v2 X = some X' → X'.2 = X.2) : ∀ (v0 : Nat) (v1 : Nat) (v2 : Int32) (X : hX) (X' : hX), f_X8_copyFrom_54 L k13 v0 v1 v2 X = some X' → X'.2 = X.2 := by
  intro v0 v1 v2 X X' h
  unfold f_X8_copyFrom_54 at h
  have F : X.2 = X.2 := rfl
  exact (hk13 v0 v1 (v2 + 1) X _ h).trans F
set_option maxRecDepth 100000 in
set_option maxHeartbeats 4000000 in
theorem rf_X8_copyFrom_13 {L : hL} : ∀ (n : Nat) (v0 : Nat) (v1 : Nat) (v2 : Int32) (X : hX) (X' : hX), f_X8_copyFrom_13 L n v0 v1 v2 X = some X' → X'.2 = X.2 := by
  intro n
  induction n with
  | zero => intro v0 v1 v2 X X' h; cases h
  | succ n ih =>
    intro v0 v1 v2 X X' h
    rw [f_X8_copyFrom_13] at h
    have F : X.2 = X.2 := rfl
    rcases hx_ite h with ⟨c1, h⟩ | ⟨c1, h⟩
    · skip
      obtain rfl := hx_some1 h
      exact F
    · skip
      obtain ⟨g2, h⟩ := hx_gd h
      obtain ⟨q3, e4, h⟩ := hx_bind h
      obtain ⟨g5, h⟩ := hx_gd h
      obtain ⟨q6, e7, h⟩ := hx_bind h
      obtain ⟨g8, h⟩ := hx_gd h
      obtain ⟨g9, h⟩ := hx_gd h
      obtain ⟨g10, h⟩ := hx_gd h
      obtain ⟨g11, h⟩ := hx_gd h
      rcases hx_ite h with ⟨c12, h⟩ | ⟨c12, h⟩
      · skip
        exact (rf_X8_copyFrom_54 (f_X8_copyFrom_13 L n) ih v0 v1 v2 (smi X q3 (Int32.toNatClampNeg v2) (vp_nar .boolean (X.1 q6 (Int32.toNatClampNeg v2)))) _ h).trans F
      · skip
        obtain ⟨q13, e14, h⟩ := hx_bind h
        obtain ⟨g15, h⟩ := hx_gd h
        obtain ⟨g16, h⟩ := hx_gd h
        obtain ⟨q17, e18, h⟩ := hx_bind h
        obtain ⟨q19, e20, h⟩ := hx_bind h
        obtain ⟨g21, h⟩ := hx_gd h
        obtain ⟨g22, h⟩ := hx_gd h
        obtain ⟨q23, e24, h⟩ := hx_bind h
        obtain ⟨r25, e26, h⟩ := hx_bind h
        have F := (rf_X0_copyFrom (X' := r25) e26).trans F
        obtain ⟨g27, h⟩ := hx_gd h
        exact (rf_X8_copyFrom_54 (f_X8_copyFrom_13 L n) ih v0 v1 v2 r25 _ h).trans F
set_option maxRecDepth 100000 in
set_option maxHeartbeats 4000000 in
theorem rf_X8_copyFrom {L : hL} {X : hX} {this : Nat} {a1 : Nat} {X' : hX} (h : f_X8_copyFrom L X this a1 = some X') : X'.2 = X.2 := by
  unfold f_X8_copyFrom at h
  have F : X.2 = X.2 := rfl
  obtain ⟨g28, h⟩ := hx_gd h
  obtain ⟨q29, e30, h⟩ := hx_bind h
  obtain ⟨g31, h⟩ := hx_gd h
  obtain ⟨q32, e33, h⟩ := hx_bind h
  obtain ⟨r34, e35, h⟩ := hx_bind h
  have F := (rf_X0_copyFrom (X' := r34) e35).trans F
  obtain ⟨g36, h⟩ := hx_gd h
  exact (rf_X8_copyFrom_13 u_fuel this a1 0 r34 _ h).trans F
set_option maxRecDepth 100000 in
set_option maxHeartbeats 4000000 in
theorem rf_X3_prepare {L : hL} {X : hX} {this : Nat} {X' : hX} (h : f_X3_prepare L X this = some X') : X'.2 = X.2 := by
  unfold f_X3_prepare at h
  have F : X.2 = X.2 := rfl
  obtain ⟨g1, h⟩ := hx_gd h
  obtain ⟨q2, e3, h⟩ := hx_bind h
  obtain ⟨q4, e5, h⟩ := hx_bind h
  obtain ⟨r6, e7, h⟩ := hx_bind h
  have F := (rf_X8_copyFrom (X' := r6) e7).trans F
  obtain ⟨g8, h⟩ := hx_gd h
  obtain rfl := hx_some1 h
  exact F
set_option maxRecDepth 100000 in
set_option maxHeartbeats 4000000 in
theorem rf_X5_sellOut_2 {L : hL} : ∀ (n : Nat) (v0 : Nat) (v1 : Int32) (X : hX) (r : Int32) (X' : hX), f_X5_sellOut_2 L n v0 v1 X = some (r, X') → X'.2 = X.2 := by
  intro n
  induction n with
  | zero => intro v0 v1 X r X' h; cases h
  | succ n ih =>
    intro v0 v1 X r X' h
    rw [f_X5_sellOut_2] at h
    have F : X.2 = X.2 := rfl
    rcases hx_ite h with ⟨c1, h⟩ | ⟨c1, h⟩
    · skip
      obtain ⟨rfl, rfl⟩ := hx_some2 h
      exact F
    · skip
      obtain ⟨g2, h⟩ := hx_gd h
      rcases hx_ite2 h with ⟨c3, h⟩ | ⟨c3, h⟩
      · skip
        obtain ⟨r4, e5, h⟩ := hx_bind h
        have F := (rf_X5_sell (X' := r4) e5).trans F
        exact (ih v0 (v1 + 1) r4 _ _ h).trans F
      · skip
        obtain ⟨rfl, rfl⟩ := hx_some2 h
        exact F
set_option maxRecDepth 100000 in
set_option maxHeartbeats 4000000 in
theorem rf_X5_sellOut {L : hL} {X : hX} {this : Nat} {r : Int32} {X' : hX} (h : f_X5_sellOut L X this = some (r, X')) : X'.2 = X.2 := by
  unfold f_X5_sellOut at h
  have F : X.2 = X.2 := rfl
  exact (rf_X5_sellOut_2 u_fuel this 0 X _ _ h).trans F
set_option maxRecDepth 100000 in
set_option maxHeartbeats 4000000 in
theorem rf_X9_soldOut {L : hL} {X : hX} {this : Nat} {a1 : Int32} {r : Int32} {X' : hX} (h : f_X9_soldOut L X this a1 = some (r, X')) : X'.2 = X.2 := by
  unfold f_X9_soldOut at h
  have F : X.2 = X.2 := rfl
  obtain ⟨r1, e2, h⟩ := hx_bind h
  obtain ⟨g3, h⟩ := hx_gd h
  rcases r1 with _ | i4
  · have h := hx_eln h
    cases h
  · have h := hx_els h
    obtain ⟨r5, e6, h⟩ := hx_bind h
    obtain ⟨g7, h⟩ := hx_gd h
    rcases r5 with _ | i8
    · have h := hx_eln h
      obtain ⟨rfl, rfl⟩ := hx_some2 h
      exact F
    · have h := hx_els h
      obtain ⟨q9, e10, h⟩ := hx_bind h
      obtain ⟨r11, e12, h⟩ := hx_bind h
      have F := (rf_X5_copyFrom (X' := r11) e12).trans F
      obtain ⟨g13, h⟩ := hx_gd h
      obtain ⟨q14, e15, h⟩ := hx_bind h
      obtain ⟨r16, e17, h⟩ := hx_bind h
      have F := (rf_X5_sellOut (r := r16.1) (X' := r16.2) e17).trans F
      obtain ⟨g18, h⟩ := hx_gd h
      obtain ⟨rfl, rfl⟩ := hx_some2 h
      exact F
