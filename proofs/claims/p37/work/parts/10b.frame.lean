set_option maxRecDepth 100000 in
set_option maxHeartbeats 4000000 in
theorem fr_X0_placePrize {P : Nat → Prop} {L : hL} {X : hX} {this : Nat} {a1 : Int32} {a2 : Int32} {a3 : Int32} {a4 : Int32} {a5 : Int32} {r : Int32} {X' : hX} (h : f_X0_placePrize L X this a1 a2 a3 a4 a5 = some (r, X')) (hcl : Cl P X) (p_this : P this) : FR P X X' := by
  unfold f_X0_placePrize at h
  have F := FR.rf hcl
  obtain ⟨r1, e2, h⟩ := hx_bind h
  rcases hx_ite h with ⟨c3, h⟩ | ⟨c3, h⟩
  · skip
    obtain ⟨rfl, rfl⟩ := hx_some2 h
    exact F
  · skip
    obtain ⟨r4, e5, h⟩ := hx_bind h
    rcases hx_ite h with ⟨c6, h⟩ | ⟨c6, h⟩
    · skip
      obtain ⟨rfl, rfl⟩ := hx_some2 h
      exact F
    · skip
      obtain ⟨r7, e8, h⟩ := hx_bind h
      rcases hx_ite2 h with ⟨c9, h⟩ | ⟨c9, h⟩
      · skip
        obtain ⟨r10, e11, h⟩ := hx_bind h
        rcases hx_ite h with ⟨c12, h⟩ | ⟨c12, h⟩
        · skip
          obtain ⟨rfl, rfl⟩ := hx_some2 h
          exact F
        · skip
          obtain ⟨r13, e14, h⟩ := hx_bind h
          rcases hx_ite2 h with ⟨c15, h⟩ | ⟨c15, h⟩
          · skip
            obtain ⟨g16, h⟩ := hx_gd h
            obtain ⟨r17, e18, h⟩ := hx_bind h
            rcases hx_ite2 h with ⟨c19, h⟩ | ⟨c19, h⟩
            · skip
              obtain ⟨q20, e21, h⟩ := hx_bind h
              have p_q20 := F.1 _ _ _ p_this e21
              obtain ⟨g22, h⟩ := hx_gd h
              obtain ⟨g23, h⟩ := hx_gd h
              obtain ⟨q24, e25, h⟩ := hx_bind h
              have p_q24 := F.1 _ _ _ p_q20 e25
              obtain ⟨r26, e27, h⟩ := hx_bind h
              have F := F.tr (fr_X5_begin (X' := r26) e27 F.1 p_q24)
              obtain ⟨g28, h⟩ := hx_gd h
              obtain ⟨rfl, rfl⟩ := hx_some2 h
              exact (FR.smi F p_this)
            · skip
              obtain ⟨rfl, rfl⟩ := hx_some2 h
              exact F
          · skip
            obtain ⟨rfl, rfl⟩ := hx_some2 h
            exact F
      · skip
        obtain ⟨rfl, rfl⟩ := hx_some2 h
        exact F
set_option maxRecDepth 100000 in
set_option maxHeartbeats 4000000 in
theorem fr_X5_sell {P : Nat → Prop} {L : hL} {X : hX} {this : Nat} {a1 : Int32} {X' : hX} (h : f_X5_sell L X this a1 = some X') (hcl : Cl P X) (p_this : P this) : FR P X X' := by
  unfold f_X5_sell at h
  have F := FR.rf hcl
  obtain ⟨g1, h⟩ := hx_gd h
  obtain ⟨r2, e3, h⟩ := hx_bind h
  obtain ⟨r4, e5, h⟩ := hx_bind h
  obtain rfl := hx_some1 h
  exact (FR.smi (FR.smi (FR.smi (FR.smi (FR.smi F p_this) p_this) p_this) p_this) p_this)
set_option maxRecDepth 100000 in
set_option maxHeartbeats 4000000 in
theorem fr_X0_sellPrize {P : Nat → Prop} {L : hL} {X : hX} {this : Nat} {a1 : Int32} {a2 : Int32} {a3 : Int32} {r : Int32} {X' : hX} (h : f_X0_sellPrize L X this a1 a2 a3 = some (r, X')) (hcl : Cl P X) (p_this : P this) : FR P X X' := by
  unfold f_X0_sellPrize at h
  have F := FR.rf hcl
  obtain ⟨r1, e2, h⟩ := hx_bind h
  have pr_r1 := pr_X0_customerAt e2 F.1 p_this
  obtain ⟨g3, h⟩ := hx_gd h
  rcases r1 with _ | i4
  · have h := hx_eln h
    obtain ⟨r5, e6, h⟩ := hx_bind h
    have pr_r5 := pr_X0_prizeAt e6 F.1 p_this
    rcases r5 with _ | i7
    · have h := hx_eln h
      obtain ⟨rfl, rfl⟩ := hx_some2 h
      exact F
    · have h := hx_els h
      have p_i7 := pr_r5 _ rfl
      obtain ⟨rfl, rfl⟩ := hx_some2 h
      exact F
  · have h := hx_els h
    have p_i4 := pr_r1 _ rfl
    obtain ⟨r8, e9, h⟩ := hx_bind h
    have pr_r8 := pr_X0_prizeAt e9 F.1 p_this
    rcases r8 with _ | i10
    · have h := hx_eln h
      obtain ⟨rfl, rfl⟩ := hx_some2 h
      exact F
    · have h := hx_els h
      have p_i10 := pr_r8 _ rfl
      obtain ⟨r11, e12, h⟩ := hx_bind h
      rcases hx_ite2 h with ⟨c13, h⟩ | ⟨c13, h⟩
      · skip
        obtain ⟨g14, h⟩ := hx_gd h
        obtain ⟨g15, h⟩ := hx_gd h
        rcases hx_ite h with ⟨c16, h⟩ | ⟨c16, h⟩
        · skip
          rcases hx_ite h with ⟨c17, h⟩ | ⟨c17, h⟩
          · skip
            obtain ⟨r18, e19, h⟩ := hx_bind h
            have F : FR P X (smi X i4 0 ((X.1 i4 0) - (a3 * (X.1 i10 0)))) := (FR.smi F p_i4)
            have F := F.tr (fr_X5_sell (X' := r18) e19 F.1 p_i10)
            obtain ⟨rfl, rfl⟩ := hx_some2 h
            exact F
          · skip
            obtain ⟨rfl, rfl⟩ := hx_some2 h
            exact F
        · skip
          obtain ⟨rfl, rfl⟩ := hx_some2 h
          exact F
      · skip
        obtain ⟨rfl, rfl⟩ := hx_some2 h
        exact F
set_option maxRecDepth 100000 in
set_option maxHeartbeats 4000000 in
theorem fr_X8_copyFrom_54 {P : Nat → Prop} {L : hL} (k13 : Nat → Nat → Int32 → hX → Option (hX)) (hk13 : ∀ (v0 : Nat) (v1 : Nat) (v2 : Int32) (X : hX) (X' : hX), k13 v0 v1 v2 X = some X' → Cl P X → P v0 → P v1 → FR P X X') : ∀ (v0 : Nat) (v1 : Nat) (v2 : Int32) (X : hX) (X' : hX), f_X8_copyFrom_54 L k13 v0 v1 v2 X = some X' → Cl P X → P v0 → P v1 → FR P X X' := by
  intro v0 v1 v2 X X' h hcl p_v0 p_v1
  unfold f_X8_copyFrom_54 at h
  have F := FR.rf hcl
  exact FR.tr F (hk13 v0 v1 (v2 + 1) X _ h (FR.tr F (FR.rf F.1)).1 p_v0 p_v1)
set_option maxRecDepth 100000 in
set_option maxHeartbeats 4000000 in
theorem fr_X8_copyFrom_13 {P : Nat → Prop} {L : hL} : ∀ (n : Nat) (v0 : Nat) (v1 : Nat) (v2 : Int32) (X : hX) (X' : hX), f_X8_copyFrom_13 L n v0 v1 v2 X = some X' → Cl P X → P v0 → P v1 → FR P X X' := by
  intro n
  induction n with
  | zero => intro v0 v1 v2 X X' h; cases h
  | succ n ih =>
    intro v0 v1 v2 X X' h hcl p_v0 p_v1
    rw [f_X8_copyFrom_13] at h
    have F := FR.rf hcl
    rcases hx_ite h with ⟨c1, h⟩ | ⟨c1, h⟩
    · skip
      obtain rfl := hx_some1 h
      exact F
    · skip
      obtain ⟨g2, h⟩ := hx_gd h
      obtain ⟨q3, e4, h⟩ := hx_bind h
      have p_q3 := F.1 _ _ _ p_v0 e4
      obtain ⟨g5, h⟩ := hx_gd h
      obtain ⟨q6, e7, h⟩ := hx_bind h
      have p_q6 := F.1 _ _ _ p_v1 e7
      obtain ⟨g8, h⟩ := hx_gd h
      obtain ⟨g9, h⟩ := hx_gd h
      obtain ⟨g10, h⟩ := hx_gd h
      obtain ⟨g11, h⟩ := hx_gd h
      rcases hx_ite h with ⟨c12, h⟩ | ⟨c12, h⟩
      · skip
        exact FR.tr (FR.smi F p_q3) (fr_X8_copyFrom_54 (f_X8_copyFrom_13 L n) ih v0 v1 v2 (smi X q3 (Int32.toNatClampNeg v2) (vp_nar .boolean (X.1 q6 (Int32.toNatClampNeg v2)))) _ h ((FR.smi F p_q3)).1 p_v0 p_v1)
      · skip
        obtain ⟨q13, e14, h⟩ := hx_bind h
        have p_q13 := F.1 _ _ _ p_v0 e14
        obtain ⟨g15, h⟩ := hx_gd h
        obtain ⟨g16, h⟩ := hx_gd h
        obtain ⟨q17, e18, h⟩ := hx_bind h
        have p_q17 := F.1 _ _ _ p_q13 e18
        obtain ⟨q19, e20, h⟩ := hx_bind h
        have p_q19 := F.1 _ _ _ p_v1 e20
        obtain ⟨g21, h⟩ := hx_gd h
        obtain ⟨g22, h⟩ := hx_gd h
        obtain ⟨q23, e24, h⟩ := hx_bind h
        have p_q23 := F.1 _ _ _ p_q19 e24
        obtain ⟨r25, e26, h⟩ := hx_bind h
        have F : FR P X (smi X q3 (Int32.toNatClampNeg v2) (vp_nar .boolean (X.1 q6 (Int32.toNatClampNeg v2)))) := (FR.smi F p_q3)
        have F := F.tr (fr_X0_copyFrom (X' := r25) e26 F.1 p_q17 p_q23)
        obtain ⟨g27, h⟩ := hx_gd h
        exact FR.tr F (fr_X8_copyFrom_54 (f_X8_copyFrom_13 L n) ih v0 v1 v2 r25 _ h (FR.tr F (FR.rf F.1)).1 p_v0 p_v1)
set_option maxRecDepth 100000 in
set_option maxHeartbeats 4000000 in
theorem fr_X8_copyFrom {P : Nat → Prop} {L : hL} {X : hX} {this : Nat} {a1 : Nat} {X' : hX} (h : f_X8_copyFrom L X this a1 = some X') (hcl : Cl P X) (p_this : P this) (p_a1 : P a1) : FR P X X' := by
  unfold f_X8_copyFrom at h
  have F := FR.rf hcl
  obtain ⟨g28, h⟩ := hx_gd h
  obtain ⟨q29, e30, h⟩ := hx_bind h
  have p_q29 := F.1 _ _ _ p_this e30
  obtain ⟨g31, h⟩ := hx_gd h
  obtain ⟨q32, e33, h⟩ := hx_bind h
  have p_q32 := F.1 _ _ _ p_a1 e33
  obtain ⟨r34, e35, h⟩ := hx_bind h
  have F := F.tr (fr_X0_copyFrom (X' := r34) e35 F.1 p_q29 p_q32)
  obtain ⟨g36, h⟩ := hx_gd h
  exact FR.tr F (fr_X8_copyFrom_13 u_fuel this a1 0 r34 _ h (FR.tr F (FR.rf F.1)).1 p_this p_a1)
set_option maxRecDepth 100000 in
set_option maxHeartbeats 4000000 in
theorem fr_X3_prepare {P : Nat → Prop} {L : hL} {X : hX} {this : Nat} {X' : hX} (h : f_X3_prepare L X this = some X') (hcl : Cl P X) (p_this : P this) : FR P X X' := by
  unfold f_X3_prepare at h
  have F := FR.rf hcl
  obtain ⟨g1, h⟩ := hx_gd h
  obtain ⟨q2, e3, h⟩ := hx_bind h
  have p_q2 := F.1 _ _ _ p_this e3
  obtain ⟨q4, e5, h⟩ := hx_bind h
  have p_q4 := F.1 _ _ _ p_this e5
  obtain ⟨r6, e7, h⟩ := hx_bind h
  have F := F.tr (fr_X8_copyFrom (X' := r6) e7 F.1 p_q2 p_q4)
  obtain ⟨g8, h⟩ := hx_gd h
  obtain rfl := hx_some1 h
  exact F
set_option maxRecDepth 100000 in
set_option maxHeartbeats 4000000 in
theorem fr_X3_dropOldest_9 {P : Nat → Prop} {L : hL} : ∀ (n : Nat) (v0 : Nat) (v1 : Nat) (v2 : Int32) (X : hX) (X' : hX), f_X3_dropOldest_9 L n v0 v1 v2 X = some X' → Cl P X → P v0 → P v1 → FR P X X' := by
  intro n
  induction n with
  | zero => intro v0 v1 v2 X X' h; cases h
  | succ n ih =>
    intro v0 v1 v2 X X' h hcl p_v0 p_v1
    rw [f_X3_dropOldest_9] at h
    have F := FR.rf hcl
    rcases hx_ite h with ⟨c1, h⟩ | ⟨c1, h⟩
    · skip
      obtain ⟨g2, h⟩ := hx_gd h
      obtain ⟨q3, e4, h⟩ := hx_bind h
      have p_q3 := F.1 _ _ _ p_v0 e4
      obtain ⟨g5, h⟩ := hx_gd h
      obtain ⟨g6, h⟩ := hx_gd h
      obtain ⟨g7, h⟩ := hx_gd h
      have F : FR P X (smr X q3 4 (some v1)) := (FR.smr F p_q3 p_v1)
      obtain rfl := hx_some1 h
      exact (FR.smi F p_v0)
    · skip
      obtain ⟨g8, h⟩ := hx_gd h
      obtain ⟨q9, e10, h⟩ := hx_bind h
      have p_q9 := F.1 _ _ _ p_v0 e10
      obtain ⟨g11, h⟩ := hx_gd h
      obtain ⟨g12, h⟩ := hx_gd h
      obtain ⟨q13, e14, h⟩ := hx_bind h
      have p_q13 := F.1 _ _ _ p_q9 e14
      obtain ⟨g15, h⟩ := hx_gd h
      obtain ⟨g16, h⟩ := hx_gd h
      have F : FR P X (smr X q9 (Int32.toNatClampNeg v2) (some q13)) := (FR.smr F p_q9 p_q13)
      exact FR.tr F (ih v0 v1 (v2 + 1) (smr X q9 (Int32.toNatClampNeg v2) (some q13)) _ h (FR.tr F (FR.rf F.1)).1 p_v0 p_v1)
set_option maxRecDepth 100000 in
set_option maxHeartbeats 4000000 in
theorem fr_X3_dropOldest {P : Nat → Prop} {L : hL} {X : hX} {this : Nat} {X' : hX} (h : f_X3_dropOldest L X this = some X') (hcl : Cl P X) (p_this : P this) : FR P X X' := by
  unfold f_X3_dropOldest at h
  have F := FR.rf hcl
  obtain ⟨g17, h⟩ := hx_gd h
  obtain ⟨q18, e19, h⟩ := hx_bind h
  have p_q18 := F.1 _ _ _ p_this e19
  obtain ⟨g20, h⟩ := hx_gd h
  obtain ⟨g21, h⟩ := hx_gd h
  obtain ⟨q22, e23, h⟩ := hx_bind h
  have p_q22 := F.1 _ _ _ p_q18 e23
  exact FR.tr F (fr_X3_dropOldest_9 u_fuel this q22 0 X _ h (FR.tr F (FR.rf F.1)).1 p_this p_q22)
set_option maxRecDepth 100000 in
set_option maxHeartbeats 4000000 in
theorem fr_X3_recordSpare_12 {P : Nat → Prop} {L : hL} : ∀ (v0 : Nat) (X : hX) (X' : hX), f_X3_recordSpare_12 L v0 X = some X' → Cl P X → P v0 → FR P X X' := by
  intro v0 X X' h hcl p_v0
  unfold f_X3_recordSpare_12 at h
  have F := FR.rf hcl
  obtain ⟨g1, h⟩ := hx_gd h
  obtain ⟨r2, e3, h⟩ := hx_bind h
  rcases hx_ite h with ⟨c4, h⟩ | ⟨c4, h⟩
  · skip
    obtain rfl := hx_some1 h
    exact F
  · skip
    obtain ⟨q5, e6, h⟩ := hx_bind h
    have p_q5 := F.1 _ _ _ p_v0 e6
    obtain ⟨g7, h⟩ := hx_gd h
    obtain ⟨g8, h⟩ := hx_gd h
    obtain ⟨q9, e10, h⟩ := hx_bind h
    have p_q9 := F.1 _ _ _ p_q5 e10
    obtain ⟨q11, e12, h⟩ := hx_bind h
    have p_q11 := F.1 _ _ _ p_v0 e12
    obtain ⟨g13, h⟩ := hx_gd h
    have F : FR P X (smr X q5 (Int32.toNatClampNeg (X.1 v0 3)) (some q11)) := (FR.smr F p_q5 p_q11)
    have F : FR P X (smr (smr X q5 (Int32.toNatClampNeg (X.1 v0 3)) (some q11)) v0 2 (some q9)) := (FR.smr F p_v0 p_q9)
    obtain rfl := hx_some1 h
    exact (FR.smi F p_v0)
set_option maxRecDepth 100000 in
set_option maxHeartbeats 4000000 in
theorem fr_X3_recordSpare {P : Nat → Prop} {L : hL} {X : hX} {this : Nat} {X' : hX} (h : f_X3_recordSpare L X this = some X') (hcl : Cl P X) (p_this : P this) : FR P X X' := by
  unfold f_X3_recordSpare at h
  have F := FR.rf hcl
  obtain ⟨g14, h⟩ := hx_gd h
  rcases hx_ite h with ⟨c15, h⟩ | ⟨c15, h⟩
  · skip
    exact FR.tr F (fr_X3_recordSpare_12 this X _ h (FR.tr F (FR.rf F.1)).1 p_this)
  · skip
    obtain ⟨r16, e17, h⟩ := hx_bind h
    have F := F.tr (fr_X3_dropOldest (X' := r16) e17 F.1 p_this)
    exact FR.tr F (fr_X3_recordSpare_12 this r16 _ h (FR.tr F (FR.rf F.1)).1 p_this)
set_option maxRecDepth 100000 in
set_option maxHeartbeats 4000000 in
theorem fr_X3_settle {P : Nat → Prop} {L : hL} {X : hX} {this : Nat} {a1 : Int32} {r : Int32} {X' : hX} (h : f_X3_settle L X this a1 = some (r, X')) (hcl : Cl P X) (p_this : P this) : FR P X X' := by
  unfold f_X3_settle at h
  have F := FR.rf hcl
  obtain ⟨r1, e2, h⟩ := hx_bind h
  rcases hx_ite2 h with ⟨c3, h⟩ | ⟨c3, h⟩
  · skip
    obtain ⟨rfl, rfl⟩ := hx_some2 h
    exact F
  · skip
    obtain ⟨r4, e5, h⟩ := hx_bind h
    have F := F.tr (fr_X3_recordSpare (X' := r4) e5 F.1 p_this)
    obtain ⟨g6, h⟩ := hx_gd h
    obtain ⟨rfl, rfl⟩ := hx_some2 h
    exact F
set_option maxRecDepth 100000 in
set_option maxHeartbeats 4000000 in
theorem fr_X3_stepBack {P : Nat → Prop} {L : hL} {X : hX} {this : Nat} {r : Int32} {X' : hX} (h : f_X3_stepBack L X this = some (r, X')) (hcl : Cl P X) (p_this : P this) : FR P X X' := by
  unfold f_X3_stepBack at h
  have F := FR.rf hcl
  obtain ⟨g1, h⟩ := hx_gd h
  obtain ⟨r2, e3, h⟩ := hx_bind h
  rcases hx_ite2 h with ⟨c4, h⟩ | ⟨c4, h⟩
  · skip
    obtain ⟨q5, e6, h⟩ := hx_bind h
    have p_q5 := F.1 _ _ _ p_this e6
    obtain ⟨q7, e8, h⟩ := hx_bind h
    have p_q7 := F.1 _ _ _ p_this e8
    obtain ⟨g9, h⟩ := hx_gd h
    obtain ⟨g10, h⟩ := hx_gd h
    obtain ⟨q11, e12, h⟩ := hx_bind h
    have p_q11 := F.1 _ _ _ p_q7 e12
    have F : FR P X (smr X this 1 (some q11)) := (FR.smr F p_this p_q11)
    obtain ⟨q13, e14, h⟩ := hx_bind h
    have p_q13 := F.1 _ _ _ p_this e14
    obtain ⟨g15, h⟩ := hx_gd h
    obtain ⟨g16, h⟩ := hx_gd h
    obtain ⟨g17, h⟩ := hx_gd h
    have F : FR P X (smr (smr X this 1 (some q11)) q13 (Int32.toNatClampNeg ((X.1 this 3) - 1)) (some q5)) := (FR.smr F p_q13 p_q5)
    obtain ⟨rfl, rfl⟩ := hx_some2 h
    exact (FR.smi F p_this)
  · skip
    obtain ⟨rfl, rfl⟩ := hx_some2 h
    exact F
set_option maxRecDepth 100000 in
set_option maxHeartbeats 4000000 in
theorem fr_X5_sellOut_2 {P : Nat → Prop} {L : hL} : ∀ (n : Nat) (v0 : Nat) (v1 : Int32) (X : hX) (r : Int32) (X' : hX), f_X5_sellOut_2 L n v0 v1 X = some (r, X') → Cl P X → P v0 → FR P X X' := by
  intro n
  induction n with
  | zero => intro v0 v1 X r X' h; cases h
  | succ n ih =>
    intro v0 v1 X r X' h hcl p_v0
    rw [f_X5_sellOut_2] at h
    have F := FR.rf hcl
    rcases hx_ite h with ⟨c1, h⟩ | ⟨c1, h⟩
    · skip
      obtain ⟨rfl, rfl⟩ := hx_some2 h
      exact F
    · skip
      obtain ⟨g2, h⟩ := hx_gd h
      rcases hx_ite2 h with ⟨c3, h⟩ | ⟨c3, h⟩
      · skip
        obtain ⟨r4, e5, h⟩ := hx_bind h
        have F := F.tr (fr_X5_sell (X' := r4) e5 F.1 p_v0)
        exact FR.tr F (ih v0 (v1 + 1) r4 _ _ h (FR.tr F (FR.rf F.1)).1 p_v0)
      · skip
        obtain ⟨rfl, rfl⟩ := hx_some2 h
        exact F
set_option maxRecDepth 100000 in
set_option maxHeartbeats 4000000 in
theorem fr_X5_sellOut {P : Nat → Prop} {L : hL} {X : hX} {this : Nat} {r : Int32} {X' : hX} (h : f_X5_sellOut L X this = some (r, X')) (hcl : Cl P X) (p_this : P this) : FR P X X' := by
  unfold f_X5_sellOut at h
  have F := FR.rf hcl
  exact FR.tr F (fr_X5_sellOut_2 u_fuel this 0 X _ _ h (FR.tr F (FR.rf F.1)).1 p_this)
set_option maxRecDepth 100000 in
set_option maxHeartbeats 4000000 in
theorem pr_X9_counter {P : Nat → Prop} {L : hL} {X : hX} {this : Nat} {r : Option Nat} (h : f_X9_counter L X this = some r) (hcl : Cl P X) (p_this : P this) : ∀ i, r = some i → P i := by
  unfold f_X9_counter at h
  have F := FR.rf hcl
  obtain ⟨g1, h⟩ := hx_gd h
  obtain ⟨q2, e3, h⟩ := hx_bind h
  have p_q2 := F.1 _ _ _ p_this e3
  obtain ⟨g4, h⟩ := hx_gd h
  obtain ⟨q5, e6, h⟩ := hx_bind h
  have p_q5 := F.1 _ _ _ p_q2 e6
  obtain ⟨g7, h⟩ := hx_gd h
  obtain ⟨q8, e9, h⟩ := hx_bind h
  have p_q8 := F.1 _ _ _ p_q5 e9
  obtain rfl := hx_some1 h
  exact fun i hi => by cases hi; exact p_q8
set_option maxRecDepth 100000 in
set_option maxHeartbeats 4000000 in
theorem fr_X9_setKind {P : Nat → Prop} {L : hL} {X : hX} {this : Nat} {a1 : Int32} {a2 : Int32} {a3 : Int32} {r : Int32} {X' : hX} (h : f_X9_setKind L X this a1 a2 a3 = some (r, X')) (hcl : Cl P X) (p_this : P this) : FR P X X' := by
  unfold f_X9_setKind at h
  have F := FR.rf hcl
  obtain ⟨g1, h⟩ := hx_gd h
  obtain ⟨q2, e3, h⟩ := hx_bind h
  have p_q2 := F.1 _ _ _ p_this e3
  obtain ⟨r4, e5, h⟩ := hx_bind h
  have F := F.tr (fr_X3_prepare (X' := r4) e5 F.1 p_q2)
  obtain ⟨g6, h⟩ := hx_gd h
  obtain ⟨q7, e8, h⟩ := hx_bind h
  have p_q7 := F.1 _ _ _ p_this e8
  obtain ⟨r9, e10, h⟩ := hx_bind h
  have pr_r9 := pr_X9_counter e10 F.1 p_this
  rcases r9 with _ | i11
  · have h := hx_eln h
    cases h
  · have h := hx_els h
    have p_i11 := pr_r9 _ rfl
    obtain ⟨r12, e13, h⟩ := hx_bind h
    have F := F.tr (fr_X0_changeKind (r := r12.1) (X' := r12.2) e13 F.1 p_i11)
    obtain ⟨g14, h⟩ := hx_gd h
    obtain ⟨r15, e16, h⟩ := hx_bind h
    have F := F.tr (fr_X3_settle (r := r15.1) (X' := r15.2) e16 F.1 p_q7)
    obtain ⟨g17, h⟩ := hx_gd h
    obtain ⟨rfl, rfl⟩ := hx_some2 h
    exact F
set_option maxRecDepth 100000 in
set_option maxHeartbeats 4000000 in
theorem fr_X9_setScale {P : Nat → Prop} {L : hL} {X : hX} {this : Nat} {a1 : Int32} {a2 : Int32} {r : Int32} {X' : hX} (h : f_X9_setScale L X this a1 a2 = some (r, X')) (hcl : Cl P X) (p_this : P this) : FR P X X' := by
  unfold f_X9_setScale at h
  have F := FR.rf hcl
  obtain ⟨g1, h⟩ := hx_gd h
  obtain ⟨q2, e3, h⟩ := hx_bind h
  have p_q2 := F.1 _ _ _ p_this e3
  obtain ⟨r4, e5, h⟩ := hx_bind h
  have F := F.tr (fr_X3_prepare (X' := r4) e5 F.1 p_q2)
  obtain ⟨g6, h⟩ := hx_gd h
  obtain ⟨q7, e8, h⟩ := hx_bind h
  have p_q7 := F.1 _ _ _ p_this e8
  obtain ⟨r9, e10, h⟩ := hx_bind h
  have pr_r9 := pr_X9_counter e10 F.1 p_this
  rcases r9 with _ | i11
  · have h := hx_eln h
    cases h
  · have h := hx_els h
    have p_i11 := pr_r9 _ rfl
    obtain ⟨r12, e13, h⟩ := hx_bind h
    have F := F.tr (fr_X0_changeScale (r := r12.1) (X' := r12.2) e13 F.1 p_i11)
    obtain ⟨g14, h⟩ := hx_gd h
    obtain ⟨r15, e16, h⟩ := hx_bind h
    have F := F.tr (fr_X3_settle (r := r15.1) (X' := r15.2) e16 F.1 p_q7)
    obtain ⟨g17, h⟩ := hx_gd h
    obtain ⟨rfl, rfl⟩ := hx_some2 h
    exact F
set_option maxRecDepth 100000 in
set_option maxHeartbeats 4000000 in
theorem fr_X9_setBias {P : Nat → Prop} {L : hL} {X : hX} {this : Nat} {a1 : Int32} {r : Int32} {X' : hX} (h : f_X9_setBias L X this a1 = some (r, X')) (hcl : Cl P X) (p_this : P this) : FR P X X' := by
  unfold f_X9_setBias at h
  have F := FR.rf hcl
  obtain ⟨g1, h⟩ := hx_gd h
  obtain ⟨q2, e3, h⟩ := hx_bind h
  have p_q2 := F.1 _ _ _ p_this e3
  obtain ⟨r4, e5, h⟩ := hx_bind h
  have F := F.tr (fr_X3_prepare (X' := r4) e5 F.1 p_q2)
  obtain ⟨g6, h⟩ := hx_gd h
  obtain ⟨q7, e8, h⟩ := hx_bind h
  have p_q7 := F.1 _ _ _ p_this e8
  obtain ⟨r9, e10, h⟩ := hx_bind h
  have pr_r9 := pr_X9_counter e10 F.1 p_this
  rcases r9 with _ | i11
  · have h := hx_eln h
    cases h
  · have h := hx_els h
    have p_i11 := pr_r9 _ rfl
    obtain ⟨r12, e13, h⟩ := hx_bind h
    have F := F.tr (fr_X0_changeBias (r := r12.1) (X' := r12.2) e13 F.1 p_i11)
    obtain ⟨g14, h⟩ := hx_gd h
    obtain ⟨r15, e16, h⟩ := hx_bind h
    have F := F.tr (fr_X3_settle (r := r15.1) (X' := r15.2) e16 F.1 p_q7)
    obtain ⟨g17, h⟩ := hx_gd h
    obtain ⟨rfl, rfl⟩ := hx_some2 h
    exact F
set_option maxRecDepth 100000 in
set_option maxHeartbeats 4000000 in
theorem fr_X9_setRule {P : Nat → Prop} {L : hL} {X : hX} {this : Nat} {a1 : Int32} {r : Int32} {X' : hX} (h : f_X9_setRule L X this a1 = some (r, X')) (hcl : Cl P X) (p_this : P this) : FR P X X' := by
  unfold f_X9_setRule at h
  have F := FR.rf hcl
  obtain ⟨g1, h⟩ := hx_gd h
  obtain ⟨q2, e3, h⟩ := hx_bind h
  have p_q2 := F.1 _ _ _ p_this e3
  obtain ⟨r4, e5, h⟩ := hx_bind h
  have F := F.tr (fr_X3_prepare (X' := r4) e5 F.1 p_q2)
  obtain ⟨g6, h⟩ := hx_gd h
  obtain ⟨q7, e8, h⟩ := hx_bind h
  have p_q7 := F.1 _ _ _ p_this e8
  obtain ⟨r9, e10, h⟩ := hx_bind h
  have pr_r9 := pr_X9_counter e10 F.1 p_this
  rcases r9 with _ | i11
  · have h := hx_eln h
    cases h
  · have h := hx_els h
    have p_i11 := pr_r9 _ rfl
    obtain ⟨r12, e13, h⟩ := hx_bind h
    have F := F.tr (fr_X0_changeRule (r := r12.1) (X' := r12.2) e13 F.1 p_i11)
    obtain ⟨g14, h⟩ := hx_gd h
    obtain ⟨r15, e16, h⟩ := hx_bind h
    have F := F.tr (fr_X3_settle (r := r15.1) (X' := r15.2) e16 F.1 p_q7)
    obtain ⟨g17, h⟩ := hx_gd h
    obtain ⟨rfl, rfl⟩ := hx_some2 h
    exact F
set_option maxRecDepth 100000 in
set_option maxHeartbeats 4000000 in
theorem fr_X9_come {P : Nat → Prop} {L : hL} {X : hX} {this : Nat} {a1 : Int32} {r : Int32} {X' : hX} (h : f_X9_come L X this a1 = some (r, X')) (hcl : Cl P X) (p_this : P this) : FR P X X' := by
  unfold f_X9_come at h
  have F := FR.rf hcl
  obtain ⟨g1, h⟩ := hx_gd h
  obtain ⟨q2, e3, h⟩ := hx_bind h
  have p_q2 := F.1 _ _ _ p_this e3
  obtain ⟨r4, e5, h⟩ := hx_bind h
  have F := F.tr (fr_X3_prepare (X' := r4) e5 F.1 p_q2)
  obtain ⟨g6, h⟩ := hx_gd h
  obtain ⟨q7, e8, h⟩ := hx_bind h
  have p_q7 := F.1 _ _ _ p_this e8
  obtain ⟨r9, e10, h⟩ := hx_bind h
  have pr_r9 := pr_X9_counter e10 F.1 p_this
  rcases r9 with _ | i11
  · have h := hx_eln h
    cases h
  · have h := hx_els h
    have p_i11 := pr_r9 _ rfl
    obtain ⟨r12, e13, h⟩ := hx_bind h
    have F := F.tr (fr_X0_addCustomer (r := r12.1) (X' := r12.2) e13 F.1 p_i11)
    obtain ⟨g14, h⟩ := hx_gd h
    obtain ⟨r15, e16, h⟩ := hx_bind h
    have F := F.tr (fr_X3_settle (r := r15.1) (X' := r15.2) e16 F.1 p_q7)
    obtain ⟨g17, h⟩ := hx_gd h
    obtain ⟨rfl, rfl⟩ := hx_some2 h
    exact F
set_option maxRecDepth 100000 in
set_option maxHeartbeats 4000000 in
theorem fr_X9_leave {P : Nat → Prop} {L : hL} {X : hX} {this : Nat} {a1 : Int32} {r : Int32} {X' : hX} (h : f_X9_leave L X this a1 = some (r, X')) (hcl : Cl P X) (p_this : P this) : FR P X X' := by
  unfold f_X9_leave at h
  have F := FR.rf hcl
  obtain ⟨g1, h⟩ := hx_gd h
  obtain ⟨q2, e3, h⟩ := hx_bind h
  have p_q2 := F.1 _ _ _ p_this e3
  obtain ⟨r4, e5, h⟩ := hx_bind h
  have F := F.tr (fr_X3_prepare (X' := r4) e5 F.1 p_q2)
  obtain ⟨g6, h⟩ := hx_gd h
  obtain ⟨q7, e8, h⟩ := hx_bind h
  have p_q7 := F.1 _ _ _ p_this e8
  obtain ⟨r9, e10, h⟩ := hx_bind h
  have pr_r9 := pr_X9_counter e10 F.1 p_this
  rcases r9 with _ | i11
  · have h := hx_eln h
    cases h
  · have h := hx_els h
    have p_i11 := pr_r9 _ rfl
    obtain ⟨r12, e13, h⟩ := hx_bind h
    have F := F.tr (fr_X0_dropCustomer (r := r12.1) (X' := r12.2) e13 F.1 p_i11)
    obtain ⟨g14, h⟩ := hx_gd h
    obtain ⟨r15, e16, h⟩ := hx_bind h
    have F := F.tr (fr_X3_settle (r := r15.1) (X' := r15.2) e16 F.1 p_q7)
    obtain ⟨g17, h⟩ := hx_gd h
    obtain ⟨rfl, rfl⟩ := hx_some2 h
    exact F
set_option maxRecDepth 100000 in
set_option maxHeartbeats 4000000 in
theorem fr_X9_weigh {P : Nat → Prop} {L : hL} {X : hX} {this : Nat} {a1 : Int32} {a2 : Int32} {a3 : Int32} {a4 : Int32} {r : Int32} {X' : hX} (h : f_X9_weigh L X this a1 a2 a3 a4 = some (r, X')) (hcl : Cl P X) (p_this : P this) : FR P X X' := by
  unfold f_X9_weigh at h
  have F := FR.rf hcl
  obtain ⟨g1, h⟩ := hx_gd h
  obtain ⟨q2, e3, h⟩ := hx_bind h
  have p_q2 := F.1 _ _ _ p_this e3
  obtain ⟨r4, e5, h⟩ := hx_bind h
  have F := F.tr (fr_X3_prepare (X' := r4) e5 F.1 p_q2)
  obtain ⟨g6, h⟩ := hx_gd h
  obtain ⟨q7, e8, h⟩ := hx_bind h
  have p_q7 := F.1 _ _ _ p_this e8
  obtain ⟨r9, e10, h⟩ := hx_bind h
  have pr_r9 := pr_X9_counter e10 F.1 p_this
  rcases r9 with _ | i11
  · have h := hx_eln h
    cases h
  · have h := hx_els h
    have p_i11 := pr_r9 _ rfl
    obtain ⟨r12, e13, h⟩ := hx_bind h
    have F := F.tr (fr_X0_weighBundle (r := r12.1) (X' := r12.2) e13 F.1 p_i11)
    obtain ⟨g14, h⟩ := hx_gd h
    obtain ⟨r15, e16, h⟩ := hx_bind h
    have F := F.tr (fr_X3_settle (r := r15.1) (X' := r15.2) e16 F.1 p_q7)
    obtain ⟨g17, h⟩ := hx_gd h
    obtain ⟨rfl, rfl⟩ := hx_some2 h
    exact F
set_option maxRecDepth 100000 in
set_option maxHeartbeats 4000000 in
theorem fr_X9_claim {P : Nat → Prop} {L : hL} {X : hX} {this : Nat} {a1 : Int32} {a2 : Int32} {r : Int32} {X' : hX} (h : f_X9_claim L X this a1 a2 = some (r, X')) (hcl : Cl P X) (p_this : P this) : FR P X X' := by
  unfold f_X9_claim at h
  have F := FR.rf hcl
  obtain ⟨g1, h⟩ := hx_gd h
  obtain ⟨q2, e3, h⟩ := hx_bind h
  have p_q2 := F.1 _ _ _ p_this e3
  obtain ⟨r4, e5, h⟩ := hx_bind h
  have F := F.tr (fr_X3_prepare (X' := r4) e5 F.1 p_q2)
  obtain ⟨g6, h⟩ := hx_gd h
  obtain ⟨q7, e8, h⟩ := hx_bind h
  have p_q7 := F.1 _ _ _ p_this e8
  obtain ⟨r9, e10, h⟩ := hx_bind h
  have pr_r9 := pr_X9_counter e10 F.1 p_this
  rcases r9 with _ | i11
  · have h := hx_eln h
    cases h
  · have h := hx_els h
    have p_i11 := pr_r9 _ rfl
    obtain ⟨r12, e13, h⟩ := hx_bind h
    have F := F.tr (fr_X0_settleClaim (r := r12.1) (X' := r12.2) e13 F.1 p_i11)
    obtain ⟨g14, h⟩ := hx_gd h
    obtain ⟨r15, e16, h⟩ := hx_bind h
    have F := F.tr (fr_X3_settle (r := r15.1) (X' := r15.2) e16 F.1 p_q7)
    obtain ⟨g17, h⟩ := hx_gd h
    obtain ⟨rfl, rfl⟩ := hx_some2 h
    exact F
set_option maxRecDepth 100000 in
set_option maxHeartbeats 4000000 in
theorem fr_X9_addPrize {P : Nat → Prop} {L : hL} {X : hX} {this : Nat} {a1 : Int32} {a2 : Int32} {a3 : Int32} {a4 : Int32} {a5 : Int32} {r : Int32} {X' : hX} (h : f_X9_addPrize L X this a1 a2 a3 a4 a5 = some (r, X')) (hcl : Cl P X) (p_this : P this) : FR P X X' := by
  unfold f_X9_addPrize at h
  have F := FR.rf hcl
  obtain ⟨g1, h⟩ := hx_gd h
  obtain ⟨q2, e3, h⟩ := hx_bind h
  have p_q2 := F.1 _ _ _ p_this e3
  obtain ⟨r4, e5, h⟩ := hx_bind h
  have F := F.tr (fr_X3_prepare (X' := r4) e5 F.1 p_q2)
  obtain ⟨g6, h⟩ := hx_gd h
  obtain ⟨q7, e8, h⟩ := hx_bind h
  have p_q7 := F.1 _ _ _ p_this e8
  obtain ⟨r9, e10, h⟩ := hx_bind h
  have pr_r9 := pr_X9_counter e10 F.1 p_this
  rcases r9 with _ | i11
  · have h := hx_eln h
    cases h
  · have h := hx_els h
    have p_i11 := pr_r9 _ rfl
    obtain ⟨r12, e13, h⟩ := hx_bind h
    have F := F.tr (fr_X0_placePrize (r := r12.1) (X' := r12.2) e13 F.1 p_i11)
    obtain ⟨g14, h⟩ := hx_gd h
    obtain ⟨r15, e16, h⟩ := hx_bind h
    have F := F.tr (fr_X3_settle (r := r15.1) (X' := r15.2) e16 F.1 p_q7)
    obtain ⟨g17, h⟩ := hx_gd h
    obtain ⟨rfl, rfl⟩ := hx_some2 h
    exact F
set_option maxRecDepth 100000 in
set_option maxHeartbeats 4000000 in
theorem fr_X9_buy {P : Nat → Prop} {L : hL} {X : hX} {this : Nat} {a1 : Int32} {a2 : Int32} {a3 : Int32} {r : Int32} {X' : hX} (h : f_X9_buy L X this a1 a2 a3 = some (r, X')) (hcl : Cl P X) (p_this : P this) : FR P X X' := by
  unfold f_X9_buy at h
  have F := FR.rf hcl
  obtain ⟨g1, h⟩ := hx_gd h
  obtain ⟨q2, e3, h⟩ := hx_bind h
  have p_q2 := F.1 _ _ _ p_this e3
  obtain ⟨r4, e5, h⟩ := hx_bind h
  have F := F.tr (fr_X3_prepare (X' := r4) e5 F.1 p_q2)
  obtain ⟨g6, h⟩ := hx_gd h
  obtain ⟨q7, e8, h⟩ := hx_bind h
  have p_q7 := F.1 _ _ _ p_this e8
  obtain ⟨r9, e10, h⟩ := hx_bind h
  have pr_r9 := pr_X9_counter e10 F.1 p_this
  rcases r9 with _ | i11
  · have h := hx_eln h
    cases h
  · have h := hx_els h
    have p_i11 := pr_r9 _ rfl
    obtain ⟨r12, e13, h⟩ := hx_bind h
    have F := F.tr (fr_X0_sellPrize (r := r12.1) (X' := r12.2) e13 F.1 p_i11)
    obtain ⟨g14, h⟩ := hx_gd h
    obtain ⟨r15, e16, h⟩ := hx_bind h
    have F := F.tr (fr_X3_settle (r := r15.1) (X' := r15.2) e16 F.1 p_q7)
    obtain ⟨g17, h⟩ := hx_gd h
    obtain ⟨rfl, rfl⟩ := hx_some2 h
    exact F
set_option maxRecDepth 100000 in
set_option maxHeartbeats 4000000 in
theorem fr_X9_undo {P : Nat → Prop} {L : hL} {X : hX} {this : Nat} {r : Int32} {X' : hX} (h : f_X9_undo L X this = some (r, X')) (hcl : Cl P X) (p_this : P this) : FR P X X' := by
  unfold f_X9_undo at h
  have F := FR.rf hcl
  obtain ⟨g1, h⟩ := hx_gd h
  obtain ⟨q2, e3, h⟩ := hx_bind h
  have p_q2 := F.1 _ _ _ p_this e3
  obtain ⟨r4, e5, h⟩ := hx_bind h
  have F := F.tr (fr_X3_stepBack (r := r4.1) (X' := r4.2) e5 F.1 p_q2)
  obtain ⟨g6, h⟩ := hx_gd h
  obtain ⟨rfl, rfl⟩ := hx_some2 h
  exact F
set_option maxRecDepth 100000 in
set_option maxHeartbeats 4000000 in
theorem fr_X9_soldOut {P : Nat → Prop} {L : hL} {X : hX} {this : Nat} {a1 : Int32} {r : Int32} {X' : hX} (h : f_X9_soldOut L X this a1 = some (r, X')) (hcl : Cl P X) (p_this : P this) : FR P X X' := by
  unfold f_X9_soldOut at h
  have F := FR.rf hcl
  obtain ⟨r1, e2, h⟩ := hx_bind h
  have pr_r1 := pr_X9_counter e2 F.1 p_this
  obtain ⟨g3, h⟩ := hx_gd h
  rcases r1 with _ | i4
  · have h := hx_eln h
    cases h
  · have h := hx_els h
    have p_i4 := pr_r1 _ rfl
    obtain ⟨r5, e6, h⟩ := hx_bind h
    have pr_r5 := pr_X0_prizeAt e6 F.1 p_i4
    obtain ⟨g7, h⟩ := hx_gd h
    rcases r5 with _ | i8
    · have h := hx_eln h
      obtain ⟨rfl, rfl⟩ := hx_some2 h
      exact F
    · have h := hx_els h
      have p_i8 := pr_r5 _ rfl
      obtain ⟨q9, e10, h⟩ := hx_bind h
      have p_q9 := F.1 _ _ _ p_this e10
      obtain ⟨r11, e12, h⟩ := hx_bind h
      have F := F.tr (fr_X5_copyFrom (X' := r11) e12 F.1 p_q9 p_i8)
      obtain ⟨g13, h⟩ := hx_gd h
      obtain ⟨q14, e15, h⟩ := hx_bind h
      have p_q14 := F.1 _ _ _ p_this e15
      obtain ⟨r16, e17, h⟩ := hx_bind h
      have F := F.tr (fr_X5_sellOut (r := r16.1) (X' := r16.2) e17 F.1 p_q14)
      obtain ⟨g18, h⟩ := hx_gd h
      obtain ⟨rfl, rfl⟩ := hx_some2 h
      exact F
