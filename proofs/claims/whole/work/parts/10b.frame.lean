set_option maxRecDepth 100000 in
set_option maxHeartbeats 4000000 in
theorem fr_X9_take {P : Nat → Prop} {L : hL} {X : hX} {this : Nat} {a1 : Int32} {r : Int32} {X' : hX} (h : f_X9_take L X this a1 = some (r, X')) (hcl : Cl P X) (p_this : P this) : FR P X X' := by
  unfold f_X9_take at h
  have F := FR.rf hcl
  obtain ⟨g1, h⟩ := hx_gd h
  obtain ⟨q2, e3, h⟩ := hx_bind h
  have p_q2 := F.1 _ _ _ p_this e3
  obtain ⟨r4, e5, h⟩ := hx_bind h
  have F := F.tr (fr_X3_prepare (X' := r4) e5 F.1 p_q2)
  obtain ⟨g6, h⟩ := hx_gd h
  obtain ⟨q7, e8, h⟩ := hx_bind h
  have p_q7 := F.1 _ _ _ p_this e8
  obtain ⟨g9, h⟩ := hx_gd h
  obtain ⟨q10, e11, h⟩ := hx_bind h
  have p_q10 := F.1 _ _ _ p_q7 e11
  obtain ⟨r12, e13, h⟩ := hx_bind h
  have F := F.tr (fr_X8_fillSlot (r := r12.1) (X' := r12.2) e13 F.1 p_q10)
  obtain ⟨g14, h⟩ := hx_gd h
  obtain ⟨r15, e16, h⟩ := hx_bind h
  have F := F.tr (fr_X3_settle (r := r15.1) (X' := r15.2) e16 F.1 p_q7)
  obtain ⟨rfl, rfl⟩ := hx_some2 h
  exact F
set_option maxRecDepth 100000 in
set_option maxHeartbeats 4000000 in
theorem fr_X9_restore {P : Nat → Prop} {L : hL} {X : hX} {this : Nat} {a1 : Int32} {r : Int32} {X' : hX} (h : f_X9_restore L X this a1 = some (r, X')) (hcl : Cl P X) (p_this : P this) : FR P X X' := by
  unfold f_X9_restore at h
  have F := FR.rf hcl
  obtain ⟨g1, h⟩ := hx_gd h
  obtain ⟨q2, e3, h⟩ := hx_bind h
  have p_q2 := F.1 _ _ _ p_this e3
  obtain ⟨r4, e5, h⟩ := hx_bind h
  have F := F.tr (fr_X3_prepare (X' := r4) e5 F.1 p_q2)
  obtain ⟨g6, h⟩ := hx_gd h
  obtain ⟨q7, e8, h⟩ := hx_bind h
  have p_q7 := F.1 _ _ _ p_this e8
  obtain ⟨g9, h⟩ := hx_gd h
  obtain ⟨q10, e11, h⟩ := hx_bind h
  have p_q10 := F.1 _ _ _ p_q7 e11
  obtain ⟨r12, e13, h⟩ := hx_bind h
  have F := F.tr (fr_X8_useSlot (r := r12.1) (X' := r12.2) e13 F.1 p_q10)
  obtain ⟨g14, h⟩ := hx_gd h
  obtain ⟨r15, e16, h⟩ := hx_bind h
  have F := F.tr (fr_X3_settle (r := r15.1) (X' := r15.2) e16 F.1 p_q7)
  obtain ⟨rfl, rfl⟩ := hx_some2 h
  exact F
set_option maxRecDepth 100000 in
set_option maxHeartbeats 4000000 in
theorem fr_X9_undo {P : Nat → Prop} {L : hL} {X : hX} {this : Nat} {r : Int32} {X' : hX} (h : f_X9_undo L X this = some (r, X')) (hcl : Cl P X) (p_this : P this) : FR P X X' := by
  unfold f_X9_undo at h
  have F := FR.rf hcl
  obtain ⟨g1, h⟩ := hx_gd h
  obtain ⟨q2, e3, h⟩ := hx_bind h
  have p_q2 := F.1 _ _ _ p_this e3
  obtain ⟨r4, e5, h⟩ := hx_bind h
  have F := F.tr (fr_X3_stepBack (r := r4.1) (X' := r4.2) e5 F.1 p_q2)
  obtain ⟨g6, h⟩ := hx_gd h
  obtain ⟨rfl, rfl⟩ := hx_some2 h
  exact F
set_option maxRecDepth 100000 in
set_option maxHeartbeats 4000000 in
theorem fr_X9_append {P : Nat → Prop} {L : hL} {X : hX} {this : Nat} {a1 : Int32} {r : Int32} {X' : hX} (h : f_X9_append L X this a1 = some (r, X')) (hcl : Cl P X) (p_this : P this) : FR P X X' := by
  unfold f_X9_append at h
  have F := FR.rf hcl
  obtain ⟨g1, h⟩ := hx_gd h
  obtain ⟨q2, e3, h⟩ := hx_bind h
  have p_q2 := F.1 _ _ _ p_this e3
  obtain ⟨r4, e5, h⟩ := hx_bind h
  have F := F.tr (fr_X6_addSign (r := r4.1) (X' := r4.2) e5 F.1 p_q2)
  obtain ⟨g6, h⟩ := hx_gd h
  obtain ⟨rfl, rfl⟩ := hx_some2 h
  exact F
set_option maxRecDepth 100000 in
set_option maxHeartbeats 4000000 in
theorem fr_X9_clearText {P : Nat → Prop} {L : hL} {X : hX} {this : Nat} {r : Int32} {X' : hX} (h : f_X9_clearText L X this = some (r, X')) (hcl : Cl P X) (p_this : P this) : FR P X X' := by
  unfold f_X9_clearText at h
  have F := FR.rf hcl
  obtain ⟨g1, h⟩ := hx_gd h
  obtain ⟨q2, e3, h⟩ := hx_bind h
  have p_q2 := F.1 _ _ _ p_this e3
  obtain ⟨r4, e5, h⟩ := hx_bind h
  have F := F.tr (fr_X6_emptyText (r := r4.1) (X' := r4.2) e5 F.1 p_q2)
  obtain ⟨g6, h⟩ := hx_gd h
  obtain ⟨rfl, rfl⟩ := hx_some2 h
  exact F
set_option maxRecDepth 100000 in
set_option maxHeartbeats 4000000 in
theorem fr_X9_run {P : Nat → Prop} {L : hL} {X : hX} {this : Nat} {r : Int32} {X' : hX} (h : f_X9_run L X this = some (r, X')) (hcl : Cl P X) (p_this : P this) : FR P X X' := by
  unfold f_X9_run at h
  have F := FR.rf hcl
  obtain ⟨g1, h⟩ := hx_gd h
  obtain ⟨q2, e3, h⟩ := hx_bind h
  have p_q2 := F.1 _ _ _ p_this e3
  obtain ⟨r4, e5, h⟩ := hx_bind h
  have F := F.tr (fr_X3_prepare (X' := r4) e5 F.1 p_q2)
  obtain ⟨g6, h⟩ := hx_gd h
  obtain ⟨q7, e8, h⟩ := hx_bind h
  have p_q7 := F.1 _ _ _ p_this e8
  obtain ⟨r9, e10, h⟩ := hx_bind h
  have pr_r9 := pr_X9_counter e10 F.1 p_this
  rcases r9 with _ | i11
  · have h := hx_eln h
    cases h
  · have h := hx_els h
    have p_i11 := pr_r9 _ rfl
    obtain ⟨r12, e13, h⟩ := hx_bind h
    have F := F.tr (fr_X6_runOn (r := r12.1) (X' := r12.2) e13 F.1 p_q7 p_i11)
    obtain ⟨g14, h⟩ := hx_gd h
    rcases hx_ite h with ⟨c15, h⟩ | ⟨c15, h⟩
    · skip
      obtain ⟨q16, e17, h⟩ := hx_bind h
      have p_q16 := F.1 _ _ _ p_this e17
      obtain ⟨r18, e19, h⟩ := hx_bind h
      have F := F.tr (fr_X6_emptyText (r := r18.1) (X' := r18.2) e19 F.1 p_q16)
      obtain ⟨g20, h⟩ := hx_gd h
      obtain ⟨q21, e22, h⟩ := hx_bind h
      have p_q21 := F.1 _ _ _ p_this e22
      obtain ⟨r23, e24, h⟩ := hx_bind h
      have F := F.tr (fr_X3_settle (r := r23.1) (X' := r23.2) e24 F.1 p_q21)
      obtain ⟨g25, h⟩ := hx_gd h
      obtain ⟨rfl, rfl⟩ := hx_some2 h
      exact F
    · skip
      obtain ⟨q26, e27, h⟩ := hx_bind h
      have p_q26 := F.1 _ _ _ p_this e27
      obtain ⟨r28, e29, h⟩ := hx_bind h
      have F := F.tr (fr_X3_abandon (X' := r28) e29 F.1 p_q26)
      obtain ⟨g30, h⟩ := hx_gd h
      obtain ⟨rfl, rfl⟩ := hx_some2 h
      exact F
set_option maxRecDepth 100000 in
set_option maxHeartbeats 4000000 in
theorem fr_X9_soldOut {P : Nat → Prop} {L : hL} {X : hX} {this : Nat} {a1 : Int32} {r : Int32} {X' : hX} (h : f_X9_soldOut L X this a1 = some (r, X')) (hcl : Cl P X) (p_this : P this) : FR P X X' := by
  unfold f_X9_soldOut at h
  have F := FR.rf hcl
  obtain ⟨r1, e2, h⟩ := hx_bind h
  have pr_r1 := pr_X9_counter e2 F.1 p_this
  obtain ⟨g3, h⟩ := hx_gd h
  rcases r1 with _ | i4
  · have h := hx_eln h
    cases h
  · have h := hx_els h
    have p_i4 := pr_r1 _ rfl
    obtain ⟨r5, e6, h⟩ := hx_bind h
    have pr_r5 := pr_X0_prizeAt e6 F.1 p_i4
    obtain ⟨g7, h⟩ := hx_gd h
    rcases r5 with _ | i8
    · have h := hx_eln h
      obtain ⟨rfl, rfl⟩ := hx_some2 h
      exact F
    · have h := hx_els h
      have p_i8 := pr_r5 _ rfl
      obtain ⟨q9, e10, h⟩ := hx_bind h
      have p_q9 := F.1 _ _ _ p_this e10
      obtain ⟨r11, e12, h⟩ := hx_bind h
      have F := F.tr (fr_X5_copyFrom (X' := r11) e12 F.1 p_q9 p_i8)
      obtain ⟨g13, h⟩ := hx_gd h
      obtain ⟨q14, e15, h⟩ := hx_bind h
      have p_q14 := F.1 _ _ _ p_this e15
      obtain ⟨r16, e17, h⟩ := hx_bind h
      have F := F.tr (fr_X5_sellOut (r := r16.1) (X' := r16.2) e17 F.1 p_q14)
      obtain ⟨g18, h⟩ := hx_gd h
      obtain ⟨rfl, rfl⟩ := hx_some2 h
      exact F
set_option maxRecDepth 100000 in
set_option maxHeartbeats 4000000 in
theorem fr_X10_pushes_51 {P : Nat → Prop} {L : hL} : ∀ (n : Nat) (v0 : Nat) (v1 : Nat) (v2 : Int32) (X : hX) (X' : hX), f_X10_pushes_51 L n v0 v1 v2 X = some X' → Cl P X → P v0 → P v1 → FR P X X' := by
  intro n
  induction n with
  | zero => intro v0 v1 v2 X X' h; cases h
  | succ n ih =>
    intro v0 v1 v2 X X' h hcl p_v0 p_v1
    rw [f_X10_pushes_51] at h
    have F := FR.rf hcl
    rcases hx_ite h with ⟨c1, h⟩ | ⟨c1, h⟩
    · skip
      obtain ⟨g2, h⟩ := hx_gd h
      obtain rfl := hx_some1 h
      exact (FR.smi F p_v0)
    · skip
      obtain ⟨g3, h⟩ := hx_gd h
      obtain ⟨q4, e5, h⟩ := hx_bind h
      have p_q4 := F.1 _ _ _ p_v0 e5
      obtain ⟨g6, h⟩ := hx_gd h
      obtain ⟨g7, h⟩ := hx_gd h
      obtain ⟨g8, h⟩ := hx_gd h
      obtain ⟨g9, h⟩ := hx_gd h
      exact FR.tr (FR.smi F p_q4) (ih v0 v1 (v2 + 1) (smi X q4 (Int32.toNatClampNeg ((284 * (X.1 v0 4)) + v2)) (X.1 v1 (Int32.toNatClampNeg v2))) _ h ((FR.smi F p_q4)).1 p_v0 p_v1)
set_option maxRecDepth 100000 in
set_option maxHeartbeats 4000000 in
theorem fr_X10_pushes_49 {P : Nat → Prop} {L : hL} : ∀ (v0 : Nat) (v1 : Nat) (X : hX) (X' : hX), f_X10_pushes_49 L v0 v1 X = some X' → Cl P X → P v0 → P v1 → FR P X X' := by
  intro v0 v1 X X' h hcl p_v0 p_v1
  unfold f_X10_pushes_49 at h
  have F := FR.rf hcl
  exact FR.tr F (fr_X10_pushes_51 u_fuel v0 v1 0 X _ h (FR.tr F (FR.rf F.1)).1 p_v0 p_v1)
set_option maxRecDepth 100000 in
set_option maxHeartbeats 4000000 in
theorem fr_X10_pushes_10 {P : Nat → Prop} {L : hL} : ∀ (n : Nat) (v0 : Nat) (v1 : Nat) (v2 : Int32) (X : hX) (X' : hX), f_X10_pushes_10 L n v0 v1 v2 X = some X' → Cl P X → P v0 → P v1 → FR P X X' := by
  intro n
  induction n with
  | zero => intro v0 v1 v2 X X' h; cases h
  | succ n ih =>
    intro v0 v1 v2 X X' h hcl p_v0 p_v1
    rw [f_X10_pushes_10] at h
    have F := FR.rf hcl
    rcases hx_ite h with ⟨c10, h⟩ | ⟨c10, h⟩
    · skip
      obtain ⟨g11, h⟩ := hx_gd h
      exact FR.tr (FR.smi F p_v0) (fr_X10_pushes_49 v0 v1 (smi X v0 4 ((X.1 v0 4) - 1)) _ h ((FR.smi F p_v0)).1 p_v0 p_v1)
    · skip
      obtain ⟨g12, h⟩ := hx_gd h
      obtain ⟨q13, e14, h⟩ := hx_bind h
      have p_q13 := F.1 _ _ _ p_v0 e14
      obtain ⟨g15, h⟩ := hx_gd h
      obtain ⟨g16, h⟩ := hx_gd h
      obtain ⟨g17, h⟩ := hx_gd h
      exact FR.tr (FR.smi F p_q13) (ih v0 v1 (v2 + 1) (smi X q13 (Int32.toNatClampNeg v2) (X.1 q13 (Int32.toNatClampNeg (v2 + 284)))) _ h ((FR.smi F p_q13)).1 p_v0 p_v1)
set_option maxRecDepth 100000 in
set_option maxHeartbeats 4000000 in
theorem fr_X10_pushes {P : Nat → Prop} {L : hL} {X : hX} {this : Nat} {a1 : Nat} {X' : hX} (h : f_X10_pushes L X this a1 = some X') (hcl : Cl P X) (p_this : P this) (p_a1 : P a1) : FR P X X' := by
  unfold f_X10_pushes at h
  have F := FR.rf hcl
  obtain ⟨g18, h⟩ := hx_gd h
  rcases hx_ite2 h with ⟨c19, h⟩ | ⟨c19, h⟩
  · skip
    exact FR.tr F (fr_X10_pushes_49 this a1 X _ h (FR.tr F (FR.rf F.1)).1 p_this p_a1)
  · skip
    exact FR.tr F (fr_X10_pushes_10 u_fuel this a1 0 X _ h (FR.tr F (FR.rf F.1)).1 p_this p_a1)
set_option maxRecDepth 100000 in
set_option maxHeartbeats 4000000 in
theorem fr_X10_keeps_2 {P : Nat → Prop} {L : hL} : ∀ (n : Nat) (v0 : Nat) (v1 : Int32) (X : hX) (X' : hX), f_X10_keeps_2 L n v0 v1 X = some X' → Cl P X → P v0 → FR P X X' := by
  intro n
  induction n with
  | zero => intro v0 v1 X X' h; cases h
  | succ n ih =>
    intro v0 v1 X X' h hcl p_v0
    rw [f_X10_keeps_2] at h
    have F := FR.rf hcl
    rcases hx_ite h with ⟨c1, h⟩ | ⟨c1, h⟩
    · skip
      obtain rfl := hx_some1 h
      exact F
    · skip
      obtain ⟨g2, h⟩ := hx_gd h
      obtain ⟨q3, e4, h⟩ := hx_bind h
      have p_q3 := F.1 _ _ _ p_v0 e4
      obtain ⟨q5, e6, h⟩ := hx_bind h
      have p_q5 := F.1 _ _ _ p_v0 e6
      obtain ⟨g7, h⟩ := hx_gd h
      obtain ⟨g8, h⟩ := hx_gd h
      obtain ⟨g9, h⟩ := hx_gd h
      obtain ⟨g10, h⟩ := hx_gd h
      exact FR.tr (FR.smi F p_q3) (ih v0 (v1 + 1) (smi X q3 (Int32.toNatClampNeg v1) (X.1 q5 (Int32.toNatClampNeg v1))) _ h ((FR.smi F p_q3)).1 p_v0)
set_option maxRecDepth 100000 in
set_option maxHeartbeats 4000000 in
theorem fr_X10_keeps {P : Nat → Prop} {L : hL} {X : hX} {this : Nat} {X' : hX} (h : f_X10_keeps L X this = some X') (hcl : Cl P X) (p_this : P this) : FR P X X' := by
  unfold f_X10_keeps at h
  have F := FR.rf hcl
  exact FR.tr F (fr_X10_keeps_2 u_fuel this 0 X _ h (FR.tr F (FR.rf F.1)).1 p_this)
set_option maxRecDepth 100000 in
set_option maxHeartbeats 4000000 in
theorem fr_X10_acted {P : Nat → Prop} {L : hL} {X : hX} {this : Nat} {a1 : Int32} {r : Int32} {X' : hX} (h : f_X10_acted L X this a1 = some (r, X')) (hcl : Cl P X) (p_this : P this) : FR P X X' := by
  unfold f_X10_acted at h
  have F := FR.rf hcl
  rcases hx_ite h with ⟨c1, h⟩ | ⟨c1, h⟩
  · skip
    obtain ⟨rfl, rfl⟩ := hx_some2 h
    exact F
  · skip
    obtain ⟨g2, h⟩ := hx_gd h
    obtain ⟨q3, e4, h⟩ := hx_bind h
    have p_q3 := F.1 _ _ _ p_this e4
    obtain ⟨r5, e6, h⟩ := hx_bind h
    have F := F.tr (fr_X10_pushes (X' := r5) e6 F.1 p_this p_q3)
    obtain ⟨rfl, rfl⟩ := hx_some2 h
    exact F
set_option maxRecDepth 100000 in
set_option maxHeartbeats 4000000 in
theorem fr_X10_allows_82 {P : Nat → Prop} {L : hL} : ∀ (v0 : Nat) (v1 : Int32) (v3 : Int32) (s0 : Int32) (s1 : Nat) (X : hX) (r : Int32) (X' : hX), f_X10_allows_82 L v0 v1 v3 s0 s1 X = some (r, X') → Cl P X → P v0 → P s1 → FR P X X' := by
  intro v0 v1 v3 s0 s1 X r X' h hcl p_v0 p_s1
  unfold f_X10_allows_82 at h
  have F := FR.rf hcl
  obtain ⟨g1, h⟩ := hx_gd h
  obtain ⟨r2, e3, h⟩ := hx_bind h
  obtain ⟨g4, h⟩ := hx_gd h
  obtain ⟨q5, e6, h⟩ := hx_bind h
  have p_q5 := F.1 _ _ _ p_v0 e6
  obtain ⟨g7, h⟩ := hx_gd h
  obtain ⟨g8, h⟩ := hx_gd h
  obtain ⟨g9, h⟩ := hx_gd h
  rcases hx_ite h with ⟨c10, h⟩ | ⟨c10, h⟩
  · skip
    obtain ⟨rfl, rfl⟩ := hx_some2 h
    exact (FR.smi (FR.smi F p_s1) p_v0)
  · skip
    obtain ⟨rfl, rfl⟩ := hx_some2 h
    exact (FR.smi (FR.smi F p_s1) p_v0)
set_option maxRecDepth 100000 in
set_option maxHeartbeats 4000000 in
theorem fr_X10_allows {P : Nat → Prop} {L : hL} {X : hX} {this : Nat} {a1 : Int32} {a2 : Int32} {r : Int32} {X' : hX} (h : f_X10_allows L X this a1 a2 = some (r, X')) (hcl : Cl P X) (p_this : P this) : FR P X X' := by
  unfold f_X10_allows at h
  have F := FR.rf hcl
  obtain ⟨g11, h⟩ := hx_gd h
  obtain ⟨q12, e13, h⟩ := hx_bind h
  have p_q12 := F.1 _ _ _ p_this e13
  obtain ⟨g14, h⟩ := hx_gd h
  obtain ⟨g15, h⟩ := hx_gd h
  obtain ⟨g16, h⟩ := hx_gd h
  rcases hx_ite h with ⟨c17, h⟩ | ⟨c17, h⟩
  · skip
    obtain ⟨g18, h⟩ := hx_gd h
    obtain ⟨g19, h⟩ := hx_gd h
    obtain ⟨r20, e21, h⟩ := hx_bind h
    obtain ⟨g22, h⟩ := hx_gd h
    rcases hx_ite h with ⟨c23, h⟩ | ⟨c23, h⟩
    · skip
      obtain ⟨g24, h⟩ := hx_gd h
      exact FR.tr F (fr_X10_allows_82 this a1 ((X.1 q12 (Int32.toNatClampNeg a2)) - (X.1 q12 (Int32.toNatClampNeg (4 + a2)))) ((((r20 - (X.1 q12 9)) + ((X.1 q12 (Int32.toNatClampNeg a2)) + (X.1 q12 (Int32.toNatClampNeg (4 + a2))))) - 1) / ((X.1 q12 (Int32.toNatClampNeg a2)) + (X.1 q12 (Int32.toNatClampNeg (4 + a2))))) this X _ _ h (FR.tr F (FR.rf F.1)).1 p_this p_this)
    · skip
      exact FR.tr F (fr_X10_allows_82 this a1 ((X.1 q12 (Int32.toNatClampNeg a2)) - (X.1 q12 (Int32.toNatClampNeg (4 + a2)))) 0 this X _ _ h (FR.tr F (FR.rf F.1)).1 p_this p_this)
  · skip
    obtain ⟨rfl, rfl⟩ := hx_some2 h
    exact F
set_option maxRecDepth 100000 in
set_option maxHeartbeats 4000000 in
theorem fr_X10_guesses_93 {P : Nat → Prop} {L : hL} : ∀ (v0 : Nat) (s0 : Int32) (X : hX) (r : Int32) (X' : hX), f_X10_guesses_93 L v0 s0 X = some (r, X') → Cl P X → P v0 → FR P X X' := by
  intro v0 s0 X r X' h hcl p_v0
  unfold f_X10_guesses_93 at h
  have F := FR.rf hcl
  obtain ⟨g1, h⟩ := hx_gd h
  rcases hx_ite h with ⟨c2, h⟩ | ⟨c2, h⟩
  · skip
    rcases hx_ite h with ⟨c3, h⟩ | ⟨c3, h⟩
    · skip
      obtain ⟨rfl, rfl⟩ := hx_some2 h
      exact F
    · skip
      obtain ⟨rfl, rfl⟩ := hx_some2 h
      exact F
  · skip
    obtain ⟨rfl, rfl⟩ := hx_some2 h
    exact F
set_option maxRecDepth 100000 in
set_option maxHeartbeats 4000000 in
theorem fr_X10_guesses {P : Nat → Prop} {L : hL} {X : hX} {this : Nat} {a1 : Int32} {a2 : Int32} {a3 : Int32} {r : Int32} {X' : hX} (h : f_X10_guesses L X this a1 a2 a3 = some (r, X')) (hcl : Cl P X) (p_this : P this) : FR P X X' := by
  unfold f_X10_guesses at h
  have F := FR.rf hcl
  obtain ⟨r4, e5, h⟩ := hx_bind h
  have F := F.tr (fr_X10_allows (r := r4.1) (X' := r4.2) e5 F.1 p_this)
  obtain ⟨g6, h⟩ := hx_gd h
  rcases hx_ite2 h with ⟨c7, h⟩ | ⟨c7, h⟩
  · skip
    rcases hx_ite h with ⟨c8, h⟩ | ⟨c8, h⟩
    · skip
      rcases hx_ite2 h with ⟨c9, h⟩ | ⟨c9, h⟩
      · skip
        obtain ⟨rfl, rfl⟩ := hx_some2 h
        exact F
      · skip
        obtain ⟨rfl, rfl⟩ := hx_some2 h
        exact F
    · skip
      rcases hx_ite2 h with ⟨c10, h⟩ | ⟨c10, h⟩
      · skip
        rcases hx_ite2 h with ⟨c11, h⟩ | ⟨c11, h⟩
        · skip
          obtain ⟨q12, e13, h⟩ := hx_bind h
          have p_q12 := F.1 _ _ _ p_this e13
          obtain ⟨g14, h⟩ := hx_gd h
          obtain ⟨g15, h⟩ := hx_gd h
          obtain ⟨g16, h⟩ := hx_gd h
          rcases hx_ite h with ⟨c17, h⟩ | ⟨c17, h⟩
          · skip
            exact FR.tr F (fr_X10_guesses_93 this (a1 / (r4.2.1 q12 (Int32.toNatClampNeg a2))) r4.2 _ _ h (FR.tr F (FR.rf F.1)).1 p_this)
          · skip
            exact FR.tr F (fr_X10_guesses_93 this ((a1 / (r4.2.1 q12 (Int32.toNatClampNeg a2))) + 1) r4.2 _ _ h (FR.tr F (FR.rf F.1)).1 p_this)
        · skip
          obtain ⟨rfl, rfl⟩ := hx_some2 h
          exact F
      · skip
        rcases hx_ite2 h with ⟨c18, h⟩ | ⟨c18, h⟩
        · skip
          obtain ⟨rfl, rfl⟩ := hx_some2 h
          exact F
        · skip
          obtain ⟨rfl, rfl⟩ := hx_some2 h
          exact F
  · skip
    obtain ⟨rfl, rfl⟩ := hx_some2 h
    exact F
set_option maxRecDepth 100000 in
set_option maxHeartbeats 4000000 in
theorem fr_X10_kinds {P : Nat → Prop} {L : hL} {X : hX} {this : Nat} {a1 : Int32} {a2 : Int32} {a3 : Int32} {r : Int32} {X' : hX} (h : f_X10_kinds L X this a1 a2 a3 = some (r, X')) (hcl : Cl P X) (p_this : P this) : FR P X X' := by
  unfold f_X10_kinds at h
  have F := FR.rf hcl
  obtain ⟨r1, e2, h⟩ := hx_bind h
  rcases hx_ite h with ⟨c3, h⟩ | ⟨c3, h⟩
  · skip
    obtain ⟨rfl, rfl⟩ := hx_some2 h
    exact F
  · skip
    obtain ⟨r4, e5, h⟩ := hx_bind h
    rcases hx_ite h with ⟨c6, h⟩ | ⟨c6, h⟩
    · skip
      obtain ⟨rfl, rfl⟩ := hx_some2 h
      exact F
    · skip
      obtain ⟨r7, e8, h⟩ := hx_bind h
      rcases hx_ite2 h with ⟨c9, h⟩ | ⟨c9, h⟩
      · skip
        obtain ⟨g10, h⟩ := hx_gd h
        obtain ⟨q11, e12, h⟩ := hx_bind h
        have p_q11 := F.1 _ _ _ p_this e12
        obtain ⟨g13, h⟩ := hx_gd h
        obtain ⟨g14, h⟩ := hx_gd h
        obtain ⟨g15, h⟩ := hx_gd h
        obtain ⟨rfl, rfl⟩ := hx_some2 h
        exact (FR.smi (FR.smi F p_q11) p_q11)
      · skip
        obtain ⟨rfl, rfl⟩ := hx_some2 h
        exact F
set_option maxRecDepth 100000 in
set_option maxHeartbeats 4000000 in
theorem fr_X10_setKind {P : Nat → Prop} {L : hL} {X : hX} {this : Nat} {a1 : Int32} {a2 : Int32} {a3 : Int32} {r : Int32} {X' : hX} (h : f_X10_setKind L X this a1 a2 a3 = some (r, X')) (hcl : Cl P X) (p_this : P this) : FR P X X' := by
  unfold f_X10_setKind at h
  have F := FR.rf hcl
  obtain ⟨r1, e2, h⟩ := hx_bind h
  have F := F.tr (fr_X10_keeps (X' := r1) e2 F.1 p_this)
  obtain ⟨g3, h⟩ := hx_gd h
  obtain ⟨r4, e5, h⟩ := hx_bind h
  have F := F.tr (fr_X10_kinds (r := r4.1) (X' := r4.2) e5 F.1 p_this)
  obtain ⟨r6, e7, h⟩ := hx_bind h
  have F := F.tr (fr_X10_acted (r := r6.1) (X' := r6.2) e7 F.1 p_this)
  obtain ⟨rfl, rfl⟩ := hx_some2 h
  exact F
set_option maxRecDepth 100000 in
set_option maxHeartbeats 4000000 in
theorem fr_X10_scales {P : Nat → Prop} {L : hL} {X : hX} {this : Nat} {a1 : Int32} {a2 : Int32} {r : Int32} {X' : hX} (h : f_X10_scales L X this a1 a2 = some (r, X')) (hcl : Cl P X) (p_this : P this) : FR P X X' := by
  unfold f_X10_scales at h
  have F := FR.rf hcl
  obtain ⟨r1, e2, h⟩ := hx_bind h
  rcases hx_ite h with ⟨c3, h⟩ | ⟨c3, h⟩
  · skip
    obtain ⟨rfl, rfl⟩ := hx_some2 h
    exact F
  · skip
    obtain ⟨r4, e5, h⟩ := hx_bind h
    rcases hx_ite2 h with ⟨c6, h⟩ | ⟨c6, h⟩
    · skip
      obtain ⟨g7, h⟩ := hx_gd h
      obtain ⟨q8, e9, h⟩ := hx_bind h
      have p_q8 := F.1 _ _ _ p_this e9
      obtain ⟨g10, h⟩ := hx_gd h
      obtain ⟨g11, h⟩ := hx_gd h
      obtain ⟨g12, h⟩ := hx_gd h
      obtain ⟨g13, h⟩ := hx_gd h
      rcases hx_ite h with ⟨c14, h⟩ | ⟨c14, h⟩
      · skip
        rcases hx_ite h with ⟨c15, h⟩ | ⟨c15, h⟩
        · skip
          obtain ⟨rfl, rfl⟩ := hx_some2 h
          exact (FR.smi (FR.smi (FR.smi F p_q8) p_q8) p_q8)
        · skip
          obtain ⟨rfl, rfl⟩ := hx_some2 h
          exact (FR.smi (FR.smi (FR.smi F p_q8) p_q8) p_q8)
      · skip
        obtain ⟨rfl, rfl⟩ := hx_some2 h
        exact (FR.smi (FR.smi (FR.smi F p_q8) p_q8) p_q8)
    · skip
      obtain ⟨rfl, rfl⟩ := hx_some2 h
      exact F
set_option maxRecDepth 100000 in
set_option maxHeartbeats 4000000 in
theorem fr_X10_setScale {P : Nat → Prop} {L : hL} {X : hX} {this : Nat} {a1 : Int32} {a2 : Int32} {r : Int32} {X' : hX} (h : f_X10_setScale L X this a1 a2 = some (r, X')) (hcl : Cl P X) (p_this : P this) : FR P X X' := by
  unfold f_X10_setScale at h
  have F := FR.rf hcl
  obtain ⟨r1, e2, h⟩ := hx_bind h
  have F := F.tr (fr_X10_keeps (X' := r1) e2 F.1 p_this)
  obtain ⟨g3, h⟩ := hx_gd h
  obtain ⟨r4, e5, h⟩ := hx_bind h
  have F := F.tr (fr_X10_scales (r := r4.1) (X' := r4.2) e5 F.1 p_this)
  obtain ⟨r6, e7, h⟩ := hx_bind h
  have F := F.tr (fr_X10_acted (r := r6.1) (X' := r6.2) e7 F.1 p_this)
  obtain ⟨rfl, rfl⟩ := hx_some2 h
  exact F
set_option maxRecDepth 100000 in
set_option maxHeartbeats 4000000 in
theorem fr_X10_sets {P : Nat → Prop} {L : hL} {X : hX} {this : Nat} {a1 : Int32} {a2 : Int32} {a3 : Int32} {a4 : Int32} {r : Int32} {X' : hX} (h : f_X10_sets L X this a1 a2 a3 a4 = some (r, X')) (hcl : Cl P X) (p_this : P this) : FR P X X' := by
  unfold f_X10_sets at h
  have F := FR.rf hcl
  obtain ⟨r1, e2, h⟩ := hx_bind h
  rcases hx_ite2 h with ⟨c3, h⟩ | ⟨c3, h⟩
  · skip
    obtain ⟨g4, h⟩ := hx_gd h
    obtain ⟨q5, e6, h⟩ := hx_bind h
    have p_q5 := F.1 _ _ _ p_this e6
    obtain ⟨g7, h⟩ := hx_gd h
    obtain ⟨g8, h⟩ := hx_gd h
    obtain ⟨rfl, rfl⟩ := hx_some2 h
    exact (FR.smi F p_q5)
  · skip
    obtain ⟨rfl, rfl⟩ := hx_some2 h
    exact F
set_option maxRecDepth 100000 in
set_option maxHeartbeats 4000000 in
theorem fr_X10_setBias {P : Nat → Prop} {L : hL} {X : hX} {this : Nat} {a1 : Int32} {r : Int32} {X' : hX} (h : f_X10_setBias L X this a1 = some (r, X')) (hcl : Cl P X) (p_this : P this) : FR P X X' := by
  unfold f_X10_setBias at h
  have F := FR.rf hcl
  obtain ⟨r1, e2, h⟩ := hx_bind h
  have F := F.tr (fr_X10_keeps (X' := r1) e2 F.1 p_this)
  obtain ⟨g3, h⟩ := hx_gd h
  obtain ⟨q4, e5, h⟩ := hx_bind h
  have p_q4 := F.1 _ _ _ p_this e5
  obtain ⟨g6, h⟩ := hx_gd h
  obtain ⟨g7, h⟩ := hx_gd h
  obtain ⟨r8, e9, h⟩ := hx_bind h
  have F := F.tr (fr_X10_sets (r := r8.1) (X' := r8.2) e9 F.1 p_this)
  obtain ⟨r10, e11, h⟩ := hx_bind h
  have F := F.tr (fr_X10_acted (r := r10.1) (X' := r10.2) e11 F.1 p_this)
  obtain ⟨rfl, rfl⟩ := hx_some2 h
  exact F
set_option maxRecDepth 100000 in
set_option maxHeartbeats 4000000 in
theorem fr_X10_setRule {P : Nat → Prop} {L : hL} {X : hX} {this : Nat} {a1 : Int32} {r : Int32} {X' : hX} (h : f_X10_setRule L X this a1 = some (r, X')) (hcl : Cl P X) (p_this : P this) : FR P X X' := by
  unfold f_X10_setRule at h
  have F := FR.rf hcl
  obtain ⟨r1, e2, h⟩ := hx_bind h
  have F := F.tr (fr_X10_keeps (X' := r1) e2 F.1 p_this)
  obtain ⟨g3, h⟩ := hx_gd h
  obtain ⟨r4, e5, h⟩ := hx_bind h
  have F := F.tr (fr_X10_sets (r := r4.1) (X' := r4.2) e5 F.1 p_this)
  obtain ⟨r6, e7, h⟩ := hx_bind h
  have F := F.tr (fr_X10_acted (r := r6.1) (X' := r6.2) e7 F.1 p_this)
  obtain ⟨rfl, rfl⟩ := hx_some2 h
  exact F
set_option maxRecDepth 100000 in
set_option maxHeartbeats 4000000 in
theorem fr_X10_setFee {P : Nat → Prop} {L : hL} {X : hX} {this : Nat} {a1 : Int32} {r : Int32} {X' : hX} (h : f_X10_setFee L X this a1 = some (r, X')) (hcl : Cl P X) (p_this : P this) : FR P X X' := by
  unfold f_X10_setFee at h
  have F := FR.rf hcl
  obtain ⟨r1, e2, h⟩ := hx_bind h
  have F := F.tr (fr_X10_keeps (X' := r1) e2 F.1 p_this)
  obtain ⟨g3, h⟩ := hx_gd h
  obtain ⟨r4, e5, h⟩ := hx_bind h
  have F := F.tr (fr_X10_sets (r := r4.1) (X' := r4.2) e5 F.1 p_this)
  obtain ⟨r6, e7, h⟩ := hx_bind h
  have F := F.tr (fr_X10_acted (r := r6.1) (X' := r6.2) e7 F.1 p_this)
  obtain ⟨rfl, rfl⟩ := hx_some2 h
  exact F
set_option maxRecDepth 100000 in
set_option maxHeartbeats 4000000 in
theorem fr_X10_comes {P : Nat → Prop} {L : hL} {X : hX} {this : Nat} {a1 : Int32} {r : Int32} {X' : hX} (h : f_X10_comes L X this a1 = some (r, X')) (hcl : Cl P X) (p_this : P this) : FR P X X' := by
  unfold f_X10_comes at h
  have F := FR.rf hcl
  obtain ⟨r1, e2, h⟩ := hx_bind h
  rcases hx_ite2 h with ⟨c3, h⟩ | ⟨c3, h⟩
  · skip
    obtain ⟨g4, h⟩ := hx_gd h
    obtain ⟨q5, e6, h⟩ := hx_bind h
    have p_q5 := F.1 _ _ _ p_this e6
    obtain ⟨g7, h⟩ := hx_gd h
    obtain ⟨g8, h⟩ := hx_gd h
    rcases hx_ite2 h with ⟨c9, h⟩ | ⟨c9, h⟩
    · skip
      obtain ⟨g10, h⟩ := hx_gd h
      obtain ⟨g11, h⟩ := hx_gd h
      obtain ⟨rfl, rfl⟩ := hx_some2 h
      exact (FR.smi (FR.smi (FR.smi F p_q5) p_q5) p_q5)
    · skip
      obtain ⟨rfl, rfl⟩ := hx_some2 h
      exact F
  · skip
    obtain ⟨rfl, rfl⟩ := hx_some2 h
    exact F
set_option maxRecDepth 100000 in
set_option maxHeartbeats 4000000 in
theorem fr_X10_come {P : Nat → Prop} {L : hL} {X : hX} {this : Nat} {a1 : Int32} {r : Int32} {X' : hX} (h : f_X10_come L X this a1 = some (r, X')) (hcl : Cl P X) (p_this : P this) : FR P X X' := by
  unfold f_X10_come at h
  have F := FR.rf hcl
  obtain ⟨r1, e2, h⟩ := hx_bind h
  have F := F.tr (fr_X10_keeps (X' := r1) e2 F.1 p_this)
  obtain ⟨g3, h⟩ := hx_gd h
  obtain ⟨r4, e5, h⟩ := hx_bind h
  have F := F.tr (fr_X10_comes (r := r4.1) (X' := r4.2) e5 F.1 p_this)
  obtain ⟨r6, e7, h⟩ := hx_bind h
  have F := F.tr (fr_X10_acted (r := r6.1) (X' := r6.2) e7 F.1 p_this)
  obtain ⟨rfl, rfl⟩ := hx_some2 h
  exact F
set_option maxRecDepth 100000 in
set_option maxHeartbeats 4000000 in
theorem fr_X10_leave_38 {P : Nat → Prop} {L : hL} : ∀ (n : Nat) (v0 : Nat) (v2 : Int32) (v3 : Int32) (X : hX) (r : Int32) (X' : hX), f_X10_leave_38 L n v0 v2 v3 X = some (r, X') → Cl P X → P v0 → FR P X X' := by
  intro n
  induction n with
  | zero => intro v0 v2 v3 X r X' h; cases h
  | succ n ih =>
    intro v0 v2 v3 X r X' h hcl p_v0
    rw [f_X10_leave_38] at h
    have F := FR.rf hcl
    obtain ⟨g1, h⟩ := hx_gd h
    obtain ⟨q2, e3, h⟩ := hx_bind h
    have p_q2 := F.1 _ _ _ p_v0 e3
    obtain ⟨g4, h⟩ := hx_gd h
    obtain ⟨g5, h⟩ := hx_gd h
    rcases hx_ite h with ⟨c6, h⟩ | ⟨c6, h⟩
    · skip
      obtain ⟨r7, e8, h⟩ := hx_bind h
      have F := F.tr (fr_X10_acted (r := r7.1) (X' := r7.2) e8 F.1 p_v0)
      obtain ⟨rfl, rfl⟩ := hx_some2 h
      exact F
    · skip
      obtain ⟨g9, h⟩ := hx_gd h
      obtain ⟨g10, h⟩ := hx_gd h
      exact FR.tr (FR.smi F p_q2) (ih v0 v2 (v3 + 1) (smi X q2 (Int32.toNatClampNeg (16 + v3)) (X.1 q2 (Int32.toNatClampNeg ((16 + v3) + 6)))) _ _ h ((FR.smi F p_q2)).1 p_v0)
set_option maxRecDepth 100000 in
set_option maxHeartbeats 4000000 in
theorem fr_X10_leave {P : Nat → Prop} {L : hL} {X : hX} {this : Nat} {a1 : Int32} {r : Int32} {X' : hX} (h : f_X10_leave L X this a1 = some (r, X')) (hcl : Cl P X) (p_this : P this) : FR P X X' := by
  unfold f_X10_leave at h
  have F := FR.rf hcl
  obtain ⟨r11, e12, h⟩ := hx_bind h
  obtain ⟨g13, h⟩ := hx_gd h
  rcases hx_ite2 h with ⟨c14, h⟩ | ⟨c14, h⟩
  · skip
    obtain ⟨r15, e16, h⟩ := hx_bind h
    have F := F.tr (fr_X10_keeps (X' := r15) e16 F.1 p_this)
    obtain ⟨r17, e18, h⟩ := hx_bind h
    obtain ⟨q19, e20, h⟩ := hx_bind h
    have p_q19 := F.1 _ _ _ p_this e20
    obtain ⟨g21, h⟩ := hx_gd h
    obtain ⟨g22, h⟩ := hx_gd h
    exact FR.tr (FR.smi F p_q19) (fr_X10_leave_38 u_fuel this r17 (6 * a1) (smi r15 q19 14 ((r15.1 q19 14) - 1)) _ _ h ((FR.smi F p_q19)).1 p_this)
  · skip
    obtain ⟨rfl, rfl⟩ := hx_some2 h
    exact F
set_option maxRecDepth 100000 in
set_option maxHeartbeats 4000000 in
theorem fr_X10_weighs {P : Nat → Prop} {L : hL} {X : hX} {this : Nat} {a1 : Int32} {a2 : Int32} {a3 : Int32} {a4 : Int32} {r : Int32} {X' : hX} (h : f_X10_weighs L X this a1 a2 a3 a4 = some (r, X')) (hcl : Cl P X) (p_this : P this) : FR P X X' := by
  unfold f_X10_weighs at h
  have F := FR.rf hcl
  obtain ⟨r1, e2, h⟩ := hx_bind h
  obtain ⟨g3, h⟩ := hx_gd h
  rcases hx_ite h with ⟨c4, h⟩ | ⟨c4, h⟩
  · skip
    obtain ⟨rfl, rfl⟩ := hx_some2 h
    exact F
  · skip
    obtain ⟨r5, e6, h⟩ := hx_bind h
    rcases hx_ite h with ⟨c7, h⟩ | ⟨c7, h⟩
    · skip
      obtain ⟨rfl, rfl⟩ := hx_some2 h
      exact F
    · skip
      obtain ⟨r8, e9, h⟩ := hx_bind h
      rcases hx_ite h with ⟨c10, h⟩ | ⟨c10, h⟩
      · skip
        obtain ⟨rfl, rfl⟩ := hx_some2 h
        exact F
      · skip
        obtain ⟨q11, e12, h⟩ := hx_bind h
        have p_q11 := F.1 _ _ _ p_this e12
        obtain ⟨g13, h⟩ := hx_gd h
        obtain ⟨g14, h⟩ := hx_gd h
        obtain ⟨r15, e16, h⟩ := hx_bind h
        rcases hx_ite2 h with ⟨c17, h⟩ | ⟨c17, h⟩
        · skip
          obtain ⟨g18, h⟩ := hx_gd h
          obtain ⟨g19, h⟩ := hx_gd h
          obtain ⟨g20, h⟩ := hx_gd h
          obtain ⟨r21, e22, h⟩ := hx_bind h
          obtain ⟨g23, h⟩ := hx_gd h
          obtain ⟨r24, e25, h⟩ := hx_bind h
          have F := F.tr (fr_X10_guesses (r := r24.1) (X' := r24.2) e25 F.1 p_this)
          obtain ⟨q26, e27, h⟩ := hx_bind h
          have p_q26 := F.1 _ _ _ p_this e27
          obtain ⟨g28, h⟩ := hx_gd h
          obtain ⟨g29, h⟩ := hx_gd h
          obtain ⟨g30, h⟩ := hx_gd h
          obtain ⟨g31, h⟩ := hx_gd h
          obtain ⟨g32, h⟩ := hx_gd h
          obtain ⟨g33, h⟩ := hx_gd h
          obtain ⟨g34, h⟩ := hx_gd h
          obtain ⟨g35, h⟩ := hx_gd h
          obtain ⟨rfl, rfl⟩ := hx_some2 h
          exact (FR.smi (FR.smi (FR.smi (FR.smi (FR.smi (FR.smi (FR.smi F p_q26) p_q26) p_q26) p_q26) p_q26) p_q26) p_q26)
        · skip
          obtain ⟨rfl, rfl⟩ := hx_some2 h
          exact F
set_option maxRecDepth 100000 in
set_option maxHeartbeats 4000000 in
theorem fr_X10_weigh {P : Nat → Prop} {L : hL} {X : hX} {this : Nat} {a1 : Int32} {a2 : Int32} {a3 : Int32} {a4 : Int32} {r : Int32} {X' : hX} (h : f_X10_weigh L X this a1 a2 a3 a4 = some (r, X')) (hcl : Cl P X) (p_this : P this) : FR P X X' := by
  unfold f_X10_weigh at h
  have F := FR.rf hcl
  obtain ⟨r1, e2, h⟩ := hx_bind h
  have F := F.tr (fr_X10_keeps (X' := r1) e2 F.1 p_this)
  obtain ⟨g3, h⟩ := hx_gd h
  obtain ⟨r4, e5, h⟩ := hx_bind h
  have F := F.tr (fr_X10_weighs (r := r4.1) (X' := r4.2) e5 F.1 p_this)
  obtain ⟨r6, e7, h⟩ := hx_bind h
  have F := F.tr (fr_X10_acted (r := r6.1) (X' := r6.2) e7 F.1 p_this)
  obtain ⟨rfl, rfl⟩ := hx_some2 h
  exact F
set_option maxRecDepth 100000 in
set_option maxHeartbeats 4000000 in
theorem fr_X10_claims_161 {P : Nat → Prop} {L : hL} : ∀ (v0 : Nat) (v2 : Int32) (v3 : Int32) (v4 : Int32) (v5 : Int32) (s0 : Int32) (s1 : Int32) (s2 : Nat) (X : hX) (r : Int32) (X' : hX), f_X10_claims_161 L v0 v2 v3 v4 v5 s0 s1 s2 X = some (r, X') → Cl P X → P v0 → P s2 → FR P X X' := by
  intro v0 v2 v3 v4 v5 s0 s1 s2 X r X' h hcl p_v0 p_s2
  unfold f_X10_claims_161 at h
  have F := FR.rf hcl
  obtain ⟨g1, h⟩ := hx_gd h
  obtain ⟨g2, h⟩ := hx_gd h
  obtain ⟨r3, e4, h⟩ := hx_bind h
  obtain ⟨r5, e6, h⟩ := hx_bind h
  rcases hx_ite h with ⟨c7, h⟩ | ⟨c7, h⟩
  · skip
    obtain ⟨g8, h⟩ := hx_gd h
    obtain ⟨q9, e10, h⟩ := hx_bind h
    have p_q9 := F.1 _ _ _ p_v0 e10
    obtain ⟨g11, h⟩ := hx_gd h
    obtain ⟨g12, h⟩ := hx_gd h
    obtain ⟨g13, h⟩ := hx_gd h
    rcases hx_ite h with ⟨c14, h⟩ | ⟨c14, h⟩
    · skip
      obtain ⟨rfl, rfl⟩ := hx_some2 h
      exact (FR.smi (FR.smi F p_s2) p_q9)
    · skip
      obtain ⟨rfl, rfl⟩ := hx_some2 h
      exact (FR.smi (FR.smi F p_s2) p_q9)
  · skip
    obtain ⟨rfl, rfl⟩ := hx_some2 h
    exact (FR.smi F p_s2)
set_option maxRecDepth 100000 in
set_option maxHeartbeats 4000000 in
theorem fr_X10_claims {P : Nat → Prop} {L : hL} {X : hX} {this : Nat} {a1 : Int32} {a2 : Int32} {r : Int32} {X' : hX} (h : f_X10_claims L X this a1 a2 = some (r, X')) (hcl : Cl P X) (p_this : P this) : FR P X X' := by
  unfold f_X10_claims at h
  have F := FR.rf hcl
  obtain ⟨r15, e16, h⟩ := hx_bind h
  obtain ⟨g17, h⟩ := hx_gd h
  rcases hx_ite h with ⟨c18, h⟩ | ⟨c18, h⟩
  · skip
    obtain ⟨rfl, rfl⟩ := hx_some2 h
    exact F
  · skip
    obtain ⟨r19, e20, h⟩ := hx_bind h
    rcases hx_ite2 h with ⟨c21, h⟩ | ⟨c21, h⟩
    · skip
      obtain ⟨r22, e23, h⟩ := hx_bind h
      obtain ⟨r24, e25, h⟩ := hx_bind h
      obtain ⟨r26, e27, h⟩ := hx_bind h
      rcases hx_ite h with ⟨c28, h⟩ | ⟨c28, h⟩
      · skip
        obtain ⟨rfl, rfl⟩ := hx_some2 h
        exact F
      · skip
        rcases hx_ite2 h with ⟨c29, h⟩ | ⟨c29, h⟩
        · skip
          obtain ⟨q30, e31, h⟩ := hx_bind h
          have p_q30 := F.1 _ _ _ p_this e31
          obtain ⟨g32, h⟩ := hx_gd h
          obtain ⟨g33, h⟩ := hx_gd h
          obtain ⟨r34, e35, h⟩ := hx_bind h
          obtain ⟨r36, e37, h⟩ := hx_bind h
          obtain ⟨r38, e39, h⟩ := hx_bind h
          have F : FR P X (smi X q30 (Int32.toNatClampNeg ((16 + (6 * a1)) + 1)) 0) := (FR.smi F p_q30)
          have F := F.tr (fr_X10_allows (r := r38.1) (X' := r38.2) e39 F.1 p_this)
          rcases hx_ite h with ⟨c40, h⟩ | ⟨c40, h⟩
          · skip
            obtain ⟨rfl, rfl⟩ := hx_some2 h
            exact F
          · skip
            obtain ⟨r41, e42, h⟩ := hx_bind h
            rcases hx_ite2 h with ⟨c43, h⟩ | ⟨c43, h⟩
            · skip
              obtain ⟨q44, e45, h⟩ := hx_bind h
              have p_q44 := F.1 _ _ _ p_this e45
              obtain ⟨g46, h⟩ := hx_gd h
              obtain ⟨g47, h⟩ := hx_gd h
              obtain ⟨g48, h⟩ := hx_gd h
              rcases hx_ite h with ⟨c49, h⟩ | ⟨c49, h⟩
              · skip
                exact FR.tr (FR.smi F p_q44) (fr_X10_claims_161 this a2 r22 r24 (16 + (6 * a1)) ((((smi r38.2 q44 13 ((r38.2.1 q44 13) + (r22 - r24))).1 q44 (Int32.toNatClampNeg (16 + (6 * a1)))) + r22) - r24) (16 + (6 * a1)) q44 (smi r38.2 q44 13 ((r38.2.1 q44 13) + (r22 - r24))) _ _ h ((FR.smi F p_q44)).1 p_this p_q44)
              · skip
                exact FR.tr (FR.smi F p_q44) (fr_X10_claims_161 this a2 r22 r24 (16 + (6 * a1)) 0 (16 + (6 * a1)) q44 (smi r38.2 q44 13 ((r38.2.1 q44 13) + (r22 - r24))) _ _ h ((FR.smi F p_q44)).1 p_this p_q44)
            · skip
              obtain ⟨rfl, rfl⟩ := hx_some2 h
              exact F
        · skip
          obtain ⟨rfl, rfl⟩ := hx_some2 h
          exact F
    · skip
      obtain ⟨rfl, rfl⟩ := hx_some2 h
      exact F
set_option maxRecDepth 100000 in
set_option maxHeartbeats 4000000 in
theorem fr_X10_claim {P : Nat → Prop} {L : hL} {X : hX} {this : Nat} {a1 : Int32} {a2 : Int32} {r : Int32} {X' : hX} (h : f_X10_claim L X this a1 a2 = some (r, X')) (hcl : Cl P X) (p_this : P this) : FR P X X' := by
  unfold f_X10_claim at h
  have F := FR.rf hcl
  obtain ⟨r1, e2, h⟩ := hx_bind h
  have F := F.tr (fr_X10_keeps (X' := r1) e2 F.1 p_this)
  obtain ⟨g3, h⟩ := hx_gd h
  obtain ⟨r4, e5, h⟩ := hx_bind h
  have F := F.tr (fr_X10_claims (r := r4.1) (X' := r4.2) e5 F.1 p_this)
  obtain ⟨r6, e7, h⟩ := hx_bind h
  have F := F.tr (fr_X10_acted (r := r6.1) (X' := r6.2) e7 F.1 p_this)
  obtain ⟨rfl, rfl⟩ := hx_some2 h
  exact F
set_option maxRecDepth 100000 in
set_option maxHeartbeats 4000000 in
theorem fr_X10_adds {P : Nat → Prop} {L : hL} {X : hX} {this : Nat} {a1 : Int32} {a2 : Int32} {a3 : Int32} {a4 : Int32} {a5 : Int32} {r : Int32} {X' : hX} (h : f_X10_adds L X this a1 a2 a3 a4 a5 = some (r, X')) (hcl : Cl P X) (p_this : P this) : FR P X X' := by
  unfold f_X10_adds at h
  have F := FR.rf hcl
  obtain ⟨r1, e2, h⟩ := hx_bind h
  rcases hx_ite h with ⟨c3, h⟩ | ⟨c3, h⟩
  · skip
    obtain ⟨rfl, rfl⟩ := hx_some2 h
    exact F
  · skip
    obtain ⟨r4, e5, h⟩ := hx_bind h
    rcases hx_ite h with ⟨c6, h⟩ | ⟨c6, h⟩
    · skip
      obtain ⟨rfl, rfl⟩ := hx_some2 h
      exact F
    · skip
      obtain ⟨r7, e8, h⟩ := hx_bind h
      rcases hx_ite h with ⟨c9, h⟩ | ⟨c9, h⟩
      · skip
        obtain ⟨rfl, rfl⟩ := hx_some2 h
        exact F
      · skip
        obtain ⟨r10, e11, h⟩ := hx_bind h
        rcases hx_ite h with ⟨c12, h⟩ | ⟨c12, h⟩
        · skip
          obtain ⟨rfl, rfl⟩ := hx_some2 h
          exact F
        · skip
          obtain ⟨r13, e14, h⟩ := hx_bind h
          rcases hx_ite2 h with ⟨c15, h⟩ | ⟨c15, h⟩
          · skip
            obtain ⟨g16, h⟩ := hx_gd h
            obtain ⟨q17, e18, h⟩ := hx_bind h
            have p_q17 := F.1 _ _ _ p_this e18
            obtain ⟨g19, h⟩ := hx_gd h
            obtain ⟨g20, h⟩ := hx_gd h
            rcases hx_ite2 h with ⟨c21, h⟩ | ⟨c21, h⟩
            · skip
              obtain ⟨g22, h⟩ := hx_gd h
              obtain ⟨g23, h⟩ := hx_gd h
              obtain ⟨g24, h⟩ := hx_gd h
              obtain ⟨g25, h⟩ := hx_gd h
              obtain ⟨g26, h⟩ := hx_gd h
              obtain ⟨g27, h⟩ := hx_gd h
              obtain ⟨g28, h⟩ := hx_gd h
              obtain ⟨rfl, rfl⟩ := hx_some2 h
              exact (FR.smi (FR.smi (FR.smi (FR.smi (FR.smi (FR.smi (FR.smi (FR.smi F p_q17) p_q17) p_q17) p_q17) p_q17) p_q17) p_q17) p_q17)
            · skip
              obtain ⟨rfl, rfl⟩ := hx_some2 h
              exact F
          · skip
            obtain ⟨rfl, rfl⟩ := hx_some2 h
            exact F
set_option maxRecDepth 100000 in
set_option maxHeartbeats 4000000 in
theorem fr_X10_addPrize {P : Nat → Prop} {L : hL} {X : hX} {this : Nat} {a1 : Int32} {a2 : Int32} {a3 : Int32} {a4 : Int32} {a5 : Int32} {r : Int32} {X' : hX} (h : f_X10_addPrize L X this a1 a2 a3 a4 a5 = some (r, X')) (hcl : Cl P X) (p_this : P this) : FR P X X' := by
  unfold f_X10_addPrize at h
  have F := FR.rf hcl
  obtain ⟨r1, e2, h⟩ := hx_bind h
  have F := F.tr (fr_X10_keeps (X' := r1) e2 F.1 p_this)
  obtain ⟨g3, h⟩ := hx_gd h
  obtain ⟨r4, e5, h⟩ := hx_bind h
  have F := F.tr (fr_X10_adds (r := r4.1) (X' := r4.2) e5 F.1 p_this)
  obtain ⟨r6, e7, h⟩ := hx_bind h
  have F := F.tr (fr_X10_acted (r := r6.1) (X' := r6.2) e7 F.1 p_this)
  obtain ⟨rfl, rfl⟩ := hx_some2 h
  exact F
set_option maxRecDepth 100000 in
set_option maxHeartbeats 4000000 in
theorem fr_X10_removePrize_38 {P : Nat → Prop} {L : hL} : ∀ (n : Nat) (v0 : Nat) (v2 : Int32) (v3 : Int32) (X : hX) (r : Int32) (X' : hX), f_X10_removePrize_38 L n v0 v2 v3 X = some (r, X') → Cl P X → P v0 → FR P X X' := by
  intro n
  induction n with
  | zero => intro v0 v2 v3 X r X' h; cases h
  | succ n ih =>
    intro v0 v2 v3 X r X' h hcl p_v0
    rw [f_X10_removePrize_38] at h
    have F := FR.rf hcl
    obtain ⟨g1, h⟩ := hx_gd h
    obtain ⟨q2, e3, h⟩ := hx_bind h
    have p_q2 := F.1 _ _ _ p_v0 e3
    obtain ⟨g4, h⟩ := hx_gd h
    obtain ⟨g5, h⟩ := hx_gd h
    rcases hx_ite h with ⟨c6, h⟩ | ⟨c6, h⟩
    · skip
      obtain ⟨r7, e8, h⟩ := hx_bind h
      have F := F.tr (fr_X10_acted (r := r7.1) (X' := r7.2) e8 F.1 p_v0)
      obtain ⟨rfl, rfl⟩ := hx_some2 h
      exact F
    · skip
      obtain ⟨g9, h⟩ := hx_gd h
      obtain ⟨g10, h⟩ := hx_gd h
      exact FR.tr (FR.smi F p_q2) (ih v0 v2 (v3 + 1) (smi X q2 (Int32.toNatClampNeg (52 + v3)) (X.1 q2 (Int32.toNatClampNeg ((52 + v3) + 7)))) _ _ h ((FR.smi F p_q2)).1 p_v0)
set_option maxRecDepth 100000 in
set_option maxHeartbeats 4000000 in
theorem fr_X10_removePrize {P : Nat → Prop} {L : hL} {X : hX} {this : Nat} {a1 : Int32} {r : Int32} {X' : hX} (h : f_X10_removePrize L X this a1 = some (r, X')) (hcl : Cl P X) (p_this : P this) : FR P X X' := by
  unfold f_X10_removePrize at h
  have F := FR.rf hcl
  obtain ⟨r11, e12, h⟩ := hx_bind h
  obtain ⟨g13, h⟩ := hx_gd h
  rcases hx_ite2 h with ⟨c14, h⟩ | ⟨c14, h⟩
  · skip
    obtain ⟨r15, e16, h⟩ := hx_bind h
    have F := F.tr (fr_X10_keeps (X' := r15) e16 F.1 p_this)
    obtain ⟨r17, e18, h⟩ := hx_bind h
    obtain ⟨q19, e20, h⟩ := hx_bind h
    have p_q19 := F.1 _ _ _ p_this e20
    obtain ⟨g21, h⟩ := hx_gd h
    obtain ⟨g22, h⟩ := hx_gd h
    exact FR.tr (FR.smi F p_q19) (fr_X10_removePrize_38 u_fuel this r17 (7 * a1) (smi r15 q19 15 ((r15.1 q19 15) - 1)) _ _ h ((FR.smi F p_q19)).1 p_this)
  · skip
    obtain ⟨rfl, rfl⟩ := hx_some2 h
    exact F
set_option maxRecDepth 100000 in
set_option maxHeartbeats 4000000 in
theorem fr_X10_setPrice {P : Nat → Prop} {L : hL} {X : hX} {this : Nat} {a1 : Int32} {a2 : Int32} {r : Int32} {X' : hX} (h : f_X10_setPrice L X this a1 a2 = some (r, X')) (hcl : Cl P X) (p_this : P this) : FR P X X' := by
  unfold f_X10_setPrice at h
  have F := FR.rf hcl
  obtain ⟨r1, e2, h⟩ := hx_bind h
  obtain ⟨g3, h⟩ := hx_gd h
  rcases hx_ite2 h with ⟨c4, h⟩ | ⟨c4, h⟩
  · skip
    obtain ⟨r5, e6, h⟩ := hx_bind h
    have F := F.tr (fr_X10_keeps (X' := r5) e6 F.1 p_this)
    obtain ⟨r7, e8, h⟩ := hx_bind h
    have F := F.tr (fr_X10_sets (r := r7.1) (X' := r7.2) e8 F.1 p_this)
    obtain ⟨r9, e10, h⟩ := hx_bind h
    have F := F.tr (fr_X10_acted (r := r9.1) (X' := r9.2) e10 F.1 p_this)
    obtain ⟨rfl, rfl⟩ := hx_some2 h
    exact F
  · skip
    obtain ⟨rfl, rfl⟩ := hx_some2 h
    exact F
set_option maxRecDepth 100000 in
set_option maxHeartbeats 4000000 in
theorem fr_X10_buys {P : Nat → Prop} {L : hL} {X : hX} {this : Nat} {a1 : Int32} {a2 : Int32} {a3 : Int32} {r : Int32} {X' : hX} (h : f_X10_buys L X this a1 a2 a3 = some (r, X')) (hcl : Cl P X) (p_this : P this) : FR P X X' := by
  unfold f_X10_buys at h
  have F := FR.rf hcl
  obtain ⟨r1, e2, h⟩ := hx_bind h
  obtain ⟨g3, h⟩ := hx_gd h
  rcases hx_ite h with ⟨c4, h⟩ | ⟨c4, h⟩
  · skip
    obtain ⟨rfl, rfl⟩ := hx_some2 h
    exact F
  · skip
    obtain ⟨r5, e6, h⟩ := hx_bind h
    rcases hx_ite h with ⟨c7, h⟩ | ⟨c7, h⟩
    · skip
      obtain ⟨rfl, rfl⟩ := hx_some2 h
      exact F
    · skip
      obtain ⟨r8, e9, h⟩ := hx_bind h
      rcases hx_ite2 h with ⟨c10, h⟩ | ⟨c10, h⟩
      · skip
        obtain ⟨r11, e12, h⟩ := hx_bind h
        obtain ⟨r13, e14, h⟩ := hx_bind h
        rcases hx_ite h with ⟨c15, h⟩ | ⟨c15, h⟩
        · skip
          obtain ⟨r16, e17, h⟩ := hx_bind h
          rcases hx_ite h with ⟨c18, h⟩ | ⟨c18, h⟩
          · skip
            obtain ⟨q19, e20, h⟩ := hx_bind h
            have p_q19 := F.1 _ _ _ p_this e20
            obtain ⟨g21, h⟩ := hx_gd h
            obtain ⟨g22, h⟩ := hx_gd h
            obtain ⟨r23, e24, h⟩ := hx_bind h
            obtain ⟨g25, h⟩ := hx_gd h
            obtain ⟨g26, h⟩ := hx_gd h
            obtain ⟨g27, h⟩ := hx_gd h
            obtain ⟨g28, h⟩ := hx_gd h
            obtain ⟨g29, h⟩ := hx_gd h
            obtain ⟨g30, h⟩ := hx_gd h
            obtain ⟨g31, h⟩ := hx_gd h
            obtain ⟨r32, e33, h⟩ := hx_bind h
            obtain ⟨g34, h⟩ := hx_gd h
            obtain ⟨r35, e36, h⟩ := hx_bind h
            obtain ⟨rfl, rfl⟩ := hx_some2 h
            exact (FR.smi (FR.smi (FR.smi (FR.smi F p_q19) p_q19) p_q19) p_q19)
          · skip
            obtain ⟨rfl, rfl⟩ := hx_some2 h
            exact F
        · skip
          obtain ⟨rfl, rfl⟩ := hx_some2 h
          exact F
      · skip
        obtain ⟨rfl, rfl⟩ := hx_some2 h
        exact F
set_option maxRecDepth 100000 in
set_option maxHeartbeats 4000000 in
theorem fr_X10_buy {P : Nat → Prop} {L : hL} {X : hX} {this : Nat} {a1 : Int32} {a2 : Int32} {a3 : Int32} {r : Int32} {X' : hX} (h : f_X10_buy L X this a1 a2 a3 = some (r, X')) (hcl : Cl P X) (p_this : P this) : FR P X X' := by
  unfold f_X10_buy at h
  have F := FR.rf hcl
  obtain ⟨r1, e2, h⟩ := hx_bind h
  have F := F.tr (fr_X10_keeps (X' := r1) e2 F.1 p_this)
  obtain ⟨g3, h⟩ := hx_gd h
  obtain ⟨r4, e5, h⟩ := hx_bind h
  have F := F.tr (fr_X10_buys (r := r4.1) (X' := r4.2) e5 F.1 p_this)
  obtain ⟨r6, e7, h⟩ := hx_bind h
  have F := F.tr (fr_X10_acted (r := r6.1) (X' := r6.2) e7 F.1 p_this)
  obtain ⟨rfl, rfl⟩ := hx_some2 h
  exact F
set_option maxRecDepth 100000 in
set_option maxHeartbeats 4000000 in
theorem fr_X10_take_33 {P : Nat → Prop} {L : hL} : ∀ (n : Nat) (v0 : Nat) (v2 : Int32) (v3 : Int32) (X : hX) (r : Int32) (X' : hX), f_X10_take_33 L n v0 v2 v3 X = some (r, X') → Cl P X → P v0 → FR P X X' := by
  intro n
  induction n with
  | zero => intro v0 v2 v3 X r X' h; cases h
  | succ n ih =>
    intro v0 v2 v3 X r X' h hcl p_v0
    rw [f_X10_take_33] at h
    have F := FR.rf hcl
    rcases hx_ite h with ⟨c1, h⟩ | ⟨c1, h⟩
    · skip
      obtain ⟨r2, e3, h⟩ := hx_bind h
      obtain ⟨g4, h⟩ := hx_gd h
      obtain ⟨r5, e6, h⟩ := hx_bind h
      have F := F.tr (fr_X10_acted (r := r5.1) (X' := r5.2) e6 F.1 p_v0)
      obtain ⟨rfl, rfl⟩ := hx_some2 h
      exact F
    · skip
      obtain ⟨g7, h⟩ := hx_gd h
      obtain ⟨q8, e9, h⟩ := hx_bind h
      have p_q8 := F.1 _ _ _ p_v0 e9
      obtain ⟨g10, h⟩ := hx_gd h
      obtain ⟨g11, h⟩ := hx_gd h
      obtain ⟨g12, h⟩ := hx_gd h
      exact FR.tr (FR.smi F p_q8) (ih v0 v2 (v3 + 1) (smi X q8 (Int32.toNatClampNeg ((v2 + 1) + v3)) (X.1 q8 (Int32.toNatClampNeg v3))) _ _ h ((FR.smi F p_q8)).1 p_v0)
set_option maxRecDepth 100000 in
set_option maxHeartbeats 4000000 in
theorem fr_X10_take {P : Nat → Prop} {L : hL} {X : hX} {this : Nat} {a1 : Int32} {r : Int32} {X' : hX} (h : f_X10_take L X this a1 = some (r, X')) (hcl : Cl P X) (p_this : P this) : FR P X X' := by
  unfold f_X10_take at h
  have F := FR.rf hcl
  obtain ⟨r13, e14, h⟩ := hx_bind h
  rcases hx_ite2 h with ⟨c15, h⟩ | ⟨c15, h⟩
  · skip
    obtain ⟨r16, e17, h⟩ := hx_bind h
    have F := F.tr (fr_X10_keeps (X' := r16) e17 F.1 p_this)
    obtain ⟨g18, h⟩ := hx_gd h
    obtain ⟨q19, e20, h⟩ := hx_bind h
    have p_q19 := F.1 _ _ _ p_this e20
    obtain ⟨g21, h⟩ := hx_gd h
    obtain ⟨g22, h⟩ := hx_gd h
    exact FR.tr (FR.smi F p_q19) (fr_X10_take_33 u_fuel this (94 + (95 * a1)) 0 (smi r16 q19 (Int32.toNatClampNeg (94 + (95 * a1))) 1) _ _ h ((FR.smi F p_q19)).1 p_this)
  · skip
    obtain ⟨rfl, rfl⟩ := hx_some2 h
    exact F
set_option maxRecDepth 100000 in
set_option maxHeartbeats 4000000 in
theorem fr_X10_restore_38 {P : Nat → Prop} {L : hL} : ∀ (n : Nat) (v0 : Nat) (v2 : Int32) (v3 : Int32) (X : hX) (r : Int32) (X' : hX), f_X10_restore_38 L n v0 v2 v3 X = some (r, X') → Cl P X → P v0 → FR P X X' := by
  intro n
  induction n with
  | zero => intro v0 v2 v3 X r X' h; cases h
  | succ n ih =>
    intro v0 v2 v3 X r X' h hcl p_v0
    rw [f_X10_restore_38] at h
    have F := FR.rf hcl
    rcases hx_ite h with ⟨c1, h⟩ | ⟨c1, h⟩
    · skip
      obtain ⟨r2, e3, h⟩ := hx_bind h
      obtain ⟨g4, h⟩ := hx_gd h
      obtain ⟨r5, e6, h⟩ := hx_bind h
      have F := F.tr (fr_X10_acted (r := r5.1) (X' := r5.2) e6 F.1 p_v0)
      obtain ⟨rfl, rfl⟩ := hx_some2 h
      exact F
    · skip
      obtain ⟨g7, h⟩ := hx_gd h
      obtain ⟨q8, e9, h⟩ := hx_bind h
      have p_q8 := F.1 _ _ _ p_v0 e9
      obtain ⟨g10, h⟩ := hx_gd h
      obtain ⟨g11, h⟩ := hx_gd h
      obtain ⟨g12, h⟩ := hx_gd h
      exact FR.tr (FR.smi F p_q8) (ih v0 v2 (v3 + 1) (smi X q8 (Int32.toNatClampNeg v3) (X.1 q8 (Int32.toNatClampNeg ((v2 + 1) + v3)))) _ _ h ((FR.smi F p_q8)).1 p_v0)
set_option maxRecDepth 100000 in
set_option maxHeartbeats 4000000 in
theorem fr_X10_restore {P : Nat → Prop} {L : hL} {X : hX} {this : Nat} {a1 : Int32} {r : Int32} {X' : hX} (h : f_X10_restore L X this a1 = some (r, X')) (hcl : Cl P X) (p_this : P this) : FR P X X' := by
  unfold f_X10_restore at h
  have F := FR.rf hcl
  obtain ⟨r13, e14, h⟩ := hx_bind h
  rcases hx_ite2 h with ⟨c15, h⟩ | ⟨c15, h⟩
  · skip
    obtain ⟨g16, h⟩ := hx_gd h
    obtain ⟨q17, e18, h⟩ := hx_bind h
    have p_q17 := F.1 _ _ _ p_this e18
    obtain ⟨g19, h⟩ := hx_gd h
    obtain ⟨g20, h⟩ := hx_gd h
    rcases hx_ite2 h with ⟨c21, h⟩ | ⟨c21, h⟩
    · skip
      obtain ⟨r22, e23, h⟩ := hx_bind h
      have F := F.tr (fr_X10_keeps (X' := r22) e23 F.1 p_this)
      exact FR.tr F (fr_X10_restore_38 u_fuel this (94 + (95 * a1)) 0 r22 _ _ h (FR.tr F (FR.rf F.1)).1 p_this)
    · skip
      obtain ⟨rfl, rfl⟩ := hx_some2 h
      exact F
  · skip
    obtain ⟨rfl, rfl⟩ := hx_some2 h
    exact F
set_option maxRecDepth 100000 in
set_option maxHeartbeats 4000000 in
theorem fr_X10_undo_22 {P : Nat → Prop} {L : hL} : ∀ (n : Nat) (v0 : Nat) (v1 : Int32) (X : hX) (r : Int32) (X' : hX), f_X10_undo_22 L n v0 v1 X = some (r, X') → Cl P X → P v0 → FR P X X' := by
  intro n
  induction n with
  | zero => intro v0 v1 X r X' h; cases h
  | succ n ih =>
    intro v0 v1 X r X' h hcl p_v0
    rw [f_X10_undo_22] at h
    have F := FR.rf hcl
    rcases hx_ite h with ⟨c1, h⟩ | ⟨c1, h⟩
    · skip
      obtain ⟨g2, h⟩ := hx_gd h
      obtain ⟨rfl, rfl⟩ := hx_some2 h
      exact F
    · skip
      obtain ⟨g3, h⟩ := hx_gd h
      obtain ⟨q4, e5, h⟩ := hx_bind h
      have p_q4 := F.1 _ _ _ p_v0 e5
      obtain ⟨q6, e7, h⟩ := hx_bind h
      have p_q6 := F.1 _ _ _ p_v0 e7
      obtain ⟨g8, h⟩ := hx_gd h
      obtain ⟨g9, h⟩ := hx_gd h
      obtain ⟨g10, h⟩ := hx_gd h
      obtain ⟨g11, h⟩ := hx_gd h
      exact FR.tr (FR.smi F p_q4) (ih v0 (v1 + 1) (smi X q4 (Int32.toNatClampNeg v1) (X.1 q6 (Int32.toNatClampNeg ((284 * (X.1 v0 4)) + v1)))) _ _ h ((FR.smi F p_q4)).1 p_v0)
set_option maxRecDepth 100000 in
set_option maxHeartbeats 4000000 in
theorem fr_X10_undo {P : Nat → Prop} {L : hL} {X : hX} {this : Nat} {r : Int32} {X' : hX} (h : f_X10_undo L X this = some (r, X')) (hcl : Cl P X) (p_this : P this) : FR P X X' := by
  unfold f_X10_undo at h
  have F := FR.rf hcl
  obtain ⟨g12, h⟩ := hx_gd h
  rcases hx_ite2 h with ⟨c13, h⟩ | ⟨c13, h⟩
  · skip
    exact FR.tr (FR.smi F p_this) (fr_X10_undo_22 u_fuel this 0 (smi X this 4 ((X.1 this 4) - 1)) _ _ h ((FR.smi F p_this)).1 p_this)
  · skip
    obtain ⟨rfl, rfl⟩ := hx_some2 h
    exact F
set_option maxRecDepth 100000 in
set_option maxHeartbeats 4000000 in
theorem fr_X10_append {P : Nat → Prop} {L : hL} {X : hX} {this : Nat} {a1 : Int32} {r : Int32} {X' : hX} (h : f_X10_append L X this a1 = some (r, X')) (hcl : Cl P X) (p_this : P this) : FR P X X' := by
  unfold f_X10_append at h
  have F := FR.rf hcl
  obtain ⟨r1, e2, h⟩ := hx_bind h
  rcases hx_ite2 h with ⟨c3, h⟩ | ⟨c3, h⟩
  · skip
    obtain ⟨g4, h⟩ := hx_gd h
    rcases hx_ite2 h with ⟨c5, h⟩ | ⟨c5, h⟩
    · skip
      obtain ⟨q6, e7, h⟩ := hx_bind h
      have p_q6 := F.1 _ _ _ p_this e7
      obtain ⟨g8, h⟩ := hx_gd h
      obtain ⟨g9, h⟩ := hx_gd h
      obtain ⟨rfl, rfl⟩ := hx_some2 h
      exact (FR.smi (FR.smi F p_q6) p_this)
    · skip
      obtain ⟨rfl, rfl⟩ := hx_some2 h
      exact F
  · skip
    obtain ⟨rfl, rfl⟩ := hx_some2 h
    exact F
set_option maxRecDepth 100000 in
set_option maxHeartbeats 4000000 in
theorem fr_X10_clearText {P : Nat → Prop} {L : hL} {X : hX} {this : Nat} {r : Int32} {X' : hX} (h : f_X10_clearText L X this = some (r, X')) (hcl : Cl P X) (p_this : P this) : FR P X X' := by
  unfold f_X10_clearText at h
  have F := FR.rf hcl
  obtain ⟨g1, h⟩ := hx_gd h
  obtain ⟨rfl, rfl⟩ := hx_some2 h
  exact (FR.smi F p_this)
set_option maxRecDepth 100000 in
set_option maxHeartbeats 4000000 in
theorem fr_X10_reads_134 {P : Nat → Prop} {L : hL} (k96 : Nat → hX → Option (hX)) (hk96 : ∀ (v0 : Nat) (X : hX) (X' : hX), k96 v0 X = some X' → Cl P X → P v0 → FR P X X') : ∀ (v0 : Nat) (X : hX) (X' : hX), f_X10_reads_134 L k96 v0 X = some X' → Cl P X → P v0 → FR P X X' := by
  intro v0 X X' h hcl p_v0
  unfold f_X10_reads_134 at h
  have F := FR.rf hcl
  obtain ⟨g1, h⟩ := hx_gd h
  exact FR.tr (FR.smi F p_v0) (hk96 v0 (smi X v0 10 ((X.1 v0 10) + 1)) _ h ((FR.smi F p_v0)).1 p_v0)
set_option maxRecDepth 100000 in
set_option maxHeartbeats 4000000 in
theorem fr_X10_reads_147 {P : Nat → Prop} {L : hL} : ∀ (v0 : Nat) (X : hX) (X' : hX), f_X10_reads_147 L v0 X = some X' → Cl P X → P v0 → FR P X X' := by
  intro v0 X X' h hcl p_v0
  unfold f_X10_reads_147 at h
  have F := FR.rf hcl
  obtain ⟨g2, h⟩ := hx_gd h
  rcases hx_ite2 h with ⟨c3, h⟩ | ⟨c3, h⟩
  · skip
    obtain rfl := hx_some1 h
    exact (FR.smi F p_v0)
  · skip
    obtain rfl := hx_some1 h
    exact (FR.smi F p_v0)
set_option maxRecDepth 100000 in
set_option maxHeartbeats 4000000 in
theorem fr_X10_reads_115 {P : Nat → Prop} {L : hL} (k96 : Nat → hX → Option (hX)) (hk96 : ∀ (v0 : Nat) (X : hX) (X' : hX), k96 v0 X = some X' → Cl P X → P v0 → FR P X X') : ∀ (v0 : Nat) (X : hX) (X' : hX), f_X10_reads_115 L k96 v0 X = some X' → Cl P X → P v0 → FR P X X' := by
  intro v0 X X' h hcl p_v0
  unfold f_X10_reads_115 at h
  have F := FR.rf hcl
  obtain ⟨g4, h⟩ := hx_gd h
  rcases hx_ite2 h with ⟨c5, h⟩ | ⟨c5, h⟩
  · skip
    exact FR.tr F (fr_X10_reads_147 v0 X _ h (FR.tr F (FR.rf F.1)).1 p_v0)
  · skip
    obtain ⟨r6, e7, h⟩ := hx_bind h
    rcases hx_ite h with ⟨c8, h⟩ | ⟨c8, h⟩
    · skip
      exact FR.tr F (fr_X10_reads_147 v0 X _ h (FR.tr F (FR.rf F.1)).1 p_v0)
    · skip
      exact FR.tr F (fr_X10_reads_134 k96 hk96 v0 X _ h (FR.tr F (FR.rf F.1)).1 p_v0)
set_option maxRecDepth 100000 in
set_option maxHeartbeats 4000000 in
theorem fr_X10_reads_96 {P : Nat → Prop} {L : hL} : ∀ (n : Nat) (v0 : Nat) (X : hX) (X' : hX), f_X10_reads_96 L n v0 X = some X' → Cl P X → P v0 → FR P X X' := by
  intro n
  induction n with
  | zero => intro v0 X X' h; cases h
  | succ n ih =>
    intro v0 X X' h hcl p_v0
    rw [f_X10_reads_96] at h
    have F := FR.rf hcl
    obtain ⟨g9, h⟩ := hx_gd h
    rcases hx_ite2 h with ⟨c10, h⟩ | ⟨c10, h⟩
    · skip
      exact FR.tr F (fr_X10_reads_115 (f_X10_reads_96 L n) ih v0 X _ h (FR.tr F (FR.rf F.1)).1 p_v0)
    · skip
      obtain ⟨r11, e12, h⟩ := hx_bind h
      rcases hx_ite2 h with ⟨c13, h⟩ | ⟨c13, h⟩
      · skip
        exact FR.tr F (fr_X10_reads_134 (f_X10_reads_96 L n) ih v0 X _ h (FR.tr F (FR.rf F.1)).1 p_v0)
      · skip
        exact FR.tr F (fr_X10_reads_115 (f_X10_reads_96 L n) ih v0 X _ h (FR.tr F (FR.rf F.1)).1 p_v0)
set_option maxRecDepth 100000 in
set_option maxHeartbeats 4000000 in
theorem fr_X10_reads_93 {P : Nat → Prop} {L : hL} : ∀ (v0 : Nat) (s0 : Int32) (s1 : Nat) (X : hX) (X' : hX), f_X10_reads_93 L v0 s0 s1 X = some X' → Cl P X → P v0 → P s1 → FR P X X' := by
  intro v0 s0 s1 X X' h hcl p_v0 p_s1
  unfold f_X10_reads_93 at h
  have F := FR.rf hcl
  obtain ⟨g14, h⟩ := hx_gd h
  exact FR.tr (FR.smi F p_s1) (fr_X10_reads_96 u_fuel v0 (smi X s1 11 s0) _ h ((FR.smi F p_s1)).1 p_v0)
set_option maxRecDepth 100000 in
set_option maxHeartbeats 4000000 in
theorem fr_X10_reads_38 {P : Nat → Prop} {L : hL} : ∀ (v0 : Nat) (X : hX) (X' : hX), f_X10_reads_38 L v0 X = some X' → Cl P X → P v0 → FR P X X' := by
  intro v0 X X' h hcl p_v0
  unfold f_X10_reads_38 at h
  have F := FR.rf hcl
  obtain ⟨g15, h⟩ := hx_gd h
  rcases hx_ite2 h with ⟨c16, h⟩ | ⟨c16, h⟩
  · skip
    obtain ⟨r17, e18, h⟩ := hx_bind h
    rcases hx_ite h with ⟨c19, h⟩ | ⟨c19, h⟩
    · skip
      obtain ⟨r20, e21, h⟩ := hx_bind h
      rcases hx_ite h with ⟨c22, h⟩ | ⟨c22, h⟩
      · skip
        exact FR.tr (FR.smi F p_v0) (fr_X10_reads_93 v0 3 v0 (smi X v0 9 (X.1 v0 10)) _ h ((FR.smi F p_v0)).1 p_v0 p_v0)
      · skip
        exact FR.tr (FR.smi F p_v0) (fr_X10_reads_93 v0 2 v0 (smi X v0 9 (X.1 v0 10)) _ h ((FR.smi F p_v0)).1 p_v0 p_v0)
    · skip
      exact FR.tr (FR.smi F p_v0) (fr_X10_reads_93 v0 1 v0 (smi X v0 9 (X.1 v0 10)) _ h ((FR.smi F p_v0)).1 p_v0 p_v0)
  · skip
    exact FR.tr (FR.smi F p_v0) (fr_X10_reads_93 v0 0 v0 (smi X v0 9 (X.1 v0 10)) _ h ((FR.smi F p_v0)).1 p_v0 p_v0)
set_option maxRecDepth 100000 in
set_option maxHeartbeats 4000000 in
theorem fr_X10_reads_0 {P : Nat → Prop} {L : hL} : ∀ (n : Nat) (v0 : Nat) (X : hX) (X' : hX), f_X10_reads_0 L n v0 X = some X' → Cl P X → P v0 → FR P X X' := by
  intro n
  induction n with
  | zero => intro v0 X X' h; cases h
  | succ n ih =>
    intro v0 X X' h hcl p_v0
    rw [f_X10_reads_0] at h
    have F := FR.rf hcl
    obtain ⟨g23, h⟩ := hx_gd h
    rcases hx_ite h with ⟨c24, h⟩ | ⟨c24, h⟩
    · skip
      exact FR.tr F (fr_X10_reads_38 v0 X _ h (FR.tr F (FR.rf F.1)).1 p_v0)
    · skip
      obtain ⟨q25, e26, h⟩ := hx_bind h
      have p_q25 := F.1 _ _ _ p_v0 e26
      obtain ⟨g27, h⟩ := hx_gd h
      obtain ⟨g28, h⟩ := hx_gd h
      rcases hx_ite2 h with ⟨c29, h⟩ | ⟨c29, h⟩
      · skip
        exact FR.tr F (fr_X10_reads_38 v0 X _ h (FR.tr F (FR.rf F.1)).1 p_v0)
      · skip
        exact FR.tr (FR.smi F p_v0) (ih v0 (smi X v0 10 ((X.1 v0 10) + 1)) _ h ((FR.smi F p_v0)).1 p_v0)
set_option maxRecDepth 100000 in
set_option maxHeartbeats 4000000 in
theorem fr_X10_reads {P : Nat → Prop} {L : hL} {X : hX} {this : Nat} {X' : hX} (h : f_X10_reads L X this = some X') (hcl : Cl P X) (p_this : P this) : FR P X X' := by
  unfold f_X10_reads at h
  have F := FR.rf hcl
  exact FR.tr F (fr_X10_reads_0 u_fuel this X _ h (FR.tr F (FR.rf F.1)).1 p_this)
set_option maxRecDepth 100000 in
set_option maxHeartbeats 4000000 in
theorem fr_X10_does {P : Nat → Prop} {L : hL} {X : hX} {this : Nat} {a1 : Int32} {r : Int32} {X' : hX} (h : f_X10_does L X this a1 = some (r, X')) (hcl : Cl P X) (p_this : P this) : FR P X X' := by
  unfold f_X10_does at h
  have F := FR.rf hcl
  by_cases c1 : a1 = 114085
  · have h := hx_pos c1 h
    obtain ⟨g2, h⟩ := hx_gd h
    obtain ⟨q3, e4, h⟩ := hx_bind h
    have p_q3 := F.1 _ _ _ p_this e4
    obtain ⟨g5, h⟩ := hx_gd h
    obtain ⟨g6, h⟩ := hx_gd h
    obtain ⟨r7, e8, h⟩ := hx_bind h
    have F := F.tr (fr_X10_comes (r := r7.1) (X' := r7.2) e8 F.1 p_this)
    obtain ⟨rfl, rfl⟩ := hx_some2 h
    exact F
  have h := hx_neg c1 h
  by_cases c9 : a1 = 370116
  · have h := hx_pos c9 h
    obtain ⟨g10, h⟩ := hx_gd h
    obtain ⟨q11, e12, h⟩ := hx_bind h
    have p_q11 := F.1 _ _ _ p_this e12
    obtain ⟨g13, h⟩ := hx_gd h
    obtain ⟨g14, h⟩ := hx_gd h
    obtain ⟨g15, h⟩ := hx_gd h
    obtain ⟨g16, h⟩ := hx_gd h
    obtain ⟨r17, e18, h⟩ := hx_bind h
    have F := F.tr (fr_X10_kinds (r := r17.1) (X' := r17.2) e18 F.1 p_this)
    obtain ⟨rfl, rfl⟩ := hx_some2 h
    exact F
  have h := hx_neg c9 h
  by_cases c19 : a1 = 611717
  · have h := hx_pos c19 h
    obtain ⟨g20, h⟩ := hx_gd h
    obtain ⟨q21, e22, h⟩ := hx_bind h
    have p_q21 := F.1 _ _ _ p_this e22
    obtain ⟨g23, h⟩ := hx_gd h
    obtain ⟨g24, h⟩ := hx_gd h
    obtain ⟨r25, e26, h⟩ := hx_bind h
    have F := F.tr (fr_X10_sets (r := r25.1) (X' := r25.2) e26 F.1 p_this)
    obtain ⟨rfl, rfl⟩ := hx_some2 h
    exact F
  have h := hx_neg c19 h
  by_cases c27 : a1 = 3540269
  · have h := hx_pos c27 h
    obtain ⟨g28, h⟩ := hx_gd h
    obtain ⟨q29, e30, h⟩ := hx_bind h
    have p_q29 := F.1 _ _ _ p_this e30
    obtain ⟨g31, h⟩ := hx_gd h
    obtain ⟨g32, h⟩ := hx_gd h
    obtain ⟨g33, h⟩ := hx_gd h
    obtain ⟨r34, e35, h⟩ := hx_bind h
    have F := F.tr (fr_X10_claims (r := r34.1) (X' := r34.2) e35 F.1 p_this)
    obtain ⟨rfl, rfl⟩ := hx_some2 h
    exact F
  have h := hx_neg c27 h
  by_cases c36 : a1 = 17377093
  · have h := hx_pos c36 h
    obtain ⟨g37, h⟩ := hx_gd h
    obtain ⟨q38, e39, h⟩ := hx_bind h
    have p_q38 := F.1 _ _ _ p_this e39
    obtain ⟨g40, h⟩ := hx_gd h
    obtain ⟨g41, h⟩ := hx_gd h
    obtain ⟨g42, h⟩ := hx_gd h
    obtain ⟨g43, h⟩ := hx_gd h
    obtain ⟨g44, h⟩ := hx_gd h
    obtain ⟨g45, h⟩ := hx_gd h
    obtain ⟨r46, e47, h⟩ := hx_bind h
    have F := F.tr (fr_X10_adds (r := r46.1) (X' := r46.2) e47 F.1 p_this)
    obtain ⟨rfl, rfl⟩ := hx_some2 h
    exact F
  have h := hx_neg c36 h
  by_cases c48 : a1 = 20022661
  · have h := hx_pos c48 h
    obtain ⟨g49, h⟩ := hx_gd h
    obtain ⟨q50, e51, h⟩ := hx_bind h
    have p_q50 := F.1 _ _ _ p_this e51
    obtain ⟨g52, h⟩ := hx_gd h
    obtain ⟨g53, h⟩ := hx_gd h
    obtain ⟨g54, h⟩ := hx_gd h
    obtain ⟨r55, e56, h⟩ := hx_bind h
    have F := F.tr (fr_X10_scales (r := r55.1) (X' := r55.2) e56 F.1 p_this)
    obtain ⟨rfl, rfl⟩ := hx_some2 h
    exact F
  have h := hx_neg c48 h
  by_cases c57 : a1 = 24290536
  · have h := hx_pos c57 h
    obtain ⟨g58, h⟩ := hx_gd h
    obtain ⟨q59, e60, h⟩ := hx_bind h
    have p_q59 := F.1 _ _ _ p_this e60
    obtain ⟨g61, h⟩ := hx_gd h
    obtain ⟨g62, h⟩ := hx_gd h
    obtain ⟨g63, h⟩ := hx_gd h
    obtain ⟨g64, h⟩ := hx_gd h
    obtain ⟨r65, e66, h⟩ := hx_bind h
    have F := F.tr (fr_X10_weighs (r := r65.1) (X' := r65.2) e66 F.1 p_this)
    obtain ⟨rfl, rfl⟩ := hx_some2 h
    exact F
  have h := hx_neg c57 h
  obtain ⟨g67, h⟩ := hx_gd h
  obtain ⟨q68, e69, h⟩ := hx_bind h
  have p_q68 := F.1 _ _ _ p_this e69
  obtain ⟨g70, h⟩ := hx_gd h
  obtain ⟨g71, h⟩ := hx_gd h
  obtain ⟨g72, h⟩ := hx_gd h
  obtain ⟨g73, h⟩ := hx_gd h
  obtain ⟨r74, e75, h⟩ := hx_bind h
  have F := F.tr (fr_X10_buys (r := r74.1) (X' := r74.2) e75 F.1 p_this)
  obtain ⟨rfl, rfl⟩ := hx_some2 h
  exact F
set_option maxRecDepth 100000 in
set_option maxHeartbeats 4000000 in
theorem fr_X10_fails_65 {P : Nat → Prop} {L : hL} : ∀ (v0 : Nat) (v2 : Int32) (v3 : Int32) (v4 : Int32) (s0 : Int32) (s1 : Int32) (s2 : Nat) (X : hX) (r : Int32) (X' : hX), f_X10_fails_65 L v0 v2 v3 v4 s0 s1 s2 X = some (r, X') → Cl P X → P v0 → P s2 → FR P X X' := by
  intro v0 v2 v3 v4 s0 s1 s2 X r X' h hcl p_v0 p_s2
  unfold f_X10_fails_65 at h
  have F := FR.rf hcl
  obtain ⟨g1, h⟩ := hx_gd h
  obtain ⟨g2, h⟩ := hx_gd h
  obtain ⟨g3, h⟩ := hx_gd h
  obtain ⟨q4, e5, h⟩ := hx_bind h
  have p_q4 := F.1 _ _ _ p_v0 e5
  obtain ⟨g6, h⟩ := hx_gd h
  obtain ⟨g7, h⟩ := hx_gd h
  obtain ⟨g8, h⟩ := hx_gd h
  obtain ⟨rfl, rfl⟩ := hx_some2 h
  exact (FR.smi (FR.smi (FR.smi F p_s2) p_q4) p_q4)
set_option maxRecDepth 100000 in
set_option maxHeartbeats 4000000 in
theorem fr_X10_fails_3 {P : Nat → Prop} {L : hL} : ∀ (n : Nat) (v0 : Nat) (v1 : Int32) (v2 : Int32) (v3 : Int32) (v4 : Int32) (v5 : Int32) (X : hX) (r : Int32) (X' : hX), f_X10_fails_3 L n v0 v1 v2 v3 v4 v5 X = some (r, X') → Cl P X → P v0 → FR P X X' := by
  intro n
  induction n with
  | zero => intro v0 v1 v2 v3 v4 v5 X r X' h; cases h
  | succ n ih =>
    intro v0 v1 v2 v3 v4 v5 X r X' h hcl p_v0
    rw [f_X10_fails_3] at h
    have F := FR.rf hcl
    rcases hx_ite h with ⟨c9, h⟩ | ⟨c9, h⟩
    · skip
      obtain ⟨g10, h⟩ := hx_gd h
      obtain ⟨q11, e12, h⟩ := hx_bind h
      have p_q11 := F.1 _ _ _ p_v0 e12
      obtain ⟨g13, h⟩ := hx_gd h
      obtain ⟨g14, h⟩ := hx_gd h
      obtain ⟨g15, h⟩ := hx_gd h
      rcases hx_ite2 h with ⟨c16, h⟩ | ⟨c16, h⟩
      · skip
        exact FR.tr (FR.smi (FR.smi (FR.smi F p_v0) p_q11) p_q11) (fr_X10_fails_65 v0 v2 v3 v4 2 2 q11 (smi (smi (smi X v0 8 1) q11 0 v1) q11 1 v2) _ _ h ((FR.smi (FR.smi (FR.smi F p_v0) p_q11) p_q11)).1 p_v0 p_q11)
      · skip
        exact FR.tr (FR.smi (FR.smi (FR.smi F p_v0) p_q11) p_q11) (fr_X10_fails_65 v0 v2 v3 v4 1 2 q11 (smi (smi (smi X v0 8 1) q11 0 v1) q11 1 v2) _ _ h ((FR.smi (FR.smi (FR.smi F p_v0) p_q11) p_q11)).1 p_v0 p_q11)
    · skip
      obtain ⟨g17, h⟩ := hx_gd h
      obtain ⟨q18, e19, h⟩ := hx_bind h
      have p_q18 := F.1 _ _ _ p_v0 e19
      obtain ⟨q20, e21, h⟩ := hx_bind h
      have p_q20 := F.1 _ _ _ p_v0 e21
      obtain ⟨g22, h⟩ := hx_gd h
      obtain ⟨g23, h⟩ := hx_gd h
      obtain ⟨g24, h⟩ := hx_gd h
      obtain ⟨g25, h⟩ := hx_gd h
      exact FR.tr (FR.smi F p_q18) (ih v0 v1 v2 v3 v4 (v5 + 1) (smi X q18 (Int32.toNatClampNeg v5) (X.1 q20 (Int32.toNatClampNeg v5))) _ _ h ((FR.smi F p_q18)).1 p_v0)
set_option maxRecDepth 100000 in
set_option maxHeartbeats 4000000 in
theorem fr_X10_fails {P : Nat → Prop} {L : hL} {X : hX} {this : Nat} {a1 : Int32} {a2 : Int32} {a3 : Int32} {a4 : Int32} {r : Int32} {X' : hX} (h : f_X10_fails L X this a1 a2 a3 a4 = some (r, X')) (hcl : Cl P X) (p_this : P this) : FR P X X' := by
  unfold f_X10_fails at h
  have F := FR.rf hcl
  exact FR.tr F (fr_X10_fails_3 u_fuel this a1 a2 a3 a4 0 X _ _ h (FR.tr F (FR.rf F.1)).1 p_this)
set_option maxRecDepth 100000 in
set_option maxHeartbeats 4000000 in
theorem fr_X10_readsNumbers_2 {P : Nat → Prop} {L : hL} : ∀ (n : Nat) (v0 : Nat) (v1 : Int32) (v2 : Int32) (X : hX) (r : Int32) (X' : hX), f_X10_readsNumbers_2 L n v0 v1 v2 X = some (r, X') → Cl P X → P v0 → FR P X X' := by
  intro n
  induction n with
  | zero => intro v0 v1 v2 X r X' h; cases h
  | succ n ih =>
    intro v0 v1 v2 X r X' h hcl p_v0
    rw [f_X10_readsNumbers_2] at h
    have F := FR.rf hcl
    rcases hx_ite h with ⟨c1, h⟩ | ⟨c1, h⟩
    · skip
      obtain ⟨r2, e3, h⟩ := hx_bind h
      have F := F.tr (fr_X10_reads (X' := r2) e3 F.1 p_v0)
      obtain ⟨g4, h⟩ := hx_gd h
      rcases hx_ite2 h with ⟨c5, h⟩ | ⟨c5, h⟩
      · skip
        obtain ⟨rfl, rfl⟩ := hx_some2 h
        exact F
      · skip
        obtain ⟨q6, e7, h⟩ := hx_bind h
        have p_q6 := F.1 _ _ _ p_v0 e7
        obtain ⟨g8, h⟩ := hx_gd h
        obtain ⟨g9, h⟩ := hx_gd h
        rcases hx_ite2 h with ⟨c10, h⟩ | ⟨c10, h⟩
        · skip
          obtain ⟨rfl, rfl⟩ := hx_some2 h
          exact F
        · skip
          obtain ⟨rfl, rfl⟩ := hx_some2 h
          exact F
    · skip
      obtain ⟨r11, e12, h⟩ := hx_bind h
      have F := F.tr (fr_X10_reads (X' := r11) e12 F.1 p_v0)
      obtain ⟨g13, h⟩ := hx_gd h
      obtain ⟨r14, e15, h⟩ := hx_bind h
      rcases hx_ite2 h with ⟨c16, h⟩ | ⟨c16, h⟩
      · skip
        obtain ⟨q17, e18, h⟩ := hx_bind h
        have p_q17 := F.1 _ _ _ p_v0 e18
        obtain ⟨r19, e20, h⟩ := hx_bind h
        obtain ⟨g21, h⟩ := hx_gd h
        obtain ⟨g22, h⟩ := hx_gd h
        exact FR.tr (FR.smi F p_q17) (ih v0 v1 (v2 + 1) (smi r11 q17 (Int32.toNatClampNeg v2) r19) _ _ h ((FR.smi F p_q17)).1 p_v0)
      · skip
        obtain ⟨rfl, rfl⟩ := hx_some2 h
        exact F
set_option maxRecDepth 100000 in
set_option maxHeartbeats 4000000 in
theorem fr_X10_readsNumbers {P : Nat → Prop} {L : hL} {X : hX} {this : Nat} {a1 : Int32} {r : Int32} {X' : hX} (h : f_X10_readsNumbers L X this a1 = some (r, X')) (hcl : Cl P X) (p_this : P this) : FR P X X' := by
  unfold f_X10_readsNumbers at h
  have F := FR.rf hcl
  exact FR.tr F (fr_X10_readsNumbers_2 u_fuel this a1 0 X _ _ h (FR.tr F (FR.rf F.1)).1 p_this)
set_option maxRecDepth 100000 in
set_option maxHeartbeats 4000000 in
theorem fr_X10_run_85 {P : Nat → Prop} {L : hL} : ∀ (v0 : Nat) (v1 : Int32) (X : hX) (r : Int32) (X' : hX), f_X10_run_85 L v0 v1 X = some (r, X') → Cl P X → P v0 → FR P X X' := by
  intro v0 v1 X r X' h hcl p_v0
  unfold f_X10_run_85 at h
  have F := FR.rf hcl
  obtain ⟨g1, h⟩ := hx_gd h
  obtain ⟨r2, e3, h⟩ := hx_bind h
  have F := F.tr (fr_X10_fails (r := r2.1) (X' := r2.2) e3 F.1 p_v0)
  obtain ⟨rfl, rfl⟩ := hx_some2 h
  exact F
set_option maxRecDepth 100000 in
set_option maxHeartbeats 4000000 in
theorem fr_X10_run_66 {P : Nat → Prop} {L : hL} (k38 : Nat → Int32 → hX → Option (Int32 × hX)) (hk38 : ∀ (v0 : Nat) (v1 : Int32) (X : hX) (r : Int32) (X' : hX), k38 v0 v1 X = some (r, X') → Cl P X → P v0 → FR P X X') : ∀ (v0 : Nat) (v1 : Int32) (v2 : Int32) (s0 : Int32) (X : hX) (r : Int32) (X' : hX), f_X10_run_66 L k38 v0 v1 v2 s0 X = some (r, X') → Cl P X → P v0 → FR P X X' := by
  intro v0 v1 v2 s0 X r X' h hcl p_v0
  unfold f_X10_run_66 at h
  have F := FR.rf hcl
  obtain ⟨r4, e5, h⟩ := hx_bind h
  rcases hx_ite h with ⟨c6, h⟩ | ⟨c6, h⟩
  · skip
    exact FR.tr F (fr_X10_run_85 v0 v1 X _ _ h (FR.tr F (FR.rf F.1)).1 p_v0)
  · skip
    obtain ⟨r7, e8, h⟩ := hx_bind h
    obtain ⟨r9, e10, h⟩ := hx_bind h
    have F := F.tr (fr_X10_readsNumbers (r := r9.1) (X' := r9.2) e10 F.1 p_v0)
    obtain ⟨g11, h⟩ := hx_gd h
    rcases hx_ite2 h with ⟨c12, h⟩ | ⟨c12, h⟩
    · skip
      obtain ⟨r13, e14, h⟩ := hx_bind h
      have F := F.tr (fr_X10_does (r := r13.1) (X' := r13.2) e14 F.1 p_v0)
      rcases hx_ite h with ⟨c15, h⟩ | ⟨c15, h⟩
      · skip
        obtain ⟨r16, e17, h⟩ := hx_bind h
        have F := F.tr (fr_X10_reads (X' := r16) e17 F.1 p_v0)
        exact FR.tr F (hk38 v0 (v1 + 1) r16 _ _ h (FR.tr F (FR.rf F.1)).1 p_v0)
      · skip
        rcases hx_ite2 h with ⟨c18, h⟩ | ⟨c18, h⟩
        · skip
          obtain ⟨r19, e20, h⟩ := hx_bind h
          have F := F.tr (fr_X10_fails (r := r19.1) (X' := r19.2) e20 F.1 p_v0)
          obtain ⟨rfl, rfl⟩ := hx_some2 h
          exact F
        · skip
          obtain ⟨r21, e22, h⟩ := hx_bind h
          have F := F.tr (fr_X10_fails (r := r21.1) (X' := r21.2) e22 F.1 p_v0)
          obtain ⟨rfl, rfl⟩ := hx_some2 h
          exact F
    · skip
      exact FR.tr F (fr_X10_run_85 v0 v1 r9.2 _ _ h (FR.tr F (FR.rf F.1)).1 p_v0)
set_option maxRecDepth 100000 in
set_option maxHeartbeats 4000000 in
theorem fr_X10_run_38 {P : Nat → Prop} {L : hL} : ∀ (n : Nat) (v0 : Nat) (v1 : Int32) (X : hX) (r : Int32) (X' : hX), f_X10_run_38 L n v0 v1 X = some (r, X') → Cl P X → P v0 → FR P X X' := by
  intro n
  induction n with
  | zero => intro v0 v1 X r X' h; cases h
  | succ n ih =>
    intro v0 v1 X r X' h hcl p_v0
    rw [f_X10_run_38] at h
    have F := FR.rf hcl
    obtain ⟨g23, h⟩ := hx_gd h
    rcases hx_ite h with ⟨c24, h⟩ | ⟨c24, h⟩
    · skip
      obtain ⟨q25, e26, h⟩ := hx_bind h
      have p_q25 := F.1 _ _ _ p_v0 e26
      obtain ⟨r27, e28, h⟩ := hx_bind h
      have F := F.tr (fr_X10_pushes (X' := r27) e28 F.1 p_v0 p_q25)
      obtain ⟨rfl, rfl⟩ := hx_some2 h
      exact (FR.smi F p_v0)
    · skip
      rcases hx_ite2 h with ⟨c29, h⟩ | ⟨c29, h⟩
      · skip
        exact FR.tr F (fr_X10_run_66 (f_X10_run_38 L n) ih v0 v1 (X.1 v0 9) 0 X _ _ h (FR.tr F (FR.rf F.1)).1 p_v0)
      · skip
        obtain ⟨r30, e31, h⟩ := hx_bind h
        exact FR.tr F (fr_X10_run_66 (f_X10_run_38 L n) ih v0 v1 (X.1 v0 9) r30 X _ _ h (FR.tr F (FR.rf F.1)).1 p_v0)
set_option maxRecDepth 100000 in
set_option maxHeartbeats 4000000 in
theorem fr_X10_run_2 {P : Nat → Prop} {L : hL} : ∀ (n : Nat) (v0 : Nat) (v1 : Int32) (X : hX) (r : Int32) (X' : hX), f_X10_run_2 L n v0 v1 X = some (r, X') → Cl P X → P v0 → FR P X X' := by
  intro n
  induction n with
  | zero => intro v0 v1 X r X' h; cases h
  | succ n ih =>
    intro v0 v1 X r X' h hcl p_v0
    rw [f_X10_run_2] at h
    have F := FR.rf hcl
    rcases hx_ite h with ⟨c32, h⟩ | ⟨c32, h⟩
    · skip
      obtain ⟨g33, h⟩ := hx_gd h
      obtain ⟨r34, e35, h⟩ := hx_bind h
      have F : FR P X (smi X v0 10 0) := (FR.smi F p_v0)
      have F := F.tr (fr_X10_reads (X' := r34) e35 F.1 p_v0)
      exact FR.tr F (fr_X10_run_38 u_fuel v0 0 r34 _ _ h (FR.tr F (FR.rf F.1)).1 p_v0)
    · skip
      obtain ⟨g36, h⟩ := hx_gd h
      obtain ⟨q37, e38, h⟩ := hx_bind h
      have p_q37 := F.1 _ _ _ p_v0 e38
      obtain ⟨q39, e40, h⟩ := hx_bind h
      have p_q39 := F.1 _ _ _ p_v0 e40
      obtain ⟨g41, h⟩ := hx_gd h
      obtain ⟨g42, h⟩ := hx_gd h
      obtain ⟨g43, h⟩ := hx_gd h
      obtain ⟨g44, h⟩ := hx_gd h
      exact FR.tr (FR.smi F p_q37) (ih v0 (v1 + 1) (smi X q37 (Int32.toNatClampNeg v1) (X.1 q39 (Int32.toNatClampNeg v1))) _ _ h ((FR.smi F p_q37)).1 p_v0)
set_option maxRecDepth 100000 in
set_option maxHeartbeats 4000000 in
theorem fr_X10_run {P : Nat → Prop} {L : hL} {X : hX} {this : Nat} {r : Int32} {X' : hX} (h : f_X10_run L X this = some (r, X')) (hcl : Cl P X) (p_this : P this) : FR P X X' := by
  unfold f_X10_run at h
  have F := FR.rf hcl
  exact FR.tr F (fr_X10_run_2 u_fuel this 0 X _ _ h (FR.tr F (FR.rf F.1)).1 p_this)
set_option maxRecDepth 100000 in
set_option maxHeartbeats 4000000 in
theorem fr_X10_allowed {P : Nat → Prop} {L : hL} {X : hX} {this : Nat} {a1 : Int32} {a2 : Int32} {a3 : Int32} {r : Int32} {X' : hX} (h : f_X10_allowed L X this a1 a2 a3 = some (r, X')) (hcl : Cl P X) (p_this : P this) : FR P X X' := by
  unfold f_X10_allowed at h
  have F := FR.rf hcl
  obtain ⟨r1, e2, h⟩ := hx_bind h
  rcases hx_ite h with ⟨c3, h⟩ | ⟨c3, h⟩
  · skip
    obtain ⟨rfl, rfl⟩ := hx_some2 h
    exact F
  · skip
    obtain ⟨r4, e5, h⟩ := hx_bind h
    rcases hx_ite h with ⟨c6, h⟩ | ⟨c6, h⟩
    · skip
      obtain ⟨rfl, rfl⟩ := hx_some2 h
      exact F
    · skip
      obtain ⟨r7, e8, h⟩ := hx_bind h
      rcases hx_ite2 h with ⟨c9, h⟩ | ⟨c9, h⟩
      · skip
        obtain ⟨r10, e11, h⟩ := hx_bind h
        have F := F.tr (fr_X10_allows (r := r10.1) (X' := r10.2) e11 F.1 p_this)
        obtain ⟨g12, h⟩ := hx_gd h
        rcases hx_ite2 h with ⟨c13, h⟩ | ⟨c13, h⟩
        · skip
          rcases hx_ite2 h with ⟨c14, h⟩ | ⟨c14, h⟩
          · skip
            rcases hx_ite2 h with ⟨c15, h⟩ | ⟨c15, h⟩
            · skip
              obtain ⟨rfl, rfl⟩ := hx_some2 h
              exact F
            · skip
              obtain ⟨rfl, rfl⟩ := hx_some2 h
              exact F
          · skip
            obtain ⟨rfl, rfl⟩ := hx_some2 h
            exact F
        · skip
          rcases hx_ite2 h with ⟨c16, h⟩ | ⟨c16, h⟩
          · skip
            obtain ⟨rfl, rfl⟩ := hx_some2 h
            exact F
          · skip
            obtain ⟨rfl, rfl⟩ := hx_some2 h
            exact F
      · skip
        obtain ⟨rfl, rfl⟩ := hx_some2 h
        exact F
set_option maxRecDepth 100000 in
set_option maxHeartbeats 4000000 in
theorem fr_X10_guess {P : Nat → Prop} {L : hL} {X : hX} {this : Nat} {a1 : Int32} {a2 : Int32} {a3 : Int32} {r : Int32} {X' : hX} (h : f_X10_guess L X this a1 a2 a3 = some (r, X')) (hcl : Cl P X) (p_this : P this) : FR P X X' := by
  unfold f_X10_guess at h
  have F := FR.rf hcl
  obtain ⟨r1, e2, h⟩ := hx_bind h
  rcases hx_ite h with ⟨c3, h⟩ | ⟨c3, h⟩
  · skip
    obtain ⟨rfl, rfl⟩ := hx_some2 h
    exact F
  · skip
    obtain ⟨r4, e5, h⟩ := hx_bind h
    rcases hx_ite h with ⟨c6, h⟩ | ⟨c6, h⟩
    · skip
      obtain ⟨rfl, rfl⟩ := hx_some2 h
      exact F
    · skip
      obtain ⟨r7, e8, h⟩ := hx_bind h
      rcases hx_ite h with ⟨c9, h⟩ | ⟨c9, h⟩
      · skip
        obtain ⟨rfl, rfl⟩ := hx_some2 h
        exact F
      · skip
        obtain ⟨r10, e11, h⟩ := hx_bind h
        have F := F.tr (fr_X10_guesses (r := r10.1) (X' := r10.2) e11 F.1 p_this)
        obtain ⟨g12, h⟩ := hx_gd h
        obtain ⟨rfl, rfl⟩ := hx_some2 h
        exact F
set_option maxRecDepth 100000 in
set_option maxHeartbeats 4000000 in
theorem fr_X10_given_66 {P : Nat → Prop} {L : hL} (k4 : Nat → Int32 → Int32 → Int32 → hX → Option (Int32 × hX)) (hk4 : ∀ (v0 : Nat) (v1 : Int32) (v2 : Int32) (v3 : Int32) (X : hX) (r : Int32) (X' : hX), k4 v0 v1 v2 v3 X = some (r, X') → Cl P X → P v0 → FR P X X') : ∀ (v0 : Nat) (v1 : Int32) (v2 : Int32) (v3 : Int32) (X : hX) (r : Int32) (X' : hX), f_X10_given_66 L k4 v0 v1 v2 v3 X = some (r, X') → Cl P X → P v0 → FR P X X' := by
  intro v0 v1 v2 v3 X r X' h hcl p_v0
  unfold f_X10_given_66 at h
  have F := FR.rf hcl
  exact FR.tr F (hk4 v0 v1 v2 (v3 + 1) X _ _ h (FR.tr F (FR.rf F.1)).1 p_v0)
set_option maxRecDepth 100000 in
set_option maxHeartbeats 4000000 in
theorem fr_X10_given_4 {P : Nat → Prop} {L : hL} : ∀ (n : Nat) (v0 : Nat) (v1 : Int32) (v2 : Int32) (v3 : Int32) (X : hX) (r : Int32) (X' : hX), f_X10_given_4 L n v0 v1 v2 v3 X = some (r, X') → Cl P X → P v0 → FR P X X' := by
  intro n
  induction n with
  | zero => intro v0 v1 v2 v3 X r X' h; cases h
  | succ n ih =>
    intro v0 v1 v2 v3 X r X' h hcl p_v0
    rw [f_X10_given_4] at h
    have F := FR.rf hcl
    obtain ⟨g1, h⟩ := hx_gd h
    obtain ⟨q2, e3, h⟩ := hx_bind h
    have p_q2 := F.1 _ _ _ p_v0 e3
    obtain ⟨g4, h⟩ := hx_gd h
    obtain ⟨g5, h⟩ := hx_gd h
    rcases hx_ite h with ⟨c6, h⟩ | ⟨c6, h⟩
    · skip
      obtain ⟨rfl, rfl⟩ := hx_some2 h
      exact F
    · skip
      obtain ⟨r7, e8, h⟩ := hx_bind h
      rcases hx_ite2 h with ⟨c9, h⟩ | ⟨c9, h⟩
      · skip
        exact FR.tr F (fr_X10_given_66 (f_X10_given_4 L n) ih v0 v1 v2 v3 X _ _ h (FR.tr F (FR.rf F.1)).1 p_v0)
      · skip
        obtain ⟨r10, e11, h⟩ := hx_bind h
        obtain ⟨r12, e13, h⟩ := hx_bind h
        obtain ⟨r14, e15, h⟩ := hx_bind h
        have F := F.tr (fr_X10_guesses (r := r14.1) (X' := r14.2) e15 F.1 p_v0)
        rcases hx_ite2 h with ⟨c16, h⟩ | ⟨c16, h⟩
        · skip
          obtain ⟨r17, e18, h⟩ := hx_bind h
          exact FR.tr F (fr_X10_given_66 (f_X10_given_4 L n) ih v0 v1 (v2 + (r14.1 - r17)) v3 r14.2 _ _ h (FR.tr F (FR.rf F.1)).1 p_v0)
        · skip
          obtain ⟨rfl, rfl⟩ := hx_some2 h
          exact F
set_option maxRecDepth 100000 in
set_option maxHeartbeats 4000000 in
theorem fr_X10_given {P : Nat → Prop} {L : hL} {X : hX} {this : Nat} {a1 : Int32} {r : Int32} {X' : hX} (h : f_X10_given L X this a1 = some (r, X')) (hcl : Cl P X) (p_this : P this) : FR P X X' := by
  unfold f_X10_given at h
  have F := FR.rf hcl
  exact FR.tr F (fr_X10_given_4 u_fuel this a1 0 0 X _ _ h (FR.tr F (FR.rf F.1)).1 p_this)
set_option maxRecDepth 100000 in
set_option maxHeartbeats 4000000 in
theorem fr_X10_would {P : Nat → Prop} {L : hL} {X : hX} {this : Nat} {a1 : Int32} {r : Int32} {X' : hX} (h : f_X10_would L X this a1 = some (r, X')) (hcl : Cl P X) (p_this : P this) : FR P X X' := by
  unfold f_X10_would at h
  have F := FR.rf hcl
  obtain ⟨r1, e2, h⟩ := hx_bind h
  rcases hx_ite2 h with ⟨c3, h⟩ | ⟨c3, h⟩
  · skip
    obtain ⟨r4, e5, h⟩ := hx_bind h
    have F := F.tr (fr_X10_given (r := r4.1) (X' := r4.2) e5 F.1 p_this)
    obtain ⟨g6, h⟩ := hx_gd h
    rcases hx_ite2 h with ⟨c7, h⟩ | ⟨c7, h⟩
    · skip
      obtain ⟨rfl, rfl⟩ := hx_some2 h
      exact F
    · skip
      obtain ⟨rfl, rfl⟩ := hx_some2 h
      exact F
  · skip
    obtain ⟨rfl, rfl⟩ := hx_some2 h
    exact F
set_option maxRecDepth 100000 in
set_option maxHeartbeats 4000000 in
theorem fr_X10_fairest_53 {P : Nat → Prop} {L : hL} (k5 : Nat → Int32 → Int32 → hX → Option (Int32 × hX)) (hk5 : ∀ (v0 : Nat) (v1 : Int32) (v2 : Int32) (X : hX) (r : Int32) (X' : hX), k5 v0 v1 v2 X = some (r, X') → Cl P X → P v0 → FR P X X') : ∀ (v0 : Nat) (v2 : Int32) (s0 : Int32) (X : hX) (r : Int32) (X' : hX), f_X10_fairest_53 L k5 v0 v2 s0 X = some (r, X') → Cl P X → P v0 → FR P X X' := by
  intro v0 v2 s0 X r X' h hcl p_v0
  unfold f_X10_fairest_53 at h
  have F := FR.rf hcl
  exact FR.tr F (hk5 v0 s0 (v2 + 1) X _ _ h (FR.tr F (FR.rf F.1)).1 p_v0)
set_option maxRecDepth 100000 in
set_option maxHeartbeats 4000000 in
theorem fr_X10_fairest_48 {P : Nat → Prop} {L : hL} (k5 : Nat → Int32 → Int32 → hX → Option (Int32 × hX)) (hk5 : ∀ (v0 : Nat) (v1 : Int32) (v2 : Int32) (X : hX) (r : Int32) (X' : hX), k5 v0 v1 v2 X = some (r, X') → Cl P X → P v0 → FR P X X') : ∀ (v0 : Nat) (v2 : Int32) (X : hX) (r : Int32) (X' : hX), f_X10_fairest_48 L k5 v0 v2 X = some (r, X') → Cl P X → P v0 → FR P X X' := by
  intro v0 v2 X r X' h hcl p_v0
  unfold f_X10_fairest_48 at h
  have F := FR.rf hcl
  exact FR.tr F (fr_X10_fairest_53 k5 hk5 v0 v2 v2 X _ _ h (FR.tr F (FR.rf F.1)).1 p_v0)
set_option maxRecDepth 100000 in
set_option maxHeartbeats 4000000 in
theorem fr_X10_fairest_5 {P : Nat → Prop} {L : hL} : ∀ (n : Nat) (v0 : Nat) (v1 : Int32) (v2 : Int32) (X : hX) (r : Int32) (X' : hX), f_X10_fairest_5 L n v0 v1 v2 X = some (r, X') → Cl P X → P v0 → FR P X X' := by
  intro n
  induction n with
  | zero => intro v0 v1 v2 X r X' h; cases h
  | succ n ih =>
    intro v0 v1 v2 X r X' h hcl p_v0
    rw [f_X10_fairest_5] at h
    have F := FR.rf hcl
    rcases hx_ite h with ⟨c1, h⟩ | ⟨c1, h⟩
    · skip
      obtain ⟨rfl, rfl⟩ := hx_some2 h
      exact F
    · skip
      obtain ⟨r2, e3, h⟩ := hx_bind h
      have F := F.tr (fr_X10_given (r := r2.1) (X' := r2.2) e3 F.1 p_v0)
      obtain ⟨g4, h⟩ := hx_gd h
      rcases hx_ite2 h with ⟨c5, h⟩ | ⟨c5, h⟩
      · skip
        rcases hx_ite h with ⟨c6, h⟩ | ⟨c6, h⟩
        · skip
          exact FR.tr F (fr_X10_fairest_48 (f_X10_fairest_5 L n) ih v0 v2 r2.2 _ _ h (FR.tr F (FR.rf F.1)).1 p_v0)
        · skip
          obtain ⟨r7, e8, h⟩ := hx_bind h
          obtain ⟨r9, e10, h⟩ := hx_bind h
          have F := F.tr (fr_X10_given (r := r9.1) (X' := r9.2) e10 F.1 p_v0)
          obtain ⟨r11, e12, h⟩ := hx_bind h
          rcases hx_ite h with ⟨c13, h⟩ | ⟨c13, h⟩
          · skip
            exact FR.tr F (fr_X10_fairest_53 (f_X10_fairest_5 L n) ih v0 v2 v1 r9.2 _ _ h (FR.tr F (FR.rf F.1)).1 p_v0)
          · skip
            exact FR.tr F (fr_X10_fairest_48 (f_X10_fairest_5 L n) ih v0 v2 r9.2 _ _ h (FR.tr F (FR.rf F.1)).1 p_v0)
      · skip
        obtain ⟨rfl, rfl⟩ := hx_some2 h
        exact F
set_option maxRecDepth 100000 in
set_option maxHeartbeats 4000000 in
theorem fr_X10_fairest {P : Nat → Prop} {L : hL} {X : hX} {this : Nat} {r : Int32} {X' : hX} (h : f_X10_fairest L X this = some (r, X')) (hcl : Cl P X) (p_this : P this) : FR P X X' := by
  unfold f_X10_fairest at h
  have F := FR.rf hcl
  exact FR.tr F (fr_X10_fairest_5 u_fuel this (-100009) 0 X _ _ h (FR.tr F (FR.rf F.1)).1 p_this)
