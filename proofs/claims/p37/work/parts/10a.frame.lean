def Cl (P : Nat → Prop) (X : hX) : Prop := ∀ k j b, P k → X.2 k j = some b → P b
def FR (P : Nat → Prop) (X Y : hX) : Prop := Cl P Y ∧ ∀ k, ¬ P k → ∀ j, Y.1 k j = X.1 k j ∧ Y.2 k j = X.2 k j
theorem FR.rf {P : Nat → Prop} {X : hX} (h : Cl P X) : FR P X X := ⟨h, fun _ _ _ => ⟨rfl, rfl⟩⟩
theorem FR.tr {P : Nat → Prop} {X Y Z : hX} (h1 : FR P X Y) (h2 : FR P Y Z) : FR P X Z := ⟨h2.1, fun k hk j => ⟨(h2.2 k hk j).1.trans (h1.2 k hk j).1, (h2.2 k hk j).2.trans (h1.2 k hk j).2⟩⟩
theorem FR.smi {P : Nat → Prop} {X Y : hX} {a j : Nat} {v : Int32} (h : FR P X Y) (ha : P a) : FR P X (smi Y a j v) := ⟨h.1, fun k hk i => ⟨by rw [smi_1, if_neg (fun (q : k = a ∧ i = j) => hk (q.1 ▸ ha))]; exact (h.2 k hk i).1, (h.2 k hk i).2⟩⟩
theorem FR.smr {P : Nat → Prop} {X Y : hX} {a j b : Nat} (h : FR P X Y) (ha : P a) (hb : P b) : FR P X (smr Y a j (some b)) := by
  refine ⟨fun k i q hk hq => ?_, fun k hk i => ⟨(h.2 k hk i).1, by rw [smr_2, if_neg (fun (q : k = a ∧ i = j) => hk (q.1 ▸ ha))]; exact (h.2 k hk i).2⟩⟩
  rw [smr_2] at hq
  split at hq
  · cases hq; exact hb
  · exact h.1 k i q hk hq
theorem hx_ite {P : Prop} [Decidable P] {β : Type} {a b : Option β} {r : β} (h : (if P then a else b) = some r) : (P ∧ a = some r) ∨ (¬ P ∧ b = some r) := by
  by_cases hp : P
  · rw [if_pos hp] at h; exact Or.inl ⟨hp, h⟩
  · rw [if_neg hp] at h; exact Or.inr ⟨hp, h⟩
theorem hx_ite2 {P : Prop} [Decidable P] {β : Type} {a b : Option β} {r : β} (h : (if P then a else b) = some r) : (¬ P ∧ b = some r) ∨ (P ∧ a = some r) := (hx_ite h).symm
set_option maxRecDepth 100000 in
set_option maxHeartbeats 4000000 in
theorem fr_X4_copyFrom {P : Nat → Prop} {L : hL} {X : hX} {this : Nat} {a1 : Nat} {X' : hX} (h : f_X4_copyFrom L X this a1 = some X') (hcl : Cl P X) (p_this : P this) (p_a1 : P a1) : FR P X X' := by
  unfold f_X4_copyFrom at h
  have F := FR.rf hcl
  obtain ⟨g1, h⟩ := hx_gd h
  obtain ⟨g2, h⟩ := hx_gd h
  obtain rfl := hx_some1 h
  exact (FR.smi (FR.smi F p_this) p_this)
set_option maxRecDepth 100000 in
set_option maxHeartbeats 4000000 in
theorem fr_X1_copyFrom {P : Nat → Prop} {L : hL} {X : hX} {this : Nat} {a1 : Nat} {X' : hX} (h : f_X1_copyFrom L X this a1 = some X') (hcl : Cl P X) (p_this : P this) (p_a1 : P a1) : FR P X X' := by
  unfold f_X1_copyFrom at h
  have F := FR.rf hcl
  obtain ⟨g1, h⟩ := hx_gd h
  obtain ⟨g2, h⟩ := hx_gd h
  obtain ⟨g3, h⟩ := hx_gd h
  obtain rfl := hx_some1 h
  exact (FR.smi (FR.smi (FR.smi (FR.smi (FR.smi (FR.smi F p_this) p_this) p_this) p_this) p_this) p_this)
set_option maxRecDepth 100000 in
set_option maxHeartbeats 4000000 in
theorem fr_X5_copyFrom {P : Nat → Prop} {L : hL} {X : hX} {this : Nat} {a1 : Nat} {X' : hX} (h : f_X5_copyFrom L X this a1 = some X') (hcl : Cl P X) (p_this : P this) (p_a1 : P a1) : FR P X X' := by
  unfold f_X5_copyFrom at h
  have F := FR.rf hcl
  obtain ⟨g1, h⟩ := hx_gd h
  obtain ⟨g2, h⟩ := hx_gd h
  obtain rfl := hx_some1 h
  exact (FR.smi (FR.smi (FR.smi (FR.smi (FR.smi (FR.smi (FR.smi F p_this) p_this) p_this) p_this) p_this) p_this) p_this)
set_option maxRecDepth 100000 in
set_option maxHeartbeats 4000000 in
theorem fr_X7_copyFrom {P : Nat → Prop} {L : hL} {X : hX} {this : Nat} {a1 : Nat} {X' : hX} (h : f_X7_copyFrom L X this a1 = some X') (hcl : Cl P X) (p_this : P this) (p_a1 : P a1) : FR P X X' := by
  unfold f_X7_copyFrom at h
  have F := FR.rf hcl
  obtain ⟨g1, h⟩ := hx_gd h
  obtain ⟨g2, h⟩ := hx_gd h
  obtain rfl := hx_some1 h
  exact (FR.smi (FR.smi (FR.smi F p_this) p_this) p_this)
set_option maxRecDepth 100000 in
set_option maxHeartbeats 4000000 in
theorem fr_X0_copyFrom_59 {P : Nat → Prop} {L : hL} : ∀ (n : Nat) (v0 : Nat) (v1 : Nat) (v2 : Int32) (X : hX) (X' : hX), f_X0_copyFrom_59 L n v0 v1 v2 X = some X' → Cl P X → P v0 → P v1 → FR P X X' := by
  intro n
  induction n with
  | zero => intro v0 v1 v2 X X' h; cases h
  | succ n ih =>
    intro v0 v1 v2 X X' h hcl p_v0 p_v1
    rw [f_X0_copyFrom_59] at h
    have F := FR.rf hcl
    rcases hx_ite h with ⟨c1, h⟩ | ⟨c1, h⟩
    · skip
      obtain ⟨g2, h⟩ := hx_gd h
      obtain ⟨q3, e4, h⟩ := hx_bind h
      have p_q3 := F.1 _ _ _ p_v0 e4
      obtain ⟨g5, h⟩ := hx_gd h
      obtain ⟨q6, e7, h⟩ := hx_bind h
      have p_q6 := F.1 _ _ _ p_v1 e7
      obtain ⟨r8, e9, h⟩ := hx_bind h
      have F := F.tr (fr_X7_copyFrom (X' := r8) e9 F.1 p_q3 p_q6)
      obtain ⟨g10, h⟩ := hx_gd h
      obtain rfl := hx_some1 h
      exact (FR.smi (FR.smi (FR.smi (FR.smi (FR.smi F p_v0) p_v0) p_v0) p_v0) p_v0)
    · skip
      obtain ⟨g11, h⟩ := hx_gd h
      obtain ⟨q12, e13, h⟩ := hx_bind h
      have p_q12 := F.1 _ _ _ p_v0 e13
      obtain ⟨g14, h⟩ := hx_gd h
      obtain ⟨g15, h⟩ := hx_gd h
      obtain ⟨q16, e17, h⟩ := hx_bind h
      have p_q16 := F.1 _ _ _ p_q12 e17
      obtain ⟨g18, h⟩ := hx_gd h
      obtain ⟨q19, e20, h⟩ := hx_bind h
      have p_q19 := F.1 _ _ _ p_v1 e20
      obtain ⟨g21, h⟩ := hx_gd h
      obtain ⟨g22, h⟩ := hx_gd h
      obtain ⟨q23, e24, h⟩ := hx_bind h
      have p_q23 := F.1 _ _ _ p_q19 e24
      obtain ⟨r25, e26, h⟩ := hx_bind h
      have F := F.tr (fr_X5_copyFrom (X' := r25) e26 F.1 p_q16 p_q23)
      obtain ⟨g27, h⟩ := hx_gd h
      exact FR.tr F (ih v0 v1 (v2 + 1) r25 _ h (FR.tr F (FR.rf F.1)).1 p_v0 p_v1)
set_option maxRecDepth 100000 in
set_option maxHeartbeats 4000000 in
theorem fr_X0_copyFrom_30 {P : Nat → Prop} {L : hL} : ∀ (n : Nat) (v0 : Nat) (v1 : Nat) (v2 : Int32) (X : hX) (X' : hX), f_X0_copyFrom_30 L n v0 v1 v2 X = some X' → Cl P X → P v0 → P v1 → FR P X X' := by
  intro n
  induction n with
  | zero => intro v0 v1 v2 X X' h; cases h
  | succ n ih =>
    intro v0 v1 v2 X X' h hcl p_v0 p_v1
    rw [f_X0_copyFrom_30] at h
    have F := FR.rf hcl
    rcases hx_ite h with ⟨c28, h⟩ | ⟨c28, h⟩
    · skip
      exact FR.tr F (fr_X0_copyFrom_59 u_fuel v0 v1 0 X _ h (FR.tr F (FR.rf F.1)).1 p_v0 p_v1)
    · skip
      obtain ⟨g29, h⟩ := hx_gd h
      obtain ⟨q30, e31, h⟩ := hx_bind h
      have p_q30 := F.1 _ _ _ p_v0 e31
      obtain ⟨g32, h⟩ := hx_gd h
      obtain ⟨g33, h⟩ := hx_gd h
      obtain ⟨q34, e35, h⟩ := hx_bind h
      have p_q34 := F.1 _ _ _ p_q30 e35
      obtain ⟨g36, h⟩ := hx_gd h
      obtain ⟨q37, e38, h⟩ := hx_bind h
      have p_q37 := F.1 _ _ _ p_v1 e38
      obtain ⟨g39, h⟩ := hx_gd h
      obtain ⟨g40, h⟩ := hx_gd h
      obtain ⟨q41, e42, h⟩ := hx_bind h
      have p_q41 := F.1 _ _ _ p_q37 e42
      obtain ⟨r43, e44, h⟩ := hx_bind h
      have F := F.tr (fr_X1_copyFrom (X' := r43) e44 F.1 p_q34 p_q41)
      obtain ⟨g45, h⟩ := hx_gd h
      exact FR.tr F (ih v0 v1 (v2 + 1) r43 _ h (FR.tr F (FR.rf F.1)).1 p_v0 p_v1)
set_option maxRecDepth 100000 in
set_option maxHeartbeats 4000000 in
theorem fr_X0_copyFrom_2 {P : Nat → Prop} {L : hL} : ∀ (n : Nat) (v0 : Nat) (v1 : Nat) (v2 : Int32) (X : hX) (X' : hX), f_X0_copyFrom_2 L n v0 v1 v2 X = some X' → Cl P X → P v0 → P v1 → FR P X X' := by
  intro n
  induction n with
  | zero => intro v0 v1 v2 X X' h; cases h
  | succ n ih =>
    intro v0 v1 v2 X X' h hcl p_v0 p_v1
    rw [f_X0_copyFrom_2] at h
    have F := FR.rf hcl
    rcases hx_ite h with ⟨c46, h⟩ | ⟨c46, h⟩
    · skip
      exact FR.tr F (fr_X0_copyFrom_30 u_fuel v0 v1 0 X _ h (FR.tr F (FR.rf F.1)).1 p_v0 p_v1)
    · skip
      obtain ⟨g47, h⟩ := hx_gd h
      obtain ⟨q48, e49, h⟩ := hx_bind h
      have p_q48 := F.1 _ _ _ p_v0 e49
      obtain ⟨g50, h⟩ := hx_gd h
      obtain ⟨g51, h⟩ := hx_gd h
      obtain ⟨q52, e53, h⟩ := hx_bind h
      have p_q52 := F.1 _ _ _ p_q48 e53
      obtain ⟨g54, h⟩ := hx_gd h
      obtain ⟨q55, e56, h⟩ := hx_bind h
      have p_q55 := F.1 _ _ _ p_v1 e56
      obtain ⟨g57, h⟩ := hx_gd h
      obtain ⟨g58, h⟩ := hx_gd h
      obtain ⟨q59, e60, h⟩ := hx_bind h
      have p_q59 := F.1 _ _ _ p_q55 e60
      obtain ⟨r61, e62, h⟩ := hx_bind h
      have F := F.tr (fr_X4_copyFrom (X' := r61) e62 F.1 p_q52 p_q59)
      obtain ⟨g63, h⟩ := hx_gd h
      exact FR.tr F (ih v0 v1 (v2 + 1) r61 _ h (FR.tr F (FR.rf F.1)).1 p_v0 p_v1)
set_option maxRecDepth 100000 in
set_option maxHeartbeats 4000000 in
theorem fr_X0_copyFrom {P : Nat → Prop} {L : hL} {X : hX} {this : Nat} {a1 : Nat} {X' : hX} (h : f_X0_copyFrom L X this a1 = some X') (hcl : Cl P X) (p_this : P this) (p_a1 : P a1) : FR P X X' := by
  unfold f_X0_copyFrom at h
  have F := FR.rf hcl
  exact FR.tr F (fr_X0_copyFrom_2 u_fuel this a1 0 X _ h (FR.tr F (FR.rf F.1)).1 p_this p_a1)
set_option maxRecDepth 100000 in
set_option maxHeartbeats 4000000 in
theorem pr_X0_kindAt {P : Nat → Prop} {L : hL} {X : hX} {this : Nat} {a1 : Int32} {r : Option Nat} (h : f_X0_kindAt L X this a1 = some r) (hcl : Cl P X) (p_this : P this) : ∀ i, r = some i → P i := by
  unfold f_X0_kindAt at h
  have F := FR.rf hcl
  obtain ⟨r1, e2, h⟩ := hx_bind h
  rcases hx_ite h with ⟨c3, h⟩ | ⟨c3, h⟩
  · skip
    obtain rfl := hx_some1 h
    exact fun i hi => by cases hi
  · skip
    obtain ⟨g4, h⟩ := hx_gd h
    obtain ⟨q5, e6, h⟩ := hx_bind h
    have p_q5 := F.1 _ _ _ p_this e6
    obtain ⟨g7, h⟩ := hx_gd h
    obtain ⟨g8, h⟩ := hx_gd h
    obtain ⟨q9, e10, h⟩ := hx_bind h
    have p_q9 := F.1 _ _ _ p_q5 e10
    obtain rfl := hx_some1 h
    exact fun i hi => by cases hi; exact p_q9
set_option maxRecDepth 100000 in
set_option maxHeartbeats 4000000 in
theorem pr_X0_customerAt_22 {P : Nat → Prop} {L : hL} : ∀ (v0 : Nat) (v1 : Int32) (s0 : Int32) (X : hX) (r : Option Nat), f_X0_customerAt_22 L v0 v1 s0 X = some r → Cl P X → P v0 → ∀ i, r = some i → P i := by
  intro v0 v1 s0 X r h hcl p_v0
  unfold f_X0_customerAt_22 at h
  have F := FR.rf hcl
  rcases hx_ite h with ⟨c1, h⟩ | ⟨c1, h⟩
  · skip
    obtain rfl := hx_some1 h
    exact fun i hi => by cases hi
  · skip
    obtain ⟨g2, h⟩ := hx_gd h
    obtain ⟨q3, e4, h⟩ := hx_bind h
    have p_q3 := F.1 _ _ _ p_v0 e4
    obtain ⟨g5, h⟩ := hx_gd h
    obtain ⟨g6, h⟩ := hx_gd h
    obtain ⟨q7, e8, h⟩ := hx_bind h
    have p_q7 := F.1 _ _ _ p_q3 e8
    obtain rfl := hx_some1 h
    exact fun i hi => by cases hi; exact p_q7
set_option maxRecDepth 100000 in
set_option maxHeartbeats 4000000 in
theorem pr_X0_customerAt_21 {P : Nat → Prop} {L : hL} : ∀ (v0 : Nat) (v1 : Int32) (X : hX) (r : Option Nat), f_X0_customerAt_21 L v0 v1 X = some r → Cl P X → P v0 → ∀ i, r = some i → P i := by
  intro v0 v1 X r h hcl p_v0
  unfold f_X0_customerAt_21 at h
  have F := FR.rf hcl
  exact pr_X0_customerAt_22 v0 v1 0 X _ h F.1 p_v0
set_option maxRecDepth 100000 in
set_option maxHeartbeats 4000000 in
theorem pr_X0_customerAt {P : Nat → Prop} {L : hL} {X : hX} {this : Nat} {a1 : Int32} {r : Option Nat} (h : f_X0_customerAt L X this a1 = some r) (hcl : Cl P X) (p_this : P this) : ∀ i, r = some i → P i := by
  unfold f_X0_customerAt at h
  have F := FR.rf hcl
  obtain ⟨g9, h⟩ := hx_gd h
  rcases hx_ite h with ⟨c10, h⟩ | ⟨c10, h⟩
  · skip
    exact pr_X0_customerAt_21 this a1 X _ h F.1 p_this
  · skip
    obtain ⟨r11, e12, h⟩ := hx_bind h
    rcases hx_ite h with ⟨c13, h⟩ | ⟨c13, h⟩
    · skip
      exact pr_X0_customerAt_21 this a1 X _ h F.1 p_this
    · skip
      exact pr_X0_customerAt_22 this a1 1 X _ h F.1 p_this
set_option maxRecDepth 100000 in
set_option maxHeartbeats 4000000 in
theorem pr_X0_prizeAt_22 {P : Nat → Prop} {L : hL} : ∀ (v0 : Nat) (v1 : Int32) (s0 : Int32) (X : hX) (r : Option Nat), f_X0_prizeAt_22 L v0 v1 s0 X = some r → Cl P X → P v0 → ∀ i, r = some i → P i := by
  intro v0 v1 s0 X r h hcl p_v0
  unfold f_X0_prizeAt_22 at h
  have F := FR.rf hcl
  rcases hx_ite h with ⟨c1, h⟩ | ⟨c1, h⟩
  · skip
    obtain rfl := hx_some1 h
    exact fun i hi => by cases hi
  · skip
    obtain ⟨g2, h⟩ := hx_gd h
    obtain ⟨q3, e4, h⟩ := hx_bind h
    have p_q3 := F.1 _ _ _ p_v0 e4
    obtain ⟨g5, h⟩ := hx_gd h
    obtain ⟨g6, h⟩ := hx_gd h
    obtain ⟨q7, e8, h⟩ := hx_bind h
    have p_q7 := F.1 _ _ _ p_q3 e8
    obtain rfl := hx_some1 h
    exact fun i hi => by cases hi; exact p_q7
set_option maxRecDepth 100000 in
set_option maxHeartbeats 4000000 in
theorem pr_X0_prizeAt_21 {P : Nat → Prop} {L : hL} : ∀ (v0 : Nat) (v1 : Int32) (X : hX) (r : Option Nat), f_X0_prizeAt_21 L v0 v1 X = some r → Cl P X → P v0 → ∀ i, r = some i → P i := by
  intro v0 v1 X r h hcl p_v0
  unfold f_X0_prizeAt_21 at h
  have F := FR.rf hcl
  exact pr_X0_prizeAt_22 v0 v1 0 X _ h F.1 p_v0
set_option maxRecDepth 100000 in
set_option maxHeartbeats 4000000 in
theorem pr_X0_prizeAt {P : Nat → Prop} {L : hL} {X : hX} {this : Nat} {a1 : Int32} {r : Option Nat} (h : f_X0_prizeAt L X this a1 = some r) (hcl : Cl P X) (p_this : P this) : ∀ i, r = some i → P i := by
  unfold f_X0_prizeAt at h
  have F := FR.rf hcl
  obtain ⟨g9, h⟩ := hx_gd h
  rcases hx_ite h with ⟨c10, h⟩ | ⟨c10, h⟩
  · skip
    exact pr_X0_prizeAt_21 this a1 X _ h F.1 p_this
  · skip
    obtain ⟨r11, e12, h⟩ := hx_bind h
    rcases hx_ite h with ⟨c13, h⟩ | ⟨c13, h⟩
    · skip
      exact pr_X0_prizeAt_21 this a1 X _ h F.1 p_this
    · skip
      exact pr_X0_prizeAt_22 this a1 1 X _ h F.1 p_this
set_option maxRecDepth 100000 in
set_option maxHeartbeats 4000000 in
theorem fr_X0_changeKind {P : Nat → Prop} {L : hL} {X : hX} {this : Nat} {a1 : Int32} {a2 : Int32} {a3 : Int32} {r : Int32} {X' : hX} (h : f_X0_changeKind L X this a1 a2 a3 = some (r, X')) (hcl : Cl P X) (p_this : P this) : FR P X X' := by
  unfold f_X0_changeKind at h
  have F := FR.rf hcl
  obtain ⟨r1, e2, h⟩ := hx_bind h
  have pr_r1 := pr_X0_kindAt e2 F.1 p_this
  obtain ⟨g3, h⟩ := hx_gd h
  rcases r1 with _ | i4
  · have h := hx_eln h
    obtain ⟨rfl, rfl⟩ := hx_some2 h
    exact F
  · have h := hx_els h
    have p_i4 := pr_r1 _ rfl
    obtain ⟨r5, e6, h⟩ := hx_bind h
    rcases hx_ite h with ⟨c7, h⟩ | ⟨c7, h⟩
    · skip
      obtain ⟨rfl, rfl⟩ := hx_some2 h
      exact F
    · skip
      obtain ⟨r8, e9, h⟩ := hx_bind h
      rcases hx_ite2 h with ⟨c10, h⟩ | ⟨c10, h⟩
      · skip
        obtain ⟨g11, h⟩ := hx_gd h
        obtain ⟨rfl, rfl⟩ := hx_some2 h
        exact (FR.smi (FR.smi F p_i4) p_i4)
      · skip
        obtain ⟨rfl, rfl⟩ := hx_some2 h
        exact F
set_option maxRecDepth 100000 in
set_option maxHeartbeats 4000000 in
theorem fr_X0_changeScale {P : Nat → Prop} {L : hL} {X : hX} {this : Nat} {a1 : Int32} {a2 : Int32} {r : Int32} {X' : hX} (h : f_X0_changeScale L X this a1 a2 = some (r, X')) (hcl : Cl P X) (p_this : P this) : FR P X X' := by
  unfold f_X0_changeScale at h
  have F := FR.rf hcl
  obtain ⟨r1, e2, h⟩ := hx_bind h
  rcases hx_ite h with ⟨c3, h⟩ | ⟨c3, h⟩
  · skip
    obtain ⟨rfl, rfl⟩ := hx_some2 h
    exact F
  · skip
    obtain ⟨r4, e5, h⟩ := hx_bind h
    rcases hx_ite2 h with ⟨c6, h⟩ | ⟨c6, h⟩
    · skip
      obtain ⟨g7, h⟩ := hx_gd h
      obtain ⟨q8, e9, h⟩ := hx_bind h
      have p_q8 := F.1 _ _ _ p_this e9
      obtain ⟨g10, h⟩ := hx_gd h
      obtain ⟨rfl, rfl⟩ := hx_some2 h
      exact (FR.smi (FR.smi (FR.smi F p_q8) p_q8) p_q8)
    · skip
      obtain ⟨rfl, rfl⟩ := hx_some2 h
      exact F
set_option maxRecDepth 100000 in
set_option maxHeartbeats 4000000 in
theorem fr_X0_changeBias {P : Nat → Prop} {L : hL} {X : hX} {this : Nat} {a1 : Int32} {r : Int32} {X' : hX} (h : f_X0_changeBias L X this a1 = some (r, X')) (hcl : Cl P X) (p_this : P this) : FR P X X' := by
  unfold f_X0_changeBias at h
  have F := FR.rf hcl
  obtain ⟨g1, h⟩ := hx_gd h
  obtain ⟨q2, e3, h⟩ := hx_bind h
  have p_q2 := F.1 _ _ _ p_this e3
  obtain ⟨g4, h⟩ := hx_gd h
  obtain ⟨r5, e6, h⟩ := hx_bind h
  rcases hx_ite2 h with ⟨c7, h⟩ | ⟨c7, h⟩
  · skip
    obtain ⟨rfl, rfl⟩ := hx_some2 h
    exact (FR.smi F p_q2)
  · skip
    obtain ⟨rfl, rfl⟩ := hx_some2 h
    exact F
set_option maxRecDepth 100000 in
set_option maxHeartbeats 4000000 in
theorem fr_X0_changeRule {P : Nat → Prop} {L : hL} {X : hX} {this : Nat} {a1 : Int32} {r : Int32} {X' : hX} (h : f_X0_changeRule L X this a1 = some (r, X')) (hcl : Cl P X) (p_this : P this) : FR P X X' := by
  unfold f_X0_changeRule at h
  have F := FR.rf hcl
  obtain ⟨r1, e2, h⟩ := hx_bind h
  rcases hx_ite2 h with ⟨c3, h⟩ | ⟨c3, h⟩
  · skip
    obtain ⟨g4, h⟩ := hx_gd h
    obtain ⟨rfl, rfl⟩ := hx_some2 h
    exact (FR.smi F p_this)
  · skip
    obtain ⟨rfl, rfl⟩ := hx_some2 h
    exact F
set_option maxRecDepth 100000 in
set_option maxHeartbeats 4000000 in
theorem fr_X1_begin {P : Nat → Prop} {L : hL} {X : hX} {this : Nat} {a1 : Int32} {X' : hX} (h : f_X1_begin L X this a1 = some X') (hcl : Cl P X) (p_this : P this) : FR P X X' := by
  unfold f_X1_begin at h
  have F := FR.rf hcl
  obtain ⟨g1, h⟩ := hx_gd h
  obtain rfl := hx_some1 h
  exact (FR.smi (FR.smi F p_this) p_this)
set_option maxRecDepth 100000 in
set_option maxHeartbeats 4000000 in
theorem fr_X0_addCustomer {P : Nat → Prop} {L : hL} {X : hX} {this : Nat} {a1 : Int32} {r : Int32} {X' : hX} (h : f_X0_addCustomer L X this a1 = some (r, X')) (hcl : Cl P X) (p_this : P this) : FR P X X' := by
  unfold f_X0_addCustomer at h
  have F := FR.rf hcl
  obtain ⟨r1, e2, h⟩ := hx_bind h
  rcases hx_ite2 h with ⟨c3, h⟩ | ⟨c3, h⟩
  · skip
    obtain ⟨g4, h⟩ := hx_gd h
    obtain ⟨r5, e6, h⟩ := hx_bind h
    rcases hx_ite2 h with ⟨c7, h⟩ | ⟨c7, h⟩
    · skip
      obtain ⟨q8, e9, h⟩ := hx_bind h
      have p_q8 := F.1 _ _ _ p_this e9
      obtain ⟨g10, h⟩ := hx_gd h
      obtain ⟨g11, h⟩ := hx_gd h
      obtain ⟨q12, e13, h⟩ := hx_bind h
      have p_q12 := F.1 _ _ _ p_q8 e13
      obtain ⟨r14, e15, h⟩ := hx_bind h
      have F := F.tr (fr_X1_begin (X' := r14) e15 F.1 p_q12)
      obtain ⟨g16, h⟩ := hx_gd h
      obtain ⟨rfl, rfl⟩ := hx_some2 h
      exact (FR.smi F p_this)
    · skip
      obtain ⟨rfl, rfl⟩ := hx_some2 h
      exact F
  · skip
    obtain ⟨rfl, rfl⟩ := hx_some2 h
    exact F
set_option maxRecDepth 100000 in
set_option maxHeartbeats 4000000 in
theorem fr_X0_dropCustomer_21 {P : Nat → Prop} {L : hL} : ∀ (n : Nat) (v0 : Nat) (v2 : Nat) (v3 : Int32) (v4 : Int32) (X : hX) (r : Int32) (X' : hX), f_X0_dropCustomer_21 L n v0 v2 v3 v4 X = some (r, X') → Cl P X → P v0 → P v2 → FR P X X' := by
  intro n
  induction n with
  | zero => intro v0 v2 v3 v4 X r X' h; cases h
  | succ n ih =>
    intro v0 v2 v3 v4 X r X' h hcl p_v0 p_v2
    rw [f_X0_dropCustomer_21] at h
    have F := FR.rf hcl
    rcases hx_ite h with ⟨c1, h⟩ | ⟨c1, h⟩
    · skip
      obtain ⟨g2, h⟩ := hx_gd h
      obtain ⟨q3, e4, h⟩ := hx_bind h
      have p_q3 := F.1 _ _ _ p_v0 e4
      obtain ⟨g5, h⟩ := hx_gd h
      obtain ⟨g6, h⟩ := hx_gd h
      obtain ⟨g7, h⟩ := hx_gd h
      have F : FR P X (smr X q3 5 (some v2)) := (FR.smr F p_q3 p_v2)
      obtain ⟨r8, e9, h⟩ := hx_bind h
      have F := F.tr (fr_X1_begin (X' := r8) e9 F.1 p_v2)
      obtain ⟨rfl, rfl⟩ := hx_some2 h
      exact (FR.smi F p_v0)
    · skip
      obtain ⟨g10, h⟩ := hx_gd h
      obtain ⟨q11, e12, h⟩ := hx_bind h
      have p_q11 := F.1 _ _ _ p_v0 e12
      obtain ⟨g13, h⟩ := hx_gd h
      obtain ⟨g14, h⟩ := hx_gd h
      obtain ⟨q15, e16, h⟩ := hx_bind h
      have p_q15 := F.1 _ _ _ p_q11 e16
      obtain ⟨g17, h⟩ := hx_gd h
      obtain ⟨g18, h⟩ := hx_gd h
      have F : FR P X (smr X q11 (Int32.toNatClampNeg v4) (some q15)) := (FR.smr F p_q11 p_q15)
      exact FR.tr F (ih v0 v2 v3 (v4 + 1) (smr X q11 (Int32.toNatClampNeg v4) (some q15)) _ _ h (FR.tr F (FR.rf F.1)).1 p_v0 p_v2)
set_option maxRecDepth 100000 in
set_option maxHeartbeats 4000000 in
theorem fr_X0_dropCustomer {P : Nat → Prop} {L : hL} {X : hX} {this : Nat} {a1 : Int32} {r : Int32} {X' : hX} (h : f_X0_dropCustomer L X this a1 = some (r, X')) (hcl : Cl P X) (p_this : P this) : FR P X X' := by
  unfold f_X0_dropCustomer at h
  have F := FR.rf hcl
  obtain ⟨r19, e20, h⟩ := hx_bind h
  have pr_r19 := pr_X0_customerAt e20 F.1 p_this
  obtain ⟨g21, h⟩ := hx_gd h
  rcases r19 with _ | i22
  · have h := hx_eln h
    obtain ⟨rfl, rfl⟩ := hx_some2 h
    exact F
  · have h := hx_els h
    have p_i22 := pr_r19 _ rfl
    obtain ⟨g23, h⟩ := hx_gd h
    exact FR.tr F (fr_X0_dropCustomer_21 u_fuel this i22 (X.1 i22 0) a1 X _ _ h (FR.tr F (FR.rf F.1)).1 p_this p_i22)
set_option maxRecDepth 100000 in
set_option maxHeartbeats 4000000 in
theorem fr_X1_gain {P : Nat → Prop} {L : hL} {X : hX} {this : Nat} {a1 : Int32} {X' : hX} (h : f_X1_gain L X this a1 = some X') (hcl : Cl P X) (p_this : P this) : FR P X X' := by
  unfold f_X1_gain at h
  have F := FR.rf hcl
  obtain ⟨g1, h⟩ := hx_gd h
  obtain rfl := hx_some1 h
  exact (FR.smi F p_this)
set_option maxRecDepth 100000 in
set_option maxHeartbeats 4000000 in
theorem fr_X1_keep {P : Nat → Prop} {L : hL} {X : hX} {this : Nat} {a1 : Int32} {a2 : Int32} {a3 : Int32} {a4 : Int32} {X' : hX} (h : f_X1_keep L X this a1 a2 a3 a4 = some X') (hcl : Cl P X) (p_this : P this) : FR P X X' := by
  unfold f_X1_keep at h
  have F := FR.rf hcl
  obtain ⟨g1, h⟩ := hx_gd h
  obtain rfl := hx_some1 h
  exact (FR.smi (FR.smi (FR.smi (FR.smi (FR.smi F p_this) p_this) p_this) p_this) p_this)
set_option maxRecDepth 100000 in
set_option maxHeartbeats 4000000 in
theorem fr_X0_weighBundle {P : Nat → Prop} {L : hL} {X : hX} {this : Nat} {a1 : Int32} {a2 : Int32} {a3 : Int32} {a4 : Int32} {r : Int32} {X' : hX} (h : f_X0_weighBundle L X this a1 a2 a3 a4 = some (r, X')) (hcl : Cl P X) (p_this : P this) : FR P X X' := by
  unfold f_X0_weighBundle at h
  have F := FR.rf hcl
  obtain ⟨r1, e2, h⟩ := hx_bind h
  have pr_r1 := pr_X0_customerAt e2 F.1 p_this
  obtain ⟨g3, h⟩ := hx_gd h
  rcases r1 with _ | i4
  · have h := hx_eln h
    obtain ⟨r5, e6, h⟩ := hx_bind h
    have pr_r5 := pr_X0_kindAt e6 F.1 p_this
    rcases r5 with _ | i7
    · have h := hx_eln h
      obtain ⟨rfl, rfl⟩ := hx_some2 h
      exact F
    · have h := hx_els h
      have p_i7 := pr_r5 _ rfl
      obtain ⟨rfl, rfl⟩ := hx_some2 h
      exact F
  · have h := hx_els h
    have p_i4 := pr_r1 _ rfl
    obtain ⟨r8, e9, h⟩ := hx_bind h
    have pr_r8 := pr_X0_kindAt e9 F.1 p_this
    rcases r8 with _ | i10
    · have h := hx_eln h
      obtain ⟨rfl, rfl⟩ := hx_some2 h
      exact F
    · have h := hx_els h
      have p_i10 := pr_r8 _ rfl
      obtain ⟨r11, e12, h⟩ := hx_bind h
      rcases hx_ite2 h with ⟨c13, h⟩ | ⟨c13, h⟩
      · skip
        obtain ⟨g14, h⟩ := hx_gd h
        obtain ⟨r15, e16, h⟩ := hx_bind h
        rcases hx_ite2 h with ⟨c17, h⟩ | ⟨c17, h⟩
        · skip
          obtain ⟨q18, e19, h⟩ := hx_bind h
          have p_q18 := F.1 _ _ _ p_this e19
          obtain ⟨g20, h⟩ := hx_gd h
          obtain ⟨r21, e22, h⟩ := hx_bind h
          obtain ⟨r23, e24, h⟩ := hx_bind h
          obtain ⟨r25, e26, h⟩ := hx_bind h
          have F := F.tr (fr_X1_gain (X' := r25) e26 F.1 p_i4)
          obtain ⟨g27, h⟩ := hx_gd h
          obtain ⟨r28, e29, h⟩ := hx_bind h
          have F := F.tr (fr_X1_keep (X' := r28) e29 F.1 p_i4)
          obtain ⟨rfl, rfl⟩ := hx_some2 h
          exact (FR.smi F p_this)
        · skip
          obtain ⟨rfl, rfl⟩ := hx_some2 h
          exact F
      · skip
        obtain ⟨rfl, rfl⟩ := hx_some2 h
        exact F
set_option maxRecDepth 100000 in
set_option maxHeartbeats 4000000 in
theorem fr_X0_settleClaim {P : Nat → Prop} {L : hL} {X : hX} {this : Nat} {a1 : Int32} {a2 : Int32} {r : Int32} {X' : hX} (h : f_X0_settleClaim L X this a1 a2 = some (r, X')) (hcl : Cl P X) (p_this : P this) : FR P X X' := by
  unfold f_X0_settleClaim at h
  have F := FR.rf hcl
  obtain ⟨r1, e2, h⟩ := hx_bind h
  have pr_r1 := pr_X0_customerAt e2 F.1 p_this
  obtain ⟨g3, h⟩ := hx_gd h
  rcases r1 with _ | i4
  · have h := hx_eln h
    obtain ⟨rfl, rfl⟩ := hx_some2 h
    exact F
  · have h := hx_els h
    have p_i4 := pr_r1 _ rfl
    obtain ⟨r5, e6, h⟩ := hx_bind h
    rcases hx_ite2 h with ⟨c7, h⟩ | ⟨c7, h⟩
    · skip
      obtain ⟨g8, h⟩ := hx_gd h
      rcases hx_ite h with ⟨c9, h⟩ | ⟨c9, h⟩
      · skip
        obtain ⟨rfl, rfl⟩ := hx_some2 h
        exact F
      · skip
        rcases hx_ite2 h with ⟨c10, h⟩ | ⟨c10, h⟩
        · skip
          obtain ⟨r11, e12, h⟩ := hx_bind h
          have pr_r11 := pr_X0_kindAt e12 F.1 p_this
          rcases r11 with _ | i13
          · have h := hx_eln h
            obtain ⟨rfl, rfl⟩ := hx_some2 h
            exact (FR.smi F p_i4)
          · have h := hx_els h
            have p_i13 := pr_r11 _ rfl
            obtain ⟨r14, e15, h⟩ := hx_bind h
            rcases hx_ite2 h with ⟨c16, h⟩ | ⟨c16, h⟩
            · skip
              obtain ⟨r17, e18, h⟩ := hx_bind h
              have F : FR P X (smi X i4 1 0) := (FR.smi F p_i4)
              have F := F.tr (fr_X1_gain (X' := r17) e18 F.1 p_i4)
              obtain ⟨r19, e20, h⟩ := hx_bind h
              rcases hx_ite h with ⟨c21, h⟩ | ⟨c21, h⟩
              · skip
                obtain ⟨r22, e23, h⟩ := hx_bind h
                have F : FR P X (smi r17 this 8 ((r17.1 this 8) + ((r17.1 i4 3) - (r17.1 i4 5)))) := (FR.smi F p_this)
                have F := F.tr (fr_X1_gain (X' := r22) e23 F.1 p_i4)
                obtain ⟨rfl, rfl⟩ := hx_some2 h
                exact F
              · skip
                obtain ⟨rfl, rfl⟩ := hx_some2 h
                exact (FR.smi F p_this)
            · skip
              obtain ⟨rfl, rfl⟩ := hx_some2 h
              exact (FR.smi F p_i4)
        · skip
          obtain ⟨rfl, rfl⟩ := hx_some2 h
          exact F
    · skip
      obtain ⟨rfl, rfl⟩ := hx_some2 h
      exact F
set_option maxRecDepth 100000 in
set_option maxHeartbeats 4000000 in
theorem fr_X5_begin {P : Nat → Prop} {L : hL} {X : hX} {this : Nat} {a1 : Int32} {a2 : Int32} {a3 : Int32} {a4 : Int32} {a5 : Int32} {X' : hX} (h : f_X5_begin L X this a1 a2 a3 a4 a5 = some X') (hcl : Cl P X) (p_this : P this) : FR P X X' := by
  unfold f_X5_begin at h
  have F := FR.rf hcl
  obtain ⟨g1, h⟩ := hx_gd h
  obtain rfl := hx_some1 h
  exact (FR.smi (FR.smi (FR.smi (FR.smi (FR.smi (FR.smi (FR.smi F p_this) p_this) p_this) p_this) p_this) p_this) p_this)
