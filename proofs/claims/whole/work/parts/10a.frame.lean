def Cl (P : Nat → Prop) (X : hX) : Prop := ∀ k j b, P k → X.2 k j = some b → P b
def FR (P : Nat → Prop) (X Y : hX) : Prop := Cl P Y ∧ ∀ k, ¬ P k → ∀ j, Y.1 k j = X.1 k j ∧ Y.2 k j = X.2 k j
theorem FR.rf {P : Nat → Prop} {X : hX} (h : Cl P X) : FR P X X := ⟨h, fun _ _ _ => ⟨rfl, rfl⟩⟩
theorem FR.tr {P : Nat → Prop} {X Y Z : hX} (h1 : FR P X Y) (h2 : FR P Y Z) : FR P X Z := ⟨h2.1, fun k hk j => ⟨(h2.2 k hk j).1.trans (h1.2 k hk j).1, (h2.2 k hk j).2.trans (h1.2 k hk j).2⟩⟩
theorem FR.smi {P : Nat → Prop} {X Y : hX} {a j : Nat} {v : Int32} (h : FR P X Y) (ha : P a) : FR P X (smi Y a j v) := ⟨h.1, fun k hk i => ⟨by rw [smi_1, if_neg (fun (q : k = a ∧ i = j) => hk (q.1 ▸ ha))]; exact (h.2 k hk i).1, (h.2 k hk i).2⟩⟩
theorem FR.smr {P : Nat → Prop} {X Y : hX} {a j b : Nat} (h : FR P X Y) (ha : P a) (hb : P b) : FR P X (smr Y a j (some b)) := by
  refine ⟨fun k i q hk hq => ?_, fun k hk i => ⟨(h.2 k hk i).1, by rw [smr_2, if_neg (fun (q : k = a ∧ i = j) => hk (q.1 ▸ ha))]; exact (h.2 k hk i).2⟩⟩
  rw [smr_2] at hq
  split at hq
  · cases hq; exact hb
  · exact h.1 k i q hk hq
theorem hx_ite {P : Prop} [Decidable P] {β : Type} {a b : Option β} {r : β} (h : (if P then a else b) = some r) : (P ∧ a = some r) ∨ (¬ P ∧ b = some r) := by
  by_cases hp : P
  · rw [if_pos hp] at h; exact Or.inl ⟨hp, h⟩
  · rw [if_neg hp] at h; exact Or.inr ⟨hp, h⟩
theorem hx_ite2 {P : Prop} [Decidable P] {β : Type} {a b : Option β} {r : β} (h : (if P then a else b) = some r) : (¬ P ∧ b = some r) ∨ (P ∧ a = some r) := (hx_ite h).symm
set_option maxRecDepth 100000 in
set_option maxHeartbeats 4000000 in
theorem fr_X4_copyFrom {P : Nat → Prop} {L : hL} {X : hX} {this : Nat} {a1 : Nat} {X' : hX} (h : f_X4_copyFrom L X this a1 = some X') (hcl : Cl P X) (p_this : P this) (p_a1 : P a1) : FR P X X' := by
  unfold f_X4_copyFrom at h
  have F := FR.rf hcl
  obtain ⟨g1, h⟩ := hx_gd h
  obtain ⟨g2, h⟩ := hx_gd h
  obtain rfl := hx_some1 h
  exact (FR.smi (FR.smi F p_this) p_this)
set_option maxRecDepth 100000 in
set_option maxHeartbeats 4000000 in
theorem fr_X1_copyFrom {P : Nat → Prop} {L : hL} {X : hX} {this : Nat} {a1 : Nat} {X' : hX} (h : f_X1_copyFrom L X this a1 = some X') (hcl : Cl P X) (p_this : P this) (p_a1 : P a1) : FR P X X' := by
  unfold f_X1_copyFrom at h
  have F := FR.rf hcl
  obtain ⟨g1, h⟩ := hx_gd h
  obtain ⟨g2, h⟩ := hx_gd h
  obtain ⟨g3, h⟩ := hx_gd h
  obtain rfl := hx_some1 h
  exact (FR.smi (FR.smi (FR.smi (FR.smi (FR.smi (FR.smi F p_this) p_this) p_this) p_this) p_this) p_this)
set_option maxRecDepth 100000 in
set_option maxHeartbeats 4000000 in
theorem fr_X5_copyFrom {P : Nat → Prop} {L : hL} {X : hX} {this : Nat} {a1 : Nat} {X' : hX} (h : f_X5_copyFrom L X this a1 = some X') (hcl : Cl P X) (p_this : P this) (p_a1 : P a1) : FR P X X' := by
  unfold f_X5_copyFrom at h
  have F := FR.rf hcl
  obtain ⟨g1, h⟩ := hx_gd h
  obtain ⟨g2, h⟩ := hx_gd h
  obtain rfl := hx_some1 h
  exact (FR.smi (FR.smi (FR.smi (FR.smi (FR.smi (FR.smi (FR.smi F p_this) p_this) p_this) p_this) p_this) p_this) p_this)
set_option maxRecDepth 100000 in
set_option maxHeartbeats 4000000 in
theorem fr_X7_copyFrom {P : Nat → Prop} {L : hL} {X : hX} {this : Nat} {a1 : Nat} {X' : hX} (h : f_X7_copyFrom L X this a1 = some X') (hcl : Cl P X) (p_this : P this) (p_a1 : P a1) : FR P X X' := by
  unfold f_X7_copyFrom at h
  have F := FR.rf hcl
  obtain ⟨g1, h⟩ := hx_gd h
  obtain ⟨g2, h⟩ := hx_gd h
  obtain rfl := hx_some1 h
  exact (FR.smi (FR.smi (FR.smi F p_this) p_this) p_this)
set_option maxRecDepth 100000 in
set_option maxHeartbeats 4000000 in
theorem fr_X0_copyFrom_59 {P : Nat → Prop} {L : hL} : ∀ (n : Nat) (v0 : Nat) (v1 : Nat) (v2 : Int32) (X : hX) (X' : hX), f_X0_copyFrom_59 L n v0 v1 v2 X = some X' → Cl P X → P v0 → P v1 → FR P X X' := by
  intro n
  induction n with
  | zero => intro v0 v1 v2 X X' h; cases h
  | succ n ih =>
    intro v0 v1 v2 X X' h hcl p_v0 p_v1
    rw [f_X0_copyFrom_59] at h
    have F := FR.rf hcl
    rcases hx_ite h with ⟨c1, h⟩ | ⟨c1, h⟩
    · skip
      obtain ⟨g2, h⟩ := hx_gd h
      obtain ⟨q3, e4, h⟩ := hx_bind h
      have p_q3 := F.1 _ _ _ p_v0 e4
      obtain ⟨g5, h⟩ := hx_gd h
      obtain ⟨q6, e7, h⟩ := hx_bind h
      have p_q6 := F.1 _ _ _ p_v1 e7
      obtain ⟨r8, e9, h⟩ := hx_bind h
      have F := F.tr (fr_X7_copyFrom (X' := r8) e9 F.1 p_q3 p_q6)
      obtain ⟨g10, h⟩ := hx_gd h
      obtain rfl := hx_some1 h
      exact (FR.smi (FR.smi (FR.smi (FR.smi (FR.smi F p_v0) p_v0) p_v0) p_v0) p_v0)
    · skip
      obtain ⟨g11, h⟩ := hx_gd h
      obtain ⟨q12, e13, h⟩ := hx_bind h
      have p_q12 := F.1 _ _ _ p_v0 e13
      obtain ⟨g14, h⟩ := hx_gd h
      obtain ⟨g15, h⟩ := hx_gd h
      obtain ⟨q16, e17, h⟩ := hx_bind h
      have p_q16 := F.1 _ _ _ p_q12 e17
      obtain ⟨g18, h⟩ := hx_gd h
      obtain ⟨q19, e20, h⟩ := hx_bind h
      have p_q19 := F.1 _ _ _ p_v1 e20
      obtain ⟨g21, h⟩ := hx_gd h
      obtain ⟨g22, h⟩ := hx_gd h
      obtain ⟨q23, e24, h⟩ := hx_bind h
      have p_q23 := F.1 _ _ _ p_q19 e24
      obtain ⟨r25, e26, h⟩ := hx_bind h
      have F := F.tr (fr_X5_copyFrom (X' := r25) e26 F.1 p_q16 p_q23)
      obtain ⟨g27, h⟩ := hx_gd h
      exact FR.tr F (ih v0 v1 (v2 + 1) r25 _ h (FR.tr F (FR.rf F.1)).1 p_v0 p_v1)
set_option maxRecDepth 100000 in
set_option maxHeartbeats 4000000 in
theorem fr_X0_copyFrom_30 {P : Nat → Prop} {L : hL} : ∀ (n : Nat) (v0 : Nat) (v1 : Nat) (v2 : Int32) (X : hX) (X' : hX), f_X0_copyFrom_30 L n v0 v1 v2 X = some X' → Cl P X → P v0 → P v1 → FR P X X' := by
  intro n
  induction n with
  | zero => intro v0 v1 v2 X X' h; cases h
  | succ n ih =>
    intro v0 v1 v2 X X' h hcl p_v0 p_v1
    rw [f_X0_copyFrom_30] at h
    have F := FR.rf hcl
    rcases hx_ite h with ⟨c28, h⟩ | ⟨c28, h⟩
    · skip
      exact FR.tr F (fr_X0_copyFrom_59 u_fuel v0 v1 0 X _ h (FR.tr F (FR.rf F.1)).1 p_v0 p_v1)
    · skip
      obtain ⟨g29, h⟩ := hx_gd h
      obtain ⟨q30, e31, h⟩ := hx_bind h
      have p_q30 := F.1 _ _ _ p_v0 e31
      obtain ⟨g32, h⟩ := hx_gd h
      obtain ⟨g33, h⟩ := hx_gd h
      obtain ⟨q34, e35, h⟩ := hx_bind h
      have p_q34 := F.1 _ _ _ p_q30 e35
      obtain ⟨g36, h⟩ := hx_gd h
      obtain ⟨q37, e38, h⟩ := hx_bind h
      have p_q37 := F.1 _ _ _ p_v1 e38
      obtain ⟨g39, h⟩ := hx_gd h
      obtain ⟨g40, h⟩ := hx_gd h
      obtain ⟨q41, e42, h⟩ := hx_bind h
      have p_q41 := F.1 _ _ _ p_q37 e42
      obtain ⟨r43, e44, h⟩ := hx_bind h
      have F := F.tr (fr_X1_copyFrom (X' := r43) e44 F.1 p_q34 p_q41)
      obtain ⟨g45, h⟩ := hx_gd h
      exact FR.tr F (ih v0 v1 (v2 + 1) r43 _ h (FR.tr F (FR.rf F.1)).1 p_v0 p_v1)
set_option maxRecDepth 100000 in
set_option maxHeartbeats 4000000 in
theorem fr_X0_copyFrom_2 {P : Nat → Prop} {L : hL} : ∀ (n : Nat) (v0 : Nat) (v1 : Nat) (v2 : Int32) (X : hX) (X' : hX), f_X0_copyFrom_2 L n v0 v1 v2 X = some X' → Cl P X → P v0 → P v1 → FR P X X' := by
  intro n
  induction n with
  | zero => intro v0 v1 v2 X X' h; cases h
  | succ n ih =>
    intro v0 v1 v2 X X' h hcl p_v0 p_v1
    rw [f_X0_copyFrom_2] at h
    have F := FR.rf hcl
    rcases hx_ite h with ⟨c46, h⟩ | ⟨c46, h⟩
    · skip
      exact FR.tr F (fr_X0_copyFrom_30 u_fuel v0 v1 0 X _ h (FR.tr F (FR.rf F.1)).1 p_v0 p_v1)
    · skip
      obtain ⟨g47, h⟩ := hx_gd h
      obtain ⟨q48, e49, h⟩ := hx_bind h
      have p_q48 := F.1 _ _ _ p_v0 e49
      obtain ⟨g50, h⟩ := hx_gd h
      obtain ⟨g51, h⟩ := hx_gd h
      obtain ⟨q52, e53, h⟩ := hx_bind h
      have p_q52 := F.1 _ _ _ p_q48 e53
      obtain ⟨g54, h⟩ := hx_gd h
      obtain ⟨q55, e56, h⟩ := hx_bind h
      have p_q55 := F.1 _ _ _ p_v1 e56
      obtain ⟨g57, h⟩ := hx_gd h
      obtain ⟨g58, h⟩ := hx_gd h
      obtain ⟨q59, e60, h⟩ := hx_bind h
      have p_q59 := F.1 _ _ _ p_q55 e60
      obtain ⟨r61, e62, h⟩ := hx_bind h
      have F := F.tr (fr_X4_copyFrom (X' := r61) e62 F.1 p_q52 p_q59)
      obtain ⟨g63, h⟩ := hx_gd h
      exact FR.tr F (ih v0 v1 (v2 + 1) r61 _ h (FR.tr F (FR.rf F.1)).1 p_v0 p_v1)
set_option maxRecDepth 100000 in
set_option maxHeartbeats 4000000 in
theorem fr_X0_copyFrom {P : Nat → Prop} {L : hL} {X : hX} {this : Nat} {a1 : Nat} {X' : hX} (h : f_X0_copyFrom L X this a1 = some X') (hcl : Cl P X) (p_this : P this) (p_a1 : P a1) : FR P X X' := by
  unfold f_X0_copyFrom at h
  have F := FR.rf hcl
  exact FR.tr F (fr_X0_copyFrom_2 u_fuel this a1 0 X _ h (FR.tr F (FR.rf F.1)).1 p_this p_a1)
set_option maxRecDepth 100000 in
set_option maxHeartbeats 4000000 in
theorem pr_X0_kindAt {P : Nat → Prop} {L : hL} {X : hX} {this : Nat} {a1 : Int32} {r : Option Nat} (h : f_X0_kindAt L X this a1 = some r) (hcl : Cl P X) (p_this : P this) : ∀ i, r = some i → P i := by
  unfold f_X0_kindAt at h
  have F := FR.rf hcl
  obtain ⟨r1, e2, h⟩ := hx_bind h
  rcases hx_ite h with ⟨c3, h⟩ | ⟨c3, h⟩
  · skip
    obtain rfl := hx_some1 h
    exact fun i hi => by cases hi
  · skip
    obtain ⟨g4, h⟩ := hx_gd h
    obtain ⟨q5, e6, h⟩ := hx_bind h
    have p_q5 := F.1 _ _ _ p_this e6
    obtain ⟨g7, h⟩ := hx_gd h
    obtain ⟨g8, h⟩ := hx_gd h
    obtain ⟨q9, e10, h⟩ := hx_bind h
    have p_q9 := F.1 _ _ _ p_q5 e10
    obtain rfl := hx_some1 h
    exact fun i hi => by cases hi; exact p_q9
set_option maxRecDepth 100000 in
set_option maxHeartbeats 4000000 in
theorem pr_X0_customerAt_22 {P : Nat → Prop} {L : hL} : ∀ (v0 : Nat) (v1 : Int32) (s0 : Int32) (X : hX) (r : Option Nat), f_X0_customerAt_22 L v0 v1 s0 X = some r → Cl P X → P v0 → ∀ i, r = some i → P i := by
  intro v0 v1 s0 X r h hcl p_v0
  unfold f_X0_customerAt_22 at h
  have F := FR.rf hcl
  rcases hx_ite h with ⟨c1, h⟩ | ⟨c1, h⟩
  · skip
    obtain rfl := hx_some1 h
    exact fun i hi => by cases hi
  · skip
    obtain ⟨g2, h⟩ := hx_gd h
    obtain ⟨q3, e4, h⟩ := hx_bind h
    have p_q3 := F.1 _ _ _ p_v0 e4
    obtain ⟨g5, h⟩ := hx_gd h
    obtain ⟨g6, h⟩ := hx_gd h
    obtain ⟨q7, e8, h⟩ := hx_bind h
    have p_q7 := F.1 _ _ _ p_q3 e8
    obtain rfl := hx_some1 h
    exact fun i hi => by cases hi; exact p_q7
set_option maxRecDepth 100000 in
set_option maxHeartbeats 4000000 in
theorem pr_X0_customerAt_21 {P : Nat → Prop} {L : hL} : ∀ (v0 : Nat) (v1 : Int32) (X : hX) (r : Option Nat), f_X0_customerAt_21 L v0 v1 X = some r → Cl P X → P v0 → ∀ i, r = some i → P i := by
  intro v0 v1 X r h hcl p_v0
  unfold f_X0_customerAt_21 at h
  have F := FR.rf hcl
  exact pr_X0_customerAt_22 v0 v1 0 X _ h F.1 p_v0
set_option maxRecDepth 100000 in
set_option maxHeartbeats 4000000 in
theorem pr_X0_customerAt {P : Nat → Prop} {L : hL} {X : hX} {this : Nat} {a1 : Int32} {r : Option Nat} (h : f_X0_customerAt L X this a1 = some r) (hcl : Cl P X) (p_this : P this) : ∀ i, r = some i → P i := by
  unfold f_X0_customerAt at h
  have F := FR.rf hcl
  obtain ⟨g9, h⟩ := hx_gd h
  rcases hx_ite h with ⟨c10, h⟩ | ⟨c10, h⟩
  · skip
    exact pr_X0_customerAt_21 this a1 X _ h F.1 p_this
  · skip
    obtain ⟨r11, e12, h⟩ := hx_bind h
    rcases hx_ite h with ⟨c13, h⟩ | ⟨c13, h⟩
    · skip
      exact pr_X0_customerAt_21 this a1 X _ h F.1 p_this
    · skip
      exact pr_X0_customerAt_22 this a1 1 X _ h F.1 p_this
set_option maxRecDepth 100000 in
set_option maxHeartbeats 4000000 in
theorem pr_X0_prizeAt_22 {P : Nat → Prop} {L : hL} : ∀ (v0 : Nat) (v1 : Int32) (s0 : Int32) (X : hX) (r : Option Nat), f_X0_prizeAt_22 L v0 v1 s0 X = some r → Cl P X → P v0 → ∀ i, r = some i → P i := by
  intro v0 v1 s0 X r h hcl p_v0
  unfold f_X0_prizeAt_22 at h
  have F := FR.rf hcl
  rcases hx_ite h with ⟨c1, h⟩ | ⟨c1, h⟩
  · skip
    obtain rfl := hx_some1 h
    exact fun i hi => by cases hi
  · skip
    obtain ⟨g2, h⟩ := hx_gd h
    obtain ⟨q3, e4, h⟩ := hx_bind h
    have p_q3 := F.1 _ _ _ p_v0 e4
    obtain ⟨g5, h⟩ := hx_gd h
    obtain ⟨g6, h⟩ := hx_gd h
    obtain ⟨q7, e8, h⟩ := hx_bind h
    have p_q7 := F.1 _ _ _ p_q3 e8
    obtain rfl := hx_some1 h
    exact fun i hi => by cases hi; exact p_q7
set_option maxRecDepth 100000 in
set_option maxHeartbeats 4000000 in
theorem pr_X0_prizeAt_21 {P : Nat → Prop} {L : hL} : ∀ (v0 : Nat) (v1 : Int32) (X : hX) (r : Option Nat), f_X0_prizeAt_21 L v0 v1 X = some r → Cl P X → P v0 → ∀ i, r = some i → P i := by
  intro v0 v1 X r h hcl p_v0
  unfold f_X0_prizeAt_21 at h
  have F := FR.rf hcl
  exact pr_X0_prizeAt_22 v0 v1 0 X _ h F.1 p_v0
set_option maxRecDepth 100000 in
set_option maxHeartbeats 4000000 in
theorem pr_X0_prizeAt {P : Nat → Prop} {L : hL} {X : hX} {this : Nat} {a1 : Int32} {r : Option Nat} (h : f_X0_prizeAt L X this a1 = some r) (hcl : Cl P X) (p_this : P this) : ∀ i, r = some i → P i := by
  unfold f_X0_prizeAt at h
  have F := FR.rf hcl
  obtain ⟨g9, h⟩ := hx_gd h
  rcases hx_ite h with ⟨c10, h⟩ | ⟨c10, h⟩
  · skip
    exact pr_X0_prizeAt_21 this a1 X _ h F.1 p_this
  · skip
    obtain ⟨r11, e12, h⟩ := hx_bind h
    rcases hx_ite h with ⟨c13, h⟩ | ⟨c13, h⟩
    · skip
      exact pr_X0_prizeAt_21 this a1 X _ h F.1 p_this
    · skip
      exact pr_X0_prizeAt_22 this a1 1 X _ h F.1 p_this
set_option maxRecDepth 100000 in
set_option maxHeartbeats 4000000 in
theorem fr_X0_changeKind {P : Nat → Prop} {L : hL} {X : hX} {this : Nat} {a1 : Int32} {a2 : Int32} {a3 : Int32} {r : Int32} {X' : hX} (h : f_X0_changeKind L X this a1 a2 a3 = some (r, X')) (hcl : Cl P X) (p_this : P this) : FR P X X' := by
  unfold f_X0_changeKind at h
  have F := FR.rf hcl
  obtain ⟨r1, e2, h⟩ := hx_bind h
  have pr_r1 := pr_X0_kindAt e2 F.1 p_this
  obtain ⟨g3, h⟩ := hx_gd h
  rcases r1 with _ | i4
  · have h := hx_eln h
    obtain ⟨rfl, rfl⟩ := hx_some2 h
    exact F
  · have h := hx_els h
    have p_i4 := pr_r1 _ rfl
    obtain ⟨r5, e6, h⟩ := hx_bind h
    rcases hx_ite h with ⟨c7, h⟩ | ⟨c7, h⟩
    · skip
      obtain ⟨rfl, rfl⟩ := hx_some2 h
      exact F
    · skip
      obtain ⟨r8, e9, h⟩ := hx_bind h
      rcases hx_ite2 h with ⟨c10, h⟩ | ⟨c10, h⟩
      · skip
        obtain ⟨g11, h⟩ := hx_gd h
        obtain ⟨rfl, rfl⟩ := hx_some2 h
        exact (FR.smi (FR.smi F p_i4) p_i4)
      · skip
        obtain ⟨rfl, rfl⟩ := hx_some2 h
        exact F
set_option maxRecDepth 100000 in
set_option maxHeartbeats 4000000 in
theorem fr_X0_changeScale {P : Nat → Prop} {L : hL} {X : hX} {this : Nat} {a1 : Int32} {a2 : Int32} {r : Int32} {X' : hX} (h : f_X0_changeScale L X this a1 a2 = some (r, X')) (hcl : Cl P X) (p_this : P this) : FR P X X' := by
  unfold f_X0_changeScale at h
  have F := FR.rf hcl
  obtain ⟨r1, e2, h⟩ := hx_bind h
  rcases hx_ite h with ⟨c3, h⟩ | ⟨c3, h⟩
  · skip
    obtain ⟨rfl, rfl⟩ := hx_some2 h
    exact F
  · skip
    obtain ⟨r4, e5, h⟩ := hx_bind h
    rcases hx_ite2 h with ⟨c6, h⟩ | ⟨c6, h⟩
    · skip
      obtain ⟨g7, h⟩ := hx_gd h
      obtain ⟨q8, e9, h⟩ := hx_bind h
      have p_q8 := F.1 _ _ _ p_this e9
      obtain ⟨g10, h⟩ := hx_gd h
      obtain ⟨rfl, rfl⟩ := hx_some2 h
      exact (FR.smi (FR.smi (FR.smi F p_q8) p_q8) p_q8)
    · skip
      obtain ⟨rfl, rfl⟩ := hx_some2 h
      exact F
set_option maxRecDepth 100000 in
set_option maxHeartbeats 4000000 in
theorem fr_X0_changeBias {P : Nat → Prop} {L : hL} {X : hX} {this : Nat} {a1 : Int32} {r : Int32} {X' : hX} (h : f_X0_changeBias L X this a1 = some (r, X')) (hcl : Cl P X) (p_this : P this) : FR P X X' := by
  unfold f_X0_changeBias at h
  have F := FR.rf hcl
  obtain ⟨g1, h⟩ := hx_gd h
  obtain ⟨q2, e3, h⟩ := hx_bind h
  have p_q2 := F.1 _ _ _ p_this e3
  obtain ⟨g4, h⟩ := hx_gd h
  obtain ⟨r5, e6, h⟩ := hx_bind h
  rcases hx_ite2 h with ⟨c7, h⟩ | ⟨c7, h⟩
  · skip
    obtain ⟨rfl, rfl⟩ := hx_some2 h
    exact (FR.smi F p_q2)
  · skip
    obtain ⟨rfl, rfl⟩ := hx_some2 h
    exact F
set_option maxRecDepth 100000 in
set_option maxHeartbeats 4000000 in
theorem fr_X0_changeRule {P : Nat → Prop} {L : hL} {X : hX} {this : Nat} {a1 : Int32} {r : Int32} {X' : hX} (h : f_X0_changeRule L X this a1 = some (r, X')) (hcl : Cl P X) (p_this : P this) : FR P X X' := by
  unfold f_X0_changeRule at h
  have F := FR.rf hcl
  obtain ⟨r1, e2, h⟩ := hx_bind h
  rcases hx_ite2 h with ⟨c3, h⟩ | ⟨c3, h⟩
  · skip
    obtain ⟨g4, h⟩ := hx_gd h
    obtain ⟨rfl, rfl⟩ := hx_some2 h
    exact (FR.smi F p_this)
  · skip
    obtain ⟨rfl, rfl⟩ := hx_some2 h
    exact F
set_option maxRecDepth 100000 in
set_option maxHeartbeats 4000000 in
theorem fr_X0_changeFee {P : Nat → Prop} {L : hL} {X : hX} {this : Nat} {a1 : Int32} {r : Int32} {X' : hX} (h : f_X0_changeFee L X this a1 = some (r, X')) (hcl : Cl P X) (p_this : P this) : FR P X X' := by
  unfold f_X0_changeFee at h
  have F := FR.rf hcl
  obtain ⟨r1, e2, h⟩ := hx_bind h
  rcases hx_ite2 h with ⟨c3, h⟩ | ⟨c3, h⟩
  · skip
    obtain ⟨g4, h⟩ := hx_gd h
    obtain ⟨rfl, rfl⟩ := hx_some2 h
    exact (FR.smi F p_this)
  · skip
    obtain ⟨rfl, rfl⟩ := hx_some2 h
    exact F
set_option maxRecDepth 100000 in
set_option maxHeartbeats 4000000 in
theorem fr_X1_begin {P : Nat → Prop} {L : hL} {X : hX} {this : Nat} {a1 : Int32} {X' : hX} (h : f_X1_begin L X this a1 = some X') (hcl : Cl P X) (p_this : P this) : FR P X X' := by
  unfold f_X1_begin at h
  have F := FR.rf hcl
  obtain ⟨g1, h⟩ := hx_gd h
  obtain rfl := hx_some1 h
  exact (FR.smi (FR.smi F p_this) p_this)
set_option maxRecDepth 100000 in
set_option maxHeartbeats 4000000 in
theorem fr_X0_addCustomer {P : Nat → Prop} {L : hL} {X : hX} {this : Nat} {a1 : Int32} {r : Int32} {X' : hX} (h : f_X0_addCustomer L X this a1 = some (r, X')) (hcl : Cl P X) (p_this : P this) : FR P X X' := by
  unfold f_X0_addCustomer at h
  have F := FR.rf hcl
  obtain ⟨r1, e2, h⟩ := hx_bind h
  rcases hx_ite2 h with ⟨c3, h⟩ | ⟨c3, h⟩
  · skip
    obtain ⟨g4, h⟩ := hx_gd h
    obtain ⟨r5, e6, h⟩ := hx_bind h
    rcases hx_ite2 h with ⟨c7, h⟩ | ⟨c7, h⟩
    · skip
      obtain ⟨q8, e9, h⟩ := hx_bind h
      have p_q8 := F.1 _ _ _ p_this e9
      obtain ⟨g10, h⟩ := hx_gd h
      obtain ⟨g11, h⟩ := hx_gd h
      obtain ⟨q12, e13, h⟩ := hx_bind h
      have p_q12 := F.1 _ _ _ p_q8 e13
      obtain ⟨r14, e15, h⟩ := hx_bind h
      have F := F.tr (fr_X1_begin (X' := r14) e15 F.1 p_q12)
      obtain ⟨g16, h⟩ := hx_gd h
      obtain ⟨rfl, rfl⟩ := hx_some2 h
      exact (FR.smi F p_this)
    · skip
      obtain ⟨rfl, rfl⟩ := hx_some2 h
      exact F
  · skip
    obtain ⟨rfl, rfl⟩ := hx_some2 h
    exact F
set_option maxRecDepth 100000 in
set_option maxHeartbeats 4000000 in
theorem fr_X0_dropCustomer_21 {P : Nat → Prop} {L : hL} : ∀ (n : Nat) (v0 : Nat) (v2 : Nat) (v3 : Int32) (v4 : Int32) (X : hX) (r : Int32) (X' : hX), f_X0_dropCustomer_21 L n v0 v2 v3 v4 X = some (r, X') → Cl P X → P v0 → P v2 → FR P X X' := by
  intro n
  induction n with
  | zero => intro v0 v2 v3 v4 X r X' h; cases h
  | succ n ih =>
    intro v0 v2 v3 v4 X r X' h hcl p_v0 p_v2
    rw [f_X0_dropCustomer_21] at h
    have F := FR.rf hcl
    rcases hx_ite h with ⟨c1, h⟩ | ⟨c1, h⟩
    · skip
      obtain ⟨g2, h⟩ := hx_gd h
      obtain ⟨q3, e4, h⟩ := hx_bind h
      have p_q3 := F.1 _ _ _ p_v0 e4
      obtain ⟨g5, h⟩ := hx_gd h
      obtain ⟨g6, h⟩ := hx_gd h
      obtain ⟨g7, h⟩ := hx_gd h
      have F : FR P X (smr X q3 5 (some v2)) := (FR.smr F p_q3 p_v2)
      obtain ⟨r8, e9, h⟩ := hx_bind h
      have F := F.tr (fr_X1_begin (X' := r8) e9 F.1 p_v2)
      obtain ⟨rfl, rfl⟩ := hx_some2 h
      exact (FR.smi F p_v0)
    · skip
      obtain ⟨g10, h⟩ := hx_gd h
      obtain ⟨q11, e12, h⟩ := hx_bind h
      have p_q11 := F.1 _ _ _ p_v0 e12
      obtain ⟨g13, h⟩ := hx_gd h
      obtain ⟨g14, h⟩ := hx_gd h
      obtain ⟨q15, e16, h⟩ := hx_bind h
      have p_q15 := F.1 _ _ _ p_q11 e16
      obtain ⟨g17, h⟩ := hx_gd h
      obtain ⟨g18, h⟩ := hx_gd h
      have F : FR P X (smr X q11 (Int32.toNatClampNeg v4) (some q15)) := (FR.smr F p_q11 p_q15)
      exact FR.tr F (ih v0 v2 v3 (v4 + 1) (smr X q11 (Int32.toNatClampNeg v4) (some q15)) _ _ h (FR.tr F (FR.rf F.1)).1 p_v0 p_v2)
set_option maxRecDepth 100000 in
set_option maxHeartbeats 4000000 in
theorem fr_X0_dropCustomer {P : Nat → Prop} {L : hL} {X : hX} {this : Nat} {a1 : Int32} {r : Int32} {X' : hX} (h : f_X0_dropCustomer L X this a1 = some (r, X')) (hcl : Cl P X) (p_this : P this) : FR P X X' := by
  unfold f_X0_dropCustomer at h
  have F := FR.rf hcl
  obtain ⟨r19, e20, h⟩ := hx_bind h
  have pr_r19 := pr_X0_customerAt e20 F.1 p_this
  obtain ⟨g21, h⟩ := hx_gd h
  rcases r19 with _ | i22
  · have h := hx_eln h
    obtain ⟨rfl, rfl⟩ := hx_some2 h
    exact F
  · have h := hx_els h
    have p_i22 := pr_r19 _ rfl
    obtain ⟨g23, h⟩ := hx_gd h
    exact FR.tr F (fr_X0_dropCustomer_21 u_fuel this i22 (X.1 i22 0) a1 X _ _ h (FR.tr F (FR.rf F.1)).1 p_this p_i22)
set_option maxRecDepth 100000 in
set_option maxHeartbeats 4000000 in
theorem fr_X1_gain {P : Nat → Prop} {L : hL} {X : hX} {this : Nat} {a1 : Int32} {X' : hX} (h : f_X1_gain L X this a1 = some X') (hcl : Cl P X) (p_this : P this) : FR P X X' := by
  unfold f_X1_gain at h
  have F := FR.rf hcl
  obtain ⟨g1, h⟩ := hx_gd h
  obtain rfl := hx_some1 h
  exact (FR.smi F p_this)
set_option maxRecDepth 100000 in
set_option maxHeartbeats 4000000 in
theorem fr_X1_keep {P : Nat → Prop} {L : hL} {X : hX} {this : Nat} {a1 : Int32} {a2 : Int32} {a3 : Int32} {a4 : Int32} {X' : hX} (h : f_X1_keep L X this a1 a2 a3 a4 = some X') (hcl : Cl P X) (p_this : P this) : FR P X X' := by
  unfold f_X1_keep at h
  have F := FR.rf hcl
  obtain ⟨g1, h⟩ := hx_gd h
  obtain rfl := hx_some1 h
  exact (FR.smi (FR.smi (FR.smi (FR.smi (FR.smi F p_this) p_this) p_this) p_this) p_this)
set_option maxRecDepth 100000 in
set_option maxHeartbeats 4000000 in
theorem fr_X0_weighBundle {P : Nat → Prop} {L : hL} {X : hX} {this : Nat} {a1 : Int32} {a2 : Int32} {a3 : Int32} {a4 : Int32} {r : Int32} {X' : hX} (h : f_X0_weighBundle L X this a1 a2 a3 a4 = some (r, X')) (hcl : Cl P X) (p_this : P this) : FR P X X' := by
  unfold f_X0_weighBundle at h
  have F := FR.rf hcl
  obtain ⟨r1, e2, h⟩ := hx_bind h
  have pr_r1 := pr_X0_customerAt e2 F.1 p_this
  obtain ⟨g3, h⟩ := hx_gd h
  rcases r1 with _ | i4
  · have h := hx_eln h
    obtain ⟨r5, e6, h⟩ := hx_bind h
    have pr_r5 := pr_X0_kindAt e6 F.1 p_this
    rcases r5 with _ | i7
    · have h := hx_eln h
      obtain ⟨rfl, rfl⟩ := hx_some2 h
      exact F
    · have h := hx_els h
      have p_i7 := pr_r5 _ rfl
      obtain ⟨rfl, rfl⟩ := hx_some2 h
      exact F
  · have h := hx_els h
    have p_i4 := pr_r1 _ rfl
    obtain ⟨r8, e9, h⟩ := hx_bind h
    have pr_r8 := pr_X0_kindAt e9 F.1 p_this
    rcases r8 with _ | i10
    · have h := hx_eln h
      obtain ⟨rfl, rfl⟩ := hx_some2 h
      exact F
    · have h := hx_els h
      have p_i10 := pr_r8 _ rfl
      obtain ⟨r11, e12, h⟩ := hx_bind h
      rcases hx_ite2 h with ⟨c13, h⟩ | ⟨c13, h⟩
      · skip
        obtain ⟨g14, h⟩ := hx_gd h
        obtain ⟨r15, e16, h⟩ := hx_bind h
        rcases hx_ite2 h with ⟨c17, h⟩ | ⟨c17, h⟩
        · skip
          obtain ⟨q18, e19, h⟩ := hx_bind h
          have p_q18 := F.1 _ _ _ p_this e19
          obtain ⟨g20, h⟩ := hx_gd h
          obtain ⟨r21, e22, h⟩ := hx_bind h
          obtain ⟨r23, e24, h⟩ := hx_bind h
          obtain ⟨r25, e26, h⟩ := hx_bind h
          have F := F.tr (fr_X1_gain (X' := r25) e26 F.1 p_i4)
          obtain ⟨g27, h⟩ := hx_gd h
          obtain ⟨r28, e29, h⟩ := hx_bind h
          have F := F.tr (fr_X1_keep (X' := r28) e29 F.1 p_i4)
          obtain ⟨rfl, rfl⟩ := hx_some2 h
          exact (FR.smi F p_this)
        · skip
          obtain ⟨rfl, rfl⟩ := hx_some2 h
          exact F
      · skip
        obtain ⟨rfl, rfl⟩ := hx_some2 h
        exact F
set_option maxRecDepth 100000 in
set_option maxHeartbeats 4000000 in
theorem fr_X0_settleClaim {P : Nat → Prop} {L : hL} {X : hX} {this : Nat} {a1 : Int32} {a2 : Int32} {r : Int32} {X' : hX} (h : f_X0_settleClaim L X this a1 a2 = some (r, X')) (hcl : Cl P X) (p_this : P this) : FR P X X' := by
  unfold f_X0_settleClaim at h
  have F := FR.rf hcl
  obtain ⟨r1, e2, h⟩ := hx_bind h
  have pr_r1 := pr_X0_customerAt e2 F.1 p_this
  obtain ⟨g3, h⟩ := hx_gd h
  rcases r1 with _ | i4
  · have h := hx_eln h
    obtain ⟨rfl, rfl⟩ := hx_some2 h
    exact F
  · have h := hx_els h
    have p_i4 := pr_r1 _ rfl
    obtain ⟨r5, e6, h⟩ := hx_bind h
    rcases hx_ite2 h with ⟨c7, h⟩ | ⟨c7, h⟩
    · skip
      obtain ⟨g8, h⟩ := hx_gd h
      rcases hx_ite h with ⟨c9, h⟩ | ⟨c9, h⟩
      · skip
        obtain ⟨rfl, rfl⟩ := hx_some2 h
        exact F
      · skip
        rcases hx_ite2 h with ⟨c10, h⟩ | ⟨c10, h⟩
        · skip
          obtain ⟨r11, e12, h⟩ := hx_bind h
          have pr_r11 := pr_X0_kindAt e12 F.1 p_this
          rcases r11 with _ | i13
          · have h := hx_eln h
            obtain ⟨rfl, rfl⟩ := hx_some2 h
            exact (FR.smi F p_i4)
          · have h := hx_els h
            have p_i13 := pr_r11 _ rfl
            obtain ⟨r14, e15, h⟩ := hx_bind h
            rcases hx_ite2 h with ⟨c16, h⟩ | ⟨c16, h⟩
            · skip
              obtain ⟨r17, e18, h⟩ := hx_bind h
              have F : FR P X (smi X i4 1 0) := (FR.smi F p_i4)
              have F := F.tr (fr_X1_gain (X' := r17) e18 F.1 p_i4)
              obtain ⟨r19, e20, h⟩ := hx_bind h
              rcases hx_ite h with ⟨c21, h⟩ | ⟨c21, h⟩
              · skip
                obtain ⟨r22, e23, h⟩ := hx_bind h
                have F : FR P X (smi r17 this 8 ((r17.1 this 8) + ((r17.1 i4 3) - (r17.1 i4 5)))) := (FR.smi F p_this)
                have F := F.tr (fr_X1_gain (X' := r22) e23 F.1 p_i4)
                obtain ⟨rfl, rfl⟩ := hx_some2 h
                exact F
              · skip
                obtain ⟨rfl, rfl⟩ := hx_some2 h
                exact (FR.smi F p_this)
            · skip
              obtain ⟨rfl, rfl⟩ := hx_some2 h
              exact (FR.smi F p_i4)
        · skip
          obtain ⟨rfl, rfl⟩ := hx_some2 h
          exact F
    · skip
      obtain ⟨rfl, rfl⟩ := hx_some2 h
      exact F
set_option maxRecDepth 100000 in
set_option maxHeartbeats 4000000 in
theorem fr_X5_begin {P : Nat → Prop} {L : hL} {X : hX} {this : Nat} {a1 : Int32} {a2 : Int32} {a3 : Int32} {a4 : Int32} {a5 : Int32} {X' : hX} (h : f_X5_begin L X this a1 a2 a3 a4 a5 = some X') (hcl : Cl P X) (p_this : P this) : FR P X X' := by
  unfold f_X5_begin at h
  have F := FR.rf hcl
  obtain ⟨g1, h⟩ := hx_gd h
  obtain rfl := hx_some1 h
  exact (FR.smi (FR.smi (FR.smi (FR.smi (FR.smi (FR.smi (FR.smi F p_this) p_this) p_this) p_this) p_this) p_this) p_this)
set_option maxRecDepth 100000 in
set_option maxHeartbeats 4000000 in
theorem fr_X0_placePrize {P : Nat → Prop} {L : hL} {X : hX} {this : Nat} {a1 : Int32} {a2 : Int32} {a3 : Int32} {a4 : Int32} {a5 : Int32} {r : Int32} {X' : hX} (h : f_X0_placePrize L X this a1 a2 a3 a4 a5 = some (r, X')) (hcl : Cl P X) (p_this : P this) : FR P X X' := by
  unfold f_X0_placePrize at h
  have F := FR.rf hcl
  obtain ⟨r1, e2, h⟩ := hx_bind h
  rcases hx_ite h with ⟨c3, h⟩ | ⟨c3, h⟩
  · skip
    obtain ⟨rfl, rfl⟩ := hx_some2 h
    exact F
  · skip
    obtain ⟨r4, e5, h⟩ := hx_bind h
    rcases hx_ite h with ⟨c6, h⟩ | ⟨c6, h⟩
    · skip
      obtain ⟨rfl, rfl⟩ := hx_some2 h
      exact F
    · skip
      obtain ⟨r7, e8, h⟩ := hx_bind h
      rcases hx_ite2 h with ⟨c9, h⟩ | ⟨c9, h⟩
      · skip
        obtain ⟨r10, e11, h⟩ := hx_bind h
        rcases hx_ite h with ⟨c12, h⟩ | ⟨c12, h⟩
        · skip
          obtain ⟨rfl, rfl⟩ := hx_some2 h
          exact F
        · skip
          obtain ⟨r13, e14, h⟩ := hx_bind h
          rcases hx_ite2 h with ⟨c15, h⟩ | ⟨c15, h⟩
          · skip
            obtain ⟨g16, h⟩ := hx_gd h
            obtain ⟨r17, e18, h⟩ := hx_bind h
            rcases hx_ite2 h with ⟨c19, h⟩ | ⟨c19, h⟩
            · skip
              obtain ⟨q20, e21, h⟩ := hx_bind h
              have p_q20 := F.1 _ _ _ p_this e21
              obtain ⟨g22, h⟩ := hx_gd h
              obtain ⟨g23, h⟩ := hx_gd h
              obtain ⟨q24, e25, h⟩ := hx_bind h
              have p_q24 := F.1 _ _ _ p_q20 e25
              obtain ⟨r26, e27, h⟩ := hx_bind h
              have F := F.tr (fr_X5_begin (X' := r26) e27 F.1 p_q24)
              obtain ⟨g28, h⟩ := hx_gd h
              obtain ⟨rfl, rfl⟩ := hx_some2 h
              exact (FR.smi F p_this)
            · skip
              obtain ⟨rfl, rfl⟩ := hx_some2 h
              exact F
          · skip
            obtain ⟨rfl, rfl⟩ := hx_some2 h
            exact F
      · skip
        obtain ⟨rfl, rfl⟩ := hx_some2 h
        exact F
set_option maxRecDepth 100000 in
set_option maxHeartbeats 4000000 in
theorem fr_X0_dropPrize_21 {P : Nat → Prop} {L : hL} : ∀ (n : Nat) (v0 : Nat) (v2 : Nat) (v3 : Int32) (v4 : Int32) (X : hX) (r : Int32) (X' : hX), f_X0_dropPrize_21 L n v0 v2 v3 v4 X = some (r, X') → Cl P X → P v0 → P v2 → FR P X X' := by
  intro n
  induction n with
  | zero => intro v0 v2 v3 v4 X r X' h; cases h
  | succ n ih =>
    intro v0 v2 v3 v4 X r X' h hcl p_v0 p_v2
    rw [f_X0_dropPrize_21] at h
    have F := FR.rf hcl
    rcases hx_ite h with ⟨c1, h⟩ | ⟨c1, h⟩
    · skip
      obtain ⟨g2, h⟩ := hx_gd h
      obtain ⟨q3, e4, h⟩ := hx_bind h
      have p_q3 := F.1 _ _ _ p_v0 e4
      obtain ⟨g5, h⟩ := hx_gd h
      obtain ⟨g6, h⟩ := hx_gd h
      obtain ⟨g7, h⟩ := hx_gd h
      have F : FR P X (smr X q3 5 (some v2)) := (FR.smr F p_q3 p_v2)
      obtain ⟨r8, e9, h⟩ := hx_bind h
      have F := F.tr (fr_X5_begin (X' := r8) e9 F.1 p_v2)
      obtain ⟨rfl, rfl⟩ := hx_some2 h
      exact (FR.smi F p_v0)
    · skip
      obtain ⟨g10, h⟩ := hx_gd h
      obtain ⟨q11, e12, h⟩ := hx_bind h
      have p_q11 := F.1 _ _ _ p_v0 e12
      obtain ⟨g13, h⟩ := hx_gd h
      obtain ⟨g14, h⟩ := hx_gd h
      obtain ⟨q15, e16, h⟩ := hx_bind h
      have p_q15 := F.1 _ _ _ p_q11 e16
      obtain ⟨g17, h⟩ := hx_gd h
      obtain ⟨g18, h⟩ := hx_gd h
      have F : FR P X (smr X q11 (Int32.toNatClampNeg v4) (some q15)) := (FR.smr F p_q11 p_q15)
      exact FR.tr F (ih v0 v2 v3 (v4 + 1) (smr X q11 (Int32.toNatClampNeg v4) (some q15)) _ _ h (FR.tr F (FR.rf F.1)).1 p_v0 p_v2)
set_option maxRecDepth 100000 in
set_option maxHeartbeats 4000000 in
theorem fr_X0_dropPrize {P : Nat → Prop} {L : hL} {X : hX} {this : Nat} {a1 : Int32} {r : Int32} {X' : hX} (h : f_X0_dropPrize L X this a1 = some (r, X')) (hcl : Cl P X) (p_this : P this) : FR P X X' := by
  unfold f_X0_dropPrize at h
  have F := FR.rf hcl
  obtain ⟨r19, e20, h⟩ := hx_bind h
  have pr_r19 := pr_X0_prizeAt e20 F.1 p_this
  obtain ⟨g21, h⟩ := hx_gd h
  rcases r19 with _ | i22
  · have h := hx_eln h
    obtain ⟨rfl, rfl⟩ := hx_some2 h
    exact F
  · have h := hx_els h
    have p_i22 := pr_r19 _ rfl
    obtain ⟨g23, h⟩ := hx_gd h
    exact FR.tr F (fr_X0_dropPrize_21 u_fuel this i22 (X.1 i22 2) a1 X _ _ h (FR.tr F (FR.rf F.1)).1 p_this p_i22)
set_option maxRecDepth 100000 in
set_option maxHeartbeats 4000000 in
theorem fr_X0_changePrice {P : Nat → Prop} {L : hL} {X : hX} {this : Nat} {a1 : Int32} {a2 : Int32} {r : Int32} {X' : hX} (h : f_X0_changePrice L X this a1 a2 = some (r, X')) (hcl : Cl P X) (p_this : P this) : FR P X X' := by
  unfold f_X0_changePrice at h
  have F := FR.rf hcl
  obtain ⟨r1, e2, h⟩ := hx_bind h
  have pr_r1 := pr_X0_prizeAt e2 F.1 p_this
  obtain ⟨g3, h⟩ := hx_gd h
  rcases r1 with _ | i4
  · have h := hx_eln h
    obtain ⟨rfl, rfl⟩ := hx_some2 h
    exact F
  · have h := hx_els h
    have p_i4 := pr_r1 _ rfl
    obtain ⟨r5, e6, h⟩ := hx_bind h
    rcases hx_ite2 h with ⟨c7, h⟩ | ⟨c7, h⟩
    · skip
      obtain ⟨g8, h⟩ := hx_gd h
      obtain ⟨rfl, rfl⟩ := hx_some2 h
      exact (FR.smi F p_i4)
    · skip
      obtain ⟨rfl, rfl⟩ := hx_some2 h
      exact F
set_option maxRecDepth 100000 in
set_option maxHeartbeats 4000000 in
theorem fr_X5_sell {P : Nat → Prop} {L : hL} {X : hX} {this : Nat} {a1 : Int32} {X' : hX} (h : f_X5_sell L X this a1 = some X') (hcl : Cl P X) (p_this : P this) : FR P X X' := by
  unfold f_X5_sell at h
  have F := FR.rf hcl
  obtain ⟨g1, h⟩ := hx_gd h
  obtain ⟨r2, e3, h⟩ := hx_bind h
  obtain ⟨r4, e5, h⟩ := hx_bind h
  obtain rfl := hx_some1 h
  exact (FR.smi (FR.smi (FR.smi (FR.smi (FR.smi F p_this) p_this) p_this) p_this) p_this)
set_option maxRecDepth 100000 in
set_option maxHeartbeats 4000000 in
theorem fr_X0_sellPrize {P : Nat → Prop} {L : hL} {X : hX} {this : Nat} {a1 : Int32} {a2 : Int32} {a3 : Int32} {r : Int32} {X' : hX} (h : f_X0_sellPrize L X this a1 a2 a3 = some (r, X')) (hcl : Cl P X) (p_this : P this) : FR P X X' := by
  unfold f_X0_sellPrize at h
  have F := FR.rf hcl
  obtain ⟨r1, e2, h⟩ := hx_bind h
  have pr_r1 := pr_X0_customerAt e2 F.1 p_this
  obtain ⟨g3, h⟩ := hx_gd h
  rcases r1 with _ | i4
  · have h := hx_eln h
    obtain ⟨r5, e6, h⟩ := hx_bind h
    have pr_r5 := pr_X0_prizeAt e6 F.1 p_this
    rcases r5 with _ | i7
    · have h := hx_eln h
      obtain ⟨rfl, rfl⟩ := hx_some2 h
      exact F
    · have h := hx_els h
      have p_i7 := pr_r5 _ rfl
      obtain ⟨rfl, rfl⟩ := hx_some2 h
      exact F
  · have h := hx_els h
    have p_i4 := pr_r1 _ rfl
    obtain ⟨r8, e9, h⟩ := hx_bind h
    have pr_r8 := pr_X0_prizeAt e9 F.1 p_this
    rcases r8 with _ | i10
    · have h := hx_eln h
      obtain ⟨rfl, rfl⟩ := hx_some2 h
      exact F
    · have h := hx_els h
      have p_i10 := pr_r8 _ rfl
      obtain ⟨r11, e12, h⟩ := hx_bind h
      rcases hx_ite2 h with ⟨c13, h⟩ | ⟨c13, h⟩
      · skip
        obtain ⟨g14, h⟩ := hx_gd h
        obtain ⟨g15, h⟩ := hx_gd h
        rcases hx_ite h with ⟨c16, h⟩ | ⟨c16, h⟩
        · skip
          rcases hx_ite h with ⟨c17, h⟩ | ⟨c17, h⟩
          · skip
            obtain ⟨r18, e19, h⟩ := hx_bind h
            have F : FR P X (smi X i4 0 ((X.1 i4 0) - (a3 * (X.1 i10 0)))) := (FR.smi F p_i4)
            have F := F.tr (fr_X5_sell (X' := r18) e19 F.1 p_i10)
            obtain ⟨rfl, rfl⟩ := hx_some2 h
            exact F
          · skip
            obtain ⟨rfl, rfl⟩ := hx_some2 h
            exact F
        · skip
          obtain ⟨rfl, rfl⟩ := hx_some2 h
          exact F
      · skip
        obtain ⟨rfl, rfl⟩ := hx_some2 h
        exact F
set_option maxRecDepth 100000 in
set_option maxHeartbeats 4000000 in
theorem fr_X2_note {P : Nat → Prop} {L : hL} {X : hX} {this : Nat} {a1 : Int32} {a2 : Int32} {a3 : Int32} {X' : hX} (h : f_X2_note L X this a1 a2 a3 = some X') (hcl : Cl P X) (p_this : P this) : FR P X X' := by
  unfold f_X2_note at h
  have F := FR.rf hcl
  obtain ⟨g1, h⟩ := hx_gd h
  rcases hx_ite2 h with ⟨c2, h⟩ | ⟨c2, h⟩
  · skip
    rcases hx_ite2 h with ⟨c3, h⟩ | ⟨c3, h⟩
    · skip
      obtain rfl := hx_some1 h
      exact (FR.smi (FR.smi (FR.smi (FR.smi F p_this) p_this) p_this) p_this)
    · skip
      obtain rfl := hx_some1 h
      exact (FR.smi (FR.smi (FR.smi (FR.smi F p_this) p_this) p_this) p_this)
  · skip
    obtain rfl := hx_some1 h
    exact (FR.smi (FR.smi (FR.smi (FR.smi F p_this) p_this) p_this) p_this)
set_option maxRecDepth 100000 in
set_option maxHeartbeats 4000000 in
theorem fr_X8_copyFrom_54 {P : Nat → Prop} {L : hL} (k13 : Nat → Nat → Int32 → hX → Option (hX)) (hk13 : ∀ (v0 : Nat) (v1 : Nat) (v2 : Int32) (X : hX) (X' : hX), k13 v0 v1 v2 X = some X' → Cl P X → P v0 → P v1 → FR P X X') : ∀ (v0 : Nat) (v1 : Nat) (v2 : Int32) (X : hX) (X' : hX), f_X8_copyFrom_54 L k13 v0 v1 v2 X = some X' → Cl P X → P v0 → P v1 → FR P X X' := by
  intro v0 v1 v2 X X' h hcl p_v0 p_v1
  unfold f_X8_copyFrom_54 at h
  have F := FR.rf hcl
  exact FR.tr F (hk13 v0 v1 (v2 + 1) X _ h (FR.tr F (FR.rf F.1)).1 p_v0 p_v1)
set_option maxRecDepth 100000 in
set_option maxHeartbeats 4000000 in
theorem fr_X8_copyFrom_13 {P : Nat → Prop} {L : hL} : ∀ (n : Nat) (v0 : Nat) (v1 : Nat) (v2 : Int32) (X : hX) (X' : hX), f_X8_copyFrom_13 L n v0 v1 v2 X = some X' → Cl P X → P v0 → P v1 → FR P X X' := by
  intro n
  induction n with
  | zero => intro v0 v1 v2 X X' h; cases h
  | succ n ih =>
    intro v0 v1 v2 X X' h hcl p_v0 p_v1
    rw [f_X8_copyFrom_13] at h
    have F := FR.rf hcl
    rcases hx_ite h with ⟨c1, h⟩ | ⟨c1, h⟩
    · skip
      obtain rfl := hx_some1 h
      exact F
    · skip
      obtain ⟨g2, h⟩ := hx_gd h
      obtain ⟨q3, e4, h⟩ := hx_bind h
      have p_q3 := F.1 _ _ _ p_v0 e4
      obtain ⟨g5, h⟩ := hx_gd h
      obtain ⟨q6, e7, h⟩ := hx_bind h
      have p_q6 := F.1 _ _ _ p_v1 e7
      obtain ⟨g8, h⟩ := hx_gd h
      obtain ⟨g9, h⟩ := hx_gd h
      obtain ⟨g10, h⟩ := hx_gd h
      obtain ⟨g11, h⟩ := hx_gd h
      rcases hx_ite h with ⟨c12, h⟩ | ⟨c12, h⟩
      · skip
        exact FR.tr (FR.smi F p_q3) (fr_X8_copyFrom_54 (f_X8_copyFrom_13 L n) ih v0 v1 v2 (smi X q3 (Int32.toNatClampNeg v2) (vp_nar .boolean (X.1 q6 (Int32.toNatClampNeg v2)))) _ h ((FR.smi F p_q3)).1 p_v0 p_v1)
      · skip
        obtain ⟨q13, e14, h⟩ := hx_bind h
        have p_q13 := F.1 _ _ _ p_v0 e14
        obtain ⟨g15, h⟩ := hx_gd h
        obtain ⟨g16, h⟩ := hx_gd h
        obtain ⟨q17, e18, h⟩ := hx_bind h
        have p_q17 := F.1 _ _ _ p_q13 e18
        obtain ⟨q19, e20, h⟩ := hx_bind h
        have p_q19 := F.1 _ _ _ p_v1 e20
        obtain ⟨g21, h⟩ := hx_gd h
        obtain ⟨g22, h⟩ := hx_gd h
        obtain ⟨q23, e24, h⟩ := hx_bind h
        have p_q23 := F.1 _ _ _ p_q19 e24
        obtain ⟨r25, e26, h⟩ := hx_bind h
        have F : FR P X (smi X q3 (Int32.toNatClampNeg v2) (vp_nar .boolean (X.1 q6 (Int32.toNatClampNeg v2)))) := (FR.smi F p_q3)
        have F := F.tr (fr_X0_copyFrom (X' := r25) e26 F.1 p_q17 p_q23)
        obtain ⟨g27, h⟩ := hx_gd h
        exact FR.tr F (fr_X8_copyFrom_54 (f_X8_copyFrom_13 L n) ih v0 v1 v2 r25 _ h (FR.tr F (FR.rf F.1)).1 p_v0 p_v1)
set_option maxRecDepth 100000 in
set_option maxHeartbeats 4000000 in
theorem fr_X8_copyFrom {P : Nat → Prop} {L : hL} {X : hX} {this : Nat} {a1 : Nat} {X' : hX} (h : f_X8_copyFrom L X this a1 = some X') (hcl : Cl P X) (p_this : P this) (p_a1 : P a1) : FR P X X' := by
  unfold f_X8_copyFrom at h
  have F := FR.rf hcl
  obtain ⟨g28, h⟩ := hx_gd h
  obtain ⟨q29, e30, h⟩ := hx_bind h
  have p_q29 := F.1 _ _ _ p_this e30
  obtain ⟨g31, h⟩ := hx_gd h
  obtain ⟨q32, e33, h⟩ := hx_bind h
  have p_q32 := F.1 _ _ _ p_a1 e33
  obtain ⟨r34, e35, h⟩ := hx_bind h
  have F := F.tr (fr_X0_copyFrom (X' := r34) e35 F.1 p_q29 p_q32)
  obtain ⟨g36, h⟩ := hx_gd h
  exact FR.tr F (fr_X8_copyFrom_13 u_fuel this a1 0 r34 _ h (FR.tr F (FR.rf F.1)).1 p_this p_a1)
set_option maxRecDepth 100000 in
set_option maxHeartbeats 4000000 in
theorem fr_X3_prepare {P : Nat → Prop} {L : hL} {X : hX} {this : Nat} {X' : hX} (h : f_X3_prepare L X this = some X') (hcl : Cl P X) (p_this : P this) : FR P X X' := by
  unfold f_X3_prepare at h
  have F := FR.rf hcl
  obtain ⟨g1, h⟩ := hx_gd h
  obtain ⟨q2, e3, h⟩ := hx_bind h
  have p_q2 := F.1 _ _ _ p_this e3
  obtain ⟨q4, e5, h⟩ := hx_bind h
  have p_q4 := F.1 _ _ _ p_this e5
  obtain ⟨r6, e7, h⟩ := hx_bind h
  have F := F.tr (fr_X8_copyFrom (X' := r6) e7 F.1 p_q2 p_q4)
  obtain ⟨g8, h⟩ := hx_gd h
  obtain rfl := hx_some1 h
  exact F
set_option maxRecDepth 100000 in
set_option maxHeartbeats 4000000 in
theorem fr_X3_dropOldest_9 {P : Nat → Prop} {L : hL} : ∀ (n : Nat) (v0 : Nat) (v1 : Nat) (v2 : Int32) (X : hX) (X' : hX), f_X3_dropOldest_9 L n v0 v1 v2 X = some X' → Cl P X → P v0 → P v1 → FR P X X' := by
  intro n
  induction n with
  | zero => intro v0 v1 v2 X X' h; cases h
  | succ n ih =>
    intro v0 v1 v2 X X' h hcl p_v0 p_v1
    rw [f_X3_dropOldest_9] at h
    have F := FR.rf hcl
    rcases hx_ite h with ⟨c1, h⟩ | ⟨c1, h⟩
    · skip
      obtain ⟨g2, h⟩ := hx_gd h
      obtain ⟨q3, e4, h⟩ := hx_bind h
      have p_q3 := F.1 _ _ _ p_v0 e4
      obtain ⟨g5, h⟩ := hx_gd h
      obtain ⟨g6, h⟩ := hx_gd h
      obtain ⟨g7, h⟩ := hx_gd h
      have F : FR P X (smr X q3 4 (some v1)) := (FR.smr F p_q3 p_v1)
      obtain rfl := hx_some1 h
      exact (FR.smi F p_v0)
    · skip
      obtain ⟨g8, h⟩ := hx_gd h
      obtain ⟨q9, e10, h⟩ := hx_bind h
      have p_q9 := F.1 _ _ _ p_v0 e10
      obtain ⟨g11, h⟩ := hx_gd h
      obtain ⟨g12, h⟩ := hx_gd h
      obtain ⟨q13, e14, h⟩ := hx_bind h
      have p_q13 := F.1 _ _ _ p_q9 e14
      obtain ⟨g15, h⟩ := hx_gd h
      obtain ⟨g16, h⟩ := hx_gd h
      have F : FR P X (smr X q9 (Int32.toNatClampNeg v2) (some q13)) := (FR.smr F p_q9 p_q13)
      exact FR.tr F (ih v0 v1 (v2 + 1) (smr X q9 (Int32.toNatClampNeg v2) (some q13)) _ h (FR.tr F (FR.rf F.1)).1 p_v0 p_v1)
set_option maxRecDepth 100000 in
set_option maxHeartbeats 4000000 in
theorem fr_X3_dropOldest {P : Nat → Prop} {L : hL} {X : hX} {this : Nat} {X' : hX} (h : f_X3_dropOldest L X this = some X') (hcl : Cl P X) (p_this : P this) : FR P X X' := by
  unfold f_X3_dropOldest at h
  have F := FR.rf hcl
  obtain ⟨g17, h⟩ := hx_gd h
  obtain ⟨q18, e19, h⟩ := hx_bind h
  have p_q18 := F.1 _ _ _ p_this e19
  obtain ⟨g20, h⟩ := hx_gd h
  obtain ⟨g21, h⟩ := hx_gd h
  obtain ⟨q22, e23, h⟩ := hx_bind h
  have p_q22 := F.1 _ _ _ p_q18 e23
  exact FR.tr F (fr_X3_dropOldest_9 u_fuel this q22 0 X _ h (FR.tr F (FR.rf F.1)).1 p_this p_q22)
set_option maxRecDepth 100000 in
set_option maxHeartbeats 4000000 in
theorem fr_X3_recordSpare_12 {P : Nat → Prop} {L : hL} : ∀ (v0 : Nat) (X : hX) (X' : hX), f_X3_recordSpare_12 L v0 X = some X' → Cl P X → P v0 → FR P X X' := by
  intro v0 X X' h hcl p_v0
  unfold f_X3_recordSpare_12 at h
  have F := FR.rf hcl
  obtain ⟨g1, h⟩ := hx_gd h
  obtain ⟨r2, e3, h⟩ := hx_bind h
  rcases hx_ite h with ⟨c4, h⟩ | ⟨c4, h⟩
  · skip
    obtain rfl := hx_some1 h
    exact F
  · skip
    obtain ⟨q5, e6, h⟩ := hx_bind h
    have p_q5 := F.1 _ _ _ p_v0 e6
    obtain ⟨g7, h⟩ := hx_gd h
    obtain ⟨g8, h⟩ := hx_gd h
    obtain ⟨q9, e10, h⟩ := hx_bind h
    have p_q9 := F.1 _ _ _ p_q5 e10
    obtain ⟨q11, e12, h⟩ := hx_bind h
    have p_q11 := F.1 _ _ _ p_v0 e12
    obtain ⟨g13, h⟩ := hx_gd h
    have F : FR P X (smr X q5 (Int32.toNatClampNeg (X.1 v0 3)) (some q11)) := (FR.smr F p_q5 p_q11)
    have F : FR P X (smr (smr X q5 (Int32.toNatClampNeg (X.1 v0 3)) (some q11)) v0 2 (some q9)) := (FR.smr F p_v0 p_q9)
    obtain rfl := hx_some1 h
    exact (FR.smi F p_v0)
set_option maxRecDepth 100000 in
set_option maxHeartbeats 4000000 in
theorem fr_X3_recordSpare {P : Nat → Prop} {L : hL} {X : hX} {this : Nat} {X' : hX} (h : f_X3_recordSpare L X this = some X') (hcl : Cl P X) (p_this : P this) : FR P X X' := by
  unfold f_X3_recordSpare at h
  have F := FR.rf hcl
  obtain ⟨g14, h⟩ := hx_gd h
  rcases hx_ite h with ⟨c15, h⟩ | ⟨c15, h⟩
  · skip
    exact FR.tr F (fr_X3_recordSpare_12 this X _ h (FR.tr F (FR.rf F.1)).1 p_this)
  · skip
    obtain ⟨r16, e17, h⟩ := hx_bind h
    have F := F.tr (fr_X3_dropOldest (X' := r16) e17 F.1 p_this)
    exact FR.tr F (fr_X3_recordSpare_12 this r16 _ h (FR.tr F (FR.rf F.1)).1 p_this)
set_option maxRecDepth 100000 in
set_option maxHeartbeats 4000000 in
theorem fr_X3_settle {P : Nat → Prop} {L : hL} {X : hX} {this : Nat} {a1 : Int32} {r : Int32} {X' : hX} (h : f_X3_settle L X this a1 = some (r, X')) (hcl : Cl P X) (p_this : P this) : FR P X X' := by
  unfold f_X3_settle at h
  have F := FR.rf hcl
  obtain ⟨r1, e2, h⟩ := hx_bind h
  rcases hx_ite2 h with ⟨c3, h⟩ | ⟨c3, h⟩
  · skip
    obtain ⟨rfl, rfl⟩ := hx_some2 h
    exact F
  · skip
    obtain ⟨r4, e5, h⟩ := hx_bind h
    have F := F.tr (fr_X3_recordSpare (X' := r4) e5 F.1 p_this)
    obtain ⟨g6, h⟩ := hx_gd h
    obtain ⟨rfl, rfl⟩ := hx_some2 h
    exact F
set_option maxRecDepth 100000 in
set_option maxHeartbeats 4000000 in
theorem fr_X3_abandon {P : Nat → Prop} {L : hL} {X : hX} {this : Nat} {X' : hX} (h : f_X3_abandon L X this = some X') (hcl : Cl P X) (p_this : P this) : FR P X X' := by
  unfold f_X3_abandon at h
  have F := FR.rf hcl
  obtain ⟨g1, h⟩ := hx_gd h
  obtain ⟨q2, e3, h⟩ := hx_bind h
  have p_q2 := F.1 _ _ _ p_this e3
  obtain ⟨q4, e5, h⟩ := hx_bind h
  have p_q4 := F.1 _ _ _ p_this e5
  have F : FR P X (smr X this 1 (some q4)) := (FR.smr F p_this p_q4)
  have F : FR P X (smr (smr X this 1 (some q4)) this 2 (some q2)) := (FR.smr F p_this p_q2)
  obtain rfl := hx_some1 h
  exact F
set_option maxRecDepth 100000 in
set_option maxHeartbeats 4000000 in
theorem fr_X3_stepBack {P : Nat → Prop} {L : hL} {X : hX} {this : Nat} {r : Int32} {X' : hX} (h : f_X3_stepBack L X this = some (r, X')) (hcl : Cl P X) (p_this : P this) : FR P X X' := by
  unfold f_X3_stepBack at h
  have F := FR.rf hcl
  obtain ⟨g1, h⟩ := hx_gd h
  obtain ⟨r2, e3, h⟩ := hx_bind h
  rcases hx_ite2 h with ⟨c4, h⟩ | ⟨c4, h⟩
  · skip
    obtain ⟨q5, e6, h⟩ := hx_bind h
    have p_q5 := F.1 _ _ _ p_this e6
    obtain ⟨q7, e8, h⟩ := hx_bind h
    have p_q7 := F.1 _ _ _ p_this e8
    obtain ⟨g9, h⟩ := hx_gd h
    obtain ⟨g10, h⟩ := hx_gd h
    obtain ⟨q11, e12, h⟩ := hx_bind h
    have p_q11 := F.1 _ _ _ p_q7 e12
    have F : FR P X (smr X this 1 (some q11)) := (FR.smr F p_this p_q11)
    obtain ⟨q13, e14, h⟩ := hx_bind h
    have p_q13 := F.1 _ _ _ p_this e14
    obtain ⟨g15, h⟩ := hx_gd h
    obtain ⟨g16, h⟩ := hx_gd h
    obtain ⟨g17, h⟩ := hx_gd h
    have F : FR P X (smr (smr X this 1 (some q11)) q13 (Int32.toNatClampNeg ((X.1 this 3) - 1)) (some q5)) := (FR.smr F p_q13 p_q5)
    obtain ⟨rfl, rfl⟩ := hx_some2 h
    exact (FR.smi F p_this)
  · skip
    obtain ⟨rfl, rfl⟩ := hx_some2 h
    exact F
set_option maxRecDepth 100000 in
set_option maxHeartbeats 4000000 in
theorem fr_X5_sellOut_2 {P : Nat → Prop} {L : hL} : ∀ (n : Nat) (v0 : Nat) (v1 : Int32) (X : hX) (r : Int32) (X' : hX), f_X5_sellOut_2 L n v0 v1 X = some (r, X') → Cl P X → P v0 → FR P X X' := by
  intro n
  induction n with
  | zero => intro v0 v1 X r X' h; cases h
  | succ n ih =>
    intro v0 v1 X r X' h hcl p_v0
    rw [f_X5_sellOut_2] at h
    have F := FR.rf hcl
    rcases hx_ite h with ⟨c1, h⟩ | ⟨c1, h⟩
    · skip
      obtain ⟨rfl, rfl⟩ := hx_some2 h
      exact F
    · skip
      obtain ⟨g2, h⟩ := hx_gd h
      rcases hx_ite2 h with ⟨c3, h⟩ | ⟨c3, h⟩
      · skip
        obtain ⟨r4, e5, h⟩ := hx_bind h
        have F := F.tr (fr_X5_sell (X' := r4) e5 F.1 p_v0)
        exact FR.tr F (ih v0 (v1 + 1) r4 _ _ h (FR.tr F (FR.rf F.1)).1 p_v0)
      · skip
        obtain ⟨rfl, rfl⟩ := hx_some2 h
        exact F
set_option maxRecDepth 100000 in
set_option maxHeartbeats 4000000 in
theorem fr_X5_sellOut {P : Nat → Prop} {L : hL} {X : hX} {this : Nat} {r : Int32} {X' : hX} (h : f_X5_sellOut L X this = some (r, X')) (hcl : Cl P X) (p_this : P this) : FR P X X' := by
  unfold f_X5_sellOut at h
  have F := FR.rf hcl
  exact FR.tr F (fr_X5_sellOut_2 u_fuel this 0 X _ _ h (FR.tr F (FR.rf F.1)).1 p_this)
set_option maxRecDepth 100000 in
set_option maxHeartbeats 4000000 in
theorem fr_X6_addSign {P : Nat → Prop} {L : hL} {X : hX} {this : Nat} {a1 : Int32} {r : Int32} {X' : hX} (h : f_X6_addSign L X this a1 = some (r, X')) (hcl : Cl P X) (p_this : P this) : FR P X X' := by
  unfold f_X6_addSign at h
  have F := FR.rf hcl
  obtain ⟨r1, e2, h⟩ := hx_bind h
  rcases hx_ite2 h with ⟨c3, h⟩ | ⟨c3, h⟩
  · skip
    obtain ⟨g4, h⟩ := hx_gd h
    obtain ⟨r5, e6, h⟩ := hx_bind h
    rcases hx_ite2 h with ⟨c7, h⟩ | ⟨c7, h⟩
    · skip
      obtain ⟨q8, e9, h⟩ := hx_bind h
      have p_q8 := F.1 _ _ _ p_this e9
      obtain ⟨g10, h⟩ := hx_gd h
      obtain ⟨g11, h⟩ := hx_gd h
      obtain ⟨rfl, rfl⟩ := hx_some2 h
      exact (FR.smi (FR.smi F p_q8) p_this)
    · skip
      obtain ⟨rfl, rfl⟩ := hx_some2 h
      exact F
  · skip
    obtain ⟨rfl, rfl⟩ := hx_some2 h
    exact F
set_option maxRecDepth 100000 in
set_option maxHeartbeats 4000000 in
theorem fr_X6_emptyText {P : Nat → Prop} {L : hL} {X : hX} {this : Nat} {r : Int32} {X' : hX} (h : f_X6_emptyText L X this = some (r, X')) (hcl : Cl P X) (p_this : P this) : FR P X X' := by
  unfold f_X6_emptyText at h
  have F := FR.rf hcl
  obtain ⟨g1, h⟩ := hx_gd h
  obtain ⟨rfl, rfl⟩ := hx_some2 h
  exact (FR.smi F p_this)
set_option maxRecDepth 100000 in
set_option maxHeartbeats 4000000 in
theorem fr_X6_readToken_67 {P : Nat → Prop} {L : hL} : ∀ (n : Nat) (v0 : Nat) (X : hX) (X' : hX), f_X6_readToken_67 L n v0 X = some X' → Cl P X → P v0 → FR P X X' := by
  intro n
  induction n with
  | zero => intro v0 X X' h; cases h
  | succ n ih =>
    intro v0 X X' h hcl p_v0
    rw [f_X6_readToken_67] at h
    have F := FR.rf hcl
    obtain ⟨g1, h⟩ := hx_gd h
    rcases hx_ite h with ⟨c2, h⟩ | ⟨c2, h⟩
    · skip
      obtain rfl := hx_some1 h
      exact F
    · skip
      obtain ⟨r3, e4, h⟩ := hx_bind h
      obtain ⟨r5, e6, h⟩ := hx_bind h
      rcases hx_ite h with ⟨c7, h⟩ | ⟨c7, h⟩
      · skip
        obtain rfl := hx_some1 h
        exact F
      · skip
        exact FR.tr (FR.smi F p_v0) (ih v0 (smi X v0 5 ((X.1 v0 5) + 1)) _ h ((FR.smi F p_v0)).1 p_v0)
set_option maxRecDepth 100000 in
set_option maxHeartbeats 4000000 in
theorem fr_X6_readToken_119 {P : Nat → Prop} {L : hL} : ∀ (n : Nat) (v0 : Nat) (X : hX) (X' : hX), f_X6_readToken_119 L n v0 X = some X' → Cl P X → P v0 → FR P X X' := by
  intro n
  induction n with
  | zero => intro v0 X X' h; cases h
  | succ n ih =>
    intro v0 X X' h hcl p_v0
    rw [f_X6_readToken_119] at h
    have F := FR.rf hcl
    obtain ⟨g8, h⟩ := hx_gd h
    rcases hx_ite h with ⟨c9, h⟩ | ⟨c9, h⟩
    · skip
      obtain rfl := hx_some1 h
      exact F
    · skip
      obtain ⟨r10, e11, h⟩ := hx_bind h
      obtain ⟨r12, e13, h⟩ := hx_bind h
      rcases hx_ite h with ⟨c14, h⟩ | ⟨c14, h⟩
      · skip
        obtain rfl := hx_some1 h
        exact F
      · skip
        exact FR.tr (FR.smi F p_v0) (ih v0 (smi X v0 5 ((X.1 v0 5) + 1)) _ h ((FR.smi F p_v0)).1 p_v0)
set_option maxRecDepth 100000 in
set_option maxHeartbeats 4000000 in
theorem fr_X6_readToken_45 {P : Nat → Prop} {L : hL} : ∀ (v0 : Nat) (X : hX) (X' : hX), f_X6_readToken_45 L v0 X = some X' → Cl P X → P v0 → FR P X X' := by
  intro v0 X X' h hcl p_v0
  unfold f_X6_readToken_45 at h
  have F := FR.rf hcl
  obtain ⟨g15, h⟩ := hx_gd h
  obtain ⟨r16, e17, h⟩ := hx_bind h
  obtain ⟨r18, e19, h⟩ := hx_bind h
  rcases hx_ite h with ⟨c20, h⟩ | ⟨c20, h⟩
  · skip
    obtain ⟨r21, e22, h⟩ := hx_bind h
    obtain ⟨r23, e24, h⟩ := hx_bind h
    rcases hx_ite h with ⟨c25, h⟩ | ⟨c25, h⟩
    · skip
      rcases hx_ite h with ⟨c26, h⟩ | ⟨c26, h⟩
      · skip
        obtain rfl := hx_some1 h
        exact (FR.smi F p_v0)
      · skip
        obtain rfl := hx_some1 h
        exact (FR.smi (FR.smi F p_v0) p_v0)
    · skip
      exact FR.tr (FR.smi F p_v0) (fr_X6_readToken_119 u_fuel v0 (smi X v0 5 (X.1 v0 4)) _ h ((FR.smi F p_v0)).1 p_v0)
  · skip
    exact FR.tr (FR.smi F p_v0) (fr_X6_readToken_67 u_fuel v0 (smi X v0 5 (X.1 v0 4)) _ h ((FR.smi F p_v0)).1 p_v0)
set_option maxRecDepth 100000 in
set_option maxHeartbeats 4000000 in
theorem fr_X6_readToken_8 {P : Nat → Prop} {L : hL} : ∀ (n : Nat) (v0 : Nat) (X : hX) (X' : hX), f_X6_readToken_8 L n v0 X = some X' → Cl P X → P v0 → FR P X X' := by
  intro n
  induction n with
  | zero => intro v0 X X' h; cases h
  | succ n ih =>
    intro v0 X X' h hcl p_v0
    rw [f_X6_readToken_8] at h
    have F := FR.rf hcl
    obtain ⟨g27, h⟩ := hx_gd h
    rcases hx_ite h with ⟨c28, h⟩ | ⟨c28, h⟩
    · skip
      exact FR.tr F (fr_X6_readToken_45 v0 X _ h (FR.tr F (FR.rf F.1)).1 p_v0)
    · skip
      obtain ⟨r29, e30, h⟩ := hx_bind h
      rcases hx_ite2 h with ⟨c31, h⟩ | ⟨c31, h⟩
      · skip
        exact FR.tr F (fr_X6_readToken_45 v0 X _ h (FR.tr F (FR.rf F.1)).1 p_v0)
      · skip
        exact FR.tr (FR.smi F p_v0) (ih v0 (smi X v0 4 ((X.1 v0 4) + 1)) _ h ((FR.smi F p_v0)).1 p_v0)
set_option maxRecDepth 100000 in
set_option maxHeartbeats 4000000 in
theorem fr_X6_readToken {P : Nat → Prop} {L : hL} {X : hX} {this : Nat} {X' : hX} (h : f_X6_readToken L X this = some X') (hcl : Cl P X) (p_this : P this) : FR P X X' := by
  unfold f_X6_readToken at h
  have F := FR.rf hcl
  obtain ⟨g32, h⟩ := hx_gd h
  exact FR.tr (FR.smi F p_this) (fr_X6_readToken_8 u_fuel this (smi X this 4 (X.1 this 5)) _ h ((FR.smi F p_this)).1 p_this)
set_option maxRecDepth 100000 in
set_option maxHeartbeats 4000000 in
theorem fr_X6_readNumbers_2 {P : Nat → Prop} {L : hL} : ∀ (n : Nat) (v0 : Nat) (v1 : Int32) (v2 : Int32) (X : hX) (r : Int32) (X' : hX), f_X6_readNumbers_2 L n v0 v1 v2 X = some (r, X') → Cl P X → P v0 → FR P X X' := by
  intro n
  induction n with
  | zero => intro v0 v1 v2 X r X' h; cases h
  | succ n ih =>
    intro v0 v1 v2 X r X' h hcl p_v0
    rw [f_X6_readNumbers_2] at h
    have F := FR.rf hcl
    rcases hx_ite h with ⟨c1, h⟩ | ⟨c1, h⟩
    · skip
      obtain ⟨rfl, rfl⟩ := hx_some2 h
      exact F
    · skip
      rcases hx_ite h with ⟨c2, h⟩ | ⟨c2, h⟩
      · skip
        obtain ⟨rfl, rfl⟩ := hx_some2 h
        exact F
      · skip
        obtain ⟨r3, e4, h⟩ := hx_bind h
        have F := F.tr (fr_X6_readToken (X' := r3) e4 F.1 p_v0)
        obtain ⟨g5, h⟩ := hx_gd h
        obtain ⟨r6, e7, h⟩ := hx_bind h
        rcases hx_ite2 h with ⟨c8, h⟩ | ⟨c8, h⟩
        · skip
          obtain ⟨q9, e10, h⟩ := hx_bind h
          have p_q9 := F.1 _ _ _ p_v0 e10
          obtain ⟨r11, e12, h⟩ := hx_bind h
          obtain ⟨g13, h⟩ := hx_gd h
          obtain ⟨g14, h⟩ := hx_gd h
          exact FR.tr (FR.smi F p_q9) (ih v0 v1 (v2 + 1) (smi r3 q9 (Int32.toNatClampNeg v2) r11) _ _ h ((FR.smi F p_q9)).1 p_v0)
        · skip
          obtain ⟨rfl, rfl⟩ := hx_some2 h
          exact F
set_option maxRecDepth 100000 in
set_option maxHeartbeats 4000000 in
theorem fr_X6_readNumbers {P : Nat → Prop} {L : hL} {X : hX} {this : Nat} {a1 : Int32} {r : Int32} {X' : hX} (h : f_X6_readNumbers L X this a1 = some (r, X')) (hcl : Cl P X) (p_this : P this) : FR P X X' := by
  unfold f_X6_readNumbers at h
  have F := FR.rf hcl
  exact FR.tr F (fr_X6_readNumbers_2 u_fuel this a1 0 X _ _ h (FR.tr F (FR.rf F.1)).1 p_this)
set_option maxRecDepth 100000 in
set_option maxHeartbeats 4000000 in
theorem fr_X6_readEnd {P : Nat → Prop} {L : hL} {X : hX} {this : Nat} {r : Int32} {X' : hX} (h : f_X6_readEnd L X this = some (r, X')) (hcl : Cl P X) (p_this : P this) : FR P X X' := by
  unfold f_X6_readEnd at h
  have F := FR.rf hcl
  obtain ⟨r1, e2, h⟩ := hx_bind h
  have F := F.tr (fr_X6_readToken (X' := r1) e2 F.1 p_this)
  obtain ⟨g3, h⟩ := hx_gd h
  obtain ⟨r4, e5, h⟩ := hx_bind h
  rcases hx_ite2 h with ⟨c6, h⟩ | ⟨c6, h⟩
  · skip
    obtain ⟨rfl, rfl⟩ := hx_some2 h
    exact F
  · skip
    obtain ⟨rfl, rfl⟩ := hx_some2 h
    exact F
set_option maxRecDepth 100000 in
set_option maxHeartbeats 4000000 in
theorem fr_X6_perform {P : Nat → Prop} {L : hL} {X : hX} {this : Nat} {a1 : Int32} {a2 : Nat} {r : Int32} {X' : hX} (h : f_X6_perform L X this a1 a2 = some (r, X')) (hcl : Cl P X) (p_this : P this) (p_a2 : P a2) : FR P X X' := by
  unfold f_X6_perform at h
  have F := FR.rf hcl
  by_cases c1 : a1 = 0
  · have h := hx_pos c1 h
    obtain ⟨g2, h⟩ := hx_gd h
    obtain ⟨q3, e4, h⟩ := hx_bind h
    have p_q3 := F.1 _ _ _ p_this e4
    obtain ⟨g5, h⟩ := hx_gd h
    obtain ⟨g6, h⟩ := hx_gd h
    obtain ⟨g7, h⟩ := hx_gd h
    obtain ⟨g8, h⟩ := hx_gd h
    obtain ⟨r9, e10, h⟩ := hx_bind h
    have F := F.tr (fr_X0_changeKind (r := r9.1) (X' := r9.2) e10 F.1 p_a2)
    obtain ⟨g11, h⟩ := hx_gd h
    obtain ⟨rfl, rfl⟩ := hx_some2 h
    exact F
  have h := hx_neg c1 h
  by_cases c12 : a1 = 1
  · have h := hx_pos c12 h
    obtain ⟨g13, h⟩ := hx_gd h
    obtain ⟨q14, e15, h⟩ := hx_bind h
    have p_q14 := F.1 _ _ _ p_this e15
    obtain ⟨g16, h⟩ := hx_gd h
    obtain ⟨g17, h⟩ := hx_gd h
    obtain ⟨g18, h⟩ := hx_gd h
    obtain ⟨r19, e20, h⟩ := hx_bind h
    have F := F.tr (fr_X0_changeScale (r := r19.1) (X' := r19.2) e20 F.1 p_a2)
    obtain ⟨g21, h⟩ := hx_gd h
    obtain ⟨rfl, rfl⟩ := hx_some2 h
    exact F
  have h := hx_neg c12 h
  by_cases c22 : a1 = 2
  · have h := hx_pos c22 h
    obtain ⟨g23, h⟩ := hx_gd h
    obtain ⟨q24, e25, h⟩ := hx_bind h
    have p_q24 := F.1 _ _ _ p_this e25
    obtain ⟨g26, h⟩ := hx_gd h
    obtain ⟨g27, h⟩ := hx_gd h
    obtain ⟨r28, e29, h⟩ := hx_bind h
    have F := F.tr (fr_X0_changeRule (r := r28.1) (X' := r28.2) e29 F.1 p_a2)
    obtain ⟨g30, h⟩ := hx_gd h
    obtain ⟨rfl, rfl⟩ := hx_some2 h
    exact F
  have h := hx_neg c22 h
  by_cases c31 : a1 = 3
  · have h := hx_pos c31 h
    obtain ⟨g32, h⟩ := hx_gd h
    obtain ⟨q33, e34, h⟩ := hx_bind h
    have p_q33 := F.1 _ _ _ p_this e34
    obtain ⟨g35, h⟩ := hx_gd h
    obtain ⟨g36, h⟩ := hx_gd h
    obtain ⟨r37, e38, h⟩ := hx_bind h
    have F := F.tr (fr_X0_addCustomer (r := r37.1) (X' := r37.2) e38 F.1 p_a2)
    obtain ⟨g39, h⟩ := hx_gd h
    obtain ⟨rfl, rfl⟩ := hx_some2 h
    exact F
  have h := hx_neg c31 h
  by_cases c40 : a1 = 4
  · have h := hx_pos c40 h
    obtain ⟨g41, h⟩ := hx_gd h
    obtain ⟨q42, e43, h⟩ := hx_bind h
    have p_q42 := F.1 _ _ _ p_this e43
    obtain ⟨g44, h⟩ := hx_gd h
    obtain ⟨g45, h⟩ := hx_gd h
    obtain ⟨g46, h⟩ := hx_gd h
    obtain ⟨g47, h⟩ := hx_gd h
    obtain ⟨g48, h⟩ := hx_gd h
    obtain ⟨g49, h⟩ := hx_gd h
    obtain ⟨r50, e51, h⟩ := hx_bind h
    have F := F.tr (fr_X0_placePrize (r := r50.1) (X' := r50.2) e51 F.1 p_a2)
    obtain ⟨g52, h⟩ := hx_gd h
    obtain ⟨rfl, rfl⟩ := hx_some2 h
    exact F
  have h := hx_neg c40 h
  by_cases c53 : a1 = 5
  · have h := hx_pos c53 h
    obtain ⟨g54, h⟩ := hx_gd h
    obtain ⟨q55, e56, h⟩ := hx_bind h
    have p_q55 := F.1 _ _ _ p_this e56
    obtain ⟨g57, h⟩ := hx_gd h
    obtain ⟨g58, h⟩ := hx_gd h
    obtain ⟨g59, h⟩ := hx_gd h
    obtain ⟨g60, h⟩ := hx_gd h
    obtain ⟨r61, e62, h⟩ := hx_bind h
    have F := F.tr (fr_X0_weighBundle (r := r61.1) (X' := r61.2) e62 F.1 p_a2)
    obtain ⟨g63, h⟩ := hx_gd h
    obtain ⟨rfl, rfl⟩ := hx_some2 h
    exact F
  have h := hx_neg c53 h
  by_cases c64 : a1 = 6
  · have h := hx_pos c64 h
    obtain ⟨g65, h⟩ := hx_gd h
    obtain ⟨q66, e67, h⟩ := hx_bind h
    have p_q66 := F.1 _ _ _ p_this e67
    obtain ⟨g68, h⟩ := hx_gd h
    obtain ⟨g69, h⟩ := hx_gd h
    obtain ⟨g70, h⟩ := hx_gd h
    obtain ⟨r71, e72, h⟩ := hx_bind h
    have F := F.tr (fr_X0_settleClaim (r := r71.1) (X' := r71.2) e72 F.1 p_a2)
    obtain ⟨g73, h⟩ := hx_gd h
    obtain ⟨rfl, rfl⟩ := hx_some2 h
    exact F
  have h := hx_neg c64 h
  obtain ⟨g74, h⟩ := hx_gd h
  obtain ⟨q75, e76, h⟩ := hx_bind h
  have p_q75 := F.1 _ _ _ p_this e76
  obtain ⟨g77, h⟩ := hx_gd h
  obtain ⟨g78, h⟩ := hx_gd h
  obtain ⟨g79, h⟩ := hx_gd h
  obtain ⟨g80, h⟩ := hx_gd h
  obtain ⟨r81, e82, h⟩ := hx_bind h
  have F := F.tr (fr_X0_sellPrize (r := r81.1) (X' := r81.2) e82 F.1 p_a2)
  obtain ⟨g83, h⟩ := hx_gd h
  obtain ⟨rfl, rfl⟩ := hx_some2 h
  exact F
set_option maxRecDepth 100000 in
set_option maxHeartbeats 4000000 in
theorem fr_X6_runOn_67 {P : Nat → Prop} {L : hL} : ∀ (v0 : Nat) (v2 : Int32) (X : hX) (r : Int32) (X' : hX), f_X6_runOn_67 L v0 v2 X = some (r, X') → Cl P X → P v0 → FR P X X' := by
  intro v0 v2 X r X' h hcl p_v0
  unfold f_X6_runOn_67 at h
  have F := FR.rf hcl
  obtain ⟨g1, h⟩ := hx_gd h
  obtain ⟨q2, e3, h⟩ := hx_bind h
  have p_q2 := F.1 _ _ _ p_v0 e3
  obtain ⟨r4, e5, h⟩ := hx_bind h
  have F := F.tr (fr_X2_note (X' := r4) e5 F.1 p_q2)
  obtain ⟨g6, h⟩ := hx_gd h
  obtain ⟨rfl, rfl⟩ := hx_some2 h
  exact F
set_option maxRecDepth 100000 in
set_option maxHeartbeats 4000000 in
theorem fr_X6_runOn_7 {P : Nat → Prop} {L : hL} : ∀ (n : Nat) (v0 : Nat) (v1 : Nat) (v2 : Int32) (X : hX) (r : Int32) (X' : hX), f_X6_runOn_7 L n v0 v1 v2 X = some (r, X') → Cl P X → P v0 → P v1 → FR P X X' := by
  intro n
  induction n with
  | zero => intro v0 v1 v2 X r X' h; cases h
  | succ n ih =>
    intro v0 v1 v2 X r X' h hcl p_v0 p_v1
    rw [f_X6_runOn_7] at h
    have F := FR.rf hcl
    rcases hx_ite h with ⟨c7, h⟩ | ⟨c7, h⟩
    · skip
      obtain ⟨rfl, rfl⟩ := hx_some2 h
      exact F
    · skip
      obtain ⟨r8, e9, h⟩ := hx_bind h
      have F := F.tr (fr_X6_readToken (X' := r8) e9 F.1 p_v0)
      obtain ⟨g10, h⟩ := hx_gd h
      rcases hx_ite h with ⟨c11, h⟩ | ⟨c11, h⟩
      · skip
        obtain ⟨r12, e13, h⟩ := hx_bind h
        rcases hx_ite h with ⟨c14, h⟩ | ⟨c14, h⟩
        · skip
          exact FR.tr F (fr_X6_runOn_67 v0 v2 r8 _ _ h (FR.tr F (FR.rf F.1)).1 p_v0)
        · skip
          obtain ⟨r15, e16, h⟩ := hx_bind h
          obtain ⟨r17, e18, h⟩ := hx_bind h
          have F := F.tr (fr_X6_readNumbers (r := r17.1) (X' := r17.2) e18 F.1 p_v0)
          rcases hx_ite h with ⟨c19, h⟩ | ⟨c19, h⟩
          · skip
            exact FR.tr F (fr_X6_runOn_67 v0 v2 r17.2 _ _ h (FR.tr F (FR.rf F.1)).1 p_v0)
          · skip
            obtain ⟨r20, e21, h⟩ := hx_bind h
            have F := F.tr (fr_X6_readEnd (r := r20.1) (X' := r20.2) e21 F.1 p_v0)
            rcases hx_ite2 h with ⟨c22, h⟩ | ⟨c22, h⟩
            · skip
              obtain ⟨r23, e24, h⟩ := hx_bind h
              have F := F.tr (fr_X6_perform (r := r23.1) (X' := r23.2) e24 F.1 p_v0 p_v1)
              obtain ⟨r25, e26, h⟩ := hx_bind h
              rcases hx_ite h with ⟨c27, h⟩ | ⟨c27, h⟩
              · skip
                exact FR.tr F (ih v0 v1 (v2 + 1) r23.2 _ _ h (FR.tr F (FR.rf F.1)).1 p_v0 p_v1)
              · skip
                obtain ⟨q28, e29, h⟩ := hx_bind h
                have p_q28 := F.1 _ _ _ p_v0 e29
                obtain ⟨r30, e31, h⟩ := hx_bind h
                have F := F.tr (fr_X2_note (X' := r30) e31 F.1 p_q28)
                obtain ⟨g32, h⟩ := hx_gd h
                obtain ⟨rfl, rfl⟩ := hx_some2 h
                exact F
            · skip
              exact FR.tr F (fr_X6_runOn_67 v0 v2 r20.2 _ _ h (FR.tr F (FR.rf F.1)).1 p_v0)
      · skip
        obtain ⟨rfl, rfl⟩ := hx_some2 h
        exact F
set_option maxRecDepth 100000 in
set_option maxHeartbeats 4000000 in
theorem fr_X6_runOn {P : Nat → Prop} {L : hL} {X : hX} {this : Nat} {a1 : Nat} {r : Int32} {X' : hX} (h : f_X6_runOn L X this a1 = some (r, X')) (hcl : Cl P X) (p_this : P this) (p_a1 : P a1) : FR P X X' := by
  unfold f_X6_runOn at h
  have F := FR.rf hcl
  obtain ⟨g33, h⟩ := hx_gd h
  exact FR.tr (FR.smi F p_this) (fr_X6_runOn_7 u_fuel this a1 0 (smi X this 5 0) _ _ h ((FR.smi F p_this)).1 p_this p_a1)
set_option maxRecDepth 100000 in
set_option maxHeartbeats 4000000 in
theorem fr_X8_fillSlot {P : Nat → Prop} {L : hL} {X : hX} {this : Nat} {a1 : Int32} {r : Int32} {X' : hX} (h : f_X8_fillSlot L X this a1 = some (r, X')) (hcl : Cl P X) (p_this : P this) : FR P X X' := by
  unfold f_X8_fillSlot at h
  have F := FR.rf hcl
  obtain ⟨r1, e2, h⟩ := hx_bind h
  rcases hx_ite2 h with ⟨c3, h⟩ | ⟨c3, h⟩
  · skip
    obtain ⟨g4, h⟩ := hx_gd h
    obtain ⟨q5, e6, h⟩ := hx_bind h
    have p_q5 := F.1 _ _ _ p_this e6
    obtain ⟨g7, h⟩ := hx_gd h
    obtain ⟨g8, h⟩ := hx_gd h
    obtain ⟨q9, e10, h⟩ := hx_bind h
    have p_q9 := F.1 _ _ _ p_q5 e10
    obtain ⟨q11, e12, h⟩ := hx_bind h
    have p_q11 := F.1 _ _ _ p_this e12
    obtain ⟨r13, e14, h⟩ := hx_bind h
    have F := F.tr (fr_X0_copyFrom (X' := r13) e14 F.1 p_q9 p_q11)
    obtain ⟨g15, h⟩ := hx_gd h
    obtain ⟨q16, e17, h⟩ := hx_bind h
    have p_q16 := F.1 _ _ _ p_this e17
    obtain ⟨g18, h⟩ := hx_gd h
    obtain ⟨g19, h⟩ := hx_gd h
    obtain ⟨q20, e21, h⟩ := hx_bind h
    have p_q20 := F.1 _ _ _ p_this e21
    obtain ⟨r22, e23, h⟩ := hx_bind h
    obtain ⟨g24, h⟩ := hx_gd h
    obtain ⟨rfl, rfl⟩ := hx_some2 h
    exact (FR.smi F p_q16)
  · skip
    obtain ⟨rfl, rfl⟩ := hx_some2 h
    exact F
set_option maxRecDepth 100000 in
set_option maxHeartbeats 4000000 in
theorem fr_X8_useSlot {P : Nat → Prop} {L : hL} {X : hX} {this : Nat} {a1 : Int32} {r : Int32} {X' : hX} (h : f_X8_useSlot L X this a1 = some (r, X')) (hcl : Cl P X) (p_this : P this) : FR P X X' := by
  unfold f_X8_useSlot at h
  have F := FR.rf hcl
  obtain ⟨r1, e2, h⟩ := hx_bind h
  rcases hx_ite2 h with ⟨c3, h⟩ | ⟨c3, h⟩
  · skip
    obtain ⟨g4, h⟩ := hx_gd h
    obtain ⟨q5, e6, h⟩ := hx_bind h
    have p_q5 := F.1 _ _ _ p_this e6
    obtain ⟨g7, h⟩ := hx_gd h
    obtain ⟨g8, h⟩ := hx_gd h
    rcases hx_ite2 h with ⟨c9, h⟩ | ⟨c9, h⟩
    · skip
      obtain ⟨q10, e11, h⟩ := hx_bind h
      have p_q10 := F.1 _ _ _ p_this e11
      obtain ⟨q12, e13, h⟩ := hx_bind h
      have p_q12 := F.1 _ _ _ p_this e13
      obtain ⟨g14, h⟩ := hx_gd h
      obtain ⟨g15, h⟩ := hx_gd h
      obtain ⟨q16, e17, h⟩ := hx_bind h
      have p_q16 := F.1 _ _ _ p_q12 e17
      obtain ⟨r18, e19, h⟩ := hx_bind h
      have F := F.tr (fr_X0_copyFrom (X' := r18) e19 F.1 p_q10 p_q16)
      obtain ⟨g20, h⟩ := hx_gd h
      obtain ⟨q21, e22, h⟩ := hx_bind h
      have p_q21 := F.1 _ _ _ p_this e22
      obtain ⟨r23, e24, h⟩ := hx_bind h
      obtain ⟨g25, h⟩ := hx_gd h
      obtain ⟨rfl, rfl⟩ := hx_some2 h
      exact F
    · skip
      obtain ⟨rfl, rfl⟩ := hx_some2 h
      exact F
  · skip
    obtain ⟨rfl, rfl⟩ := hx_some2 h
    exact F
set_option maxRecDepth 100000 in
set_option maxHeartbeats 4000000 in
theorem pr_X9_counter {P : Nat → Prop} {L : hL} {X : hX} {this : Nat} {r : Option Nat} (h : f_X9_counter L X this = some r) (hcl : Cl P X) (p_this : P this) : ∀ i, r = some i → P i := by
  unfold f_X9_counter at h
  have F := FR.rf hcl
  obtain ⟨g1, h⟩ := hx_gd h
  obtain ⟨q2, e3, h⟩ := hx_bind h
  have p_q2 := F.1 _ _ _ p_this e3
  obtain ⟨g4, h⟩ := hx_gd h
  obtain ⟨q5, e6, h⟩ := hx_bind h
  have p_q5 := F.1 _ _ _ p_q2 e6
  obtain ⟨g7, h⟩ := hx_gd h
  obtain ⟨q8, e9, h⟩ := hx_bind h
  have p_q8 := F.1 _ _ _ p_q5 e9
  obtain rfl := hx_some1 h
  exact fun i hi => by cases hi; exact p_q8
set_option maxRecDepth 100000 in
set_option maxHeartbeats 4000000 in
theorem fr_X9_setKind {P : Nat → Prop} {L : hL} {X : hX} {this : Nat} {a1 : Int32} {a2 : Int32} {a3 : Int32} {r : Int32} {X' : hX} (h : f_X9_setKind L X this a1 a2 a3 = some (r, X')) (hcl : Cl P X) (p_this : P this) : FR P X X' := by
  unfold f_X9_setKind at h
  have F := FR.rf hcl
  obtain ⟨g1, h⟩ := hx_gd h
  obtain ⟨q2, e3, h⟩ := hx_bind h
  have p_q2 := F.1 _ _ _ p_this e3
  obtain ⟨r4, e5, h⟩ := hx_bind h
  have F := F.tr (fr_X3_prepare (X' := r4) e5 F.1 p_q2)
  obtain ⟨g6, h⟩ := hx_gd h
  obtain ⟨q7, e8, h⟩ := hx_bind h
  have p_q7 := F.1 _ _ _ p_this e8
  obtain ⟨r9, e10, h⟩ := hx_bind h
  have pr_r9 := pr_X9_counter e10 F.1 p_this
  rcases r9 with _ | i11
  · have h := hx_eln h
    cases h
  · have h := hx_els h
    have p_i11 := pr_r9 _ rfl
    obtain ⟨r12, e13, h⟩ := hx_bind h
    have F := F.tr (fr_X0_changeKind (r := r12.1) (X' := r12.2) e13 F.1 p_i11)
    obtain ⟨g14, h⟩ := hx_gd h
    obtain ⟨r15, e16, h⟩ := hx_bind h
    have F := F.tr (fr_X3_settle (r := r15.1) (X' := r15.2) e16 F.1 p_q7)
    obtain ⟨g17, h⟩ := hx_gd h
    obtain ⟨rfl, rfl⟩ := hx_some2 h
    exact F
set_option maxRecDepth 100000 in
set_option maxHeartbeats 4000000 in
theorem fr_X9_setScale {P : Nat → Prop} {L : hL} {X : hX} {this : Nat} {a1 : Int32} {a2 : Int32} {r : Int32} {X' : hX} (h : f_X9_setScale L X this a1 a2 = some (r, X')) (hcl : Cl P X) (p_this : P this) : FR P X X' := by
  unfold f_X9_setScale at h
  have F := FR.rf hcl
  obtain ⟨g1, h⟩ := hx_gd h
  obtain ⟨q2, e3, h⟩ := hx_bind h
  have p_q2 := F.1 _ _ _ p_this e3
  obtain ⟨r4, e5, h⟩ := hx_bind h
  have F := F.tr (fr_X3_prepare (X' := r4) e5 F.1 p_q2)
  obtain ⟨g6, h⟩ := hx_gd h
  obtain ⟨q7, e8, h⟩ := hx_bind h
  have p_q7 := F.1 _ _ _ p_this e8
  obtain ⟨r9, e10, h⟩ := hx_bind h
  have pr_r9 := pr_X9_counter e10 F.1 p_this
  rcases r9 with _ | i11
  · have h := hx_eln h
    cases h
  · have h := hx_els h
    have p_i11 := pr_r9 _ rfl
    obtain ⟨r12, e13, h⟩ := hx_bind h
    have F := F.tr (fr_X0_changeScale (r := r12.1) (X' := r12.2) e13 F.1 p_i11)
    obtain ⟨g14, h⟩ := hx_gd h
    obtain ⟨r15, e16, h⟩ := hx_bind h
    have F := F.tr (fr_X3_settle (r := r15.1) (X' := r15.2) e16 F.1 p_q7)
    obtain ⟨g17, h⟩ := hx_gd h
    obtain ⟨rfl, rfl⟩ := hx_some2 h
    exact F
set_option maxRecDepth 100000 in
set_option maxHeartbeats 4000000 in
theorem fr_X9_setBias {P : Nat → Prop} {L : hL} {X : hX} {this : Nat} {a1 : Int32} {r : Int32} {X' : hX} (h : f_X9_setBias L X this a1 = some (r, X')) (hcl : Cl P X) (p_this : P this) : FR P X X' := by
  unfold f_X9_setBias at h
  have F := FR.rf hcl
  obtain ⟨g1, h⟩ := hx_gd h
  obtain ⟨q2, e3, h⟩ := hx_bind h
  have p_q2 := F.1 _ _ _ p_this e3
  obtain ⟨r4, e5, h⟩ := hx_bind h
  have F := F.tr (fr_X3_prepare (X' := r4) e5 F.1 p_q2)
  obtain ⟨g6, h⟩ := hx_gd h
  obtain ⟨q7, e8, h⟩ := hx_bind h
  have p_q7 := F.1 _ _ _ p_this e8
  obtain ⟨r9, e10, h⟩ := hx_bind h
  have pr_r9 := pr_X9_counter e10 F.1 p_this
  rcases r9 with _ | i11
  · have h := hx_eln h
    cases h
  · have h := hx_els h
    have p_i11 := pr_r9 _ rfl
    obtain ⟨r12, e13, h⟩ := hx_bind h
    have F := F.tr (fr_X0_changeBias (r := r12.1) (X' := r12.2) e13 F.1 p_i11)
    obtain ⟨g14, h⟩ := hx_gd h
    obtain ⟨r15, e16, h⟩ := hx_bind h
    have F := F.tr (fr_X3_settle (r := r15.1) (X' := r15.2) e16 F.1 p_q7)
    obtain ⟨g17, h⟩ := hx_gd h
    obtain ⟨rfl, rfl⟩ := hx_some2 h
    exact F
set_option maxRecDepth 100000 in
set_option maxHeartbeats 4000000 in
theorem fr_X9_setRule {P : Nat → Prop} {L : hL} {X : hX} {this : Nat} {a1 : Int32} {r : Int32} {X' : hX} (h : f_X9_setRule L X this a1 = some (r, X')) (hcl : Cl P X) (p_this : P this) : FR P X X' := by
  unfold f_X9_setRule at h
  have F := FR.rf hcl
  obtain ⟨g1, h⟩ := hx_gd h
  obtain ⟨q2, e3, h⟩ := hx_bind h
  have p_q2 := F.1 _ _ _ p_this e3
  obtain ⟨r4, e5, h⟩ := hx_bind h
  have F := F.tr (fr_X3_prepare (X' := r4) e5 F.1 p_q2)
  obtain ⟨g6, h⟩ := hx_gd h
  obtain ⟨q7, e8, h⟩ := hx_bind h
  have p_q7 := F.1 _ _ _ p_this e8
  obtain ⟨r9, e10, h⟩ := hx_bind h
  have pr_r9 := pr_X9_counter e10 F.1 p_this
  rcases r9 with _ | i11
  · have h := hx_eln h
    cases h
  · have h := hx_els h
    have p_i11 := pr_r9 _ rfl
    obtain ⟨r12, e13, h⟩ := hx_bind h
    have F := F.tr (fr_X0_changeRule (r := r12.1) (X' := r12.2) e13 F.1 p_i11)
    obtain ⟨g14, h⟩ := hx_gd h
    obtain ⟨r15, e16, h⟩ := hx_bind h
    have F := F.tr (fr_X3_settle (r := r15.1) (X' := r15.2) e16 F.1 p_q7)
    obtain ⟨g17, h⟩ := hx_gd h
    obtain ⟨rfl, rfl⟩ := hx_some2 h
    exact F
set_option maxRecDepth 100000 in
set_option maxHeartbeats 4000000 in
theorem fr_X9_setFee {P : Nat → Prop} {L : hL} {X : hX} {this : Nat} {a1 : Int32} {r : Int32} {X' : hX} (h : f_X9_setFee L X this a1 = some (r, X')) (hcl : Cl P X) (p_this : P this) : FR P X X' := by
  unfold f_X9_setFee at h
  have F := FR.rf hcl
  obtain ⟨g1, h⟩ := hx_gd h
  obtain ⟨q2, e3, h⟩ := hx_bind h
  have p_q2 := F.1 _ _ _ p_this e3
  obtain ⟨r4, e5, h⟩ := hx_bind h
  have F := F.tr (fr_X3_prepare (X' := r4) e5 F.1 p_q2)
  obtain ⟨g6, h⟩ := hx_gd h
  obtain ⟨q7, e8, h⟩ := hx_bind h
  have p_q7 := F.1 _ _ _ p_this e8
  obtain ⟨r9, e10, h⟩ := hx_bind h
  have pr_r9 := pr_X9_counter e10 F.1 p_this
  rcases r9 with _ | i11
  · have h := hx_eln h
    cases h
  · have h := hx_els h
    have p_i11 := pr_r9 _ rfl
    obtain ⟨r12, e13, h⟩ := hx_bind h
    have F := F.tr (fr_X0_changeFee (r := r12.1) (X' := r12.2) e13 F.1 p_i11)
    obtain ⟨g14, h⟩ := hx_gd h
    obtain ⟨r15, e16, h⟩ := hx_bind h
    have F := F.tr (fr_X3_settle (r := r15.1) (X' := r15.2) e16 F.1 p_q7)
    obtain ⟨g17, h⟩ := hx_gd h
    obtain ⟨rfl, rfl⟩ := hx_some2 h
    exact F
set_option maxRecDepth 100000 in
set_option maxHeartbeats 4000000 in
theorem fr_X9_come {P : Nat → Prop} {L : hL} {X : hX} {this : Nat} {a1 : Int32} {r : Int32} {X' : hX} (h : f_X9_come L X this a1 = some (r, X')) (hcl : Cl P X) (p_this : P this) : FR P X X' := by
  unfold f_X9_come at h
  have F := FR.rf hcl
  obtain ⟨g1, h⟩ := hx_gd h
  obtain ⟨q2, e3, h⟩ := hx_bind h
  have p_q2 := F.1 _ _ _ p_this e3
  obtain ⟨r4, e5, h⟩ := hx_bind h
  have F := F.tr (fr_X3_prepare (X' := r4) e5 F.1 p_q2)
  obtain ⟨g6, h⟩ := hx_gd h
  obtain ⟨q7, e8, h⟩ := hx_bind h
  have p_q7 := F.1 _ _ _ p_this e8
  obtain ⟨r9, e10, h⟩ := hx_bind h
  have pr_r9 := pr_X9_counter e10 F.1 p_this
  rcases r9 with _ | i11
  · have h := hx_eln h
    cases h
  · have h := hx_els h
    have p_i11 := pr_r9 _ rfl
    obtain ⟨r12, e13, h⟩ := hx_bind h
    have F := F.tr (fr_X0_addCustomer (r := r12.1) (X' := r12.2) e13 F.1 p_i11)
    obtain ⟨g14, h⟩ := hx_gd h
    obtain ⟨r15, e16, h⟩ := hx_bind h
    have F := F.tr (fr_X3_settle (r := r15.1) (X' := r15.2) e16 F.1 p_q7)
    obtain ⟨g17, h⟩ := hx_gd h
    obtain ⟨rfl, rfl⟩ := hx_some2 h
    exact F
set_option maxRecDepth 100000 in
set_option maxHeartbeats 4000000 in
theorem fr_X9_leave {P : Nat → Prop} {L : hL} {X : hX} {this : Nat} {a1 : Int32} {r : Int32} {X' : hX} (h : f_X9_leave L X this a1 = some (r, X')) (hcl : Cl P X) (p_this : P this) : FR P X X' := by
  unfold f_X9_leave at h
  have F := FR.rf hcl
  obtain ⟨g1, h⟩ := hx_gd h
  obtain ⟨q2, e3, h⟩ := hx_bind h
  have p_q2 := F.1 _ _ _ p_this e3
  obtain ⟨r4, e5, h⟩ := hx_bind h
  have F := F.tr (fr_X3_prepare (X' := r4) e5 F.1 p_q2)
  obtain ⟨g6, h⟩ := hx_gd h
  obtain ⟨q7, e8, h⟩ := hx_bind h
  have p_q7 := F.1 _ _ _ p_this e8
  obtain ⟨r9, e10, h⟩ := hx_bind h
  have pr_r9 := pr_X9_counter e10 F.1 p_this
  rcases r9 with _ | i11
  · have h := hx_eln h
    cases h
  · have h := hx_els h
    have p_i11 := pr_r9 _ rfl
    obtain ⟨r12, e13, h⟩ := hx_bind h
    have F := F.tr (fr_X0_dropCustomer (r := r12.1) (X' := r12.2) e13 F.1 p_i11)
    obtain ⟨g14, h⟩ := hx_gd h
    obtain ⟨r15, e16, h⟩ := hx_bind h
    have F := F.tr (fr_X3_settle (r := r15.1) (X' := r15.2) e16 F.1 p_q7)
    obtain ⟨g17, h⟩ := hx_gd h
    obtain ⟨rfl, rfl⟩ := hx_some2 h
    exact F
set_option maxRecDepth 100000 in
set_option maxHeartbeats 4000000 in
theorem fr_X9_weigh {P : Nat → Prop} {L : hL} {X : hX} {this : Nat} {a1 : Int32} {a2 : Int32} {a3 : Int32} {a4 : Int32} {r : Int32} {X' : hX} (h : f_X9_weigh L X this a1 a2 a3 a4 = some (r, X')) (hcl : Cl P X) (p_this : P this) : FR P X X' := by
  unfold f_X9_weigh at h
  have F := FR.rf hcl
  obtain ⟨g1, h⟩ := hx_gd h
  obtain ⟨q2, e3, h⟩ := hx_bind h
  have p_q2 := F.1 _ _ _ p_this e3
  obtain ⟨r4, e5, h⟩ := hx_bind h
  have F := F.tr (fr_X3_prepare (X' := r4) e5 F.1 p_q2)
  obtain ⟨g6, h⟩ := hx_gd h
  obtain ⟨q7, e8, h⟩ := hx_bind h
  have p_q7 := F.1 _ _ _ p_this e8
  obtain ⟨r9, e10, h⟩ := hx_bind h
  have pr_r9 := pr_X9_counter e10 F.1 p_this
  rcases r9 with _ | i11
  · have h := hx_eln h
    cases h
  · have h := hx_els h
    have p_i11 := pr_r9 _ rfl
    obtain ⟨r12, e13, h⟩ := hx_bind h
    have F := F.tr (fr_X0_weighBundle (r := r12.1) (X' := r12.2) e13 F.1 p_i11)
    obtain ⟨g14, h⟩ := hx_gd h
    obtain ⟨r15, e16, h⟩ := hx_bind h
    have F := F.tr (fr_X3_settle (r := r15.1) (X' := r15.2) e16 F.1 p_q7)
    obtain ⟨g17, h⟩ := hx_gd h
    obtain ⟨rfl, rfl⟩ := hx_some2 h
    exact F
set_option maxRecDepth 100000 in
set_option maxHeartbeats 4000000 in
theorem fr_X9_claim {P : Nat → Prop} {L : hL} {X : hX} {this : Nat} {a1 : Int32} {a2 : Int32} {r : Int32} {X' : hX} (h : f_X9_claim L X this a1 a2 = some (r, X')) (hcl : Cl P X) (p_this : P this) : FR P X X' := by
  unfold f_X9_claim at h
  have F := FR.rf hcl
  obtain ⟨g1, h⟩ := hx_gd h
  obtain ⟨q2, e3, h⟩ := hx_bind h
  have p_q2 := F.1 _ _ _ p_this e3
  obtain ⟨r4, e5, h⟩ := hx_bind h
  have F := F.tr (fr_X3_prepare (X' := r4) e5 F.1 p_q2)
  obtain ⟨g6, h⟩ := hx_gd h
  obtain ⟨q7, e8, h⟩ := hx_bind h
  have p_q7 := F.1 _ _ _ p_this e8
  obtain ⟨r9, e10, h⟩ := hx_bind h
  have pr_r9 := pr_X9_counter e10 F.1 p_this
  rcases r9 with _ | i11
  · have h := hx_eln h
    cases h
  · have h := hx_els h
    have p_i11 := pr_r9 _ rfl
    obtain ⟨r12, e13, h⟩ := hx_bind h
    have F := F.tr (fr_X0_settleClaim (r := r12.1) (X' := r12.2) e13 F.1 p_i11)
    obtain ⟨g14, h⟩ := hx_gd h
    obtain ⟨r15, e16, h⟩ := hx_bind h
    have F := F.tr (fr_X3_settle (r := r15.1) (X' := r15.2) e16 F.1 p_q7)
    obtain ⟨g17, h⟩ := hx_gd h
    obtain ⟨rfl, rfl⟩ := hx_some2 h
    exact F
set_option maxRecDepth 100000 in
set_option maxHeartbeats 4000000 in
theorem fr_X9_addPrize {P : Nat → Prop} {L : hL} {X : hX} {this : Nat} {a1 : Int32} {a2 : Int32} {a3 : Int32} {a4 : Int32} {a5 : Int32} {r : Int32} {X' : hX} (h : f_X9_addPrize L X this a1 a2 a3 a4 a5 = some (r, X')) (hcl : Cl P X) (p_this : P this) : FR P X X' := by
  unfold f_X9_addPrize at h
  have F := FR.rf hcl
  obtain ⟨g1, h⟩ := hx_gd h
  obtain ⟨q2, e3, h⟩ := hx_bind h
  have p_q2 := F.1 _ _ _ p_this e3
  obtain ⟨r4, e5, h⟩ := hx_bind h
  have F := F.tr (fr_X3_prepare (X' := r4) e5 F.1 p_q2)
  obtain ⟨g6, h⟩ := hx_gd h
  obtain ⟨q7, e8, h⟩ := hx_bind h
  have p_q7 := F.1 _ _ _ p_this e8
  obtain ⟨r9, e10, h⟩ := hx_bind h
  have pr_r9 := pr_X9_counter e10 F.1 p_this
  rcases r9 with _ | i11
  · have h := hx_eln h
    cases h
  · have h := hx_els h
    have p_i11 := pr_r9 _ rfl
    obtain ⟨r12, e13, h⟩ := hx_bind h
    have F := F.tr (fr_X0_placePrize (r := r12.1) (X' := r12.2) e13 F.1 p_i11)
    obtain ⟨g14, h⟩ := hx_gd h
    obtain ⟨r15, e16, h⟩ := hx_bind h
    have F := F.tr (fr_X3_settle (r := r15.1) (X' := r15.2) e16 F.1 p_q7)
    obtain ⟨g17, h⟩ := hx_gd h
    obtain ⟨rfl, rfl⟩ := hx_some2 h
    exact F
set_option maxRecDepth 100000 in
set_option maxHeartbeats 4000000 in
theorem fr_X9_removePrize {P : Nat → Prop} {L : hL} {X : hX} {this : Nat} {a1 : Int32} {r : Int32} {X' : hX} (h : f_X9_removePrize L X this a1 = some (r, X')) (hcl : Cl P X) (p_this : P this) : FR P X X' := by
  unfold f_X9_removePrize at h
  have F := FR.rf hcl
  obtain ⟨g1, h⟩ := hx_gd h
  obtain ⟨q2, e3, h⟩ := hx_bind h
  have p_q2 := F.1 _ _ _ p_this e3
  obtain ⟨r4, e5, h⟩ := hx_bind h
  have F := F.tr (fr_X3_prepare (X' := r4) e5 F.1 p_q2)
  obtain ⟨g6, h⟩ := hx_gd h
  obtain ⟨q7, e8, h⟩ := hx_bind h
  have p_q7 := F.1 _ _ _ p_this e8
  obtain ⟨r9, e10, h⟩ := hx_bind h
  have pr_r9 := pr_X9_counter e10 F.1 p_this
  rcases r9 with _ | i11
  · have h := hx_eln h
    cases h
  · have h := hx_els h
    have p_i11 := pr_r9 _ rfl
    obtain ⟨r12, e13, h⟩ := hx_bind h
    have F := F.tr (fr_X0_dropPrize (r := r12.1) (X' := r12.2) e13 F.1 p_i11)
    obtain ⟨g14, h⟩ := hx_gd h
    obtain ⟨r15, e16, h⟩ := hx_bind h
    have F := F.tr (fr_X3_settle (r := r15.1) (X' := r15.2) e16 F.1 p_q7)
    obtain ⟨g17, h⟩ := hx_gd h
    obtain ⟨rfl, rfl⟩ := hx_some2 h
    exact F
set_option maxRecDepth 100000 in
set_option maxHeartbeats 4000000 in
theorem fr_X9_setPrice {P : Nat → Prop} {L : hL} {X : hX} {this : Nat} {a1 : Int32} {a2 : Int32} {r : Int32} {X' : hX} (h : f_X9_setPrice L X this a1 a2 = some (r, X')) (hcl : Cl P X) (p_this : P this) : FR P X X' := by
  unfold f_X9_setPrice at h
  have F := FR.rf hcl
  obtain ⟨g1, h⟩ := hx_gd h
  obtain ⟨q2, e3, h⟩ := hx_bind h
  have p_q2 := F.1 _ _ _ p_this e3
  obtain ⟨r4, e5, h⟩ := hx_bind h
  have F := F.tr (fr_X3_prepare (X' := r4) e5 F.1 p_q2)
  obtain ⟨g6, h⟩ := hx_gd h
  obtain ⟨q7, e8, h⟩ := hx_bind h
  have p_q7 := F.1 _ _ _ p_this e8
  obtain ⟨r9, e10, h⟩ := hx_bind h
  have pr_r9 := pr_X9_counter e10 F.1 p_this
  rcases r9 with _ | i11
  · have h := hx_eln h
    cases h
  · have h := hx_els h
    have p_i11 := pr_r9 _ rfl
    obtain ⟨r12, e13, h⟩ := hx_bind h
    have F := F.tr (fr_X0_changePrice (r := r12.1) (X' := r12.2) e13 F.1 p_i11)
    obtain ⟨g14, h⟩ := hx_gd h
    obtain ⟨r15, e16, h⟩ := hx_bind h
    have F := F.tr (fr_X3_settle (r := r15.1) (X' := r15.2) e16 F.1 p_q7)
    obtain ⟨g17, h⟩ := hx_gd h
    obtain ⟨rfl, rfl⟩ := hx_some2 h
    exact F
set_option maxRecDepth 100000 in
set_option maxHeartbeats 4000000 in
theorem fr_X9_buy {P : Nat → Prop} {L : hL} {X : hX} {this : Nat} {a1 : Int32} {a2 : Int32} {a3 : Int32} {r : Int32} {X' : hX} (h : f_X9_buy L X this a1 a2 a3 = some (r, X')) (hcl : Cl P X) (p_this : P this) : FR P X X' := by
  unfold f_X9_buy at h
  have F := FR.rf hcl
  obtain ⟨g1, h⟩ := hx_gd h
  obtain ⟨q2, e3, h⟩ := hx_bind h
  have p_q2 := F.1 _ _ _ p_this e3
  obtain ⟨r4, e5, h⟩ := hx_bind h
  have F := F.tr (fr_X3_prepare (X' := r4) e5 F.1 p_q2)
  obtain ⟨g6, h⟩ := hx_gd h
  obtain ⟨q7, e8, h⟩ := hx_bind h
  have p_q7 := F.1 _ _ _ p_this e8
  obtain ⟨r9, e10, h⟩ := hx_bind h
  have pr_r9 := pr_X9_counter e10 F.1 p_this
  rcases r9 with _ | i11
  · have h := hx_eln h
    cases h
  · have h := hx_els h
    have p_i11 := pr_r9 _ rfl
    obtain ⟨r12, e13, h⟩ := hx_bind h
    have F := F.tr (fr_X0_sellPrize (r := r12.1) (X' := r12.2) e13 F.1 p_i11)
    obtain ⟨g14, h⟩ := hx_gd h
    obtain ⟨r15, e16, h⟩ := hx_bind h
    have F := F.tr (fr_X3_settle (r := r15.1) (X' := r15.2) e16 F.1 p_q7)
    obtain ⟨g17, h⟩ := hx_gd h
    obtain ⟨rfl, rfl⟩ := hx_some2 h
    exact F
