theorem hf0_0 : ∀ j, j < 9 → defaultValue (tyX0 j) = vp_V (hfs0 0) j := by
  intro j hj
  match j, hj with
  | 0, _ => rfl
  | 1, _ => rfl
  | 2, _ => rfl
  | 3, _ => rfl
  | 4, _ => rfl
  | 5, _ => rfl
  | 6, _ => rfl
  | 7, _ => rfl
  | 8, _ => rfl
  | j + 9, hj => exact absurd hj (by omega)
theorem hf0_1 : ∀ j, j < 6 → defaultValue (tyX1 j) = vp_V (hfs0 1) j := by
  intro j hj
  match j, hj with
  | 0, _ => rfl
  | 1, _ => rfl
  | 2, _ => rfl
  | 3, _ => rfl
  | 4, _ => rfl
  | 5, _ => rfl
  | j + 6, hj => exact absurd hj (by omega)
theorem hf0_2 : ∀ j, j < 4 → defaultValue (tyX2 j) = vp_V (hfs0 2) j := by
  intro j hj
  match j, hj with
  | 0, _ => rfl
  | 1, _ => rfl
  | 2, _ => rfl
  | 3, _ => rfl
  | j + 4, hj => exact absurd hj (by omega)
theorem hf0_3 : ∀ j, j < 4 → defaultValue (tyX3 j) = vp_V (hfs0 3) j := by
  intro j hj
  match j, hj with
  | 0, _ => rfl
  | 1, _ => rfl
  | 2, _ => rfl
  | 3, _ => rfl
  | j + 4, hj => exact absurd hj (by omega)
theorem hf0_4 : ∀ j, j < 2 → defaultValue (tyX4 j) = vp_V (hfs0 4) j := by
  intro j hj
  match j, hj with
  | 0, _ => rfl
  | 1, _ => rfl
  | j + 2, hj => exact absurd hj (by omega)
theorem hf0_5 : ∀ j, j < 7 → defaultValue (tyX5 j) = vp_V (hfs0 5) j := by
  intro j hj
  match j, hj with
  | 0, _ => rfl
  | 1, _ => rfl
  | 2, _ => rfl
  | 3, _ => rfl
  | 4, _ => rfl
  | 5, _ => rfl
  | 6, _ => rfl
  | j + 7, hj => exact absurd hj (by omega)
theorem hf0_6 : ∀ j, j < 6 → defaultValue (tyX6 j) = vp_V (hfs0 6) j := by
  intro j hj
  match j, hj with
  | 0, _ => rfl
  | 1, _ => rfl
  | 2, _ => rfl
  | 3, _ => rfl
  | 4, _ => rfl
  | 5, _ => rfl
  | j + 6, hj => exact absurd hj (by omega)
theorem hf0_7 : ∀ j, j < 3 → defaultValue (tyX7 j) = vp_V (hfs0 7) j := by
  intro j hj
  match j, hj with
  | 0, _ => rfl
  | 1, _ => rfl
  | 2, _ => rfl
  | j + 3, hj => exact absurd hj (by omega)
theorem hf0_8 : ∀ j, j < 3 → defaultValue (tyX8 j) = vp_V (hfs0 8) j := by
  intro j hj
  match j, hj with
  | 0, _ => rfl
  | 1, _ => rfl
  | 2, _ => rfl
  | j + 3, hj => exact absurd hj (by omega)
theorem hf0_9 : ∀ j, j < 3 → defaultValue (tyX9 j) = vp_V (hfs0 9) j := by
  intro j hj
  match j, hj with
  | 0, _ => rfl
  | 1, _ => rfl
  | 2, _ => rfl
  | j + 3, hj => exact absurd hj (by omega)
theorem p_X4_init {L : hL} {X r : hX} {this : Nat} (h : f_X4_init L X this = some r) : r.2 = X.2 := by
  unfold f_X4_init at h
  obtain ⟨_, h⟩ := hx_gd h
  obtain rfl := hx_some1 h
  rfl
theorem p_X7_init {L : hL} {X r : hX} {this : Nat} (h : f_X7_init L X this = some r) : r.2 = X.2 := by
  unfold f_X7_init at h
  obtain ⟨_, h⟩ := hx_gd h
  obtain rfl := hx_some1 h
  rfl
theorem uX0_init_0 : ∀ w ∈ u_ws RX0 TX0 9, w ∈ wsX0_init := by decide +kernel
theorem uX0_init_1 : ∀ w ∈ u_ws RX1 TX1 6, w ∈ wsX0_init := by decide +kernel
theorem uX0_init_4 : ∀ w ∈ u_ws RX4 TX4 2, w ∈ wsX0_init := by decide +kernel
theorem uX0_init_5 : ∀ w ∈ u_ws RX5 TX5 7, w ∈ wsX0_init := by decide +kernel
theorem uX0_init_7 : ∀ w ∈ u_ws RX7 TX7 3, w ∈ wsX0_init := by decide +kernel
set_option maxRecDepth 100000 in
def f_X0_init (L : hL) (X : hX) (this : Nat) : Option (hL × hX) :=
  if this < L.1 then
  hx_let (newL L 16 4) (newX X L.1) fun L2 X2 =>
  if tk L2 this 0 then
  hx_let (newL L2 7 0) (newX (smr X2 this 0 (some L.1)) L2.1) fun L4 X4 =>
  (f_X7_init L4 X4 L2.1).bind fun r5 =>
  if tk L4 this 0 then
  hx_let (newL L4 15 6) (newX (smr r5 this 1 (some L2.1)) L4.1) fun L8 X8 =>
  if tk L8 this 0 then
  hx_let (newL L8 17 6) (newX (smr X8 this 2 (some L4.1)) L8.1) fun L10 X10 =>
  if tk L10 this 0 then
  ((smi (smr X10 this 3 (some L8.1)) this 7 5).2 this 0).bind fun q12 =>
  if q12 < L10.1 then
  hx_let (newL L10 4 0) (newX (smi (smr X10 this 3 (some L8.1)) this 7 5) L10.1) fun L15 X15 =>
  (f_X4_init L15 X15 L10.1).bind fun r16 =>
  if tk L15 q12 16 then
  if tk L15 L10.1 4 then
  if 0 < L15.2.2 q12 then
  if tk L15 this 0 then
  ((smr r16 q12 0 (some L10.1)).2 this 0).bind fun q22 =>
  if q22 < L15.1 then
  hx_let (newL L15 4 0) (newX (smr r16 q12 0 (some L10.1)) L15.1) fun L25 X25 =>
  (f_X4_init L25 X25 L15.1).bind fun r26 =>
  if tk L25 q22 16 then
  if tk L25 L15.1 4 then
  if 1 < L25.2.2 q22 then
  if tk L25 this 0 then
  ((smr r26 q22 1 (some L15.1)).2 this 0).bind fun q32 =>
  if q32 < L25.1 then
  hx_let (newL L25 4 0) (newX (smr r26 q22 1 (some L15.1)) L25.1) fun L35 X35 =>
  (f_X4_init L35 X35 L25.1).bind fun r36 =>
  if tk L35 q32 16 then
  if tk L35 L25.1 4 then
  if 2 < L35.2.2 q32 then
  if tk L35 this 0 then
  ((smr r36 q32 2 (some L25.1)).2 this 0).bind fun q42 =>
  if q42 < L35.1 then
  hx_let (newL L35 4 0) (newX (smr r36 q32 2 (some L25.1)) L35.1) fun L45 X45 =>
  (f_X4_init L45 X45 L35.1).bind fun r46 =>
  if tk L45 q42 16 then
  if tk L45 L35.1 4 then
  if 3 < L45.2.2 q42 then
  if tk L45 this 0 then
  ((smr r46 q42 3 (some L35.1)).2 this 2).bind fun q52 =>
  if q52 < L45.1 then
  hx_let (newL L45 1 0) (newX (smr r46 q42 3 (some L35.1)) L45.1) fun L55 X55 =>
  (f_X1_init L55 X55 L45.1).bind fun r56 =>
  if tk L55 q52 15 then
  if tk L55 L45.1 1 then
  if 0 < L55.2.2 q52 then
  if tk L55 this 0 then
  ((smr X55 q52 0 (some L45.1)).2 this 2).bind fun q62 =>
  if q62 < L55.1 then
  hx_let (newL L55 1 0) (newX (smr X55 q52 0 (some L45.1)) L55.1) fun L65 X65 =>
  (f_X1_init L65 X65 L55.1).bind fun r66 =>
  if tk L65 q62 15 then
  if tk L65 L55.1 1 then
  if 1 < L65.2.2 q62 then
  if tk L65 this 0 then
  ((smr X65 q62 1 (some L55.1)).2 this 2).bind fun q72 =>
  if q72 < L65.1 then
  hx_let (newL L65 1 0) (newX (smr X65 q62 1 (some L55.1)) L65.1) fun L75 X75 =>
  (f_X1_init L75 X75 L65.1).bind fun r76 =>
  if tk L75 q72 15 then
  if tk L75 L65.1 1 then
  if 2 < L75.2.2 q72 then
  if tk L75 this 0 then
  ((smr X75 q72 2 (some L65.1)).2 this 2).bind fun q82 =>
  if q82 < L75.1 then
  hx_let (newL L75 1 0) (newX (smr X75 q72 2 (some L65.1)) L75.1) fun L85 X85 =>
  (f_X1_init L85 X85 L75.1).bind fun r86 =>
  if tk L85 q82 15 then
  if tk L85 L75.1 1 then
  if 3 < L85.2.2 q82 then
  if tk L85 this 0 then
  ((smr X85 q82 3 (some L75.1)).2 this 2).bind fun q92 =>
  if q92 < L85.1 then
  hx_let (newL L85 1 0) (newX (smr X85 q82 3 (some L75.1)) L85.1) fun L95 X95 =>
  (f_X1_init L95 X95 L85.1).bind fun r96 =>
  if tk L95 q92 15 then
  if tk L95 L85.1 1 then
  if 4 < L95.2.2 q92 then
  if tk L95 this 0 then
  ((smr X95 q92 4 (some L85.1)).2 this 2).bind fun q102 =>
  if q102 < L95.1 then
  hx_let (newL L95 1 0) (newX (smr X95 q92 4 (some L85.1)) L95.1) fun L105 X105 =>
  (f_X1_init L105 X105 L95.1).bind fun r106 =>
  if tk L105 q102 15 then
  if tk L105 L95.1 1 then
  if 5 < L105.2.2 q102 then
  if tk L105 this 0 then
  ((smr X105 q102 5 (some L95.1)).2 this 3).bind fun q112 =>
  if q112 < L105.1 then
  hx_let (newL L105 5 0) (newX (smr X105 q102 5 (some L95.1)) L105.1) fun L115 X115 =>
  (f_X5_init L115 X115 L105.1).bind fun r116 =>
  if tk L115 q112 17 then
  if tk L115 L105.1 5 then
  if 0 < L115.2.2 q112 then
  if tk L115 this 0 then
  ((smr X115 q112 0 (some L105.1)).2 this 3).bind fun q122 =>
  if q122 < L115.1 then
  hx_let (newL L115 5 0) (newX (smr X115 q112 0 (some L105.1)) L115.1) fun L125 X125 =>
  (f_X5_init L125 X125 L115.1).bind fun r126 =>
  if tk L125 q122 17 then
  if tk L125 L115.1 5 then
  if 1 < L125.2.2 q122 then
  if tk L125 this 0 then
  ((smr X125 q122 1 (some L115.1)).2 this 3).bind fun q132 =>
  if q132 < L125.1 then
  hx_let (newL L125 5 0) (newX (smr X125 q122 1 (some L115.1)) L125.1) fun L135 X135 =>
  (f_X5_init L135 X135 L125.1).bind fun r136 =>
  if tk L135 q132 17 then
  if tk L135 L125.1 5 then
  if 2 < L135.2.2 q132 then
  if tk L135 this 0 then
  ((smr X135 q132 2 (some L125.1)).2 this 3).bind fun q142 =>
  if q142 < L135.1 then
  hx_let (newL L135 5 0) (newX (smr X135 q132 2 (some L125.1)) L135.1) fun L145 X145 =>
  (f_X5_init L145 X145 L135.1).bind fun r146 =>
  if tk L145 q142 17 then
  if tk L145 L135.1 5 then
  if 3 < L145.2.2 q142 then
  if tk L145 this 0 then
  ((smr X145 q142 3 (some L135.1)).2 this 3).bind fun q152 =>
  if q152 < L145.1 then
  hx_let (newL L145 5 0) (newX (smr X145 q142 3 (some L135.1)) L145.1) fun L155 X155 =>
  (f_X5_init L155 X155 L145.1).bind fun r156 =>
  if tk L155 q152 17 then
  if tk L155 L145.1 5 then
  if 4 < L155.2.2 q152 then
  if tk L155 this 0 then
  ((smr X155 q152 4 (some L145.1)).2 this 3).bind fun q162 =>
  if q162 < L155.1 then
  hx_let (newL L155 5 0) (newX (smr X155 q152 4 (some L145.1)) L155.1) fun L165 X165 =>
  (f_X5_init L165 X165 L155.1).bind fun r166 =>
  if tk L165 q162 17 then
  if tk L165 L155.1 5 then
  if 5 < L165.2.2 q162 then
  some (L165, smr X165 q162 5 (some L155.1))
  else none
  else none
  else none
  else none
  else none
  else none
  else none
  else none
  else none
  else none
  else none
  else none
  else none
  else none
  else none
  else none
  else none
  else none
  else none
  else none
  else none
  else none
  else none
  else none
  else none
  else none
  else none
  else none
  else none
  else none
  else none
  else none
  else none
  else none
  else none
  else none
  else none
  else none
  else none
  else none
  else none
  else none
  else none
  else none
  else none
  else none
  else none
  else none
  else none
  else none
  else none
  else none
  else none
  else none
  else none
  else none
  else none
  else none
  else none
  else none
  else none
  else none
  else none
  else none
  else none
  else none
  else none
  else none
  else none
  else none
  else none
  else none
  else none
  else none
  else none
  else none
  else none
  else none
  else none
  else none
  else none
  else none
  else none
  else none
set_option maxRecDepth 100000 in
set_option maxHeartbeats 4000000 in
theorem rs_X0_init {L : hL} {X : hX} {this : Nat} {L' : hL} {X' : hX} (h : f_X0_init L X this = some (L', X')) (hrs : hRS L X) : hRS L' X' ∧ L.1 ≤ L'.1 := by
  unfold f_X0_init at h
  have hle : L.1 ≤ L.1 := Nat.le_refl _
  obtain ⟨g1, h⟩ := hx_gd h
  obtain ⟨L2, X2, eL2, eX2, h⟩ := hx_lets h
  have hrs := hRS.new hrs eL2 eX2
  have hle : L.1 ≤ L2.1 := Nat.le_trans hle (by rw [eL2]; exact Nat.le_succ _)
  obtain ⟨g3, h⟩ := hx_gd h
  have hrs := hRS.smr (a := this) (j := 0) hrs (by rw [eL2]; exact Nat.lt_succ_self _)
  obtain ⟨L4, X4, eL4, eX4, h⟩ := hx_lets h
  have hrs := hRS.new hrs eL4 eX4
  have hle : L.1 ≤ L4.1 := Nat.le_trans hle (by rw [eL4]; exact Nat.le_succ _)
  obtain ⟨r5, e6, h⟩ := hx_bind h
  have hrs : hRS L4 r5 := by intro k i q hk hq; rw [p_X7_init e6] at hq; exact hrs k i q hk hq
  obtain ⟨g7, h⟩ := hx_gd h
  have hrs := hRS.smr (a := this) (j := 1) hrs (by rw [eL4]; exact Nat.lt_succ_self _)
  obtain ⟨L8, X8, eL8, eX8, h⟩ := hx_lets h
  have hrs := hRS.new hrs eL8 eX8
  have hle : L.1 ≤ L8.1 := Nat.le_trans hle (by rw [eL8]; exact Nat.le_succ _)
  obtain ⟨g9, h⟩ := hx_gd h
  have hrs := hRS.smr (a := this) (j := 2) hrs (by rw [eL8]; exact Nat.lt_succ_self _)
  obtain ⟨L10, X10, eL10, eX10, h⟩ := hx_lets h
  have hrs := hRS.new hrs eL10 eX10
  have hle : L.1 ≤ L10.1 := Nat.le_trans hle (by rw [eL10]; exact Nat.le_succ _)
  obtain ⟨g11, h⟩ := hx_gd h
  have hrs := hRS.smr (a := this) (j := 3) hrs (by rw [eL10]; exact Nat.lt_succ_self _)
  have hrs := hRS.smi (a := this) (j := 7) (v := 5) hrs
  obtain ⟨q12, e13, h⟩ := hx_bind h
  obtain ⟨g14, h⟩ := hx_gd h
  obtain ⟨L15, X15, eL15, eX15, h⟩ := hx_lets h
  have hrs := hRS.new hrs eL15 eX15
  have hle : L.1 ≤ L15.1 := Nat.le_trans hle (by rw [eL15]; exact Nat.le_succ _)
  obtain ⟨r16, e17, h⟩ := hx_bind h
  have hrs : hRS L15 r16 := by intro k i q hk hq; rw [p_X4_init e17] at hq; exact hrs k i q hk hq
  obtain ⟨g18, h⟩ := hx_gd h
  obtain ⟨g19, h⟩ := hx_gd h
  obtain ⟨g20, h⟩ := hx_gd h
  have hrs := hRS.smr (a := q12) (j := 0) hrs g19.1
  obtain ⟨g21, h⟩ := hx_gd h
  obtain ⟨q22, e23, h⟩ := hx_bind h
  obtain ⟨g24, h⟩ := hx_gd h
  obtain ⟨L25, X25, eL25, eX25, h⟩ := hx_lets h
  have hrs := hRS.new hrs eL25 eX25
  have hle : L.1 ≤ L25.1 := Nat.le_trans hle (by rw [eL25]; exact Nat.le_succ _)
  obtain ⟨r26, e27, h⟩ := hx_bind h
  have hrs : hRS L25 r26 := by intro k i q hk hq; rw [p_X4_init e27] at hq; exact hrs k i q hk hq
  obtain ⟨g28, h⟩ := hx_gd h
  obtain ⟨g29, h⟩ := hx_gd h
  obtain ⟨g30, h⟩ := hx_gd h
  have hrs := hRS.smr (a := q22) (j := 1) hrs g29.1
  obtain ⟨g31, h⟩ := hx_gd h
  obtain ⟨q32, e33, h⟩ := hx_bind h
  obtain ⟨g34, h⟩ := hx_gd h
  obtain ⟨L35, X35, eL35, eX35, h⟩ := hx_lets h
  have hrs := hRS.new hrs eL35 eX35
  have hle : L.1 ≤ L35.1 := Nat.le_trans hle (by rw [eL35]; exact Nat.le_succ _)
  obtain ⟨r36, e37, h⟩ := hx_bind h
  have hrs : hRS L35 r36 := by intro k i q hk hq; rw [p_X4_init e37] at hq; exact hrs k i q hk hq
  obtain ⟨g38, h⟩ := hx_gd h
  obtain ⟨g39, h⟩ := hx_gd h
  obtain ⟨g40, h⟩ := hx_gd h
  have hrs := hRS.smr (a := q32) (j := 2) hrs g39.1
  obtain ⟨g41, h⟩ := hx_gd h
  obtain ⟨q42, e43, h⟩ := hx_bind h
  obtain ⟨g44, h⟩ := hx_gd h
  obtain ⟨L45, X45, eL45, eX45, h⟩ := hx_lets h
  have hrs := hRS.new hrs eL45 eX45
  have hle : L.1 ≤ L45.1 := Nat.le_trans hle (by rw [eL45]; exact Nat.le_succ _)
  obtain ⟨r46, e47, h⟩ := hx_bind h
  have hrs : hRS L45 r46 := by intro k i q hk hq; rw [p_X4_init e47] at hq; exact hrs k i q hk hq
  obtain ⟨g48, h⟩ := hx_gd h
  obtain ⟨g49, h⟩ := hx_gd h
  obtain ⟨g50, h⟩ := hx_gd h
  have hrs := hRS.smr (a := q42) (j := 3) hrs g49.1
  obtain ⟨g51, h⟩ := hx_gd h
  obtain ⟨q52, e53, h⟩ := hx_bind h
  obtain ⟨g54, h⟩ := hx_gd h
  obtain ⟨L55, X55, eL55, eX55, h⟩ := hx_lets h
  have hrs := hRS.new hrs eL55 eX55
  have hle : L.1 ≤ L55.1 := Nat.le_trans hle (by rw [eL55]; exact Nat.le_succ _)
  obtain ⟨r56, e57, h⟩ := hx_bind h
  obtain ⟨g58, h⟩ := hx_gd h
  obtain ⟨g59, h⟩ := hx_gd h
  obtain ⟨g60, h⟩ := hx_gd h
  have hrs := hRS.smr (a := q52) (j := 0) hrs g59.1
  obtain ⟨g61, h⟩ := hx_gd h
  obtain ⟨q62, e63, h⟩ := hx_bind h
  obtain ⟨g64, h⟩ := hx_gd h
  obtain ⟨L65, X65, eL65, eX65, h⟩ := hx_lets h
  have hrs := hRS.new hrs eL65 eX65
  have hle : L.1 ≤ L65.1 := Nat.le_trans hle (by rw [eL65]; exact Nat.le_succ _)
  obtain ⟨r66, e67, h⟩ := hx_bind h
  obtain ⟨g68, h⟩ := hx_gd h
  obtain ⟨g69, h⟩ := hx_gd h
  obtain ⟨g70, h⟩ := hx_gd h
  have hrs := hRS.smr (a := q62) (j := 1) hrs g69.1
  obtain ⟨g71, h⟩ := hx_gd h
  obtain ⟨q72, e73, h⟩ := hx_bind h
  obtain ⟨g74, h⟩ := hx_gd h
  obtain ⟨L75, X75, eL75, eX75, h⟩ := hx_lets h
  have hrs := hRS.new hrs eL75 eX75
  have hle : L.1 ≤ L75.1 := Nat.le_trans hle (by rw [eL75]; exact Nat.le_succ _)
  obtain ⟨r76, e77, h⟩ := hx_bind h
  obtain ⟨g78, h⟩ := hx_gd h
  obtain ⟨g79, h⟩ := hx_gd h
  obtain ⟨g80, h⟩ := hx_gd h
  have hrs := hRS.smr (a := q72) (j := 2) hrs g79.1
  obtain ⟨g81, h⟩ := hx_gd h
  obtain ⟨q82, e83, h⟩ := hx_bind h
  obtain ⟨g84, h⟩ := hx_gd h
  obtain ⟨L85, X85, eL85, eX85, h⟩ := hx_lets h
  have hrs := hRS.new hrs eL85 eX85
  have hle : L.1 ≤ L85.1 := Nat.le_trans hle (by rw [eL85]; exact Nat.le_succ _)
  obtain ⟨r86, e87, h⟩ := hx_bind h
  obtain ⟨g88, h⟩ := hx_gd h
  obtain ⟨g89, h⟩ := hx_gd h
  obtain ⟨g90, h⟩ := hx_gd h
  have hrs := hRS.smr (a := q82) (j := 3) hrs g89.1
  obtain ⟨g91, h⟩ := hx_gd h
  obtain ⟨q92, e93, h⟩ := hx_bind h
  obtain ⟨g94, h⟩ := hx_gd h
  obtain ⟨L95, X95, eL95, eX95, h⟩ := hx_lets h
  have hrs := hRS.new hrs eL95 eX95
  have hle : L.1 ≤ L95.1 := Nat.le_trans hle (by rw [eL95]; exact Nat.le_succ _)
  obtain ⟨r96, e97, h⟩ := hx_bind h
  obtain ⟨g98, h⟩ := hx_gd h
  obtain ⟨g99, h⟩ := hx_gd h
  obtain ⟨g100, h⟩ := hx_gd h
  have hrs := hRS.smr (a := q92) (j := 4) hrs g99.1
  obtain ⟨g101, h⟩ := hx_gd h
  obtain ⟨q102, e103, h⟩ := hx_bind h
  obtain ⟨g104, h⟩ := hx_gd h
  obtain ⟨L105, X105, eL105, eX105, h⟩ := hx_lets h
  have hrs := hRS.new hrs eL105 eX105
  have hle : L.1 ≤ L105.1 := Nat.le_trans hle (by rw [eL105]; exact Nat.le_succ _)
  obtain ⟨r106, e107, h⟩ := hx_bind h
  obtain ⟨g108, h⟩ := hx_gd h
  obtain ⟨g109, h⟩ := hx_gd h
  obtain ⟨g110, h⟩ := hx_gd h
  have hrs := hRS.smr (a := q102) (j := 5) hrs g109.1
  obtain ⟨g111, h⟩ := hx_gd h
  obtain ⟨q112, e113, h⟩ := hx_bind h
  obtain ⟨g114, h⟩ := hx_gd h
  obtain ⟨L115, X115, eL115, eX115, h⟩ := hx_lets h
  have hrs := hRS.new hrs eL115 eX115
  have hle : L.1 ≤ L115.1 := Nat.le_trans hle (by rw [eL115]; exact Nat.le_succ _)
  obtain ⟨r116, e117, h⟩ := hx_bind h
  obtain ⟨g118, h⟩ := hx_gd h
  obtain ⟨g119, h⟩ := hx_gd h
  obtain ⟨g120, h⟩ := hx_gd h
  have hrs := hRS.smr (a := q112) (j := 0) hrs g119.1
  obtain ⟨g121, h⟩ := hx_gd h
  obtain ⟨q122, e123, h⟩ := hx_bind h
  obtain ⟨g124, h⟩ := hx_gd h
  obtain ⟨L125, X125, eL125, eX125, h⟩ := hx_lets h
  have hrs := hRS.new hrs eL125 eX125
  have hle : L.1 ≤ L125.1 := Nat.le_trans hle (by rw [eL125]; exact Nat.le_succ _)
  obtain ⟨r126, e127, h⟩ := hx_bind h
  obtain ⟨g128, h⟩ := hx_gd h
  obtain ⟨g129, h⟩ := hx_gd h
  obtain ⟨g130, h⟩ := hx_gd h
  have hrs := hRS.smr (a := q122) (j := 1) hrs g129.1
  obtain ⟨g131, h⟩ := hx_gd h
  obtain ⟨q132, e133, h⟩ := hx_bind h
  obtain ⟨g134, h⟩ := hx_gd h
  obtain ⟨L135, X135, eL135, eX135, h⟩ := hx_lets h
  have hrs := hRS.new hrs eL135 eX135
  have hle : L.1 ≤ L135.1 := Nat.le_trans hle (by rw [eL135]; exact Nat.le_succ _)
  obtain ⟨r136, e137, h⟩ := hx_bind h
  obtain ⟨g138, h⟩ := hx_gd h
  obtain ⟨g139, h⟩ := hx_gd h
  obtain ⟨g140, h⟩ := hx_gd h
  have hrs := hRS.smr (a := q132) (j := 2) hrs g139.1
  obtain ⟨g141, h⟩ := hx_gd h
  obtain ⟨q142, e143, h⟩ := hx_bind h
  obtain ⟨g144, h⟩ := hx_gd h
  obtain ⟨L145, X145, eL145, eX145, h⟩ := hx_lets h
  have hrs := hRS.new hrs eL145 eX145
  have hle : L.1 ≤ L145.1 := Nat.le_trans hle (by rw [eL145]; exact Nat.le_succ _)
  obtain ⟨r146, e147, h⟩ := hx_bind h
  obtain ⟨g148, h⟩ := hx_gd h
  obtain ⟨g149, h⟩ := hx_gd h
  obtain ⟨g150, h⟩ := hx_gd h
  have hrs := hRS.smr (a := q142) (j := 3) hrs g149.1
  obtain ⟨g151, h⟩ := hx_gd h
  obtain ⟨q152, e153, h⟩ := hx_bind h
  obtain ⟨g154, h⟩ := hx_gd h
  obtain ⟨L155, X155, eL155, eX155, h⟩ := hx_lets h
  have hrs := hRS.new hrs eL155 eX155
  have hle : L.1 ≤ L155.1 := Nat.le_trans hle (by rw [eL155]; exact Nat.le_succ _)
  obtain ⟨r156, e157, h⟩ := hx_bind h
  obtain ⟨g158, h⟩ := hx_gd h
  obtain ⟨g159, h⟩ := hx_gd h
  obtain ⟨g160, h⟩ := hx_gd h
  have hrs := hRS.smr (a := q152) (j := 4) hrs g159.1
  obtain ⟨g161, h⟩ := hx_gd h
  obtain ⟨q162, e163, h⟩ := hx_bind h
  obtain ⟨g164, h⟩ := hx_gd h
  obtain ⟨L165, X165, eL165, eX165, h⟩ := hx_lets h
  have hrs := hRS.new hrs eL165 eX165
  have hle : L.1 ≤ L165.1 := Nat.le_trans hle (by rw [eL165]; exact Nat.le_succ _)
  obtain ⟨r166, e167, h⟩ := hx_bind h
  obtain ⟨g168, h⟩ := hx_gd h
  obtain ⟨g169, h⟩ := hx_gd h
  obtain ⟨g170, h⟩ := hx_gd h
  have hrs := hRS.smr (a := q162) (j := 5) hrs g169.1
  obtain ⟨rfl, rfl⟩ := hx_some2 h
  exact ⟨hrs, hle⟩
set_option maxRecDepth 100000 in
set_option maxHeartbeats 8000000 in
theorem c_X0_init {l : Launch} {dC : Nat → ClassId} {dI : Nat → Nat → Nat} {cy : Nat → ClassId} {L : hL} {X : hX} {this : Nat} {L' : hL} {X' : hX} (h : f_X0_init L X this = some (L', X')) (hrs : hRS L X) : hMetA l dC dI cy yX0_init wsX0_init ({ frames := 2, cells := 20, slots := 105, locals := 44 } : Room) this L X L' X' 20 105 := by
  unfold f_X0_init at h
  refine hx_enterA RX0 (plainFor_of_name (by decide)) rfl rfl (by decide) (fun ad0 p e s m args below meth c C hr hnm ls hl => ?_)
  have hle : L.1 ≤ L.1 := Nat.le_refl _
  have had : ∀ k, k < L.1 → ad0 k = ad0 k := fun _ _ => rfl
  refine hx_aload_n C dX0_init_0 rfl (lv_at hl 0 rfl) ?_
  refine hx_objInit C (by decide +kernel) (by decide +kernel) (by decide +kernel) hl.1 dX0_init_1 (Nat.le_of_ble_eq_true rfl) (Nat.le_of_ble_eq_true rfl) ?_
  refine hx_aload_n C dX0_init_4 rfl (lv_at hl 0 rfl) ?_
  refine hx_iconst (v := 4) C dX0_init_5 (by decide) ?_
  obtain ⟨g1, h⟩ := hx_gd h
  obtain ⟨L2, X2, eL2, eX2, h⟩ := hx_lets h
  refine hx_newq (N := 4) (t0 := 5) C hrs eL2 eX2 (by decide) rfl (by decide) (by decide +kernel) (by decide) (by decide) (Nat.le_of_ble_eq_true rfl) (Nat.le_of_ble_eq_true rfl) (Nat.le_of_ble_eq_true rfl) dX0_init_6 (fun ad2 hag2 C => ?_)
  rw [← hag2 this g1] at hl
  rw [← hag2 this g1]
  have had : ∀ k, k < L.1 → ad2 k = ad0 k := fun k hk => (hag2 k (Nat.lt_of_lt_of_le hk hle)).trans (had k hk)
  have hrs := hRS.new hrs eL2 eX2
  have hle : L.1 ≤ L2.1 := Nat.le_trans hle (by rw [eL2]; exact Nat.le_succ _)
  obtain ⟨g3, h⟩ := hx_gd h
  refine hx_putrF C (ci := 0) (j := 0) tyX0 tyX0_ok nmX0 g3 uX0_init_0 (by decide) rfl (by decide) rfl (by decide +kernel) rfl rfl hnm rfl (tyX0_ok 0 (by decide)) dX0_init_9 rfl rfl ?_
  have hrs := hRS.smr (a := this) (j := 0) hrs (by rw [eL2]; exact Nat.lt_succ_self _)
  refine hx_aload_n C dX0_init_12 rfl (lv_at hl 0 rfl) ?_
  obtain ⟨L4, X4, eL4, eX4, h⟩ := hx_lets h
  refine hx_new C hrs eL4 eX4 uX0_init_7 tyX7 tyX7_ok (by decide +kernel) (by decide +kernel) (by decide +kernel) (by decide) rfl hf0_7 (Nat.le_of_ble_eq_true rfl) (Nat.le_of_ble_eq_true rfl) dX0_init_13 (fun ad4 hag4 C => ?_)
  rw [← hag4 this g3.1] at hl
  rw [← hag4 this g3.1]
  have had : ∀ k, k < L.1 → ad4 k = ad0 k := fun k hk => (hag4 k (Nat.lt_of_lt_of_le hk hle)).trans (had k hk)
  have hrs := hRS.new hrs eL4 eX4
  have hle : L.1 ≤ L4.1 := Nat.le_trans hle (by rw [eL4]; exact Nat.le_succ _)
  refine hx_dup C dX0_init_16 rfl ?_
  obtain ⟨r5, e6, h⟩ := hx_bind h
  refine hx_init0N (host := "TicketScales") C (c_X7_init e6) gX0_init_X7_init_n19 (by decide) rfl (by decide +kernel) (by decide +kernel) (by decide +kernel) ⟨Nat.le_of_ble_eq_true rfl, Nat.le_of_ble_eq_true rfl⟩ rfl rfl rfl ⟨Nat.le_of_ble_eq_true rfl, Nat.le_of_ble_eq_true rfl⟩ hl.1 (Nat.le_of_ble_eq_true rfl) dX0_init_17 ?_
  have hrs : hRS L4 r5 := by intro k i q hk hq; rw [p_X7_init e6] at hq; exact hrs k i q hk hq
  obtain ⟨g7, h⟩ := hx_gd h
  refine hx_putrF C (ci := 0) (j := 1) tyX0 tyX0_ok nmX0 g7 uX0_init_0 (by decide) rfl (by decide) rfl (by decide +kernel) rfl rfl hnm rfl (tyX0_ok 1 (by decide)) dX0_init_20 rfl rfl ?_
  have hrs := hRS.smr (a := this) (j := 1) hrs (by rw [eL4]; exact Nat.lt_succ_self _)
  refine hx_aload_n C dX0_init_23 rfl (lv_at hl 0 rfl) ?_
  refine hx_bipush (v := 6) C dX0_init_24 (by decide) ?_
  obtain ⟨L8, X8, eL8, eX8, h⟩ := hx_lets h
  refine hx_newq (N := 6) (t0 := 4) C hrs eL8 eX8 (by decide) rfl (by decide) (by decide +kernel) (by decide) (by decide) (Nat.le_of_ble_eq_true rfl) (Nat.le_of_ble_eq_true rfl) (Nat.le_of_ble_eq_true rfl) dX0_init_26 (fun ad8 hag8 C => ?_)
  rw [← hag8 this g7.1] at hl
  rw [← hag8 this g7.1]
  have had : ∀ k, k < L.1 → ad8 k = ad0 k := fun k hk => (hag8 k (Nat.lt_of_lt_of_le hk hle)).trans (had k hk)
  have hrs := hRS.new hrs eL8 eX8
  have hle : L.1 ≤ L8.1 := Nat.le_trans hle (by rw [eL8]; exact Nat.le_succ _)
  obtain ⟨g9, h⟩ := hx_gd h
  refine hx_putrF C (ci := 0) (j := 2) tyX0 tyX0_ok nmX0 g9 uX0_init_0 (by decide) rfl (by decide) rfl (by decide +kernel) rfl rfl hnm rfl (tyX0_ok 2 (by decide)) dX0_init_29 rfl rfl ?_
  have hrs := hRS.smr (a := this) (j := 2) hrs (by rw [eL8]; exact Nat.lt_succ_self _)
  refine hx_aload_n C dX0_init_32 rfl (lv_at hl 0 rfl) ?_
  refine hx_bipush (v := 6) C dX0_init_33 (by decide) ?_
  obtain ⟨L10, X10, eL10, eX10, h⟩ := hx_lets h
  refine hx_newq (N := 6) (t0 := 6) C hrs eL10 eX10 (by decide) rfl (by decide) (by decide +kernel) (by decide) (by decide) (Nat.le_of_ble_eq_true rfl) (Nat.le_of_ble_eq_true rfl) (Nat.le_of_ble_eq_true rfl) dX0_init_35 (fun ad10 hag10 C => ?_)
  rw [← hag10 this g9.1] at hl
  rw [← hag10 this g9.1]
  have had : ∀ k, k < L.1 → ad10 k = ad0 k := fun k hk => (hag10 k (Nat.lt_of_lt_of_le hk hle)).trans (had k hk)
  have hrs := hRS.new hrs eL10 eX10
  have hle : L.1 ≤ L10.1 := Nat.le_trans hle (by rw [eL10]; exact Nat.le_succ _)
  obtain ⟨g11, h⟩ := hx_gd h
  refine hx_putrF C (ci := 0) (j := 3) tyX0 tyX0_ok nmX0 g11 uX0_init_0 (by decide) rfl (by decide) rfl (by decide +kernel) rfl rfl hnm rfl (tyX0_ok 3 (by decide)) dX0_init_38 rfl rfl ?_
  have hrs := hRS.smr (a := this) (j := 3) hrs (by rw [eL10]; exact Nat.lt_succ_self _)
  refine hx_aload_n C dX0_init_41 rfl (lv_at hl 0 rfl) ?_
  refine hx_iconst (v := 5) C dX0_init_42 (by decide) ?_
  refine hx_puti C (ci := 0) (j := 7) tyX0 tyX0_ok nmX0 g11 uX0_init_0 (by decide) rfl (by decide) rfl (by decide +kernel) rfl rfl (tyX0_ok 7 (by decide)) dX0_init_43 rfl rfl ?_
  have hrs := hRS.smi (a := this) (j := 7) (v := 5) hrs
  refine hx_iconst (v := 0) C dX0_init_46 (by decide) ?_
  refine hx_istore_n (lv' := [(1, .int 0), (0, .ref (ad10 this))]) C dX0_init_47 rfl hl (by decide) rfl (fun ls hl => ?_)
  refine hx_iload_n C dX0_init_48 rfl (lv_at hl 0 rfl) ?_
  refine hx_iconst (v := 4) C dX0_init_49 (by decide) ?_
  refine hx_icmp_ge (tgt := 72) C dX0_init_50 (by decide) (fun cc => absurd cc (by decide)) (fun cc => ?_)
  refine hx_aload_n C dX0_init_53 rfl (lv_at hl 1 rfl) ?_
  obtain ⟨q12, e13, h⟩ := hx_bind h
  refine hx_getr C (ci := 0) (j := 0) g11 uX0_init_0 (by decide) rfl (by decide) rfl (by decide +kernel) rfl dX0_init_54 e13 ?_
  refine hx_iload_n C dX0_init_57 rfl (lv_at hl 0 rfl) ?_
  obtain ⟨g14, h⟩ := hx_gd h
  obtain ⟨L15, X15, eL15, eX15, h⟩ := hx_lets h
  refine hx_new C hrs eL15 eX15 uX0_init_4 tyX4 tyX4_ok (by decide +kernel) (by decide +kernel) (by decide +kernel) (by decide) rfl hf0_4 (Nat.le_of_ble_eq_true rfl) (Nat.le_of_ble_eq_true rfl) dX0_init_58 (fun ad15 hag15 C => ?_)
  rw [← hag15 this g11.1] at hl
  rw [← hag15 q12 g14]
  have had : ∀ k, k < L.1 → ad15 k = ad0 k := fun k hk => (hag15 k (Nat.lt_of_lt_of_le hk hle)).trans (had k hk)
  have hrs := hRS.new hrs eL15 eX15
  have hle : L.1 ≤ L15.1 := Nat.le_trans hle (by rw [eL15]; exact Nat.le_succ _)
  refine hx_dup C dX0_init_61 rfl ?_
  obtain ⟨r16, e17, h⟩ := hx_bind h
  refine hx_init0N (host := "TicketScales") C (c_X4_init e17) gX0_init_X4_init_n40 (by decide) rfl (by decide +kernel) (by decide +kernel) (by decide +kernel) ⟨Nat.le_of_ble_eq_true rfl, Nat.le_of_ble_eq_true rfl⟩ rfl rfl rfl ⟨Nat.le_of_ble_eq_true rfl, Nat.le_of_ble_eq_true rfl⟩ hl.1 (Nat.le_of_ble_eq_true rfl) dX0_init_62 ?_
  have hrs : hRS L15 r16 := by intro k i q hk hq; rw [p_X4_init e17] at hq; exact hrs k i q hk hq
  obtain ⟨g18, h⟩ := hx_gd h
  obtain ⟨g19, h⟩ := hx_gd h
  obtain ⟨g20, h⟩ := hx_gd h
  refine hx_aast (t0 := 5) (n := 0) C g18 (by decide) rfl g19 (by decide) rfl (hin_lit (i := 0) (by decide) (by decide) g20) (by decide) dX0_init_65 ?_
  have hrs := hRS.smr (a := q12) (j := 0) hrs g19.1
  refine hx_iinc (v := 1) (lv' := [(1, .int 1), (0, .ref (ad15 this))]) C dX0_init_66 hl (k := 0) rfl (by decide) (by decide) rfl (fun ls hl => ?_)
  refine hx_goto (tgt := 48) C dX0_init_69 (by decide) ?_
  refine hx_iload_n C dX0_init_48 rfl (lv_at hl 0 rfl) ?_
  refine hx_iconst (v := 4) C dX0_init_49 (by decide) ?_
  refine hx_icmp_ge (tgt := 72) C dX0_init_50 (by decide) (fun cc => absurd cc (by decide)) (fun cc => ?_)
  refine hx_aload_n C dX0_init_53 rfl (lv_at hl 1 rfl) ?_
  obtain ⟨g21, h⟩ := hx_gd h
  obtain ⟨q22, e23, h⟩ := hx_bind h
  refine hx_getr C (ci := 0) (j := 0) g21 uX0_init_0 (by decide) rfl (by decide) rfl (by decide +kernel) rfl dX0_init_54 e23 ?_
  refine hx_iload_n C dX0_init_57 rfl (lv_at hl 0 rfl) ?_
  obtain ⟨g24, h⟩ := hx_gd h
  obtain ⟨L25, X25, eL25, eX25, h⟩ := hx_lets h
  refine hx_new C hrs eL25 eX25 uX0_init_4 tyX4 tyX4_ok (by decide +kernel) (by decide +kernel) (by decide +kernel) (by decide) rfl hf0_4 (Nat.le_of_ble_eq_true rfl) (Nat.le_of_ble_eq_true rfl) dX0_init_58 (fun ad25 hag25 C => ?_)
  rw [← hag25 this g21.1] at hl
  rw [← hag25 q22 g24]
  have had : ∀ k, k < L.1 → ad25 k = ad0 k := fun k hk => (hag25 k (Nat.lt_of_lt_of_le hk hle)).trans (had k hk)
  have hrs := hRS.new hrs eL25 eX25
  have hle : L.1 ≤ L25.1 := Nat.le_trans hle (by rw [eL25]; exact Nat.le_succ _)
  refine hx_dup C dX0_init_61 rfl ?_
  obtain ⟨r26, e27, h⟩ := hx_bind h
  refine hx_init0N (host := "TicketScales") C (c_X4_init e27) gX0_init_X4_init_n40 (by decide) rfl (by decide +kernel) (by decide +kernel) (by decide +kernel) ⟨Nat.le_of_ble_eq_true rfl, Nat.le_of_ble_eq_true rfl⟩ rfl rfl rfl ⟨Nat.le_of_ble_eq_true rfl, Nat.le_of_ble_eq_true rfl⟩ hl.1 (Nat.le_of_ble_eq_true rfl) dX0_init_62 ?_
  have hrs : hRS L25 r26 := by intro k i q hk hq; rw [p_X4_init e27] at hq; exact hrs k i q hk hq
  obtain ⟨g28, h⟩ := hx_gd h
  obtain ⟨g29, h⟩ := hx_gd h
  obtain ⟨g30, h⟩ := hx_gd h
  refine hx_aast (t0 := 5) (n := 1) C g28 (by decide) rfl g29 (by decide) rfl (hin_lit (i := 1) (by decide) (by decide) g30) (by decide) dX0_init_65 ?_
  have hrs := hRS.smr (a := q22) (j := 1) hrs g29.1
  refine hx_iinc (v := 2) (lv' := [(1, .int 2), (0, .ref (ad25 this))]) C dX0_init_66 hl (k := 0) rfl (by decide) (by decide) rfl (fun ls hl => ?_)
  refine hx_goto (tgt := 48) C dX0_init_69 (by decide) ?_
  refine hx_iload_n C dX0_init_48 rfl (lv_at hl 0 rfl) ?_
  refine hx_iconst (v := 4) C dX0_init_49 (by decide) ?_
  refine hx_icmp_ge (tgt := 72) C dX0_init_50 (by decide) (fun cc => absurd cc (by decide)) (fun cc => ?_)
  refine hx_aload_n C dX0_init_53 rfl (lv_at hl 1 rfl) ?_
  obtain ⟨g31, h⟩ := hx_gd h
  obtain ⟨q32, e33, h⟩ := hx_bind h
  refine hx_getr C (ci := 0) (j := 0) g31 uX0_init_0 (by decide) rfl (by decide) rfl (by decide +kernel) rfl dX0_init_54 e33 ?_
  refine hx_iload_n C dX0_init_57 rfl (lv_at hl 0 rfl) ?_
  obtain ⟨g34, h⟩ := hx_gd h
  obtain ⟨L35, X35, eL35, eX35, h⟩ := hx_lets h
  refine hx_new C hrs eL35 eX35 uX0_init_4 tyX4 tyX4_ok (by decide +kernel) (by decide +kernel) (by decide +kernel) (by decide) rfl hf0_4 (Nat.le_of_ble_eq_true rfl) (Nat.le_of_ble_eq_true rfl) dX0_init_58 (fun ad35 hag35 C => ?_)
  rw [← hag35 this g31.1] at hl
  rw [← hag35 q32 g34]
  have had : ∀ k, k < L.1 → ad35 k = ad0 k := fun k hk => (hag35 k (Nat.lt_of_lt_of_le hk hle)).trans (had k hk)
  have hrs := hRS.new hrs eL35 eX35
  have hle : L.1 ≤ L35.1 := Nat.le_trans hle (by rw [eL35]; exact Nat.le_succ _)
  refine hx_dup C dX0_init_61 rfl ?_
  obtain ⟨r36, e37, h⟩ := hx_bind h
  refine hx_init0N (host := "TicketScales") C (c_X4_init e37) gX0_init_X4_init_n40 (by decide) rfl (by decide +kernel) (by decide +kernel) (by decide +kernel) ⟨Nat.le_of_ble_eq_true rfl, Nat.le_of_ble_eq_true rfl⟩ rfl rfl rfl ⟨Nat.le_of_ble_eq_true rfl, Nat.le_of_ble_eq_true rfl⟩ hl.1 (Nat.le_of_ble_eq_true rfl) dX0_init_62 ?_
  have hrs : hRS L35 r36 := by intro k i q hk hq; rw [p_X4_init e37] at hq; exact hrs k i q hk hq
  obtain ⟨g38, h⟩ := hx_gd h
  obtain ⟨g39, h⟩ := hx_gd h
  obtain ⟨g40, h⟩ := hx_gd h
  refine hx_aast (t0 := 5) (n := 2) C g38 (by decide) rfl g39 (by decide) rfl (hin_lit (i := 2) (by decide) (by decide) g40) (by decide) dX0_init_65 ?_
  have hrs := hRS.smr (a := q32) (j := 2) hrs g39.1
  refine hx_iinc (v := 3) (lv' := [(1, .int 3), (0, .ref (ad35 this))]) C dX0_init_66 hl (k := 0) rfl (by decide) (by decide) rfl (fun ls hl => ?_)
  refine hx_goto (tgt := 48) C dX0_init_69 (by decide) ?_
  refine hx_iload_n C dX0_init_48 rfl (lv_at hl 0 rfl) ?_
  refine hx_iconst (v := 4) C dX0_init_49 (by decide) ?_
  refine hx_icmp_ge (tgt := 72) C dX0_init_50 (by decide) (fun cc => absurd cc (by decide)) (fun cc => ?_)
  refine hx_aload_n C dX0_init_53 rfl (lv_at hl 1 rfl) ?_
  obtain ⟨g41, h⟩ := hx_gd h
  obtain ⟨q42, e43, h⟩ := hx_bind h
  refine hx_getr C (ci := 0) (j := 0) g41 uX0_init_0 (by decide) rfl (by decide) rfl (by decide +kernel) rfl dX0_init_54 e43 ?_
  refine hx_iload_n C dX0_init_57 rfl (lv_at hl 0 rfl) ?_
  obtain ⟨g44, h⟩ := hx_gd h
  obtain ⟨L45, X45, eL45, eX45, h⟩ := hx_lets h
  refine hx_new C hrs eL45 eX45 uX0_init_4 tyX4 tyX4_ok (by decide +kernel) (by decide +kernel) (by decide +kernel) (by decide) rfl hf0_4 (Nat.le_of_ble_eq_true rfl) (Nat.le_of_ble_eq_true rfl) dX0_init_58 (fun ad45 hag45 C => ?_)
  rw [← hag45 this g41.1] at hl
  rw [← hag45 q42 g44]
  have had : ∀ k, k < L.1 → ad45 k = ad0 k := fun k hk => (hag45 k (Nat.lt_of_lt_of_le hk hle)).trans (had k hk)
  have hrs := hRS.new hrs eL45 eX45
  have hle : L.1 ≤ L45.1 := Nat.le_trans hle (by rw [eL45]; exact Nat.le_succ _)
  refine hx_dup C dX0_init_61 rfl ?_
  obtain ⟨r46, e47, h⟩ := hx_bind h
  refine hx_init0N (host := "TicketScales") C (c_X4_init e47) gX0_init_X4_init_n40 (by decide) rfl (by decide +kernel) (by decide +kernel) (by decide +kernel) ⟨Nat.le_of_ble_eq_true rfl, Nat.le_of_ble_eq_true rfl⟩ rfl rfl rfl ⟨Nat.le_of_ble_eq_true rfl, Nat.le_of_ble_eq_true rfl⟩ hl.1 (Nat.le_of_ble_eq_true rfl) dX0_init_62 ?_
  have hrs : hRS L45 r46 := by intro k i q hk hq; rw [p_X4_init e47] at hq; exact hrs k i q hk hq
  obtain ⟨g48, h⟩ := hx_gd h
  obtain ⟨g49, h⟩ := hx_gd h
  obtain ⟨g50, h⟩ := hx_gd h
  refine hx_aast (t0 := 5) (n := 3) C g48 (by decide) rfl g49 (by decide) rfl (hin_lit (i := 3) (by decide) (by decide) g50) (by decide) dX0_init_65 ?_
  have hrs := hRS.smr (a := q42) (j := 3) hrs g49.1
  refine hx_iinc (v := 4) (lv' := [(1, .int 4), (0, .ref (ad45 this))]) C dX0_init_66 hl (k := 0) rfl (by decide) (by decide) rfl (fun ls hl => ?_)
  refine hx_goto (tgt := 48) C dX0_init_69 (by decide) ?_
  refine hx_iload_n C dX0_init_48 rfl (lv_at hl 0 rfl) ?_
  refine hx_iconst (v := 4) C dX0_init_49 (by decide) ?_
  refine hx_icmp_ge (tgt := 72) C dX0_init_50 (by decide) (fun cc => ?_) (fun cc => absurd cc (by decide))
  refine hx_iconst (v := 0) C dX0_init_72 (by decide) ?_
  refine hx_istore_n (lv' := [(1, .int 0), (0, .ref (ad45 this))]) C dX0_init_73 rfl hl (by decide) rfl (fun ls hl => ?_)
  refine hx_iload_n C dX0_init_74 rfl (lv_at hl 0 rfl) ?_
  refine hx_bipush (v := 6) C dX0_init_75 (by decide) ?_
  refine hx_icmp_ge (tgt := 99) C dX0_init_77 (by decide) (fun cc => absurd cc (by decide)) (fun cc => ?_)
  refine hx_aload_n C dX0_init_80 rfl (lv_at hl 1 rfl) ?_
  obtain ⟨g51, h⟩ := hx_gd h
  obtain ⟨q52, e53, h⟩ := hx_bind h
  refine hx_getr C (ci := 0) (j := 2) g51 uX0_init_0 (by decide) rfl (by decide) rfl (by decide +kernel) rfl dX0_init_81 e53 ?_
  refine hx_iload_n C dX0_init_84 rfl (lv_at hl 0 rfl) ?_
  obtain ⟨g54, h⟩ := hx_gd h
  obtain ⟨L55, X55, eL55, eX55, h⟩ := hx_lets h
  refine hx_new C hrs eL55 eX55 uX0_init_1 tyX1 tyX1_ok (by decide +kernel) (by decide +kernel) (by decide +kernel) (by decide) rfl hf0_1 (Nat.le_of_ble_eq_true rfl) (Nat.le_of_ble_eq_true rfl) dX0_init_85 (fun ad55 hag55 C => ?_)
  rw [← hag55 this g51.1] at hl
  rw [← hag55 q52 g54]
  have had : ∀ k, k < L.1 → ad55 k = ad0 k := fun k hk => (hag55 k (Nat.lt_of_lt_of_le hk hle)).trans (had k hk)
  have hrs := hRS.new hrs eL55 eX55
  have hle : L.1 ≤ L55.1 := Nat.le_trans hle (by rw [eL55]; exact Nat.le_succ _)
  refine hx_dup C dX0_init_88 rfl ?_
  obtain ⟨r56, e57, h⟩ := hx_bind h
  refine hx_init0N (host := "TicketScales") C (c_X1_init e57) gX0_init_X1_init_n41 (by decide) rfl (by decide +kernel) (by decide +kernel) (by decide +kernel) ⟨Nat.le_of_ble_eq_true rfl, Nat.le_of_ble_eq_true rfl⟩ rfl rfl rfl ⟨Nat.le_of_ble_eq_true rfl, Nat.le_of_ble_eq_true rfl⟩ hl.1 (Nat.le_of_ble_eq_true rfl) dX0_init_89 ?_
  obtain ⟨g58, h⟩ := hx_gd h
  obtain ⟨g59, h⟩ := hx_gd h
  obtain ⟨g60, h⟩ := hx_gd h
  refine hx_aast (t0 := 4) (n := 0) C g58 (by decide) rfl g59 (by decide) rfl (hin_lit (i := 0) (by decide) (by decide) g60) (by decide) dX0_init_92 ?_
  have hrs := hRS.smr (a := q52) (j := 0) hrs g59.1
  refine hx_iinc (v := 1) (lv' := [(1, .int 1), (0, .ref (ad55 this))]) C dX0_init_93 hl (k := 0) rfl (by decide) (by decide) rfl (fun ls hl => ?_)
  refine hx_goto (tgt := 74) C dX0_init_96 (by decide) ?_
  refine hx_iload_n C dX0_init_74 rfl (lv_at hl 0 rfl) ?_
  refine hx_bipush (v := 6) C dX0_init_75 (by decide) ?_
  refine hx_icmp_ge (tgt := 99) C dX0_init_77 (by decide) (fun cc => absurd cc (by decide)) (fun cc => ?_)
  refine hx_aload_n C dX0_init_80 rfl (lv_at hl 1 rfl) ?_
  obtain ⟨g61, h⟩ := hx_gd h
  obtain ⟨q62, e63, h⟩ := hx_bind h
  refine hx_getr C (ci := 0) (j := 2) g61 uX0_init_0 (by decide) rfl (by decide) rfl (by decide +kernel) rfl dX0_init_81 e63 ?_
  refine hx_iload_n C dX0_init_84 rfl (lv_at hl 0 rfl) ?_
  obtain ⟨g64, h⟩ := hx_gd h
  obtain ⟨L65, X65, eL65, eX65, h⟩ := hx_lets h
  refine hx_new C hrs eL65 eX65 uX0_init_1 tyX1 tyX1_ok (by decide +kernel) (by decide +kernel) (by decide +kernel) (by decide) rfl hf0_1 (Nat.le_of_ble_eq_true rfl) (Nat.le_of_ble_eq_true rfl) dX0_init_85 (fun ad65 hag65 C => ?_)
  rw [← hag65 this g61.1] at hl
  rw [← hag65 q62 g64]
  have had : ∀ k, k < L.1 → ad65 k = ad0 k := fun k hk => (hag65 k (Nat.lt_of_lt_of_le hk hle)).trans (had k hk)
  have hrs := hRS.new hrs eL65 eX65
  have hle : L.1 ≤ L65.1 := Nat.le_trans hle (by rw [eL65]; exact Nat.le_succ _)
  refine hx_dup C dX0_init_88 rfl ?_
  obtain ⟨r66, e67, h⟩ := hx_bind h
  refine hx_init0N (host := "TicketScales") C (c_X1_init e67) gX0_init_X1_init_n41 (by decide) rfl (by decide +kernel) (by decide +kernel) (by decide +kernel) ⟨Nat.le_of_ble_eq_true rfl, Nat.le_of_ble_eq_true rfl⟩ rfl rfl rfl ⟨Nat.le_of_ble_eq_true rfl, Nat.le_of_ble_eq_true rfl⟩ hl.1 (Nat.le_of_ble_eq_true rfl) dX0_init_89 ?_
  obtain ⟨g68, h⟩ := hx_gd h
  obtain ⟨g69, h⟩ := hx_gd h
  obtain ⟨g70, h⟩ := hx_gd h
  refine hx_aast (t0 := 4) (n := 1) C g68 (by decide) rfl g69 (by decide) rfl (hin_lit (i := 1) (by decide) (by decide) g70) (by decide) dX0_init_92 ?_
  have hrs := hRS.smr (a := q62) (j := 1) hrs g69.1
  refine hx_iinc (v := 2) (lv' := [(1, .int 2), (0, .ref (ad65 this))]) C dX0_init_93 hl (k := 0) rfl (by decide) (by decide) rfl (fun ls hl => ?_)
  refine hx_goto (tgt := 74) C dX0_init_96 (by decide) ?_
  refine hx_iload_n C dX0_init_74 rfl (lv_at hl 0 rfl) ?_
  refine hx_bipush (v := 6) C dX0_init_75 (by decide) ?_
  refine hx_icmp_ge (tgt := 99) C dX0_init_77 (by decide) (fun cc => absurd cc (by decide)) (fun cc => ?_)
  refine hx_aload_n C dX0_init_80 rfl (lv_at hl 1 rfl) ?_
  obtain ⟨g71, h⟩ := hx_gd h
  obtain ⟨q72, e73, h⟩ := hx_bind h
  refine hx_getr C (ci := 0) (j := 2) g71 uX0_init_0 (by decide) rfl (by decide) rfl (by decide +kernel) rfl dX0_init_81 e73 ?_
  refine hx_iload_n C dX0_init_84 rfl (lv_at hl 0 rfl) ?_
  obtain ⟨g74, h⟩ := hx_gd h
  obtain ⟨L75, X75, eL75, eX75, h⟩ := hx_lets h
  refine hx_new C hrs eL75 eX75 uX0_init_1 tyX1 tyX1_ok (by decide +kernel) (by decide +kernel) (by decide +kernel) (by decide) rfl hf0_1 (Nat.le_of_ble_eq_true rfl) (Nat.le_of_ble_eq_true rfl) dX0_init_85 (fun ad75 hag75 C => ?_)
  rw [← hag75 this g71.1] at hl
  rw [← hag75 q72 g74]
  have had : ∀ k, k < L.1 → ad75 k = ad0 k := fun k hk => (hag75 k (Nat.lt_of_lt_of_le hk hle)).trans (had k hk)
  have hrs := hRS.new hrs eL75 eX75
  have hle : L.1 ≤ L75.1 := Nat.le_trans hle (by rw [eL75]; exact Nat.le_succ _)
  refine hx_dup C dX0_init_88 rfl ?_
  obtain ⟨r76, e77, h⟩ := hx_bind h
  refine hx_init0N (host := "TicketScales") C (c_X1_init e77) gX0_init_X1_init_n41 (by decide) rfl (by decide +kernel) (by decide +kernel) (by decide +kernel) ⟨Nat.le_of_ble_eq_true rfl, Nat.le_of_ble_eq_true rfl⟩ rfl rfl rfl ⟨Nat.le_of_ble_eq_true rfl, Nat.le_of_ble_eq_true rfl⟩ hl.1 (Nat.le_of_ble_eq_true rfl) dX0_init_89 ?_
  obtain ⟨g78, h⟩ := hx_gd h
  obtain ⟨g79, h⟩ := hx_gd h
  obtain ⟨g80, h⟩ := hx_gd h
  refine hx_aast (t0 := 4) (n := 2) C g78 (by decide) rfl g79 (by decide) rfl (hin_lit (i := 2) (by decide) (by decide) g80) (by decide) dX0_init_92 ?_
  have hrs := hRS.smr (a := q72) (j := 2) hrs g79.1
  refine hx_iinc (v := 3) (lv' := [(1, .int 3), (0, .ref (ad75 this))]) C dX0_init_93 hl (k := 0) rfl (by decide) (by decide) rfl (fun ls hl => ?_)
  refine hx_goto (tgt := 74) C dX0_init_96 (by decide) ?_
  refine hx_iload_n C dX0_init_74 rfl (lv_at hl 0 rfl) ?_
  refine hx_bipush (v := 6) C dX0_init_75 (by decide) ?_
  refine hx_icmp_ge (tgt := 99) C dX0_init_77 (by decide) (fun cc => absurd cc (by decide)) (fun cc => ?_)
  refine hx_aload_n C dX0_init_80 rfl (lv_at hl 1 rfl) ?_
  obtain ⟨g81, h⟩ := hx_gd h
  obtain ⟨q82, e83, h⟩ := hx_bind h
  refine hx_getr C (ci := 0) (j := 2) g81 uX0_init_0 (by decide) rfl (by decide) rfl (by decide +kernel) rfl dX0_init_81 e83 ?_
  refine hx_iload_n C dX0_init_84 rfl (lv_at hl 0 rfl) ?_
  obtain ⟨g84, h⟩ := hx_gd h
  obtain ⟨L85, X85, eL85, eX85, h⟩ := hx_lets h
  refine hx_new C hrs eL85 eX85 uX0_init_1 tyX1 tyX1_ok (by decide +kernel) (by decide +kernel) (by decide +kernel) (by decide) rfl hf0_1 (Nat.le_of_ble_eq_true rfl) (Nat.le_of_ble_eq_true rfl) dX0_init_85 (fun ad85 hag85 C => ?_)
  rw [← hag85 this g81.1] at hl
  rw [← hag85 q82 g84]
  have had : ∀ k, k < L.1 → ad85 k = ad0 k := fun k hk => (hag85 k (Nat.lt_of_lt_of_le hk hle)).trans (had k hk)
  have hrs := hRS.new hrs eL85 eX85
  have hle : L.1 ≤ L85.1 := Nat.le_trans hle (by rw [eL85]; exact Nat.le_succ _)
  refine hx_dup C dX0_init_88 rfl ?_
  obtain ⟨r86, e87, h⟩ := hx_bind h
  refine hx_init0N (host := "TicketScales") C (c_X1_init e87) gX0_init_X1_init_n41 (by decide) rfl (by decide +kernel) (by decide +kernel) (by decide +kernel) ⟨Nat.le_of_ble_eq_true rfl, Nat.le_of_ble_eq_true rfl⟩ rfl rfl rfl ⟨Nat.le_of_ble_eq_true rfl, Nat.le_of_ble_eq_true rfl⟩ hl.1 (Nat.le_of_ble_eq_true rfl) dX0_init_89 ?_
  obtain ⟨g88, h⟩ := hx_gd h
  obtain ⟨g89, h⟩ := hx_gd h
  obtain ⟨g90, h⟩ := hx_gd h
  refine hx_aast (t0 := 4) (n := 3) C g88 (by decide) rfl g89 (by decide) rfl (hin_lit (i := 3) (by decide) (by decide) g90) (by decide) dX0_init_92 ?_
  have hrs := hRS.smr (a := q82) (j := 3) hrs g89.1
  refine hx_iinc (v := 4) (lv' := [(1, .int 4), (0, .ref (ad85 this))]) C dX0_init_93 hl (k := 0) rfl (by decide) (by decide) rfl (fun ls hl => ?_)
  refine hx_goto (tgt := 74) C dX0_init_96 (by decide) ?_
  refine hx_iload_n C dX0_init_74 rfl (lv_at hl 0 rfl) ?_
  refine hx_bipush (v := 6) C dX0_init_75 (by decide) ?_
  refine hx_icmp_ge (tgt := 99) C dX0_init_77 (by decide) (fun cc => absurd cc (by decide)) (fun cc => ?_)
  refine hx_aload_n C dX0_init_80 rfl (lv_at hl 1 rfl) ?_
  obtain ⟨g91, h⟩ := hx_gd h
  obtain ⟨q92, e93, h⟩ := hx_bind h
  refine hx_getr C (ci := 0) (j := 2) g91 uX0_init_0 (by decide) rfl (by decide) rfl (by decide +kernel) rfl dX0_init_81 e93 ?_
  refine hx_iload_n C dX0_init_84 rfl (lv_at hl 0 rfl) ?_
  obtain ⟨g94, h⟩ := hx_gd h
  obtain ⟨L95, X95, eL95, eX95, h⟩ := hx_lets h
  refine hx_new C hrs eL95 eX95 uX0_init_1 tyX1 tyX1_ok (by decide +kernel) (by decide +kernel) (by decide +kernel) (by decide) rfl hf0_1 (Nat.le_of_ble_eq_true rfl) (Nat.le_of_ble_eq_true rfl) dX0_init_85 (fun ad95 hag95 C => ?_)
  rw [← hag95 this g91.1] at hl
  rw [← hag95 q92 g94]
  have had : ∀ k, k < L.1 → ad95 k = ad0 k := fun k hk => (hag95 k (Nat.lt_of_lt_of_le hk hle)).trans (had k hk)
  have hrs := hRS.new hrs eL95 eX95
  have hle : L.1 ≤ L95.1 := Nat.le_trans hle (by rw [eL95]; exact Nat.le_succ _)
  refine hx_dup C dX0_init_88 rfl ?_
  obtain ⟨r96, e97, h⟩ := hx_bind h
  refine hx_init0N (host := "TicketScales") C (c_X1_init e97) gX0_init_X1_init_n41 (by decide) rfl (by decide +kernel) (by decide +kernel) (by decide +kernel) ⟨Nat.le_of_ble_eq_true rfl, Nat.le_of_ble_eq_true rfl⟩ rfl rfl rfl ⟨Nat.le_of_ble_eq_true rfl, Nat.le_of_ble_eq_true rfl⟩ hl.1 (Nat.le_of_ble_eq_true rfl) dX0_init_89 ?_
  obtain ⟨g98, h⟩ := hx_gd h
  obtain ⟨g99, h⟩ := hx_gd h
  obtain ⟨g100, h⟩ := hx_gd h
  refine hx_aast (t0 := 4) (n := 4) C g98 (by decide) rfl g99 (by decide) rfl (hin_lit (i := 4) (by decide) (by decide) g100) (by decide) dX0_init_92 ?_
  have hrs := hRS.smr (a := q92) (j := 4) hrs g99.1
  refine hx_iinc (v := 5) (lv' := [(1, .int 5), (0, .ref (ad95 this))]) C dX0_init_93 hl (k := 0) rfl (by decide) (by decide) rfl (fun ls hl => ?_)
  refine hx_goto (tgt := 74) C dX0_init_96 (by decide) ?_
  refine hx_iload_n C dX0_init_74 rfl (lv_at hl 0 rfl) ?_
  refine hx_bipush (v := 6) C dX0_init_75 (by decide) ?_
  refine hx_icmp_ge (tgt := 99) C dX0_init_77 (by decide) (fun cc => absurd cc (by decide)) (fun cc => ?_)
  refine hx_aload_n C dX0_init_80 rfl (lv_at hl 1 rfl) ?_
  obtain ⟨g101, h⟩ := hx_gd h
  obtain ⟨q102, e103, h⟩ := hx_bind h
  refine hx_getr C (ci := 0) (j := 2) g101 uX0_init_0 (by decide) rfl (by decide) rfl (by decide +kernel) rfl dX0_init_81 e103 ?_
  refine hx_iload_n C dX0_init_84 rfl (lv_at hl 0 rfl) ?_
  obtain ⟨g104, h⟩ := hx_gd h
  obtain ⟨L105, X105, eL105, eX105, h⟩ := hx_lets h
  refine hx_new C hrs eL105 eX105 uX0_init_1 tyX1 tyX1_ok (by decide +kernel) (by decide +kernel) (by decide +kernel) (by decide) rfl hf0_1 (Nat.le_of_ble_eq_true rfl) (Nat.le_of_ble_eq_true rfl) dX0_init_85 (fun ad105 hag105 C => ?_)
  rw [← hag105 this g101.1] at hl
  rw [← hag105 q102 g104]
  have had : ∀ k, k < L.1 → ad105 k = ad0 k := fun k hk => (hag105 k (Nat.lt_of_lt_of_le hk hle)).trans (had k hk)
  have hrs := hRS.new hrs eL105 eX105
  have hle : L.1 ≤ L105.1 := Nat.le_trans hle (by rw [eL105]; exact Nat.le_succ _)
  refine hx_dup C dX0_init_88 rfl ?_
  obtain ⟨r106, e107, h⟩ := hx_bind h
  refine hx_init0N (host := "TicketScales") C (c_X1_init e107) gX0_init_X1_init_n41 (by decide) rfl (by decide +kernel) (by decide +kernel) (by decide +kernel) ⟨Nat.le_of_ble_eq_true rfl, Nat.le_of_ble_eq_true rfl⟩ rfl rfl rfl ⟨Nat.le_of_ble_eq_true rfl, Nat.le_of_ble_eq_true rfl⟩ hl.1 (Nat.le_of_ble_eq_true rfl) dX0_init_89 ?_
  obtain ⟨g108, h⟩ := hx_gd h
  obtain ⟨g109, h⟩ := hx_gd h
  obtain ⟨g110, h⟩ := hx_gd h
  refine hx_aast (t0 := 4) (n := 5) C g108 (by decide) rfl g109 (by decide) rfl (hin_lit (i := 5) (by decide) (by decide) g110) (by decide) dX0_init_92 ?_
  have hrs := hRS.smr (a := q102) (j := 5) hrs g109.1
  refine hx_iinc (v := 6) (lv' := [(1, .int 6), (0, .ref (ad105 this))]) C dX0_init_93 hl (k := 0) rfl (by decide) (by decide) rfl (fun ls hl => ?_)
  refine hx_goto (tgt := 74) C dX0_init_96 (by decide) ?_
  refine hx_iload_n C dX0_init_74 rfl (lv_at hl 0 rfl) ?_
  refine hx_bipush (v := 6) C dX0_init_75 (by decide) ?_
  refine hx_icmp_ge (tgt := 99) C dX0_init_77 (by decide) (fun cc => ?_) (fun cc => absurd cc (by decide))
  refine hx_iconst (v := 0) C dX0_init_99 (by decide) ?_
  refine hx_istore_n (lv' := [(1, .int 0), (0, .ref (ad105 this))]) C dX0_init_100 rfl hl (by decide) rfl (fun ls hl => ?_)
  refine hx_iload_n C dX0_init_101 rfl (lv_at hl 0 rfl) ?_
  refine hx_bipush (v := 6) C dX0_init_102 (by decide) ?_
  refine hx_icmp_ge (tgt := 126) C dX0_init_104 (by decide) (fun cc => absurd cc (by decide)) (fun cc => ?_)
  refine hx_aload_n C dX0_init_107 rfl (lv_at hl 1 rfl) ?_
  obtain ⟨g111, h⟩ := hx_gd h
  obtain ⟨q112, e113, h⟩ := hx_bind h
  refine hx_getr C (ci := 0) (j := 3) g111 uX0_init_0 (by decide) rfl (by decide) rfl (by decide +kernel) rfl dX0_init_108 e113 ?_
  refine hx_iload_n C dX0_init_111 rfl (lv_at hl 0 rfl) ?_
  obtain ⟨g114, h⟩ := hx_gd h
  obtain ⟨L115, X115, eL115, eX115, h⟩ := hx_lets h
  refine hx_new C hrs eL115 eX115 uX0_init_5 tyX5 tyX5_ok (by decide +kernel) (by decide +kernel) (by decide +kernel) (by decide) rfl hf0_5 (Nat.le_of_ble_eq_true rfl) (Nat.le_of_ble_eq_true rfl) dX0_init_112 (fun ad115 hag115 C => ?_)
  rw [← hag115 this g111.1] at hl
  rw [← hag115 q112 g114]
  have had : ∀ k, k < L.1 → ad115 k = ad0 k := fun k hk => (hag115 k (Nat.lt_of_lt_of_le hk hle)).trans (had k hk)
  have hrs := hRS.new hrs eL115 eX115
  have hle : L.1 ≤ L115.1 := Nat.le_trans hle (by rw [eL115]; exact Nat.le_succ _)
  refine hx_dup C dX0_init_115 rfl ?_
  obtain ⟨r116, e117, h⟩ := hx_bind h
  refine hx_init0N (host := "TicketScales") C (c_X5_init e117) gX0_init_X5_init_n42 (by decide) rfl (by decide +kernel) (by decide +kernel) (by decide +kernel) ⟨Nat.le_of_ble_eq_true rfl, Nat.le_of_ble_eq_true rfl⟩ rfl rfl rfl ⟨Nat.le_of_ble_eq_true rfl, Nat.le_of_ble_eq_true rfl⟩ hl.1 (Nat.le_of_ble_eq_true rfl) dX0_init_116 ?_
  obtain ⟨g118, h⟩ := hx_gd h
  obtain ⟨g119, h⟩ := hx_gd h
  obtain ⟨g120, h⟩ := hx_gd h
  refine hx_aast (t0 := 6) (n := 0) C g118 (by decide) rfl g119 (by decide) rfl (hin_lit (i := 0) (by decide) (by decide) g120) (by decide) dX0_init_119 ?_
  have hrs := hRS.smr (a := q112) (j := 0) hrs g119.1
  refine hx_iinc (v := 1) (lv' := [(1, .int 1), (0, .ref (ad115 this))]) C dX0_init_120 hl (k := 0) rfl (by decide) (by decide) rfl (fun ls hl => ?_)
  refine hx_goto (tgt := 101) C dX0_init_123 (by decide) ?_
  refine hx_iload_n C dX0_init_101 rfl (lv_at hl 0 rfl) ?_
  refine hx_bipush (v := 6) C dX0_init_102 (by decide) ?_
  refine hx_icmp_ge (tgt := 126) C dX0_init_104 (by decide) (fun cc => absurd cc (by decide)) (fun cc => ?_)
  refine hx_aload_n C dX0_init_107 rfl (lv_at hl 1 rfl) ?_
  obtain ⟨g121, h⟩ := hx_gd h
  obtain ⟨q122, e123, h⟩ := hx_bind h
  refine hx_getr C (ci := 0) (j := 3) g121 uX0_init_0 (by decide) rfl (by decide) rfl (by decide +kernel) rfl dX0_init_108 e123 ?_
  refine hx_iload_n C dX0_init_111 rfl (lv_at hl 0 rfl) ?_
  obtain ⟨g124, h⟩ := hx_gd h
  obtain ⟨L125, X125, eL125, eX125, h⟩ := hx_lets h
  refine hx_new C hrs eL125 eX125 uX0_init_5 tyX5 tyX5_ok (by decide +kernel) (by decide +kernel) (by decide +kernel) (by decide) rfl hf0_5 (Nat.le_of_ble_eq_true rfl) (Nat.le_of_ble_eq_true rfl) dX0_init_112 (fun ad125 hag125 C => ?_)
  rw [← hag125 this g121.1] at hl
  rw [← hag125 q122 g124]
  have had : ∀ k, k < L.1 → ad125 k = ad0 k := fun k hk => (hag125 k (Nat.lt_of_lt_of_le hk hle)).trans (had k hk)
  have hrs := hRS.new hrs eL125 eX125
  have hle : L.1 ≤ L125.1 := Nat.le_trans hle (by rw [eL125]; exact Nat.le_succ _)
  refine hx_dup C dX0_init_115 rfl ?_
  obtain ⟨r126, e127, h⟩ := hx_bind h
  refine hx_init0N (host := "TicketScales") C (c_X5_init e127) gX0_init_X5_init_n42 (by decide) rfl (by decide +kernel) (by decide +kernel) (by decide +kernel) ⟨Nat.le_of_ble_eq_true rfl, Nat.le_of_ble_eq_true rfl⟩ rfl rfl rfl ⟨Nat.le_of_ble_eq_true rfl, Nat.le_of_ble_eq_true rfl⟩ hl.1 (Nat.le_of_ble_eq_true rfl) dX0_init_116 ?_
  obtain ⟨g128, h⟩ := hx_gd h
  obtain ⟨g129, h⟩ := hx_gd h
  obtain ⟨g130, h⟩ := hx_gd h
  refine hx_aast (t0 := 6) (n := 1) C g128 (by decide) rfl g129 (by decide) rfl (hin_lit (i := 1) (by decide) (by decide) g130) (by decide) dX0_init_119 ?_
  have hrs := hRS.smr (a := q122) (j := 1) hrs g129.1
  refine hx_iinc (v := 2) (lv' := [(1, .int 2), (0, .ref (ad125 this))]) C dX0_init_120 hl (k := 0) rfl (by decide) (by decide) rfl (fun ls hl => ?_)
  refine hx_goto (tgt := 101) C dX0_init_123 (by decide) ?_
  refine hx_iload_n C dX0_init_101 rfl (lv_at hl 0 rfl) ?_
  refine hx_bipush (v := 6) C dX0_init_102 (by decide) ?_
  refine hx_icmp_ge (tgt := 126) C dX0_init_104 (by decide) (fun cc => absurd cc (by decide)) (fun cc => ?_)
  refine hx_aload_n C dX0_init_107 rfl (lv_at hl 1 rfl) ?_
  obtain ⟨g131, h⟩ := hx_gd h
  obtain ⟨q132, e133, h⟩ := hx_bind h
  refine hx_getr C (ci := 0) (j := 3) g131 uX0_init_0 (by decide) rfl (by decide) rfl (by decide +kernel) rfl dX0_init_108 e133 ?_
  refine hx_iload_n C dX0_init_111 rfl (lv_at hl 0 rfl) ?_
  obtain ⟨g134, h⟩ := hx_gd h
  obtain ⟨L135, X135, eL135, eX135, h⟩ := hx_lets h
  refine hx_new C hrs eL135 eX135 uX0_init_5 tyX5 tyX5_ok (by decide +kernel) (by decide +kernel) (by decide +kernel) (by decide) rfl hf0_5 (Nat.le_of_ble_eq_true rfl) (Nat.le_of_ble_eq_true rfl) dX0_init_112 (fun ad135 hag135 C => ?_)
  rw [← hag135 this g131.1] at hl
  rw [← hag135 q132 g134]
  have had : ∀ k, k < L.1 → ad135 k = ad0 k := fun k hk => (hag135 k (Nat.lt_of_lt_of_le hk hle)).trans (had k hk)
  have hrs := hRS.new hrs eL135 eX135
  have hle : L.1 ≤ L135.1 := Nat.le_trans hle (by rw [eL135]; exact Nat.le_succ _)
  refine hx_dup C dX0_init_115 rfl ?_
  obtain ⟨r136, e137, h⟩ := hx_bind h
  refine hx_init0N (host := "TicketScales") C (c_X5_init e137) gX0_init_X5_init_n42 (by decide) rfl (by decide +kernel) (by decide +kernel) (by decide +kernel) ⟨Nat.le_of_ble_eq_true rfl, Nat.le_of_ble_eq_true rfl⟩ rfl rfl rfl ⟨Nat.le_of_ble_eq_true rfl, Nat.le_of_ble_eq_true rfl⟩ hl.1 (Nat.le_of_ble_eq_true rfl) dX0_init_116 ?_
  obtain ⟨g138, h⟩ := hx_gd h
  obtain ⟨g139, h⟩ := hx_gd h
  obtain ⟨g140, h⟩ := hx_gd h
  refine hx_aast (t0 := 6) (n := 2) C g138 (by decide) rfl g139 (by decide) rfl (hin_lit (i := 2) (by decide) (by decide) g140) (by decide) dX0_init_119 ?_
  have hrs := hRS.smr (a := q132) (j := 2) hrs g139.1
  refine hx_iinc (v := 3) (lv' := [(1, .int 3), (0, .ref (ad135 this))]) C dX0_init_120 hl (k := 0) rfl (by decide) (by decide) rfl (fun ls hl => ?_)
  refine hx_goto (tgt := 101) C dX0_init_123 (by decide) ?_
  refine hx_iload_n C dX0_init_101 rfl (lv_at hl 0 rfl) ?_
  refine hx_bipush (v := 6) C dX0_init_102 (by decide) ?_
  refine hx_icmp_ge (tgt := 126) C dX0_init_104 (by decide) (fun cc => absurd cc (by decide)) (fun cc => ?_)
  refine hx_aload_n C dX0_init_107 rfl (lv_at hl 1 rfl) ?_
  obtain ⟨g141, h⟩ := hx_gd h
  obtain ⟨q142, e143, h⟩ := hx_bind h
  refine hx_getr C (ci := 0) (j := 3) g141 uX0_init_0 (by decide) rfl (by decide) rfl (by decide +kernel) rfl dX0_init_108 e143 ?_
  refine hx_iload_n C dX0_init_111 rfl (lv_at hl 0 rfl) ?_
  obtain ⟨g144, h⟩ := hx_gd h
  obtain ⟨L145, X145, eL145, eX145, h⟩ := hx_lets h
  refine hx_new C hrs eL145 eX145 uX0_init_5 tyX5 tyX5_ok (by decide +kernel) (by decide +kernel) (by decide +kernel) (by decide) rfl hf0_5 (Nat.le_of_ble_eq_true rfl) (Nat.le_of_ble_eq_true rfl) dX0_init_112 (fun ad145 hag145 C => ?_)
  rw [← hag145 this g141.1] at hl
  rw [← hag145 q142 g144]
  have had : ∀ k, k < L.1 → ad145 k = ad0 k := fun k hk => (hag145 k (Nat.lt_of_lt_of_le hk hle)).trans (had k hk)
  have hrs := hRS.new hrs eL145 eX145
  have hle : L.1 ≤ L145.1 := Nat.le_trans hle (by rw [eL145]; exact Nat.le_succ _)
  refine hx_dup C dX0_init_115 rfl ?_
  obtain ⟨r146, e147, h⟩ := hx_bind h
  refine hx_init0N (host := "TicketScales") C (c_X5_init e147) gX0_init_X5_init_n42 (by decide) rfl (by decide +kernel) (by decide +kernel) (by decide +kernel) ⟨Nat.le_of_ble_eq_true rfl, Nat.le_of_ble_eq_true rfl⟩ rfl rfl rfl ⟨Nat.le_of_ble_eq_true rfl, Nat.le_of_ble_eq_true rfl⟩ hl.1 (Nat.le_of_ble_eq_true rfl) dX0_init_116 ?_
  obtain ⟨g148, h⟩ := hx_gd h
  obtain ⟨g149, h⟩ := hx_gd h
  obtain ⟨g150, h⟩ := hx_gd h
  refine hx_aast (t0 := 6) (n := 3) C g148 (by decide) rfl g149 (by decide) rfl (hin_lit (i := 3) (by decide) (by decide) g150) (by decide) dX0_init_119 ?_
  have hrs := hRS.smr (a := q142) (j := 3) hrs g149.1
  refine hx_iinc (v := 4) (lv' := [(1, .int 4), (0, .ref (ad145 this))]) C dX0_init_120 hl (k := 0) rfl (by decide) (by decide) rfl (fun ls hl => ?_)
  refine hx_goto (tgt := 101) C dX0_init_123 (by decide) ?_
  refine hx_iload_n C dX0_init_101 rfl (lv_at hl 0 rfl) ?_
  refine hx_bipush (v := 6) C dX0_init_102 (by decide) ?_
  refine hx_icmp_ge (tgt := 126) C dX0_init_104 (by decide) (fun cc => absurd cc (by decide)) (fun cc => ?_)
  refine hx_aload_n C dX0_init_107 rfl (lv_at hl 1 rfl) ?_
  obtain ⟨g151, h⟩ := hx_gd h
  obtain ⟨q152, e153, h⟩ := hx_bind h
  refine hx_getr C (ci := 0) (j := 3) g151 uX0_init_0 (by decide) rfl (by decide) rfl (by decide +kernel) rfl dX0_init_108 e153 ?_
  refine hx_iload_n C dX0_init_111 rfl (lv_at hl 0 rfl) ?_
  obtain ⟨g154, h⟩ := hx_gd h
  obtain ⟨L155, X155, eL155, eX155, h⟩ := hx_lets h
  refine hx_new C hrs eL155 eX155 uX0_init_5 tyX5 tyX5_ok (by decide +kernel) (by decide +kernel) (by decide +kernel) (by decide) rfl hf0_5 (Nat.le_of_ble_eq_true rfl) (Nat.le_of_ble_eq_true rfl) dX0_init_112 (fun ad155 hag155 C => ?_)
  rw [← hag155 this g151.1] at hl
  rw [← hag155 q152 g154]
  have had : ∀ k, k < L.1 → ad155 k = ad0 k := fun k hk => (hag155 k (Nat.lt_of_lt_of_le hk hle)).trans (had k hk)
  have hrs := hRS.new hrs eL155 eX155
  have hle : L.1 ≤ L155.1 := Nat.le_trans hle (by rw [eL155]; exact Nat.le_succ _)
  refine hx_dup C dX0_init_115 rfl ?_
  obtain ⟨r156, e157, h⟩ := hx_bind h
  refine hx_init0N (host := "TicketScales") C (c_X5_init e157) gX0_init_X5_init_n42 (by decide) rfl (by decide +kernel) (by decide +kernel) (by decide +kernel) ⟨Nat.le_of_ble_eq_true rfl, Nat.le_of_ble_eq_true rfl⟩ rfl rfl rfl ⟨Nat.le_of_ble_eq_true rfl, Nat.le_of_ble_eq_true rfl⟩ hl.1 (Nat.le_of_ble_eq_true rfl) dX0_init_116 ?_
  obtain ⟨g158, h⟩ := hx_gd h
  obtain ⟨g159, h⟩ := hx_gd h
  obtain ⟨g160, h⟩ := hx_gd h
  refine hx_aast (t0 := 6) (n := 4) C g158 (by decide) rfl g159 (by decide) rfl (hin_lit (i := 4) (by decide) (by decide) g160) (by decide) dX0_init_119 ?_
  have hrs := hRS.smr (a := q152) (j := 4) hrs g159.1
  refine hx_iinc (v := 5) (lv' := [(1, .int 5), (0, .ref (ad155 this))]) C dX0_init_120 hl (k := 0) rfl (by decide) (by decide) rfl (fun ls hl => ?_)
  refine hx_goto (tgt := 101) C dX0_init_123 (by decide) ?_
  refine hx_iload_n C dX0_init_101 rfl (lv_at hl 0 rfl) ?_
  refine hx_bipush (v := 6) C dX0_init_102 (by decide) ?_
  refine hx_icmp_ge (tgt := 126) C dX0_init_104 (by decide) (fun cc => absurd cc (by decide)) (fun cc => ?_)
  refine hx_aload_n C dX0_init_107 rfl (lv_at hl 1 rfl) ?_
  obtain ⟨g161, h⟩ := hx_gd h
  obtain ⟨q162, e163, h⟩ := hx_bind h
  refine hx_getr C (ci := 0) (j := 3) g161 uX0_init_0 (by decide) rfl (by decide) rfl (by decide +kernel) rfl dX0_init_108 e163 ?_
  refine hx_iload_n C dX0_init_111 rfl (lv_at hl 0 rfl) ?_
  obtain ⟨g164, h⟩ := hx_gd h
  obtain ⟨L165, X165, eL165, eX165, h⟩ := hx_lets h
  refine hx_new C hrs eL165 eX165 uX0_init_5 tyX5 tyX5_ok (by decide +kernel) (by decide +kernel) (by decide +kernel) (by decide) rfl hf0_5 (Nat.le_of_ble_eq_true rfl) (Nat.le_of_ble_eq_true rfl) dX0_init_112 (fun ad165 hag165 C => ?_)
  rw [← hag165 this g161.1] at hl
  rw [← hag165 q162 g164]
  have had : ∀ k, k < L.1 → ad165 k = ad0 k := fun k hk => (hag165 k (Nat.lt_of_lt_of_le hk hle)).trans (had k hk)
  have hrs := hRS.new hrs eL165 eX165
  have hle : L.1 ≤ L165.1 := Nat.le_trans hle (by rw [eL165]; exact Nat.le_succ _)
  refine hx_dup C dX0_init_115 rfl ?_
  obtain ⟨r166, e167, h⟩ := hx_bind h
  refine hx_init0N (host := "TicketScales") C (c_X5_init e167) gX0_init_X5_init_n42 (by decide) rfl (by decide +kernel) (by decide +kernel) (by decide +kernel) ⟨Nat.le_of_ble_eq_true rfl, Nat.le_of_ble_eq_true rfl⟩ rfl rfl rfl ⟨Nat.le_of_ble_eq_true rfl, Nat.le_of_ble_eq_true rfl⟩ hl.1 (Nat.le_of_ble_eq_true rfl) dX0_init_116 ?_
  obtain ⟨g168, h⟩ := hx_gd h
  obtain ⟨g169, h⟩ := hx_gd h
  obtain ⟨g170, h⟩ := hx_gd h
  refine hx_aast (t0 := 6) (n := 5) C g168 (by decide) rfl g169 (by decide) rfl (hin_lit (i := 5) (by decide) (by decide) g170) (by decide) dX0_init_119 ?_
  have hrs := hRS.smr (a := q162) (j := 5) hrs g169.1
  refine hx_iinc (v := 6) (lv' := [(1, .int 6), (0, .ref (ad165 this))]) C dX0_init_120 hl (k := 0) rfl (by decide) (by decide) rfl (fun ls hl => ?_)
  refine hx_goto (tgt := 101) C dX0_init_123 (by decide) ?_
  refine hx_iload_n C dX0_init_101 rfl (lv_at hl 0 rfl) ?_
  refine hx_bipush (v := 6) C dX0_init_102 (by decide) ?_
  refine hx_icmp_ge (tgt := 126) C dX0_init_104 (by decide) (fun cc => ?_) (fun cc => absurd cc (by decide))
  obtain ⟨rfl, rfl⟩ := hx_some2 h
  exact hx_vretA C hr had dX0_init_126
theorem uX8_init_0 : ∀ w ∈ u_ws RX0 TX0 9, w ∈ wsX8_init := by decide +kernel
theorem uX8_init_8 : ∀ w ∈ u_ws RX8 TX8 3, w ∈ wsX8_init := by decide +kernel
set_option maxRecDepth 100000 in
def f_X8_init (L : hL) (X : hX) (this : Nat) : Option (hL × hX) :=
  if this < L.1 then
  hx_let (newL L 0 0) (newX X L.1) fun L2 X2 =>
  (f_X0_init L2 X2 L.1).bind fun q3 =>
  if tk q3.1 this 8 then
  hx_let (newL q3.1 14 2) (newX (smr q3.2 this 0 (some L.1)) q3.1.1) fun L6 X6 =>
  if tk L6 this 8 then
  hx_let (newL L6 13 2) (newX (smr X6 this 1 (some q3.1.1)) L6.1) fun L8 X8 =>
  if tk L8 this 8 then
  ((smr X8 this 2 (some L6.1)).2 this 1).bind fun q10 =>
  if q10 < L8.1 then
  hx_let (newL L8 0 0) (newX (smr X8 this 2 (some L6.1)) L8.1) fun L13 X13 =>
  (f_X0_init L13 X13 L8.1).bind fun q14 =>
  if tk q14.1 q10 14 then
  if tk q14.1 L8.1 0 then
  if 0 < q14.1.2.2 q10 then
  if tk q14.1 this 8 then
  ((smr q14.2 q10 0 (some L8.1)).2 this 1).bind fun q20 =>
  if q20 < q14.1.1 then
  hx_let (newL q14.1 0 0) (newX (smr q14.2 q10 0 (some L8.1)) q14.1.1) fun L23 X23 =>
  (f_X0_init L23 X23 q14.1.1).bind fun q24 =>
  if tk q24.1 q20 14 then
  if tk q24.1 q14.1.1 0 then
  if 1 < q24.1.2.2 q20 then
  some (q24.1, smr q24.2 q20 1 (some q14.1.1))
  else none
  else none
  else none
  else none
  else none
  else none
  else none
  else none
  else none
  else none
  else none
  else none
  else none
set_option maxRecDepth 100000 in
set_option maxHeartbeats 4000000 in
theorem rs_X8_init {L : hL} {X : hX} {this : Nat} {L' : hL} {X' : hX} (h : f_X8_init L X this = some (L', X')) (hrs : hRS L X) : hRS L' X' ∧ L.1 ≤ L'.1 := by
  unfold f_X8_init at h
  have hle : L.1 ≤ L.1 := Nat.le_refl _
  obtain ⟨g1, h⟩ := hx_gd h
  obtain ⟨L2, X2, eL2, eX2, h⟩ := hx_lets h
  have hrs := hRS.new hrs eL2 eX2
  have hle : L.1 ≤ L2.1 := Nat.le_trans hle (by rw [eL2]; exact Nat.le_succ _)
  obtain ⟨q3, e4, h⟩ := hx_bind h
  have z3 := rs_X0_init (L' := q3.1) (X' := q3.2) e4 hrs
  have hrs := z3.1
  have hle : L.1 ≤ q3.1.1 := Nat.le_trans hle z3.2
  obtain ⟨g5, h⟩ := hx_gd h
  have hrs := hRS.smr (a := this) (j := 0) hrs (Nat.lt_of_lt_of_le (by rw [eL2]; exact Nat.lt_succ_self _) z3.2)
  obtain ⟨L6, X6, eL6, eX6, h⟩ := hx_lets h
  have hrs := hRS.new hrs eL6 eX6
  have hle : L.1 ≤ L6.1 := Nat.le_trans hle (by rw [eL6]; exact Nat.le_succ _)
  obtain ⟨g7, h⟩ := hx_gd h
  have hrs := hRS.smr (a := this) (j := 1) hrs (by rw [eL6]; exact Nat.lt_succ_self _)
  obtain ⟨L8, X8, eL8, eX8, h⟩ := hx_lets h
  have hrs := hRS.new hrs eL8 eX8
  have hle : L.1 ≤ L8.1 := Nat.le_trans hle (by rw [eL8]; exact Nat.le_succ _)
  obtain ⟨g9, h⟩ := hx_gd h
  have hrs := hRS.smr (a := this) (j := 2) hrs (by rw [eL8]; exact Nat.lt_succ_self _)
  obtain ⟨q10, e11, h⟩ := hx_bind h
  obtain ⟨g12, h⟩ := hx_gd h
  obtain ⟨L13, X13, eL13, eX13, h⟩ := hx_lets h
  have hrs := hRS.new hrs eL13 eX13
  have hle : L.1 ≤ L13.1 := Nat.le_trans hle (by rw [eL13]; exact Nat.le_succ _)
  obtain ⟨q14, e15, h⟩ := hx_bind h
  have z14 := rs_X0_init (L' := q14.1) (X' := q14.2) e15 hrs
  have hrs := z14.1
  have hle : L.1 ≤ q14.1.1 := Nat.le_trans hle z14.2
  obtain ⟨g16, h⟩ := hx_gd h
  obtain ⟨g17, h⟩ := hx_gd h
  obtain ⟨g18, h⟩ := hx_gd h
  have hrs := hRS.smr (a := q10) (j := 0) hrs g17.1
  obtain ⟨g19, h⟩ := hx_gd h
  obtain ⟨q20, e21, h⟩ := hx_bind h
  obtain ⟨g22, h⟩ := hx_gd h
  obtain ⟨L23, X23, eL23, eX23, h⟩ := hx_lets h
  have hrs := hRS.new hrs eL23 eX23
  have hle : L.1 ≤ L23.1 := Nat.le_trans hle (by rw [eL23]; exact Nat.le_succ _)
  obtain ⟨q24, e25, h⟩ := hx_bind h
  have z24 := rs_X0_init (L' := q24.1) (X' := q24.2) e25 hrs
  have hrs := z24.1
  have hle : L.1 ≤ q24.1.1 := Nat.le_trans hle z24.2
  obtain ⟨g26, h⟩ := hx_gd h
  obtain ⟨g27, h⟩ := hx_gd h
  obtain ⟨g28, h⟩ := hx_gd h
  have hrs := hRS.smr (a := q20) (j := 1) hrs g27.1
  obtain ⟨rfl, rfl⟩ := hx_some2 h
  exact ⟨hrs, hle⟩
set_option maxRecDepth 100000 in
set_option maxHeartbeats 8000000 in
theorem c_X8_init {l : Launch} {dC : Nat → ClassId} {dI : Nat → Nat → Nat} {cy : Nat → ClassId} {L : hL} {X : hX} {this : Nat} {L' : hL} {X' : hX} (h : f_X8_init L X this = some (L', X')) (hrs : hRS L X) : hMetA l dC dI cy yX8_init wsX8_init ({ frames := 3, cells := 65, slots := 346, locals := 65 } : Room) this L X L' X' 65 346 := by
  unfold f_X8_init at h
  refine hx_enterA RX8 (plainFor_of_name (by decide)) rfl rfl (by decide) (fun ad0 p e s m args below meth c C hr hnm ls hl => ?_)
  have hle : L.1 ≤ L.1 := Nat.le_refl _
  have had : ∀ k, k < L.1 → ad0 k = ad0 k := fun _ _ => rfl
  refine hx_aload_n C dX8_init_0 rfl (lv_at hl 0 rfl) ?_
  refine hx_objInit C (by decide +kernel) (by decide +kernel) (by decide +kernel) hl.1 dX8_init_1 (Nat.le_of_ble_eq_true rfl) (Nat.le_of_ble_eq_true rfl) ?_
  refine hx_aload_n C dX8_init_4 rfl (lv_at hl 0 rfl) ?_
  obtain ⟨g1, h⟩ := hx_gd h
  obtain ⟨L2, X2, eL2, eX2, h⟩ := hx_lets h
  refine hx_new C hrs eL2 eX2 uX8_init_0 tyX0 tyX0_ok (by decide +kernel) (by decide +kernel) (by decide +kernel) (by decide) rfl hf0_0 (Nat.le_of_ble_eq_true rfl) (Nat.le_of_ble_eq_true rfl) dX8_init_5 (fun ad2 hag2 C => ?_)
  rw [← hag2 this g1] at hl
  rw [← hag2 this g1]
  have had : ∀ k, k < L.1 → ad2 k = ad0 k := fun k hk => (hag2 k (Nat.lt_of_lt_of_le hk hle)).trans (had k hk)
  have hrs := hRS.new hrs eL2 eX2
  have hle : L.1 ≤ L2.1 := Nat.le_trans hle (by rw [eL2]; exact Nat.le_succ _)
  refine hx_dup C dX8_init_8 rfl ?_
  obtain ⟨q3, e4, h⟩ := hx_bind h
  refine hx_initA (L' := q3.1) (X' := q3.2) C (c_X0_init (L' := q3.1) (X' := q3.2) e4 hrs) gX8_init_X0_init (by decide +kernel) rfl (by decide +kernel) (by decide +kernel) (by decide +kernel) ⟨Nat.le_of_ble_eq_true rfl, Nat.le_of_ble_eq_true rfl⟩ rfl rfl rfl ⟨Nat.le_of_ble_eq_true rfl, Nat.le_of_ble_eq_true rfl⟩ hl.1 (Nat.le_of_ble_eq_true rfl) dX8_init_9 (fun ad3 hag3 C => ?_)
  have z3 := rs_X0_init (L' := q3.1) (X' := q3.2) e4 hrs
  rw [← hag3 this (Nat.lt_trans g1 (by rw [eL2]; exact Nat.lt_succ_self _))] at hl
  rw [← hag3 L.1 (by rw [eL2]; exact Nat.lt_succ_self _)]
  rw [← hag3 this (Nat.lt_trans g1 (by rw [eL2]; exact Nat.lt_succ_self _))]
  have had : ∀ k, k < L.1 → ad3 k = ad0 k := fun k hk => (hag3 k (Nat.lt_of_lt_of_le hk hle)).trans (had k hk)
  have hrs := z3.1
  have hle : L.1 ≤ q3.1.1 := Nat.le_trans hle z3.2
  obtain ⟨g5, h⟩ := hx_gd h
  refine hx_putrF C (ci := 8) (j := 0) tyX8 tyX8_ok nmX8 g5 uX8_init_8 (by decide) rfl (by decide) rfl (by decide +kernel) rfl rfl hnm rfl (tyX8_ok 0 (by decide)) dX8_init_12 rfl rfl ?_
  have hrs := hRS.smr (a := this) (j := 0) hrs (Nat.lt_of_lt_of_le (by rw [eL2]; exact Nat.lt_succ_self _) z3.2)
  refine hx_aload_n C dX8_init_15 rfl (lv_at hl 0 rfl) ?_
  refine hx_iconst (v := 2) C dX8_init_16 (by decide) ?_
  obtain ⟨L6, X6, eL6, eX6, h⟩ := hx_lets h
  refine hx_newq (N := 2) (t0 := 3) C hrs eL6 eX6 (by decide) rfl (by decide) (by decide +kernel) (by decide) (by decide) (Nat.le_of_ble_eq_true rfl) (Nat.le_of_ble_eq_true rfl) (Nat.le_of_ble_eq_true rfl) dX8_init_17 (fun ad6 hag6 C => ?_)
  rw [← hag6 this g5.1] at hl
  rw [← hag6 this g5.1]
  have had : ∀ k, k < L.1 → ad6 k = ad0 k := fun k hk => (hag6 k (Nat.lt_of_lt_of_le hk hle)).trans (had k hk)
  have hrs := hRS.new hrs eL6 eX6
  have hle : L.1 ≤ L6.1 := Nat.le_trans hle (by rw [eL6]; exact Nat.le_succ _)
  obtain ⟨g7, h⟩ := hx_gd h
  refine hx_putrF C (ci := 8) (j := 1) tyX8 tyX8_ok nmX8 g7 uX8_init_8 (by decide) rfl (by decide) rfl (by decide +kernel) rfl rfl hnm rfl (tyX8_ok 1 (by decide)) dX8_init_20 rfl rfl ?_
  have hrs := hRS.smr (a := this) (j := 1) hrs (by rw [eL6]; exact Nat.lt_succ_self _)
  refine hx_aload_n C dX8_init_23 rfl (lv_at hl 0 rfl) ?_
  refine hx_iconst (v := 2) C dX8_init_24 (by decide) ?_
  obtain ⟨L8, X8, eL8, eX8, h⟩ := hx_lets h
  refine hx_newaz (N := 2) C hrs eL8 eX8 (by decide +kernel) (by decide) (by decide) (Nat.le_of_ble_eq_true rfl) (Nat.le_of_ble_eq_true rfl) (Nat.le_of_ble_eq_true rfl) dX8_init_25 (fun ad8 hag8 C => ?_)
  rw [← hag8 this g7.1] at hl
  rw [← hag8 this g7.1]
  have had : ∀ k, k < L.1 → ad8 k = ad0 k := fun k hk => (hag8 k (Nat.lt_of_lt_of_le hk hle)).trans (had k hk)
  have hrs := hRS.new hrs eL8 eX8
  have hle : L.1 ≤ L8.1 := Nat.le_trans hle (by rw [eL8]; exact Nat.le_succ _)
  obtain ⟨g9, h⟩ := hx_gd h
  refine hx_putrF C (ci := 8) (j := 2) tyX8 tyX8_ok nmX8 g9 uX8_init_8 (by decide) rfl (by decide) rfl (by decide +kernel) rfl rfl hnm rfl (tyX8_ok 2 (by decide)) dX8_init_27 rfl rfl ?_
  have hrs := hRS.smr (a := this) (j := 2) hrs (by rw [eL8]; exact Nat.lt_succ_self _)
  refine hx_iconst (v := 0) C dX8_init_30 (by decide) ?_
  refine hx_istore_n (lv' := [(1, .int 0), (0, .ref (ad8 this))]) C dX8_init_31 rfl hl (by decide) rfl (fun ls hl => ?_)
  refine hx_iload_n C dX8_init_32 rfl (lv_at hl 0 rfl) ?_
  refine hx_iconst (v := 2) C dX8_init_33 (by decide) ?_
  refine hx_icmp_ge (tgt := 56) C dX8_init_34 (by decide) (fun cc => absurd cc (by decide)) (fun cc => ?_)
  refine hx_aload_n C dX8_init_37 rfl (lv_at hl 1 rfl) ?_
  obtain ⟨q10, e11, h⟩ := hx_bind h
  refine hx_getr C (ci := 8) (j := 1) g9 uX8_init_8 (by decide) rfl (by decide) rfl (by decide +kernel) rfl dX8_init_38 e11 ?_
  refine hx_iload_n C dX8_init_41 rfl (lv_at hl 0 rfl) ?_
  obtain ⟨g12, h⟩ := hx_gd h
  obtain ⟨L13, X13, eL13, eX13, h⟩ := hx_lets h
  refine hx_new C hrs eL13 eX13 uX8_init_0 tyX0 tyX0_ok (by decide +kernel) (by decide +kernel) (by decide +kernel) (by decide) rfl hf0_0 (Nat.le_of_ble_eq_true rfl) (Nat.le_of_ble_eq_true rfl) dX8_init_42 (fun ad13 hag13 C => ?_)
  rw [← hag13 this g9.1] at hl
  rw [← hag13 q10 g12]
  have had : ∀ k, k < L.1 → ad13 k = ad0 k := fun k hk => (hag13 k (Nat.lt_of_lt_of_le hk hle)).trans (had k hk)
  have hrs := hRS.new hrs eL13 eX13
  have hle : L.1 ≤ L13.1 := Nat.le_trans hle (by rw [eL13]; exact Nat.le_succ _)
  refine hx_dup C dX8_init_45 rfl ?_
  obtain ⟨q14, e15, h⟩ := hx_bind h
  refine hx_initA (L' := q14.1) (X' := q14.2) C (c_X0_init (L' := q14.1) (X' := q14.2) e15 hrs) gX8_init_X0_init (by decide +kernel) rfl (by decide +kernel) (by decide +kernel) (by decide +kernel) ⟨Nat.le_of_ble_eq_true rfl, Nat.le_of_ble_eq_true rfl⟩ rfl rfl rfl ⟨Nat.le_of_ble_eq_true rfl, Nat.le_of_ble_eq_true rfl⟩ hl.1 (Nat.le_of_ble_eq_true rfl) dX8_init_46 (fun ad14 hag14 C => ?_)
  have z14 := rs_X0_init (L' := q14.1) (X' := q14.2) e15 hrs
  rw [← hag14 this (Nat.lt_trans g9.1 (by rw [eL13]; exact Nat.lt_succ_self _))] at hl
  rw [← hag14 L8.1 (by rw [eL13]; exact Nat.lt_succ_self _)]
  rw [← hag14 q10 (Nat.lt_trans g12 (by rw [eL13]; exact Nat.lt_succ_self _))]
  have had : ∀ k, k < L.1 → ad14 k = ad0 k := fun k hk => (hag14 k (Nat.lt_of_lt_of_le hk hle)).trans (had k hk)
  have hrs := z14.1
  have hle : L.1 ≤ q14.1.1 := Nat.le_trans hle z14.2
  obtain ⟨g16, h⟩ := hx_gd h
  obtain ⟨g17, h⟩ := hx_gd h
  obtain ⟨g18, h⟩ := hx_gd h
  refine hx_aast (t0 := 3) (n := 0) C g16 (by decide) rfl g17 (by decide) rfl (hin_lit (i := 0) (by decide) (by decide) g18) (by decide) dX8_init_49 ?_
  have hrs := hRS.smr (a := q10) (j := 0) hrs g17.1
  refine hx_iinc (v := 1) (lv' := [(1, .int 1), (0, .ref (ad14 this))]) C dX8_init_50 hl (k := 0) rfl (by decide) (by decide) rfl (fun ls hl => ?_)
  refine hx_goto (tgt := 32) C dX8_init_53 (by decide) ?_
  refine hx_iload_n C dX8_init_32 rfl (lv_at hl 0 rfl) ?_
  refine hx_iconst (v := 2) C dX8_init_33 (by decide) ?_
  refine hx_icmp_ge (tgt := 56) C dX8_init_34 (by decide) (fun cc => absurd cc (by decide)) (fun cc => ?_)
  refine hx_aload_n C dX8_init_37 rfl (lv_at hl 1 rfl) ?_
  obtain ⟨g19, h⟩ := hx_gd h
  obtain ⟨q20, e21, h⟩ := hx_bind h
  refine hx_getr C (ci := 8) (j := 1) g19 uX8_init_8 (by decide) rfl (by decide) rfl (by decide +kernel) rfl dX8_init_38 e21 ?_
  refine hx_iload_n C dX8_init_41 rfl (lv_at hl 0 rfl) ?_
  obtain ⟨g22, h⟩ := hx_gd h
  obtain ⟨L23, X23, eL23, eX23, h⟩ := hx_lets h
  refine hx_new C hrs eL23 eX23 uX8_init_0 tyX0 tyX0_ok (by decide +kernel) (by decide +kernel) (by decide +kernel) (by decide) rfl hf0_0 (Nat.le_of_ble_eq_true rfl) (Nat.le_of_ble_eq_true rfl) dX8_init_42 (fun ad23 hag23 C => ?_)
  rw [← hag23 this g19.1] at hl
  rw [← hag23 q20 g22]
  have had : ∀ k, k < L.1 → ad23 k = ad0 k := fun k hk => (hag23 k (Nat.lt_of_lt_of_le hk hle)).trans (had k hk)
  have hrs := hRS.new hrs eL23 eX23
  have hle : L.1 ≤ L23.1 := Nat.le_trans hle (by rw [eL23]; exact Nat.le_succ _)
  refine hx_dup C dX8_init_45 rfl ?_
  obtain ⟨q24, e25, h⟩ := hx_bind h
  refine hx_initA (L' := q24.1) (X' := q24.2) C (c_X0_init (L' := q24.1) (X' := q24.2) e25 hrs) gX8_init_X0_init (by decide +kernel) rfl (by decide +kernel) (by decide +kernel) (by decide +kernel) ⟨Nat.le_of_ble_eq_true rfl, Nat.le_of_ble_eq_true rfl⟩ rfl rfl rfl ⟨Nat.le_of_ble_eq_true rfl, Nat.le_of_ble_eq_true rfl⟩ hl.1 (Nat.le_of_ble_eq_true rfl) dX8_init_46 (fun ad24 hag24 C => ?_)
  have z24 := rs_X0_init (L' := q24.1) (X' := q24.2) e25 hrs
  rw [← hag24 this (Nat.lt_trans g19.1 (by rw [eL23]; exact Nat.lt_succ_self _))] at hl
  rw [← hag24 q14.1.1 (by rw [eL23]; exact Nat.lt_succ_self _)]
  rw [← hag24 q20 (Nat.lt_trans g22 (by rw [eL23]; exact Nat.lt_succ_self _))]
  have had : ∀ k, k < L.1 → ad24 k = ad0 k := fun k hk => (hag24 k (Nat.lt_of_lt_of_le hk hle)).trans (had k hk)
  have hrs := z24.1
  have hle : L.1 ≤ q24.1.1 := Nat.le_trans hle z24.2
  obtain ⟨g26, h⟩ := hx_gd h
  obtain ⟨g27, h⟩ := hx_gd h
  obtain ⟨g28, h⟩ := hx_gd h
  refine hx_aast (t0 := 3) (n := 1) C g26 (by decide) rfl g27 (by decide) rfl (hin_lit (i := 1) (by decide) (by decide) g28) (by decide) dX8_init_49 ?_
  have hrs := hRS.smr (a := q20) (j := 1) hrs g27.1
  refine hx_iinc (v := 2) (lv' := [(1, .int 2), (0, .ref (ad24 this))]) C dX8_init_50 hl (k := 0) rfl (by decide) (by decide) rfl (fun ls hl => ?_)
  refine hx_goto (tgt := 32) C dX8_init_53 (by decide) ?_
  refine hx_iload_n C dX8_init_32 rfl (lv_at hl 0 rfl) ?_
  refine hx_iconst (v := 2) C dX8_init_33 (by decide) ?_
  refine hx_icmp_ge (tgt := 56) C dX8_init_34 (by decide) (fun cc => ?_) (fun cc => absurd cc (by decide))
  obtain ⟨rfl, rfl⟩ := hx_some2 h
  exact hx_vretA C hr had dX8_init_56
theorem uX3_init_3 : ∀ w ∈ u_ws RX3 TX3 4, w ∈ wsX3_init := by decide +kernel
theorem uX3_init_8 : ∀ w ∈ u_ws RX8 TX8 3, w ∈ wsX3_init := by decide +kernel
set_option maxRecDepth 100000 in
def f_X3_init (L : hL) (X : hX) (this : Nat) : Option (hL × hX) :=
  if this < L.1 then
  hx_let (newL L 18 5) (newX X L.1) fun L2 X2 =>
  if tk L2 this 3 then
  hx_let (newL L2 8 0) (newX (smr X2 this 0 (some L.1)) L2.1) fun L4 X4 =>
  (f_X8_init L4 X4 L2.1).bind fun q5 =>
  if tk q5.1 this 3 then
  hx_let (newL q5.1 8 0) (newX (smr q5.2 this 1 (some L2.1)) q5.1.1) fun L8 X8 =>
  (f_X8_init L8 X8 q5.1.1).bind fun q9 =>
  if tk q9.1 this 3 then
  ((smr q9.2 this 2 (some q5.1.1)).2 this 0).bind fun q12 =>
  if q12 < q9.1.1 then
  hx_let (newL q9.1 8 0) (newX (smr q9.2 this 2 (some q5.1.1)) q9.1.1) fun L15 X15 =>
  (f_X8_init L15 X15 q9.1.1).bind fun q16 =>
  if tk q16.1 q12 18 then
  if tk q16.1 q9.1.1 8 then
  if 0 < q16.1.2.2 q12 then
  if tk q16.1 this 3 then
  ((smr q16.2 q12 0 (some q9.1.1)).2 this 0).bind fun q22 =>
  if q22 < q16.1.1 then
  hx_let (newL q16.1 8 0) (newX (smr q16.2 q12 0 (some q9.1.1)) q16.1.1) fun L25 X25 =>
  (f_X8_init L25 X25 q16.1.1).bind fun q26 =>
  if tk q26.1 q22 18 then
  if tk q26.1 q16.1.1 8 then
  if 1 < q26.1.2.2 q22 then
  if tk q26.1 this 3 then
  ((smr q26.2 q22 1 (some q16.1.1)).2 this 0).bind fun q32 =>
  if q32 < q26.1.1 then
  hx_let (newL q26.1 8 0) (newX (smr q26.2 q22 1 (some q16.1.1)) q26.1.1) fun L35 X35 =>
  (f_X8_init L35 X35 q26.1.1).bind fun q36 =>
  if tk q36.1 q32 18 then
  if tk q36.1 q26.1.1 8 then
  if 2 < q36.1.2.2 q32 then
  if tk q36.1 this 3 then
  ((smr q36.2 q32 2 (some q26.1.1)).2 this 0).bind fun q42 =>
  if q42 < q36.1.1 then
  hx_let (newL q36.1 8 0) (newX (smr q36.2 q32 2 (some q26.1.1)) q36.1.1) fun L45 X45 =>
  (f_X8_init L45 X45 q36.1.1).bind fun q46 =>
  if tk q46.1 q42 18 then
  if tk q46.1 q36.1.1 8 then
  if 3 < q46.1.2.2 q42 then
  if tk q46.1 this 3 then
  ((smr q46.2 q42 3 (some q36.1.1)).2 this 0).bind fun q52 =>
  if q52 < q46.1.1 then
  hx_let (newL q46.1 8 0) (newX (smr q46.2 q42 3 (some q36.1.1)) q46.1.1) fun L55 X55 =>
  (f_X8_init L55 X55 q46.1.1).bind fun q56 =>
  if tk q56.1 q52 18 then
  if tk q56.1 q46.1.1 8 then
  if 4 < q56.1.2.2 q52 then
  some (q56.1, smr q56.2 q52 4 (some q46.1.1))
  else none
  else none
  else none
  else none
  else none
  else none
  else none
  else none
  else none
  else none
  else none
  else none
  else none
  else none
  else none
  else none
  else none
  else none
  else none
  else none
  else none
  else none
  else none
  else none
  else none
  else none
  else none
  else none
set_option maxRecDepth 100000 in
set_option maxHeartbeats 4000000 in
theorem rs_X3_init {L : hL} {X : hX} {this : Nat} {L' : hL} {X' : hX} (h : f_X3_init L X this = some (L', X')) (hrs : hRS L X) : hRS L' X' ∧ L.1 ≤ L'.1 := by
  unfold f_X3_init at h
  have hle : L.1 ≤ L.1 := Nat.le_refl _
  obtain ⟨g1, h⟩ := hx_gd h
  obtain ⟨L2, X2, eL2, eX2, h⟩ := hx_lets h
  have hrs := hRS.new hrs eL2 eX2
  have hle : L.1 ≤ L2.1 := Nat.le_trans hle (by rw [eL2]; exact Nat.le_succ _)
  obtain ⟨g3, h⟩ := hx_gd h
  have hrs := hRS.smr (a := this) (j := 0) hrs (by rw [eL2]; exact Nat.lt_succ_self _)
  obtain ⟨L4, X4, eL4, eX4, h⟩ := hx_lets h
  have hrs := hRS.new hrs eL4 eX4
  have hle : L.1 ≤ L4.1 := Nat.le_trans hle (by rw [eL4]; exact Nat.le_succ _)
  obtain ⟨q5, e6, h⟩ := hx_bind h
  have z5 := rs_X8_init (L' := q5.1) (X' := q5.2) e6 hrs
  have hrs := z5.1
  have hle : L.1 ≤ q5.1.1 := Nat.le_trans hle z5.2
  obtain ⟨g7, h⟩ := hx_gd h
  have hrs := hRS.smr (a := this) (j := 1) hrs (Nat.lt_of_lt_of_le (by rw [eL4]; exact Nat.lt_succ_self _) z5.2)
  obtain ⟨L8, X8, eL8, eX8, h⟩ := hx_lets h
  have hrs := hRS.new hrs eL8 eX8
  have hle : L.1 ≤ L8.1 := Nat.le_trans hle (by rw [eL8]; exact Nat.le_succ _)
  obtain ⟨q9, e10, h⟩ := hx_bind h
  have z9 := rs_X8_init (L' := q9.1) (X' := q9.2) e10 hrs
  have hrs := z9.1
  have hle : L.1 ≤ q9.1.1 := Nat.le_trans hle z9.2
  obtain ⟨g11, h⟩ := hx_gd h
  have hrs := hRS.smr (a := this) (j := 2) hrs (Nat.lt_of_lt_of_le (by rw [eL8]; exact Nat.lt_succ_self _) z9.2)
  obtain ⟨q12, e13, h⟩ := hx_bind h
  obtain ⟨g14, h⟩ := hx_gd h
  obtain ⟨L15, X15, eL15, eX15, h⟩ := hx_lets h
  have hrs := hRS.new hrs eL15 eX15
  have hle : L.1 ≤ L15.1 := Nat.le_trans hle (by rw [eL15]; exact Nat.le_succ _)
  obtain ⟨q16, e17, h⟩ := hx_bind h
  have z16 := rs_X8_init (L' := q16.1) (X' := q16.2) e17 hrs
  have hrs := z16.1
  have hle : L.1 ≤ q16.1.1 := Nat.le_trans hle z16.2
  obtain ⟨g18, h⟩ := hx_gd h
  obtain ⟨g19, h⟩ := hx_gd h
  obtain ⟨g20, h⟩ := hx_gd h
  have hrs := hRS.smr (a := q12) (j := 0) hrs g19.1
  obtain ⟨g21, h⟩ := hx_gd h
  obtain ⟨q22, e23, h⟩ := hx_bind h
  obtain ⟨g24, h⟩ := hx_gd h
  obtain ⟨L25, X25, eL25, eX25, h⟩ := hx_lets h
  have hrs := hRS.new hrs eL25 eX25
  have hle : L.1 ≤ L25.1 := Nat.le_trans hle (by rw [eL25]; exact Nat.le_succ _)
  obtain ⟨q26, e27, h⟩ := hx_bind h
  have z26 := rs_X8_init (L' := q26.1) (X' := q26.2) e27 hrs
  have hrs := z26.1
  have hle : L.1 ≤ q26.1.1 := Nat.le_trans hle z26.2
  obtain ⟨g28, h⟩ := hx_gd h
  obtain ⟨g29, h⟩ := hx_gd h
  obtain ⟨g30, h⟩ := hx_gd h
  have hrs := hRS.smr (a := q22) (j := 1) hrs g29.1
  obtain ⟨g31, h⟩ := hx_gd h
  obtain ⟨q32, e33, h⟩ := hx_bind h
  obtain ⟨g34, h⟩ := hx_gd h
  obtain ⟨L35, X35, eL35, eX35, h⟩ := hx_lets h
  have hrs := hRS.new hrs eL35 eX35
  have hle : L.1 ≤ L35.1 := Nat.le_trans hle (by rw [eL35]; exact Nat.le_succ _)
  obtain ⟨q36, e37, h⟩ := hx_bind h
  have z36 := rs_X8_init (L' := q36.1) (X' := q36.2) e37 hrs
  have hrs := z36.1
  have hle : L.1 ≤ q36.1.1 := Nat.le_trans hle z36.2
  obtain ⟨g38, h⟩ := hx_gd h
  obtain ⟨g39, h⟩ := hx_gd h
  obtain ⟨g40, h⟩ := hx_gd h
  have hrs := hRS.smr (a := q32) (j := 2) hrs g39.1
  obtain ⟨g41, h⟩ := hx_gd h
  obtain ⟨q42, e43, h⟩ := hx_bind h
  obtain ⟨g44, h⟩ := hx_gd h
  obtain ⟨L45, X45, eL45, eX45, h⟩ := hx_lets h
  have hrs := hRS.new hrs eL45 eX45
  have hle : L.1 ≤ L45.1 := Nat.le_trans hle (by rw [eL45]; exact Nat.le_succ _)
  obtain ⟨q46, e47, h⟩ := hx_bind h
  have z46 := rs_X8_init (L' := q46.1) (X' := q46.2) e47 hrs
  have hrs := z46.1
  have hle : L.1 ≤ q46.1.1 := Nat.le_trans hle z46.2
  obtain ⟨g48, h⟩ := hx_gd h
  obtain ⟨g49, h⟩ := hx_gd h
  obtain ⟨g50, h⟩ := hx_gd h
  have hrs := hRS.smr (a := q42) (j := 3) hrs g49.1
  obtain ⟨g51, h⟩ := hx_gd h
  obtain ⟨q52, e53, h⟩ := hx_bind h
  obtain ⟨g54, h⟩ := hx_gd h
  obtain ⟨L55, X55, eL55, eX55, h⟩ := hx_lets h
  have hrs := hRS.new hrs eL55 eX55
  have hle : L.1 ≤ L55.1 := Nat.le_trans hle (by rw [eL55]; exact Nat.le_succ _)
  obtain ⟨q56, e57, h⟩ := hx_bind h
  have z56 := rs_X8_init (L' := q56.1) (X' := q56.2) e57 hrs
  have hrs := z56.1
  have hle : L.1 ≤ q56.1.1 := Nat.le_trans hle z56.2
  obtain ⟨g58, h⟩ := hx_gd h
  obtain ⟨g59, h⟩ := hx_gd h
  obtain ⟨g60, h⟩ := hx_gd h
  have hrs := hRS.smr (a := q52) (j := 4) hrs g59.1
  obtain ⟨rfl, rfl⟩ := hx_some2 h
  exact ⟨hrs, hle⟩
set_option maxRecDepth 100000 in
set_option maxHeartbeats 8000000 in
theorem c_X3_init {l : Launch} {dC : Nat → ClassId} {dI : Nat → Nat → Nat} {cy : Nat → ClassId} {L : hL} {X : hX} {this : Nat} {L' : hL} {X' : hX} (h : f_X3_init L X this = some (L', X')) (hrs : hRS L X) : hMetA l dC dI cy yX3_init wsX3_init ({ frames := 4, cells := 463, slots := 2448, locals := 86 } : Room) this L X L' X' 463 2448 := by
  unfold f_X3_init at h
  refine hx_enterA RX3 (plainFor_of_name (by decide)) rfl rfl (by decide) (fun ad0 p e s m args below meth c C hr hnm ls hl => ?_)
  have hle : L.1 ≤ L.1 := Nat.le_refl _
  have had : ∀ k, k < L.1 → ad0 k = ad0 k := fun _ _ => rfl
  refine hx_aload_n C dX3_init_0 rfl (lv_at hl 0 rfl) ?_
  refine hx_objInit C (by decide +kernel) (by decide +kernel) (by decide +kernel) hl.1 dX3_init_1 (Nat.le_of_ble_eq_true rfl) (Nat.le_of_ble_eq_true rfl) ?_
  refine hx_aload_n C dX3_init_4 rfl (lv_at hl 0 rfl) ?_
  refine hx_iconst (v := 5) C dX3_init_5 (by decide) ?_
  obtain ⟨g1, h⟩ := hx_gd h
  obtain ⟨L2, X2, eL2, eX2, h⟩ := hx_lets h
  refine hx_newq (N := 5) (t0 := 7) C hrs eL2 eX2 (by decide) rfl (by decide) (by decide +kernel) (by decide) (by decide) (Nat.le_of_ble_eq_true rfl) (Nat.le_of_ble_eq_true rfl) (Nat.le_of_ble_eq_true rfl) dX3_init_6 (fun ad2 hag2 C => ?_)
  rw [← hag2 this g1] at hl
  rw [← hag2 this g1]
  have had : ∀ k, k < L.1 → ad2 k = ad0 k := fun k hk => (hag2 k (Nat.lt_of_lt_of_le hk hle)).trans (had k hk)
  have hrs := hRS.new hrs eL2 eX2
  have hle : L.1 ≤ L2.1 := Nat.le_trans hle (by rw [eL2]; exact Nat.le_succ _)
  obtain ⟨g3, h⟩ := hx_gd h
  refine hx_putrF C (ci := 3) (j := 0) tyX3 tyX3_ok nmX3 g3 uX3_init_3 (by decide) rfl (by decide) rfl (by decide +kernel) rfl rfl hnm rfl (tyX3_ok 0 (by decide)) dX3_init_9 rfl rfl ?_
  have hrs := hRS.smr (a := this) (j := 0) hrs (by rw [eL2]; exact Nat.lt_succ_self _)
  refine hx_aload_n C dX3_init_12 rfl (lv_at hl 0 rfl) ?_
  obtain ⟨L4, X4, eL4, eX4, h⟩ := hx_lets h
  refine hx_new C hrs eL4 eX4 uX3_init_8 tyX8 tyX8_ok (by decide +kernel) (by decide +kernel) (by decide +kernel) (by decide) rfl hf0_8 (Nat.le_of_ble_eq_true rfl) (Nat.le_of_ble_eq_true rfl) dX3_init_13 (fun ad4 hag4 C => ?_)
  rw [← hag4 this g3.1] at hl
  rw [← hag4 this g3.1]
  have had : ∀ k, k < L.1 → ad4 k = ad0 k := fun k hk => (hag4 k (Nat.lt_of_lt_of_le hk hle)).trans (had k hk)
  have hrs := hRS.new hrs eL4 eX4
  have hle : L.1 ≤ L4.1 := Nat.le_trans hle (by rw [eL4]; exact Nat.le_succ _)
  refine hx_dup C dX3_init_16 rfl ?_
  obtain ⟨q5, e6, h⟩ := hx_bind h
  refine hx_initA (L' := q5.1) (X' := q5.2) C (c_X8_init (L' := q5.1) (X' := q5.2) e6 hrs) gX3_init_X8_init (by decide +kernel) rfl (by decide +kernel) (by decide +kernel) (by decide +kernel) ⟨Nat.le_of_ble_eq_true rfl, Nat.le_of_ble_eq_true rfl⟩ rfl rfl rfl ⟨Nat.le_of_ble_eq_true rfl, Nat.le_of_ble_eq_true rfl⟩ hl.1 (Nat.le_of_ble_eq_true rfl) dX3_init_17 (fun ad5 hag5 C => ?_)
  have z5 := rs_X8_init (L' := q5.1) (X' := q5.2) e6 hrs
  rw [← hag5 this (Nat.lt_trans g3.1 (by rw [eL4]; exact Nat.lt_succ_self _))] at hl
  rw [← hag5 L2.1 (by rw [eL4]; exact Nat.lt_succ_self _)]
  rw [← hag5 this (Nat.lt_trans g3.1 (by rw [eL4]; exact Nat.lt_succ_self _))]
  have had : ∀ k, k < L.1 → ad5 k = ad0 k := fun k hk => (hag5 k (Nat.lt_of_lt_of_le hk hle)).trans (had k hk)
  have hrs := z5.1
  have hle : L.1 ≤ q5.1.1 := Nat.le_trans hle z5.2
  obtain ⟨g7, h⟩ := hx_gd h
  refine hx_putr C (ci := 3) (j := 1) tyX3 tyX3_ok nmX3 g7 uX3_init_3 (by decide) rfl (by decide) rfl (by decide +kernel) rfl rfl (tyX3_ok 1 (by decide)) dX3_init_20 rfl rfl ?_
  have hrs := hRS.smr (a := this) (j := 1) hrs (Nat.lt_of_lt_of_le (by rw [eL4]; exact Nat.lt_succ_self _) z5.2)
  refine hx_aload_n C dX3_init_23 rfl (lv_at hl 0 rfl) ?_
  obtain ⟨L8, X8, eL8, eX8, h⟩ := hx_lets h
  refine hx_new C hrs eL8 eX8 uX3_init_8 tyX8 tyX8_ok (by decide +kernel) (by decide +kernel) (by decide +kernel) (by decide) rfl hf0_8 (Nat.le_of_ble_eq_true rfl) (Nat.le_of_ble_eq_true rfl) dX3_init_24 (fun ad8 hag8 C => ?_)
  rw [← hag8 this g7.1] at hl
  rw [← hag8 this g7.1]
  have had : ∀ k, k < L.1 → ad8 k = ad0 k := fun k hk => (hag8 k (Nat.lt_of_lt_of_le hk hle)).trans (had k hk)
  have hrs := hRS.new hrs eL8 eX8
  have hle : L.1 ≤ L8.1 := Nat.le_trans hle (by rw [eL8]; exact Nat.le_succ _)
  refine hx_dup C dX3_init_27 rfl ?_
  obtain ⟨q9, e10, h⟩ := hx_bind h
  refine hx_initA (L' := q9.1) (X' := q9.2) C (c_X8_init (L' := q9.1) (X' := q9.2) e10 hrs) gX3_init_X8_init (by decide +kernel) rfl (by decide +kernel) (by decide +kernel) (by decide +kernel) ⟨Nat.le_of_ble_eq_true rfl, Nat.le_of_ble_eq_true rfl⟩ rfl rfl rfl ⟨Nat.le_of_ble_eq_true rfl, Nat.le_of_ble_eq_true rfl⟩ hl.1 (Nat.le_of_ble_eq_true rfl) dX3_init_28 (fun ad9 hag9 C => ?_)
  have z9 := rs_X8_init (L' := q9.1) (X' := q9.2) e10 hrs
  rw [← hag9 this (Nat.lt_trans g7.1 (by rw [eL8]; exact Nat.lt_succ_self _))] at hl
  rw [← hag9 q5.1.1 (by rw [eL8]; exact Nat.lt_succ_self _)]
  rw [← hag9 this (Nat.lt_trans g7.1 (by rw [eL8]; exact Nat.lt_succ_self _))]
  have had : ∀ k, k < L.1 → ad9 k = ad0 k := fun k hk => (hag9 k (Nat.lt_of_lt_of_le hk hle)).trans (had k hk)
  have hrs := z9.1
  have hle : L.1 ≤ q9.1.1 := Nat.le_trans hle z9.2
  obtain ⟨g11, h⟩ := hx_gd h
  refine hx_putr C (ci := 3) (j := 2) tyX3 tyX3_ok nmX3 g11 uX3_init_3 (by decide) rfl (by decide) rfl (by decide +kernel) rfl rfl (tyX3_ok 2 (by decide)) dX3_init_31 rfl rfl ?_
  have hrs := hRS.smr (a := this) (j := 2) hrs (Nat.lt_of_lt_of_le (by rw [eL8]; exact Nat.lt_succ_self _) z9.2)
  refine hx_iconst (v := 0) C dX3_init_34 (by decide) ?_
  refine hx_istore_n (lv' := [(1, .int 0), (0, .ref (ad9 this))]) C dX3_init_35 rfl hl (by decide) rfl (fun ls hl => ?_)
  refine hx_iload_n C dX3_init_36 rfl (lv_at hl 0 rfl) ?_
  refine hx_iconst (v := 5) C dX3_init_37 (by decide) ?_
  refine hx_icmp_ge (tgt := 60) C dX3_init_38 (by decide) (fun cc => absurd cc (by decide)) (fun cc => ?_)
  refine hx_aload_n C dX3_init_41 rfl (lv_at hl 1 rfl) ?_
  obtain ⟨q12, e13, h⟩ := hx_bind h
  refine hx_getr C (ci := 3) (j := 0) g11 uX3_init_3 (by decide) rfl (by decide) rfl (by decide +kernel) rfl dX3_init_42 e13 ?_
  refine hx_iload_n C dX3_init_45 rfl (lv_at hl 0 rfl) ?_
  obtain ⟨g14, h⟩ := hx_gd h
  obtain ⟨L15, X15, eL15, eX15, h⟩ := hx_lets h
  refine hx_new C hrs eL15 eX15 uX3_init_8 tyX8 tyX8_ok (by decide +kernel) (by decide +kernel) (by decide +kernel) (by decide) rfl hf0_8 (Nat.le_of_ble_eq_true rfl) (Nat.le_of_ble_eq_true rfl) dX3_init_46 (fun ad15 hag15 C => ?_)
  rw [← hag15 this g11.1] at hl
  rw [← hag15 q12 g14]
  have had : ∀ k, k < L.1 → ad15 k = ad0 k := fun k hk => (hag15 k (Nat.lt_of_lt_of_le hk hle)).trans (had k hk)
  have hrs := hRS.new hrs eL15 eX15
  have hle : L.1 ≤ L15.1 := Nat.le_trans hle (by rw [eL15]; exact Nat.le_succ _)
  refine hx_dup C dX3_init_49 rfl ?_
  obtain ⟨q16, e17, h⟩ := hx_bind h
  refine hx_initA (L' := q16.1) (X' := q16.2) C (c_X8_init (L' := q16.1) (X' := q16.2) e17 hrs) gX3_init_X8_init (by decide +kernel) rfl (by decide +kernel) (by decide +kernel) (by decide +kernel) ⟨Nat.le_of_ble_eq_true rfl, Nat.le_of_ble_eq_true rfl⟩ rfl rfl rfl ⟨Nat.le_of_ble_eq_true rfl, Nat.le_of_ble_eq_true rfl⟩ hl.1 (Nat.le_of_ble_eq_true rfl) dX3_init_50 (fun ad16 hag16 C => ?_)
  have z16 := rs_X8_init (L' := q16.1) (X' := q16.2) e17 hrs
  rw [← hag16 this (Nat.lt_trans g11.1 (by rw [eL15]; exact Nat.lt_succ_self _))] at hl
  rw [← hag16 q9.1.1 (by rw [eL15]; exact Nat.lt_succ_self _)]
  rw [← hag16 q12 (Nat.lt_trans g14 (by rw [eL15]; exact Nat.lt_succ_self _))]
  have had : ∀ k, k < L.1 → ad16 k = ad0 k := fun k hk => (hag16 k (Nat.lt_of_lt_of_le hk hle)).trans (had k hk)
  have hrs := z16.1
  have hle : L.1 ≤ q16.1.1 := Nat.le_trans hle z16.2
  obtain ⟨g18, h⟩ := hx_gd h
  obtain ⟨g19, h⟩ := hx_gd h
  obtain ⟨g20, h⟩ := hx_gd h
  refine hx_aast (t0 := 7) (n := 0) C g18 (by decide) rfl g19 (by decide) rfl (hin_lit (i := 0) (by decide) (by decide) g20) (by decide) dX3_init_53 ?_
  have hrs := hRS.smr (a := q12) (j := 0) hrs g19.1
  refine hx_iinc (v := 1) (lv' := [(1, .int 1), (0, .ref (ad16 this))]) C dX3_init_54 hl (k := 0) rfl (by decide) (by decide) rfl (fun ls hl => ?_)
  refine hx_goto (tgt := 36) C dX3_init_57 (by decide) ?_
  refine hx_iload_n C dX3_init_36 rfl (lv_at hl 0 rfl) ?_
  refine hx_iconst (v := 5) C dX3_init_37 (by decide) ?_
  refine hx_icmp_ge (tgt := 60) C dX3_init_38 (by decide) (fun cc => absurd cc (by decide)) (fun cc => ?_)
  refine hx_aload_n C dX3_init_41 rfl (lv_at hl 1 rfl) ?_
  obtain ⟨g21, h⟩ := hx_gd h
  obtain ⟨q22, e23, h⟩ := hx_bind h
  refine hx_getr C (ci := 3) (j := 0) g21 uX3_init_3 (by decide) rfl (by decide) rfl (by decide +kernel) rfl dX3_init_42 e23 ?_
  refine hx_iload_n C dX3_init_45 rfl (lv_at hl 0 rfl) ?_
  obtain ⟨g24, h⟩ := hx_gd h
  obtain ⟨L25, X25, eL25, eX25, h⟩ := hx_lets h
  refine hx_new C hrs eL25 eX25 uX3_init_8 tyX8 tyX8_ok (by decide +kernel) (by decide +kernel) (by decide +kernel) (by decide) rfl hf0_8 (Nat.le_of_ble_eq_true rfl) (Nat.le_of_ble_eq_true rfl) dX3_init_46 (fun ad25 hag25 C => ?_)
  rw [← hag25 this g21.1] at hl
  rw [← hag25 q22 g24]
  have had : ∀ k, k < L.1 → ad25 k = ad0 k := fun k hk => (hag25 k (Nat.lt_of_lt_of_le hk hle)).trans (had k hk)
  have hrs := hRS.new hrs eL25 eX25
  have hle : L.1 ≤ L25.1 := Nat.le_trans hle (by rw [eL25]; exact Nat.le_succ _)
  refine hx_dup C dX3_init_49 rfl ?_
  obtain ⟨q26, e27, h⟩ := hx_bind h
  refine hx_initA (L' := q26.1) (X' := q26.2) C (c_X8_init (L' := q26.1) (X' := q26.2) e27 hrs) gX3_init_X8_init (by decide +kernel) rfl (by decide +kernel) (by decide +kernel) (by decide +kernel) ⟨Nat.le_of_ble_eq_true rfl, Nat.le_of_ble_eq_true rfl⟩ rfl rfl rfl ⟨Nat.le_of_ble_eq_true rfl, Nat.le_of_ble_eq_true rfl⟩ hl.1 (Nat.le_of_ble_eq_true rfl) dX3_init_50 (fun ad26 hag26 C => ?_)
  have z26 := rs_X8_init (L' := q26.1) (X' := q26.2) e27 hrs
  rw [← hag26 this (Nat.lt_trans g21.1 (by rw [eL25]; exact Nat.lt_succ_self _))] at hl
  rw [← hag26 q16.1.1 (by rw [eL25]; exact Nat.lt_succ_self _)]
  rw [← hag26 q22 (Nat.lt_trans g24 (by rw [eL25]; exact Nat.lt_succ_self _))]
  have had : ∀ k, k < L.1 → ad26 k = ad0 k := fun k hk => (hag26 k (Nat.lt_of_lt_of_le hk hle)).trans (had k hk)
  have hrs := z26.1
  have hle : L.1 ≤ q26.1.1 := Nat.le_trans hle z26.2
  obtain ⟨g28, h⟩ := hx_gd h
  obtain ⟨g29, h⟩ := hx_gd h
  obtain ⟨g30, h⟩ := hx_gd h
  refine hx_aast (t0 := 7) (n := 1) C g28 (by decide) rfl g29 (by decide) rfl (hin_lit (i := 1) (by decide) (by decide) g30) (by decide) dX3_init_53 ?_
  have hrs := hRS.smr (a := q22) (j := 1) hrs g29.1
  refine hx_iinc (v := 2) (lv' := [(1, .int 2), (0, .ref (ad26 this))]) C dX3_init_54 hl (k := 0) rfl (by decide) (by decide) rfl (fun ls hl => ?_)
  refine hx_goto (tgt := 36) C dX3_init_57 (by decide) ?_
  refine hx_iload_n C dX3_init_36 rfl (lv_at hl 0 rfl) ?_
  refine hx_iconst (v := 5) C dX3_init_37 (by decide) ?_
  refine hx_icmp_ge (tgt := 60) C dX3_init_38 (by decide) (fun cc => absurd cc (by decide)) (fun cc => ?_)
  refine hx_aload_n C dX3_init_41 rfl (lv_at hl 1 rfl) ?_
  obtain ⟨g31, h⟩ := hx_gd h
  obtain ⟨q32, e33, h⟩ := hx_bind h
  refine hx_getr C (ci := 3) (j := 0) g31 uX3_init_3 (by decide) rfl (by decide) rfl (by decide +kernel) rfl dX3_init_42 e33 ?_
  refine hx_iload_n C dX3_init_45 rfl (lv_at hl 0 rfl) ?_
  obtain ⟨g34, h⟩ := hx_gd h
  obtain ⟨L35, X35, eL35, eX35, h⟩ := hx_lets h
  refine hx_new C hrs eL35 eX35 uX3_init_8 tyX8 tyX8_ok (by decide +kernel) (by decide +kernel) (by decide +kernel) (by decide) rfl hf0_8 (Nat.le_of_ble_eq_true rfl) (Nat.le_of_ble_eq_true rfl) dX3_init_46 (fun ad35 hag35 C => ?_)
  rw [← hag35 this g31.1] at hl
  rw [← hag35 q32 g34]
  have had : ∀ k, k < L.1 → ad35 k = ad0 k := fun k hk => (hag35 k (Nat.lt_of_lt_of_le hk hle)).trans (had k hk)
  have hrs := hRS.new hrs eL35 eX35
  have hle : L.1 ≤ L35.1 := Nat.le_trans hle (by rw [eL35]; exact Nat.le_succ _)
  refine hx_dup C dX3_init_49 rfl ?_
  obtain ⟨q36, e37, h⟩ := hx_bind h
  refine hx_initA (L' := q36.1) (X' := q36.2) C (c_X8_init (L' := q36.1) (X' := q36.2) e37 hrs) gX3_init_X8_init (by decide +kernel) rfl (by decide +kernel) (by decide +kernel) (by decide +kernel) ⟨Nat.le_of_ble_eq_true rfl, Nat.le_of_ble_eq_true rfl⟩ rfl rfl rfl ⟨Nat.le_of_ble_eq_true rfl, Nat.le_of_ble_eq_true rfl⟩ hl.1 (Nat.le_of_ble_eq_true rfl) dX3_init_50 (fun ad36 hag36 C => ?_)
  have z36 := rs_X8_init (L' := q36.1) (X' := q36.2) e37 hrs
  rw [← hag36 this (Nat.lt_trans g31.1 (by rw [eL35]; exact Nat.lt_succ_self _))] at hl
  rw [← hag36 q26.1.1 (by rw [eL35]; exact Nat.lt_succ_self _)]
  rw [← hag36 q32 (Nat.lt_trans g34 (by rw [eL35]; exact Nat.lt_succ_self _))]
  have had : ∀ k, k < L.1 → ad36 k = ad0 k := fun k hk => (hag36 k (Nat.lt_of_lt_of_le hk hle)).trans (had k hk)
  have hrs := z36.1
  have hle : L.1 ≤ q36.1.1 := Nat.le_trans hle z36.2
  obtain ⟨g38, h⟩ := hx_gd h
  obtain ⟨g39, h⟩ := hx_gd h
  obtain ⟨g40, h⟩ := hx_gd h
  refine hx_aast (t0 := 7) (n := 2) C g38 (by decide) rfl g39 (by decide) rfl (hin_lit (i := 2) (by decide) (by decide) g40) (by decide) dX3_init_53 ?_
  have hrs := hRS.smr (a := q32) (j := 2) hrs g39.1
  refine hx_iinc (v := 3) (lv' := [(1, .int 3), (0, .ref (ad36 this))]) C dX3_init_54 hl (k := 0) rfl (by decide) (by decide) rfl (fun ls hl => ?_)
  refine hx_goto (tgt := 36) C dX3_init_57 (by decide) ?_
  refine hx_iload_n C dX3_init_36 rfl (lv_at hl 0 rfl) ?_
  refine hx_iconst (v := 5) C dX3_init_37 (by decide) ?_
  refine hx_icmp_ge (tgt := 60) C dX3_init_38 (by decide) (fun cc => absurd cc (by decide)) (fun cc => ?_)
  refine hx_aload_n C dX3_init_41 rfl (lv_at hl 1 rfl) ?_
  obtain ⟨g41, h⟩ := hx_gd h
  obtain ⟨q42, e43, h⟩ := hx_bind h
  refine hx_getr C (ci := 3) (j := 0) g41 uX3_init_3 (by decide) rfl (by decide) rfl (by decide +kernel) rfl dX3_init_42 e43 ?_
  refine hx_iload_n C dX3_init_45 rfl (lv_at hl 0 rfl) ?_
  obtain ⟨g44, h⟩ := hx_gd h
  obtain ⟨L45, X45, eL45, eX45, h⟩ := hx_lets h
  refine hx_new C hrs eL45 eX45 uX3_init_8 tyX8 tyX8_ok (by decide +kernel) (by decide +kernel) (by decide +kernel) (by decide) rfl hf0_8 (Nat.le_of_ble_eq_true rfl) (Nat.le_of_ble_eq_true rfl) dX3_init_46 (fun ad45 hag45 C => ?_)
  rw [← hag45 this g41.1] at hl
  rw [← hag45 q42 g44]
  have had : ∀ k, k < L.1 → ad45 k = ad0 k := fun k hk => (hag45 k (Nat.lt_of_lt_of_le hk hle)).trans (had k hk)
  have hrs := hRS.new hrs eL45 eX45
  have hle : L.1 ≤ L45.1 := Nat.le_trans hle (by rw [eL45]; exact Nat.le_succ _)
  refine hx_dup C dX3_init_49 rfl ?_
  obtain ⟨q46, e47, h⟩ := hx_bind h
  refine hx_initA (L' := q46.1) (X' := q46.2) C (c_X8_init (L' := q46.1) (X' := q46.2) e47 hrs) gX3_init_X8_init (by decide +kernel) rfl (by decide +kernel) (by decide +kernel) (by decide +kernel) ⟨Nat.le_of_ble_eq_true rfl, Nat.le_of_ble_eq_true rfl⟩ rfl rfl rfl ⟨Nat.le_of_ble_eq_true rfl, Nat.le_of_ble_eq_true rfl⟩ hl.1 (Nat.le_of_ble_eq_true rfl) dX3_init_50 (fun ad46 hag46 C => ?_)
  have z46 := rs_X8_init (L' := q46.1) (X' := q46.2) e47 hrs
  rw [← hag46 this (Nat.lt_trans g41.1 (by rw [eL45]; exact Nat.lt_succ_self _))] at hl
  rw [← hag46 q36.1.1 (by rw [eL45]; exact Nat.lt_succ_self _)]
  rw [← hag46 q42 (Nat.lt_trans g44 (by rw [eL45]; exact Nat.lt_succ_self _))]
  have had : ∀ k, k < L.1 → ad46 k = ad0 k := fun k hk => (hag46 k (Nat.lt_of_lt_of_le hk hle)).trans (had k hk)
  have hrs := z46.1
  have hle : L.1 ≤ q46.1.1 := Nat.le_trans hle z46.2
  obtain ⟨g48, h⟩ := hx_gd h
  obtain ⟨g49, h⟩ := hx_gd h
  obtain ⟨g50, h⟩ := hx_gd h
  refine hx_aast (t0 := 7) (n := 3) C g48 (by decide) rfl g49 (by decide) rfl (hin_lit (i := 3) (by decide) (by decide) g50) (by decide) dX3_init_53 ?_
  have hrs := hRS.smr (a := q42) (j := 3) hrs g49.1
  refine hx_iinc (v := 4) (lv' := [(1, .int 4), (0, .ref (ad46 this))]) C dX3_init_54 hl (k := 0) rfl (by decide) (by decide) rfl (fun ls hl => ?_)
  refine hx_goto (tgt := 36) C dX3_init_57 (by decide) ?_
  refine hx_iload_n C dX3_init_36 rfl (lv_at hl 0 rfl) ?_
  refine hx_iconst (v := 5) C dX3_init_37 (by decide) ?_
  refine hx_icmp_ge (tgt := 60) C dX3_init_38 (by decide) (fun cc => absurd cc (by decide)) (fun cc => ?_)
  refine hx_aload_n C dX3_init_41 rfl (lv_at hl 1 rfl) ?_
  obtain ⟨g51, h⟩ := hx_gd h
  obtain ⟨q52, e53, h⟩ := hx_bind h
  refine hx_getr C (ci := 3) (j := 0) g51 uX3_init_3 (by decide) rfl (by decide) rfl (by decide +kernel) rfl dX3_init_42 e53 ?_
  refine hx_iload_n C dX3_init_45 rfl (lv_at hl 0 rfl) ?_
  obtain ⟨g54, h⟩ := hx_gd h
  obtain ⟨L55, X55, eL55, eX55, h⟩ := hx_lets h
  refine hx_new C hrs eL55 eX55 uX3_init_8 tyX8 tyX8_ok (by decide +kernel) (by decide +kernel) (by decide +kernel) (by decide) rfl hf0_8 (Nat.le_of_ble_eq_true rfl) (Nat.le_of_ble_eq_true rfl) dX3_init_46 (fun ad55 hag55 C => ?_)
  rw [← hag55 this g51.1] at hl
  rw [← hag55 q52 g54]
  have had : ∀ k, k < L.1 → ad55 k = ad0 k := fun k hk => (hag55 k (Nat.lt_of_lt_of_le hk hle)).trans (had k hk)
  have hrs := hRS.new hrs eL55 eX55
  have hle : L.1 ≤ L55.1 := Nat.le_trans hle (by rw [eL55]; exact Nat.le_succ _)
  refine hx_dup C dX3_init_49 rfl ?_
  obtain ⟨q56, e57, h⟩ := hx_bind h
  refine hx_initA (L' := q56.1) (X' := q56.2) C (c_X8_init (L' := q56.1) (X' := q56.2) e57 hrs) gX3_init_X8_init (by decide +kernel) rfl (by decide +kernel) (by decide +kernel) (by decide +kernel) ⟨Nat.le_of_ble_eq_true rfl, Nat.le_of_ble_eq_true rfl⟩ rfl rfl rfl ⟨Nat.le_of_ble_eq_true rfl, Nat.le_of_ble_eq_true rfl⟩ hl.1 (Nat.le_of_ble_eq_true rfl) dX3_init_50 (fun ad56 hag56 C => ?_)
  have z56 := rs_X8_init (L' := q56.1) (X' := q56.2) e57 hrs
  rw [← hag56 this (Nat.lt_trans g51.1 (by rw [eL55]; exact Nat.lt_succ_self _))] at hl
  rw [← hag56 q46.1.1 (by rw [eL55]; exact Nat.lt_succ_self _)]
  rw [← hag56 q52 (Nat.lt_trans g54 (by rw [eL55]; exact Nat.lt_succ_self _))]
  have had : ∀ k, k < L.1 → ad56 k = ad0 k := fun k hk => (hag56 k (Nat.lt_of_lt_of_le hk hle)).trans (had k hk)
  have hrs := z56.1
  have hle : L.1 ≤ q56.1.1 := Nat.le_trans hle z56.2
  obtain ⟨g58, h⟩ := hx_gd h
  obtain ⟨g59, h⟩ := hx_gd h
  obtain ⟨g60, h⟩ := hx_gd h
  refine hx_aast (t0 := 7) (n := 4) C g58 (by decide) rfl g59 (by decide) rfl (hin_lit (i := 4) (by decide) (by decide) g60) (by decide) dX3_init_53 ?_
  have hrs := hRS.smr (a := q52) (j := 4) hrs g59.1
  refine hx_iinc (v := 5) (lv' := [(1, .int 5), (0, .ref (ad56 this))]) C dX3_init_54 hl (k := 0) rfl (by decide) (by decide) rfl (fun ls hl => ?_)
  refine hx_goto (tgt := 36) C dX3_init_57 (by decide) ?_
  refine hx_iload_n C dX3_init_36 rfl (lv_at hl 0 rfl) ?_
  refine hx_iconst (v := 5) C dX3_init_37 (by decide) ?_
  refine hx_icmp_ge (tgt := 60) C dX3_init_38 (by decide) (fun cc => ?_) (fun cc => absurd cc (by decide))
  obtain ⟨rfl, rfl⟩ := hx_some2 h
  exact hx_vretA C hr had dX3_init_60
theorem uX6_init_2 : ∀ w ∈ u_ws RX2 TX2 4, w ∈ wsX6_init := by decide +kernel
theorem uX6_init_6 : ∀ w ∈ u_ws RX6 TX6 6, w ∈ wsX6_init := by decide +kernel
set_option maxRecDepth 100000 in
def f_X6_init (L : hL) (X : hX) (this : Nat) : Option (hL × hX) :=
  if this < L.1 then
  hx_let (newL L 11 140) (newX X L.1) fun L2 X2 =>
  if tk L2 this 6 then
  hx_let (newL L2 12 5) (newX (smr X2 this 0 (some L.1)) L2.1) fun L4 X4 =>
  if tk L4 this 6 then
  hx_let (newL L4 2 0) (newX (smr X4 this 1 (some L2.1)) L4.1) fun L6 X6 =>
  (f_X2_init L6 X6 L4.1).bind fun r7 =>
  if tk L6 this 6 then
  some (L6, smr X6 this 2 (some L4.1))
  else none
  else none
  else none
  else none
set_option maxRecDepth 100000 in
set_option maxHeartbeats 4000000 in
theorem rs_X6_init {L : hL} {X : hX} {this : Nat} {L' : hL} {X' : hX} (h : f_X6_init L X this = some (L', X')) (hrs : hRS L X) : hRS L' X' ∧ L.1 ≤ L'.1 := by
  unfold f_X6_init at h
  have hle : L.1 ≤ L.1 := Nat.le_refl _
  obtain ⟨g1, h⟩ := hx_gd h
  obtain ⟨L2, X2, eL2, eX2, h⟩ := hx_lets h
  have hrs := hRS.new hrs eL2 eX2
  have hle : L.1 ≤ L2.1 := Nat.le_trans hle (by rw [eL2]; exact Nat.le_succ _)
  obtain ⟨g3, h⟩ := hx_gd h
  have hrs := hRS.smr (a := this) (j := 0) hrs (by rw [eL2]; exact Nat.lt_succ_self _)
  obtain ⟨L4, X4, eL4, eX4, h⟩ := hx_lets h
  have hrs := hRS.new hrs eL4 eX4
  have hle : L.1 ≤ L4.1 := Nat.le_trans hle (by rw [eL4]; exact Nat.le_succ _)
  obtain ⟨g5, h⟩ := hx_gd h
  have hrs := hRS.smr (a := this) (j := 1) hrs (by rw [eL4]; exact Nat.lt_succ_self _)
  obtain ⟨L6, X6, eL6, eX6, h⟩ := hx_lets h
  have hrs := hRS.new hrs eL6 eX6
  have hle : L.1 ≤ L6.1 := Nat.le_trans hle (by rw [eL6]; exact Nat.le_succ _)
  obtain ⟨r7, e8, h⟩ := hx_bind h
  obtain ⟨g9, h⟩ := hx_gd h
  have hrs := hRS.smr (a := this) (j := 2) hrs (by rw [eL6]; exact Nat.lt_succ_self _)
  obtain ⟨rfl, rfl⟩ := hx_some2 h
  exact ⟨hrs, hle⟩
set_option maxRecDepth 100000 in
set_option maxHeartbeats 8000000 in
theorem c_X6_init {l : Launch} {dC : Nat → ClassId} {dI : Nat → Nat → Nat} {cy : Nat → ClassId} {L : hL} {X : hX} {this : Nat} {L' : hL} {X' : hX} (h : f_X6_init L X this = some (L', X')) (hrs : hRS L X) : hMetA l dC dI cy yX6_init wsX6_init ({ frames := 2, cells := 3, slots := 149, locals := 44 } : Room) this L X L' X' 3 149 := by
  unfold f_X6_init at h
  refine hx_enterA RX6 (plainFor_of_name (by decide)) rfl rfl (by decide) (fun ad0 p e s m args below meth c C hr hnm ls hl => ?_)
  have hle : L.1 ≤ L.1 := Nat.le_refl _
  have had : ∀ k, k < L.1 → ad0 k = ad0 k := fun _ _ => rfl
  refine hx_aload_n C dX6_init_0 rfl (lv_at hl 0 rfl) ?_
  refine hx_objInit C (by decide +kernel) (by decide +kernel) (by decide +kernel) hl.1 dX6_init_1 (Nat.le_of_ble_eq_true rfl) (Nat.le_of_ble_eq_true rfl) ?_
  refine hx_aload_n C dX6_init_4 rfl (lv_at hl 0 rfl) ?_
  refine hx_sipush (v := 140) C dX6_init_5 (by decide) ?_
  obtain ⟨g1, h⟩ := hx_gd h
  obtain ⟨L2, X2, eL2, eX2, h⟩ := hx_lets h
  refine hx_newac (N := 140) C hrs eL2 eX2 (by decide +kernel) (by decide) (by decide) (Nat.le_of_ble_eq_true rfl) (Nat.le_of_ble_eq_true rfl) (Nat.le_of_ble_eq_true rfl) dX6_init_8 (fun ad2 hag2 C => ?_)
  rw [← hag2 this g1] at hl
  rw [← hag2 this g1]
  have had : ∀ k, k < L.1 → ad2 k = ad0 k := fun k hk => (hag2 k (Nat.lt_of_lt_of_le hk hle)).trans (had k hk)
  have hrs := hRS.new hrs eL2 eX2
  have hle : L.1 ≤ L2.1 := Nat.le_trans hle (by rw [eL2]; exact Nat.le_succ _)
  obtain ⟨g3, h⟩ := hx_gd h
  refine hx_putrF C (ci := 6) (j := 0) tyX6 tyX6_ok nmX6 g3 uX6_init_6 (by decide) rfl (by decide) rfl (by decide +kernel) rfl rfl hnm rfl (tyX6_ok 0 (by decide)) dX6_init_10 rfl rfl ?_
  have hrs := hRS.smr (a := this) (j := 0) hrs (by rw [eL2]; exact Nat.lt_succ_self _)
  refine hx_aload_n C dX6_init_13 rfl (lv_at hl 0 rfl) ?_
  refine hx_iconst (v := 5) C dX6_init_14 (by decide) ?_
  obtain ⟨L4, X4, eL4, eX4, h⟩ := hx_lets h
  refine hx_newai (N := 5) C hrs eL4 eX4 (by decide +kernel) (by decide) (by decide) (Nat.le_of_ble_eq_true rfl) (Nat.le_of_ble_eq_true rfl) (Nat.le_of_ble_eq_true rfl) dX6_init_15 (fun ad4 hag4 C => ?_)
  rw [← hag4 this g3.1] at hl
  rw [← hag4 this g3.1]
  have had : ∀ k, k < L.1 → ad4 k = ad0 k := fun k hk => (hag4 k (Nat.lt_of_lt_of_le hk hle)).trans (had k hk)
  have hrs := hRS.new hrs eL4 eX4
  have hle : L.1 ≤ L4.1 := Nat.le_trans hle (by rw [eL4]; exact Nat.le_succ _)
  obtain ⟨g5, h⟩ := hx_gd h
  refine hx_putrF C (ci := 6) (j := 1) tyX6 tyX6_ok nmX6 g5 uX6_init_6 (by decide) rfl (by decide) rfl (by decide +kernel) rfl rfl hnm rfl (tyX6_ok 1 (by decide)) dX6_init_17 rfl rfl ?_
  have hrs := hRS.smr (a := this) (j := 1) hrs (by rw [eL4]; exact Nat.lt_succ_self _)
  refine hx_aload_n C dX6_init_20 rfl (lv_at hl 0 rfl) ?_
  obtain ⟨L6, X6, eL6, eX6, h⟩ := hx_lets h
  refine hx_new C hrs eL6 eX6 uX6_init_2 tyX2 tyX2_ok (by decide +kernel) (by decide +kernel) (by decide +kernel) (by decide) rfl hf0_2 (Nat.le_of_ble_eq_true rfl) (Nat.le_of_ble_eq_true rfl) dX6_init_21 (fun ad6 hag6 C => ?_)
  rw [← hag6 this g5.1] at hl
  rw [← hag6 this g5.1]
  have had : ∀ k, k < L.1 → ad6 k = ad0 k := fun k hk => (hag6 k (Nat.lt_of_lt_of_le hk hle)).trans (had k hk)
  have hrs := hRS.new hrs eL6 eX6
  have hle : L.1 ≤ L6.1 := Nat.le_trans hle (by rw [eL6]; exact Nat.le_succ _)
  refine hx_dup C dX6_init_24 rfl ?_
  obtain ⟨r7, e8, h⟩ := hx_bind h
  refine hx_init0N (host := "TicketScales") C (c_X2_init e8) gX6_init_X2_init_n21 (by decide) rfl (by decide +kernel) (by decide +kernel) (by decide +kernel) ⟨Nat.le_of_ble_eq_true rfl, Nat.le_of_ble_eq_true rfl⟩ rfl rfl rfl ⟨Nat.le_of_ble_eq_true rfl, Nat.le_of_ble_eq_true rfl⟩ hl.1 (Nat.le_of_ble_eq_true rfl) dX6_init_25 ?_
  obtain ⟨g9, h⟩ := hx_gd h
  refine hx_putrF C (ci := 6) (j := 2) tyX6 tyX6_ok nmX6 g9 uX6_init_6 (by decide) rfl (by decide) rfl (by decide +kernel) rfl rfl hnm rfl (tyX6_ok 2 (by decide)) dX6_init_28 rfl rfl ?_
  have hrs := hRS.smr (a := this) (j := 2) hrs (by rw [eL6]; exact Nat.lt_succ_self _)
  obtain ⟨rfl, rfl⟩ := hx_some2 h
  exact hx_vretA C hr had dX6_init_31
theorem uX9_init_3 : ∀ w ∈ u_ws RX3 TX3 4, w ∈ wsX9_init := by decide +kernel
theorem uX9_init_5 : ∀ w ∈ u_ws RX5 TX5 7, w ∈ wsX9_init := by decide +kernel
theorem uX9_init_6 : ∀ w ∈ u_ws RX6 TX6 6, w ∈ wsX9_init := by decide +kernel
theorem uX9_init_9 : ∀ w ∈ u_ws RX9 TX9 3, w ∈ wsX9_init := by decide +kernel
set_option maxRecDepth 100000 in
def f_X9_init (L : hL) (X : hX) (this : Nat) : Option (hL × hX) :=
  if this < L.1 then
  hx_let (newL L 3 0) (newX X L.1) fun L2 X2 =>
  (f_X3_init L2 X2 L.1).bind fun q3 =>
  if tk q3.1 this 9 then
  hx_let (newL q3.1 6 0) (newX (smr q3.2 this 0 (some L.1)) q3.1.1) fun L6 X6 =>
  (f_X6_init L6 X6 q3.1.1).bind fun q7 =>
  if tk q7.1 this 9 then
  hx_let (newL q7.1 5 0) (newX (smr q7.2 this 1 (some q3.1.1)) q7.1.1) fun L10 X10 =>
  (f_X5_init L10 X10 q7.1.1).bind fun r11 =>
  if tk L10 this 9 then
  some (L10, smr X10 this 2 (some q7.1.1))
  else none
  else none
  else none
  else none
set_option maxRecDepth 100000 in
set_option maxHeartbeats 4000000 in
theorem rs_X9_init {L : hL} {X : hX} {this : Nat} {L' : hL} {X' : hX} (h : f_X9_init L X this = some (L', X')) (hrs : hRS L X) : hRS L' X' ∧ L.1 ≤ L'.1 := by
  unfold f_X9_init at h
  have hle : L.1 ≤ L.1 := Nat.le_refl _
  obtain ⟨g1, h⟩ := hx_gd h
  obtain ⟨L2, X2, eL2, eX2, h⟩ := hx_lets h
  have hrs := hRS.new hrs eL2 eX2
  have hle : L.1 ≤ L2.1 := Nat.le_trans hle (by rw [eL2]; exact Nat.le_succ _)
  obtain ⟨q3, e4, h⟩ := hx_bind h
  have z3 := rs_X3_init (L' := q3.1) (X' := q3.2) e4 hrs
  have hrs := z3.1
  have hle : L.1 ≤ q3.1.1 := Nat.le_trans hle z3.2
  obtain ⟨g5, h⟩ := hx_gd h
  have hrs := hRS.smr (a := this) (j := 0) hrs (Nat.lt_of_lt_of_le (by rw [eL2]; exact Nat.lt_succ_self _) z3.2)
  obtain ⟨L6, X6, eL6, eX6, h⟩ := hx_lets h
  have hrs := hRS.new hrs eL6 eX6
  have hle : L.1 ≤ L6.1 := Nat.le_trans hle (by rw [eL6]; exact Nat.le_succ _)
  obtain ⟨q7, e8, h⟩ := hx_bind h
  have z7 := rs_X6_init (L' := q7.1) (X' := q7.2) e8 hrs
  have hrs := z7.1
  have hle : L.1 ≤ q7.1.1 := Nat.le_trans hle z7.2
  obtain ⟨g9, h⟩ := hx_gd h
  have hrs := hRS.smr (a := this) (j := 1) hrs (Nat.lt_of_lt_of_le (by rw [eL6]; exact Nat.lt_succ_self _) z7.2)
  obtain ⟨L10, X10, eL10, eX10, h⟩ := hx_lets h
  have hrs := hRS.new hrs eL10 eX10
  have hle : L.1 ≤ L10.1 := Nat.le_trans hle (by rw [eL10]; exact Nat.le_succ _)
  obtain ⟨r11, e12, h⟩ := hx_bind h
  obtain ⟨g13, h⟩ := hx_gd h
  have hrs := hRS.smr (a := this) (j := 2) hrs (by rw [eL10]; exact Nat.lt_succ_self _)
  obtain ⟨rfl, rfl⟩ := hx_some2 h
  exact ⟨hrs, hle⟩
set_option maxRecDepth 100000 in
set_option maxHeartbeats 8000000 in
theorem c_X9_init {l : Launch} {dC : Nat → ClassId} {dI : Nat → Nat → Nat} {cy : Nat → ClassId} {L : hL} {X : hX} {this : Nat} {L' : hL} {X' : hX} (h : f_X9_init L X this = some (L', X')) (hrs : hRS L X) : hMetA l dC dI cy yX9_init wsX9_init ({ frames := 5, cells := 469, slots := 2614, locals := 107 } : Room) this L X L' X' 469 2614 := by
  unfold f_X9_init at h
  refine hx_enterA RX9 (plainFor_of_name (by decide)) rfl rfl (by decide) (fun ad0 p e s m args below meth c C hr hnm ls hl => ?_)
  have hle : L.1 ≤ L.1 := Nat.le_refl _
  have had : ∀ k, k < L.1 → ad0 k = ad0 k := fun _ _ => rfl
  refine hx_aload_n C dX9_init_0 rfl (lv_at hl 0 rfl) ?_
  refine hx_objInit C (by decide +kernel) (by decide +kernel) (by decide +kernel) hl.1 dX9_init_1 (Nat.le_of_ble_eq_true rfl) (Nat.le_of_ble_eq_true rfl) ?_
  refine hx_aload_n C dX9_init_4 rfl (lv_at hl 0 rfl) ?_
  obtain ⟨g1, h⟩ := hx_gd h
  obtain ⟨L2, X2, eL2, eX2, h⟩ := hx_lets h
  refine hx_new C hrs eL2 eX2 uX9_init_3 tyX3 tyX3_ok (by decide +kernel) (by decide +kernel) (by decide +kernel) (by decide) rfl hf0_3 (Nat.le_of_ble_eq_true rfl) (Nat.le_of_ble_eq_true rfl) dX9_init_5 (fun ad2 hag2 C => ?_)
  rw [← hag2 this g1] at hl
  rw [← hag2 this g1]
  have had : ∀ k, k < L.1 → ad2 k = ad0 k := fun k hk => (hag2 k (Nat.lt_of_lt_of_le hk hle)).trans (had k hk)
  have hrs := hRS.new hrs eL2 eX2
  have hle : L.1 ≤ L2.1 := Nat.le_trans hle (by rw [eL2]; exact Nat.le_succ _)
  refine hx_dup C dX9_init_8 rfl ?_
  obtain ⟨q3, e4, h⟩ := hx_bind h
  refine hx_initA (L' := q3.1) (X' := q3.2) C (c_X3_init (L' := q3.1) (X' := q3.2) e4 hrs) gX9_init_X3_init (by decide +kernel) rfl (by decide +kernel) (by decide +kernel) (by decide +kernel) ⟨Nat.le_of_ble_eq_true rfl, Nat.le_of_ble_eq_true rfl⟩ rfl rfl rfl ⟨Nat.le_of_ble_eq_true rfl, Nat.le_of_ble_eq_true rfl⟩ hl.1 (Nat.le_of_ble_eq_true rfl) dX9_init_9 (fun ad3 hag3 C => ?_)
  have z3 := rs_X3_init (L' := q3.1) (X' := q3.2) e4 hrs
  rw [← hag3 this (Nat.lt_trans g1 (by rw [eL2]; exact Nat.lt_succ_self _))] at hl
  rw [← hag3 L.1 (by rw [eL2]; exact Nat.lt_succ_self _)]
  rw [← hag3 this (Nat.lt_trans g1 (by rw [eL2]; exact Nat.lt_succ_self _))]
  have had : ∀ k, k < L.1 → ad3 k = ad0 k := fun k hk => (hag3 k (Nat.lt_of_lt_of_le hk hle)).trans (had k hk)
  have hrs := z3.1
  have hle : L.1 ≤ q3.1.1 := Nat.le_trans hle z3.2
  obtain ⟨g5, h⟩ := hx_gd h
  refine hx_putrF C (ci := 9) (j := 0) tyX9 tyX9_ok nmX9 g5 uX9_init_9 (by decide) rfl (by decide) rfl (by decide +kernel) rfl rfl hnm rfl (tyX9_ok 0 (by decide)) dX9_init_12 rfl rfl ?_
  have hrs := hRS.smr (a := this) (j := 0) hrs (Nat.lt_of_lt_of_le (by rw [eL2]; exact Nat.lt_succ_self _) z3.2)
  refine hx_aload_n C dX9_init_15 rfl (lv_at hl 0 rfl) ?_
  obtain ⟨L6, X6, eL6, eX6, h⟩ := hx_lets h
  refine hx_new C hrs eL6 eX6 uX9_init_6 tyX6 tyX6_ok (by decide +kernel) (by decide +kernel) (by decide +kernel) (by decide) rfl hf0_6 (Nat.le_of_ble_eq_true rfl) (Nat.le_of_ble_eq_true rfl) dX9_init_16 (fun ad6 hag6 C => ?_)
  rw [← hag6 this g5.1] at hl
  rw [← hag6 this g5.1]
  have had : ∀ k, k < L.1 → ad6 k = ad0 k := fun k hk => (hag6 k (Nat.lt_of_lt_of_le hk hle)).trans (had k hk)
  have hrs := hRS.new hrs eL6 eX6
  have hle : L.1 ≤ L6.1 := Nat.le_trans hle (by rw [eL6]; exact Nat.le_succ _)
  refine hx_dup C dX9_init_19 rfl ?_
  obtain ⟨q7, e8, h⟩ := hx_bind h
  refine hx_initAN (host := "TicketScales") (L' := q7.1) (X' := q7.2) C (c_X6_init (L' := q7.1) (X' := q7.2) e8 hrs) gX9_init_X6_init_n18 (by decide) rfl (by decide +kernel) (by decide +kernel) (by decide +kernel) ⟨Nat.le_of_ble_eq_true rfl, Nat.le_of_ble_eq_true rfl⟩ rfl rfl rfl ⟨Nat.le_of_ble_eq_true rfl, Nat.le_of_ble_eq_true rfl⟩ hl.1 (Nat.le_of_ble_eq_true rfl) dX9_init_20 (fun ad7 hag7 C => ?_)
  have z7 := rs_X6_init (L' := q7.1) (X' := q7.2) e8 hrs
  rw [← hag7 this (Nat.lt_trans g5.1 (by rw [eL6]; exact Nat.lt_succ_self _))] at hl
  rw [← hag7 q3.1.1 (by rw [eL6]; exact Nat.lt_succ_self _)]
  rw [← hag7 this (Nat.lt_trans g5.1 (by rw [eL6]; exact Nat.lt_succ_self _))]
  have had : ∀ k, k < L.1 → ad7 k = ad0 k := fun k hk => (hag7 k (Nat.lt_of_lt_of_le hk hle)).trans (had k hk)
  have hrs := z7.1
  have hle : L.1 ≤ q7.1.1 := Nat.le_trans hle z7.2
  obtain ⟨g9, h⟩ := hx_gd h
  refine hx_putrF C (ci := 9) (j := 1) tyX9 tyX9_ok nmX9 g9 uX9_init_9 (by decide) rfl (by decide) rfl (by decide +kernel) rfl rfl hnm rfl (tyX9_ok 1 (by decide)) dX9_init_23 rfl rfl ?_
  have hrs := hRS.smr (a := this) (j := 1) hrs (Nat.lt_of_lt_of_le (by rw [eL6]; exact Nat.lt_succ_self _) z7.2)
  refine hx_aload_n C dX9_init_26 rfl (lv_at hl 0 rfl) ?_
  obtain ⟨L10, X10, eL10, eX10, h⟩ := hx_lets h
  refine hx_new C hrs eL10 eX10 uX9_init_5 tyX5 tyX5_ok (by decide +kernel) (by decide +kernel) (by decide +kernel) (by decide) rfl hf0_5 (Nat.le_of_ble_eq_true rfl) (Nat.le_of_ble_eq_true rfl) dX9_init_27 (fun ad10 hag10 C => ?_)
  rw [← hag10 this g9.1] at hl
  rw [← hag10 this g9.1]
  have had : ∀ k, k < L.1 → ad10 k = ad0 k := fun k hk => (hag10 k (Nat.lt_of_lt_of_le hk hle)).trans (had k hk)
  have hrs := hRS.new hrs eL10 eX10
  have hle : L.1 ≤ L10.1 := Nat.le_trans hle (by rw [eL10]; exact Nat.le_succ _)
  refine hx_dup C dX9_init_30 rfl ?_
  obtain ⟨r11, e12, h⟩ := hx_bind h
  refine hx_init0N (host := "TicketScales") C (c_X5_init e12) gX9_init_X5_init_n25 (by decide) rfl (by decide +kernel) (by decide +kernel) (by decide +kernel) ⟨Nat.le_of_ble_eq_true rfl, Nat.le_of_ble_eq_true rfl⟩ rfl rfl rfl ⟨Nat.le_of_ble_eq_true rfl, Nat.le_of_ble_eq_true rfl⟩ hl.1 (Nat.le_of_ble_eq_true rfl) dX9_init_31 ?_
  obtain ⟨g13, h⟩ := hx_gd h
  refine hx_putrF C (ci := 9) (j := 2) tyX9 tyX9_ok nmX9 g13 uX9_init_9 (by decide) rfl (by decide) rfl (by decide +kernel) rfl rfl hnm rfl (tyX9_ok 2 (by decide)) dX9_init_34 rfl rfl ?_
  have hrs := hRS.smr (a := this) (j := 2) hrs (by rw [eL10]; exact Nat.lt_succ_self _)
  obtain ⟨rfl, rfl⟩ := hx_some2 h
  exact hx_vretA C hr had dX9_init_37
