/-! cells that hold no reference -/
def RB (J : Nat) (L : hL) (X : hX) : Prop := ∀ k j, (J ≤ j ∨ L.1 ≤ k) → X.2 k j = none
theorem RB.smi {J : Nat} {L : hL} {X : hX} {a j : Nat} {v : Int32} (h : RB J L X) : RB J L (smi X a j v) := h
theorem RB.smr {J : Nat} {L : hL} {X : hX} {a j b : Nat} (h : RB J L X) (hj : j < J) (ha : a < L.1) : RB J L (smr X a j (some b)) := by
  intro k i hk
  rw [smr_2, if_neg (fun q => by omega)]
  exact h k i hk
theorem RB.new {J : Nat} {L L' : hL} {X X' : hX} {ci n : Nat} (h : RB J L X) (eL : L' = newL L ci n) (eX : X' = newX X L.1) : RB J L' X' := by
  subst eL; subst eX
  intro k i hk
  have hk : J ≤ i ∨ L.1 + 1 ≤ k := hk
  show (if k = L.1 then none else X.2 k i) = none
  by_cases c : k = L.1
  · rw [if_pos c]
  · rw [if_neg c]
    exact h k i (by omega)
def LO (b : Nat) (X Y : hX) : Prop := ∀ k, k < b → Y.2 k = X.2 k
theorem LO.new {b : Nat} {L : hL} {X Y Y' : hX} (h : LO b X Y) (hb : b ≤ L.1) (e : Y' = newX Y L.1) : LO b X Y' := by
  subst e
  intro k hk
  rw [← h k hk]
  funext i
  show (if k = L.1 then none else Y.2 k i) = Y.2 k i
  rw [if_neg (by omega)]
theorem LO.smr {b a j c : Nat} {X Y : hX} (h : LO b X Y) (ha : b ≤ a) : LO b X (smr Y a j (some c)) := by
  intro k hk
  rw [← h k hk]
  funext i
  rw [smr_2, if_neg (fun q => by omega)]
theorem LO.smi {b a j : Nat} {v : Int32} {X Y : hX} (h : LO b X Y) : LO b X (smi Y a j v) := h
set_option maxRecDepth 100000 in
set_option maxHeartbeats 4000000 in
theorem rb_X0_init {J : Nat} (hJ : 6 ≤ J) {L : hL} {X : hX} {this : Nat} {L' : hL} {X' : hX} (h : f_X0_init L X this = some (L', X')) (hrs : RB J L X) : RB J L' X' := by
  unfold f_X0_init at h
  obtain ⟨g1, h⟩ := hx_gd h
  obtain ⟨L2, X2, eL2, eX2, h⟩ := hx_lets h
  have hrs := RB.new hrs eL2 eX2
  obtain ⟨g3, h⟩ := hx_gd h
  have hrs := fun (b : Nat) => RB.smr (a := this) (j := 0) (b := b) hrs (by omega) g3.1
  obtain ⟨L4, X4, eL4, eX4, h⟩ := hx_lets h
  have hrs := RB.new (hrs _) eL4 eX4
  obtain ⟨r5, e6, h⟩ := hx_bind h
  have hrs : RB J L4 r5 := fun k j hk => by rw [p_X7_init e6]; exact hrs k j hk
  obtain ⟨g7, h⟩ := hx_gd h
  have hrs := fun (b : Nat) => RB.smr (a := this) (j := 1) (b := b) hrs (by omega) g7.1
  obtain ⟨L8, X8, eL8, eX8, h⟩ := hx_lets h
  have hrs := RB.new (hrs _) eL8 eX8
  obtain ⟨g9, h⟩ := hx_gd h
  have hrs := fun (b : Nat) => RB.smr (a := this) (j := 2) (b := b) hrs (by omega) g9.1
  obtain ⟨L10, X10, eL10, eX10, h⟩ := hx_lets h
  have hrs := RB.new (hrs _) eL10 eX10
  obtain ⟨g11, h⟩ := hx_gd h
  have hrs := fun (b : Nat) => RB.smr (a := this) (j := 3) (b := b) hrs (by omega) g11.1
  have hrs := fun (b : Nat) => RB.smi (a := this) (j := 7) (v := 5) (hrs b)
  obtain ⟨q12, e13, h⟩ := hx_bind h
  obtain ⟨g14, h⟩ := hx_gd h
  obtain ⟨L15, X15, eL15, eX15, h⟩ := hx_lets h
  have hrs := RB.new (hrs _) eL15 eX15
  obtain ⟨r16, e17, h⟩ := hx_bind h
  have hrs : RB J L15 r16 := fun k j hk => by rw [p_X4_init e17]; exact hrs k j hk
  obtain ⟨g18, h⟩ := hx_gd h
  obtain ⟨g19, h⟩ := hx_gd h
  obtain ⟨g20, h⟩ := hx_gd h
  have hrs := fun (b : Nat) => RB.smr (a := q12) (j := 0) (b := b) hrs (by omega) g18.1
  obtain ⟨g21, h⟩ := hx_gd h
  obtain ⟨q22, e23, h⟩ := hx_bind h
  obtain ⟨g24, h⟩ := hx_gd h
  obtain ⟨L25, X25, eL25, eX25, h⟩ := hx_lets h
  have hrs := RB.new (hrs _) eL25 eX25
  obtain ⟨r26, e27, h⟩ := hx_bind h
  have hrs : RB J L25 r26 := fun k j hk => by rw [p_X4_init e27]; exact hrs k j hk
  obtain ⟨g28, h⟩ := hx_gd h
  obtain ⟨g29, h⟩ := hx_gd h
  obtain ⟨g30, h⟩ := hx_gd h
  have hrs := fun (b : Nat) => RB.smr (a := q22) (j := 1) (b := b) hrs (by omega) g28.1
  obtain ⟨g31, h⟩ := hx_gd h
  obtain ⟨q32, e33, h⟩ := hx_bind h
  obtain ⟨g34, h⟩ := hx_gd h
  obtain ⟨L35, X35, eL35, eX35, h⟩ := hx_lets h
  have hrs := RB.new (hrs _) eL35 eX35
  obtain ⟨r36, e37, h⟩ := hx_bind h
  have hrs : RB J L35 r36 := fun k j hk => by rw [p_X4_init e37]; exact hrs k j hk
  obtain ⟨g38, h⟩ := hx_gd h
  obtain ⟨g39, h⟩ := hx_gd h
  obtain ⟨g40, h⟩ := hx_gd h
  have hrs := fun (b : Nat) => RB.smr (a := q32) (j := 2) (b := b) hrs (by omega) g38.1
  obtain ⟨g41, h⟩ := hx_gd h
  obtain ⟨q42, e43, h⟩ := hx_bind h
  obtain ⟨g44, h⟩ := hx_gd h
  obtain ⟨L45, X45, eL45, eX45, h⟩ := hx_lets h
  have hrs := RB.new (hrs _) eL45 eX45
  obtain ⟨r46, e47, h⟩ := hx_bind h
  have hrs : RB J L45 r46 := fun k j hk => by rw [p_X4_init e47]; exact hrs k j hk
  obtain ⟨g48, h⟩ := hx_gd h
  obtain ⟨g49, h⟩ := hx_gd h
  obtain ⟨g50, h⟩ := hx_gd h
  have hrs := fun (b : Nat) => RB.smr (a := q42) (j := 3) (b := b) hrs (by omega) g48.1
  obtain ⟨g51, h⟩ := hx_gd h
  obtain ⟨q52, e53, h⟩ := hx_bind h
  obtain ⟨g54, h⟩ := hx_gd h
  obtain ⟨L55, X55, eL55, eX55, h⟩ := hx_lets h
  have hrs := RB.new (hrs _) eL55 eX55
  obtain ⟨r56, e57, h⟩ := hx_bind h
  obtain ⟨g58, h⟩ := hx_gd h
  obtain ⟨g59, h⟩ := hx_gd h
  obtain ⟨g60, h⟩ := hx_gd h
  have hrs := fun (b : Nat) => RB.smr (a := q52) (j := 0) (b := b) hrs (by omega) g58.1
  obtain ⟨g61, h⟩ := hx_gd h
  obtain ⟨q62, e63, h⟩ := hx_bind h
  obtain ⟨g64, h⟩ := hx_gd h
  obtain ⟨L65, X65, eL65, eX65, h⟩ := hx_lets h
  have hrs := RB.new (hrs _) eL65 eX65
  obtain ⟨r66, e67, h⟩ := hx_bind h
  obtain ⟨g68, h⟩ := hx_gd h
  obtain ⟨g69, h⟩ := hx_gd h
  obtain ⟨g70, h⟩ := hx_gd h
  have hrs := fun (b : Nat) => RB.smr (a := q62) (j := 1) (b := b) hrs (by omega) g68.1
  obtain ⟨g71, h⟩ := hx_gd h
  obtain ⟨q72, e73, h⟩ := hx_bind h
  obtain ⟨g74, h⟩ := hx_gd h
  obtain ⟨L75, X75, eL75, eX75, h⟩ := hx_lets h
  have hrs := RB.new (hrs _) eL75 eX75
  obtain ⟨r76, e77, h⟩ := hx_bind h
  obtain ⟨g78, h⟩ := hx_gd h
  obtain ⟨g79, h⟩ := hx_gd h
  obtain ⟨g80, h⟩ := hx_gd h
  have hrs := fun (b : Nat) => RB.smr (a := q72) (j := 2) (b := b) hrs (by omega) g78.1
  obtain ⟨g81, h⟩ := hx_gd h
  obtain ⟨q82, e83, h⟩ := hx_bind h
  obtain ⟨g84, h⟩ := hx_gd h
  obtain ⟨L85, X85, eL85, eX85, h⟩ := hx_lets h
  have hrs := RB.new (hrs _) eL85 eX85
  obtain ⟨r86, e87, h⟩ := hx_bind h
  obtain ⟨g88, h⟩ := hx_gd h
  obtain ⟨g89, h⟩ := hx_gd h
  obtain ⟨g90, h⟩ := hx_gd h
  have hrs := fun (b : Nat) => RB.smr (a := q82) (j := 3) (b := b) hrs (by omega) g88.1
  obtain ⟨g91, h⟩ := hx_gd h
  obtain ⟨q92, e93, h⟩ := hx_bind h
  obtain ⟨g94, h⟩ := hx_gd h
  obtain ⟨L95, X95, eL95, eX95, h⟩ := hx_lets h
  have hrs := RB.new (hrs _) eL95 eX95
  obtain ⟨r96, e97, h⟩ := hx_bind h
  obtain ⟨g98, h⟩ := hx_gd h
  obtain ⟨g99, h⟩ := hx_gd h
  obtain ⟨g100, h⟩ := hx_gd h
  have hrs := fun (b : Nat) => RB.smr (a := q92) (j := 4) (b := b) hrs (by omega) g98.1
  obtain ⟨g101, h⟩ := hx_gd h
  obtain ⟨q102, e103, h⟩ := hx_bind h
  obtain ⟨g104, h⟩ := hx_gd h
  obtain ⟨L105, X105, eL105, eX105, h⟩ := hx_lets h
  have hrs := RB.new (hrs _) eL105 eX105
  obtain ⟨r106, e107, h⟩ := hx_bind h
  obtain ⟨g108, h⟩ := hx_gd h
  obtain ⟨g109, h⟩ := hx_gd h
  obtain ⟨g110, h⟩ := hx_gd h
  have hrs := fun (b : Nat) => RB.smr (a := q102) (j := 5) (b := b) hrs (by omega) g108.1
  obtain ⟨g111, h⟩ := hx_gd h
  obtain ⟨q112, e113, h⟩ := hx_bind h
  obtain ⟨g114, h⟩ := hx_gd h
  obtain ⟨L115, X115, eL115, eX115, h⟩ := hx_lets h
  have hrs := RB.new (hrs _) eL115 eX115
  obtain ⟨r116, e117, h⟩ := hx_bind h
  obtain ⟨g118, h⟩ := hx_gd h
  obtain ⟨g119, h⟩ := hx_gd h
  obtain ⟨g120, h⟩ := hx_gd h
  have hrs := fun (b : Nat) => RB.smr (a := q112) (j := 0) (b := b) hrs (by omega) g118.1
  obtain ⟨g121, h⟩ := hx_gd h
  obtain ⟨q122, e123, h⟩ := hx_bind h
  obtain ⟨g124, h⟩ := hx_gd h
  obtain ⟨L125, X125, eL125, eX125, h⟩ := hx_lets h
  have hrs := RB.new (hrs _) eL125 eX125
  obtain ⟨r126, e127, h⟩ := hx_bind h
  obtain ⟨g128, h⟩ := hx_gd h
  obtain ⟨g129, h⟩ := hx_gd h
  obtain ⟨g130, h⟩ := hx_gd h
  have hrs := fun (b : Nat) => RB.smr (a := q122) (j := 1) (b := b) hrs (by omega) g128.1
  obtain ⟨g131, h⟩ := hx_gd h
  obtain ⟨q132, e133, h⟩ := hx_bind h
  obtain ⟨g134, h⟩ := hx_gd h
  obtain ⟨L135, X135, eL135, eX135, h⟩ := hx_lets h
  have hrs := RB.new (hrs _) eL135 eX135
  obtain ⟨r136, e137, h⟩ := hx_bind h
  obtain ⟨g138, h⟩ := hx_gd h
  obtain ⟨g139, h⟩ := hx_gd h
  obtain ⟨g140, h⟩ := hx_gd h
  have hrs := fun (b : Nat) => RB.smr (a := q132) (j := 2) (b := b) hrs (by omega) g138.1
  obtain ⟨g141, h⟩ := hx_gd h
  obtain ⟨q142, e143, h⟩ := hx_bind h
  obtain ⟨g144, h⟩ := hx_gd h
  obtain ⟨L145, X145, eL145, eX145, h⟩ := hx_lets h
  have hrs := RB.new (hrs _) eL145 eX145
  obtain ⟨r146, e147, h⟩ := hx_bind h
  obtain ⟨g148, h⟩ := hx_gd h
  obtain ⟨g149, h⟩ := hx_gd h
  obtain ⟨g150, h⟩ := hx_gd h
  have hrs := fun (b : Nat) => RB.smr (a := q142) (j := 3) (b := b) hrs (by omega) g148.1
  obtain ⟨g151, h⟩ := hx_gd h
  obtain ⟨q152, e153, h⟩ := hx_bind h
  obtain ⟨g154, h⟩ := hx_gd h
  obtain ⟨L155, X155, eL155, eX155, h⟩ := hx_lets h
  have hrs := RB.new (hrs _) eL155 eX155
  obtain ⟨r156, e157, h⟩ := hx_bind h
  obtain ⟨g158, h⟩ := hx_gd h
  obtain ⟨g159, h⟩ := hx_gd h
  obtain ⟨g160, h⟩ := hx_gd h
  have hrs := fun (b : Nat) => RB.smr (a := q152) (j := 4) (b := b) hrs (by omega) g158.1
  obtain ⟨g161, h⟩ := hx_gd h
  obtain ⟨q162, e163, h⟩ := hx_bind h
  obtain ⟨g164, h⟩ := hx_gd h
  obtain ⟨L165, X165, eL165, eX165, h⟩ := hx_lets h
  have hrs := RB.new (hrs _) eL165 eX165
  obtain ⟨r166, e167, h⟩ := hx_bind h
  obtain ⟨g168, h⟩ := hx_gd h
  obtain ⟨g169, h⟩ := hx_gd h
  obtain ⟨g170, h⟩ := hx_gd h
  have hrs := fun (b : Nat) => RB.smr (a := q162) (j := 5) (b := b) hrs (by omega) g168.1
  obtain ⟨rfl, rfl⟩ := hx_some2 h
  exact hrs _
set_option maxRecDepth 100000 in
set_option maxHeartbeats 4000000 in
theorem rb_X8_init {J : Nat} (hJ : 6 ≤ J) {L : hL} {X : hX} {this : Nat} {L' : hL} {X' : hX} (h : f_X8_init L X this = some (L', X')) (hrs : RB J L X) : RB J L' X' := by
  unfold f_X8_init at h
  obtain ⟨g1, h⟩ := hx_gd h
  obtain ⟨L2, X2, eL2, eX2, h⟩ := hx_lets h
  have hrs := RB.new hrs eL2 eX2
  obtain ⟨q3, e4, h⟩ := hx_bind h
  have hrs := rb_X0_init hJ (L' := q3.1) (X' := q3.2) e4 hrs
  obtain ⟨g5, h⟩ := hx_gd h
  have hrs := fun (b : Nat) => RB.smr (a := this) (j := 0) (b := b) hrs (by omega) g5.1
  obtain ⟨L6, X6, eL6, eX6, h⟩ := hx_lets h
  have hrs := RB.new (hrs _) eL6 eX6
  obtain ⟨g7, h⟩ := hx_gd h
  have hrs := fun (b : Nat) => RB.smr (a := this) (j := 1) (b := b) hrs (by omega) g7.1
  obtain ⟨L8, X8, eL8, eX8, h⟩ := hx_lets h
  have hrs := RB.new (hrs _) eL8 eX8
  obtain ⟨g9, h⟩ := hx_gd h
  have hrs := fun (b : Nat) => RB.smr (a := this) (j := 2) (b := b) hrs (by omega) g9.1
  obtain ⟨q10, e11, h⟩ := hx_bind h
  obtain ⟨g12, h⟩ := hx_gd h
  obtain ⟨L13, X13, eL13, eX13, h⟩ := hx_lets h
  have hrs := RB.new (hrs _) eL13 eX13
  obtain ⟨q14, e15, h⟩ := hx_bind h
  have hrs := rb_X0_init hJ (L' := q14.1) (X' := q14.2) e15 hrs
  obtain ⟨g16, h⟩ := hx_gd h
  obtain ⟨g17, h⟩ := hx_gd h
  obtain ⟨g18, h⟩ := hx_gd h
  have hrs := fun (b : Nat) => RB.smr (a := q10) (j := 0) (b := b) hrs (by omega) g16.1
  obtain ⟨g19, h⟩ := hx_gd h
  obtain ⟨q20, e21, h⟩ := hx_bind h
  obtain ⟨g22, h⟩ := hx_gd h
  obtain ⟨L23, X23, eL23, eX23, h⟩ := hx_lets h
  have hrs := RB.new (hrs _) eL23 eX23
  obtain ⟨q24, e25, h⟩ := hx_bind h
  have hrs := rb_X0_init hJ (L' := q24.1) (X' := q24.2) e25 hrs
  obtain ⟨g26, h⟩ := hx_gd h
  obtain ⟨g27, h⟩ := hx_gd h
  obtain ⟨g28, h⟩ := hx_gd h
  have hrs := fun (b : Nat) => RB.smr (a := q20) (j := 1) (b := b) hrs (by omega) g26.1
  obtain ⟨rfl, rfl⟩ := hx_some2 h
  exact hrs _
set_option maxRecDepth 100000 in
set_option maxHeartbeats 4000000 in
theorem rb_X3_init {J : Nat} (hJ : 6 ≤ J) {L : hL} {X : hX} {this : Nat} {L' : hL} {X' : hX} (h : f_X3_init L X this = some (L', X')) (hrs : RB J L X) : RB J L' X' := by
  unfold f_X3_init at h
  obtain ⟨g1, h⟩ := hx_gd h
  obtain ⟨L2, X2, eL2, eX2, h⟩ := hx_lets h
  have hrs := RB.new hrs eL2 eX2
  obtain ⟨g3, h⟩ := hx_gd h
  have hrs := fun (b : Nat) => RB.smr (a := this) (j := 0) (b := b) hrs (by omega) g3.1
  obtain ⟨L4, X4, eL4, eX4, h⟩ := hx_lets h
  have hrs := RB.new (hrs _) eL4 eX4
  obtain ⟨q5, e6, h⟩ := hx_bind h
  have hrs := rb_X8_init hJ (L' := q5.1) (X' := q5.2) e6 hrs
  obtain ⟨g7, h⟩ := hx_gd h
  have hrs := fun (b : Nat) => RB.smr (a := this) (j := 1) (b := b) hrs (by omega) g7.1
  obtain ⟨L8, X8, eL8, eX8, h⟩ := hx_lets h
  have hrs := RB.new (hrs _) eL8 eX8
  obtain ⟨q9, e10, h⟩ := hx_bind h
  have hrs := rb_X8_init hJ (L' := q9.1) (X' := q9.2) e10 hrs
  obtain ⟨g11, h⟩ := hx_gd h
  have hrs := fun (b : Nat) => RB.smr (a := this) (j := 2) (b := b) hrs (by omega) g11.1
  obtain ⟨q12, e13, h⟩ := hx_bind h
  obtain ⟨g14, h⟩ := hx_gd h
  obtain ⟨L15, X15, eL15, eX15, h⟩ := hx_lets h
  have hrs := RB.new (hrs _) eL15 eX15
  obtain ⟨q16, e17, h⟩ := hx_bind h
  have hrs := rb_X8_init hJ (L' := q16.1) (X' := q16.2) e17 hrs
  obtain ⟨g18, h⟩ := hx_gd h
  obtain ⟨g19, h⟩ := hx_gd h
  obtain ⟨g20, h⟩ := hx_gd h
  have hrs := fun (b : Nat) => RB.smr (a := q12) (j := 0) (b := b) hrs (by omega) g18.1
  obtain ⟨g21, h⟩ := hx_gd h
  obtain ⟨q22, e23, h⟩ := hx_bind h
  obtain ⟨g24, h⟩ := hx_gd h
  obtain ⟨L25, X25, eL25, eX25, h⟩ := hx_lets h
  have hrs := RB.new (hrs _) eL25 eX25
  obtain ⟨q26, e27, h⟩ := hx_bind h
  have hrs := rb_X8_init hJ (L' := q26.1) (X' := q26.2) e27 hrs
  obtain ⟨g28, h⟩ := hx_gd h
  obtain ⟨g29, h⟩ := hx_gd h
  obtain ⟨g30, h⟩ := hx_gd h
  have hrs := fun (b : Nat) => RB.smr (a := q22) (j := 1) (b := b) hrs (by omega) g28.1
  obtain ⟨g31, h⟩ := hx_gd h
  obtain ⟨q32, e33, h⟩ := hx_bind h
  obtain ⟨g34, h⟩ := hx_gd h
  obtain ⟨L35, X35, eL35, eX35, h⟩ := hx_lets h
  have hrs := RB.new (hrs _) eL35 eX35
  obtain ⟨q36, e37, h⟩ := hx_bind h
  have hrs := rb_X8_init hJ (L' := q36.1) (X' := q36.2) e37 hrs
  obtain ⟨g38, h⟩ := hx_gd h
  obtain ⟨g39, h⟩ := hx_gd h
  obtain ⟨g40, h⟩ := hx_gd h
  have hrs := fun (b : Nat) => RB.smr (a := q32) (j := 2) (b := b) hrs (by omega) g38.1
  obtain ⟨g41, h⟩ := hx_gd h
  obtain ⟨q42, e43, h⟩ := hx_bind h
  obtain ⟨g44, h⟩ := hx_gd h
  obtain ⟨L45, X45, eL45, eX45, h⟩ := hx_lets h
  have hrs := RB.new (hrs _) eL45 eX45
  obtain ⟨q46, e47, h⟩ := hx_bind h
  have hrs := rb_X8_init hJ (L' := q46.1) (X' := q46.2) e47 hrs
  obtain ⟨g48, h⟩ := hx_gd h
  obtain ⟨g49, h⟩ := hx_gd h
  obtain ⟨g50, h⟩ := hx_gd h
  have hrs := fun (b : Nat) => RB.smr (a := q42) (j := 3) (b := b) hrs (by omega) g48.1
  obtain ⟨g51, h⟩ := hx_gd h
  obtain ⟨q52, e53, h⟩ := hx_bind h
  obtain ⟨g54, h⟩ := hx_gd h
  obtain ⟨L55, X55, eL55, eX55, h⟩ := hx_lets h
  have hrs := RB.new (hrs _) eL55 eX55
  obtain ⟨q56, e57, h⟩ := hx_bind h
  have hrs := rb_X8_init hJ (L' := q56.1) (X' := q56.2) e57 hrs
  obtain ⟨g58, h⟩ := hx_gd h
  obtain ⟨g59, h⟩ := hx_gd h
  obtain ⟨g60, h⟩ := hx_gd h
  have hrs := fun (b : Nat) => RB.smr (a := q52) (j := 4) (b := b) hrs (by omega) g58.1
  obtain ⟨rfl, rfl⟩ := hx_some2 h
  exact hrs _
set_option maxRecDepth 100000 in
set_option maxHeartbeats 4000000 in
theorem rb_X6_init {J : Nat} (hJ : 6 ≤ J) {L : hL} {X : hX} {this : Nat} {L' : hL} {X' : hX} (h : f_X6_init L X this = some (L', X')) (hrs : RB J L X) : RB J L' X' := by
  unfold f_X6_init at h
  obtain ⟨g1, h⟩ := hx_gd h
  obtain ⟨L2, X2, eL2, eX2, h⟩ := hx_lets h
  have hrs := RB.new hrs eL2 eX2
  obtain ⟨g3, h⟩ := hx_gd h
  have hrs := fun (b : Nat) => RB.smr (a := this) (j := 0) (b := b) hrs (by omega) g3.1
  obtain ⟨L4, X4, eL4, eX4, h⟩ := hx_lets h
  have hrs := RB.new (hrs _) eL4 eX4
  obtain ⟨g5, h⟩ := hx_gd h
  have hrs := fun (b : Nat) => RB.smr (a := this) (j := 1) (b := b) hrs (by omega) g5.1
  obtain ⟨L6, X6, eL6, eX6, h⟩ := hx_lets h
  have hrs := RB.new (hrs _) eL6 eX6
  obtain ⟨r7, e8, h⟩ := hx_bind h
  obtain ⟨g9, h⟩ := hx_gd h
  have hrs := fun (b : Nat) => RB.smr (a := this) (j := 2) (b := b) hrs (by omega) g9.1
  obtain ⟨rfl, rfl⟩ := hx_some2 h
  exact hrs _
set_option maxRecDepth 100000 in
set_option maxHeartbeats 4000000 in
theorem rb_X9_init {J : Nat} (hJ : 6 ≤ J) {L : hL} {X : hX} {this : Nat} {L' : hL} {X' : hX} (h : f_X9_init L X this = some (L', X')) (hrs : RB J L X) : RB J L' X' := by
  unfold f_X9_init at h
  obtain ⟨g1, h⟩ := hx_gd h
  obtain ⟨L2, X2, eL2, eX2, h⟩ := hx_lets h
  have hrs := RB.new hrs eL2 eX2
  obtain ⟨q3, e4, h⟩ := hx_bind h
  have hrs := rb_X3_init hJ (L' := q3.1) (X' := q3.2) e4 hrs
  obtain ⟨g5, h⟩ := hx_gd h
  have hrs := fun (b : Nat) => RB.smr (a := this) (j := 0) (b := b) hrs (by omega) g5.1
  obtain ⟨L6, X6, eL6, eX6, h⟩ := hx_lets h
  have hrs := RB.new (hrs _) eL6 eX6
  obtain ⟨q7, e8, h⟩ := hx_bind h
  have hrs := rb_X6_init hJ (L' := q7.1) (X' := q7.2) e8 hrs
  obtain ⟨g9, h⟩ := hx_gd h
  have hrs := fun (b : Nat) => RB.smr (a := this) (j := 1) (b := b) hrs (by omega) g9.1
  obtain ⟨L10, X10, eL10, eX10, h⟩ := hx_lets h
  have hrs := RB.new (hrs _) eL10 eX10
  obtain ⟨r11, e12, h⟩ := hx_bind h
  obtain ⟨g13, h⟩ := hx_gd h
  have hrs := fun (b : Nat) => RB.smr (a := this) (j := 2) (b := b) hrs (by omega) g13.1
  obtain ⟨rfl, rfl⟩ := hx_some2 h
  exact hrs _
