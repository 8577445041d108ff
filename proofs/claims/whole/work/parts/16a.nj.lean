/-! references stand in fields below 15 only -/
def NJ (X : hX) : Prop := ∀ k j, 15 ≤ j → X.2 k j = none
theorem NJ.smi {X : hX} {a j : Nat} {v : Int32} (h : NJ X) : NJ (smi X a j v) := h
theorem NJ.smr {L : hL} {X : hX} {a j b : Nat} (h : NJ X) (_ : hRS L X) (hj : j < 15) (_ : b < L.1) : NJ (smr X a j (some b)) := by
  intro k i hi
  show (if k = a ∧ i = j then some b else X.2 k i) = none
  rw [if_neg (fun q => by omega)]
  exact h k i hi
theorem NJ.new {X X' : hX} {a : Nat} (h : NJ X) (eX : X' = newX X a) : NJ X' := by
  subst eX
  intro k i hi
  show (if k = a then none else X.2 k i) = none
  by_cases c : k = a
  · rw [if_pos c]
  · rw [if_neg c]; exact h k i hi
set_option maxRecDepth 100000 in
set_option maxHeartbeats 4000000 in
theorem nj_X0_init {L : hL} {X : hX} {this : Nat} {L' : hL} {X' : hX} (h : f_X0_init L X this = some (L', X')) (hrs : hRS L X) (hnj : NJ X) : NJ X' := by
  unfold f_X0_init at h
  have hle : L.1 ≤ L.1 := Nat.le_refl _
  obtain ⟨g1, h⟩ := hx_gd h
  obtain ⟨L2, X2, eL2, eX2, h⟩ := hx_lets h
  have hnj := NJ.new hnj eX2
  have hrs := hRS.new hrs eL2 eX2
  have hle : L.1 ≤ L2.1 := Nat.le_trans hle (by rw [eL2]; exact Nat.le_succ _)
  obtain ⟨g3, h⟩ := hx_gd h
  have hnj := NJ.smr (a := this) (j := 0) hnj hrs (by decide) (by rw [eL2]; exact Nat.lt_succ_self _)
  have hrs := hRS.smr (a := this) (j := 0) hrs (by rw [eL2]; exact Nat.lt_succ_self _)
  obtain ⟨L4, X4, eL4, eX4, h⟩ := hx_lets h
  have hnj := NJ.new hnj eX4
  have hrs := hRS.new hrs eL4 eX4
  have hle : L.1 ≤ L4.1 := Nat.le_trans hle (by rw [eL4]; exact Nat.le_succ _)
  obtain ⟨r5, e6, h⟩ := hx_bind h
  have hnj : NJ r5 := by intro k i hi; rw [p_X7_init e6]; exact hnj k i hi
  have hrs : hRS L4 r5 := by intro k i q hk hq; rw [p_X7_init e6] at hq; exact hrs k i q hk hq
  obtain ⟨g7, h⟩ := hx_gd h
  have hnj := NJ.smr (a := this) (j := 1) hnj hrs (by decide) (by rw [eL4]; exact Nat.lt_succ_self _)
  have hrs := hRS.smr (a := this) (j := 1) hrs (by rw [eL4]; exact Nat.lt_succ_self _)
  obtain ⟨L8, X8, eL8, eX8, h⟩ := hx_lets h
  have hnj := NJ.new hnj eX8
  have hrs := hRS.new hrs eL8 eX8
  have hle : L.1 ≤ L8.1 := Nat.le_trans hle (by rw [eL8]; exact Nat.le_succ _)
  obtain ⟨g9, h⟩ := hx_gd h
  have hnj := NJ.smr (a := this) (j := 2) hnj hrs (by decide) (by rw [eL8]; exact Nat.lt_succ_self _)
  have hrs := hRS.smr (a := this) (j := 2) hrs (by rw [eL8]; exact Nat.lt_succ_self _)
  obtain ⟨L10, X10, eL10, eX10, h⟩ := hx_lets h
  have hnj := NJ.new hnj eX10
  have hrs := hRS.new hrs eL10 eX10
  have hle : L.1 ≤ L10.1 := Nat.le_trans hle (by rw [eL10]; exact Nat.le_succ _)
  obtain ⟨g11, h⟩ := hx_gd h
  have hnj := NJ.smr (a := this) (j := 3) hnj hrs (by decide) (by rw [eL10]; exact Nat.lt_succ_self _)
  have hrs := hRS.smr (a := this) (j := 3) hrs (by rw [eL10]; exact Nat.lt_succ_self _)
  have hnj := NJ.smi (a := this) (j := 7) (v := 5) hnj
  have hrs := hRS.smi (a := this) (j := 7) (v := 5) hrs
  obtain ⟨q12, e13, h⟩ := hx_bind h
  obtain ⟨g14, h⟩ := hx_gd h
  obtain ⟨L15, X15, eL15, eX15, h⟩ := hx_lets h
  have hnj := NJ.new hnj eX15
  have hrs := hRS.new hrs eL15 eX15
  have hle : L.1 ≤ L15.1 := Nat.le_trans hle (by rw [eL15]; exact Nat.le_succ _)
  obtain ⟨r16, e17, h⟩ := hx_bind h
  have hnj : NJ r16 := by intro k i hi; rw [p_X4_init e17]; exact hnj k i hi
  have hrs : hRS L15 r16 := by intro k i q hk hq; rw [p_X4_init e17] at hq; exact hrs k i q hk hq
  obtain ⟨g18, h⟩ := hx_gd h
  obtain ⟨g19, h⟩ := hx_gd h
  obtain ⟨g20, h⟩ := hx_gd h
  have hnj := NJ.smr (a := q12) (j := 0) hnj hrs (by decide) g19.1
  have hrs := hRS.smr (a := q12) (j := 0) hrs g19.1
  obtain ⟨g21, h⟩ := hx_gd h
  obtain ⟨q22, e23, h⟩ := hx_bind h
  obtain ⟨g24, h⟩ := hx_gd h
  obtain ⟨L25, X25, eL25, eX25, h⟩ := hx_lets h
  have hnj := NJ.new hnj eX25
  have hrs := hRS.new hrs eL25 eX25
  have hle : L.1 ≤ L25.1 := Nat.le_trans hle (by rw [eL25]; exact Nat.le_succ _)
  obtain ⟨r26, e27, h⟩ := hx_bind h
  have hnj : NJ r26 := by intro k i hi; rw [p_X4_init e27]; exact hnj k i hi
  have hrs : hRS L25 r26 := by intro k i q hk hq; rw [p_X4_init e27] at hq; exact hrs k i q hk hq
  obtain ⟨g28, h⟩ := hx_gd h
  obtain ⟨g29, h⟩ := hx_gd h
  obtain ⟨g30, h⟩ := hx_gd h
  have hnj := NJ.smr (a := q22) (j := 1) hnj hrs (by decide) g29.1
  have hrs := hRS.smr (a := q22) (j := 1) hrs g29.1
  obtain ⟨g31, h⟩ := hx_gd h
  obtain ⟨q32, e33, h⟩ := hx_bind h
  obtain ⟨g34, h⟩ := hx_gd h
  obtain ⟨L35, X35, eL35, eX35, h⟩ := hx_lets h
  have hnj := NJ.new hnj eX35
  have hrs := hRS.new hrs eL35 eX35
  have hle : L.1 ≤ L35.1 := Nat.le_trans hle (by rw [eL35]; exact Nat.le_succ _)
  obtain ⟨r36, e37, h⟩ := hx_bind h
  have hnj : NJ r36 := by intro k i hi; rw [p_X4_init e37]; exact hnj k i hi
  have hrs : hRS L35 r36 := by intro k i q hk hq; rw [p_X4_init e37] at hq; exact hrs k i q hk hq
  obtain ⟨g38, h⟩ := hx_gd h
  obtain ⟨g39, h⟩ := hx_gd h
  obtain ⟨g40, h⟩ := hx_gd h
  have hnj := NJ.smr (a := q32) (j := 2) hnj hrs (by decide) g39.1
  have hrs := hRS.smr (a := q32) (j := 2) hrs g39.1
  obtain ⟨g41, h⟩ := hx_gd h
  obtain ⟨q42, e43, h⟩ := hx_bind h
  obtain ⟨g44, h⟩ := hx_gd h
  obtain ⟨L45, X45, eL45, eX45, h⟩ := hx_lets h
  have hnj := NJ.new hnj eX45
  have hrs := hRS.new hrs eL45 eX45
  have hle : L.1 ≤ L45.1 := Nat.le_trans hle (by rw [eL45]; exact Nat.le_succ _)
  obtain ⟨r46, e47, h⟩ := hx_bind h
  have hnj : NJ r46 := by intro k i hi; rw [p_X4_init e47]; exact hnj k i hi
  have hrs : hRS L45 r46 := by intro k i q hk hq; rw [p_X4_init e47] at hq; exact hrs k i q hk hq
  obtain ⟨g48, h⟩ := hx_gd h
  obtain ⟨g49, h⟩ := hx_gd h
  obtain ⟨g50, h⟩ := hx_gd h
  have hnj := NJ.smr (a := q42) (j := 3) hnj hrs (by decide) g49.1
  have hrs := hRS.smr (a := q42) (j := 3) hrs g49.1
  obtain ⟨g51, h⟩ := hx_gd h
  obtain ⟨q52, e53, h⟩ := hx_bind h
  obtain ⟨g54, h⟩ := hx_gd h
  obtain ⟨L55, X55, eL55, eX55, h⟩ := hx_lets h
  have hnj := NJ.new hnj eX55
  have hrs := hRS.new hrs eL55 eX55
  have hle : L.1 ≤ L55.1 := Nat.le_trans hle (by rw [eL55]; exact Nat.le_succ _)
  obtain ⟨r56, e57, h⟩ := hx_bind h
  obtain ⟨g58, h⟩ := hx_gd h
  obtain ⟨g59, h⟩ := hx_gd h
  obtain ⟨g60, h⟩ := hx_gd h
  have hnj := NJ.smr (a := q52) (j := 0) hnj hrs (by decide) g59.1
  have hrs := hRS.smr (a := q52) (j := 0) hrs g59.1
  obtain ⟨g61, h⟩ := hx_gd h
  obtain ⟨q62, e63, h⟩ := hx_bind h
  obtain ⟨g64, h⟩ := hx_gd h
  obtain ⟨L65, X65, eL65, eX65, h⟩ := hx_lets h
  have hnj := NJ.new hnj eX65
  have hrs := hRS.new hrs eL65 eX65
  have hle : L.1 ≤ L65.1 := Nat.le_trans hle (by rw [eL65]; exact Nat.le_succ _)
  obtain ⟨r66, e67, h⟩ := hx_bind h
  obtain ⟨g68, h⟩ := hx_gd h
  obtain ⟨g69, h⟩ := hx_gd h
  obtain ⟨g70, h⟩ := hx_gd h
  have hnj := NJ.smr (a := q62) (j := 1) hnj hrs (by decide) g69.1
  have hrs := hRS.smr (a := q62) (j := 1) hrs g69.1
  obtain ⟨g71, h⟩ := hx_gd h
  obtain ⟨q72, e73, h⟩ := hx_bind h
  obtain ⟨g74, h⟩ := hx_gd h
  obtain ⟨L75, X75, eL75, eX75, h⟩ := hx_lets h
  have hnj := NJ.new hnj eX75
  have hrs := hRS.new hrs eL75 eX75
  have hle : L.1 ≤ L75.1 := Nat.le_trans hle (by rw [eL75]; exact Nat.le_succ _)
  obtain ⟨r76, e77, h⟩ := hx_bind h
  obtain ⟨g78, h⟩ := hx_gd h
  obtain ⟨g79, h⟩ := hx_gd h
  obtain ⟨g80, h⟩ := hx_gd h
  have hnj := NJ.smr (a := q72) (j := 2) hnj hrs (by decide) g79.1
  have hrs := hRS.smr (a := q72) (j := 2) hrs g79.1
  obtain ⟨g81, h⟩ := hx_gd h
  obtain ⟨q82, e83, h⟩ := hx_bind h
  obtain ⟨g84, h⟩ := hx_gd h
  obtain ⟨L85, X85, eL85, eX85, h⟩ := hx_lets h
  have hnj := NJ.new hnj eX85
  have hrs := hRS.new hrs eL85 eX85
  have hle : L.1 ≤ L85.1 := Nat.le_trans hle (by rw [eL85]; exact Nat.le_succ _)
  obtain ⟨r86, e87, h⟩ := hx_bind h
  obtain ⟨g88, h⟩ := hx_gd h
  obtain ⟨g89, h⟩ := hx_gd h
  obtain ⟨g90, h⟩ := hx_gd h
  have hnj := NJ.smr (a := q82) (j := 3) hnj hrs (by decide) g89.1
  have hrs := hRS.smr (a := q82) (j := 3) hrs g89.1
  obtain ⟨g91, h⟩ := hx_gd h
  obtain ⟨q92, e93, h⟩ := hx_bind h
  obtain ⟨g94, h⟩ := hx_gd h
  obtain ⟨L95, X95, eL95, eX95, h⟩ := hx_lets h
  have hnj := NJ.new hnj eX95
  have hrs := hRS.new hrs eL95 eX95
  have hle : L.1 ≤ L95.1 := Nat.le_trans hle (by rw [eL95]; exact Nat.le_succ _)
  obtain ⟨r96, e97, h⟩ := hx_bind h
  obtain ⟨g98, h⟩ := hx_gd h
  obtain ⟨g99, h⟩ := hx_gd h
  obtain ⟨g100, h⟩ := hx_gd h
  have hnj := NJ.smr (a := q92) (j := 4) hnj hrs (by decide) g99.1
  have hrs := hRS.smr (a := q92) (j := 4) hrs g99.1
  obtain ⟨g101, h⟩ := hx_gd h
  obtain ⟨q102, e103, h⟩ := hx_bind h
  obtain ⟨g104, h⟩ := hx_gd h
  obtain ⟨L105, X105, eL105, eX105, h⟩ := hx_lets h
  have hnj := NJ.new hnj eX105
  have hrs := hRS.new hrs eL105 eX105
  have hle : L.1 ≤ L105.1 := Nat.le_trans hle (by rw [eL105]; exact Nat.le_succ _)
  obtain ⟨r106, e107, h⟩ := hx_bind h
  obtain ⟨g108, h⟩ := hx_gd h
  obtain ⟨g109, h⟩ := hx_gd h
  obtain ⟨g110, h⟩ := hx_gd h
  have hnj := NJ.smr (a := q102) (j := 5) hnj hrs (by decide) g109.1
  have hrs := hRS.smr (a := q102) (j := 5) hrs g109.1
  obtain ⟨g111, h⟩ := hx_gd h
  obtain ⟨q112, e113, h⟩ := hx_bind h
  obtain ⟨g114, h⟩ := hx_gd h
  obtain ⟨L115, X115, eL115, eX115, h⟩ := hx_lets h
  have hnj := NJ.new hnj eX115
  have hrs := hRS.new hrs eL115 eX115
  have hle : L.1 ≤ L115.1 := Nat.le_trans hle (by rw [eL115]; exact Nat.le_succ _)
  obtain ⟨r116, e117, h⟩ := hx_bind h
  obtain ⟨g118, h⟩ := hx_gd h
  obtain ⟨g119, h⟩ := hx_gd h
  obtain ⟨g120, h⟩ := hx_gd h
  have hnj := NJ.smr (a := q112) (j := 0) hnj hrs (by decide) g119.1
  have hrs := hRS.smr (a := q112) (j := 0) hrs g119.1
  obtain ⟨g121, h⟩ := hx_gd h
  obtain ⟨q122, e123, h⟩ := hx_bind h
  obtain ⟨g124, h⟩ := hx_gd h
  obtain ⟨L125, X125, eL125, eX125, h⟩ := hx_lets h
  have hnj := NJ.new hnj eX125
  have hrs := hRS.new hrs eL125 eX125
  have hle : L.1 ≤ L125.1 := Nat.le_trans hle (by rw [eL125]; exact Nat.le_succ _)
  obtain ⟨r126, e127, h⟩ := hx_bind h
  obtain ⟨g128, h⟩ := hx_gd h
  obtain ⟨g129, h⟩ := hx_gd h
  obtain ⟨g130, h⟩ := hx_gd h
  have hnj := NJ.smr (a := q122) (j := 1) hnj hrs (by decide) g129.1
  have hrs := hRS.smr (a := q122) (j := 1) hrs g129.1
  obtain ⟨g131, h⟩ := hx_gd h
  obtain ⟨q132, e133, h⟩ := hx_bind h
  obtain ⟨g134, h⟩ := hx_gd h
  obtain ⟨L135, X135, eL135, eX135, h⟩ := hx_lets h
  have hnj := NJ.new hnj eX135
  have hrs := hRS.new hrs eL135 eX135
  have hle : L.1 ≤ L135.1 := Nat.le_trans hle (by rw [eL135]; exact Nat.le_succ _)
  obtain ⟨r136, e137, h⟩ := hx_bind h
  obtain ⟨g138, h⟩ := hx_gd h
  obtain ⟨g139, h⟩ := hx_gd h
  obtain ⟨g140, h⟩ := hx_gd h
  have hnj := NJ.smr (a := q132) (j := 2) hnj hrs (by decide) g139.1
  have hrs := hRS.smr (a := q132) (j := 2) hrs g139.1
  obtain ⟨g141, h⟩ := hx_gd h
  obtain ⟨q142, e143, h⟩ := hx_bind h
  obtain ⟨g144, h⟩ := hx_gd h
  obtain ⟨L145, X145, eL145, eX145, h⟩ := hx_lets h
  have hnj := NJ.new hnj eX145
  have hrs := hRS.new hrs eL145 eX145
  have hle : L.1 ≤ L145.1 := Nat.le_trans hle (by rw [eL145]; exact Nat.le_succ _)
  obtain ⟨r146, e147, h⟩ := hx_bind h
  obtain ⟨g148, h⟩ := hx_gd h
  obtain ⟨g149, h⟩ := hx_gd h
  obtain ⟨g150, h⟩ := hx_gd h
  have hnj := NJ.smr (a := q142) (j := 3) hnj hrs (by decide) g149.1
  have hrs := hRS.smr (a := q142) (j := 3) hrs g149.1
  obtain ⟨g151, h⟩ := hx_gd h
  obtain ⟨q152, e153, h⟩ := hx_bind h
  obtain ⟨g154, h⟩ := hx_gd h
  obtain ⟨L155, X155, eL155, eX155, h⟩ := hx_lets h
  have hnj := NJ.new hnj eX155
  have hrs := hRS.new hrs eL155 eX155
  have hle : L.1 ≤ L155.1 := Nat.le_trans hle (by rw [eL155]; exact Nat.le_succ _)
  obtain ⟨r156, e157, h⟩ := hx_bind h
  obtain ⟨g158, h⟩ := hx_gd h
  obtain ⟨g159, h⟩ := hx_gd h
  obtain ⟨g160, h⟩ := hx_gd h
  have hnj := NJ.smr (a := q152) (j := 4) hnj hrs (by decide) g159.1
  have hrs := hRS.smr (a := q152) (j := 4) hrs g159.1
  obtain ⟨g161, h⟩ := hx_gd h
  obtain ⟨q162, e163, h⟩ := hx_bind h
  obtain ⟨g164, h⟩ := hx_gd h
  obtain ⟨L165, X165, eL165, eX165, h⟩ := hx_lets h
  have hnj := NJ.new hnj eX165
  have hrs := hRS.new hrs eL165 eX165
  have hle : L.1 ≤ L165.1 := Nat.le_trans hle (by rw [eL165]; exact Nat.le_succ _)
  obtain ⟨r166, e167, h⟩ := hx_bind h
  obtain ⟨g168, h⟩ := hx_gd h
  obtain ⟨g169, h⟩ := hx_gd h
  obtain ⟨g170, h⟩ := hx_gd h
  have hnj := NJ.smr (a := q162) (j := 5) hnj hrs (by decide) g169.1
  have hrs := hRS.smr (a := q162) (j := 5) hrs g169.1
  obtain ⟨rfl, rfl⟩ := hx_some2 h
  exact hnj
set_option maxRecDepth 100000 in
set_option maxHeartbeats 4000000 in
theorem nj_X8_init {L : hL} {X : hX} {this : Nat} {L' : hL} {X' : hX} (h : f_X8_init L X this = some (L', X')) (hrs : hRS L X) (hnj : NJ X) : NJ X' := by
  unfold f_X8_init at h
  have hle : L.1 ≤ L.1 := Nat.le_refl _
  obtain ⟨g1, h⟩ := hx_gd h
  obtain ⟨L2, X2, eL2, eX2, h⟩ := hx_lets h
  have hnj := NJ.new hnj eX2
  have hrs := hRS.new hrs eL2 eX2
  have hle : L.1 ≤ L2.1 := Nat.le_trans hle (by rw [eL2]; exact Nat.le_succ _)
  obtain ⟨q3, e4, h⟩ := hx_bind h
  have hnj := nj_X0_init (L' := q3.1) (X' := q3.2) e4 hrs hnj
  have z3 := rs_X0_init (L' := q3.1) (X' := q3.2) e4 hrs
  have hrs := z3.1
  have hle : L.1 ≤ q3.1.1 := Nat.le_trans hle z3.2
  obtain ⟨g5, h⟩ := hx_gd h
  have hnj := NJ.smr (a := this) (j := 0) hnj hrs (by decide) (Nat.lt_of_lt_of_le (by rw [eL2]; exact Nat.lt_succ_self _) z3.2)
  have hrs := hRS.smr (a := this) (j := 0) hrs (Nat.lt_of_lt_of_le (by rw [eL2]; exact Nat.lt_succ_self _) z3.2)
  obtain ⟨L6, X6, eL6, eX6, h⟩ := hx_lets h
  have hnj := NJ.new hnj eX6
  have hrs := hRS.new hrs eL6 eX6
  have hle : L.1 ≤ L6.1 := Nat.le_trans hle (by rw [eL6]; exact Nat.le_succ _)
  obtain ⟨g7, h⟩ := hx_gd h
  have hnj := NJ.smr (a := this) (j := 1) hnj hrs (by decide) (by rw [eL6]; exact Nat.lt_succ_self _)
  have hrs := hRS.smr (a := this) (j := 1) hrs (by rw [eL6]; exact Nat.lt_succ_self _)
  obtain ⟨L8, X8, eL8, eX8, h⟩ := hx_lets h
  have hnj := NJ.new hnj eX8
  have hrs := hRS.new hrs eL8 eX8
  have hle : L.1 ≤ L8.1 := Nat.le_trans hle (by rw [eL8]; exact Nat.le_succ _)
  obtain ⟨g9, h⟩ := hx_gd h
  have hnj := NJ.smr (a := this) (j := 2) hnj hrs (by decide) (by rw [eL8]; exact Nat.lt_succ_self _)
  have hrs := hRS.smr (a := this) (j := 2) hrs (by rw [eL8]; exact Nat.lt_succ_self _)
  obtain ⟨q10, e11, h⟩ := hx_bind h
  obtain ⟨g12, h⟩ := hx_gd h
  obtain ⟨L13, X13, eL13, eX13, h⟩ := hx_lets h
  have hnj := NJ.new hnj eX13
  have hrs := hRS.new hrs eL13 eX13
  have hle : L.1 ≤ L13.1 := Nat.le_trans hle (by rw [eL13]; exact Nat.le_succ _)
  obtain ⟨q14, e15, h⟩ := hx_bind h
  have hnj := nj_X0_init (L' := q14.1) (X' := q14.2) e15 hrs hnj
  have z14 := rs_X0_init (L' := q14.1) (X' := q14.2) e15 hrs
  have hrs := z14.1
  have hle : L.1 ≤ q14.1.1 := Nat.le_trans hle z14.2
  obtain ⟨g16, h⟩ := hx_gd h
  obtain ⟨g17, h⟩ := hx_gd h
  obtain ⟨g18, h⟩ := hx_gd h
  have hnj := NJ.smr (a := q10) (j := 0) hnj hrs (by decide) g17.1
  have hrs := hRS.smr (a := q10) (j := 0) hrs g17.1
  obtain ⟨g19, h⟩ := hx_gd h
  obtain ⟨q20, e21, h⟩ := hx_bind h
  obtain ⟨g22, h⟩ := hx_gd h
  obtain ⟨L23, X23, eL23, eX23, h⟩ := hx_lets h
  have hnj := NJ.new hnj eX23
  have hrs := hRS.new hrs eL23 eX23
  have hle : L.1 ≤ L23.1 := Nat.le_trans hle (by rw [eL23]; exact Nat.le_succ _)
  obtain ⟨q24, e25, h⟩ := hx_bind h
  have hnj := nj_X0_init (L' := q24.1) (X' := q24.2) e25 hrs hnj
  have z24 := rs_X0_init (L' := q24.1) (X' := q24.2) e25 hrs
  have hrs := z24.1
  have hle : L.1 ≤ q24.1.1 := Nat.le_trans hle z24.2
  obtain ⟨g26, h⟩ := hx_gd h
  obtain ⟨g27, h⟩ := hx_gd h
  obtain ⟨g28, h⟩ := hx_gd h
  have hnj := NJ.smr (a := q20) (j := 1) hnj hrs (by decide) g27.1
  have hrs := hRS.smr (a := q20) (j := 1) hrs g27.1
  obtain ⟨rfl, rfl⟩ := hx_some2 h
  exact hnj
set_option maxRecDepth 100000 in
set_option maxHeartbeats 4000000 in
theorem nj_X3_init {L : hL} {X : hX} {this : Nat} {L' : hL} {X' : hX} (h : f_X3_init L X this = some (L', X')) (hrs : hRS L X) (hnj : NJ X) : NJ X' := by
  unfold f_X3_init at h
  have hle : L.1 ≤ L.1 := Nat.le_refl _
  obtain ⟨g1, h⟩ := hx_gd h
  obtain ⟨L2, X2, eL2, eX2, h⟩ := hx_lets h
  have hnj := NJ.new hnj eX2
  have hrs := hRS.new hrs eL2 eX2
  have hle : L.1 ≤ L2.1 := Nat.le_trans hle (by rw [eL2]; exact Nat.le_succ _)
  obtain ⟨g3, h⟩ := hx_gd h
  have hnj := NJ.smr (a := this) (j := 0) hnj hrs (by decide) (by rw [eL2]; exact Nat.lt_succ_self _)
  have hrs := hRS.smr (a := this) (j := 0) hrs (by rw [eL2]; exact Nat.lt_succ_self _)
  obtain ⟨L4, X4, eL4, eX4, h⟩ := hx_lets h
  have hnj := NJ.new hnj eX4
  have hrs := hRS.new hrs eL4 eX4
  have hle : L.1 ≤ L4.1 := Nat.le_trans hle (by rw [eL4]; exact Nat.le_succ _)
  obtain ⟨q5, e6, h⟩ := hx_bind h
  have hnj := nj_X8_init (L' := q5.1) (X' := q5.2) e6 hrs hnj
  have z5 := rs_X8_init (L' := q5.1) (X' := q5.2) e6 hrs
  have hrs := z5.1
  have hle : L.1 ≤ q5.1.1 := Nat.le_trans hle z5.2
  obtain ⟨g7, h⟩ := hx_gd h
  have hnj := NJ.smr (a := this) (j := 1) hnj hrs (by decide) (Nat.lt_of_lt_of_le (by rw [eL4]; exact Nat.lt_succ_self _) z5.2)
  have hrs := hRS.smr (a := this) (j := 1) hrs (Nat.lt_of_lt_of_le (by rw [eL4]; exact Nat.lt_succ_self _) z5.2)
  obtain ⟨L8, X8, eL8, eX8, h⟩ := hx_lets h
  have hnj := NJ.new hnj eX8
  have hrs := hRS.new hrs eL8 eX8
  have hle : L.1 ≤ L8.1 := Nat.le_trans hle (by rw [eL8]; exact Nat.le_succ _)
  obtain ⟨q9, e10, h⟩ := hx_bind h
  have hnj := nj_X8_init (L' := q9.1) (X' := q9.2) e10 hrs hnj
  have z9 := rs_X8_init (L' := q9.1) (X' := q9.2) e10 hrs
  have hrs := z9.1
  have hle : L.1 ≤ q9.1.1 := Nat.le_trans hle z9.2
  obtain ⟨g11, h⟩ := hx_gd h
  have hnj := NJ.smr (a := this) (j := 2) hnj hrs (by decide) (Nat.lt_of_lt_of_le (by rw [eL8]; exact Nat.lt_succ_self _) z9.2)
  have hrs := hRS.smr (a := this) (j := 2) hrs (Nat.lt_of_lt_of_le (by rw [eL8]; exact Nat.lt_succ_self _) z9.2)
  obtain ⟨q12, e13, h⟩ := hx_bind h
  obtain ⟨g14, h⟩ := hx_gd h
  obtain ⟨L15, X15, eL15, eX15, h⟩ := hx_lets h
  have hnj := NJ.new hnj eX15
  have hrs := hRS.new hrs eL15 eX15
  have hle : L.1 ≤ L15.1 := Nat.le_trans hle (by rw [eL15]; exact Nat.le_succ _)
  obtain ⟨q16, e17, h⟩ := hx_bind h
  have hnj := nj_X8_init (L' := q16.1) (X' := q16.2) e17 hrs hnj
  have z16 := rs_X8_init (L' := q16.1) (X' := q16.2) e17 hrs
  have hrs := z16.1
  have hle : L.1 ≤ q16.1.1 := Nat.le_trans hle z16.2
  obtain ⟨g18, h⟩ := hx_gd h
  obtain ⟨g19, h⟩ := hx_gd h
  obtain ⟨g20, h⟩ := hx_gd h
  have hnj := NJ.smr (a := q12) (j := 0) hnj hrs (by decide) g19.1
  have hrs := hRS.smr (a := q12) (j := 0) hrs g19.1
  obtain ⟨g21, h⟩ := hx_gd h
  obtain ⟨q22, e23, h⟩ := hx_bind h
  obtain ⟨g24, h⟩ := hx_gd h
  obtain ⟨L25, X25, eL25, eX25, h⟩ := hx_lets h
  have hnj := NJ.new hnj eX25
  have hrs := hRS.new hrs eL25 eX25
  have hle : L.1 ≤ L25.1 := Nat.le_trans hle (by rw [eL25]; exact Nat.le_succ _)
  obtain ⟨q26, e27, h⟩ := hx_bind h
  have hnj := nj_X8_init (L' := q26.1) (X' := q26.2) e27 hrs hnj
  have z26 := rs_X8_init (L' := q26.1) (X' := q26.2) e27 hrs
  have hrs := z26.1
  have hle : L.1 ≤ q26.1.1 := Nat.le_trans hle z26.2
  obtain ⟨g28, h⟩ := hx_gd h
  obtain ⟨g29, h⟩ := hx_gd h
  obtain ⟨g30, h⟩ := hx_gd h
  have hnj := NJ.smr (a := q22) (j := 1) hnj hrs (by decide) g29.1
  have hrs := hRS.smr (a := q22) (j := 1) hrs g29.1
  obtain ⟨g31, h⟩ := hx_gd h
  obtain ⟨q32, e33, h⟩ := hx_bind h
  obtain ⟨g34, h⟩ := hx_gd h
  obtain ⟨L35, X35, eL35, eX35, h⟩ := hx_lets h
  have hnj := NJ.new hnj eX35
  have hrs := hRS.new hrs eL35 eX35
  have hle : L.1 ≤ L35.1 := Nat.le_trans hle (by rw [eL35]; exact Nat.le_succ _)
  obtain ⟨q36, e37, h⟩ := hx_bind h
  have hnj := nj_X8_init (L' := q36.1) (X' := q36.2) e37 hrs hnj
  have z36 := rs_X8_init (L' := q36.1) (X' := q36.2) e37 hrs
  have hrs := z36.1
  have hle : L.1 ≤ q36.1.1 := Nat.le_trans hle z36.2
  obtain ⟨g38, h⟩ := hx_gd h
  obtain ⟨g39, h⟩ := hx_gd h
  obtain ⟨g40, h⟩ := hx_gd h
  have hnj := NJ.smr (a := q32) (j := 2) hnj hrs (by decide) g39.1
  have hrs := hRS.smr (a := q32) (j := 2) hrs g39.1
  obtain ⟨g41, h⟩ := hx_gd h
  obtain ⟨q42, e43, h⟩ := hx_bind h
  obtain ⟨g44, h⟩ := hx_gd h
  obtain ⟨L45, X45, eL45, eX45, h⟩ := hx_lets h
  have hnj := NJ.new hnj eX45
  have hrs := hRS.new hrs eL45 eX45
  have hle : L.1 ≤ L45.1 := Nat.le_trans hle (by rw [eL45]; exact Nat.le_succ _)
  obtain ⟨q46, e47, h⟩ := hx_bind h
  have hnj := nj_X8_init (L' := q46.1) (X' := q46.2) e47 hrs hnj
  have z46 := rs_X8_init (L' := q46.1) (X' := q46.2) e47 hrs
  have hrs := z46.1
  have hle : L.1 ≤ q46.1.1 := Nat.le_trans hle z46.2
  obtain ⟨g48, h⟩ := hx_gd h
  obtain ⟨g49, h⟩ := hx_gd h
  obtain ⟨g50, h⟩ := hx_gd h
  have hnj := NJ.smr (a := q42) (j := 3) hnj hrs (by decide) g49.1
  have hrs := hRS.smr (a := q42) (j := 3) hrs g49.1
  obtain ⟨g51, h⟩ := hx_gd h
  obtain ⟨q52, e53, h⟩ := hx_bind h
  obtain ⟨g54, h⟩ := hx_gd h
  obtain ⟨L55, X55, eL55, eX55, h⟩ := hx_lets h
  have hnj := NJ.new hnj eX55
  have hrs := hRS.new hrs eL55 eX55
  have hle : L.1 ≤ L55.1 := Nat.le_trans hle (by rw [eL55]; exact Nat.le_succ _)
  obtain ⟨q56, e57, h⟩ := hx_bind h
  have hnj := nj_X8_init (L' := q56.1) (X' := q56.2) e57 hrs hnj
  have z56 := rs_X8_init (L' := q56.1) (X' := q56.2) e57 hrs
  have hrs := z56.1
  have hle : L.1 ≤ q56.1.1 := Nat.le_trans hle z56.2
  obtain ⟨g58, h⟩ := hx_gd h
  obtain ⟨g59, h⟩ := hx_gd h
  obtain ⟨g60, h⟩ := hx_gd h
  have hnj := NJ.smr (a := q52) (j := 4) hnj hrs (by decide) g59.1
  have hrs := hRS.smr (a := q52) (j := 4) hrs g59.1
  obtain ⟨rfl, rfl⟩ := hx_some2 h
  exact hnj
set_option maxRecDepth 100000 in
set_option maxHeartbeats 4000000 in
theorem nj_X6_init {L : hL} {X : hX} {this : Nat} {L' : hL} {X' : hX} (h : f_X6_init L X this = some (L', X')) (hrs : hRS L X) (hnj : NJ X) : NJ X' := by
  unfold f_X6_init at h
  have hle : L.1 ≤ L.1 := Nat.le_refl _
  obtain ⟨g1, h⟩ := hx_gd h
  obtain ⟨L2, X2, eL2, eX2, h⟩ := hx_lets h
  have hnj := NJ.new hnj eX2
  have hrs := hRS.new hrs eL2 eX2
  have hle : L.1 ≤ L2.1 := Nat.le_trans hle (by rw [eL2]; exact Nat.le_succ _)
  obtain ⟨g3, h⟩ := hx_gd h
  have hnj := NJ.smr (a := this) (j := 0) hnj hrs (by decide) (by rw [eL2]; exact Nat.lt_succ_self _)
  have hrs := hRS.smr (a := this) (j := 0) hrs (by rw [eL2]; exact Nat.lt_succ_self _)
  obtain ⟨L4, X4, eL4, eX4, h⟩ := hx_lets h
  have hnj := NJ.new hnj eX4
  have hrs := hRS.new hrs eL4 eX4
  have hle : L.1 ≤ L4.1 := Nat.le_trans hle (by rw [eL4]; exact Nat.le_succ _)
  obtain ⟨g5, h⟩ := hx_gd h
  have hnj := NJ.smr (a := this) (j := 1) hnj hrs (by decide) (by rw [eL4]; exact Nat.lt_succ_self _)
  have hrs := hRS.smr (a := this) (j := 1) hrs (by rw [eL4]; exact Nat.lt_succ_self _)
  obtain ⟨L6, X6, eL6, eX6, h⟩ := hx_lets h
  have hnj := NJ.new hnj eX6
  have hrs := hRS.new hrs eL6 eX6
  have hle : L.1 ≤ L6.1 := Nat.le_trans hle (by rw [eL6]; exact Nat.le_succ _)
  obtain ⟨r7, e8, h⟩ := hx_bind h
  obtain ⟨g9, h⟩ := hx_gd h
  have hnj := NJ.smr (a := this) (j := 2) hnj hrs (by decide) (by rw [eL6]; exact Nat.lt_succ_self _)
  have hrs := hRS.smr (a := this) (j := 2) hrs (by rw [eL6]; exact Nat.lt_succ_self _)
  obtain ⟨rfl, rfl⟩ := hx_some2 h
  exact hnj
set_option maxRecDepth 100000 in
set_option maxHeartbeats 4000000 in
theorem nj_X9_init {L : hL} {X : hX} {this : Nat} {L' : hL} {X' : hX} (h : f_X9_init L X this = some (L', X')) (hrs : hRS L X) (hnj : NJ X) : NJ X' := by
  unfold f_X9_init at h
  have hle : L.1 ≤ L.1 := Nat.le_refl _
  obtain ⟨g1, h⟩ := hx_gd h
  obtain ⟨L2, X2, eL2, eX2, h⟩ := hx_lets h
  have hnj := NJ.new hnj eX2
  have hrs := hRS.new hrs eL2 eX2
  have hle : L.1 ≤ L2.1 := Nat.le_trans hle (by rw [eL2]; exact Nat.le_succ _)
  obtain ⟨q3, e4, h⟩ := hx_bind h
  have hnj := nj_X3_init (L' := q3.1) (X' := q3.2) e4 hrs hnj
  have z3 := rs_X3_init (L' := q3.1) (X' := q3.2) e4 hrs
  have hrs := z3.1
  have hle : L.1 ≤ q3.1.1 := Nat.le_trans hle z3.2
  obtain ⟨g5, h⟩ := hx_gd h
  have hnj := NJ.smr (a := this) (j := 0) hnj hrs (by decide) (Nat.lt_of_lt_of_le (by rw [eL2]; exact Nat.lt_succ_self _) z3.2)
  have hrs := hRS.smr (a := this) (j := 0) hrs (Nat.lt_of_lt_of_le (by rw [eL2]; exact Nat.lt_succ_self _) z3.2)
  obtain ⟨L6, X6, eL6, eX6, h⟩ := hx_lets h
  have hnj := NJ.new hnj eX6
  have hrs := hRS.new hrs eL6 eX6
  have hle : L.1 ≤ L6.1 := Nat.le_trans hle (by rw [eL6]; exact Nat.le_succ _)
  obtain ⟨q7, e8, h⟩ := hx_bind h
  have hnj := nj_X6_init (L' := q7.1) (X' := q7.2) e8 hrs hnj
  have z7 := rs_X6_init (L' := q7.1) (X' := q7.2) e8 hrs
  have hrs := z7.1
  have hle : L.1 ≤ q7.1.1 := Nat.le_trans hle z7.2
  obtain ⟨g9, h⟩ := hx_gd h
  have hnj := NJ.smr (a := this) (j := 1) hnj hrs (by decide) (Nat.lt_of_lt_of_le (by rw [eL6]; exact Nat.lt_succ_self _) z7.2)
  have hrs := hRS.smr (a := this) (j := 1) hrs (Nat.lt_of_lt_of_le (by rw [eL6]; exact Nat.lt_succ_self _) z7.2)
  obtain ⟨L10, X10, eL10, eX10, h⟩ := hx_lets h
  have hnj := NJ.new hnj eX10
  have hrs := hRS.new hrs eL10 eX10
  have hle : L.1 ≤ L10.1 := Nat.le_trans hle (by rw [eL10]; exact Nat.le_succ _)
  obtain ⟨r11, e12, h⟩ := hx_bind h
  obtain ⟨g13, h⟩ := hx_gd h
  have hnj := NJ.smr (a := this) (j := 2) hnj hrs (by decide) (by rw [eL10]; exact Nat.lt_succ_self _)
  have hrs := hRS.smr (a := this) (j := 2) hrs (by rw [eL10]; exact Nat.lt_succ_self _)
  obtain ⟨rfl, rfl⟩ := hx_some2 h
  exact hnj
set_option maxRecDepth 100000 in
set_option maxHeartbeats 4000000 in
theorem nj_X10_init {L : hL} {X : hX} {this : Nat} {L' : hL} {X' : hX} (h : f_X10_init L X this = some (L', X')) (hrs : hRS L X) (hnj : NJ X) : NJ X' := by
  unfold f_X10_init at h
  have hle : L.1 ≤ L.1 := Nat.le_refl _
  obtain ⟨g1, h⟩ := hx_gd h
  obtain ⟨L2, X2, eL2, eX2, h⟩ := hx_lets h
  have hnj := NJ.new hnj eX2
  have hrs := hRS.new hrs eL2 eX2
  have hle : L.1 ≤ L2.1 := Nat.le_trans hle (by rw [eL2]; exact Nat.le_succ _)
  obtain ⟨g3, h⟩ := hx_gd h
  have hnj := NJ.smr (a := this) (j := 0) hnj hrs (by decide) (by rw [eL2]; exact Nat.lt_succ_self _)
  have hrs := hRS.smr (a := this) (j := 0) hrs (by rw [eL2]; exact Nat.lt_succ_self _)
  obtain ⟨L4, X4, eL4, eX4, h⟩ := hx_lets h
  have hnj := NJ.new hnj eX4
  have hrs := hRS.new hrs eL4 eX4
  have hle : L.1 ≤ L4.1 := Nat.le_trans hle (by rw [eL4]; exact Nat.le_succ _)
  obtain ⟨g5, h⟩ := hx_gd h
  have hnj := NJ.smr (a := this) (j := 1) hnj hrs (by decide) (by rw [eL4]; exact Nat.lt_succ_self _)
  have hrs := hRS.smr (a := this) (j := 1) hrs (by rw [eL4]; exact Nat.lt_succ_self _)
  obtain ⟨L6, X6, eL6, eX6, h⟩ := hx_lets h
  have hnj := NJ.new hnj eX6
  have hrs := hRS.new hrs eL6 eX6
  have hle : L.1 ≤ L6.1 := Nat.le_trans hle (by rw [eL6]; exact Nat.le_succ _)
  obtain ⟨g7, h⟩ := hx_gd h
  have hnj := NJ.smr (a := this) (j := 2) hnj hrs (by decide) (by rw [eL6]; exact Nat.lt_succ_self _)
  have hrs := hRS.smr (a := this) (j := 2) hrs (by rw [eL6]; exact Nat.lt_succ_self _)
  obtain ⟨L8, X8, eL8, eX8, h⟩ := hx_lets h
  have hnj := NJ.new hnj eX8
  have hrs := hRS.new hrs eL8 eX8
  have hle : L.1 ≤ L8.1 := Nat.le_trans hle (by rw [eL8]; exact Nat.le_succ _)
  obtain ⟨g9, h⟩ := hx_gd h
  have hnj := NJ.smr (a := this) (j := 3) hnj hrs (by decide) (by rw [eL8]; exact Nat.lt_succ_self _)
  have hrs := hRS.smr (a := this) (j := 3) hrs (by rw [eL8]; exact Nat.lt_succ_self _)
  obtain ⟨L10, X10, eL10, eX10, h⟩ := hx_lets h
  have hnj := NJ.new hnj eX10
  have hrs := hRS.new hrs eL10 eX10
  have hle : L.1 ≤ L10.1 := Nat.le_trans hle (by rw [eL10]; exact Nat.le_succ _)
  obtain ⟨g11, h⟩ := hx_gd h
  have hnj := NJ.smr (a := this) (j := 5) hnj hrs (by decide) (by rw [eL10]; exact Nat.lt_succ_self _)
  have hrs := hRS.smr (a := this) (j := 5) hrs (by rw [eL10]; exact Nat.lt_succ_self _)
  obtain ⟨L12, X12, eL12, eX12, h⟩ := hx_lets h
  have hnj := NJ.new hnj eX12
  have hrs := hRS.new hrs eL12 eX12
  have hle : L.1 ≤ L12.1 := Nat.le_trans hle (by rw [eL12]; exact Nat.le_succ _)
  obtain ⟨g13, h⟩ := hx_gd h
  have hnj := NJ.smr (a := this) (j := 7) hnj hrs (by decide) (by rw [eL12]; exact Nat.lt_succ_self _)
  have hrs := hRS.smr (a := this) (j := 7) hrs (by rw [eL12]; exact Nat.lt_succ_self _)
  obtain ⟨L14, X14, eL14, eX14, h⟩ := hx_lets h
  have hnj := NJ.new hnj eX14
  have hrs := hRS.new hrs eL14 eX14
  have hle : L.1 ≤ L14.1 := Nat.le_trans hle (by rw [eL14]; exact Nat.le_succ _)
  obtain ⟨g15, h⟩ := hx_gd h
  have hnj := NJ.smr (a := this) (j := 12) hnj hrs (by decide) (by rw [eL14]; exact Nat.lt_succ_self _)
  have hrs := hRS.smr (a := this) (j := 12) hrs (by rw [eL14]; exact Nat.lt_succ_self _)
  obtain ⟨q16, e17, h⟩ := hx_bind h
  obtain ⟨g18, h⟩ := hx_gd h
  obtain ⟨g19, h⟩ := hx_gd h
  have hnj := NJ.smi (a := q16) (j := 0) (v := 1000) hnj
  have hrs := hRS.smi (a := q16) (j := 0) (v := 1000) hrs
  obtain ⟨q20, e21, h⟩ := hx_bind h
  obtain ⟨g22, h⟩ := hx_gd h
  obtain ⟨g23, h⟩ := hx_gd h
  have hnj := NJ.smi (a := q20) (j := 4) (v := 10) hnj
  have hrs := hRS.smi (a := q20) (j := 4) (v := 10) hrs
  obtain ⟨q24, e25, h⟩ := hx_bind h
  obtain ⟨g26, h⟩ := hx_gd h
  obtain ⟨g27, h⟩ := hx_gd h
  have hnj := NJ.smi (a := q24) (j := 1) (v := 1000) hnj
  have hrs := hRS.smi (a := q24) (j := 1) (v := 1000) hrs
  obtain ⟨q28, e29, h⟩ := hx_bind h
  obtain ⟨g30, h⟩ := hx_gd h
  obtain ⟨g31, h⟩ := hx_gd h
  have hnj := NJ.smi (a := q28) (j := 5) (v := 10) hnj
  have hrs := hRS.smi (a := q28) (j := 5) (v := 10) hrs
  obtain ⟨q32, e33, h⟩ := hx_bind h
  obtain ⟨g34, h⟩ := hx_gd h
  obtain ⟨g35, h⟩ := hx_gd h
  have hnj := NJ.smi (a := q32) (j := 2) (v := 1000) hnj
  have hrs := hRS.smi (a := q32) (j := 2) (v := 1000) hrs
  obtain ⟨q36, e37, h⟩ := hx_bind h
  obtain ⟨g38, h⟩ := hx_gd h
  obtain ⟨g39, h⟩ := hx_gd h
  have hnj := NJ.smi (a := q36) (j := 6) (v := 10) hnj
  have hrs := hRS.smi (a := q36) (j := 6) (v := 10) hrs
  obtain ⟨q40, e41, h⟩ := hx_bind h
  obtain ⟨g42, h⟩ := hx_gd h
  obtain ⟨g43, h⟩ := hx_gd h
  have hnj := NJ.smi (a := q40) (j := 3) (v := 1000) hnj
  have hrs := hRS.smi (a := q40) (j := 3) (v := 1000) hrs
  obtain ⟨q44, e45, h⟩ := hx_bind h
  obtain ⟨g46, h⟩ := hx_gd h
  obtain ⟨g47, h⟩ := hx_gd h
  have hnj := NJ.smi (a := q44) (j := 7) (v := 10) hnj
  have hrs := hRS.smi (a := q44) (j := 7) (v := 10) hrs
  obtain ⟨q48, e49, h⟩ := hx_bind h
  obtain ⟨g50, h⟩ := hx_gd h
  obtain ⟨g51, h⟩ := hx_gd h
  have hnj := NJ.smi (a := q48) (j := 8) (v := 100) hnj
  have hrs := hRS.smi (a := q48) (j := 8) (v := 100) hrs
  obtain ⟨q52, e53, h⟩ := hx_bind h
  obtain ⟨g54, h⟩ := hx_gd h
  obtain ⟨g55, h⟩ := hx_gd h
  have hnj := NJ.smi (a := q52) (j := 9) (v := 50) hnj
  have hrs := hRS.smi (a := q52) (j := 9) (v := 50) hrs
  obtain ⟨q56, e57, h⟩ := hx_bind h
  obtain ⟨g58, h⟩ := hx_gd h
  obtain ⟨g59, h⟩ := hx_gd h
  have hnj := NJ.smi (a := q56) (j := 12) (v := 5) hnj
  have hrs := hRS.smi (a := q56) (j := 12) (v := 5) hrs
  obtain ⟨rfl, rfl⟩ := hx_some2 h
  exact hnj
