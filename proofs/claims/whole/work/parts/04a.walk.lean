def f_X9_within (L : hL) (X : hX) (a1 : Int32) (a2 : Int32) (a3 : Int32) : Option (Int32) :=
  if a1 < a2 then
    some 0
  else
    if a3 < a1 then
      some 0
    else
      some 1
set_option maxRecDepth 100000 in
set_option maxHeartbeats 4000000 in
theorem c_X9_within {l : Launch} {dC : Nat → ClassId} {dI : Nat → Nat → Nat} {cy : Nat → ClassId} {ad : Nat → Nat} {L : hL} {X : hX} {a1 : Int32} {a2 : Int32} {a3 : Int32} {r : Int32} (h : f_X9_within L X a1 a2 a3 = some r) : hMet l dC dI cy ad L yX9_within wsX9_within ({ frames := 0, cells := 0, slots := 0, locals := 0 } : Room) [.int a1, .int a2, .int a3] X (some (.int r)) X := by
  unfold f_X9_within at h
  refine hx_enter RX9 (by decide) rfl rfl (Nat.le_of_ble_eq_true rfl) (fun p e s m args below meth c C hr hnm ls hl => ?_)
  have hl : lv_has ls 3 [(0, .int a1), (1, .int a2), (2, .int a3)] := hl
  refine hx_iload_n C dX9_within_0 rfl (lv_at hl 0 rfl) ?_
  refine hx_iload_n C dX9_within_1 rfl (lv_at hl 1 rfl) ?_
  refine hx_icmp_lt (tgt := 14) C dX9_within_2 (by decide) (fun c1 => ?_) (fun c1 => ?_)
  · have h := hx_pos c1 h
    refine hx_iconst (v := 0) C dX9_within_14 (by decide) ?_
    cases h
    exact hx_zret C hr rfl dX9_within_15
  · have h := hx_neg c1 h
    refine hx_iload_n C dX9_within_5 rfl (lv_at hl 0 rfl) ?_
    refine hx_iload_n C dX9_within_6 rfl (lv_at hl 2 rfl) ?_
    refine hx_icmp_gt (tgt := 14) C dX9_within_7 (by decide) (fun c2 => ?_) (fun c2 => ?_)
    · have h := hx_pos c2 h
      refine hx_iconst (v := 0) C dX9_within_14 (by decide) ?_
      cases h
      exact hx_zret C hr rfl dX9_within_15
    · have h := hx_neg c2 h
      refine hx_iconst (v := 1) C dX9_within_10 (by decide) ?_
      refine hx_goto (tgt := 15) C dX9_within_11 (by decide) ?_
      cases h
      exact hx_zret C hr rfl dX9_within_15
theorem uX0_kindAt_0 : ∀ w ∈ u_ws RX0 TX0 9, w ∈ wsX0_kindAt := by decide +kernel
def f_X0_kindAt (L : hL) (X : hX) (this : Nat) (a1 : Int32) : Option (Option Nat) :=
  (f_X9_within L X a1 0 3).bind fun r1 =>
  if r1 = 0 then
    some none
  else
    if tk L this 0 then
    (X.2 this 0).bind fun q5 =>
    if tk L q5 16 then
    if hin a1 (L.2.2 q5) then
    (X.2 q5 (Int32.toNatClampNeg a1)).bind fun q9 =>
    some (some q9)
    else none
    else none
    else none
set_option maxRecDepth 100000 in
set_option maxHeartbeats 4000000 in
theorem c_X0_kindAt {l : Launch} {dC : Nat → ClassId} {dI : Nat → Nat → Nat} {cy : Nat → ClassId} {ad : Nat → Nat} {L : hL} {X : hX} {this : Nat} {a1 : Int32} {r : Option Nat} (h : f_X0_kindAt L X this a1 = some r) : hMet l dC dI cy ad L yX0_kindAt wsX0_kindAt ({ frames := 1, cells := 0, slots := 0, locals := 22 } : Room) [.ref (ad this), .int a1] X (some (va_re ad r)) X := by
  unfold f_X0_kindAt at h
  refine hx_enter RX0 (by decide) rfl rfl (Nat.le_of_ble_eq_true rfl) (fun p e s m args below meth c C hr hnm ls hl => ?_)
  have hl : lv_has ls 2 [(0, .ref (ad this)), (1, .int a1)] := hl
  refine hx_iload_n C dX0_kindAt_0 rfl (lv_at hl 1 rfl) ?_
  refine hx_iconst (v := 0) C dX0_kindAt_1 (by decide) ?_
  refine hx_iconst (v := 3) C dX0_kindAt_2 (by decide) ?_
  obtain ⟨r1, e2, h⟩ := hx_bind h
  refine hx_callSN (As := [.int a1, .int 0, .int 3]) (rest := []) (n := 3) (host := "TicketScales") C (c_X9_within e2) gX0_kindAt_X9_within_n68 (by decide) (by decide +kernel) (by decide +kernel) (by decide +kernel) ⟨Nat.le_of_ble_eq_true rfl, Nat.le_of_ble_eq_true rfl⟩ rfl rfl rfl ⟨Nat.zero_le _, Nat.zero_le _⟩ hl.1 rfl rfl (by decide) dX0_kindAt_3 ?_
  refine hx_if_eq (tgt := 18) C dX0_kindAt_6 (by decide) (fun c3 => ?_) (fun c3 => ?_)
  · have h := hx_pos c3 h
    refine hx_null C dX0_kindAt_18 ?_
    cases h
    exact hx_aretN C hr (Or.inl ⟨_, rfl⟩) dX0_kindAt_19
  · have h := hx_neg c3 h
    refine hx_aload_n C dX0_kindAt_9 rfl (lv_at hl 0 rfl) ?_
    obtain ⟨g4, h⟩ := hx_gd h
    obtain ⟨q5, e6, h⟩ := hx_bind h
    refine hx_getr C (ci := 0) (j := 0) g4 uX0_kindAt_0 (by decide) rfl (by decide) rfl (by decide +kernel) rfl dX0_kindAt_10 e6 ?_
    refine hx_iload_n C dX0_kindAt_13 rfl (lv_at hl 1 rfl) ?_
    obtain ⟨g7, h⟩ := hx_gd h
    obtain ⟨g8, h⟩ := hx_gd h
    obtain ⟨q9, e10, h⟩ := hx_bind h
    refine hx_aald (t0 := 5) C g7 (by decide) rfl g8 rfl e10 dX0_kindAt_14 ?_
    refine hx_goto (tgt := 19) C dX0_kindAt_15 (by decide) ?_
    cases h
    exact hx_aret C hr (Or.inl ⟨_, rfl⟩) dX0_kindAt_19
theorem uX0_changeKind_4 : ∀ w ∈ u_ws RX4 TX4 2, w ∈ wsX0_changeKind := by decide +kernel
def f_X0_changeKind (L : hL) (X : hX) (this : Nat) (a1 : Int32) (a2 : Int32) (a3 : Int32) : Option (Int32 × hX) :=
  (f_X0_kindAt L X this a1).bind fun r1 =>
  if tk L this 0 then
  Option.elim r1
  (
    some ((-100001), X))
  fun i4 =>
    (f_X9_within L X a2 100 5000).bind fun r5 =>
    if r5 = 0 then
      some ((-100001), X)
    else
      (f_X9_within L X a3 0 50).bind fun r8 =>
      if r8 = 0 then
        some ((-100001), X)
      else
        if tk L i4 4 then
        some (X.1 i4 0, smi (smi X i4 0 a2) i4 1 a3)
        else none
  else none
set_option maxRecDepth 100000 in
set_option maxHeartbeats 4000000 in
theorem c_X0_changeKind {l : Launch} {dC : Nat → ClassId} {dI : Nat → Nat → Nat} {cy : Nat → ClassId} {ad : Nat → Nat} {L : hL} {X : hX} {this : Nat} {a1 : Int32} {a2 : Int32} {a3 : Int32} {r : Int32} {X' : hX} (h : f_X0_changeKind L X this a1 a2 a3 = some (r, X')) : hMet l dC dI cy ad L yX0_changeKind wsX0_changeKind ({ frames := 2, cells := 0, slots := 0, locals := 43 } : Room) [.ref (ad this), .int a1, .int a2, .int a3] X (some (.int r)) X' := by
  unfold f_X0_changeKind at h
  refine hx_enter RX0 (by decide) rfl rfl (Nat.le_of_ble_eq_true rfl) (fun p e s m args below meth c C hr hnm ls hl => ?_)
  have hl : lv_has ls 6 [(0, .ref (ad this)), (1, .int a1), (2, .int a2), (3, .int a3)] := hl
  refine hx_aload_n C dX0_changeKind_0 rfl (lv_at hl 0 rfl) ?_
  refine hx_iload_n C dX0_changeKind_1 rfl (lv_at hl 1 rfl) ?_
  obtain ⟨r1, e2, h⟩ := hx_bind h
  obtain ⟨g3, h⟩ := hx_gd h
  refine hx_callV (As := [.int a1]) (rest := []) (n := 1) (Cn := RX0) C (c_X0_kindAt e2) gX0_changeKind_X0_kindAt g3 (by decide) rfl (by decide +kernel) ⟨Nat.le_of_ble_eq_true rfl, Nat.le_of_ble_eq_true rfl⟩ rfl rfl rfl ⟨Nat.zero_le _, Nat.zero_le _⟩ hl.1 rfl rfl (by decide) dX0_changeKind_2 ?_
  rcases r1 with _ | i4
  · have h := hx_eln h
    refine hx_astoreN (lv' := [(4, .null), (0, .ref (ad this)), (1, .int a1), (2, .int a2), (3, .int a3)]) C dX0_changeKind_5 hl (by decide) rfl (fun ls hl => ?_)
    refine hx_aloadN C dX0_changeKind_7 (lv_at hl 0 rfl) ?_
    refine hx_ifnullN (tgt := 34) C dX0_changeKind_9 (by decide) ?_
    refine hx_ldc (v := (-100001)) C (by decide +kernel) dX0_changeKind_34 ?_
    cases h
    exact hx_iret C hr dX0_changeKind_36
  · have h := hx_els h
    refine hx_astore (lv' := [(4, .ref (ad i4)), (0, .ref (ad this)), (1, .int a1), (2, .int a2), (3, .int a3)]) C dX0_changeKind_5 hl (by decide) rfl (fun ls hl => ?_)
    refine hx_aload C dX0_changeKind_7 (lv_at hl 0 rfl) ?_
    refine hx_ifnull C dX0_changeKind_9 ?_
    refine hx_iload_n C dX0_changeKind_12 rfl (lv_at hl 3 rfl) ?_
    refine hx_bipush (v := 100) C dX0_changeKind_13 (by decide) ?_
    refine hx_sipush (v := 5000) C dX0_changeKind_15 (by decide) ?_
    obtain ⟨r5, e6, h⟩ := hx_bind h
    refine hx_callSN (As := [.int a2, .int 100, .int 5000]) (rest := []) (n := 3) (host := "TicketScales") C (c_X9_within e6) gX0_changeKind_X9_within_n68 (by decide) (by decide +kernel) (by decide +kernel) (by decide +kernel) ⟨Nat.le_of_ble_eq_true rfl, Nat.le_of_ble_eq_true rfl⟩ rfl rfl rfl ⟨Nat.zero_le _, Nat.zero_le _⟩ hl.1 rfl rfl (by decide) dX0_changeKind_18 ?_
    refine hx_if_eq (tgt := 34) C dX0_changeKind_21 (by decide) (fun c7 => ?_) (fun c7 => ?_)
    · have h := hx_pos c7 h
      refine hx_ldc (v := (-100001)) C (by decide +kernel) dX0_changeKind_34 ?_
      cases h
      exact hx_iret C hr dX0_changeKind_36
    · have h := hx_neg c7 h
      refine hx_iload_n C dX0_changeKind_24 rfl (lv_at hl 4 rfl) ?_
      refine hx_iconst (v := 0) C dX0_changeKind_25 (by decide) ?_
      refine hx_bipush (v := 50) C dX0_changeKind_26 (by decide) ?_
      obtain ⟨r8, e9, h⟩ := hx_bind h
      refine hx_callSN (As := [.int a3, .int 0, .int 50]) (rest := []) (n := 3) (host := "TicketScales") C (c_X9_within e9) gX0_changeKind_X9_within_n68 (by decide) (by decide +kernel) (by decide +kernel) (by decide +kernel) ⟨Nat.le_of_ble_eq_true rfl, Nat.le_of_ble_eq_true rfl⟩ rfl rfl rfl ⟨Nat.zero_le _, Nat.zero_le _⟩ hl.1 rfl rfl (by decide) dX0_changeKind_28 ?_
      refine hx_if_ne (tgt := 37) C dX0_changeKind_31 (by decide) (fun c10 => ?_) (fun c10 => ?_)
      · have h := hx_neg c10 h
        refine hx_aload C dX0_changeKind_37 (lv_at hl 0 rfl) ?_
        obtain ⟨g11, h⟩ := hx_gd h
        refine hx_geti C (ci := 4) (j := 0) g11 uX0_changeKind_4 (by decide) rfl (by decide) rfl (by decide +kernel) rfl dX0_changeKind_39 ?_
        refine hx_istore (lv' := [(5, .int (X.1 i4 0)), (4, .ref (ad i4)), (0, .ref (ad this)), (1, .int a1), (2, .int a2), (3, .int a3)]) C dX0_changeKind_42 hl (by decide) rfl (fun ls hl => ?_)
        refine hx_aload C dX0_changeKind_44 (lv_at hl 1 rfl) ?_
        refine hx_iload_n C dX0_changeKind_46 rfl (lv_at hl 4 rfl) ?_
        refine hx_puti C (ci := 4) (j := 0) tyX4 tyX4_ok nmX4 g11 uX0_changeKind_4 (by decide) rfl (by decide) rfl (by decide +kernel) rfl rfl (by decide +kernel) dX0_changeKind_47 rfl rfl ?_
        refine hx_aload C dX0_changeKind_50 (lv_at hl 1 rfl) ?_
        refine hx_iload_n C dX0_changeKind_52 rfl (lv_at hl 5 rfl) ?_
        refine hx_puti C (ci := 4) (j := 1) tyX4 tyX4_ok nmX4 g11 uX0_changeKind_4 (by decide) rfl (by decide) rfl (by decide +kernel) rfl rfl (by decide +kernel) dX0_changeKind_53 rfl rfl ?_
        refine hx_iload C dX0_changeKind_56 (lv_at hl 0 rfl) ?_
        cases h
        exact hx_iret C hr dX0_changeKind_58
      · have h := hx_pos c10 h
        refine hx_ldc (v := (-100001)) C (by decide +kernel) dX0_changeKind_34 ?_
        cases h
        exact hx_iret C hr dX0_changeKind_36
theorem uX1_gain_1 : ∀ w ∈ u_ws RX1 TX1 6, w ∈ wsX1_gain := by decide +kernel
def f_X1_gain (L : hL) (X : hX) (this : Nat) (a1 : Int32) : Option (hX) :=
  if tk L this 1 then
  some (smi X this 0 (if 0 < ((X.1 this 0) + a1) then ((X.1 this 0) + a1) else 0))
  else none
set_option maxRecDepth 100000 in
set_option maxHeartbeats 4000000 in
theorem c_X1_gain {l : Launch} {dC : Nat → ClassId} {dI : Nat → Nat → Nat} {cy : Nat → ClassId} {ad : Nat → Nat} {L : hL} {X : hX} {this : Nat} {a1 : Int32} {X' : hX} (h : f_X1_gain L X this a1 = some X') : hMet l dC dI cy ad L yX1_gain wsX1_gain ({ frames := 1, cells := 0, slots := 0, locals := 24 } : Room) [.ref (ad this), .int a1] X none X' := by
  unfold f_X1_gain at h
  refine hx_enter RX1 (by decide) rfl rfl (Nat.le_of_ble_eq_true rfl) (fun p e s m args below meth c C hr hnm ls hl => ?_)
  have hl : lv_has ls 2 [(0, .ref (ad this)), (1, .int a1)] := hl
  refine hx_aload_n C dX1_gain_0 rfl (lv_at hl 0 rfl) ?_
  refine hx_iconst (v := 0) C dX1_gain_1 (by decide) ?_
  refine hx_aload_n C dX1_gain_2 rfl (lv_at hl 0 rfl) ?_
  obtain ⟨g1, h⟩ := hx_gd h
  refine hx_geti C (ci := 1) (j := 0) g1 uX1_gain_1 (by decide) rfl (by decide) rfl (by decide +kernel) rfl dX1_gain_3 ?_
  refine hx_iload_n C dX1_gain_6 rfl (lv_at hl 1 rfl) ?_
  refine hx_iadd C dX1_gain_7 ?_
  refine hx_mmax C (by decide +kernel) (by decide +kernel) (by decide +kernel) (by decide +kernel) hl.1 (Nat.le_of_ble_eq_true rfl) (Nat.le_of_ble_eq_true rfl) (Nat.zero_le _) (Nat.zero_le _) dX1_gain_8 ?_
  refine hx_puti C (ci := 1) (j := 0) tyX1 tyX1_ok nmX1 g1 uX1_gain_1 (by decide) rfl (by decide) rfl (by decide +kernel) rfl rfl (by decide +kernel) dX1_gain_11 rfl rfl ?_
  cases h
  exact hx_vret C hr dX1_gain_14
theorem uX1_part_1 : ∀ w ∈ u_ws RX1 TX1 6, w ∈ wsX1_part := by decide +kernel
def f_X1_part (L : hL) (X : hX) (this : Nat) (a1 : Int32) : Option (Int32) :=
  (f_X9_within L X a1 0 4).bind fun r1 =>
  if r1 = 0 then
    some (-100001)
  else
    if a1 = 0 then
      if tk L this 1 then
      some (X.1 this 0)
      else none
    else
      if tk L this 1 then
      if (X.1 this 1) = 0 then
        some (-100009)
      else
        if a1 = 1 then
          some (X.1 this 2)
        else
        if a1 = 2 then
          some (X.1 this 3)
        else
        if a1 = 3 then
          some (X.1 this 4)
        else
        some (X.1 this 5)
      else none
set_option maxRecDepth 100000 in
set_option maxHeartbeats 4000000 in
theorem c_X1_part {l : Launch} {dC : Nat → ClassId} {dI : Nat → Nat → Nat} {cy : Nat → ClassId} {ad : Nat → Nat} {L : hL} {X : hX} {this : Nat} {a1 : Int32} {r : Int32} (h : f_X1_part L X this a1 = some r) : hMet l dC dI cy ad L yX1_part wsX1_part ({ frames := 1, cells := 0, slots := 0, locals := 22 } : Room) [.ref (ad this), .int a1] X (some (.int r)) X := by
  unfold f_X1_part at h
  refine hx_enter RX1 (by decide) rfl rfl (Nat.le_of_ble_eq_true rfl) (fun p e s m args below meth c C hr hnm ls hl => ?_)
  have hl : lv_has ls 2 [(0, .ref (ad this)), (1, .int a1)] := hl
  refine hx_iload_n C dX1_part_0 rfl (lv_at hl 1 rfl) ?_
  refine hx_iconst (v := 0) C dX1_part_1 (by decide) ?_
  refine hx_iconst (v := 4) C dX1_part_2 (by decide) ?_
  obtain ⟨r1, e2, h⟩ := hx_bind h
  refine hx_callSN (As := [.int a1, .int 0, .int 4]) (rest := []) (n := 3) (host := "TicketScales") C (c_X9_within e2) gX1_part_X9_within_n41 (by decide) (by decide +kernel) (by decide +kernel) (by decide +kernel) ⟨Nat.le_of_ble_eq_true rfl, Nat.le_of_ble_eq_true rfl⟩ rfl rfl rfl ⟨Nat.zero_le _, Nat.zero_le _⟩ hl.1 rfl rfl (by decide) dX1_part_3 ?_
  refine hx_if_ne (tgt := 12) C dX1_part_6 (by decide) (fun c3 => ?_) (fun c3 => ?_)
  · have h := hx_neg c3 h
    refine hx_iload_n C dX1_part_12 rfl (lv_at hl 1 rfl) ?_
    refine hx_if_ne (tgt := 21) C dX1_part_13 (by decide) (fun c4 => ?_) (fun c4 => ?_)
    · have h := hx_neg c4 h
      refine hx_aload_n C dX1_part_21 rfl (lv_at hl 0 rfl) ?_
      obtain ⟨g5, h⟩ := hx_gd h
      refine hx_geti C (ci := 1) (j := 1) g5 uX1_part_1 (by decide) rfl (by decide) rfl (by decide +kernel) rfl dX1_part_22 ?_
      refine hx_if_ne (tgt := 31) C dX1_part_25 (by decide) (fun c6 => ?_) (fun c6 => ?_)
      · have h := hx_neg c6 h
        refine hx_iload_n C dX1_part_31 rfl (lv_at hl 1 rfl) ?_
        by_cases c7 : a1 = 1
        · have h := hx_pos c7 h
          have hz : Int32.toInt a1 = 1 := by rw [c7]; rfl
          refine hx_tableIn (tgt := 60) C dX1_part_32 (by rw [hz]; decide) (by rw [hz]; decide) (by rw [hz]; rfl) (by decide) ?_
          refine hx_aload_n C dX1_part_60 rfl (lv_at hl 0 rfl) ?_
          refine hx_geti C (ci := 1) (j := 2) g5 uX1_part_1 (by decide) rfl (by decide) rfl (by decide +kernel) rfl dX1_part_61 ?_
          cases h
          exact hx_iret C hr dX1_part_64
        have h := hx_neg c7 h
        have zc7 : Int32.toInt a1 ≠ 1 := fun z => c7 (Int32.toInt_inj.mp (z.trans rfl))
        by_cases c8 : a1 = 2
        · have h := hx_pos c8 h
          have hz : Int32.toInt a1 = 2 := by rw [c8]; rfl
          refine hx_tableIn (tgt := 65) C dX1_part_32 (by rw [hz]; decide) (by rw [hz]; decide) (by rw [hz]; rfl) (by decide) ?_
          refine hx_aload_n C dX1_part_65 rfl (lv_at hl 0 rfl) ?_
          refine hx_geti C (ci := 1) (j := 3) g5 uX1_part_1 (by decide) rfl (by decide) rfl (by decide +kernel) rfl dX1_part_66 ?_
          cases h
          exact hx_iret C hr dX1_part_69
        have h := hx_neg c8 h
        have zc8 : Int32.toInt a1 ≠ 2 := fun z => c8 (Int32.toInt_inj.mp (z.trans rfl))
        by_cases c9 : a1 = 3
        · have h := hx_pos c9 h
          have hz : Int32.toInt a1 = 3 := by rw [c9]; rfl
          refine hx_tableIn (tgt := 70) C dX1_part_32 (by rw [hz]; decide) (by rw [hz]; decide) (by rw [hz]; rfl) (by decide) ?_
          refine hx_aload_n C dX1_part_70 rfl (lv_at hl 0 rfl) ?_
          refine hx_geti C (ci := 1) (j := 4) g5 uX1_part_1 (by decide) rfl (by decide) rfl (by decide +kernel) rfl dX1_part_71 ?_
          cases h
          exact hx_iret C hr dX1_part_74
        have h := hx_neg c9 h
        have zc9 : Int32.toInt a1 ≠ 3 := fun z => c9 (Int32.toInt_inj.mp (z.trans rfl))
        refine hx_tableOut (tgt := 75) C dX1_part_32 (by omega) (by decide) ?_
        refine hx_aload_n C dX1_part_75 rfl (lv_at hl 0 rfl) ?_
        refine hx_geti C (ci := 1) (j := 5) g5 uX1_part_1 (by decide) rfl (by decide) rfl (by decide +kernel) rfl dX1_part_76 ?_
        cases h
        exact hx_iret C hr dX1_part_79
      · have h := hx_pos c6 h
        refine hx_ldc (v := (-100009)) C (by decide +kernel) dX1_part_28 ?_
        cases h
        exact hx_iret C hr dX1_part_30
    · have h := hx_pos c4 h
      refine hx_aload_n C dX1_part_16 rfl (lv_at hl 0 rfl) ?_
      obtain ⟨g10, h⟩ := hx_gd h
      refine hx_geti C (ci := 1) (j := 0) g10 uX1_part_1 (by decide) rfl (by decide) rfl (by decide +kernel) rfl dX1_part_17 ?_
      cases h
      exact hx_iret C hr dX1_part_20
  · have h := hx_pos c3 h
    refine hx_ldc (v := (-100001)) C (by decide +kernel) dX1_part_9 ?_
    cases h
    exact hx_iret C hr dX1_part_11
theorem uX4_heaviest_4 : ∀ w ∈ u_ws RX4 TX4 2, w ∈ wsX4_heaviest := by decide +kernel
def f_X4_heaviest (L : hL) (X : hX) (this : Nat) : Option (Int32) :=
  if tk L this 4 then
  some ((X.1 this 0) + (X.1 this 1))
  else none
set_option maxRecDepth 100000 in
set_option maxHeartbeats 4000000 in
theorem c_X4_heaviest {l : Launch} {dC : Nat → ClassId} {dI : Nat → Nat → Nat} {cy : Nat → ClassId} {ad : Nat → Nat} {L : hL} {X : hX} {this : Nat} {r : Int32} (h : f_X4_heaviest L X this = some r) : hMet l dC dI cy ad L yX4_heaviest wsX4_heaviest ({ frames := 0, cells := 0, slots := 0, locals := 0 } : Room) [.ref (ad this)] X (some (.int r)) X := by
  unfold f_X4_heaviest at h
  refine hx_enter RX4 (by decide) rfl rfl (Nat.le_of_ble_eq_true rfl) (fun p e s m args below meth c C hr hnm ls hl => ?_)
  have hl : lv_has ls 1 [(0, .ref (ad this))] := hl
  refine hx_aload_n C dX4_heaviest_0 rfl (lv_at hl 0 rfl) ?_
  obtain ⟨g1, h⟩ := hx_gd h
  refine hx_geti C (ci := 4) (j := 0) g1 uX4_heaviest_4 (by decide) rfl (by decide) rfl (by decide +kernel) rfl dX4_heaviest_1 ?_
  refine hx_aload_n C dX4_heaviest_4 rfl (lv_at hl 0 rfl) ?_
  refine hx_geti C (ci := 4) (j := 1) g1 uX4_heaviest_4 (by decide) rfl (by decide) rfl (by decide +kernel) rfl dX4_heaviest_5 ?_
  refine hx_iadd C dX4_heaviest_8 ?_
  cases h
  exact hx_iret C hr dX4_heaviest_9
def f_J9_floorDiv_7cf53 (L : hL) (X : hX) (a1 : Int32) (a2 : Int32) : Option (Int32) :=
  if ¬ a2 = 0 then
  if 0 ≤ (a1 ^^^ a2) then
    some (a1 / a2)
  else
    if ((a1 / a2) * a2) = a1 then
      some (a1 / a2)
    else
      some ((a1 / a2) - 1)
  else none
set_option maxRecDepth 100000 in
set_option maxHeartbeats 4000000 in
theorem c_J9_floorDiv_7cf53 {l : Launch} {dC : Nat → ClassId} {dI : Nat → Nat → Nat} {cy : Nat → ClassId} {ad : Nat → Nat} {L : hL} {X : hX} {a1 : Int32} {a2 : Int32} {r : Int32} (h : f_J9_floorDiv_7cf53 L X a1 a2 = some r) : hMet l dC dI cy ad L yJ9_floorDiv_7cf53 wsJ9_floorDiv_7cf53 ({ frames := 0, cells := 0, slots := 0, locals := 0 } : Room) [.int a1, .int a2] X (some (.int r)) X := by
  unfold f_J9_floorDiv_7cf53 at h
  refine hx_enter RJ9 (by decide) rfl rfl (Nat.le_of_ble_eq_true rfl) (fun p e s m args below meth c C hr hnm ls hl => ?_)
  have hl : lv_has ls 3 [(0, .int a1), (1, .int a2)] := hl
  refine hx_iload_n C dJ9_floorDiv_7cf53_0 rfl (lv_at hl 0 rfl) ?_
  refine hx_iload_n C dJ9_floorDiv_7cf53_1 rfl (lv_at hl 1 rfl) ?_
  obtain ⟨g1, h⟩ := hx_gd h
  refine hx_idiv C dJ9_floorDiv_7cf53_2 g1 ?_
  refine hx_istore_n (lv' := [(2, .int (a1 / a2)), (0, .int a1), (1, .int a2)]) C dJ9_floorDiv_7cf53_3 rfl hl (by decide) rfl (fun ls hl => ?_)
  refine hx_iload_n C dJ9_floorDiv_7cf53_4 rfl (lv_at hl 1 rfl) ?_
  refine hx_iload_n C dJ9_floorDiv_7cf53_5 rfl (lv_at hl 2 rfl) ?_
  refine hx_ixor C dJ9_floorDiv_7cf53_6 ?_
  refine hx_if_ge (tgt := 21) C dJ9_floorDiv_7cf53_7 (by decide) (fun c2 => ?_) (fun c2 => ?_)
  · have h := hx_pos c2 h
    refine hx_iload_n C dJ9_floorDiv_7cf53_21 rfl (lv_at hl 0 rfl) ?_
    cases h
    exact hx_iret C hr dJ9_floorDiv_7cf53_22
  · have h := hx_neg c2 h
    refine hx_iload_n C dJ9_floorDiv_7cf53_10 rfl (lv_at hl 0 rfl) ?_
    refine hx_iload_n C dJ9_floorDiv_7cf53_11 rfl (lv_at hl 2 rfl) ?_
    refine hx_imul C dJ9_floorDiv_7cf53_12 ?_
    refine hx_iload_n C dJ9_floorDiv_7cf53_13 rfl (lv_at hl 1 rfl) ?_
    refine hx_icmp_eq (tgt := 21) C dJ9_floorDiv_7cf53_14 (by decide) (fun c3 => ?_) (fun c3 => ?_)
    · have h := hx_pos c3 h
      refine hx_iload_n C dJ9_floorDiv_7cf53_21 rfl (lv_at hl 0 rfl) ?_
      cases h
      exact hx_iret C hr dJ9_floorDiv_7cf53_22
    · have h := hx_neg c3 h
      refine hx_iload_n C dJ9_floorDiv_7cf53_17 rfl (lv_at hl 0 rfl) ?_
      refine hx_iconst (v := 1) C dJ9_floorDiv_7cf53_18 (by decide) ?_
      refine hx_isub C dJ9_floorDiv_7cf53_19 ?_
      cases h
      exact hx_iret C hr dJ9_floorDiv_7cf53_20
def f_X9_quotient (L : hL) (X : hX) (a1 : Int32) (a2 : Int32) : Option (Int32) :=
  if 1 ≤ a2 then
    (f_J9_floorDiv_7cf53 L X a1 a2).bind fun r2 =>
    some r2
  else
    some 0
set_option maxRecDepth 100000 in
set_option maxHeartbeats 4000000 in
theorem c_X9_quotient {l : Launch} {dC : Nat → ClassId} {dI : Nat → Nat → Nat} {cy : Nat → ClassId} {ad : Nat → Nat} {L : hL} {X : hX} {a1 : Int32} {a2 : Int32} {r : Int32} (h : f_X9_quotient L X a1 a2 = some r) : hMet l dC dI cy ad L yX9_quotient wsX9_quotient ({ frames := 1, cells := 0, slots := 0, locals := 22 } : Room) [.int a1, .int a2] X (some (.int r)) X := by
  unfold f_X9_quotient at h
  refine hx_enter RX9 (by decide) rfl rfl (Nat.le_of_ble_eq_true rfl) (fun p e s m args below meth c C hr hnm ls hl => ?_)
  have hl : lv_has ls 2 [(0, .int a1), (1, .int a2)] := hl
  refine hx_iload_n C dX9_quotient_0 rfl (lv_at hl 1 rfl) ?_
  refine hx_iconst (v := 1) C dX9_quotient_1 (by decide) ?_
  refine hx_icmp_ge (tgt := 7) C dX9_quotient_2 (by decide) (fun c1 => ?_) (fun c1 => ?_)
  · have h := hx_pos c1 h
    refine hx_iload_n C dX9_quotient_7 rfl (lv_at hl 0 rfl) ?_
    refine hx_iload_n C dX9_quotient_8 rfl (lv_at hl 1 rfl) ?_
    obtain ⟨r2, e3, h⟩ := hx_bind h
    refine hx_callS (As := [.int a1, .int a2]) (rest := []) (n := 2) C (c_J9_floorDiv_7cf53 e3) gX9_quotient_J9_floorDiv_7cf53 (by decide +kernel) ⟨Nat.le_of_ble_eq_true rfl, Nat.le_of_ble_eq_true rfl⟩ rfl rfl rfl ⟨Nat.zero_le _, Nat.zero_le _⟩ hl.1 rfl rfl (by decide) dX9_quotient_9 ?_
    cases h
    exact hx_iret C hr dX9_quotient_12
  · have h := hx_neg c1 h
    refine hx_iconst (v := 0) C dX9_quotient_5 (by decide) ?_
    cases h
    exact hx_iret C hr dX9_quotient_6
def f_X9_readingAt (L : hL) (X : hX) (a1 : Int32) (a2 : Int32) : Option (Int32) :=
  (f_X9_quotient L X ((2 * a2) + a1) (2 * a1)).bind fun r1 =>
  some (if 0 < (a1 * r1) then (a1 * r1) else 0)
set_option maxRecDepth 100000 in
set_option maxHeartbeats 4000000 in
theorem c_X9_readingAt {l : Launch} {dC : Nat → ClassId} {dI : Nat → Nat → Nat} {cy : Nat → ClassId} {ad : Nat → Nat} {L : hL} {X : hX} {a1 : Int32} {a2 : Int32} {r : Int32} (h : f_X9_readingAt L X a1 a2 = some r) : hMet l dC dI cy ad L yX9_readingAt wsX9_readingAt ({ frames := 2, cells := 0, slots := 0, locals := 43 } : Room) [.int a1, .int a2] X (some (.int r)) X := by
  unfold f_X9_readingAt at h
  refine hx_enter RX9 (by decide) rfl rfl (Nat.le_of_ble_eq_true rfl) (fun p e s m args below meth c C hr hnm ls hl => ?_)
  have hl : lv_has ls 2 [(0, .int a1), (1, .int a2)] := hl
  refine hx_iconst (v := 0) C dX9_readingAt_0 (by decide) ?_
  refine hx_iload_n C dX9_readingAt_1 rfl (lv_at hl 0 rfl) ?_
  refine hx_iconst (v := 2) C dX9_readingAt_2 (by decide) ?_
  refine hx_iload_n C dX9_readingAt_3 rfl (lv_at hl 1 rfl) ?_
  refine hx_imul C dX9_readingAt_4 ?_
  refine hx_iload_n C dX9_readingAt_5 rfl (lv_at hl 0 rfl) ?_
  refine hx_iadd C dX9_readingAt_6 ?_
  refine hx_iconst (v := 2) C dX9_readingAt_7 (by decide) ?_
  refine hx_iload_n C dX9_readingAt_8 rfl (lv_at hl 0 rfl) ?_
  refine hx_imul C dX9_readingAt_9 ?_
  obtain ⟨r1, e2, h⟩ := hx_bind h
  refine hx_callS (As := [.int ((2 * a2) + a1), .int (2 * a1)]) (rest := [.int a1, .int 0]) (n := 2) C (c_X9_quotient e2) gX9_readingAt_X9_quotient (by decide +kernel) ⟨Nat.le_of_ble_eq_true rfl, Nat.le_of_ble_eq_true rfl⟩ rfl rfl rfl ⟨Nat.zero_le _, Nat.zero_le _⟩ hl.1 rfl rfl (by decide) dX9_readingAt_10 ?_
  refine hx_imul C dX9_readingAt_13 ?_
  refine hx_mmax C (by decide +kernel) (by decide +kernel) (by decide +kernel) (by decide +kernel) hl.1 (Nat.le_of_ble_eq_true rfl) (Nat.le_of_ble_eq_true rfl) (Nat.zero_le _) (Nat.zero_le _) dX9_readingAt_14 ?_
  cases h
  exact hx_iret C hr dX9_readingAt_17
theorem uX4_lightest_4 : ∀ w ∈ u_ws RX4 TX4 2, w ∈ wsX4_lightest := by decide +kernel
def f_X4_lightest (L : hL) (X : hX) (this : Nat) : Option (Int32) :=
  if tk L this 4 then
  some ((X.1 this 0) - (X.1 this 1))
  else none
set_option maxRecDepth 100000 in
set_option maxHeartbeats 4000000 in
theorem c_X4_lightest {l : Launch} {dC : Nat → ClassId} {dI : Nat → Nat → Nat} {cy : Nat → ClassId} {ad : Nat → Nat} {L : hL} {X : hX} {this : Nat} {r : Int32} (h : f_X4_lightest L X this = some r) : hMet l dC dI cy ad L yX4_lightest wsX4_lightest ({ frames := 0, cells := 0, slots := 0, locals := 0 } : Room) [.ref (ad this)] X (some (.int r)) X := by
  unfold f_X4_lightest at h
  refine hx_enter RX4 (by decide) rfl rfl (Nat.le_of_ble_eq_true rfl) (fun p e s m args below meth c C hr hnm ls hl => ?_)
  have hl : lv_has ls 1 [(0, .ref (ad this))] := hl
  refine hx_aload_n C dX4_lightest_0 rfl (lv_at hl 0 rfl) ?_
  obtain ⟨g1, h⟩ := hx_gd h
  refine hx_geti C (ci := 4) (j := 0) g1 uX4_lightest_4 (by decide) rfl (by decide) rfl (by decide +kernel) rfl dX4_lightest_1 ?_
  refine hx_aload_n C dX4_lightest_4 rfl (lv_at hl 0 rfl) ?_
  refine hx_geti C (ci := 4) (j := 1) g1 uX4_lightest_4 (by decide) rfl (by decide) rfl (by decide +kernel) rfl dX4_lightest_5 ?_
  refine hx_isub C dX4_lightest_8 ?_
  cases h
  exact hx_iret C hr dX4_lightest_9
theorem uX7_apartFromNext_7 : ∀ w ∈ u_ws RX7 TX7 3, w ∈ wsX7_apartFromNext := by decide +kernel
def f_X7_apartFromNext (L : hL) (X : hX) (this : Nat) (a1 : Int32) (a2 : Nat) (a3 : Int32) : Option (Int32) :=
  (f_X4_heaviest L X a2).bind fun r1 =>
  if tk L a2 4 then
  if tk L this 7 then
  (f_X9_readingAt L X a1 ((a3 * r1) + (X.1 this 1))).bind fun r5 =>
  (f_X4_lightest L X a2).bind fun r7 =>
  (f_X9_readingAt L X a1 (((a3 + 1) * r7) - (X.1 this 1))).bind fun r9 =>
  if r9 ≤ r5 then
    some 0
  else
    some 1
  else none
  else none
set_option maxRecDepth 100000 in
set_option maxHeartbeats 4000000 in
theorem c_X7_apartFromNext {l : Launch} {dC : Nat → ClassId} {dI : Nat → Nat → Nat} {cy : Nat → ClassId} {ad : Nat → Nat} {L : hL} {X : hX} {this : Nat} {a1 : Int32} {a2 : Nat} {a3 : Int32} {r : Int32} (h : f_X7_apartFromNext L X this a1 a2 a3 = some r) : hMet l dC dI cy ad L yX7_apartFromNext wsX7_apartFromNext ({ frames := 3, cells := 0, slots := 0, locals := 64 } : Room) [.ref (ad this), .int a1, .ref (ad a2), .int a3] X (some (.int r)) X := by
  unfold f_X7_apartFromNext at h
  refine hx_enter RX7 (by decide) rfl rfl (Nat.le_of_ble_eq_true rfl) (fun p e s m args below meth c C hr hnm ls hl => ?_)
  have hl : lv_has ls 6 [(0, .ref (ad this)), (1, .int a1), (2, .ref (ad a2)), (3, .int a3)] := hl
  refine hx_iload_n C dX7_apartFromNext_0 rfl (lv_at hl 1 rfl) ?_
  refine hx_iload_n C dX7_apartFromNext_1 rfl (lv_at hl 3 rfl) ?_
  refine hx_aload_n C dX7_apartFromNext_2 rfl (lv_at hl 2 rfl) ?_
  obtain ⟨r1, e2, h⟩ := hx_bind h
  obtain ⟨g3, h⟩ := hx_gd h
  refine hx_callV (As := []) (rest := [.int a3, .int a1]) (n := 0) (Cn := RX4) C (c_X4_heaviest e2) gX7_apartFromNext_X4_heaviest g3 (by decide) rfl (by decide +kernel) ⟨Nat.le_of_ble_eq_true rfl, Nat.le_of_ble_eq_true rfl⟩ rfl rfl rfl ⟨Nat.zero_le _, Nat.zero_le _⟩ hl.1 rfl rfl (by decide) dX7_apartFromNext_3 ?_
  refine hx_imul C dX7_apartFromNext_6 ?_
  refine hx_aload_n C dX7_apartFromNext_7 rfl (lv_at hl 0 rfl) ?_
  obtain ⟨g4, h⟩ := hx_gd h
  refine hx_geti C (ci := 7) (j := 1) g4 uX7_apartFromNext_7 (by decide) rfl (by decide) rfl (by decide +kernel) rfl dX7_apartFromNext_8 ?_
  refine hx_iadd C dX7_apartFromNext_11 ?_
  obtain ⟨r5, e6, h⟩ := hx_bind h
  refine hx_callSN (As := [.int a1, .int ((a3 * r1) + (X.1 this 1))]) (rest := []) (n := 2) (host := "TicketScales") C (c_X9_readingAt e6) gX7_apartFromNext_X9_readingAt_n67 (by decide) (by decide +kernel) (by decide +kernel) (by decide +kernel) ⟨Nat.le_of_ble_eq_true rfl, Nat.le_of_ble_eq_true rfl⟩ rfl rfl rfl ⟨Nat.zero_le _, Nat.zero_le _⟩ hl.1 rfl rfl (by decide) dX7_apartFromNext_12 ?_
  refine hx_istore (lv' := [(4, .int r5), (0, .ref (ad this)), (1, .int a1), (2, .ref (ad a2)), (3, .int a3)]) C dX7_apartFromNext_15 hl (by decide) rfl (fun ls hl => ?_)
  refine hx_iload_n C dX7_apartFromNext_17 rfl (lv_at hl 2 rfl) ?_
  refine hx_iload_n C dX7_apartFromNext_18 rfl (lv_at hl 4 rfl) ?_
  refine hx_iconst (v := 1) C dX7_apartFromNext_19 (by decide) ?_
  refine hx_iadd C dX7_apartFromNext_20 ?_
  refine hx_aload_n C dX7_apartFromNext_21 rfl (lv_at hl 3 rfl) ?_
  obtain ⟨r7, e8, h⟩ := hx_bind h
  refine hx_callV (As := []) (rest := [.int (a3 + 1), .int a1]) (n := 0) (Cn := RX4) C (c_X4_lightest e8) gX7_apartFromNext_X4_lightest g3 (by decide) rfl (by decide +kernel) ⟨Nat.le_of_ble_eq_true rfl, Nat.le_of_ble_eq_true rfl⟩ rfl rfl rfl ⟨Nat.zero_le _, Nat.zero_le _⟩ hl.1 rfl rfl (by decide) dX7_apartFromNext_22 ?_
  refine hx_imul C dX7_apartFromNext_25 ?_
  refine hx_aload_n C dX7_apartFromNext_26 rfl (lv_at hl 1 rfl) ?_
  refine hx_geti C (ci := 7) (j := 1) g4 uX7_apartFromNext_7 (by decide) rfl (by decide) rfl (by decide +kernel) rfl dX7_apartFromNext_27 ?_
  refine hx_isub C dX7_apartFromNext_30 ?_
  obtain ⟨r9, e10, h⟩ := hx_bind h
  refine hx_callSN (As := [.int a1, .int (((a3 + 1) * r7) - (X.1 this 1))]) (rest := []) (n := 2) (host := "TicketScales") C (c_X9_readingAt e10) gX7_apartFromNext_X9_readingAt_n67 (by decide) (by decide +kernel) (by decide +kernel) (by decide +kernel) ⟨Nat.le_of_ble_eq_true rfl, Nat.le_of_ble_eq_true rfl⟩ rfl rfl rfl ⟨Nat.zero_le _, Nat.zero_le _⟩ hl.1 rfl rfl (by decide) dX7_apartFromNext_31 ?_
  refine hx_istore (lv' := [(5, .int r9), (4, .int r5), (0, .ref (ad this)), (1, .int a1), (2, .ref (ad a2)), (3, .int a3)]) C dX7_apartFromNext_34 hl (by decide) rfl (fun ls hl => ?_)
  refine hx_iload C dX7_apartFromNext_36 (lv_at hl 1 rfl) ?_
  refine hx_iload C dX7_apartFromNext_38 (lv_at hl 0 rfl) ?_
  refine hx_icmp_ge (tgt := 47) C dX7_apartFromNext_40 (by decide) (fun c11 => ?_) (fun c11 => ?_)
  · have h := hx_pos c11 h
    refine hx_iconst (v := 0) C dX7_apartFromNext_47 (by decide) ?_
    cases h
    exact hx_zret C hr rfl dX7_apartFromNext_48
  · have h := hx_neg c11 h
    refine hx_iconst (v := 1) C dX7_apartFromNext_43 (by decide) ?_
    refine hx_goto (tgt := 48) C dX7_apartFromNext_44 (by decide) ?_
    cases h
    exact hx_zret C hr rfl dX7_apartFromNext_48
theorem uX7_lastApart_7 : ∀ w ∈ u_ws RX7 TX7 3, w ∈ wsX7_lastApart := by decide +kernel
def f_X7_lastApart_2 (L : hL) : Nat → Nat → Nat → Int32 → hX → Option (Int32)
  | 0, _, _, _, _ => none
  | n + 1, v0, v1, v2, X =>
    if 999 ≤ v2 then
      some 999
    else
      if tk L v0 7 then
      (f_X7_apartFromNext L X v0 (X.1 v0 0) v1 v2).bind fun r3 =>
      if r3 = 0 then
        some v2
      else
        f_X7_lastApart_2 L n v0 v1 (v2 + 1) X
      else none
set_option maxRecDepth 100000 in
set_option maxHeartbeats 4000000 in
theorem w_X7_lastApart_2 {p : Program} {l : Launch} {e : Env} {s : State} {m : MethodId} {args : Array Value} {below : List Frame} {meth : Method} {c : Code} {dC : Nat → ClassId} {dI : Nat → Nat → Nat} {cy : Nat → ClassId} {ad : Nat → Nat} {L : hL} {r : Int32} (C : hC p s m args meth c dC dI cy ad L (hA ad L s.heap.size) cX7_lastApart 3 wsX7_lastApart RX7) (hr : meth.sig.returnType = (some .int)) : ∀ (n : Nat) (v0 : Nat) (v1 : Nat) (v2 : Int32) (X : hX) (ls : Array Slot), f_X7_lastApart_2 L n v0 v1 v2 X = some r → lv_has ls 3 [(0, .ref (ad v0)), (1, .ref (ad v1)), (2, .int v2)] → hG p l e (headSpec wsX7_lastApart ({ frames := 4, cells := 0, slots := 0, locals := 89 } : Room)).room s m args below meth c dC dI cy ad L (hA ad L s.heap.size) 0 0 (MQ below (hQ dC dI cy ad L s.heap.size (some (.int r)) X) args s 0 0 (hA ad L s.heap.size)) X 2 ls [] := by
  intro n
  induction n with
  | zero => intro v0 v1 v2 X ls h; cases h
  | succ n ih =>
    intro v0 v1 v2 X ls h hl
    rw [f_X7_lastApart_2] at h
    refine hx_iload_n C dX7_lastApart_2 rfl (lv_at hl 2 rfl) ?_
    refine hx_sipush (v := 999) C dX7_lastApart_3 (by decide) ?_
    refine hx_icmp_ge (tgt := 30) C dX7_lastApart_6 (by decide) (fun c1 => ?_) (fun c1 => ?_)
    · have h := hx_pos c1 h
      refine hx_sipush (v := 999) C dX7_lastApart_30 (by decide) ?_
      cases h
      exact hx_iret C hr dX7_lastApart_33
    · have h := hx_neg c1 h
      refine hx_aload_n C dX7_lastApart_9 rfl (lv_at hl 0 rfl) ?_
      refine hx_aload_n C dX7_lastApart_10 rfl (lv_at hl 0 rfl) ?_
      obtain ⟨g2, h⟩ := hx_gd h
      refine hx_geti C (ci := 7) (j := 0) g2 uX7_lastApart_7 (by decide) rfl (by decide) rfl (by decide +kernel) rfl dX7_lastApart_11 ?_
      refine hx_aload_n C dX7_lastApart_14 rfl (lv_at hl 1 rfl) ?_
      refine hx_iload_n C dX7_lastApart_15 rfl (lv_at hl 2 rfl) ?_
      obtain ⟨r3, e4, h⟩ := hx_bind h
      refine hx_callV (As := [.int (X.1 v0 0), .ref (ad v1), .int v2]) (rest := []) (n := 3) (Cn := RX7) C (c_X7_apartFromNext e4) gX7_lastApart_X7_apartFromNext g2 (by decide) rfl (by decide +kernel) ⟨Nat.le_of_ble_eq_true rfl, Nat.le_of_ble_eq_true rfl⟩ rfl rfl rfl ⟨Nat.zero_le _, Nat.zero_le _⟩ hl.1 rfl rfl (by decide) dX7_lastApart_16 ?_
      refine hx_if_ne (tgt := 24) C dX7_lastApart_19 (by decide) (fun c5 => ?_) (fun c5 => ?_)
      · have h := hx_neg c5 h
        refine hx_iinc (v := v2 + 1) (lv' := [(2, .int (v2 + 1)), (0, .ref (ad v0)), (1, .ref (ad v1))]) C dX7_lastApart_24 hl (k := 2) rfl rfl (by decide) rfl (fun ls hl => ?_)
        refine hx_goto (tgt := 2) C dX7_lastApart_27 (by decide) ?_
        exact ih v0 v1 (v2 + 1) X ls h (lv_sub hl [1, 2, 0] rfl)
      · have h := hx_pos c5 h
        refine hx_iload_n C dX7_lastApart_22 rfl (lv_at hl 2 rfl) ?_
        cases h
        exact hx_iret C hr dX7_lastApart_23
def f_X7_lastApart (L : hL) (X : hX) (this : Nat) (a1 : Nat) : Option (Int32) :=
  f_X7_lastApart_2 L u_fuel this a1 0 X
set_option maxRecDepth 100000 in
set_option maxHeartbeats 4000000 in
theorem c_X7_lastApart {l : Launch} {dC : Nat → ClassId} {dI : Nat → Nat → Nat} {cy : Nat → ClassId} {ad : Nat → Nat} {L : hL} {X : hX} {this : Nat} {a1 : Nat} {r : Int32} (h : f_X7_lastApart L X this a1 = some r) : hMet l dC dI cy ad L yX7_lastApart wsX7_lastApart ({ frames := 4, cells := 0, slots := 0, locals := 89 } : Room) [.ref (ad this), .ref (ad a1)] X (some (.int r)) X := by
  unfold f_X7_lastApart at h
  refine hx_enter RX7 (by decide) rfl rfl (Nat.le_of_ble_eq_true rfl) (fun p e s m args below meth c C hr hnm ls hl => ?_)
  have hl : lv_has ls 3 [(0, .ref (ad this)), (1, .ref (ad a1))] := hl
  refine hx_iconst (v := 0) C dX7_lastApart_0 (by decide) ?_
  refine hx_istore_n (lv' := [(2, .int 0), (0, .ref (ad this)), (1, .ref (ad a1))]) C dX7_lastApart_1 rfl hl (by decide) rfl (fun ls hl => ?_)
  exact w_X7_lastApart_2 C hr u_fuel this a1 0 X ls h (lv_sub hl [1, 2, 0] rfl)
def f_X10_floors (L : hL) (X : hX) (a1 : Int32) (a2 : Int32) : Option (Int32) :=
  if ¬ a2 = 0 then
  if 0 ≤ (a1 - a1 / a2 * a2) then
    some (a1 / a2)
  else
    some ((a1 / a2) - 1)
  else none
set_option maxRecDepth 100000 in
set_option maxHeartbeats 4000000 in
theorem c_X10_floors {l : Launch} {dC : Nat → ClassId} {dI : Nat → Nat → Nat} {cy : Nat → ClassId} {ad : Nat → Nat} {L : hL} {X : hX} {a1 : Int32} {a2 : Int32} {r : Int32} (h : f_X10_floors L X a1 a2 = some r) : hMet l dC dI cy ad L yX10_floors wsX10_floors ({ frames := 0, cells := 0, slots := 0, locals := 0 } : Room) [.int a1, .int a2] X (some (.int r)) X := by
  unfold f_X10_floors at h
  refine hx_enter RX10 (by decide) rfl rfl (Nat.le_of_ble_eq_true rfl) (fun p e s m args below meth c C hr hnm ls hl => ?_)
  have hl : lv_has ls 3 [(0, .int a1), (1, .int a2)] := hl
  refine hx_iload_n C dX10_floors_0 rfl (lv_at hl 0 rfl) ?_
  refine hx_iload_n C dX10_floors_1 rfl (lv_at hl 1 rfl) ?_
  obtain ⟨g1, h⟩ := hx_gd h
  refine hx_idiv C dX10_floors_2 g1 ?_
  refine hx_istore_n (lv' := [(2, .int (a1 / a2)), (0, .int a1), (1, .int a2)]) C dX10_floors_3 rfl hl (by decide) rfl (fun ls hl => ?_)
  refine hx_iload_n C dX10_floors_4 rfl (lv_at hl 1 rfl) ?_
  refine hx_iload_n C dX10_floors_5 rfl (lv_at hl 2 rfl) ?_
  refine hx_irem C dX10_floors_6 g1 ?_
  refine hx_if_ge (tgt := 16) C dX10_floors_7 (by decide) (fun c2 => ?_) (fun c2 => ?_)
  · have h := hx_pos c2 h
    refine hx_iload_n C dX10_floors_16 rfl (lv_at hl 0 rfl) ?_
    cases h
    exact hx_iret C hr dX10_floors_17
  · have h := hx_neg c2 h
    refine hx_iload_n C dX10_floors_10 rfl (lv_at hl 0 rfl) ?_
    refine hx_iconst (v := 1) C dX10_floors_11 (by decide) ?_
    refine hx_isub C dX10_floors_12 ?_
    refine hx_goto (tgt := 17) C dX10_floors_13 (by decide) ?_
    cases h
    exact hx_iret C hr dX10_floors_17
def f_X10_readsBy (L : hL) (X : hX) (this : Nat) (a1 : Int32) (a2 : Int32) : Option (Int32) :=
  (f_X10_floors L X ((2 * a1) + a2) (2 * a2)).bind fun r1 =>
  if 0 ≤ r1 then
    some (r1 * a2)
  else
    some 0
set_option maxRecDepth 100000 in
set_option maxHeartbeats 4000000 in
theorem c_X10_readsBy {l : Launch} {dC : Nat → ClassId} {dI : Nat → Nat → Nat} {cy : Nat → ClassId} {ad : Nat → Nat} {L : hL} {X : hX} {this : Nat} {a1 : Int32} {a2 : Int32} {r : Int32} (h : f_X10_readsBy L X this a1 a2 = some r) : hMet l dC dI cy ad L yX10_readsBy wsX10_readsBy ({ frames := 1, cells := 0, slots := 0, locals := 22 } : Room) [.ref (ad this), .int a1, .int a2] X (some (.int r)) X := by
  unfold f_X10_readsBy at h
  refine hx_enter RX10 (by decide) rfl rfl (Nat.le_of_ble_eq_true rfl) (fun p e s m args below meth c C hr hnm ls hl => ?_)
  have hl : lv_has ls 4 [(0, .ref (ad this)), (1, .int a1), (2, .int a2)] := hl
  refine hx_iconst (v := 2) C dX10_readsBy_0 (by decide) ?_
  refine hx_iload_n C dX10_readsBy_1 rfl (lv_at hl 1 rfl) ?_
  refine hx_imul C dX10_readsBy_2 ?_
  refine hx_iload_n C dX10_readsBy_3 rfl (lv_at hl 2 rfl) ?_
  refine hx_iadd C dX10_readsBy_4 ?_
  refine hx_iconst (v := 2) C dX10_readsBy_5 (by decide) ?_
  refine hx_iload_n C dX10_readsBy_6 rfl (lv_at hl 2 rfl) ?_
  refine hx_imul C dX10_readsBy_7 ?_
  obtain ⟨r1, e2, h⟩ := hx_bind h
  refine hx_callS (As := [.int ((2 * a1) + a2), .int (2 * a2)]) (rest := []) (n := 2) C (c_X10_floors e2) gX10_readsBy_X10_floors (by decide +kernel) ⟨Nat.le_of_ble_eq_true rfl, Nat.le_of_ble_eq_true rfl⟩ rfl rfl rfl ⟨Nat.zero_le _, Nat.zero_le _⟩ hl.1 rfl rfl (by decide) dX10_readsBy_8 ?_
  refine hx_istore_n (lv' := [(3, .int r1), (0, .ref (ad this)), (1, .int a1), (2, .int a2)]) C dX10_readsBy_11 rfl hl (by decide) rfl (fun ls hl => ?_)
  refine hx_iload_n C dX10_readsBy_12 rfl (lv_at hl 0 rfl) ?_
  refine hx_if_ge (tgt := 20) C dX10_readsBy_13 (by decide) (fun c3 => ?_) (fun c3 => ?_)
  · have h := hx_pos c3 h
    refine hx_iload_n C dX10_readsBy_20 rfl (lv_at hl 0 rfl) ?_
    refine hx_iload_n C dX10_readsBy_21 rfl (lv_at hl 3 rfl) ?_
    refine hx_imul C dX10_readsBy_22 ?_
    cases h
    exact hx_iret C hr dX10_readsBy_23
  · have h := hx_neg c3 h
    refine hx_iconst (v := 0) C dX10_readsBy_16 (by decide) ?_
    refine hx_goto (tgt := 23) C dX10_readsBy_17 (by decide) ?_
    cases h
    exact hx_iret C hr dX10_readsBy_23
theorem uX10_apart_10 : ∀ w ∈ u_ws RX10 TX10 15, w ∈ wsX10_apart := by decide +kernel
def f_X10_apart_37 (L : hL) : Nat → Nat → Int32 → Int32 → Int32 → Int32 → Int32 → hX → Option (Int32)
  | 0, _, _, _, _, _, _, _ => none
  | n + 1, v0, v2, v3, v4, v5, v6, X =>
    if v3 ≤ v6 then
      some v6
    else
      if tk L v0 10 then
      (X.2 v0 0).bind fun q3 =>
      if tk L q3 12 then
      if 9 < L.2.2 q3 then
      (f_X10_readsBy L X v0 (((v6 + 1) * v4) - (X.1 q3 9)) v2).bind fun r7 =>
      (f_X10_readsBy L X v0 ((v6 * v5) + (X.1 q3 9)) v2).bind fun r9 =>
      if r7 ≤ r9 then
        some v6
      else
        f_X10_apart_37 L n v0 v2 v3 v4 v5 (v6 + 1) X
      else none
      else none
      else none
set_option maxRecDepth 100000 in
set_option maxHeartbeats 4000000 in
theorem w_X10_apart_37 {p : Program} {l : Launch} {e : Env} {s : State} {m : MethodId} {args : Array Value} {below : List Frame} {meth : Method} {c : Code} {dC : Nat → ClassId} {dI : Nat → Nat → Nat} {cy : Nat → ClassId} {ad : Nat → Nat} {L : hL} {r : Int32} (C : hC p s m args meth c dC dI cy ad L (hA ad L s.heap.size) cX10_apart 7 wsX10_apart RX10) (hr : meth.sig.returnType = (some .int)) : ∀ (n : Nat) (v0 : Nat) (v2 : Int32) (v3 : Int32) (v4 : Int32) (v5 : Int32) (v6 : Int32) (X : hX) (ls : Array Slot), f_X10_apart_37 L n v0 v2 v3 v4 v5 v6 X = some r → lv_has ls 7 [(0, .ref (ad v0)), (2, .int v2), (3, .int v3), (4, .int v4), (5, .int v5), (6, .int v6)] → hG p l e (headSpec wsX10_apart ({ frames := 2, cells := 0, slots := 0, locals := 45 } : Room)).room s m args below meth c dC dI cy ad L (hA ad L s.heap.size) 0 0 (MQ below (hQ dC dI cy ad L s.heap.size (some (.int r)) X) args s 0 0 (hA ad L s.heap.size)) X 37 ls [] := by
  intro n
  induction n with
  | zero => intro v0 v2 v3 v4 v5 v6 X ls h; cases h
  | succ n ih =>
    intro v0 v2 v3 v4 v5 v6 X ls h hl
    rw [f_X10_apart_37] at h
    refine hx_iload C dX10_apart_37 (lv_at hl 5 rfl) ?_
    refine hx_iload_n C dX10_apart_39 rfl (lv_at hl 2 rfl) ?_
    refine hx_icmp_ge (tgt := 90) C dX10_apart_40 (by decide) (fun c1 => ?_) (fun c1 => ?_)
    · have h := hx_pos c1 h
      refine hx_iload C dX10_apart_90 (lv_at hl 5 rfl) ?_
      cases h
      exact hx_iret C hr dX10_apart_92
    · have h := hx_neg c1 h
      refine hx_aload_n C dX10_apart_43 rfl (lv_at hl 0 rfl) ?_
      refine hx_iload C dX10_apart_44 (lv_at hl 5 rfl) ?_
      refine hx_iconst (v := 1) C dX10_apart_46 (by decide) ?_
      refine hx_iadd C dX10_apart_47 ?_
      refine hx_iload C dX10_apart_48 (lv_at hl 3 rfl) ?_
      refine hx_imul C dX10_apart_50 ?_
      refine hx_aload_n C dX10_apart_51 rfl (lv_at hl 0 rfl) ?_
      obtain ⟨g2, h⟩ := hx_gd h
      obtain ⟨q3, e4, h⟩ := hx_bind h
      refine hx_getr C (ci := 10) (j := 0) g2 uX10_apart_10 (by decide) rfl (by decide) rfl (by decide +kernel) rfl dX10_apart_52 e4 ?_
      refine hx_bipush (v := 9) C dX10_apart_55 (by decide) ?_
      obtain ⟨g5, h⟩ := hx_gd h
      obtain ⟨g6, h⟩ := hx_gd h
      refine hx_iald (n := 9) C g5 (hin_lit (i := 9) (by decide) rfl g6) rfl dX10_apart_57 ?_
      refine hx_isub C dX10_apart_58 ?_
      refine hx_iload_n C dX10_apart_59 rfl (lv_at hl 1 rfl) ?_
      obtain ⟨r7, e8, h⟩ := hx_bind h
      refine hx_callV (As := [.int (((v6 + 1) * v4) - (X.1 q3 9)), .int v2]) (rest := []) (n := 2) (Cn := RX10) C (c_X10_readsBy e8) gX10_apart_X10_readsBy g2 (by decide) rfl (by decide +kernel) ⟨Nat.le_of_ble_eq_true rfl, Nat.le_of_ble_eq_true rfl⟩ rfl rfl rfl ⟨Nat.zero_le _, Nat.zero_le _⟩ hl.1 rfl rfl (by decide) dX10_apart_60 ?_
      refine hx_aload_n C dX10_apart_63 rfl (lv_at hl 0 rfl) ?_
      refine hx_iload C dX10_apart_64 (lv_at hl 5 rfl) ?_
      refine hx_iload C dX10_apart_66 (lv_at hl 4 rfl) ?_
      refine hx_imul C dX10_apart_68 ?_
      refine hx_aload_n C dX10_apart_69 rfl (lv_at hl 0 rfl) ?_
      refine hx_getr C (ci := 10) (j := 0) g2 uX10_apart_10 (by decide) rfl (by decide) rfl (by decide +kernel) rfl dX10_apart_70 e4 ?_
      refine hx_bipush (v := 9) C dX10_apart_73 (by decide) ?_
      refine hx_iald (n := 9) C g5 (hin_lit (i := 9) (by decide) rfl g6) rfl dX10_apart_75 ?_
      refine hx_iadd C dX10_apart_76 ?_
      refine hx_iload_n C dX10_apart_77 rfl (lv_at hl 1 rfl) ?_
      obtain ⟨r9, e10, h⟩ := hx_bind h
      refine hx_callV (As := [.int ((v6 * v5) + (X.1 q3 9)), .int v2]) (rest := [.int r7]) (n := 2) (Cn := RX10) C (c_X10_readsBy e10) gX10_apart_X10_readsBy g2 (by decide) rfl (by decide +kernel) ⟨Nat.le_of_ble_eq_true rfl, Nat.le_of_ble_eq_true rfl⟩ rfl rfl rfl ⟨Nat.zero_le _, Nat.zero_le _⟩ hl.1 rfl rfl (by decide) dX10_apart_78 ?_
      refine hx_icmp_le (tgt := 90) C dX10_apart_81 (by decide) (fun c11 => ?_) (fun c11 => ?_)
      · have h := hx_pos c11 h
        refine hx_iload C dX10_apart_90 (lv_at hl 5 rfl) ?_
        cases h
        exact hx_iret C hr dX10_apart_92
      · have h := hx_neg c11 h
        refine hx_iinc (v := v6 + 1) (lv' := [(6, .int (v6 + 1)), (0, .ref (ad v0)), (2, .int v2), (3, .int v3), (4, .int v4), (5, .int v5)]) C dX10_apart_84 hl (k := 5) rfl rfl (by decide) rfl (fun ls hl => ?_)
        refine hx_goto (tgt := 37) C dX10_apart_87 (by decide) ?_
        exact ih v0 v2 v3 v4 v5 (v6 + 1) X ls h (lv_sub hl [1, 2, 3, 4, 5, 0] rfl)
def f_X10_apart (L : hL) (X : hX) (this : Nat) (a1 : Int32) (a2 : Int32) (a3 : Int32) : Option (Int32) :=
  if tk L this 10 then
  (X.2 this 0).bind fun q13 =>
  if tk L q13 12 then
  if hin a1 (L.2.2 q13) then
  if hin (4 + a1) (L.2.2 q13) then
  f_X10_apart_37 L u_fuel this a2 a3 ((X.1 q13 (Int32.toNatClampNeg a1)) - (X.1 q13 (Int32.toNatClampNeg (4 + a1)))) ((X.1 q13 (Int32.toNatClampNeg a1)) + (X.1 q13 (Int32.toNatClampNeg (4 + a1)))) 0 X
  else none
  else none
  else none
  else none
set_option maxRecDepth 100000 in
set_option maxHeartbeats 4000000 in
theorem c_X10_apart {l : Launch} {dC : Nat → ClassId} {dI : Nat → Nat → Nat} {cy : Nat → ClassId} {ad : Nat → Nat} {L : hL} {X : hX} {this : Nat} {a1 : Int32} {a2 : Int32} {a3 : Int32} {r : Int32} (h : f_X10_apart L X this a1 a2 a3 = some r) : hMet l dC dI cy ad L yX10_apart wsX10_apart ({ frames := 2, cells := 0, slots := 0, locals := 45 } : Room) [.ref (ad this), .int a1, .int a2, .int a3] X (some (.int r)) X := by
  unfold f_X10_apart at h
  refine hx_enter RX10 (by decide) rfl rfl (Nat.le_of_ble_eq_true rfl) (fun p e s m args below meth c C hr hnm ls hl => ?_)
  have hl : lv_has ls 7 [(0, .ref (ad this)), (1, .int a1), (2, .int a2), (3, .int a3)] := hl
  refine hx_aload_n C dX10_apart_0 rfl (lv_at hl 0 rfl) ?_
  obtain ⟨g12, h⟩ := hx_gd h
  obtain ⟨q13, e14, h⟩ := hx_bind h
  refine hx_getr C (ci := 10) (j := 0) g12 uX10_apart_10 (by decide) rfl (by decide) rfl (by decide +kernel) rfl dX10_apart_1 e14 ?_
  refine hx_iload_n C dX10_apart_4 rfl (lv_at hl 1 rfl) ?_
  obtain ⟨g15, h⟩ := hx_gd h
  obtain ⟨g16, h⟩ := hx_gd h
  refine hx_iald (n := (Int32.toNatClampNeg a1)) C g15 g16 rfl dX10_apart_5 ?_
  refine hx_aload_n C dX10_apart_6 rfl (lv_at hl 0 rfl) ?_
  refine hx_getr C (ci := 10) (j := 0) g12 uX10_apart_10 (by decide) rfl (by decide) rfl (by decide +kernel) rfl dX10_apart_7 e14 ?_
  refine hx_iconst (v := 4) C dX10_apart_10 (by decide) ?_
  refine hx_iload_n C dX10_apart_11 rfl (lv_at hl 1 rfl) ?_
  refine hx_iadd C dX10_apart_12 ?_
  obtain ⟨g17, h⟩ := hx_gd h
  refine hx_iald (n := (Int32.toNatClampNeg (4 + a1))) C g15 g17 rfl dX10_apart_13 ?_
  refine hx_isub C dX10_apart_14 ?_
  refine hx_istore (lv' := [(4, .int ((X.1 q13 (Int32.toNatClampNeg a1)) - (X.1 q13 (Int32.toNatClampNeg (4 + a1))))), (0, .ref (ad this)), (1, .int a1), (2, .int a2), (3, .int a3)]) C dX10_apart_15 hl (by decide) rfl (fun ls hl => ?_)
  refine hx_aload_n C dX10_apart_17 rfl (lv_at hl 1 rfl) ?_
  refine hx_getr C (ci := 10) (j := 0) g12 uX10_apart_10 (by decide) rfl (by decide) rfl (by decide +kernel) rfl dX10_apart_18 e14 ?_
  refine hx_iload_n C dX10_apart_21 rfl (lv_at hl 2 rfl) ?_
  refine hx_iald (n := (Int32.toNatClampNeg a1)) C g15 g16 rfl dX10_apart_22 ?_
  refine hx_aload_n C dX10_apart_23 rfl (lv_at hl 1 rfl) ?_
  refine hx_getr C (ci := 10) (j := 0) g12 uX10_apart_10 (by decide) rfl (by decide) rfl (by decide +kernel) rfl dX10_apart_24 e14 ?_
  refine hx_iconst (v := 4) C dX10_apart_27 (by decide) ?_
  refine hx_iload_n C dX10_apart_28 rfl (lv_at hl 2 rfl) ?_
  refine hx_iadd C dX10_apart_29 ?_
  refine hx_iald (n := (Int32.toNatClampNeg (4 + a1))) C g15 g17 rfl dX10_apart_30 ?_
  refine hx_iadd C dX10_apart_31 ?_
  refine hx_istore (lv' := [(5, .int ((X.1 q13 (Int32.toNatClampNeg a1)) + (X.1 q13 (Int32.toNatClampNeg (4 + a1))))), (4, .int ((X.1 q13 (Int32.toNatClampNeg a1)) - (X.1 q13 (Int32.toNatClampNeg (4 + a1))))), (0, .ref (ad this)), (1, .int a1), (2, .int a2), (3, .int a3)]) C dX10_apart_32 hl (by decide) rfl (fun ls hl => ?_)
  refine hx_iconst (v := 0) C dX10_apart_34 (by decide) ?_
  refine hx_istore (lv' := [(6, .int 0), (5, .int ((X.1 q13 (Int32.toNatClampNeg a1)) + (X.1 q13 (Int32.toNatClampNeg (4 + a1))))), (4, .int ((X.1 q13 (Int32.toNatClampNeg a1)) - (X.1 q13 (Int32.toNatClampNeg (4 + a1))))), (0, .ref (ad this)), (1, .int a1), (2, .int a2), (3, .int a3)]) C dX10_apart_35 hl (by decide) rfl (fun ls hl => ?_)
  exact w_X10_apart_37 C hr u_fuel this a2 a3 ((X.1 q13 (Int32.toNatClampNeg a1)) - (X.1 q13 (Int32.toNatClampNeg (4 + a1)))) ((X.1 q13 (Int32.toNatClampNeg a1)) + (X.1 q13 (Int32.toNatClampNeg (4 + a1)))) 0 X ls h (lv_sub hl [3, 5, 6, 2, 1, 0] rfl)
theorem uX5_sell_5 : ∀ w ∈ u_ws RX5 TX5 7, w ∈ wsX5_sell := by decide +kernel
def f_X5_sell (L : hL) (X : hX) (this : Nat) (a1 : Int32) : Option (hX) :=
  if tk L this 5 then
  (f_X9_quotient L (smi (smi X this 2 ((X.1 this 2) - a1)) this 5 (((smi X this 2 ((X.1 this 2) - a1)).1 this 5) + (a1 * ((smi X this 2 ((X.1 this 2) - a1)).1 this 1)))) ((smi (smi X this 2 ((X.1 this 2) - a1)) this 5 (((smi X this 2 ((X.1 this 2) - a1)).1 this 5) + (a1 * ((smi X this 2 ((X.1 this 2) - a1)).1 this 1)))).1 this 5) ((smi (smi X this 2 ((X.1 this 2) - a1)) this 5 (((smi X this 2 ((X.1 this 2) - a1)).1 this 5) + (a1 * ((smi X this 2 ((X.1 this 2) - a1)).1 this 1)))).1 this 3)).bind fun r2 =>
  (f_X9_quotient L (smi (smi (smi (smi X this 2 ((X.1 this 2) - a1)) this 5 (((smi X this 2 ((X.1 this 2) - a1)).1 this 5) + (a1 * ((smi X this 2 ((X.1 this 2) - a1)).1 this 1)))) this 5 (((smi (smi X this 2 ((X.1 this 2) - a1)) this 5 (((smi X this 2 ((X.1 this 2) - a1)).1 this 5) + (a1 * ((smi X this 2 ((X.1 this 2) - a1)).1 this 1)))).1 this 5) - (r2 * ((smi (smi X this 2 ((X.1 this 2) - a1)) this 5 (((smi X this 2 ((X.1 this 2) - a1)).1 this 5) + (a1 * ((smi X this 2 ((X.1 this 2) - a1)).1 this 1)))).1 this 3)))) this 6 (((smi (smi (smi X this 2 ((X.1 this 2) - a1)) this 5 (((smi X this 2 ((X.1 this 2) - a1)).1 this 5) + (a1 * ((smi X this 2 ((X.1 this 2) - a1)).1 this 1)))) this 5 (((smi (smi X this 2 ((X.1 this 2) - a1)) this 5 (((smi X this 2 ((X.1 this 2) - a1)).1 this 5) + (a1 * ((smi X this 2 ((X.1 this 2) - a1)).1 this 1)))).1 this 5) - (r2 * ((smi (smi X this 2 ((X.1 this 2) - a1)) this 5 (((smi X this 2 ((X.1 this 2) - a1)).1 this 5) + (a1 * ((smi X this 2 ((X.1 this 2) - a1)).1 this 1)))).1 this 3)))).1 this 6) + r2)) ((smi (smi (smi (smi X this 2 ((X.1 this 2) - a1)) this 5 (((smi X this 2 ((X.1 this 2) - a1)).1 this 5) + (a1 * ((smi X this 2 ((X.1 this 2) - a1)).1 this 1)))) this 5 (((smi (smi X this 2 ((X.1 this 2) - a1)) this 5 (((smi X this 2 ((X.1 this 2) - a1)).1 this 5) + (a1 * ((smi X this 2 ((X.1 this 2) - a1)).1 this 1)))).1 this 5) - (r2 * ((smi (smi X this 2 ((X.1 this 2) - a1)) this 5 (((smi X this 2 ((X.1 this 2) - a1)).1 this 5) + (a1 * ((smi X this 2 ((X.1 this 2) - a1)).1 this 1)))).1 this 3)))) this 6 (((smi (smi (smi X this 2 ((X.1 this 2) - a1)) this 5 (((smi X this 2 ((X.1 this 2) - a1)).1 this 5) + (a1 * ((smi X this 2 ((X.1 this 2) - a1)).1 this 1)))) this 5 (((smi (smi X this 2 ((X.1 this 2) - a1)) this 5 (((smi X this 2 ((X.1 this 2) - a1)).1 this 5) + (a1 * ((smi X this 2 ((X.1 this 2) - a1)).1 this 1)))).1 this 5) - (r2 * ((smi (smi X this 2 ((X.1 this 2) - a1)) this 5 (((smi X this 2 ((X.1 this 2) - a1)).1 this 5) + (a1 * ((smi X this 2 ((X.1 this 2) - a1)).1 this 1)))).1 this 3)))).1 this 6) + r2)).1 this 4) ((smi (smi (smi (smi X this 2 ((X.1 this 2) - a1)) this 5 (((smi X this 2 ((X.1 this 2) - a1)).1 this 5) + (a1 * ((smi X this 2 ((X.1 this 2) - a1)).1 this 1)))) this 5 (((smi (smi X this 2 ((X.1 this 2) - a1)) this 5 (((smi X this 2 ((X.1 this 2) - a1)).1 this 5) + (a1 * ((smi X this 2 ((X.1 this 2) - a1)).1 this 1)))).1 this 5) - (r2 * ((smi (smi X this 2 ((X.1 this 2) - a1)) this 5 (((smi X this 2 ((X.1 this 2) - a1)).1 this 5) + (a1 * ((smi X this 2 ((X.1 this 2) - a1)).1 this 1)))).1 this 3)))) this 6 (((smi (smi (smi X this 2 ((X.1 this 2) - a1)) this 5 (((smi X this 2 ((X.1 this 2) - a1)).1 this 5) + (a1 * ((smi X this 2 ((X.1 this 2) - a1)).1 this 1)))) this 5 (((smi (smi X this 2 ((X.1 this 2) - a1)) this 5 (((smi X this 2 ((X.1 this 2) - a1)).1 this 5) + (a1 * ((smi X this 2 ((X.1 this 2) - a1)).1 this 1)))).1 this 5) - (r2 * ((smi (smi X this 2 ((X.1 this 2) - a1)) this 5 (((smi X this 2 ((X.1 this 2) - a1)).1 this 5) + (a1 * ((smi X this 2 ((X.1 this 2) - a1)).1 this 1)))).1 this 3)))).1 this 6) + r2)).1 this 1)).bind fun r4 =>
  some (smi (smi (smi (smi (smi X this 2 ((X.1 this 2) - a1)) this 5 (((smi X this 2 ((X.1 this 2) - a1)).1 this 5) + (a1 * ((smi X this 2 ((X.1 this 2) - a1)).1 this 1)))) this 5 (((smi (smi X this 2 ((X.1 this 2) - a1)) this 5 (((smi X this 2 ((X.1 this 2) - a1)).1 this 5) + (a1 * ((smi X this 2 ((X.1 this 2) - a1)).1 this 1)))).1 this 5) - (r2 * ((smi (smi X this 2 ((X.1 this 2) - a1)) this 5 (((smi X this 2 ((X.1 this 2) - a1)).1 this 5) + (a1 * ((smi X this 2 ((X.1 this 2) - a1)).1 this 1)))).1 this 3)))) this 6 (((smi (smi (smi X this 2 ((X.1 this 2) - a1)) this 5 (((smi X this 2 ((X.1 this 2) - a1)).1 this 5) + (a1 * ((smi X this 2 ((X.1 this 2) - a1)).1 this 1)))) this 5 (((smi (smi X this 2 ((X.1 this 2) - a1)) this 5 (((smi X this 2 ((X.1 this 2) - a1)).1 this 5) + (a1 * ((smi X this 2 ((X.1 this 2) - a1)).1 this 1)))).1 this 5) - (r2 * ((smi (smi X this 2 ((X.1 this 2) - a1)) this 5 (((smi X this 2 ((X.1 this 2) - a1)).1 this 5) + (a1 * ((smi X this 2 ((X.1 this 2) - a1)).1 this 1)))).1 this 3)))).1 this 6) + r2)) this 2 (Int64.toInt32 (if ((Int32.toInt64 ((smi (smi (smi (smi X this 2 ((X.1 this 2) - a1)) this 5 (((smi X this 2 ((X.1 this 2) - a1)).1 this 5) + (a1 * ((smi X this 2 ((X.1 this 2) - a1)).1 this 1)))) this 5 (((smi (smi X this 2 ((X.1 this 2) - a1)) this 5 (((smi X this 2 ((X.1 this 2) - a1)).1 this 5) + (a1 * ((smi X this 2 ((X.1 this 2) - a1)).1 this 1)))).1 this 5) - (r2 * ((smi (smi X this 2 ((X.1 this 2) - a1)) this 5 (((smi X this 2 ((X.1 this 2) - a1)).1 this 5) + (a1 * ((smi X this 2 ((X.1 this 2) - a1)).1 this 1)))).1 this 3)))) this 6 (((smi (smi (smi X this 2 ((X.1 this 2) - a1)) this 5 (((smi X this 2 ((X.1 this 2) - a1)).1 this 5) + (a1 * ((smi X this 2 ((X.1 this 2) - a1)).1 this 1)))) this 5 (((smi (smi X this 2 ((X.1 this 2) - a1)) this 5 (((smi X this 2 ((X.1 this 2) - a1)).1 this 5) + (a1 * ((smi X this 2 ((X.1 this 2) - a1)).1 this 1)))).1 this 5) - (r2 * ((smi (smi X this 2 ((X.1 this 2) - a1)) this 5 (((smi X this 2 ((X.1 this 2) - a1)).1 this 5) + (a1 * ((smi X this 2 ((X.1 this 2) - a1)).1 this 1)))).1 this 3)))).1 this 6) + r2)).1 this 2)) + ((Int32.toInt64 r2) * (Int32.toInt64 r4))) < 99 then ((Int32.toInt64 ((smi (smi (smi (smi X this 2 ((X.1 this 2) - a1)) this 5 (((smi X this 2 ((X.1 this 2) - a1)).1 this 5) + (a1 * ((smi X this 2 ((X.1 this 2) - a1)).1 this 1)))) this 5 (((smi (smi X this 2 ((X.1 this 2) - a1)) this 5 (((smi X this 2 ((X.1 this 2) - a1)).1 this 5) + (a1 * ((smi X this 2 ((X.1 this 2) - a1)).1 this 1)))).1 this 5) - (r2 * ((smi (smi X this 2 ((X.1 this 2) - a1)) this 5 (((smi X this 2 ((X.1 this 2) - a1)).1 this 5) + (a1 * ((smi X this 2 ((X.1 this 2) - a1)).1 this 1)))).1 this 3)))) this 6 (((smi (smi (smi X this 2 ((X.1 this 2) - a1)) this 5 (((smi X this 2 ((X.1 this 2) - a1)).1 this 5) + (a1 * ((smi X this 2 ((X.1 this 2) - a1)).1 this 1)))) this 5 (((smi (smi X this 2 ((X.1 this 2) - a1)) this 5 (((smi X this 2 ((X.1 this 2) - a1)).1 this 5) + (a1 * ((smi X this 2 ((X.1 this 2) - a1)).1 this 1)))).1 this 5) - (r2 * ((smi (smi X this 2 ((X.1 this 2) - a1)) this 5 (((smi X this 2 ((X.1 this 2) - a1)).1 this 5) + (a1 * ((smi X this 2 ((X.1 this 2) - a1)).1 this 1)))).1 this 3)))).1 this 6) + r2)).1 this 2)) + ((Int32.toInt64 r2) * (Int32.toInt64 r4))) else 99)))
  else none
set_option maxRecDepth 100000 in
set_option maxHeartbeats 4000000 in
theorem c_X5_sell {l : Launch} {dC : Nat → ClassId} {dI : Nat → Nat → Nat} {cy : Nat → ClassId} {ad : Nat → Nat} {L : hL} {X : hX} {this : Nat} {a1 : Int32} {X' : hX} (h : f_X5_sell L X this a1 = some X') : hMet l dC dI cy ad L yX5_sell wsX5_sell ({ frames := 2, cells := 0, slots := 0, locals := 43 } : Room) [.ref (ad this), .int a1] X none X' := by
  unfold f_X5_sell at h
  refine hx_enter RX5 (by decide) rfl rfl (Nat.le_of_ble_eq_true rfl) (fun p e s m args below meth c C hr hnm ls hl => ?_)
  have hl : lv_has ls 3 [(0, .ref (ad this)), (1, .int a1)] := hl
  refine hx_aload_n C dX5_sell_0 rfl (lv_at hl 0 rfl) ?_
  refine hx_dup C dX5_sell_1 rfl ?_
  obtain ⟨g1, h⟩ := hx_gd h
  refine hx_geti C (ci := 5) (j := 2) g1 uX5_sell_5 (by decide) rfl (by decide) rfl (by decide +kernel) rfl dX5_sell_2 ?_
  refine hx_iload_n C dX5_sell_5 rfl (lv_at hl 1 rfl) ?_
  refine hx_isub C dX5_sell_6 ?_
  refine hx_puti C (ci := 5) (j := 2) tyX5 tyX5_ok nmX5 g1 uX5_sell_5 (by decide) rfl (by decide) rfl (by decide +kernel) rfl rfl (by decide +kernel) dX5_sell_7 rfl rfl ?_
  refine hx_aload_n C dX5_sell_10 rfl (lv_at hl 0 rfl) ?_
  refine hx_dup C dX5_sell_11 rfl ?_
  refine hx_geti C (ci := 5) (j := 5) g1 uX5_sell_5 (by decide) rfl (by decide) rfl (by decide +kernel) rfl dX5_sell_12 ?_
  refine hx_iload_n C dX5_sell_15 rfl (lv_at hl 1 rfl) ?_
  refine hx_aload_n C dX5_sell_16 rfl (lv_at hl 0 rfl) ?_
  refine hx_geti C (ci := 5) (j := 1) g1 uX5_sell_5 (by decide) rfl (by decide) rfl (by decide +kernel) rfl dX5_sell_17 ?_
  refine hx_imul C dX5_sell_20 ?_
  refine hx_iadd C dX5_sell_21 ?_
  refine hx_puti C (ci := 5) (j := 5) tyX5 tyX5_ok nmX5 g1 uX5_sell_5 (by decide) rfl (by decide) rfl (by decide +kernel) rfl rfl (by decide +kernel) dX5_sell_22 rfl rfl ?_
  refine hx_aload_n C dX5_sell_25 rfl (lv_at hl 0 rfl) ?_
  refine hx_geti C (ci := 5) (j := 5) g1 uX5_sell_5 (by decide) rfl (by decide) rfl (by decide +kernel) rfl dX5_sell_26 ?_
  refine hx_aload_n C dX5_sell_29 rfl (lv_at hl 0 rfl) ?_
  refine hx_geti C (ci := 5) (j := 3) g1 uX5_sell_5 (by decide) rfl (by decide) rfl (by decide +kernel) rfl dX5_sell_30 ?_
  obtain ⟨r2, e3, h⟩ := hx_bind h
  refine hx_callSN (As := [.int ((smi (smi X this 2 ((X.1 this 2) - a1)) this 5 (((smi X this 2 ((X.1 this 2) - a1)).1 this 5) + (a1 * ((smi X this 2 ((X.1 this 2) - a1)).1 this 1)))).1 this 5), .int ((smi (smi X this 2 ((X.1 this 2) - a1)) this 5 (((smi X this 2 ((X.1 this 2) - a1)).1 this 5) + (a1 * ((smi X this 2 ((X.1 this 2) - a1)).1 this 1)))).1 this 3)]) (rest := []) (n := 2) (host := "TicketScales") C (c_X9_quotient e3) gX5_sell_X9_quotient_n33 (by decide) (by decide +kernel) (by decide +kernel) (by decide +kernel) ⟨Nat.le_of_ble_eq_true rfl, Nat.le_of_ble_eq_true rfl⟩ rfl rfl rfl ⟨Nat.zero_le _, Nat.zero_le _⟩ hl.1 rfl rfl (by decide) dX5_sell_33 ?_
  refine hx_istore_n (lv' := [(2, .int r2), (0, .ref (ad this)), (1, .int a1)]) C dX5_sell_36 rfl hl (by decide) rfl (fun ls hl => ?_)
  refine hx_aload_n C dX5_sell_37 rfl (lv_at hl 1 rfl) ?_
  refine hx_dup C dX5_sell_38 rfl ?_
  refine hx_geti C (ci := 5) (j := 5) g1 uX5_sell_5 (by decide) rfl (by decide) rfl (by decide +kernel) rfl dX5_sell_39 ?_
  refine hx_iload_n C dX5_sell_42 rfl (lv_at hl 0 rfl) ?_
  refine hx_aload_n C dX5_sell_43 rfl (lv_at hl 1 rfl) ?_
  refine hx_geti C (ci := 5) (j := 3) g1 uX5_sell_5 (by decide) rfl (by decide) rfl (by decide +kernel) rfl dX5_sell_44 ?_
  refine hx_imul C dX5_sell_47 ?_
  refine hx_isub C dX5_sell_48 ?_
  refine hx_puti C (ci := 5) (j := 5) tyX5 tyX5_ok nmX5 g1 uX5_sell_5 (by decide) rfl (by decide) rfl (by decide +kernel) rfl rfl (by decide +kernel) dX5_sell_49 rfl rfl ?_
  refine hx_aload_n C dX5_sell_52 rfl (lv_at hl 1 rfl) ?_
  refine hx_dup C dX5_sell_53 rfl ?_
  refine hx_geti C (ci := 5) (j := 6) g1 uX5_sell_5 (by decide) rfl (by decide) rfl (by decide +kernel) rfl dX5_sell_54 ?_
  refine hx_iload_n C dX5_sell_57 rfl (lv_at hl 0 rfl) ?_
  refine hx_iadd C dX5_sell_58 ?_
  refine hx_puti C (ci := 5) (j := 6) tyX5 tyX5_ok nmX5 g1 uX5_sell_5 (by decide) rfl (by decide) rfl (by decide +kernel) rfl rfl (by decide +kernel) dX5_sell_59 rfl rfl ?_
  refine hx_aload_n C dX5_sell_62 rfl (lv_at hl 1 rfl) ?_
  refine hx_ldc2 (v := 99) C (by decide +kernel) dX5_sell_63 ?_
  refine hx_aload_n C dX5_sell_66 rfl (lv_at hl 1 rfl) ?_
  refine hx_geti C (ci := 5) (j := 2) g1 uX5_sell_5 (by decide) rfl (by decide) rfl (by decide +kernel) rfl dX5_sell_67 ?_
  refine hx_i2l C dX5_sell_70 ?_
  refine hx_iload_n C dX5_sell_71 rfl (lv_at hl 0 rfl) ?_
  refine hx_i2l C dX5_sell_72 ?_
  refine hx_aload_n C dX5_sell_73 rfl (lv_at hl 1 rfl) ?_
  refine hx_geti C (ci := 5) (j := 4) g1 uX5_sell_5 (by decide) rfl (by decide) rfl (by decide +kernel) rfl dX5_sell_74 ?_
  refine hx_aload_n C dX5_sell_77 rfl (lv_at hl 1 rfl) ?_
  refine hx_geti C (ci := 5) (j := 1) g1 uX5_sell_5 (by decide) rfl (by decide) rfl (by decide +kernel) rfl dX5_sell_78 ?_
  obtain ⟨r4, e5, h⟩ := hx_bind h
  refine hx_callSN (As := [.int ((smi (smi (smi (smi X this 2 ((X.1 this 2) - a1)) this 5 (((smi X this 2 ((X.1 this 2) - a1)).1 this 5) + (a1 * ((smi X this 2 ((X.1 this 2) - a1)).1 this 1)))) this 5 (((smi (smi X this 2 ((X.1 this 2) - a1)) this 5 (((smi X this 2 ((X.1 this 2) - a1)).1 this 5) + (a1 * ((smi X this 2 ((X.1 this 2) - a1)).1 this 1)))).1 this 5) - (r2 * ((smi (smi X this 2 ((X.1 this 2) - a1)) this 5 (((smi X this 2 ((X.1 this 2) - a1)).1 this 5) + (a1 * ((smi X this 2 ((X.1 this 2) - a1)).1 this 1)))).1 this 3)))) this 6 (((smi (smi (smi X this 2 ((X.1 this 2) - a1)) this 5 (((smi X this 2 ((X.1 this 2) - a1)).1 this 5) + (a1 * ((smi X this 2 ((X.1 this 2) - a1)).1 this 1)))) this 5 (((smi (smi X this 2 ((X.1 this 2) - a1)) this 5 (((smi X this 2 ((X.1 this 2) - a1)).1 this 5) + (a1 * ((smi X this 2 ((X.1 this 2) - a1)).1 this 1)))).1 this 5) - (r2 * ((smi (smi X this 2 ((X.1 this 2) - a1)) this 5 (((smi X this 2 ((X.1 this 2) - a1)).1 this 5) + (a1 * ((smi X this 2 ((X.1 this 2) - a1)).1 this 1)))).1 this 3)))).1 this 6) + r2)).1 this 4), .int ((smi (smi (smi (smi X this 2 ((X.1 this 2) - a1)) this 5 (((smi X this 2 ((X.1 this 2) - a1)).1 this 5) + (a1 * ((smi X this 2 ((X.1 this 2) - a1)).1 this 1)))) this 5 (((smi (smi X this 2 ((X.1 this 2) - a1)) this 5 (((smi X this 2 ((X.1 this 2) - a1)).1 this 5) + (a1 * ((smi X this 2 ((X.1 this 2) - a1)).1 this 1)))).1 this 5) - (r2 * ((smi (smi X this 2 ((X.1 this 2) - a1)) this 5 (((smi X this 2 ((X.1 this 2) - a1)).1 this 5) + (a1 * ((smi X this 2 ((X.1 this 2) - a1)).1 this 1)))).1 this 3)))) this 6 (((smi (smi (smi X this 2 ((X.1 this 2) - a1)) this 5 (((smi X this 2 ((X.1 this 2) - a1)).1 this 5) + (a1 * ((smi X this 2 ((X.1 this 2) - a1)).1 this 1)))) this 5 (((smi (smi X this 2 ((X.1 this 2) - a1)) this 5 (((smi X this 2 ((X.1 this 2) - a1)).1 this 5) + (a1 * ((smi X this 2 ((X.1 this 2) - a1)).1 this 1)))).1 this 5) - (r2 * ((smi (smi X this 2 ((X.1 this 2) - a1)) this 5 (((smi X this 2 ((X.1 this 2) - a1)).1 this 5) + (a1 * ((smi X this 2 ((X.1 this 2) - a1)).1 this 1)))).1 this 3)))).1 this 6) + r2)).1 this 1)]) (rest := [.long (Int32.toInt64 r2), .long (Int32.toInt64 ((smi (smi (smi (smi X this 2 ((X.1 this 2) - a1)) this 5 (((smi X this 2 ((X.1 this 2) - a1)).1 this 5) + (a1 * ((smi X this 2 ((X.1 this 2) - a1)).1 this 1)))) this 5 (((smi (smi X this 2 ((X.1 this 2) - a1)) this 5 (((smi X this 2 ((X.1 this 2) - a1)).1 this 5) + (a1 * ((smi X this 2 ((X.1 this 2) - a1)).1 this 1)))).1 this 5) - (r2 * ((smi (smi X this 2 ((X.1 this 2) - a1)) this 5 (((smi X this 2 ((X.1 this 2) - a1)).1 this 5) + (a1 * ((smi X this 2 ((X.1 this 2) - a1)).1 this 1)))).1 this 3)))) this 6 (((smi (smi (smi X this 2 ((X.1 this 2) - a1)) this 5 (((smi X this 2 ((X.1 this 2) - a1)).1 this 5) + (a1 * ((smi X this 2 ((X.1 this 2) - a1)).1 this 1)))) this 5 (((smi (smi X this 2 ((X.1 this 2) - a1)) this 5 (((smi X this 2 ((X.1 this 2) - a1)).1 this 5) + (a1 * ((smi X this 2 ((X.1 this 2) - a1)).1 this 1)))).1 this 5) - (r2 * ((smi (smi X this 2 ((X.1 this 2) - a1)) this 5 (((smi X this 2 ((X.1 this 2) - a1)).1 this 5) + (a1 * ((smi X this 2 ((X.1 this 2) - a1)).1 this 1)))).1 this 3)))).1 this 6) + r2)).1 this 2)), .long 99, .ref (ad this)]) (n := 2) (host := "TicketScales") C (c_X9_quotient e5) gX5_sell_X9_quotient_n33 (by decide) (by decide +kernel) (by decide +kernel) (by decide +kernel) ⟨Nat.le_of_ble_eq_true rfl, Nat.le_of_ble_eq_true rfl⟩ rfl rfl rfl ⟨Nat.zero_le _, Nat.zero_le _⟩ hl.1 rfl rfl (by decide) dX5_sell_81 ?_
  refine hx_i2l C dX5_sell_84 ?_
  refine hx_lmul C dX5_sell_85 ?_
  refine hx_ladd C dX5_sell_86 ?_
  refine hx_mminl C (by decide +kernel) (by decide +kernel) (by decide +kernel) (by decide +kernel) hl.1 (Nat.le_of_ble_eq_true rfl) (Nat.le_of_ble_eq_true rfl) (Nat.zero_le _) (Nat.zero_le _) dX5_sell_87 ?_
  refine hx_l2i C dX5_sell_90 ?_
  refine hx_puti C (ci := 5) (j := 2) tyX5 tyX5_ok nmX5 g1 uX5_sell_5 (by decide) rfl (by decide) rfl (by decide +kernel) rfl rfl (by decide +kernel) dX5_sell_91 rfl rfl ?_
  cases h
  exact hx_vret C hr dX5_sell_94
def f_X10_stocked (L : hL) (X : hX) (a1 : Int32) (a2 : Int32) (a3 : Int32) : Option (Int32) :=
  if (lg_cmp ((Int32.toInt64 a1) + ((Int32.toInt64 a2) * (Int32.toInt64 a3))) 99) ≤ 0 then
    some (Int64.toInt32 ((Int32.toInt64 a1) + ((Int32.toInt64 a2) * (Int32.toInt64 a3))))
  else
    some 99
set_option maxRecDepth 100000 in
set_option maxHeartbeats 4000000 in
theorem c_X10_stocked {l : Launch} {dC : Nat → ClassId} {dI : Nat → Nat → Nat} {cy : Nat → ClassId} {ad : Nat → Nat} {L : hL} {X : hX} {a1 : Int32} {a2 : Int32} {a3 : Int32} {r : Int32} (h : f_X10_stocked L X a1 a2 a3 = some r) : hMet l dC dI cy ad L yX10_stocked wsX10_stocked ({ frames := 0, cells := 0, slots := 0, locals := 0 } : Room) [.int a1, .int a2, .int a3] X (some (.int r)) X := by
  unfold f_X10_stocked at h
  refine hx_enter RX10 (by decide) rfl rfl (Nat.le_of_ble_eq_true rfl) (fun p e s m args below meth c C hr hnm ls hl => ?_)
  have hl : lv_has ls 5 [(0, .int a1), (1, .int a2), (2, .int a3)] := hl
  refine hx_iload_n C dX10_stocked_0 rfl (lv_at hl 0 rfl) ?_
  refine hx_i2l C dX10_stocked_1 ?_
  refine hx_iload_n C dX10_stocked_2 rfl (lv_at hl 1 rfl) ?_
  refine hx_i2l C dX10_stocked_3 ?_
  refine hx_iload_n C dX10_stocked_4 rfl (lv_at hl 2 rfl) ?_
  refine hx_i2l C dX10_stocked_5 ?_
  refine hx_lmul C dX10_stocked_6 ?_
  refine hx_ladd C dX10_stocked_7 ?_
  refine hx_lstore_n (lv' := [(3, .long ((Int32.toInt64 a1) + ((Int32.toInt64 a2) * (Int32.toInt64 a3)))), (0, .int a1), (1, .int a2), (2, .int a3)]) C dX10_stocked_8 rfl hl (by decide) rfl (fun ls hl => ?_)
  refine hx_lload_n C dX10_stocked_9 rfl (lv_at hl 0 rfl) ?_
  refine hx_ldc2 (v := 99) C (by decide +kernel) dX10_stocked_10 ?_
  refine hx_lcmp C dX10_stocked_13 ?_
  refine hx_if_le (tgt := 22) C dX10_stocked_14 (by decide) (fun c1 => ?_) (fun c1 => ?_)
  · have h := hx_pos c1 h
    refine hx_lload_n C dX10_stocked_22 rfl (lv_at hl 0 rfl) ?_
    refine hx_l2i C dX10_stocked_23 ?_
    cases h
    exact hx_iret C hr dX10_stocked_24
  · have h := hx_neg c1 h
    refine hx_bipush (v := 99) C dX10_stocked_17 (by decide) ?_
    refine hx_goto (tgt := 24) C dX10_stocked_19 (by decide) ?_
    cases h
    exact hx_iret C hr dX10_stocked_24
def f_X10_numbers (L : hL) (X : hX) (a1 : Int32) : Option (Int32) :=
  if a1 = 2745 then
    some 3
  else
  if a1 = 114085 then
    some 1
  else
  if a1 = 370116 then
    some 3
  else
  if a1 = 611717 then
    some 1
  else
  if a1 = 3540269 then
    some 2
  else
  if a1 = 17377093 then
    some 5
  else
  if a1 = 20022661 then
    some 2
  else
  if a1 = 24290536 then
    some 3
  else
  some (-1)
set_option maxRecDepth 100000 in
set_option maxHeartbeats 4000000 in
theorem c_X10_numbers {l : Launch} {dC : Nat → ClassId} {dI : Nat → Nat → Nat} {cy : Nat → ClassId} {ad : Nat → Nat} {L : hL} {X : hX} {a1 : Int32} {r : Int32} (h : f_X10_numbers L X a1 = some r) : hMet l dC dI cy ad L yX10_numbers wsX10_numbers ({ frames := 0, cells := 0, slots := 0, locals := 0 } : Room) [.int a1] X (some (.int r)) X := by
  unfold f_X10_numbers at h
  refine hx_enter RX10 (by decide) rfl rfl (Nat.le_of_ble_eq_true rfl) (fun p e s m args below meth c C hr hnm ls hl => ?_)
  have hl : lv_has ls 1 [(0, .int a1)] := hl
  refine hx_iload_n C dX10_numbers_0 rfl (lv_at hl 0 rfl) ?_
  by_cases c1 : a1 = 2745
  · have h := hx_pos c1 h
    have hz : Int32.toInt a1 = 2745 := by rw [c1]; rfl
    refine hx_look (tgt := 80) C [(2745, 79), (114085, 75), (370116, 79), (611717, 75), (3540269, 77), (17377093, 81), (20022661, 77), (24290536, 79)] dX10_numbers_1 rfl (by decide) (by rw [hz]; decide) (by decide) ?_
    refine hx_iconst (v := 3) C dX10_numbers_80 (by decide) ?_
    cases h
    exact hx_iret C hr dX10_numbers_81
  have h := hx_neg c1 h
  have zc1 : Int32.toInt a1 ≠ 2745 := fun z => c1 (Int32.toInt_inj.mp (z.trans rfl))
  by_cases c2 : a1 = 114085
  · have h := hx_pos c2 h
    have hz : Int32.toInt a1 = 114085 := by rw [c2]; rfl
    refine hx_look (tgt := 76) C [(2745, 79), (114085, 75), (370116, 79), (611717, 75), (3540269, 77), (17377093, 81), (20022661, 77), (24290536, 79)] dX10_numbers_1 rfl (by decide) (by rw [hz]; decide) (by decide) ?_
    refine hx_iconst (v := 1) C dX10_numbers_76 (by decide) ?_
    cases h
    exact hx_iret C hr dX10_numbers_77
  have h := hx_neg c2 h
  have zc2 : Int32.toInt a1 ≠ 114085 := fun z => c2 (Int32.toInt_inj.mp (z.trans rfl))
  by_cases c3 : a1 = 370116
  · have h := hx_pos c3 h
    have hz : Int32.toInt a1 = 370116 := by rw [c3]; rfl
    refine hx_look (tgt := 80) C [(2745, 79), (114085, 75), (370116, 79), (611717, 75), (3540269, 77), (17377093, 81), (20022661, 77), (24290536, 79)] dX10_numbers_1 rfl (by decide) (by rw [hz]; decide) (by decide) ?_
    refine hx_iconst (v := 3) C dX10_numbers_80 (by decide) ?_
    cases h
    exact hx_iret C hr dX10_numbers_81
  have h := hx_neg c3 h
  have zc3 : Int32.toInt a1 ≠ 370116 := fun z => c3 (Int32.toInt_inj.mp (z.trans rfl))
  by_cases c4 : a1 = 611717
  · have h := hx_pos c4 h
    have hz : Int32.toInt a1 = 611717 := by rw [c4]; rfl
    refine hx_look (tgt := 76) C [(2745, 79), (114085, 75), (370116, 79), (611717, 75), (3540269, 77), (17377093, 81), (20022661, 77), (24290536, 79)] dX10_numbers_1 rfl (by decide) (by rw [hz]; decide) (by decide) ?_
    refine hx_iconst (v := 1) C dX10_numbers_76 (by decide) ?_
    cases h
    exact hx_iret C hr dX10_numbers_77
  have h := hx_neg c4 h
  have zc4 : Int32.toInt a1 ≠ 611717 := fun z => c4 (Int32.toInt_inj.mp (z.trans rfl))
  by_cases c5 : a1 = 3540269
  · have h := hx_pos c5 h
    have hz : Int32.toInt a1 = 3540269 := by rw [c5]; rfl
    refine hx_look (tgt := 78) C [(2745, 79), (114085, 75), (370116, 79), (611717, 75), (3540269, 77), (17377093, 81), (20022661, 77), (24290536, 79)] dX10_numbers_1 rfl (by decide) (by rw [hz]; decide) (by decide) ?_
    refine hx_iconst (v := 2) C dX10_numbers_78 (by decide) ?_
    cases h
    exact hx_iret C hr dX10_numbers_79
  have h := hx_neg c5 h
  have zc5 : Int32.toInt a1 ≠ 3540269 := fun z => c5 (Int32.toInt_inj.mp (z.trans rfl))
  by_cases c6 : a1 = 17377093
  · have h := hx_pos c6 h
    have hz : Int32.toInt a1 = 17377093 := by rw [c6]; rfl
    refine hx_look (tgt := 82) C [(2745, 79), (114085, 75), (370116, 79), (611717, 75), (3540269, 77), (17377093, 81), (20022661, 77), (24290536, 79)] dX10_numbers_1 rfl (by decide) (by rw [hz]; decide) (by decide) ?_
    refine hx_iconst (v := 5) C dX10_numbers_82 (by decide) ?_
    cases h
    exact hx_iret C hr dX10_numbers_83
  have h := hx_neg c6 h
  have zc6 : Int32.toInt a1 ≠ 17377093 := fun z => c6 (Int32.toInt_inj.mp (z.trans rfl))
  by_cases c7 : a1 = 20022661
  · have h := hx_pos c7 h
    have hz : Int32.toInt a1 = 20022661 := by rw [c7]; rfl
    refine hx_look (tgt := 78) C [(2745, 79), (114085, 75), (370116, 79), (611717, 75), (3540269, 77), (17377093, 81), (20022661, 77), (24290536, 79)] dX10_numbers_1 rfl (by decide) (by rw [hz]; decide) (by decide) ?_
    refine hx_iconst (v := 2) C dX10_numbers_78 (by decide) ?_
    cases h
    exact hx_iret C hr dX10_numbers_79
  have h := hx_neg c7 h
  have zc7 : Int32.toInt a1 ≠ 20022661 := fun z => c7 (Int32.toInt_inj.mp (z.trans rfl))
  by_cases c8 : a1 = 24290536
  · have h := hx_pos c8 h
    have hz : Int32.toInt a1 = 24290536 := by rw [c8]; rfl
    refine hx_look (tgt := 80) C [(2745, 79), (114085, 75), (370116, 79), (611717, 75), (3540269, 77), (17377093, 81), (20022661, 77), (24290536, 79)] dX10_numbers_1 rfl (by decide) (by rw [hz]; decide) (by decide) ?_
    refine hx_iconst (v := 3) C dX10_numbers_80 (by decide) ?_
    cases h
    exact hx_iret C hr dX10_numbers_81
  have h := hx_neg c8 h
  have zc8 : Int32.toInt a1 ≠ 24290536 := fun z => c8 (Int32.toInt_inj.mp (z.trans rfl))
  refine hx_look (tgt := 84) C [(2745, 79), (114085, 75), (370116, 79), (611717, 75), (3540269, 77), (17377093, 81), (20022661, 77), (24290536, 79)] dX10_numbers_1 rfl (by decide) (by simp only [Op.lookupswitch.offset, if_neg (Ne.symm zc1), if_neg (Ne.symm zc2), if_neg (Ne.symm zc3), if_neg (Ne.symm zc4), if_neg (Ne.symm zc5), if_neg (Ne.symm zc6), if_neg (Ne.symm zc7), if_neg (Ne.symm zc8)]) (by decide) ?_
  refine hx_iconst (v := (-1)) C dX10_numbers_84 (by decide) ?_
  cases h
  exact hx_iret C hr dX10_numbers_85
